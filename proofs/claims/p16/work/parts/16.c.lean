theorem dX7_wordAt_0 : decode cX7_wordAt 0 = .ok (.iload_n 1, 1) := by decide +kernel
theorem dX7_wordAt_1 : decode cX7_wordAt 1 = .ok (.sipush 3999, 3) := by decide +kernel
theorem dX7_wordAt_10 : decode cX7_wordAt 10 = .ok (.iload_n 2, 1) := by decide +kernel
theorem dX7_wordAt_11 : decode cX7_wordAt 11 = .ok (.aload_n 0, 1) := by decide +kernel
theorem dX7_wordAt_12 : decode cX7_wordAt 12 = .ok (.getfield 9, 3) := by decide +kernel
theorem dX7_wordAt_15 : decode cX7_wordAt 15 = .ok (.getfield 32, 3) := by decide +kernel
theorem dX7_wordAt_18 : decode cX7_wordAt 18 = .ok (.arraylength, 1) := by decide +kernel
theorem dX7_wordAt_19 : decode cX7_wordAt 19 = .ok (.if_icmp .ge 15, 3) := by decide +kernel
theorem dX7_wordAt_22 : decode cX7_wordAt 22 = .ok (.aload_n 0, 1) := by decide +kernel
theorem dX7_wordAt_23 : decode cX7_wordAt 23 = .ok (.getfield 9, 3) := by decide +kernel
theorem dX7_wordAt_26 : decode cX7_wordAt 26 = .ok (.getfield 32, 3) := by decide +kernel
theorem dX7_wordAt_29 : decode cX7_wordAt 29 = .ok (.iload_n 2, 1) := by decide +kernel
theorem dX7_wordAt_30 : decode cX7_wordAt 30 = .ok (.iaload, 1) := by decide +kernel
theorem dX7_wordAt_31 : decode cX7_wordAt 31 = .ok (.goto 4, 3) := by decide +kernel
theorem dX7_wordAt_34 : decode cX7_wordAt 34 = .ok (.iconst 0, 1) := by decide +kernel
theorem dX7_wordAt_35 : decode cX7_wordAt 35 = .ok (.ireturn, 1) := by decide +kernel
theorem dX7_wordAt_4 : decode cX7_wordAt 4 = .ok (.iadd, 1) := by decide +kernel
theorem dX7_wordAt_5 : decode cX7_wordAt 5 = .ok (.istore_n 2, 1) := by decide +kernel
theorem dX7_wordAt_6 : decode cX7_wordAt 6 = .ok (.iload_n 2, 1) := by decide +kernel
theorem dX7_wordAt_7 : decode cX7_wordAt 7 = .ok (.ifCond .lt 27, 3) := by decide +kernel
set_option maxHeartbeats 4000000 in
set_option maxRecDepth 100000 in
theorem T_X7_wordAt (l : Launch) (D : va_G) (K : Nat → ClassId) (Z Y : Nat → Nat) (ad : Nat → Nat) (d : dSt) (t : tSt) (hok : okX t) (x1 : Int32) (hx1 : (-1073741824 : Int) ≤ x1.toInt ∧ x1.toInt ≤ 2147483647) : tMet l yX7_wordAt cX7_wordAt 3 (some .int) (rmD 0 0 0) D K Z Y [.ref (ad 6), .int x1] ((WX d) K ad t) (QI D K (fun (r : Int32) (u : Unit) => (-2147483648 : Int) ≤ r.toInt ∧ r.toInt ≤ 2147483647) (fun (_ : Unit) => (WX d) K ad t)) 0 0 := by
  refine t_met RX7 ⟨rfl, by decide +kernel⟩ (Nat.le_of_ble_eq_true rfl) ?_
  intro p e s m below meth c A ls C hE hZ hr hlocks hA hP hD hS hl
  have hl : lv_has ls 3 [(0, .ref (ad 6)), (1, .int x1)] := hl
  refine lv_iload_n C.1 C.2.1 dX7_wordAt_0 rfl (lv_at hl 1 rfl) ?_
  refine lv_sipush (v := 3999) C.1 C.2.1 dX7_wordAt_1 (by decide) ?_
  obtain ⟨v_1, e_2⟩ : ∃ z, z = (x1 : Int32) + (3999 : Int32) := ⟨_, rfl⟩
  refine k_iadd (v := v_1) C e_2.symm dX7_wordAt_4 ?_
  refine lv_istore_n (lv' := [(2, .int v_1), (0, .ref (ad 6)), (1, .int x1)]) C.1 C.2.1 dX7_wordAt_5 rfl hl (by decide) rfl (fun ls hl => ?_)
  have hl : lv_has ls 3 [(0, .ref (ad 6)), (1, .int x1), (2, .int v_1)] := lv_sub hl [1, 2, 0] rfl
  refine lv_iload_n C.1 C.2.1 dX7_wordAt_6 rfl (lv_at hl 2 rfl) ?_
  refine lv_if_lt (tgt := 34) C.1 C.2.1 dX7_wordAt_7 (by decide) (fun c_4 => ?_) (fun c_4 => ?_)
  · replace c_4 : v_1.toInt < 0 := i_lt c_4
    refine lv_iconst (v := 0) C.1 C.2.1 dX7_wordAt_34 (by decide) ?_
    exact g_iret C hr hlocks hP hD hS rfl () rfl ⟨(i_rng _).1, (i_rng _).2⟩ (Nat.le_of_ble_eq_true rfl) (Nat.le_of_ble_eq_true rfl) dX7_wordAt_35
  · replace c_4 : 0 ≤ v_1.toInt := i_nlt c_4
    refine lv_iload_n C.1 C.2.1 dX7_wordAt_10 rfl (lv_at hl 2 rfl) ?_
    refine lv_aload_n C.1 C.2.1 dX7_wordAt_11 rfl (lv_at hl 0 rfl) ?_
    refine k_get (v := .ref (ad 4)) C hP 6 rfl rfl inlX7 0 (by decide) m_6_11 rfl dX7_wordAt_12 ?_
    refine k_get (v := .ref (ad 10)) C hP 4 rfl rfl inlX2 0 (by decide) m_65_18 rfl dX7_wordAt_15 ?_
    refine k_len (v := 7999) C hP 10 0 rfl rfl rfl dX7_wordAt_18 ?_
    refine lv_icmp_ge (tgt := 34) C.1 C.2.1 dX7_wordAt_19 (by decide) (fun c_5 => ?_) (fun c_5 => ?_)
    · replace c_5 : 7999 ≤ v_1.toInt := i_le c_5
      refine lv_iconst (v := 0) C.1 C.2.1 dX7_wordAt_34 (by decide) ?_
      exact g_iret C hr hlocks hP hD hS rfl () rfl ⟨(i_rng _).1, (i_rng _).2⟩ (Nat.le_of_ble_eq_true rfl) (Nat.le_of_ble_eq_true rfl) dX7_wordAt_35
    · replace c_5 : v_1.toInt < 7999 := i_nle c_5
      refine lv_aload_n C.1 C.2.1 dX7_wordAt_22 rfl (lv_at hl 0 rfl) ?_
      refine k_get (v := .ref (ad 4)) C hP 6 rfl rfl inlX7 0 (by decide) m_6_11 rfl dX7_wordAt_23 ?_
      refine k_get (v := .ref (ad 10)) C hP 4 rfl rfl inlX2 0 (by decide) m_65_18 rfl dX7_wordAt_26 ?_
      refine lv_iload_n C.1 C.2.1 dX7_wordAt_29 rfl (lv_at hl 2 rfl) ?_
      obtain ⟨v_6, e_7⟩ : ∃ z, z = (t.2.2.1 10 (v_1 : Int32).toNatClampNeg) := ⟨_, rfl⟩
      refine k_ild (v := v_6) C hP 10 rfl (vp_in_iff.mpr ⟨by omega, by omega⟩) e_7.symm dX7_wordAt_30 ?_
      refine lv_goto (tgt := 35) C.1 C.2.1 dX7_wordAt_31 (by decide) ?_
      exact g_iret C hr hlocks hP hD hS rfl () rfl ⟨(i_rng _).1, (i_rng _).2⟩ (Nat.le_of_ble_eq_true rfl) (Nat.le_of_ble_eq_true rfl) dX7_wordAt_35


set_option maxHeartbeats 4000000 in
set_option maxRecDepth 100000 in
theorem T_X4_mark_2 (l : Launch) (D : va_G) (K : Nat → ClassId) (Z Y : Nat → Nat) (ad : Nat → Nat) (d : dSt) (t : tSt) (hok : okX t) (x1 : Int32) (hx1 : (1 : Int) ≤ x1.toInt ∧ x1.toInt ≤ 2147483647) (x2 : Int32) (hx2 : (0 : Int) ≤ x2.toInt ∧ x2.toInt ≤ 255) : tMet l yX4_mark cX4_mark 3 none (rmD 0 0 0) D K Z Y [.ref (ad 21), .int x1, .int x2] ((WX d) K ad t) (QV D K (fun (u : tSt) => okX u ∧ frA [] [] [40] [] t u) (fun (u : tSt) => (WX d) K ad u)) 0 0 := by
  refine t_met RX4 ⟨rfl, by decide +kernel⟩ (Nat.le_of_ble_eq_true rfl) ?_
  intro p e s m below meth c A ls C hE hZ hr hlocks hA hP hD hS hl
  have hl : lv_has ls 3 [(0, .ref (ad 21)), (1, .int x1), (2, .int x2)] := hl
  have hokt := hok
  have hfr : frA [] [] [40] [] t t := frA_rf
  refine lv_iload_n C.1 C.2.1 dX4_mark_0 rfl (lv_at hl 1 rfl) ?_
  refine lv_iconst (v := 1) C.1 C.2.1 dX4_mark_1 (by decide) ?_
  refine lv_icmp_lt (tgt := 21) C.1 C.2.1 dX4_mark_2 (by decide) (fun c_1 => False.elim (by have c_1 : x1.toInt < 1 := i_lt c_1; omega)) (fun c_1 => ?_)
  replace c_1 : 1 ≤ x1.toInt := i_nlt c_1
  refine lv_iload_n C.1 C.2.1 dX4_mark_5 rfl (lv_at hl 1 rfl) ?_
  refine lv_bipush (v := 120) C.1 C.2.1 dX4_mark_6 (by decide) ?_
  refine lv_icmp_gt (tgt := 21) C.1 C.2.1 dX4_mark_8 (by decide) (fun c_2 => ?_) (fun c_2 => ?_)
  · replace c_2 : 120 < x1.toInt := i_lt c_2
    exact g_vret C hr hlocks hP hD hS t rfl ⟨hok, hfr⟩ (Nat.le_of_ble_eq_true rfl) (Nat.le_of_ble_eq_true rfl) dX4_mark_21
  · replace c_2 : x1.toInt ≤ 120 := i_nlt c_2
    refine lv_aload_n C.1 C.2.1 dX4_mark_11 rfl (lv_at hl 0 rfl) ?_
    refine k_get (v := .ref (ad 40)) C hP 21 rfl rfl inlX4 2 (by decide) m_4_11 rfl dX4_mark_12 ?_
    refine lv_iload_n C.1 C.2.1 dX4_mark_15 rfl (lv_at hl 1 rfl) ?_
    refine lv_iconst (v := 1) C.1 C.2.1 dX4_mark_16 (by decide) ?_
    obtain ⟨v_3, e_4⟩ : ∃ z, z = (x1 : Int32) - (1 : Int32) := ⟨_, rfl⟩
    have h_5 : v_3.toInt = x1.toInt - 1 := by rw [e_4]; exact ti_isub (by show (_ : Int) ≤ x1.toInt - 1; omega) (by show x1.toInt - 1 < (_ : Int); omega)
    refine k_isub (v := v_3) C e_4.symm dX4_mark_17 ?_
    refine lv_iload_n C.1 C.2.1 dX4_mark_18 rfl (lv_at hl 2 rfl) ?_
    obtain ⟨v_6, e_7⟩ : ∃ z, z = (x2 : Int32).toInt8.toInt32 := ⟨_, rfl⟩
    have h_8 : (-128 : Int) ≤ v_6.toInt ∧ v_6.toInt ≤ 127 := by rw [e_7]; exact nar_byte _
    refine lv_i2b (v := v_6) C.1 C.2.1 dX4_mark_19 e_7.symm ?_
    obtain ⟨v_9, e_10⟩ : ∃ z, z = vp_nar .byte v_6 := ⟨_, rfl⟩
    have h_11 : (-128 : Int) ≤ v_9.toInt ∧ v_9.toInt ≤ 127 := by rw [e_10]; exact nar_byte _
    refine k_bst (ws' := (WX d) K ad (uB t 40 (v_3 : Int32).toNatClampNeg v_9)) (x' := v_9) C hP hD hS 40 rfl (vp_in_iff.mpr ⟨by omega, by omega⟩) rfl e_10.symm rfl dX4_mark_20 (fun H locs hP hD hS => ?_)
    have hok : okX (uB t 40 (v_3 : Int32).toNatClampNeg v_9) := ⟨hok.1, okB_B hok.2.1 40 _ v_9 (show (-128 : Int) ≤ (v_9 : Int32).toInt ∧ (v_9 : Int32).toInt ≤ 127 from ⟨by omega, by omega⟩), trivial⟩
    have hfr : frA [] [] [40] [] t (uB t 40 (v_3 : Int32).toNatClampNeg v_9) := frA_B hfr 40 _ _ rfl
    exact g_vret C hr hlocks hP hD hS (uB t 40 (v_3 : Int32).toNatClampNeg v_9) rfl ⟨hok, hfr⟩ (Nat.le_of_ble_eq_true rfl) (Nat.le_of_ble_eq_true rfl) dX4_mark_21

theorem dX10_isAhead_0 : decode cX10_isAhead 0 = .ok (.aload_n 0, 1) := by decide +kernel
theorem dX10_isAhead_1 : decode cX10_isAhead 1 = .ok (.getfield 20, 3) := by decide +kernel
theorem dX10_isAhead_10 : decode cX10_isAhead 10 = .ok (.iload_n 2, 1) := by decide +kernel
theorem dX10_isAhead_11 : decode cX10_isAhead 11 = .ok (.laload, 1) := by decide +kernel
theorem dX10_isAhead_12 : decode cX10_isAhead 12 = .ok (.lcmp, 1) := by decide +kernel
theorem dX10_isAhead_13 : decode cX10_isAhead 13 = .ok (.ifCond .lt 35, 3) := by decide +kernel
theorem dX10_isAhead_16 : decode cX10_isAhead 16 = .ok (.aload_n 0, 1) := by decide +kernel
theorem dX10_isAhead_17 : decode cX10_isAhead 17 = .ok (.getfield 20, 3) := by decide +kernel
theorem dX10_isAhead_20 : decode cX10_isAhead 20 = .ok (.iload_n 1, 1) := by decide +kernel
theorem dX10_isAhead_21 : decode cX10_isAhead 21 = .ok (.laload, 1) := by decide +kernel
theorem dX10_isAhead_22 : decode cX10_isAhead 22 = .ok (.aload_n 0, 1) := by decide +kernel
theorem dX10_isAhead_23 : decode cX10_isAhead 23 = .ok (.getfield 20, 3) := by decide +kernel
theorem dX10_isAhead_26 : decode cX10_isAhead 26 = .ok (.iload_n 2, 1) := by decide +kernel
theorem dX10_isAhead_27 : decode cX10_isAhead 27 = .ok (.laload, 1) := by decide +kernel
theorem dX10_isAhead_28 : decode cX10_isAhead 28 = .ok (.lcmp, 1) := by decide +kernel
theorem dX10_isAhead_29 : decode cX10_isAhead 29 = .ok (.ifCond .ne 23, 3) := by decide +kernel
theorem dX10_isAhead_32 : decode cX10_isAhead 32 = .ok (.aload_n 0, 1) := by decide +kernel
theorem dX10_isAhead_33 : decode cX10_isAhead 33 = .ok (.getfield 24, 3) := by decide +kernel
theorem dX10_isAhead_36 : decode cX10_isAhead 36 = .ok (.iload_n 1, 1) := by decide +kernel
theorem dX10_isAhead_37 : decode cX10_isAhead 37 = .ok (.laload, 1) := by decide +kernel
theorem dX10_isAhead_38 : decode cX10_isAhead 38 = .ok (.aload_n 0, 1) := by decide +kernel
theorem dX10_isAhead_39 : decode cX10_isAhead 39 = .ok (.getfield 24, 3) := by decide +kernel
theorem dX10_isAhead_4 : decode cX10_isAhead 4 = .ok (.iload_n 1, 1) := by decide +kernel
theorem dX10_isAhead_42 : decode cX10_isAhead 42 = .ok (.iload_n 2, 1) := by decide +kernel
theorem dX10_isAhead_43 : decode cX10_isAhead 43 = .ok (.laload, 1) := by decide +kernel
theorem dX10_isAhead_44 : decode cX10_isAhead 44 = .ok (.lcmp, 1) := by decide +kernel
theorem dX10_isAhead_45 : decode cX10_isAhead 45 = .ok (.ifCond .ge 7, 3) := by decide +kernel
theorem dX10_isAhead_48 : decode cX10_isAhead 48 = .ok (.iconst 1, 1) := by decide +kernel
theorem dX10_isAhead_49 : decode cX10_isAhead 49 = .ok (.goto 4, 3) := by decide +kernel
theorem dX10_isAhead_5 : decode cX10_isAhead 5 = .ok (.laload, 1) := by decide +kernel
theorem dX10_isAhead_52 : decode cX10_isAhead 52 = .ok (.iconst 0, 1) := by decide +kernel
theorem dX10_isAhead_53 : decode cX10_isAhead 53 = .ok (.ireturn, 1) := by decide +kernel
theorem dX10_isAhead_6 : decode cX10_isAhead 6 = .ok (.aload_n 0, 1) := by decide +kernel
theorem dX10_isAhead_7 : decode cX10_isAhead 7 = .ok (.getfield 20, 3) := by decide +kernel
set_option maxHeartbeats 4000000 in
set_option maxRecDepth 100000 in
theorem T_X10_isAhead (l : Launch) (D : va_G) (K : Nat → ClassId) (Z Y : Nat → Nat) (ad : Nat → Nat) (d : dSt) (t : tSt) (hok : okX t) (x1 : Int32) (hx1 : (0 : Int) ≤ x1.toInt ∧ x1.toInt ≤ 16) (x2 : Int32) (hx2 : (0 : Int) ≤ x2.toInt ∧ x2.toInt ≤ 16) : tMet l yX10_isAhead cX10_isAhead 3 (some .boolean) (rmD 0 0 0) D K Z Y [.ref (ad 3), .int x1, .int x2] ((WX d) K ad t) (QI D K (fun (r : Int32) (u : Unit) => (0 : Int) ≤ r.toInt ∧ r.toInt ≤ 1) (fun (_ : Unit) => (WX d) K ad t)) 0 0 := by
  refine t_met RX10 ⟨rfl, by decide +kernel⟩ (Nat.le_of_ble_eq_true rfl) ?_
  intro p e s m below meth c A ls C hE hZ hr hlocks hA hP hD hS hl
  have hl : lv_has ls 3 [(0, .ref (ad 3)), (1, .int x1), (2, .int x2)] := hl
  refine lv_aload_n C.1 C.2.1 dX10_isAhead_0 rfl (lv_at hl 0 rfl) ?_
  refine k_get (v := .ref (ad 13)) C hP 3 rfl rfl inlX10 3 (by decide) m_3_8 rfl dX10_isAhead_1 ?_
  refine lv_iload_n C.1 C.2.1 dX10_isAhead_4 rfl (lv_at hl 1 rfl) ?_
  refine k_lld (v := (t.2.2.2 13 (x1 : Int32).toNatClampNeg)) C hP 13 rfl (vp_in_iff.mpr ⟨by omega, by omega⟩) rfl dX10_isAhead_5 ?_
  refine lv_aload_n C.1 C.2.1 dX10_isAhead_6 rfl (lv_at hl 0 rfl) ?_
  refine k_get (v := .ref (ad 13)) C hP 3 rfl rfl inlX10 3 (by decide) m_3_8 rfl dX10_isAhead_7 ?_
  refine lv_iload_n C.1 C.2.1 dX10_isAhead_10 rfl (lv_at hl 2 rfl) ?_
  refine k_lld (v := (t.2.2.2 13 (x2 : Int32).toNatClampNeg)) C hP 13 rfl (vp_in_iff.mpr ⟨by omega, by omega⟩) rfl dX10_isAhead_11 ?_
  obtain ⟨v_1, e_2⟩ : ∃ z, z = lg_cmp ((t.2.2.2 13 (x1 : Int32).toNatClampNeg) : Int64) (t.2.2.2 13 (x2 : Int32).toNatClampNeg) := ⟨_, rfl⟩
  have h_3 : (-1 : Int) ≤ v_1.toInt ∧ v_1.toInt ≤ 1 := by rw [e_2]; exact cmp_rng _ _
  refine k_lcmp (v := v_1) C e_2.symm dX10_isAhead_12 ?_
  refine lv_if_lt (tgt := 48) C.1 C.2.1 dX10_isAhead_13 (by decide) (fun c_4 => ?_) (fun c_4 => ?_)
  · replace c_4 : v_1.toInt < 0 := i_lt c_4
    refine lv_iconst (v := 1) C.1 C.2.1 dX10_isAhead_48 (by decide) ?_
    refine lv_goto (tgt := 53) C.1 C.2.1 dX10_isAhead_49 (by decide) ?_
    exact g_iret C hr hlocks hP hD hS (by decide) () rfl ⟨by decide, by decide⟩ (Nat.le_of_ble_eq_true rfl) (Nat.le_of_ble_eq_true rfl) dX10_isAhead_53
  · replace c_4 : 0 ≤ v_1.toInt := i_nlt c_4
    refine lv_aload_n C.1 C.2.1 dX10_isAhead_16 rfl (lv_at hl 0 rfl) ?_
    refine k_get (v := .ref (ad 13)) C hP 3 rfl rfl inlX10 3 (by decide) m_3_8 rfl dX10_isAhead_17 ?_
    refine lv_iload_n C.1 C.2.1 dX10_isAhead_20 rfl (lv_at hl 1 rfl) ?_
    refine k_lld (v := (t.2.2.2 13 (x1 : Int32).toNatClampNeg)) C hP 13 rfl (vp_in_iff.mpr ⟨by omega, by omega⟩) rfl dX10_isAhead_21 ?_
    refine lv_aload_n C.1 C.2.1 dX10_isAhead_22 rfl (lv_at hl 0 rfl) ?_
    refine k_get (v := .ref (ad 13)) C hP 3 rfl rfl inlX10 3 (by decide) m_3_8 rfl dX10_isAhead_23 ?_
    refine lv_iload_n C.1 C.2.1 dX10_isAhead_26 rfl (lv_at hl 2 rfl) ?_
    refine k_lld (v := (t.2.2.2 13 (x2 : Int32).toNatClampNeg)) C hP 13 rfl (vp_in_iff.mpr ⟨by omega, by omega⟩) rfl dX10_isAhead_27 ?_
    obtain ⟨v_5, e_6⟩ : ∃ z, z = lg_cmp ((t.2.2.2 13 (x1 : Int32).toNatClampNeg) : Int64) (t.2.2.2 13 (x2 : Int32).toNatClampNeg) := ⟨_, rfl⟩
    have h_7 : (-1 : Int) ≤ v_5.toInt ∧ v_5.toInt ≤ 1 := by rw [e_6]; exact cmp_rng _ _
    refine k_lcmp (v := v_5) C e_6.symm dX10_isAhead_28 ?_
    refine lv_if_ne (tgt := 52) C.1 C.2.1 dX10_isAhead_29 (by decide) (fun c_8 => ?_) (fun c_8 => ?_)
    · replace c_8 : ¬ v_5.toInt = 0 := i_ne c_8
      refine lv_iconst (v := 0) C.1 C.2.1 dX10_isAhead_52 (by decide) ?_
      exact g_iret C hr hlocks hP hD hS (by decide) () rfl ⟨by decide, by decide⟩ (Nat.le_of_ble_eq_true rfl) (Nat.le_of_ble_eq_true rfl) dX10_isAhead_53
    · replace c_8 : v_5.toInt = 0 := i_eq c_8
      refine lv_aload_n C.1 C.2.1 dX10_isAhead_32 rfl (lv_at hl 0 rfl) ?_
      refine k_get (v := .ref (ad 14)) C hP 3 rfl rfl inlX10 4 (by decide) m_3_9 rfl dX10_isAhead_33 ?_
      refine lv_iload_n C.1 C.2.1 dX10_isAhead_36 rfl (lv_at hl 1 rfl) ?_
      refine k_lld (v := (t.2.2.2 14 (x1 : Int32).toNatClampNeg)) C hP 14 rfl (vp_in_iff.mpr ⟨by omega, by omega⟩) rfl dX10_isAhead_37 ?_
      refine lv_aload_n C.1 C.2.1 dX10_isAhead_38 rfl (lv_at hl 0 rfl) ?_
      refine k_get (v := .ref (ad 14)) C hP 3 rfl rfl inlX10 4 (by decide) m_3_9 rfl dX10_isAhead_39 ?_
      refine lv_iload_n C.1 C.2.1 dX10_isAhead_42 rfl (lv_at hl 2 rfl) ?_
      refine k_lld (v := (t.2.2.2 14 (x2 : Int32).toNatClampNeg)) C hP 14 rfl (vp_in_iff.mpr ⟨by omega, by omega⟩) rfl dX10_isAhead_43 ?_
      obtain ⟨v_9, e_10⟩ : ∃ z, z = lg_cmp ((t.2.2.2 14 (x1 : Int32).toNatClampNeg) : Int64) (t.2.2.2 14 (x2 : Int32).toNatClampNeg) := ⟨_, rfl⟩
      have h_11 : (-1 : Int) ≤ v_9.toInt ∧ v_9.toInt ≤ 1 := by rw [e_10]; exact cmp_rng _ _
      refine k_lcmp (v := v_9) C e_10.symm dX10_isAhead_44 ?_
      refine lv_if_ge (tgt := 52) C.1 C.2.1 dX10_isAhead_45 (by decide) (fun c_12 => ?_) (fun c_12 => ?_)
      · replace c_12 : 0 ≤ v_9.toInt := i_le c_12
        refine lv_iconst (v := 0) C.1 C.2.1 dX10_isAhead_52 (by decide) ?_
        exact g_iret C hr hlocks hP hD hS (by decide) () rfl ⟨by decide, by decide⟩ (Nat.le_of_ble_eq_true rfl) (Nat.le_of_ble_eq_true rfl) dX10_isAhead_53
      · replace c_12 : v_9.toInt < 0 := i_nle c_12
        refine lv_iconst (v := 1) C.1 C.2.1 dX10_isAhead_48 (by decide) ?_
        refine lv_goto (tgt := 53) C.1 C.2.1 dX10_isAhead_49 (by decide) ?_
        exact g_iret C hr hlocks hP hD hS (by decide) () rfl ⟨by decide, by decide⟩ (Nat.le_of_ble_eq_true rfl) (Nat.le_of_ble_eq_true rfl) dX10_isAhead_53

theorem dX2_interrupt_0 : decode cX2_interrupt 0 = .ok (.iconst 0, 1) := by decide +kernel
theorem dX2_interrupt_1 : decode cX2_interrupt 1 = .ok (.istore_n 2, 1) := by decide +kernel
theorem dX2_interrupt_10 : decode cX2_interrupt 10 = .ok (.bipush 9, 2) := by decide +kernel
theorem dX2_interrupt_100 : decode cX2_interrupt 100 = .ok (.return_, 1) := by decide +kernel
theorem dX2_interrupt_12 : decode cX2_interrupt 12 = .ok (.isub, 1) := by decide +kernel
theorem dX2_interrupt_13 : decode cX2_interrupt 13 = .ok (.aload_n 0, 1) := by decide +kernel
theorem dX2_interrupt_14 : decode cX2_interrupt 14 = .ok (.getfield 11, 3) := by decide +kernel
theorem dX2_interrupt_17 : decode cX2_interrupt 17 = .ok (.iload_n 2, 1) := by decide +kernel
theorem dX2_interrupt_18 : decode cX2_interrupt 18 = .ok (.iaload, 1) := by decide +kernel
theorem dX2_interrupt_19 : decode cX2_interrupt 19 = .ok (.invokevirtual 125, 3) := by decide +kernel
theorem dX2_interrupt_2 : decode cX2_interrupt 2 = .ok (.iload_n 2, 1) := by decide +kernel
theorem dX2_interrupt_22 : decode cX2_interrupt 22 = .ok (.iinc 2 1, 3) := by decide +kernel
theorem dX2_interrupt_25 : decode cX2_interrupt 25 = .ok (.goto (-23), 3) := by decide +kernel
theorem dX2_interrupt_28 : decode cX2_interrupt 28 = .ok (.aload_n 0, 1) := by decide +kernel
theorem dX2_interrupt_29 : decode cX2_interrupt 29 = .ok (.getfield 41, 3) := by decide +kernel
theorem dX2_interrupt_3 : decode cX2_interrupt 3 = .ok (.bipush 7, 2) := by decide +kernel
theorem dX2_interrupt_32 : decode cX2_interrupt 32 = .ok (.iconst 1, 1) := by decide +kernel
theorem dX2_interrupt_33 : decode cX2_interrupt 33 = .ok (.iadd, 1) := by decide +kernel
theorem dX2_interrupt_34 : decode cX2_interrupt 34 = .ok (.aload_n 0, 1) := by decide +kernel
theorem dX2_interrupt_35 : decode cX2_interrupt 35 = .ok (.getfield 37, 3) := by decide +kernel
theorem dX2_interrupt_38 : decode cX2_interrupt 38 = .ok (.ifCond .eq 8, 3) := by decide +kernel
theorem dX2_interrupt_41 : decode cX2_interrupt 41 = .ok (.bipush 8, 2) := by decide +kernel
theorem dX2_interrupt_43 : decode cX2_interrupt 43 = .ok (.goto 4, 3) := by decide +kernel
theorem dX2_interrupt_46 : decode cX2_interrupt 46 = .ok (.iconst 0, 1) := by decide +kernel
theorem dX2_interrupt_47 : decode cX2_interrupt 47 = .ok (.iadd, 1) := by decide +kernel
theorem dX2_interrupt_48 : decode cX2_interrupt 48 = .ok (.istore_n 2, 1) := by decide +kernel
theorem dX2_interrupt_49 : decode cX2_interrupt 49 = .ok (.aload_n 0, 1) := by decide +kernel
theorem dX2_interrupt_5 : decode cX2_interrupt 5 = .ok (.if_icmp .gt 23, 3) := by decide +kernel
theorem dX2_interrupt_50 : decode cX2_interrupt 50 = .ok (.iconst (-1), 1) := by decide +kernel
theorem dX2_interrupt_51 : decode cX2_interrupt 51 = .ok (.aload_n 0, 1) := by decide +kernel
theorem dX2_interrupt_52 : decode cX2_interrupt 52 = .ok (.getfield 11, 3) := by decide +kernel
theorem dX2_interrupt_55 : decode cX2_interrupt 55 = .ok (.bipush 8, 2) := by decide +kernel
theorem dX2_interrupt_57 : decode cX2_interrupt 57 = .ok (.iaload, 1) := by decide +kernel
theorem dX2_interrupt_58 : decode cX2_interrupt 58 = .ok (.sipush 4095, 3) := by decide +kernel
theorem dX2_interrupt_61 : decode cX2_interrupt 61 = .ok (.iand, 1) := by decide +kernel
theorem dX2_interrupt_62 : decode cX2_interrupt 62 = .ok (.bipush 18, 2) := by decide +kernel
theorem dX2_interrupt_64 : decode cX2_interrupt 64 = .ok (.ishl, 1) := by decide +kernel
theorem dX2_interrupt_65 : decode cX2_interrupt 65 = .ok (.iload_n 2, 1) := by decide +kernel
theorem dX2_interrupt_66 : decode cX2_interrupt 66 = .ok (.bipush 12, 2) := by decide +kernel
theorem dX2_interrupt_68 : decode cX2_interrupt 68 = .ok (.ishl, 1) := by decide +kernel
theorem dX2_interrupt_69 : decode cX2_interrupt 69 = .ok (.ior, 1) := by decide +kernel
theorem dX2_interrupt_70 : decode cX2_interrupt 70 = .ok (.aload_n 0, 1) := by decide +kernel
theorem dX2_interrupt_71 : decode cX2_interrupt 71 = .ok (.getfield 44, 3) := by decide +kernel
theorem dX2_interrupt_74 : decode cX2_interrupt 74 = .ok (.sipush 4095, 3) := by decide +kernel
theorem dX2_interrupt_77 : decode cX2_interrupt 77 = .ok (.iand, 1) := by decide +kernel
theorem dX2_interrupt_78 : decode cX2_interrupt 78 = .ok (.ior, 1) := by decide +kernel
theorem dX2_interrupt_79 : decode cX2_interrupt 79 = .ok (.invokevirtual 125, 3) := by decide +kernel
theorem dX2_interrupt_8 : decode cX2_interrupt 8 = .ok (.aload_n 0, 1) := by decide +kernel
theorem dX2_interrupt_82 : decode cX2_interrupt 82 = .ok (.aload_n 0, 1) := by decide +kernel
theorem dX2_interrupt_83 : decode cX2_interrupt 83 = .ok (.bipush (-11), 2) := by decide +kernel
theorem dX2_interrupt_85 : decode cX2_interrupt 85 = .ok (.iload_n 1, 1) := by decide +kernel
theorem dX2_interrupt_86 : decode cX2_interrupt 86 = .ok (.invokevirtual 125, 3) := by decide +kernel
theorem dX2_interrupt_89 : decode cX2_interrupt 89 = .ok (.aload_n 0, 1) := by decide +kernel
theorem dX2_interrupt_9 : decode cX2_interrupt 9 = .ok (.iload_n 2, 1) := by decide +kernel
theorem dX2_interrupt_90 : decode cX2_interrupt 90 = .ok (.iconst 1, 1) := by decide +kernel
theorem dX2_interrupt_91 : decode cX2_interrupt 91 = .ok (.putfield 54, 3) := by decide +kernel
theorem dX2_interrupt_94 : decode cX2_interrupt 94 = .ok (.aload_n 0, 1) := by decide +kernel
theorem dX2_interrupt_95 : decode cX2_interrupt 95 = .ok (.bipush (-12), 2) := by decide +kernel
theorem dX2_interrupt_97 : decode cX2_interrupt 97 = .ok (.putfield 44, 3) := by decide +kernel
set_option maxHeartbeats 4000000 in
set_option maxRecDepth 100000 in
theorem T_X2_interrupt (l : Launch) (D : va_G) (K : Nat → ClassId) (Z Y : Nat → Nat) (ad : Nat → Nat) (d : dSt) (t : tSt) (hok : okX t) (x1 : Int32) (hx1 : (0 : Int) ≤ x1.toInt ∧ x1.toInt ≤ 9) : tMet l yX2_interrupt cX2_interrupt 3 none (rmD 1 0 0) D K Z Y [.ref (ad 4), .int x1] ((WX d) K ad t) (QV D K (fun (u : tSt) => okX u ∧ frA [(4, 5), (4, 10)] [] [10] [] t u) (fun (u : tSt) => (WX d) K ad u)) 0 0 := by
  refine t_met RX2 ⟨rfl, by decide +kernel⟩ (Nat.le_of_ble_eq_true rfl) ?_
  intro p e s m below meth c A ls C hE hZ hr hlocks hA hP hD hS hl
  have hl : lv_has ls 3 [(0, .ref (ad 4)), (1, .int x1)] := hl
  have hokt := hok
  have hfr : frA [(4, 5), (4, 10)] [] [10] [] t t := frA_rf
  have L_47 : ∀ (t1 : tSt) (w47_2 : Int32) (k47_0 : Int32) (k47_1 : Int32) (H : Heap) (locs : List Loc) (ls : Array Slot), okX t1 → frA [(4, 5), (4, 10)] [] [10] [] t t1 → (8 : Int) ≤ w47_2.toInt ∧ w47_2.toInt ≤ 8 → (0 : Int) ≤ k47_0.toInt ∧ k47_0.toInt ≤ 2 → (0 : Int) ≤ k47_1.toInt ∧ k47_1.toInt ≤ 8 → va_P D vwCl ((WX d) K ad t1) H → va_D A ((WX d) K ad t1) → va_S A s.heap H locs → lv_has ls 3 [(0, .ref (ad 4)), (1, .int x1), (2, .int w47_2)] → W p l e (rmD 1 0 0) s m [.ref (ad 4), .int x1].toArray below meth c H locs 0 0 (MQ below (QV D K (fun (u : tSt) => okX u ∧ frA [(4, 5), (4, 10)] [] [10] [] t u) (fun (u : tSt) => (WX d) K ad u) A) [.ref (ad 4), .int x1].toArray s 0 0 A) (F0 m 47 ls [.int k47_1, .int k47_0]) := by
    intro t1 w47_2 k47_0 k47_1 H locs ls hok hfr hw47_2 hk47_0 hk47_1 hP hD hS hl
    obtain ⟨v_1, e_2⟩ : ∃ z, z = (k47_0 : Int32) + (k47_1 : Int32) := ⟨_, rfl⟩
    have h_3 : v_1.toInt = k47_0.toInt + k47_1.toInt := by rw [e_2]; exact ti_iadd (by show (_ : Int) ≤ k47_0.toInt + k47_1.toInt; omega) (by show k47_0.toInt + k47_1.toInt < (_ : Int); omega)
    refine k_iadd (v := v_1) C e_2.symm dX2_interrupt_47 ?_
    refine lv_istore_n (lv' := [(2, .int v_1), (0, .ref (ad 4)), (1, .int x1)]) C.1 C.2.1 dX2_interrupt_48 rfl hl (by decide) rfl (fun ls hl => ?_)
    have hl : lv_has ls 3 [(0, .ref (ad 4)), (1, .int x1), (2, .int v_1)] := lv_sub hl [1, 2, 0] rfl
    refine lv_aload_n C.1 C.2.1 dX2_interrupt_49 rfl (lv_at hl 0 rfl) ?_
    refine lv_iconst (v := (-1)) C.1 C.2.1 dX2_interrupt_50 (by decide) ?_
    refine lv_aload_n C.1 C.2.1 dX2_interrupt_51 rfl (lv_at hl 0 rfl) ?_
    refine k_get (v := .ref (ad 22)) C hP 4 rfl rfl inlX2 1 (by decide) m_4_16 rfl dX2_interrupt_52 ?_
    refine lv_bipush (v := 8) C.1 C.2.1 dX2_interrupt_55 (by decide) ?_
    obtain ⟨v_4, e_5⟩ : ∃ z, z = (t1.2.2.1 22 (8 : Int32).toNatClampNeg) := ⟨_, rfl⟩
    refine k_ild (v := v_4) C hP 22 rfl (vin (by decide)) e_5.symm dX2_interrupt_57 ?_
    refine lv_sipush (v := 4095) C.1 C.2.1 dX2_interrupt_58 (by decide) ?_
    obtain ⟨v_6, e_7⟩ : ∃ z, z = (v_4 : Int32) &&& (4095 : Int32) := ⟨_, rfl⟩
    have h_8 : v_6.toInt = v_4.toInt % 2 ^ 12 := by rw [e_7]; exact Jvm.Kit.i32_mask _ _ (k := 12) (by decide) (by decide)
    refine k_iand (v := v_6) C e_7.symm dX2_interrupt_61 ?_
    refine lv_bipush (v := 18) C.1 C.2.1 dX2_interrupt_62 (by decide) ?_
    obtain ⟨v_9, e_10⟩ : ∃ z, z = (v_6 : Int32) <<< ((18 : Int32) &&& 31) := ⟨_, rfl⟩
    have h_11 : v_9.toInt = v_6.toInt * 2 ^ 18 := by rw [e_10]; exact Jvm.Kit.i32_shl _ _ (k := 18) (by decide) (by omega) (by omega)
    refine k_ishl (v := v_9) C e_10.symm dX2_interrupt_64 ?_
    refine lv_iload_n C.1 C.2.1 dX2_interrupt_65 rfl (lv_at hl 2 rfl) ?_
    refine lv_bipush (v := 12) C.1 C.2.1 dX2_interrupt_66 (by decide) ?_
    obtain ⟨v_12, e_13⟩ : ∃ z, z = (v_1 : Int32) <<< ((12 : Int32) &&& 31) := ⟨_, rfl⟩
    have h_14 : v_12.toInt = v_1.toInt * 2 ^ 12 := by rw [e_13]; exact Jvm.Kit.i32_shl _ _ (k := 12) (by decide) (by omega) (by omega)
    refine k_ishl (v := v_12) C e_13.symm dX2_interrupt_68 ?_
    obtain ⟨v_15, e_16⟩ : ∃ z, z = (v_9 : Int32) ||| (v_12 : Int32) := ⟨_, rfl⟩
    have h_17 : (0 : Int) ≤ v_15.toInt ∧ v_15.toInt ≤ 1073741823 := by rw [e_16]; exact z_or (k := 30) (by decide) (by show (0 : Int) ≤ v_9.toInt; omega) (by show v_9.toInt < (_ : Int); omega) (by show (0 : Int) ≤ v_12.toInt; omega) (by show v_12.toInt < (_ : Int); omega)
    refine k_ior (v := v_15) C e_16.symm dX2_interrupt_69 ?_
    refine lv_aload_n C.1 C.2.1 dX2_interrupt_70 rfl (lv_at hl 0 rfl) ?_
    refine k_get (v := .int (t1.1 4 5)) C hP 4 rfl rfl inlX2 5 (by decide) m_11_6 rfl dX2_interrupt_71 ?_
    refine lv_sipush (v := 4095) C.1 C.2.1 dX2_interrupt_74 (by decide) ?_
    obtain ⟨v_18, e_19⟩ : ∃ z, z = ((t1.1 4 5) : Int32) &&& (4095 : Int32) := ⟨_, rfl⟩
    have h_20 : v_18.toInt = (t1.1 4 5).toInt % 2 ^ 12 := by rw [e_19]; exact Jvm.Kit.i32_mask _ _ (k := 12) (by decide) (by decide)
    refine k_iand (v := v_18) C e_19.symm dX2_interrupt_77 ?_
    obtain ⟨v_21, e_22⟩ : ∃ z, z = (v_15 : Int32) ||| (v_18 : Int32) := ⟨_, rfl⟩
    have h_23 : (0 : Int) ≤ v_21.toInt ∧ v_21.toInt ≤ 1073741823 := by rw [e_22]; exact z_or (k := 30) (by decide) (by show (0 : Int) ≤ v_15.toInt; omega) (by show v_15.toInt < (_ : Int); omega) (by show (0 : Int) ≤ v_18.toInt; omega) (by show v_18.toInt < (_ : Int); omega)
    refine k_ior (v := v_21) C e_22.symm dX2_interrupt_78 ?_
    refine g_Vv (As := [.int (-1), .int v_21]) (rest := []) C hP hD hS hA (T_X2_save l D K Z Y ad d t1 hok (-1) (show (-2147483648 : Int) ≤ ((-1) : Int32).toInt ∧ ((-1) : Int32).toInt ≤ 1073745919 from ⟨by decide, by decide⟩) (v_21)) hE hZ (uwV m_46_8 m_46_9 m_46_10 m_1_23 m_46_11) (hdV 2 (by decide +kernel) rfl) ⟨Nat.le_of_ble_eq_true rfl, Nat.le_of_ble_eq_true rfl⟩ rfl rfl (ci := 1) (q0 := 4) rfl rfl rfl hl.1 (Nat.le_of_ble_eq_true rfl) dX2_interrupt_79 ⟨Nat.le_of_ble_eq_true rfl, Nat.le_of_ble_eq_true rfl⟩ (fun t_24 H locs hw hP hD hS => ?_)
    obtain ⟨hok, f_26⟩ := hw
    have hfr : frA [(4, 5), (4, 10)] [] [10] [] t t_24 := frA_tr hfr f_26 rfl
    have h_27 : (t_24.1 4 5).toInt = (t1.1 4 5).toInt := ti_eq (f_26.1 4 5 rfl)
    refine lv_aload_n C.1 C.2.1 dX2_interrupt_82 rfl (lv_at hl 0 rfl) ?_
    refine lv_bipush (v := (-11)) C.1 C.2.1 dX2_interrupt_83 (by decide) ?_
    refine lv_iload_n C.1 C.2.1 dX2_interrupt_85 rfl (lv_at hl 1 rfl) ?_
    refine g_Vv (As := [.int (-11), .int x1]) (rest := []) C hP hD hS hA (T_X2_save l D K Z Y ad d t_24 hok (-11) (show (-2147483648 : Int) ≤ ((-11) : Int32).toInt ∧ ((-11) : Int32).toInt ≤ 1073745919 from ⟨by decide, by decide⟩) (x1)) hE hZ (uwV m_46_8 m_46_9 m_46_10 m_1_23 m_46_11) (hdV 2 (by decide +kernel) rfl) ⟨Nat.le_of_ble_eq_true rfl, Nat.le_of_ble_eq_true rfl⟩ rfl rfl (ci := 1) (q0 := 4) rfl rfl rfl hl.1 (Nat.le_of_ble_eq_true rfl) dX2_interrupt_86 ⟨Nat.le_of_ble_eq_true rfl, Nat.le_of_ble_eq_true rfl⟩ (fun t_28 H locs hw hP hD hS => ?_)
    obtain ⟨hok, f_30⟩ := hw
    have hfr : frA [(4, 5), (4, 10)] [] [10] [] t t_28 := frA_tr hfr f_30 rfl
    have h_31 : (t_28.1 4 5).toInt = (t_24.1 4 5).toInt := ti_eq (f_30.1 4 5 rfl)
    refine lv_aload_n C.1 C.2.1 dX2_interrupt_89 rfl (lv_at hl 0 rfl) ?_
    refine lv_iconst (v := 1) C.1 C.2.1 dX2_interrupt_90 (by decide) ?_
    refine k_put (ws' := (WX d) K ad (uI t_28 4 10 1)) (v := .int 1) C hP hD hS 4 rfl rfl inlX2 tyX2_ok nmX2 10 (by decide) m_11_9 rfl (by decide) (by decide) rfl rfl dX2_interrupt_91 (fun H locs hP hD hS => ?_)
    have hok : okX (uI t_28 4 10 1) := ⟨okI_I hok.1 4 10 1 (show (0 : Int) ≤ (1 : Int32).toInt ∧ (1 : Int32).toInt ≤ 1 from ⟨by decide, by decide⟩), hok.2.1, trivial⟩
    have hfr : frA [(4, 5), (4, 10)] [] [10] [] t (uI t_28 4 10 1) := frA_I hfr 4 10 _ rfl
    refine lv_aload_n C.1 C.2.1 dX2_interrupt_94 rfl (lv_at hl 0 rfl) ?_
    refine lv_bipush (v := (-12)) C.1 C.2.1 dX2_interrupt_95 (by decide) ?_
    refine k_put (ws' := (WX d) K ad (uI (uI t_28 4 10 1) 4 5 (-12))) (v := .int (-12)) C hP hD hS 4 rfl rfl inlX2 tyX2_ok nmX2 5 (by decide) m_11_6 rfl rfl rfl rfl rfl dX2_interrupt_97 (fun H locs hP hD hS => ?_)
    have hok : okX (uI (uI t_28 4 10 1) 4 5 (-12)) := ⟨okI_I hok.1 4 5 (-12) (show (-2147483648 : Int) ≤ ((-12) : Int32).toInt ∧ ((-12) : Int32).toInt ≤ 2147483647 from (i_rng _)), hok.2.1, trivial⟩
    have hfr : frA [(4, 5), (4, 10)] [] [10] [] t (uI (uI t_28 4 10 1) 4 5 (-12)) := frA_I hfr 4 5 _ rfl
    exact g_vret C hr hlocks hP hD hS (uI (uI t_28 4 10 1) 4 5 (-12)) rfl ⟨hok, hfr⟩ (Nat.le_of_ble_eq_true rfl) (Nat.le_of_ble_eq_true rfl) dX2_interrupt_100
  have L_2 : ∀ (fuel_2 : Nat) (t1 : tSt) (w2_2 : Int32) (H : Heap) (locs : List Loc) (ls : Array Slot), okX t1 → frA [(4, 5), (4, 10)] [] [10] [] t t1 → (0 : Int) ≤ w2_2.toInt ∧ w2_2.toInt ≤ 8 → (8 : Int) - w2_2.toInt < (fuel_2 : Int) → va_P D vwCl ((WX d) K ad t1) H → va_D A ((WX d) K ad t1) → va_S A s.heap H locs → lv_has ls 3 [(0, .ref (ad 4)), (1, .int x1), (2, .int w2_2)] → W p l e (rmD 1 0 0) s m [.ref (ad 4), .int x1].toArray below meth c H locs 0 0 (MQ below (QV D K (fun (u : tSt) => okX u ∧ frA [(4, 5), (4, 10)] [] [10] [] t u) (fun (u : tSt) => (WX d) K ad u) A) [.ref (ad 4), .int x1].toArray s 0 0 A) (F0 m 2 ls []) := by
    intro fuel_2
    induction fuel_2 with
    | zero =>
      intro t1 w2_2 H locs ls hok hfr hw2_2 hm2_2 hP hD hS hl
      exact absurd hm2_2 (by omega)
    | succ fuel_2 ih_2 =>
      intro t1 w2_2 H locs ls hok hfr hw2_2 hm2_2 hP hD hS hl
      have hm2_2 : (8 : Int) - w2_2.toInt < (fuel_2 : Int) + 1 := by omega
      refine lv_iload_n C.1 C.2.1 dX2_interrupt_2 rfl (lv_at hl 2 rfl) ?_
      refine lv_bipush (v := 7) C.1 C.2.1 dX2_interrupt_3 (by decide) ?_
      refine lv_icmp_gt (tgt := 28) C.1 C.2.1 dX2_interrupt_5 (by decide) (fun c_32 => ?_) (fun c_32 => ?_)
      · replace c_32 : 7 < w2_2.toInt := i_lt c_32
        refine lv_aload_n C.1 C.2.1 dX2_interrupt_28 rfl (lv_at hl 0 rfl) ?_
        have h_33 : (-1 : Int) ≤ (t1.1 4 4).toInt ∧ (t1.1 4 4).toInt ≤ 1 := hok.1 4 4
        refine k_get (v := .int (t1.1 4 4)) C hP 4 rfl rfl inlX2 4 (by decide) m_11_5 rfl dX2_interrupt_29 ?_
        refine lv_iconst (v := 1) C.1 C.2.1 dX2_interrupt_32 (by decide) ?_
        obtain ⟨v_34, e_35⟩ : ∃ z, z = ((t1.1 4 4) : Int32) + (1 : Int32) := ⟨_, rfl⟩
        have h_36 : v_34.toInt = (t1.1 4 4).toInt + 1 := by rw [e_35]; exact ti_iadd (by show (_ : Int) ≤ (t1.1 4 4).toInt + 1; omega) (by show (t1.1 4 4).toInt + 1 < (_ : Int); omega)
        refine k_iadd (v := v_34) C e_35.symm dX2_interrupt_33 ?_
        refine lv_aload_n C.1 C.2.1 dX2_interrupt_34 rfl (lv_at hl 0 rfl) ?_
        have h_37 : (0 : Int) ≤ (t1.1 4 3).toInt ∧ (t1.1 4 3).toInt ≤ 1 := hok.1 4 3
        refine k_get (v := .int (t1.1 4 3)) C hP 4 rfl rfl inlX2 3 (by decide) m_11_4 rfl dX2_interrupt_35 ?_
        refine lv_if_eq (tgt := 46) C.1 C.2.1 dX2_interrupt_38 (by decide) (fun c_38 => ?_) (fun c_38 => ?_)
        · replace c_38 : (t1.1 4 3).toInt = 0 := i_eq c_38
          refine lv_iconst (v := 0) C.1 C.2.1 dX2_interrupt_46 (by decide) ?_
          exact L_47 t1 w2_2 v_34 0 _ _ _ hok hfr ⟨by omega, by omega⟩ ⟨by omega, by omega⟩ ⟨by decide, by decide⟩ hP hD hS (lv_sub hl [0, 1, 2] rfl)
        · replace c_38 : ¬ (t1.1 4 3).toInt = 0 := i_ne c_38
          refine lv_bipush (v := 8) C.1 C.2.1 dX2_interrupt_41 (by decide) ?_
          refine lv_goto (tgt := 47) C.1 C.2.1 dX2_interrupt_43 (by decide) ?_
          exact L_47 t1 w2_2 v_34 8 _ _ _ hok hfr ⟨by omega, by omega⟩ ⟨by omega, by omega⟩ ⟨by decide, by decide⟩ hP hD hS (lv_sub hl [0, 1, 2] rfl)
      · replace c_32 : w2_2.toInt ≤ 7 := i_nlt c_32
        refine lv_aload_n C.1 C.2.1 dX2_interrupt_8 rfl (lv_at hl 0 rfl) ?_
        refine lv_iload_n C.1 C.2.1 dX2_interrupt_9 rfl (lv_at hl 2 rfl) ?_
        refine lv_bipush (v := 9) C.1 C.2.1 dX2_interrupt_10 (by decide) ?_
        obtain ⟨v_39, e_40⟩ : ∃ z, z = (w2_2 : Int32) - (9 : Int32) := ⟨_, rfl⟩
        have h_41 : v_39.toInt = w2_2.toInt - 9 := by rw [e_40]; exact ti_isub (by show (_ : Int) ≤ w2_2.toInt - 9; omega) (by show w2_2.toInt - 9 < (_ : Int); omega)
        refine k_isub (v := v_39) C e_40.symm dX2_interrupt_12 ?_
        refine lv_aload_n C.1 C.2.1 dX2_interrupt_13 rfl (lv_at hl 0 rfl) ?_
        refine k_get (v := .ref (ad 22)) C hP 4 rfl rfl inlX2 1 (by decide) m_4_16 rfl dX2_interrupt_14 ?_
        refine lv_iload_n C.1 C.2.1 dX2_interrupt_17 rfl (lv_at hl 2 rfl) ?_
        obtain ⟨v_42, e_43⟩ : ∃ z, z = (t1.2.2.1 22 (w2_2 : Int32).toNatClampNeg) := ⟨_, rfl⟩
        refine k_ild (v := v_42) C hP 22 rfl (vp_in_iff.mpr ⟨by omega, by omega⟩) e_43.symm dX2_interrupt_18 ?_
        refine g_Vv (As := [.int v_39, .int v_42]) (rest := []) C hP hD hS hA (T_X2_save l D K Z Y ad d t1 hok (v_39) (show (-2147483648 : Int) ≤ (v_39 : Int32).toInt ∧ (v_39 : Int32).toInt ≤ 1073745919 from ⟨(i_rng _).1, by omega⟩) (v_42)) hE hZ (uwV m_46_8 m_46_9 m_46_10 m_1_23 m_46_11) (hdV 2 (by decide +kernel) rfl) ⟨Nat.le_of_ble_eq_true rfl, Nat.le_of_ble_eq_true rfl⟩ rfl rfl (ci := 1) (q0 := 4) rfl rfl rfl hl.1 (Nat.le_of_ble_eq_true rfl) dX2_interrupt_19 ⟨Nat.le_of_ble_eq_true rfl, Nat.le_of_ble_eq_true rfl⟩ (fun t_44 H locs hw hP hD hS => ?_)
        obtain ⟨hok, f_46⟩ := hw
        have hfr : frA [(4, 5), (4, 10)] [] [10] [] t t_44 := frA_tr hfr f_46 rfl
        obtain ⟨v_47, e_48⟩ : ∃ z, z = w2_2 + 1 := ⟨_, rfl⟩
        have h_49 : v_47.toInt = w2_2.toInt + 1 := by rw [e_48]; exact ti_iadd (by show (_ : Int) ≤ w2_2.toInt + 1; omega) (by show w2_2.toInt + 1 < (_ : Int); omega)
        refine lv_iinc (v := v_47) (lv' := [(2, .int v_47), (0, .ref (ad 4)), (1, .int x1)]) C.1 C.2.1 dX2_interrupt_22 hl (k := 2) rfl e_48.symm (by decide) rfl (fun ls hl => ?_)
        have hl : lv_has ls 3 [(0, .ref (ad 4)), (1, .int x1), (2, .int v_47)] := lv_sub hl [1, 2, 0] rfl
        refine lv_goto (tgt := 2) C.1 C.2.1 dX2_interrupt_25 (by decide) ?_
        exact ih_2 t_44 v_47 _ _ _ hok hfr ⟨by omega, by omega⟩ (show (8 : Int) - v_47.toInt < (fuel_2 : Int) from by omega) hP hD hS (lv_sub hl [0, 1, 2] rfl)
  refine lv_iconst (v := 0) C.1 C.2.1 dX2_interrupt_0 (by decide) ?_
  refine lv_istore_n (lv' := [(2, .int 0), (0, .ref (ad 4)), (1, .int x1)]) C.1 C.2.1 dX2_interrupt_1 rfl hl (by decide) rfl (fun ls hl => ?_)
  have hl : lv_has ls 3 [(0, .ref (ad 4)), (1, .int x1), (2, .int 0)] := lv_sub hl [1, 2, 0] rfl
  exact L_2 9 t 0 _ _ _ hok hfr ⟨by decide, by decide⟩ (show (8 : Int) - 0 < ((9 : Nat) : Int) from by omega) hP hD hS (lv_sub hl [0, 1, 2] rfl)

theorem dX2_less_0 : decode cX2_less 0 = .ok (.iload_n 0, 1) := by decide +kernel
theorem dX2_less_1 : decode cX2_less 1 = .ok (.invokestatic 98, 3) := by decide +kernel
theorem dX2_less_10 : decode cX2_less 10 = .ok (.istore_n 3, 1) := by decide +kernel
theorem dX2_less_11 : decode cX2_less 11 = .ok (.iload_n 3, 1) := by decide +kernel
theorem dX2_less_12 : decode cX2_less 12 = .ok (.ldc 124, 2) := by decide +kernel
theorem dX2_less_14 : decode cX2_less 14 = .ok (.if_icmp .ne 7, 3) := by decide +kernel
theorem dX2_less_17 : decode cX2_less 17 = .ok (.iconst 0, 1) := by decide +kernel
theorem dX2_less_18 : decode cX2_less 18 = .ok (.goto 4, 3) := by decide +kernel
theorem dX2_less_21 : decode cX2_less 21 = .ok (.iload_n 3, 1) := by decide +kernel
theorem dX2_less_22 : decode cX2_less 22 = .ok (.ireturn, 1) := by decide +kernel
theorem dX2_less_4 : decode cX2_less 4 = .ok (.i2l, 1) := by decide +kernel
theorem dX2_less_5 : decode cX2_less 5 = .ok (.lload_n 1, 1) := by decide +kernel
theorem dX2_less_6 : decode cX2_less 6 = .ok (.lsub, 1) := by decide +kernel
theorem dX2_less_7 : decode cX2_less 7 = .ok (.invokestatic 120, 3) := by decide +kernel
set_option maxHeartbeats 4000000 in
set_option maxRecDepth 100000 in
theorem T_X2_less (l : Launch) (D : va_G) (K : Nat → ClassId) (Z Y : Nat → Nat) (ad : Nat → Nat) (d : dSt) (t : tSt) (hok : okX t) (x0 : Int32) (x1 : Int64) : tMet l yX2_less cX2_less 4 (some .int) (rmD 2 0 0) D K Z Y [.int x0, .long x1] ((WX d) K ad t) (QI D K (fun (r : Int32) (u : Unit) => (0 : Int) ≤ r.toInt ∧ r.toInt ≤ 2147483647) (fun (_ : Unit) => (WX d) K ad t)) 0 0 := by
  refine t_met RX2 ⟨rfl, by decide +kernel⟩ (Nat.le_of_ble_eq_true rfl) ?_
  intro p e s m below meth c A ls C hE hZ hr hlocks hA hP hD hS hl
  have hl : lv_has ls 4 [(0, .int x0), (1, .long x1)] := hl
  refine lv_iload_n C.1 C.2.1 dX2_less_0 rfl (lv_at hl 0 rfl) ?_
  refine g_Si (As := [.int x0]) (rest := []) C hP hD hS hA (T_X1_value l D K Z Y ad d t hok (x0)) hE hZ (uwS m_47_19 m_23_9 m_14_2 m_23_10) (hdS 1 (by decide +kernel) rfl) ⟨Nat.le_of_ble_eq_true rfl, Nat.le_of_ble_eq_true rfl⟩ rfl rfl rfl hl.1 (Nat.le_of_ble_eq_true rfl) dX2_less_1 ⟨Nat.le_of_ble_eq_true rfl, Nat.le_of_ble_eq_true rfl⟩ (fun r_2 t_1 H locs hw hP hD hS => ?_)
  obtain ⟨h_4, h_5⟩ := hw
  obtain ⟨v_6, e_7⟩ : ∃ z, z = (r_2 : Int32).toInt64 := ⟨_, rfl⟩
  have h_8 : v_6.toInt = r_2.toInt := by rw [e_7]; exact Jvm.Kit.i64_of_i32 _
  refine lv_i2l (v := v_6) C.1 C.2.1 dX2_less_4 e_7.symm ?_
  refine lv_lload_n C.1 C.2.1 dX2_less_5 rfl (lv_at hl 1 rfl) ?_
  obtain ⟨v_9, e_10⟩ : ∃ z, z = (v_6 : Int64) - (x1 : Int64) := ⟨_, rfl⟩
  refine k_lsub (v := v_9) C e_10.symm dX2_less_6 ?_
  refine g_Si (As := [.long v_9]) (rest := []) C hP hD hS hA (T_X1_wordOf l D K Z Y ad d t hok (v_9)) hE hZ (uwS m_50_15 m_22_11 m_14_2 m_22_12) (hdS 1 (by decide +kernel) rfl) ⟨Nat.le_of_ble_eq_true rfl, Nat.le_of_ble_eq_true rfl⟩ rfl rfl rfl hl.1 (Nat.le_of_ble_eq_true rfl) dX2_less_7 ⟨Nat.le_of_ble_eq_true rfl, Nat.le_of_ble_eq_true rfl⟩ (fun r_12 t_11 H locs hw hP hD hS => ?_)
  obtain ⟨h_14, h_15⟩ := hw
  refine lv_istore_n (lv' := [(3, .int r_12), (0, .int x0), (1, .long x1)]) C.1 C.2.1 dX2_less_10 rfl hl (by decide) rfl (fun ls hl => ?_)
  have hl : lv_has ls 4 [(0, .int x0), (1, .long x1), (3, .int r_12)] := lv_sub hl [1, 2, 0] rfl
  refine lv_iload_n C.1 C.2.1 dX2_less_11 rfl (lv_at hl 2 rfl) ?_
  refine lv_ldc (v := 1073741824) C.1 C.2.1 C.2.2.2.1 (C.2.2.2.2.1 _ m_47_11) dX2_less_12 ?_
  refine lv_icmp_ne (tgt := 21) C.1 C.2.1 dX2_less_14 (by decide) (fun c_16 => ?_) (fun c_16 => ?_)
  · replace c_16 : ¬ r_12.toInt = 1073741824 := i_ne c_16
    refine lv_iload_n C.1 C.2.1 dX2_less_21 rfl (lv_at hl 2 rfl) ?_
    exact g_iret C hr hlocks hP hD hS rfl () rfl ⟨by omega, by omega⟩ (Nat.le_of_ble_eq_true rfl) (Nat.le_of_ble_eq_true rfl) dX2_less_22
  · replace c_16 : r_12.toInt = 1073741824 := i_eq c_16
    refine lv_iconst (v := 0) C.1 C.2.1 dX2_less_17 (by decide) ?_
    refine lv_goto (tgt := 22) C.1 C.2.1 dX2_less_18 (by decide) ?_
    exact g_iret C hr hlocks hP hD hS rfl () rfl ⟨by decide, by decide⟩ (Nat.le_of_ble_eq_true rfl) (Nat.le_of_ble_eq_true rfl) dX2_less_22

theorem dX1_letterOf_0 : decode cX1_letterOf 0 = .ok (.iload_n 0, 1) := by decide +kernel
theorem dX1_letterOf_1 : decode cX1_letterOf 1 = .ok (.ifCond .gt 6, 3) := by decide +kernel
theorem dX1_letterOf_10 : decode cX1_letterOf 10 = .ok (.if_icmp .gt 12, 3) := by decide +kernel
theorem dX1_letterOf_13 : decode cX1_letterOf 13 = .ok (.bipush 48, 2) := by decide +kernel
theorem dX1_letterOf_15 : decode cX1_letterOf 15 = .ok (.iload_n 0, 1) := by decide +kernel
theorem dX1_letterOf_16 : decode cX1_letterOf 16 = .ok (.iadd, 1) := by decide +kernel
theorem dX1_letterOf_17 : decode cX1_letterOf 17 = .ok (.iconst 1, 1) := by decide +kernel
theorem dX1_letterOf_18 : decode cX1_letterOf 18 = .ok (.isub, 1) := by decide +kernel
theorem dX1_letterOf_19 : decode cX1_letterOf 19 = .ok (.goto 10, 3) := by decide +kernel
theorem dX1_letterOf_22 : decode cX1_letterOf 22 = .ok (.bipush 65, 2) := by decide +kernel
theorem dX1_letterOf_24 : decode cX1_letterOf 24 = .ok (.iload_n 0, 1) := by decide +kernel
theorem dX1_letterOf_25 : decode cX1_letterOf 25 = .ok (.iadd, 1) := by decide +kernel
theorem dX1_letterOf_26 : decode cX1_letterOf 26 = .ok (.bipush 11, 2) := by decide +kernel
theorem dX1_letterOf_28 : decode cX1_letterOf 28 = .ok (.isub, 1) := by decide +kernel
theorem dX1_letterOf_29 : decode cX1_letterOf 29 = .ok (.ireturn, 1) := by decide +kernel
theorem dX1_letterOf_4 : decode cX1_letterOf 4 = .ok (.bipush 32, 2) := by decide +kernel
theorem dX1_letterOf_6 : decode cX1_letterOf 6 = .ok (.ireturn, 1) := by decide +kernel
theorem dX1_letterOf_7 : decode cX1_letterOf 7 = .ok (.iload_n 0, 1) := by decide +kernel
theorem dX1_letterOf_8 : decode cX1_letterOf 8 = .ok (.bipush 10, 2) := by decide +kernel
set_option maxHeartbeats 4000000 in
set_option maxRecDepth 100000 in
theorem T_X1_letterOf (l : Launch) (D : va_G) (K : Nat → ClassId) (Z Y : Nat → Nat) (ad : Nat → Nat) (d : dSt) (t : tSt) (hok : okX t) (x0 : Int32) (hx0 : (0 : Int) ≤ x0.toInt ∧ x0.toInt ≤ 63) : tMet l yX1_letterOf cX1_letterOf 1 (some .int) (rmD 0 0 0) D K Z Y [.int x0] ((WX d) K ad t) (QI D K (fun (r : Int32) (u : Unit) => (32 : Int) ≤ r.toInt ∧ r.toInt ≤ 119) (fun (_ : Unit) => (WX d) K ad t)) 0 0 := by
  refine t_met RX1 ⟨rfl, by decide +kernel⟩ (Nat.le_of_ble_eq_true rfl) ?_
  intro p e s m below meth c A ls C hE hZ hr hlocks hA hP hD hS hl
  have hl : lv_has ls 1 [(0, .int x0)] := hl
  refine lv_iload_n C.1 C.2.1 dX1_letterOf_0 rfl (lv_at hl 0 rfl) ?_
  refine lv_if_gt (tgt := 7) C.1 C.2.1 dX1_letterOf_1 (by decide) (fun c_1 => ?_) (fun c_1 => ?_)
  · replace c_1 : 0 < x0.toInt := i_lt c_1
    refine lv_iload_n C.1 C.2.1 dX1_letterOf_7 rfl (lv_at hl 0 rfl) ?_
    refine lv_bipush (v := 10) C.1 C.2.1 dX1_letterOf_8 (by decide) ?_
    refine lv_icmp_gt (tgt := 22) C.1 C.2.1 dX1_letterOf_10 (by decide) (fun c_2 => ?_) (fun c_2 => ?_)
    · replace c_2 : 10 < x0.toInt := i_lt c_2
      refine lv_bipush (v := 65) C.1 C.2.1 dX1_letterOf_22 (by decide) ?_
      refine lv_iload_n C.1 C.2.1 dX1_letterOf_24 rfl (lv_at hl 0 rfl) ?_
      obtain ⟨v_3, e_4⟩ : ∃ z, z = (65 : Int32) + (x0 : Int32) := ⟨_, rfl⟩
      have h_5 : v_3.toInt = 65 + x0.toInt := by rw [e_4]; exact ti_iadd (by show (_ : Int) ≤ 65 + x0.toInt; omega) (by show 65 + x0.toInt < (_ : Int); omega)
      refine k_iadd (v := v_3) C e_4.symm dX1_letterOf_25 ?_
      refine lv_bipush (v := 11) C.1 C.2.1 dX1_letterOf_26 (by decide) ?_
      obtain ⟨v_6, e_7⟩ : ∃ z, z = (v_3 : Int32) - (11 : Int32) := ⟨_, rfl⟩
      have h_8 : v_6.toInt = v_3.toInt - 11 := by rw [e_7]; exact ti_isub (by show (_ : Int) ≤ v_3.toInt - 11; omega) (by show v_3.toInt - 11 < (_ : Int); omega)
      refine k_isub (v := v_6) C e_7.symm dX1_letterOf_28 ?_
      exact g_iret C hr hlocks hP hD hS rfl () rfl ⟨by omega, by omega⟩ (Nat.le_of_ble_eq_true rfl) (Nat.le_of_ble_eq_true rfl) dX1_letterOf_29
    · replace c_2 : x0.toInt ≤ 10 := i_nlt c_2
      refine lv_bipush (v := 48) C.1 C.2.1 dX1_letterOf_13 (by decide) ?_
      refine lv_iload_n C.1 C.2.1 dX1_letterOf_15 rfl (lv_at hl 0 rfl) ?_
      obtain ⟨v_9, e_10⟩ : ∃ z, z = (48 : Int32) + (x0 : Int32) := ⟨_, rfl⟩
      have h_11 : v_9.toInt = 48 + x0.toInt := by rw [e_10]; exact ti_iadd (by show (_ : Int) ≤ 48 + x0.toInt; omega) (by show 48 + x0.toInt < (_ : Int); omega)
      refine k_iadd (v := v_9) C e_10.symm dX1_letterOf_16 ?_
      refine lv_iconst (v := 1) C.1 C.2.1 dX1_letterOf_17 (by decide) ?_
      obtain ⟨v_12, e_13⟩ : ∃ z, z = (v_9 : Int32) - (1 : Int32) := ⟨_, rfl⟩
      have h_14 : v_12.toInt = v_9.toInt - 1 := by rw [e_13]; exact ti_isub (by show (_ : Int) ≤ v_9.toInt - 1; omega) (by show v_9.toInt - 1 < (_ : Int); omega)
      refine k_isub (v := v_12) C e_13.symm dX1_letterOf_18 ?_
      refine lv_goto (tgt := 29) C.1 C.2.1 dX1_letterOf_19 (by decide) ?_
      exact g_iret C hr hlocks hP hD hS rfl () rfl ⟨by omega, by omega⟩ (Nat.le_of_ble_eq_true rfl) (Nat.le_of_ble_eq_true rfl) dX1_letterOf_29
  · replace c_1 : x0.toInt ≤ 0 := i_nlt c_1
    refine lv_bipush (v := 32) C.1 C.2.1 dX1_letterOf_4 (by decide) ?_
    exact g_iret C hr hlocks hP hD hS rfl () rfl ⟨by decide, by decide⟩ (Nat.le_of_ble_eq_true rfl) (Nat.le_of_ble_eq_true rfl) dX1_letterOf_6

theorem dX3_wants_0 : decode cX3_wants 0 = .ok (.aload_n 0, 1) := by decide +kernel
theorem dX3_wants_1 : decode cX3_wants 1 = .ok (.getfield 33, 3) := by decide +kernel
theorem dX3_wants_11 : decode cX3_wants 11 = .ok (.iconst 1, 1) := by decide +kernel
theorem dX3_wants_12 : decode cX3_wants 12 = .ok (.goto 4, 3) := by decide +kernel
theorem dX3_wants_15 : decode cX3_wants 15 = .ok (.iconst 0, 1) := by decide +kernel
theorem dX3_wants_16 : decode cX3_wants 16 = .ok (.ireturn, 1) := by decide +kernel
theorem dX3_wants_4 : decode cX3_wants 4 = .ok (.iload_n 1, 1) := by decide +kernel
theorem dX3_wants_5 : decode cX3_wants 5 = .ok (.ishr, 1) := by decide +kernel
theorem dX3_wants_6 : decode cX3_wants 6 = .ok (.iconst 1, 1) := by decide +kernel
theorem dX3_wants_7 : decode cX3_wants 7 = .ok (.iand, 1) := by decide +kernel
theorem dX3_wants_8 : decode cX3_wants 8 = .ok (.ifCond .eq 7, 3) := by decide +kernel
set_option maxHeartbeats 4000000 in
set_option maxRecDepth 100000 in
theorem T_X3_wants (l : Launch) (D : va_G) (K : Nat → ClassId) (Z Y : Nat → Nat) (ad : Nat → Nat) (d : dSt) (t : tSt) (hok : okX t) (x1 : Int32) (hx1 : (0 : Int) ≤ x1.toInt ∧ x1.toInt ≤ 4) : tMet l yX3_wants cX3_wants 2 (some .boolean) (rmD 0 0 0) D K Z Y [.ref (ad 7), .int x1] ((WX d) K ad t) (QI D K (fun (r : Int32) (u : Unit) => (0 : Int) ≤ r.toInt ∧ r.toInt ≤ 1) (fun (_ : Unit) => (WX d) K ad t)) 0 0 := by
  refine t_met RX3 ⟨rfl, by decide +kernel⟩ (Nat.le_of_ble_eq_true rfl) ?_
  intro p e s m below meth c A ls C hE hZ hr hlocks hA hP hD hS hl
  have hl : lv_has ls 2 [(0, .ref (ad 7)), (1, .int x1)] := hl
  refine lv_aload_n C.1 C.2.1 dX3_wants_0 rfl (lv_at hl 0 rfl) ?_
  have h_1 : (0 : Int) ≤ (t.1 7 3).toInt ∧ (t.1 7 3).toInt ≤ 2147483647 := hok.1 7 3
  refine k_get (v := .int (t.1 7 3)) C hP 7 rfl rfl inlX3 3 (by decide) m_72_1 rfl dX3_wants_1 ?_
  refine lv_iload_n C.1 C.2.1 dX3_wants_4 rfl (lv_at hl 1 rfl) ?_
  obtain ⟨v_2, e_3⟩ : ∃ z, z = ((t.1 7 3) : Int32) >>> ((x1 : Int32) &&& 31) := ⟨_, rfl⟩
  have h_4 : (0 : Int) ≤ v_2.toInt ∧ v_2.toInt ≤ (t.1 7 3).toInt := by rw [e_3]; exact z_shr (by show (0 : Int) ≤ (t.1 7 3).toInt; omega)
  refine k_ishr (v := v_2) C e_3.symm dX3_wants_5 ?_
  refine lv_iconst (v := 1) C.1 C.2.1 dX3_wants_6 (by decide) ?_
  obtain ⟨v_5, e_6⟩ : ∃ z, z = (v_2 : Int32) &&& (1 : Int32) := ⟨_, rfl⟩
  have h_7 : v_5.toInt = v_2.toInt % 2 ^ 1 := by rw [e_6]; exact Jvm.Kit.i32_mask _ _ (k := 1) (by decide) (by decide)
  refine k_iand (v := v_5) C e_6.symm dX3_wants_7 ?_
  refine lv_if_eq (tgt := 15) C.1 C.2.1 dX3_wants_8 (by decide) (fun c_8 => ?_) (fun c_8 => ?_)
  · replace c_8 : v_5.toInt = 0 := i_eq c_8
    refine lv_iconst (v := 0) C.1 C.2.1 dX3_wants_15 (by decide) ?_
    exact g_iret C hr hlocks hP hD hS (by decide) () rfl ⟨by decide, by decide⟩ (Nat.le_of_ble_eq_true rfl) (Nat.le_of_ble_eq_true rfl) dX3_wants_16
  · replace c_8 : ¬ v_5.toInt = 0 := i_ne c_8
    refine lv_iconst (v := 1) C.1 C.2.1 dX3_wants_11 (by decide) ?_
    refine lv_goto (tgt := 16) C.1 C.2.1 dX3_wants_12 (by decide) ?_
    exact g_iret C hr hlocks hP hD hS (by decide) () rfl ⟨by decide, by decide⟩ (Nat.le_of_ble_eq_true rfl) (Nat.le_of_ble_eq_true rfl) dX3_wants_16


set_option maxHeartbeats 4000000 in
set_option maxRecDepth 100000 in
theorem T_X9_isDigitAt_1 (l : Launch) (D : va_G) (K : Nat → ClassId) (Z Y : Nat → Nat) (ad : Nat → Nat) (d : dSt) (t : tSt) (hok : okX t) (x1 : Int32) (hx1 : (5 : Int) ≤ x1.toInt ∧ x1.toInt ≤ 2147483647) : tMet l yX9_isDigitAt cX9_isDigitAt 2 (some .boolean) (rmD 0 0 0) D K Z Y [.ref (ad 2), .int x1] ((WX d) K ad t) (QI D K (fun (r : Int32) (u : Unit) => (0 : Int) ≤ r.toInt ∧ r.toInt ≤ 1 ∧ (r.toInt = 1 → 0 ≤ x1.toInt ∧ x1.toInt < 80) ∧ (r.toInt = 1 → 48 ≤ (t.2.2.1 9 (x1 : Int32).toNatClampNeg).toInt ∧ (t.2.2.1 9 (x1 : Int32).toNatClampNeg).toInt ≤ 57)) (fun (_ : Unit) => (WX d) K ad t)) 0 0 := by
  refine t_met RX9 ⟨rfl, by decide +kernel⟩ (Nat.le_of_ble_eq_true rfl) ?_
  intro p e s m below meth c A ls C hE hZ hr hlocks hA hP hD hS hl
  have hl : lv_has ls 2 [(0, .ref (ad 2)), (1, .int x1)] := hl
  refine lv_iload_n C.1 C.2.1 dX9_isDigitAt_0 rfl (lv_at hl 1 rfl) ?_
  refine lv_if_lt (tgt := 36) C.1 C.2.1 dX9_isDigitAt_1 (by decide) (fun c_1 => False.elim (by have c_1 : x1.toInt < 0 := i_lt c_1; omega)) (fun c_1 => ?_)
  replace c_1 : 0 ≤ x1.toInt := i_nlt c_1
  refine lv_iload_n C.1 C.2.1 dX9_isDigitAt_4 rfl (lv_at hl 1 rfl) ?_
  refine lv_bipush (v := 80) C.1 C.2.1 dX9_isDigitAt_5 (by decide) ?_
  refine lv_icmp_ge (tgt := 36) C.1 C.2.1 dX9_isDigitAt_7 (by decide) (fun c_2 => ?_) (fun c_2 => ?_)
  · replace c_2 : 80 ≤ x1.toInt := i_le c_2
    refine lv_iconst (v := 0) C.1 C.2.1 dX9_isDigitAt_36 (by decide) ?_
    exact g_iret C hr hlocks hP hD hS (by decide) () rfl ⟨by decide, by decide, (show 0 = 1 → 0 ≤ x1.toInt ∧ x1.toInt < 80 from by omega), (show 0 = 1 → 48 ≤ (t.2.2.1 9 (x1 : Int32).toNatClampNeg).toInt ∧ (t.2.2.1 9 (x1 : Int32).toNatClampNeg).toInt ≤ 57 from by omega)⟩ (Nat.le_of_ble_eq_true rfl) (Nat.le_of_ble_eq_true rfl) dX9_isDigitAt_37
  · replace c_2 : x1.toInt < 80 := i_nle c_2
    refine lv_aload_n C.1 C.2.1 dX9_isDigitAt_10 rfl (lv_at hl 0 rfl) ?_
    refine k_get (v := .ref (ad 9)) C hP 2 rfl rfl inlX9 1 (by decide) m_2_23 rfl dX9_isDigitAt_11 ?_
    refine lv_iload_n C.1 C.2.1 dX9_isDigitAt_14 rfl (lv_at hl 1 rfl) ?_
    have h_3 : (-128 : Int) ≤ (t.2.2.1 9 (x1 : Int32).toNatClampNeg).toInt ∧ (t.2.2.1 9 (x1 : Int32).toNatClampNeg).toInt ≤ 127 := hok.2.1 9 _
    refine k_bld (v := (t.2.2.1 9 (x1 : Int32).toNatClampNeg)) C hP 9 rfl (vp_in_iff.mpr ⟨by omega, by omega⟩) rfl dX9_isDigitAt_15 ?_
    refine lv_bipush (v := 48) C.1 C.2.1 dX9_isDigitAt_16 (by decide) ?_
    refine lv_icmp_lt (tgt := 36) C.1 C.2.1 dX9_isDigitAt_18 (by decide) (fun c_4 => ?_) (fun c_4 => ?_)
    · replace c_4 : (t.2.2.1 9 (x1 : Int32).toNatClampNeg).toInt < 48 := i_lt c_4
      refine lv_iconst (v := 0) C.1 C.2.1 dX9_isDigitAt_36 (by decide) ?_
      exact g_iret C hr hlocks hP hD hS (by decide) () rfl ⟨by decide, by decide, (show 0 = 1 → 0 ≤ x1.toInt ∧ x1.toInt < 80 from by omega), (show 0 = 1 → 48 ≤ (t.2.2.1 9 (x1 : Int32).toNatClampNeg).toInt ∧ (t.2.2.1 9 (x1 : Int32).toNatClampNeg).toInt ≤ 57 from by omega)⟩ (Nat.le_of_ble_eq_true rfl) (Nat.le_of_ble_eq_true rfl) dX9_isDigitAt_37
    · replace c_4 : 48 ≤ (t.2.2.1 9 (x1 : Int32).toNatClampNeg).toInt := i_nlt c_4
      refine lv_aload_n C.1 C.2.1 dX9_isDigitAt_21 rfl (lv_at hl 0 rfl) ?_
      refine k_get (v := .ref (ad 9)) C hP 2 rfl rfl inlX9 1 (by decide) m_2_23 rfl dX9_isDigitAt_22 ?_
      refine lv_iload_n C.1 C.2.1 dX9_isDigitAt_25 rfl (lv_at hl 1 rfl) ?_
      have h_5 : (-128 : Int) ≤ (t.2.2.1 9 (x1 : Int32).toNatClampNeg).toInt ∧ (t.2.2.1 9 (x1 : Int32).toNatClampNeg).toInt ≤ 127 := hok.2.1 9 _
      refine k_bld (v := (t.2.2.1 9 (x1 : Int32).toNatClampNeg)) C hP 9 rfl (vp_in_iff.mpr ⟨by omega, by omega⟩) rfl dX9_isDigitAt_26 ?_
      refine lv_bipush (v := 57) C.1 C.2.1 dX9_isDigitAt_27 (by decide) ?_
      refine lv_icmp_gt (tgt := 36) C.1 C.2.1 dX9_isDigitAt_29 (by decide) (fun c_6 => ?_) (fun c_6 => ?_)
      · replace c_6 : 57 < (t.2.2.1 9 (x1 : Int32).toNatClampNeg).toInt := i_lt c_6
        refine lv_iconst (v := 0) C.1 C.2.1 dX9_isDigitAt_36 (by decide) ?_
        exact g_iret C hr hlocks hP hD hS (by decide) () rfl ⟨by decide, by decide, (show 0 = 1 → 0 ≤ x1.toInt ∧ x1.toInt < 80 from by omega), (show 0 = 1 → 48 ≤ (t.2.2.1 9 (x1 : Int32).toNatClampNeg).toInt ∧ (t.2.2.1 9 (x1 : Int32).toNatClampNeg).toInt ≤ 57 from by omega)⟩ (Nat.le_of_ble_eq_true rfl) (Nat.le_of_ble_eq_true rfl) dX9_isDigitAt_37
      · replace c_6 : (t.2.2.1 9 (x1 : Int32).toNatClampNeg).toInt ≤ 57 := i_nlt c_6
        refine lv_iconst (v := 1) C.1 C.2.1 dX9_isDigitAt_32 (by decide) ?_
        refine lv_goto (tgt := 37) C.1 C.2.1 dX9_isDigitAt_33 (by decide) ?_
        exact g_iret C hr hlocks hP hD hS (by decide) () rfl ⟨by decide, by decide, (show 1 = 1 → 0 ≤ x1.toInt ∧ x1.toInt < 80 from by omega), (show 1 = 1 → 48 ≤ (t.2.2.1 9 (x1 : Int32).toNatClampNeg).toInt ∧ (t.2.2.1 9 (x1 : Int32).toNatClampNeg).toInt ≤ 57 from by omega)⟩ (Nat.le_of_ble_eq_true rfl) (Nat.le_of_ble_eq_true rfl) dX9_isDigitAt_37

theorem dX8_nextRead_0 : decode cX8_nextRead 0 = .ok (.iload_n 2, 1) := by decide +kernel
theorem dX8_nextRead_1 : decode cX8_nextRead 1 = .ok (.iconst 0, 1) := by decide +kernel
theorem dX8_nextRead_11 : decode cX8_nextRead 11 = .ok (.if_icmp .ge 21, 3) := by decide +kernel
theorem dX8_nextRead_14 : decode cX8_nextRead 14 = .ok (.aload_n 0, 1) := by decide +kernel
theorem dX8_nextRead_15 : decode cX8_nextRead 15 = .ok (.getfield 22, 3) := by decide +kernel
theorem dX8_nextRead_18 : decode cX8_nextRead 18 = .ok (.iload_n 3, 1) := by decide +kernel
theorem dX8_nextRead_19 : decode cX8_nextRead 19 = .ok (.iaload, 1) := by decide +kernel
theorem dX8_nextRead_2 : decode cX8_nextRead 2 = .ok (.invokestatic 58, 3) := by decide +kernel
theorem dX8_nextRead_20 : decode cX8_nextRead 20 = .ok (.iload_n 1, 1) := by decide +kernel
theorem dX8_nextRead_21 : decode cX8_nextRead 21 = .ok (.if_icmp .ne 5, 3) := by decide +kernel
theorem dX8_nextRead_24 : decode cX8_nextRead 24 = .ok (.iload_n 3, 1) := by decide +kernel
theorem dX8_nextRead_25 : decode cX8_nextRead 25 = .ok (.ireturn, 1) := by decide +kernel
theorem dX8_nextRead_26 : decode cX8_nextRead 26 = .ok (.iinc 3 1, 3) := by decide +kernel
theorem dX8_nextRead_29 : decode cX8_nextRead 29 = .ok (.goto (-23), 3) := by decide +kernel
theorem dX8_nextRead_32 : decode cX8_nextRead 32 = .ok (.iconst (-1), 1) := by decide +kernel
theorem dX8_nextRead_33 : decode cX8_nextRead 33 = .ok (.ireturn, 1) := by decide +kernel
theorem dX8_nextRead_5 : decode cX8_nextRead 5 = .ok (.istore_n 3, 1) := by decide +kernel
theorem dX8_nextRead_6 : decode cX8_nextRead 6 = .ok (.iload_n 3, 1) := by decide +kernel
theorem dX8_nextRead_7 : decode cX8_nextRead 7 = .ok (.aload_n 0, 1) := by decide +kernel
theorem dX8_nextRead_8 : decode cX8_nextRead 8 = .ok (.getfield 48, 3) := by decide +kernel
set_option maxHeartbeats 4000000 in
set_option maxRecDepth 100000 in
theorem T_X8_nextRead (l : Launch) (D : va_G) (K : Nat → ClassId) (Z Y : Nat → Nat) (ad : Nat → Nat) (d : dSt) (t : tSt) (hok : okX t) (x1 : Int32) (hx1 : (0 : Int) ≤ x1.toInt ∧ x1.toInt ≤ 1023) (x2 : Int32) (hx2 : (0 : Int) ≤ x2.toInt ∧ x2.toInt ≤ 4096) : tMet l yX8_nextRead cX8_nextRead 4 (some .int) (rmD 1 0 0) D K Z Y [.ref (ad 23), .int x1, .int x2] ((WX d) K ad t) (QI D K (fun (r : Int32) (u : Unit) => (-1 : Int) ≤ r.toInt ∧ r.toInt ≤ 2147483647 ∧ (r.toInt < (t.1 23 6).toInt ∨ r.toInt = -1)) (fun (_ : Unit) => (WX d) K ad t)) 0 0 := by
  refine t_met RX8 ⟨rfl, by decide +kernel⟩ (Nat.le_of_ble_eq_true rfl) ?_
  intro p e s m below meth c A ls C hE hZ hr hlocks hA hP hD hS hl
  have hl : lv_has ls 4 [(0, .ref (ad 23)), (1, .int x1), (2, .int x2)] := hl
  have h_1 : (0 : Int) ≤ (t.1 23 6).toInt ∧ (t.1 23 6).toInt ≤ 4096 := hok.1 23 6
  have L_6 : ∀ (fuel_6 : Nat) (w6_3 : Int32) (H : Heap) (locs : List Loc) (ls : Array Slot), (0 : Int) ≤ w6_3.toInt ∧ w6_3.toInt ≤ 4096 → (0 ≤ w6_3.toInt) → (w6_3.toInt ≤ 4096) → (4097 - w6_3.toInt) < (fuel_6 : Int) → va_P D vwCl ((WX d) K ad t) H → va_D A ((WX d) K ad t) → va_S A s.heap H locs → lv_has ls 4 [(0, .ref (ad 23)), (1, .int x1), (2, .int x2), (3, .int w6_3)] → W p l e (rmD 1 0 0) s m [.ref (ad 23), .int x1, .int x2].toArray below meth c H locs 0 0 (MQ below (QI D K (fun (r : Int32) (u : Unit) => (-1 : Int) ≤ r.toInt ∧ r.toInt ≤ 2147483647 ∧ (r.toInt < (t.1 23 6).toInt ∨ r.toInt = -1)) (fun (_ : Unit) => (WX d) K ad t) A) [.ref (ad 23), .int x1, .int x2].toArray s 0 0 A) (F0 m 6 ls []) := by
    intro fuel_6
    induction fuel_6 with
    | zero =>
      intro w6_3 H locs ls hw6_3 hi6_0 hi6_1 hm6_6 hP hD hS hl
      have h_2 : (0 : Int) ≤ (t.1 23 6).toInt ∧ (t.1 23 6).toInt ≤ 4096 := hok.1 23 6
      exact absurd hm6_6 (by omega)
    | succ fuel_6 ih_6 =>
      intro w6_3 H locs ls hw6_3 hi6_0 hi6_1 hm6_6 hP hD hS hl
      have hm6_6 : (4097 - w6_3.toInt) < (fuel_6 : Int) + 1 := by omega
      have h_3 : (0 : Int) ≤ (t.1 23 6).toInt ∧ (t.1 23 6).toInt ≤ 4096 := hok.1 23 6
      refine lv_iload_n C.1 C.2.1 dX8_nextRead_6 rfl (lv_at hl 3 rfl) ?_
      refine lv_aload_n C.1 C.2.1 dX8_nextRead_7 rfl (lv_at hl 0 rfl) ?_
      refine k_get (v := .int (t.1 23 6)) C hP 23 rfl rfl inlX8 6 (by decide) m_13_9 rfl dX8_nextRead_8 ?_
      refine lv_icmp_ge (tgt := 32) C.1 C.2.1 dX8_nextRead_11 (by decide) (fun c_4 => ?_) (fun c_4 => ?_)
      · replace c_4 : (t.1 23 6).toInt ≤ w6_3.toInt := i_le c_4
        refine lv_iconst (v := (-1)) C.1 C.2.1 dX8_nextRead_32 (by decide) ?_
        exact g_iret C hr hlocks hP hD hS rfl () rfl ⟨by decide, by decide, (show (-1) < (t.1 23 6).toInt ∨ (-1) = -1 from by omega)⟩ (Nat.le_of_ble_eq_true rfl) (Nat.le_of_ble_eq_true rfl) dX8_nextRead_33
      · replace c_4 : w6_3.toInt < (t.1 23 6).toInt := i_nle c_4
        refine lv_aload_n C.1 C.2.1 dX8_nextRead_14 rfl (lv_at hl 0 rfl) ?_
        refine k_get (v := .ref (ad 44)) C hP 23 rfl rfl inlX8 4 (by decide) m_5_2 rfl dX8_nextRead_15 ?_
        refine lv_iload_n C.1 C.2.1 dX8_nextRead_18 rfl (lv_at hl 3 rfl) ?_
        obtain ⟨v_5, e_6⟩ : ∃ z, z = (t.2.2.1 44 (w6_3 : Int32).toNatClampNeg) := ⟨_, rfl⟩
        have h_7 : (-1 : Int) ≤ v_5.toInt ∧ v_5.toInt ≤ 2147483647 := by rw [e_6]; exact hok.2.1 44 _
        refine k_ild (v := v_5) C hP 44 rfl (vp_in_iff.mpr ⟨by omega, by omega⟩) e_6.symm dX8_nextRead_19 ?_
        refine lv_iload_n C.1 C.2.1 dX8_nextRead_20 rfl (lv_at hl 1 rfl) ?_
        refine lv_icmp_ne (tgt := 26) C.1 C.2.1 dX8_nextRead_21 (by decide) (fun c_8 => ?_) (fun c_8 => ?_)
        · replace c_8 : ¬ v_5.toInt = x1.toInt := i_ne c_8
          obtain ⟨v_9, e_10⟩ : ∃ z, z = w6_3 + 1 := ⟨_, rfl⟩
          have h_11 : v_9.toInt = w6_3.toInt + 1 := by rw [e_10]; exact ti_iadd (by show (_ : Int) ≤ w6_3.toInt + 1; omega) (by show w6_3.toInt + 1 < (_ : Int); omega)
          refine lv_iinc (v := v_9) (lv' := [(3, .int v_9), (0, .ref (ad 23)), (1, .int x1), (2, .int x2)]) C.1 C.2.1 dX8_nextRead_26 hl (k := 3) rfl e_10.symm (by decide) rfl (fun ls hl => ?_)
          have hl : lv_has ls 4 [(0, .ref (ad 23)), (1, .int x1), (2, .int x2), (3, .int v_9)] := lv_sub hl [1, 2, 3, 0] rfl
          refine lv_goto (tgt := 6) C.1 C.2.1 dX8_nextRead_29 (by decide) ?_
          exact ih_6 v_9 _ _ _ ⟨by omega, by omega⟩ (show 0 ≤ v_9.toInt from by omega) (show v_9.toInt ≤ 4096 from by omega) (show (4097 - v_9.toInt) < (fuel_6 : Int) from by omega) hP hD hS (lv_sub hl [0, 1, 2, 3] rfl)
        · replace c_8 : v_5.toInt = x1.toInt := i_eq c_8
          refine lv_iload_n C.1 C.2.1 dX8_nextRead_24 rfl (lv_at hl 3 rfl) ?_
          exact g_iret C hr hlocks hP hD hS rfl () rfl ⟨by omega, by omega, (show w6_3.toInt < (t.1 23 6).toInt ∨ w6_3.toInt = -1 from by omega)⟩ (Nat.le_of_ble_eq_true rfl) (Nat.le_of_ble_eq_true rfl) dX8_nextRead_25
  refine lv_iload_n C.1 C.2.1 dX8_nextRead_0 rfl (lv_at hl 2 rfl) ?_
  refine lv_iconst (v := 0) C.1 C.2.1 dX8_nextRead_1 (by decide) ?_
  obtain ⟨v_13, e_12⟩ : ∃ z, z = if (x2 : Int32) < (0 : Int32) then (0 : Int32) else (x2 : Int32) := ⟨_, rfl⟩
  have h_14 : (0 : Int32).toInt = 0 := rfl
  have h_15 := mx_r e_12
  refine k_mmax (v := v_13) C hl.1 m_69_11 m_12_14 m_12_15 m_12_16 (Nat.le_of_ble_eq_true rfl) (Nat.le_of_ble_eq_true rfl) (Nat.le_of_ble_eq_true rfl) (Nat.le_of_ble_eq_true rfl) e_12.symm dX8_nextRead_2 ?_
  refine lv_istore_n (lv' := [(3, .int v_13), (0, .ref (ad 23)), (1, .int x1), (2, .int x2)]) C.1 C.2.1 dX8_nextRead_5 rfl hl (by decide) rfl (fun ls hl => ?_)
  have hl : lv_has ls 4 [(0, .ref (ad 23)), (1, .int x1), (2, .int x2), (3, .int v_13)] := lv_sub hl [1, 2, 3, 0] rfl
  exact L_6 5000 v_13 _ _ _ ⟨by omega, by omega⟩ (show 0 ≤ v_13.toInt from by omega) (show v_13.toInt ≤ 4096 from by omega) (show (4097 - v_13.toInt) < ((5000 : Nat) : Int) from by omega) hP hD hS (lv_sub hl [0, 1, 2, 3] rfl)

theorem dX3_enter_0 : decode cX3_enter 0 = .ok (.aload_n 0, 1) := by decide +kernel
theorem dX3_enter_1 : decode cX3_enter 1 = .ok (.getfield 25, 3) := by decide +kernel
theorem dX3_enter_10 : decode cX3_enter 10 = .ok (.aload_n 0, 1) := by decide +kernel
theorem dX3_enter_11 : decode cX3_enter 11 = .ok (.getfield 17, 3) := by decide +kernel
theorem dX3_enter_14 : decode cX3_enter 14 = .ok (.iconst 4, 1) := by decide +kernel
theorem dX3_enter_15 : decode cX3_enter 15 = .ok (.aload_n 0, 1) := by decide +kernel
theorem dX3_enter_16 : decode cX3_enter 16 = .ok (.getfield 25, 3) := by decide +kernel
theorem dX3_enter_19 : decode cX3_enter 19 = .ok (.imul, 1) := by decide +kernel
theorem dX3_enter_20 : decode cX3_enter 20 = .ok (.iload_n 1, 1) := by decide +kernel
theorem dX3_enter_21 : decode cX3_enter 21 = .ok (.iastore, 1) := by decide +kernel
theorem dX3_enter_22 : decode cX3_enter 22 = .ok (.aload_n 0, 1) := by decide +kernel
theorem dX3_enter_23 : decode cX3_enter 23 = .ok (.getfield 17, 3) := by decide +kernel
theorem dX3_enter_26 : decode cX3_enter 26 = .ok (.iconst 4, 1) := by decide +kernel
theorem dX3_enter_27 : decode cX3_enter 27 = .ok (.aload_n 0, 1) := by decide +kernel
theorem dX3_enter_28 : decode cX3_enter 28 = .ok (.getfield 25, 3) := by decide +kernel
theorem dX3_enter_31 : decode cX3_enter 31 = .ok (.imul, 1) := by decide +kernel
theorem dX3_enter_32 : decode cX3_enter 32 = .ok (.iconst 1, 1) := by decide +kernel
theorem dX3_enter_33 : decode cX3_enter 33 = .ok (.iadd, 1) := by decide +kernel
theorem dX3_enter_34 : decode cX3_enter 34 = .ok (.iload_n 2, 1) := by decide +kernel
theorem dX3_enter_35 : decode cX3_enter 35 = .ok (.iastore, 1) := by decide +kernel
theorem dX3_enter_36 : decode cX3_enter 36 = .ok (.aload_n 0, 1) := by decide +kernel
theorem dX3_enter_37 : decode cX3_enter 37 = .ok (.getfield 17, 3) := by decide +kernel
theorem dX3_enter_4 : decode cX3_enter 4 = .ok (.sipush 512, 3) := by decide +kernel
theorem dX3_enter_40 : decode cX3_enter 40 = .ok (.iconst 4, 1) := by decide +kernel
theorem dX3_enter_41 : decode cX3_enter 41 = .ok (.aload_n 0, 1) := by decide +kernel
theorem dX3_enter_42 : decode cX3_enter 42 = .ok (.getfield 25, 3) := by decide +kernel
theorem dX3_enter_45 : decode cX3_enter 45 = .ok (.imul, 1) := by decide +kernel
theorem dX3_enter_46 : decode cX3_enter 46 = .ok (.iconst 2, 1) := by decide +kernel
theorem dX3_enter_47 : decode cX3_enter 47 = .ok (.iadd, 1) := by decide +kernel
theorem dX3_enter_48 : decode cX3_enter 48 = .ok (.aload_n 0, 1) := by decide +kernel
theorem dX3_enter_49 : decode cX3_enter 49 = .ok (.getfield 173, 3) := by decide +kernel
theorem dX3_enter_52 : decode cX3_enter 52 = .ok (.iastore, 1) := by decide +kernel
theorem dX3_enter_53 : decode cX3_enter 53 = .ok (.aload_n 0, 1) := by decide +kernel
theorem dX3_enter_54 : decode cX3_enter 54 = .ok (.getfield 17, 3) := by decide +kernel
theorem dX3_enter_57 : decode cX3_enter 57 = .ok (.iconst 4, 1) := by decide +kernel
theorem dX3_enter_58 : decode cX3_enter 58 = .ok (.aload_n 0, 1) := by decide +kernel
theorem dX3_enter_59 : decode cX3_enter 59 = .ok (.getfield 25, 3) := by decide +kernel
theorem dX3_enter_62 : decode cX3_enter 62 = .ok (.imul, 1) := by decide +kernel
theorem dX3_enter_63 : decode cX3_enter 63 = .ok (.iconst 3, 1) := by decide +kernel
theorem dX3_enter_64 : decode cX3_enter 64 = .ok (.iadd, 1) := by decide +kernel
theorem dX3_enter_65 : decode cX3_enter 65 = .ok (.iload_n 3, 1) := by decide +kernel
theorem dX3_enter_66 : decode cX3_enter 66 = .ok (.iastore, 1) := by decide +kernel
theorem dX3_enter_67 : decode cX3_enter 67 = .ok (.aload_n 0, 1) := by decide +kernel
theorem dX3_enter_68 : decode cX3_enter 68 = .ok (.dup, 1) := by decide +kernel
theorem dX3_enter_69 : decode cX3_enter 69 = .ok (.getfield 25, 3) := by decide +kernel
theorem dX3_enter_7 : decode cX3_enter 7 = .ok (.if_icmp .ge 70, 3) := by decide +kernel
theorem dX3_enter_72 : decode cX3_enter 72 = .ok (.iconst 1, 1) := by decide +kernel
theorem dX3_enter_73 : decode cX3_enter 73 = .ok (.iadd, 1) := by decide +kernel
theorem dX3_enter_74 : decode cX3_enter 74 = .ok (.putfield 25, 3) := by decide +kernel
theorem dX3_enter_77 : decode cX3_enter 77 = .ok (.return_, 1) := by decide +kernel
set_option maxHeartbeats 4000000 in
set_option maxRecDepth 100000 in
theorem T_X3_enter (l : Launch) (D : va_G) (K : Nat → ClassId) (Z Y : Nat → Nat) (ad : Nat → Nat) (d : dSt) (t : tSt) (hok : okX t) (x1 : Int32) (hx1 : (0 : Int) ≤ x1.toInt ∧ x1.toInt ≤ 4) (x2 : Int32) (hx2 : (-1 : Int) ≤ x2.toInt ∧ x2.toInt ≤ 8) (x3 : Int32) : tMet l yX3_enter cX3_enter 4 none (rmD 0 0 0) D K Z Y [.ref (ad 7), .int x1, .int x2, .int x3] ((WX d) K ad t) (QV D K (fun (u : tSt) => okX u ∧ frA [(7, 12)] [] [31] [] t u) (fun (u : tSt) => (WX d) K ad u)) 0 0 := by
  refine t_met RX3 ⟨rfl, by decide +kernel⟩ (Nat.le_of_ble_eq_true rfl) ?_
  intro p e s m below meth c A ls C hE hZ hr hlocks hA hP hD hS hl
  have hl : lv_has ls 4 [(0, .ref (ad 7)), (1, .int x1), (2, .int x2), (3, .int x3)] := hl
  have hokt := hok
  have hfr : frA [(7, 12)] [] [31] [] t t := frA_rf
  refine lv_aload_n C.1 C.2.1 dX3_enter_0 rfl (lv_at hl 0 rfl) ?_
  have h_1 : (0 : Int) ≤ (t.1 7 12).toInt ∧ (t.1 7 12).toInt ≤ 512 := hok.1 7 12
  refine k_get (v := .int (t.1 7 12)) C hP 7 rfl rfl inlX3 12 (by decide) m_74_8 rfl dX3_enter_1 ?_
  refine lv_sipush (v := 512) C.1 C.2.1 dX3_enter_4 (by decide) ?_
  refine lv_icmp_ge (tgt := 77) C.1 C.2.1 dX3_enter_7 (by decide) (fun c_2 => ?_) (fun c_2 => ?_)
  · replace c_2 : 512 ≤ (t.1 7 12).toInt := i_le c_2
    exact g_vret C hr hlocks hP hD hS t rfl ⟨hok, hfr⟩ (Nat.le_of_ble_eq_true rfl) (Nat.le_of_ble_eq_true rfl) dX3_enter_77
  · replace c_2 : (t.1 7 12).toInt < 512 := i_nle c_2
    refine lv_aload_n C.1 C.2.1 dX3_enter_10 rfl (lv_at hl 0 rfl) ?_
    refine k_get (v := .ref (ad 31)) C hP 7 rfl rfl inlX3 11 (by decide) m_6_22 rfl dX3_enter_11 ?_
    refine lv_iconst (v := 4) C.1 C.2.1 dX3_enter_14 (by decide) ?_
    refine lv_aload_n C.1 C.2.1 dX3_enter_15 rfl (lv_at hl 0 rfl) ?_
    refine k_get (v := .int (t.1 7 12)) C hP 7 rfl rfl inlX3 12 (by decide) m_74_8 rfl dX3_enter_16 ?_
    obtain ⟨v_3, e_4⟩ : ∃ z, z = (4 : Int32) * ((t.1 7 12) : Int32) := ⟨_, rfl⟩
    have h_5 : v_3.toInt = 4 * (t.1 7 12).toInt := by rw [e_4]; exact ti_mull (k := 4) (by decide) (by omega) (by omega)
    refine k_imul (v := v_3) C e_4.symm dX3_enter_19 ?_
    refine lv_iload_n C.1 C.2.1 dX3_enter_20 rfl (lv_at hl 1 rfl) ?_
    refine k_ist (ws' := (WX d) K ad (uB t 31 (v_3 : Int32).toNatClampNeg x1)) (x' := x1) C hP hD hS 31 rfl (vp_in_iff.mpr ⟨by omega, by omega⟩) rfl rfl rfl dX3_enter_21 (fun H locs hP hD hS => ?_)
    have hok : okX (uB t 31 (v_3 : Int32).toNatClampNeg x1) := ⟨hok.1, okB_B hok.2.1 31 _ x1 (show (-2147483648 : Int) ≤ (x1 : Int32).toInt ∧ (x1 : Int32).toInt ≤ 2147483647 from (i_rng _)), trivial⟩
    have hfr : frA [(7, 12)] [] [31] [] t (uB t 31 (v_3 : Int32).toNatClampNeg x1) := frA_B hfr 31 _ _ rfl
    refine lv_aload_n C.1 C.2.1 dX3_enter_22 rfl (lv_at hl 0 rfl) ?_
    refine k_get (v := .ref (ad 31)) C hP 7 rfl rfl inlX3 11 (by decide) m_6_22 rfl dX3_enter_23 ?_
    refine lv_iconst (v := 4) C.1 C.2.1 dX3_enter_26 (by decide) ?_
    refine lv_aload_n C.1 C.2.1 dX3_enter_27 rfl (lv_at hl 0 rfl) ?_
    refine k_get (v := .int (t.1 7 12)) C hP 7 rfl rfl inlX3 12 (by decide) m_74_8 rfl dX3_enter_28 ?_
    obtain ⟨v_6, e_7⟩ : ∃ z, z = (4 : Int32) * ((t.1 7 12) : Int32) := ⟨_, rfl⟩
    have h_8 : v_6.toInt = 4 * (t.1 7 12).toInt := by rw [e_7]; exact ti_mull (k := 4) (by decide) (by omega) (by omega)
    refine k_imul (v := v_6) C e_7.symm dX3_enter_31 ?_
    refine lv_iconst (v := 1) C.1 C.2.1 dX3_enter_32 (by decide) ?_
    obtain ⟨v_9, e_10⟩ : ∃ z, z = (v_6 : Int32) + (1 : Int32) := ⟨_, rfl⟩
    have h_11 : v_9.toInt = v_6.toInt + 1 := by rw [e_10]; exact ti_iadd (by show (_ : Int) ≤ v_6.toInt + 1; omega) (by show v_6.toInt + 1 < (_ : Int); omega)
    refine k_iadd (v := v_9) C e_10.symm dX3_enter_33 ?_
    refine lv_iload_n C.1 C.2.1 dX3_enter_34 rfl (lv_at hl 2 rfl) ?_
    obtain ⟨t_12, e_13⟩ : ∃ z, z = (uB t 31 (v_3 : Int32).toNatClampNeg x1) := ⟨_, rfl⟩
    rw [← e_13] at hP hD hok hfr
    have h_14 : (t_12.1 7 12).toInt = ((t.1 7 12) : Int32).toInt := by rw [e_13]; rfl
    refine k_ist (ws' := (WX d) K ad (uB t_12 31 (v_9 : Int32).toNatClampNeg x2)) (x' := x2) C hP hD hS 31 rfl (vp_in_iff.mpr ⟨by omega, by omega⟩) rfl rfl rfl dX3_enter_35 (fun H locs hP hD hS => ?_)
    have hok : okX (uB t_12 31 (v_9 : Int32).toNatClampNeg x2) := ⟨hok.1, okB_B hok.2.1 31 _ x2 (show (-2147483648 : Int) ≤ (x2 : Int32).toInt ∧ (x2 : Int32).toInt ≤ 2147483647 from (i_rng _)), trivial⟩
    have hfr : frA [(7, 12)] [] [31] [] t (uB t_12 31 (v_9 : Int32).toNatClampNeg x2) := frA_B hfr 31 _ _ rfl
    refine lv_aload_n C.1 C.2.1 dX3_enter_36 rfl (lv_at hl 0 rfl) ?_
    refine k_get (v := .ref (ad 31)) C hP 7 rfl rfl inlX3 11 (by decide) m_6_22 rfl dX3_enter_37 ?_
    refine lv_iconst (v := 4) C.1 C.2.1 dX3_enter_40 (by decide) ?_
    refine lv_aload_n C.1 C.2.1 dX3_enter_41 rfl (lv_at hl 0 rfl) ?_
    refine k_get (v := .int (t_12.1 7 12)) C hP 7 rfl rfl inlX3 12 (by decide) m_74_8 rfl dX3_enter_42 ?_
    obtain ⟨v_15, e_16⟩ : ∃ z, z = (4 : Int32) * ((t_12.1 7 12) : Int32) := ⟨_, rfl⟩
    have h_17 : v_15.toInt = 4 * (t_12.1 7 12).toInt := by rw [e_16]; exact ti_mull (k := 4) (by decide) (by omega) (by omega)
    refine k_imul (v := v_15) C e_16.symm dX3_enter_45 ?_
    refine lv_iconst (v := 2) C.1 C.2.1 dX3_enter_46 (by decide) ?_
    obtain ⟨v_18, e_19⟩ : ∃ z, z = (v_15 : Int32) + (2 : Int32) := ⟨_, rfl⟩
    have h_20 : v_18.toInt = v_15.toInt + 2 := by rw [e_19]; exact ti_iadd (by show (_ : Int) ≤ v_15.toInt + 2; omega) (by show v_15.toInt + 2 < (_ : Int); omega)
    refine k_iadd (v := v_18) C e_19.symm dX3_enter_47 ?_
    refine lv_aload_n C.1 C.2.1 dX3_enter_48 rfl (lv_at hl 0 rfl) ?_
    refine k_get (v := .int (t_12.1 7 10)) C hP 7 rfl rfl inlX3 10 (by decide) m_77_10 rfl dX3_enter_49 ?_
    obtain ⟨t_21, e_22⟩ : ∃ z, z = (uB t_12 31 (v_9 : Int32).toNatClampNeg x2) := ⟨_, rfl⟩
    rw [← e_22] at hP hD hok hfr
    have h_23 : (t_21.1 7 12).toInt = ((t_12.1 7 12) : Int32).toInt := by rw [e_22]; rfl
    have h_24 : (t_21.1 7 10).toInt = ((t_12.1 7 10) : Int32).toInt := by rw [e_22]; rfl
    refine k_ist (ws' := (WX d) K ad (uB t_21 31 (v_18 : Int32).toNatClampNeg (t_12.1 7 10))) (x' := (t_12.1 7 10)) C hP hD hS 31 rfl (vp_in_iff.mpr ⟨by omega, by omega⟩) rfl rfl rfl dX3_enter_52 (fun H locs hP hD hS => ?_)
    have hok : okX (uB t_21 31 (v_18 : Int32).toNatClampNeg (t_12.1 7 10)) := ⟨hok.1, okB_B hok.2.1 31 _ (t_12.1 7 10) (show (-2147483648 : Int) ≤ ((t_12.1 7 10) : Int32).toInt ∧ ((t_12.1 7 10) : Int32).toInt ≤ 2147483647 from (i_rng _)), trivial⟩
    have hfr : frA [(7, 12)] [] [31] [] t (uB t_21 31 (v_18 : Int32).toNatClampNeg (t_12.1 7 10)) := frA_B hfr 31 _ _ rfl
    refine lv_aload_n C.1 C.2.1 dX3_enter_53 rfl (lv_at hl 0 rfl) ?_
    refine k_get (v := .ref (ad 31)) C hP 7 rfl rfl inlX3 11 (by decide) m_6_22 rfl dX3_enter_54 ?_
    refine lv_iconst (v := 4) C.1 C.2.1 dX3_enter_57 (by decide) ?_
    refine lv_aload_n C.1 C.2.1 dX3_enter_58 rfl (lv_at hl 0 rfl) ?_
    refine k_get (v := .int (t_21.1 7 12)) C hP 7 rfl rfl inlX3 12 (by decide) m_74_8 rfl dX3_enter_59 ?_
    obtain ⟨v_25, e_26⟩ : ∃ z, z = (4 : Int32) * ((t_21.1 7 12) : Int32) := ⟨_, rfl⟩
    have h_27 : v_25.toInt = 4 * (t_21.1 7 12).toInt := by rw [e_26]; exact ti_mull (k := 4) (by decide) (by omega) (by omega)
    refine k_imul (v := v_25) C e_26.symm dX3_enter_62 ?_
    refine lv_iconst (v := 3) C.1 C.2.1 dX3_enter_63 (by decide) ?_
    obtain ⟨v_28, e_29⟩ : ∃ z, z = (v_25 : Int32) + (3 : Int32) := ⟨_, rfl⟩
    have h_30 : v_28.toInt = v_25.toInt + 3 := by rw [e_29]; exact ti_iadd (by show (_ : Int) ≤ v_25.toInt + 3; omega) (by show v_25.toInt + 3 < (_ : Int); omega)
    refine k_iadd (v := v_28) C e_29.symm dX3_enter_64 ?_
    refine lv_iload_n C.1 C.2.1 dX3_enter_65 rfl (lv_at hl 3 rfl) ?_
    obtain ⟨t_31, e_32⟩ : ∃ z, z = (uB t_21 31 (v_18 : Int32).toNatClampNeg (t_12.1 7 10)) := ⟨_, rfl⟩
    rw [← e_32] at hP hD hok hfr
    have h_33 : (t_31.1 7 12).toInt = ((t_21.1 7 12) : Int32).toInt := by rw [e_32]; rfl
    have h_34 : (t_31.1 7 10).toInt = ((t_21.1 7 10) : Int32).toInt := by rw [e_32]; rfl
    refine k_ist (ws' := (WX d) K ad (uB t_31 31 (v_28 : Int32).toNatClampNeg x3)) (x' := x3) C hP hD hS 31 rfl (vp_in_iff.mpr ⟨by omega, by omega⟩) rfl rfl rfl dX3_enter_66 (fun H locs hP hD hS => ?_)
    have hok : okX (uB t_31 31 (v_28 : Int32).toNatClampNeg x3) := ⟨hok.1, okB_B hok.2.1 31 _ x3 (show (-2147483648 : Int) ≤ (x3 : Int32).toInt ∧ (x3 : Int32).toInt ≤ 2147483647 from (i_rng _)), trivial⟩
    have hfr : frA [(7, 12)] [] [31] [] t (uB t_31 31 (v_28 : Int32).toNatClampNeg x3) := frA_B hfr 31 _ _ rfl
    refine lv_aload_n C.1 C.2.1 dX3_enter_67 rfl (lv_at hl 0 rfl) ?_
    refine lv_dup C.1 C.2.1 dX3_enter_68 rfl ?_
    refine k_get (v := .int (t_31.1 7 12)) C hP 7 rfl rfl inlX3 12 (by decide) m_74_8 rfl dX3_enter_69 ?_
    refine lv_iconst (v := 1) C.1 C.2.1 dX3_enter_72 (by decide) ?_
    obtain ⟨v_35, e_36⟩ : ∃ z, z = ((t_31.1 7 12) : Int32) + (1 : Int32) := ⟨_, rfl⟩
    have h_37 : v_35.toInt = (t_31.1 7 12).toInt + 1 := by rw [e_36]; exact ti_iadd (by show (_ : Int) ≤ (t_31.1 7 12).toInt + 1; omega) (by show (t_31.1 7 12).toInt + 1 < (_ : Int); omega)
    refine k_iadd (v := v_35) C e_36.symm dX3_enter_73 ?_
    refine k_put (ws' := (WX d) K ad (uI (uB t_31 31 (v_28 : Int32).toNatClampNeg x3) 7 12 v_35)) (v := .int v_35) C hP hD hS 7 rfl rfl inlX3 tyX3_ok nmX3 12 (by decide) m_74_8 rfl rfl rfl rfl rfl dX3_enter_74 (fun H locs hP hD hS => ?_)
    have hok : okX (uI (uB t_31 31 (v_28 : Int32).toNatClampNeg x3) 7 12 v_35) := ⟨okI_I hok.1 7 12 v_35 (show (0 : Int) ≤ (v_35 : Int32).toInt ∧ (v_35 : Int32).toInt ≤ 512 from ⟨by omega, by omega⟩), hok.2.1, trivial⟩
    have hfr : frA [(7, 12)] [] [31] [] t (uI (uB t_31 31 (v_28 : Int32).toNatClampNeg x3) 7 12 v_35) := frA_I hfr 7 12 _ rfl
    exact g_vret C hr hlocks hP hD hS (uI (uB t_31 31 (v_28 : Int32).toNatClampNeg x3) 7 12 v_35) rfl ⟨hok, hfr⟩ (Nat.le_of_ble_eq_true rfl) (Nat.le_of_ble_eq_true rfl) dX3_enter_77

theorem dX8_lineOfRead_0 : decode cX8_lineOfRead 0 = .ok (.iload_n 1, 1) := by decide +kernel
theorem dX8_lineOfRead_1 : decode cX8_lineOfRead 1 = .ok (.ifCond .lt 20, 3) := by decide +kernel
theorem dX8_lineOfRead_12 : decode cX8_lineOfRead 12 = .ok (.aload_n 0, 1) := by decide +kernel
theorem dX8_lineOfRead_13 : decode cX8_lineOfRead 13 = .ok (.getfield 25, 3) := by decide +kernel
theorem dX8_lineOfRead_16 : decode cX8_lineOfRead 16 = .ok (.iload_n 1, 1) := by decide +kernel
theorem dX8_lineOfRead_17 : decode cX8_lineOfRead 17 = .ok (.iaload, 1) := by decide +kernel
theorem dX8_lineOfRead_18 : decode cX8_lineOfRead 18 = .ok (.goto 4, 3) := by decide +kernel
theorem dX8_lineOfRead_21 : decode cX8_lineOfRead 21 = .ok (.iconst 0, 1) := by decide +kernel
theorem dX8_lineOfRead_22 : decode cX8_lineOfRead 22 = .ok (.ireturn, 1) := by decide +kernel
theorem dX8_lineOfRead_4 : decode cX8_lineOfRead 4 = .ok (.iload_n 1, 1) := by decide +kernel
theorem dX8_lineOfRead_5 : decode cX8_lineOfRead 5 = .ok (.aload_n 0, 1) := by decide +kernel
theorem dX8_lineOfRead_6 : decode cX8_lineOfRead 6 = .ok (.getfield 48, 3) := by decide +kernel
theorem dX8_lineOfRead_9 : decode cX8_lineOfRead 9 = .ok (.if_icmp .ge 12, 3) := by decide +kernel
set_option maxHeartbeats 4000000 in
set_option maxRecDepth 100000 in
theorem T_X8_lineOfRead (l : Launch) (D : va_G) (K : Nat → ClassId) (Z Y : Nat → Nat) (ad : Nat → Nat) (d : dSt) (t : tSt) (hok : okX t) (x1 : Int32) (hx1 : (0 : Int) ≤ x1.toInt ∧ x1.toInt ≤ 2147483647) : tMet l yX8_lineOfRead cX8_lineOfRead 2 (some .int) (rmD 0 0 0) D K Z Y [.ref (ad 23), .int x1] ((WX d) K ad t) (QI D K (fun (r : Int32) (u : Unit) => (-2147483648 : Int) ≤ r.toInt ∧ r.toInt ≤ 2147483647) (fun (_ : Unit) => (WX d) K ad t)) 0 0 := by
  refine t_met RX8 ⟨rfl, by decide +kernel⟩ (Nat.le_of_ble_eq_true rfl) ?_
  intro p e s m below meth c A ls C hE hZ hr hlocks hA hP hD hS hl
  have hl : lv_has ls 2 [(0, .ref (ad 23)), (1, .int x1)] := hl
  refine lv_iload_n C.1 C.2.1 dX8_lineOfRead_0 rfl (lv_at hl 1 rfl) ?_
  refine lv_if_lt (tgt := 21) C.1 C.2.1 dX8_lineOfRead_1 (by decide) (fun c_1 => False.elim (by have c_1 : x1.toInt < 0 := i_lt c_1; omega)) (fun c_1 => ?_)
  replace c_1 : 0 ≤ x1.toInt := i_nlt c_1
  refine lv_iload_n C.1 C.2.1 dX8_lineOfRead_4 rfl (lv_at hl 1 rfl) ?_
  refine lv_aload_n C.1 C.2.1 dX8_lineOfRead_5 rfl (lv_at hl 0 rfl) ?_
  have h_2 : (0 : Int) ≤ (t.1 23 6).toInt ∧ (t.1 23 6).toInt ≤ 4096 := hok.1 23 6
  refine k_get (v := .int (t.1 23 6)) C hP 23 rfl rfl inlX8 6 (by decide) m_13_9 rfl dX8_lineOfRead_6 ?_
  refine lv_icmp_ge (tgt := 21) C.1 C.2.1 dX8_lineOfRead_9 (by decide) (fun c_3 => ?_) (fun c_3 => ?_)
  · replace c_3 : (t.1 23 6).toInt ≤ x1.toInt := i_le c_3
    refine lv_iconst (v := 0) C.1 C.2.1 dX8_lineOfRead_21 (by decide) ?_
    exact g_iret C hr hlocks hP hD hS rfl () rfl ⟨(i_rng _).1, (i_rng _).2⟩ (Nat.le_of_ble_eq_true rfl) (Nat.le_of_ble_eq_true rfl) dX8_lineOfRead_22
  · replace c_3 : x1.toInt < (t.1 23 6).toInt := i_nle c_3
    refine lv_aload_n C.1 C.2.1 dX8_lineOfRead_12 rfl (lv_at hl 0 rfl) ?_
    refine k_get (v := .ref (ad 45)) C hP 23 rfl rfl inlX8 5 (by decide) m_5_3 rfl dX8_lineOfRead_13 ?_
    refine lv_iload_n C.1 C.2.1 dX8_lineOfRead_16 rfl (lv_at hl 1 rfl) ?_
    obtain ⟨v_4, e_5⟩ : ∃ z, z = (t.2.2.1 45 (x1 : Int32).toNatClampNeg) := ⟨_, rfl⟩
    refine k_ild (v := v_4) C hP 45 rfl (vp_in_iff.mpr ⟨by omega, by omega⟩) e_5.symm dX8_lineOfRead_17 ?_
    refine lv_goto (tgt := 22) C.1 C.2.1 dX8_lineOfRead_18 (by decide) ?_
    exact g_iret C hr hlocks hP hD hS rfl () rfl ⟨(i_rng _).1, (i_rng _).2⟩ (Nat.le_of_ble_eq_true rfl) (Nat.le_of_ble_eq_true rfl) dX8_lineOfRead_22

theorem dX4_text_0 : decode cX4_text 0 = .ok (.iconst 0, 1) := by decide +kernel
theorem dX4_text_1 : decode cX4_text 1 = .ok (.istore_n 3, 1) := by decide +kernel
theorem dX4_text_10 : decode cX4_text 10 = .ok (.aload_n 0, 1) := by decide +kernel
theorem dX4_text_11 : decode cX4_text 11 = .ok (.iload_n 1, 1) := by decide +kernel
theorem dX4_text_12 : decode cX4_text 12 = .ok (.iload_n 3, 1) := by decide +kernel
theorem dX4_text_13 : decode cX4_text 13 = .ok (.iadd, 1) := by decide +kernel
theorem dX4_text_14 : decode cX4_text 14 = .ok (.aload_n 2, 1) := by decide +kernel
theorem dX4_text_15 : decode cX4_text 15 = .ok (.iload_n 3, 1) := by decide +kernel
theorem dX4_text_16 : decode cX4_text 16 = .ok (.invokevirtual 30, 3) := by decide +kernel
theorem dX4_text_19 : decode cX4_text 19 = .ok (.invokevirtual 34, 3) := by decide +kernel
theorem dX4_text_2 : decode cX4_text 2 = .ok (.iload_n 3, 1) := by decide +kernel
theorem dX4_text_22 : decode cX4_text 22 = .ok (.iinc 3 1, 3) := by decide +kernel
theorem dX4_text_25 : decode cX4_text 25 = .ok (.goto (-23), 3) := by decide +kernel
theorem dX4_text_28 : decode cX4_text 28 = .ok (.return_, 1) := by decide +kernel
theorem dX4_text_3 : decode cX4_text 3 = .ok (.aload_n 2, 1) := by decide +kernel
theorem dX4_text_4 : decode cX4_text 4 = .ok (.invokevirtual 24, 3) := by decide +kernel
theorem dX4_text_7 : decode cX4_text 7 = .ok (.if_icmp .ge 21, 3) := by decide +kernel
set_option maxHeartbeats 4000000 in
set_option maxRecDepth 100000 in
theorem T_X4_text (l : Launch) (D : va_G) (K : Nat → ClassId) (Z Y : Nat → Nat) (ad : Nat → Nat) (d : dSt) (t : tSt) (hok : okX t) (x1 : Int32) (i2 : Nat) (hi2 : sS i2) : tMet l yX4_text cX4_text 4 none (rmD 4 0 0) D K Z Y [.ref (ad 20), .int x1, .ref (Z i2)] ((WX d) K ad t) (QV D K (fun (u : tSt) => okX u ∧ frA [] [] [37] [] t u) (fun (u : tSt) => (WX d) K ad u)) 0 0 := by
  refine t_met RX4 ⟨rfl, by decide +kernel⟩ (Nat.le_of_ble_eq_true rfl) ?_
  intro p e s m below meth c A ls C hE hZ hr hlocks hA hP hD hS hl
  have hl : lv_has ls 4 [(0, .ref (ad 20)), (1, .int x1), (2, .ref (Z i2))] := hl
  have hokt := hok
  have hfr : frA [] [] [37] [] t t := frA_rf
  have L_2 : ∀ (fuel_2 : Nat) (t1 : tSt) (w2_3 : Int32) (H : Heap) (locs : List Loc) (ls : Array Slot), okX t1 → frA [] [] [37] [] t t1 → (0 : Int) ≤ w2_3.toInt ∧ w2_3.toInt ≤ 400 → (400 : Int) - w2_3.toInt < (fuel_2 : Int) → va_P D vwCl ((WX d) K ad t1) H → va_D A ((WX d) K ad t1) → va_S A s.heap H locs → lv_has ls 4 [(0, .ref (ad 20)), (1, .int x1), (2, .ref (Z i2)), (3, .int w2_3)] → W p l e (rmD 4 0 0) s m [.ref (ad 20), .int x1, .ref (Z i2)].toArray below meth c H locs 0 0 (MQ below (QV D K (fun (u : tSt) => okX u ∧ frA [] [] [37] [] t u) (fun (u : tSt) => (WX d) K ad u) A) [.ref (ad 20), .int x1, .ref (Z i2)].toArray s 0 0 A) (F0 m 2 ls []) := by
    intro fuel_2
    induction fuel_2 with
    | zero =>
      intro t1 w2_3 H locs ls hok hfr hw2_3 hm2_2 hP hD hS hl
      exact absurd hm2_2 (by omega)
    | succ fuel_2 ih_2 =>
      intro t1 w2_3 H locs ls hok hfr hw2_3 hm2_2 hP hD hS hl
      have hm2_2 : (400 : Int) - w2_3.toInt < (fuel_2 : Int) + 1 := by omega
      refine lv_iload_n C.1 C.2.1 dX4_text_2 rfl (lv_at hl 3 rfl) ?_
      refine lv_aload_n C.1 C.2.1 dX4_text_3 rfl (lv_at hl 2 rfl) ?_
      refine g_Ti (As := []) (rest := [.int w2_3]) C hP hD hS hA (TJ_length l D K Z Y ((WX d) K ad t1) i2 (sS_lt hi2)) hE hZ (uwV m_78_4 m_14_22 m_14_23 m_14_8 m_15_0) (hdV 0 (by decide +kernel) rfl) ⟨Nat.le_of_ble_eq_true rfl, Nat.le_of_ble_eq_true rfl⟩ rfl rfl (i0 := i2) (sS_lt hi2) rfl rfl hl.1 (Nat.le_of_ble_eq_true rfl) dX4_text_4 ⟨Nat.le_of_ble_eq_true rfl, Nat.le_of_ble_eq_true rfl⟩ (fun r_1 u_r_1 H locs hw hP hD hS => ?_)
      have h_2 : r_1.toInt = sL i2 := hw
      have h_3 := sS_len hi2
      refine lv_icmp_ge (tgt := 28) C.1 C.2.1 dX4_text_7 (by decide) (fun c_4 => ?_) (fun c_4 => ?_)
      · replace c_4 : r_1.toInt ≤ w2_3.toInt := i_le c_4
        exact g_vret C hr hlocks hP hD hS t1 rfl ⟨hok, hfr⟩ (Nat.le_of_ble_eq_true rfl) (Nat.le_of_ble_eq_true rfl) dX4_text_28
      · replace c_4 : w2_3.toInt < r_1.toInt := i_nle c_4
        refine lv_aload_n C.1 C.2.1 dX4_text_10 rfl (lv_at hl 0 rfl) ?_
        refine lv_iload_n C.1 C.2.1 dX4_text_11 rfl (lv_at hl 1 rfl) ?_
        refine lv_iload_n C.1 C.2.1 dX4_text_12 rfl (lv_at hl 3 rfl) ?_
        obtain ⟨v_5, e_6⟩ : ∃ z, z = (x1 : Int32) + (w2_3 : Int32) := ⟨_, rfl⟩
        refine k_iadd (v := v_5) C e_6.symm dX4_text_13 ?_
        refine lv_aload_n C.1 C.2.1 dX4_text_14 rfl (lv_at hl 2 rfl) ?_
        refine lv_iload_n C.1 C.2.1 dX4_text_15 rfl (lv_at hl 3 rfl) ?_
        refine g_Ti (As := [.int w2_3]) (rest := [.int v_5, .ref (ad 20)]) C hP hD hS hA (TJ_charAt l D K Z Y ((WX d) K ad t1) i2 (sS_lt hi2) w2_3 (show 0 ≤ w2_3.toInt ∧ w2_3.toInt < sL i2 from by omega)) hE hZ (uwV m_78_5 m_17_21 m_17_22 m_14_8 m_17_23) (hdV 1 (by decide +kernel) rfl) ⟨Nat.le_of_ble_eq_true rfl, Nat.le_of_ble_eq_true rfl⟩ rfl rfl (i0 := i2) (sS_lt hi2) rfl rfl hl.1 (Nat.le_of_ble_eq_true rfl) dX4_text_16 ⟨Nat.le_of_ble_eq_true rfl, Nat.le_of_ble_eq_true rfl⟩ (fun r_8 u_r_8 H locs hw hP hD hS => ?_)
        have er_8 : r_8 = (sByt i2).getD (w2_3 : Int32).toNatClampNeg 0 := hw
        have h_9 : (32 : Int) ≤ r_8.toInt ∧ r_8.toInt ≤ 126 := by rw [er_8]; exact sByt_rr (sS_lt hi2) (by omega) (by omega)
        refine g_Vv (As := [.int v_5, .int r_8]) (rest := []) C hP hD hS hA (T_X4_mark l D K Z Y ad d t1 hok (v_5) (r_8) (show (-128 : Int) ≤ (r_8 : Int32).toInt ∧ (r_8 : Int32).toInt ≤ 255 from ⟨by omega, by omega⟩)) hE hZ (uwV m_40_23 m_41_0 m_41_1 m_3_20 m_41_2) (hdV 2 (by decide +kernel) rfl) ⟨Nat.le_of_ble_eq_true rfl, Nat.le_of_ble_eq_true rfl⟩ rfl rfl (ci := 3) (q0 := 20) rfl rfl rfl hl.1 (Nat.le_of_ble_eq_true rfl) dX4_text_19 ⟨Nat.le_of_ble_eq_true rfl, Nat.le_of_ble_eq_true rfl⟩ (fun t_10 H locs hw hP hD hS => ?_)
        obtain ⟨hok, f_12⟩ := hw
        have hfr : frA [] [] [37] [] t t_10 := frA_tr hfr f_12 rfl
        obtain ⟨v_13, e_14⟩ : ∃ z, z = w2_3 + 1 := ⟨_, rfl⟩
        have h_15 : v_13.toInt = w2_3.toInt + 1 := by rw [e_14]; exact ti_iadd (by show (_ : Int) ≤ w2_3.toInt + 1; omega) (by show w2_3.toInt + 1 < (_ : Int); omega)
        refine lv_iinc (v := v_13) (lv' := [(3, .int v_13), (0, .ref (ad 20)), (1, .int x1), (2, .ref (Z i2))]) C.1 C.2.1 dX4_text_22 hl (k := 3) rfl e_14.symm (by decide) rfl (fun ls hl => ?_)
        have hl : lv_has ls 4 [(0, .ref (ad 20)), (1, .int x1), (2, .ref (Z i2)), (3, .int v_13)] := lv_sub hl [1, 2, 3, 0] rfl
        refine lv_goto (tgt := 2) C.1 C.2.1 dX4_text_25 (by decide) ?_
        exact ih_2 t_10 v_13 _ _ _ hok hfr ⟨by omega, by omega⟩ (show (400 : Int) - v_13.toInt < (fuel_2 : Int) from by omega) hP hD hS (lv_sub hl [0, 1, 2, 3] rfl)
  refine lv_iconst (v := 0) C.1 C.2.1 dX4_text_0 (by decide) ?_
  refine lv_istore_n (lv' := [(3, .int 0), (0, .ref (ad 20)), (1, .int x1), (2, .ref (Z i2))]) C.1 C.2.1 dX4_text_1 rfl hl (by decide) rfl (fun ls hl => ?_)
  have hl : lv_has ls 4 [(0, .ref (ad 20)), (1, .int x1), (2, .ref (Z i2)), (3, .int 0)] := lv_sub hl [1, 2, 3, 0] rfl
  exact L_2 401 t 0 _ _ _ hok hfr ⟨by decide, by decide⟩ (show (400 : Int) - 0 < ((401 : Nat) : Int) from by omega) hP hD hS (lv_sub hl [0, 1, 2, 3] rfl)


set_option maxHeartbeats 4000000 in
set_option maxRecDepth 100000 in
theorem T_X4_copy_1 (l : Launch) (D : va_G) (K : Nat → ClassId) (Z Y : Nat → Nat) (ad : Nat → Nat) (d : dSt) (t : tSt) (hok : okX t) (x1 : Int32) (hx1 : (1 : Int) ≤ x1.toInt ∧ x1.toInt ≤ 1) : tMet l yX4_copy cX4_copy 4 none (rmD 1 0 0) D K Z Y [.ref (ad 20), .int x1, .ref (ad 30)] ((WX d) K ad t) (QV D K (fun (u : tSt) => okX u ∧ frA [] [] [37] [] t u) (fun (u : tSt) => (WX d) K ad u)) 0 0 := by
  refine t_met RX4 ⟨rfl, by decide +kernel⟩ (Nat.le_of_ble_eq_true rfl) ?_
  intro p e s m below meth c A ls C hE hZ hr hlocks hA hP hD hS hl
  have hl : lv_has ls 4 [(0, .ref (ad 20)), (1, .int x1), (2, .ref (ad 30))] := hl
  have hokt := hok
  have hfr : frA [] [] [37] [] t t := frA_rf
  have L_2 : ∀ (fuel_2 : Nat) (t1 : tSt) (w2_3 : Int32) (H : Heap) (locs : List Loc) (ls : Array Slot), okX t1 → frA [] [] [37] [] t t1 → (0 : Int) ≤ w2_3.toInt ∧ w2_3.toInt ≤ 10 → (10 : Int) - w2_3.toInt < (fuel_2 : Int) → va_P D vwCl ((WX d) K ad t1) H → va_D A ((WX d) K ad t1) → va_S A s.heap H locs → lv_has ls 4 [(0, .ref (ad 20)), (1, .int x1), (2, .ref (ad 30)), (3, .int w2_3)] → W p l e (rmD 1 0 0) s m [.ref (ad 20), .int x1, .ref (ad 30)].toArray below meth c H locs 0 0 (MQ below (QV D K (fun (u : tSt) => okX u ∧ frA [] [] [37] [] t u) (fun (u : tSt) => (WX d) K ad u) A) [.ref (ad 20), .int x1, .ref (ad 30)].toArray s 0 0 A) (F0 m 2 ls []) := by
    intro fuel_2
    induction fuel_2 with
    | zero =>
      intro t1 w2_3 H locs ls hok hfr hw2_3 hm2_2 hP hD hS hl
      exact absurd hm2_2 (by omega)
    | succ fuel_2 ih_2 =>
      intro t1 w2_3 H locs ls hok hfr hw2_3 hm2_2 hP hD hS hl
      have hm2_2 : (10 : Int) - w2_3.toInt < (fuel_2 : Int) + 1 := by omega
      refine lv_iload_n C.1 C.2.1 dX4_copy_2 rfl (lv_at hl 3 rfl) ?_
      refine lv_aload_n C.1 C.2.1 dX4_copy_3 rfl (lv_at hl 2 rfl) ?_
      refine k_len (v := 10) C hP 30 2 rfl rfl rfl dX4_copy_4 ?_
      refine lv_icmp_ge (tgt := 24) C.1 C.2.1 dX4_copy_5 (by decide) (fun c_1 => ?_) (fun c_1 => ?_)
      · replace c_1 : 10 ≤ w2_3.toInt := i_le c_1
        exact g_vret C hr hlocks hP hD hS t1 rfl ⟨hok, hfr⟩ (Nat.le_of_ble_eq_true rfl) (Nat.le_of_ble_eq_true rfl) dX4_copy_24
      · replace c_1 : w2_3.toInt < 10 := i_nle c_1
        refine lv_aload_n C.1 C.2.1 dX4_copy_8 rfl (lv_at hl 0 rfl) ?_
        refine lv_iload_n C.1 C.2.1 dX4_copy_9 rfl (lv_at hl 1 rfl) ?_
        refine lv_iload_n C.1 C.2.1 dX4_copy_10 rfl (lv_at hl 3 rfl) ?_
        obtain ⟨v_2, e_3⟩ : ∃ z, z = (x1 : Int32) + (w2_3 : Int32) := ⟨_, rfl⟩
        have h_4 : v_2.toInt = x1.toInt + w2_3.toInt := by rw [e_3]; exact ti_iadd (by show (_ : Int) ≤ x1.toInt + w2_3.toInt; omega) (by show x1.toInt + w2_3.toInt < (_ : Int); omega)
        refine k_iadd (v := v_2) C e_3.symm dX4_copy_11 ?_
        refine lv_aload_n C.1 C.2.1 dX4_copy_12 rfl (lv_at hl 2 rfl) ?_
        refine lv_iload_n C.1 C.2.1 dX4_copy_13 rfl (lv_at hl 3 rfl) ?_
        obtain ⟨v_5, e_6⟩ : ∃ z, z = (t1.2.2.1 30 (w2_3 : Int32).toNatClampNeg) := ⟨_, rfl⟩
        have h_7 : (-128 : Int) ≤ v_5.toInt ∧ v_5.toInt ≤ 127 := by rw [e_6]; exact hok.2.1 30 _
        refine k_bld (v := v_5) C hP 30 rfl (vp_in_iff.mpr ⟨by omega, by omega⟩) e_6.symm dX4_copy_14 ?_
        refine g_Vv (As := [.int v_2, .int v_5]) (rest := []) C hP hD hS hA (T_X4_mark l D K Z Y ad d t1 hok (v_2) (v_5) (show (-128 : Int) ≤ (v_5 : Int32).toInt ∧ (v_5 : Int32).toInt ≤ 255 from ⟨by omega, by omega⟩)) hE hZ (uwV m_40_23 m_41_0 m_41_1 m_3_20 m_41_2) (hdV 2 (by decide +kernel) rfl) ⟨Nat.le_of_ble_eq_true rfl, Nat.le_of_ble_eq_true rfl⟩ rfl rfl (ci := 3) (q0 := 20) rfl rfl rfl hl.1 (Nat.le_of_ble_eq_true rfl) dX4_copy_15 ⟨Nat.le_of_ble_eq_true rfl, Nat.le_of_ble_eq_true rfl⟩ (fun t_8 H locs hw hP hD hS => ?_)
        obtain ⟨hok, f_10⟩ := hw
        have hfr : frA [] [] [37] [] t t_8 := frA_tr hfr f_10 rfl
        obtain ⟨v_11, e_12⟩ : ∃ z, z = w2_3 + 1 := ⟨_, rfl⟩
        have h_13 : v_11.toInt = w2_3.toInt + 1 := by rw [e_12]; exact ti_iadd (by show (_ : Int) ≤ w2_3.toInt + 1; omega) (by show w2_3.toInt + 1 < (_ : Int); omega)
        refine lv_iinc (v := v_11) (lv' := [(3, .int v_11), (0, .ref (ad 20)), (1, .int x1), (2, .ref (ad 30))]) C.1 C.2.1 dX4_copy_18 hl (k := 3) rfl e_12.symm (by decide) rfl (fun ls hl => ?_)
        have hl : lv_has ls 4 [(0, .ref (ad 20)), (1, .int x1), (2, .ref (ad 30)), (3, .int v_11)] := lv_sub hl [1, 2, 3, 0] rfl
        refine lv_goto (tgt := 2) C.1 C.2.1 dX4_copy_21 (by decide) ?_
        exact ih_2 t_8 v_11 _ _ _ hok hfr ⟨by omega, by omega⟩ (show (10 : Int) - v_11.toInt < (fuel_2 : Int) from by omega) hP hD hS (lv_sub hl [0, 1, 2, 3] rfl)
  refine lv_iconst (v := 0) C.1 C.2.1 dX4_copy_0 (by decide) ?_
  refine lv_istore_n (lv' := [(3, .int 0), (0, .ref (ad 20)), (1, .int x1), (2, .ref (ad 30))]) C.1 C.2.1 dX4_copy_1 rfl hl (by decide) rfl (fun ls hl => ?_)
  have hl : lv_has ls 4 [(0, .ref (ad 20)), (1, .int x1), (2, .ref (ad 30)), (3, .int 0)] := lv_sub hl [1, 2, 3, 0] rfl
  exact L_2 11 t 0 _ _ _ hok hfr ⟨by decide, by decide⟩ (show (10 : Int) - 0 < ((11 : Nat) : Int) from by omega) hP hD hS (lv_sub hl [0, 1, 2, 3] rfl)

theorem dX7_endOf_0 : decode cX7_endOf 0 = .ok (.iload_n 0, 1) := by decide +kernel
theorem dX7_endOf_1 : decode cX7_endOf 1 = .ok (.tableswitch 43 0 3 #[31, 34, 37, 40], 31) := by decide +kernel
theorem dX7_endOf_32 : decode cX7_endOf 32 = .ok (.ldc 195, 2) := by decide +kernel
theorem dX7_endOf_34 : decode cX7_endOf 34 = .ok (.areturn, 1) := by decide +kernel
theorem dX7_endOf_35 : decode cX7_endOf 35 = .ok (.ldc 197, 2) := by decide +kernel
theorem dX7_endOf_37 : decode cX7_endOf 37 = .ok (.areturn, 1) := by decide +kernel
theorem dX7_endOf_38 : decode cX7_endOf 38 = .ok (.ldc 199, 2) := by decide +kernel
theorem dX7_endOf_40 : decode cX7_endOf 40 = .ok (.areturn, 1) := by decide +kernel
theorem dX7_endOf_41 : decode cX7_endOf 41 = .ok (.ldc 201, 2) := by decide +kernel
theorem dX7_endOf_43 : decode cX7_endOf 43 = .ok (.areturn, 1) := by decide +kernel
theorem dX7_endOf_44 : decode cX7_endOf 44 = .ok (.ldc 203, 2) := by decide +kernel
theorem dX7_endOf_46 : decode cX7_endOf 46 = .ok (.areturn, 1) := by decide +kernel
set_option maxHeartbeats 4000000 in
set_option maxRecDepth 100000 in
theorem T_X7_endOf (l : Launch) (D : va_G) (K : Nat → ClassId) (Z Y : Nat → Nat) (ad : Nat → Nat) (d : dSt) (t : tSt) (hok : okX t) (x0 : Int32) : tMet l yX7_endOf cX7_endOf 1 (some (.object "java/lang/String")) (rmD 0 0 0) D K Z Y [.int x0] ((WX d) K ad t) (QR D K (fun (u : Nat) => sS u) (fun u => Z u) (fun (_ : Nat) => (WX d) K ad t)) 0 0 := by
  refine t_met RX7 ⟨rfl, by decide +kernel⟩ (Nat.le_of_ble_eq_true rfl) ?_
  intro p e s m below meth c A ls C hE hZ hr hlocks hA hP hD hS hl
  have hl : lv_has ls 1 [(0, .int x0)] := hl
  refine lv_iload_n C.1 C.2.1 dX7_endOf_0 rfl (lv_at hl 0 rfl) ?_
  by_cases c_1 : x0 = 0
  · refine lv_tableIn (tgt := 32) (off := 31) C.1 C.2.1 dX7_endOf_1 (by rw [c_1]; decide) (by rw [c_1]; decide) (by rw [c_1]; decide) (by decide) ?_
    replace c_1 : x0.toInt = 0 := i_eq c_1
    refine va_ldcS C.1 C.2.1 C.2.2.2.1 (hE.2 17 (by decide)) dX7_endOf_32 ?_
    exact g_rret C hr hlocks hP hD hS (Or.inl ⟨_, rfl⟩) 17 rfl rfl (show sS 17 from ⟨by decide, by decide, by decide⟩) (Nat.le_of_ble_eq_true rfl) (Nat.le_of_ble_eq_true rfl) dX7_endOf_34
  replace c_1 : ¬ x0.toInt = 0 := i_ne c_1
  by_cases c_2 : x0 = 1
  · refine lv_tableIn (tgt := 35) (off := 34) C.1 C.2.1 dX7_endOf_1 (by rw [c_2]; decide) (by rw [c_2]; decide) (by rw [c_2]; decide) (by decide) ?_
    replace c_2 : x0.toInt = 1 := i_eq c_2
    refine va_ldcS C.1 C.2.1 C.2.2.2.1 (hE.2 18 (by decide)) dX7_endOf_35 ?_
    exact g_rret C hr hlocks hP hD hS (Or.inl ⟨_, rfl⟩) 18 rfl rfl (show sS 18 from ⟨by decide, by decide, by decide⟩) (Nat.le_of_ble_eq_true rfl) (Nat.le_of_ble_eq_true rfl) dX7_endOf_37
  replace c_2 : ¬ x0.toInt = 1 := i_ne c_2
  by_cases c_3 : x0 = 2
  · refine lv_tableIn (tgt := 38) (off := 37) C.1 C.2.1 dX7_endOf_1 (by rw [c_3]; decide) (by rw [c_3]; decide) (by rw [c_3]; decide) (by decide) ?_
    replace c_3 : x0.toInt = 2 := i_eq c_3
    refine va_ldcS C.1 C.2.1 C.2.2.2.1 (hE.2 19 (by decide)) dX7_endOf_38 ?_
    exact g_rret C hr hlocks hP hD hS (Or.inl ⟨_, rfl⟩) 19 rfl rfl (show sS 19 from ⟨by decide, by decide, by decide⟩) (Nat.le_of_ble_eq_true rfl) (Nat.le_of_ble_eq_true rfl) dX7_endOf_40
  replace c_3 : ¬ x0.toInt = 2 := i_ne c_3
  by_cases c_4 : x0 = 3
  · refine lv_tableIn (tgt := 41) (off := 40) C.1 C.2.1 dX7_endOf_1 (by rw [c_4]; decide) (by rw [c_4]; decide) (by rw [c_4]; decide) (by decide) ?_
    replace c_4 : x0.toInt = 3 := i_eq c_4
    refine va_ldcS C.1 C.2.1 C.2.2.2.1 (hE.2 20 (by decide)) dX7_endOf_41 ?_
    exact g_rret C hr hlocks hP hD hS (Or.inl ⟨_, rfl⟩) 20 rfl rfl (show sS 20 from ⟨by decide, by decide, by decide⟩) (Nat.le_of_ble_eq_true rfl) (Nat.le_of_ble_eq_true rfl) dX7_endOf_43
  replace c_4 : ¬ x0.toInt = 3 := i_ne c_4
  refine lv_tableOut (tgt := 44) C.1 C.2.1 dX7_endOf_1 (by omega) (by decide) ?_
  refine va_ldcS C.1 C.2.1 C.2.2.2.1 (hE.2 21 (by decide)) dX7_endOf_44 ?_
  exact g_rret C hr hlocks hP hD hS (Or.inl ⟨_, rfl⟩) 21 rfl rfl (show sS 21 from ⟨by decide, by decide, by decide⟩) (Nat.le_of_ble_eq_true rfl) (Nat.le_of_ble_eq_true rfl) dX7_endOf_46

theorem dX11_feed_0 : decode cX11_feed 0 = .ok (.aload_n 0, 1) := by decide +kernel
theorem dX11_feed_1 : decode cX11_feed 1 = .ok (.getfield 70, 3) := by decide +kernel
theorem dX11_feed_10 : decode cX11_feed 10 = .ok (.if_icmp .le 5, 3) := by decide +kernel
theorem dX11_feed_15 : decode cX11_feed 15 = .ok (.aload_n 0, 1) := by decide +kernel
theorem dX11_feed_16 : decode cX11_feed 16 = .ok (.iload_n 1, 1) := by decide +kernel
theorem dX11_feed_17 : decode cX11_feed 17 = .ok (.invokevirtual 74, 3) := by decide +kernel
theorem dX11_feed_20 : decode cX11_feed 20 = .ok (.aload_n 0, 1) := by decide +kernel
theorem dX11_feed_21 : decode cX11_feed 21 = .ok (.iload_n 2, 1) := by decide +kernel
theorem dX11_feed_22 : decode cX11_feed 22 = .ok (.invokevirtual 74, 3) := by decide +kernel
theorem dX11_feed_25 : decode cX11_feed 25 = .ok (.aload_n 0, 1) := by decide +kernel
theorem dX11_feed_26 : decode cX11_feed 26 = .ok (.iload_n 3, 1) := by decide +kernel
theorem dX11_feed_27 : decode cX11_feed 27 = .ok (.invokevirtual 74, 3) := by decide +kernel
theorem dX11_feed_30 : decode cX11_feed 30 = .ok (.aload_n 0, 1) := by decide +kernel
theorem dX11_feed_31 : decode cX11_feed 31 = .ok (.iload 4, 2) := by decide +kernel
theorem dX11_feed_33 : decode cX11_feed 33 = .ok (.invokevirtual 74, 3) := by decide +kernel
theorem dX11_feed_36 : decode cX11_feed 36 = .ok (.aload_n 0, 1) := by decide +kernel
theorem dX11_feed_37 : decode cX11_feed 37 = .ok (.iload 5, 2) := by decide +kernel
theorem dX11_feed_39 : decode cX11_feed 39 = .ok (.invokevirtual 74, 3) := by decide +kernel
theorem dX11_feed_4 : decode cX11_feed 4 = .ok (.bipush 20, 2) := by decide +kernel
theorem dX11_feed_42 : decode cX11_feed 42 = .ok (.iconst 1, 1) := by decide +kernel
theorem dX11_feed_43 : decode cX11_feed 43 = .ok (.ireturn, 1) := by decide +kernel
theorem dX11_feed_6 : decode cX11_feed 6 = .ok (.iadd, 1) := by decide +kernel
theorem dX11_feed_7 : decode cX11_feed 7 = .ok (.sipush 8192, 3) := by decide +kernel
set_option maxHeartbeats 4000000 in
set_option maxRecDepth 100000 in
theorem T_X11_feed (l : Launch) (D : va_G) (K : Nat → ClassId) (Z Y : Nat → Nat) (ad : Nat → Nat) (d : dSt) (t : tSt) (hok : okX t) (x1 : Int32) (x2 : Int32) (x3 : Int32) (x4 : Int32) (x5 : Int32) (hs0 : (t.1 0 1).toInt ≤ 1260) : tMet l yX11_feed cX11_feed 6 (some .boolean) (rmD 1 0 0) D K Z Y [.ref (ad 0), .int x1, .int x2, .int x3, .int x4, .int x5] ((WX d) K ad t) (QI D K (fun (r : Int32) (u : tSt) => okX u ∧ frA [(0, 1)] [] [1] [] t u ∧ (1 : Int) ≤ r.toInt ∧ r.toInt ≤ 1 ∧ (r.toInt = 1) ∧ ((u.1 0 1).toInt = (t.1 0 1).toInt + 20)) (fun (u : tSt) => (WX d) K ad u)) 0 0 := by
  refine t_met RX11 ⟨rfl, by decide +kernel⟩ (Nat.le_of_ble_eq_true rfl) ?_
  intro p e s m below meth c A ls C hE hZ hr hlocks hA hP hD hS hl
  have hl : lv_has ls 6 [(0, .ref (ad 0)), (1, .int x1), (2, .int x2), (3, .int x3), (4, .int x4), (5, .int x5)] := hl
  have hokt := hok
  have hfr : frA [(0, 1)] [] [1] [] t t := frA_rf
  have h_1 : (0 : Int) ≤ (t.1 0 1).toInt ∧ (t.1 0 1).toInt ≤ 1280 := hok.1 0 1
  refine lv_aload_n C.1 C.2.1 dX11_feed_0 rfl (lv_at hl 0 rfl) ?_
  refine k_get (v := .int (t.1 0 1)) C hP 0 rfl rfl inlX11 1 (by decide) m_9_9 rfl dX11_feed_1 ?_
  refine lv_bipush (v := 20) C.1 C.2.1 dX11_feed_4 (by decide) ?_
  obtain ⟨v_2, e_3⟩ : ∃ z, z = ((t.1 0 1) : Int32) + (20 : Int32) := ⟨_, rfl⟩
  have h_4 : v_2.toInt = (t.1 0 1).toInt + 20 := by rw [e_3]; exact ti_iadd (by show (_ : Int) ≤ (t.1 0 1).toInt + 20; omega) (by show (t.1 0 1).toInt + 20 < (_ : Int); omega)
  refine k_iadd (v := v_2) C e_3.symm dX11_feed_6 ?_
  refine lv_sipush (v := 8192) C.1 C.2.1 dX11_feed_7 (by decide) ?_
  refine lv_icmp_le (tgt := 15) C.1 C.2.1 dX11_feed_10 (by decide) (fun c_5 => ?_) (fun c_5 => False.elim (by have c_5 : 8192 < v_2.toInt := i_nle c_5; omega))
  replace c_5 : v_2.toInt ≤ 8192 := i_le c_5
  refine lv_aload_n C.1 C.2.1 dX11_feed_15 rfl (lv_at hl 0 rfl) ?_
  refine lv_iload_n C.1 C.2.1 dX11_feed_16 rfl (lv_at hl 1 rfl) ?_
  refine g_Vv (As := [.int x1]) (rest := []) C hP hD hS hA (T_X11_punchTape l D K Z Y ad d t hok (x1) (show (t.1 0 1).toInt ≤ 1276 from by omega)) hE hZ (uwV m_9_10 m_9_11 m_9_12 m_1_2 m_9_13) (hdV 1 (by decide +kernel) rfl) ⟨Nat.le_of_ble_eq_true rfl, Nat.le_of_ble_eq_true rfl⟩ rfl rfl (ci := 10) (q0 := 0) rfl rfl rfl hl.1 (Nat.le_of_ble_eq_true rfl) dX11_feed_17 ⟨Nat.le_of_ble_eq_true rfl, Nat.le_of_ble_eq_true rfl⟩ (fun t_6 H locs hw hP hD hS => ?_)
  obtain ⟨hok, f_8, p_9⟩ := hw
  have hfr : frA [(0, 1)] [] [1] [] t t_6 := frA_tr hfr f_8 rfl
  have h_10 : (0 : Int) ≤ (t_6.1 0 1).toInt ∧ (t_6.1 0 1).toInt ≤ 1280 := hok.1 0 1
  replace p_9 : (t_6.1 0 1).toInt = (t.1 0 1).toInt + 4 := p_9
  refine lv_aload_n C.1 C.2.1 dX11_feed_20 rfl (lv_at hl 0 rfl) ?_
  refine lv_iload_n C.1 C.2.1 dX11_feed_21 rfl (lv_at hl 2 rfl) ?_
  refine g_Vv (As := [.int x2]) (rest := []) C hP hD hS hA (T_X11_punchTape l D K Z Y ad d t_6 hok (x2) (show (t_6.1 0 1).toInt ≤ 1276 from by omega)) hE hZ (uwV m_9_10 m_9_11 m_9_12 m_1_2 m_9_13) (hdV 1 (by decide +kernel) rfl) ⟨Nat.le_of_ble_eq_true rfl, Nat.le_of_ble_eq_true rfl⟩ rfl rfl (ci := 10) (q0 := 0) rfl rfl rfl hl.1 (Nat.le_of_ble_eq_true rfl) dX11_feed_22 ⟨Nat.le_of_ble_eq_true rfl, Nat.le_of_ble_eq_true rfl⟩ (fun t_11 H locs hw hP hD hS => ?_)
  obtain ⟨hok, f_13, p_14⟩ := hw
  have hfr : frA [(0, 1)] [] [1] [] t t_11 := frA_tr hfr f_13 rfl
  have h_15 : (0 : Int) ≤ (t_11.1 0 1).toInt ∧ (t_11.1 0 1).toInt ≤ 1280 := hok.1 0 1
  replace p_14 : (t_11.1 0 1).toInt = (t_6.1 0 1).toInt + 4 := p_14
  refine lv_aload_n C.1 C.2.1 dX11_feed_25 rfl (lv_at hl 0 rfl) ?_
  refine lv_iload_n C.1 C.2.1 dX11_feed_26 rfl (lv_at hl 3 rfl) ?_
  refine g_Vv (As := [.int x3]) (rest := []) C hP hD hS hA (T_X11_punchTape l D K Z Y ad d t_11 hok (x3) (show (t_11.1 0 1).toInt ≤ 1276 from by omega)) hE hZ (uwV m_9_10 m_9_11 m_9_12 m_1_2 m_9_13) (hdV 1 (by decide +kernel) rfl) ⟨Nat.le_of_ble_eq_true rfl, Nat.le_of_ble_eq_true rfl⟩ rfl rfl (ci := 10) (q0 := 0) rfl rfl rfl hl.1 (Nat.le_of_ble_eq_true rfl) dX11_feed_27 ⟨Nat.le_of_ble_eq_true rfl, Nat.le_of_ble_eq_true rfl⟩ (fun t_16 H locs hw hP hD hS => ?_)
  obtain ⟨hok, f_18, p_19⟩ := hw
  have hfr : frA [(0, 1)] [] [1] [] t t_16 := frA_tr hfr f_18 rfl
  have h_20 : (0 : Int) ≤ (t_16.1 0 1).toInt ∧ (t_16.1 0 1).toInt ≤ 1280 := hok.1 0 1
  replace p_19 : (t_16.1 0 1).toInt = (t_11.1 0 1).toInt + 4 := p_19
  refine lv_aload_n C.1 C.2.1 dX11_feed_30 rfl (lv_at hl 0 rfl) ?_
  refine lv_iload C.1 C.2.1 dX11_feed_31 (lv_at hl 4 rfl) ?_
  refine g_Vv (As := [.int x4]) (rest := []) C hP hD hS hA (T_X11_punchTape l D K Z Y ad d t_16 hok (x4) (show (t_16.1 0 1).toInt ≤ 1276 from by omega)) hE hZ (uwV m_9_10 m_9_11 m_9_12 m_1_2 m_9_13) (hdV 1 (by decide +kernel) rfl) ⟨Nat.le_of_ble_eq_true rfl, Nat.le_of_ble_eq_true rfl⟩ rfl rfl (ci := 10) (q0 := 0) rfl rfl rfl hl.1 (Nat.le_of_ble_eq_true rfl) dX11_feed_33 ⟨Nat.le_of_ble_eq_true rfl, Nat.le_of_ble_eq_true rfl⟩ (fun t_21 H locs hw hP hD hS => ?_)
  obtain ⟨hok, f_23, p_24⟩ := hw
  have hfr : frA [(0, 1)] [] [1] [] t t_21 := frA_tr hfr f_23 rfl
  have h_25 : (0 : Int) ≤ (t_21.1 0 1).toInt ∧ (t_21.1 0 1).toInt ≤ 1280 := hok.1 0 1
  replace p_24 : (t_21.1 0 1).toInt = (t_16.1 0 1).toInt + 4 := p_24
  refine lv_aload_n C.1 C.2.1 dX11_feed_36 rfl (lv_at hl 0 rfl) ?_
  refine lv_iload C.1 C.2.1 dX11_feed_37 (lv_at hl 5 rfl) ?_
  refine g_Vv (As := [.int x5]) (rest := []) C hP hD hS hA (T_X11_punchTape l D K Z Y ad d t_21 hok (x5) (show (t_21.1 0 1).toInt ≤ 1276 from by omega)) hE hZ (uwV m_9_10 m_9_11 m_9_12 m_1_2 m_9_13) (hdV 1 (by decide +kernel) rfl) ⟨Nat.le_of_ble_eq_true rfl, Nat.le_of_ble_eq_true rfl⟩ rfl rfl (ci := 10) (q0 := 0) rfl rfl rfl hl.1 (Nat.le_of_ble_eq_true rfl) dX11_feed_39 ⟨Nat.le_of_ble_eq_true rfl, Nat.le_of_ble_eq_true rfl⟩ (fun t_26 H locs hw hP hD hS => ?_)
  obtain ⟨hok, f_28, p_29⟩ := hw
  have hfr : frA [(0, 1)] [] [1] [] t t_26 := frA_tr hfr f_28 rfl
  have h_30 : (0 : Int) ≤ (t_26.1 0 1).toInt ∧ (t_26.1 0 1).toInt ≤ 1280 := hok.1 0 1
  replace p_29 : (t_26.1 0 1).toInt = (t_21.1 0 1).toInt + 4 := p_29
  refine lv_iconst (v := 1) C.1 C.2.1 dX11_feed_42 (by decide) ?_
  exact g_iret C hr hlocks hP hD hS (by decide) t_26 rfl ⟨hok, hfr, by decide, by decide, (show 1 = 1 from by omega), (show (t_26.1 0 1).toInt = (t.1 0 1).toInt + 20 from by omega)⟩ (Nat.le_of_ble_eq_true rfl) (Nat.le_of_ble_eq_true rfl) dX11_feed_43

theorem dX11_account_0 : decode cX11_account 0 = .ok (.aload_n 0, 1) := by decide +kernel
theorem dX11_account_1 : decode cX11_account 1 = .ok (.getfield 66, 3) := by decide +kernel
theorem dX11_account_4 : decode cX11_account 4 = .ok (.iload_n 1, 1) := by decide +kernel
theorem dX11_account_5 : decode cX11_account 5 = .ok (.iload_n 2, 1) := by decide +kernel
theorem dX11_account_6 : decode cX11_account 6 = .ok (.invokevirtual 210, 3) := by decide +kernel
theorem dX11_account_9 : decode cX11_account 9 = .ok (.ireturn, 1) := by decide +kernel
set_option maxHeartbeats 4000000 in
set_option maxRecDepth 100000 in
theorem T_X11_account (l : Launch) (D : va_G) (K : Nat → ClassId) (Z Y : Nat → Nat) (ad : Nat → Nat) (d : dSt) (t : tSt) (hok : okX t) (x1 : Int32) (x2 : Int32) : tMet l yX11_account cX11_account 3 (some .int) (rmD 1 0 0) D K Z Y [.ref (ad 0), .int x1, .int x2] ((WX d) K ad t) (QI D K (fun (r : Int32) (u : Unit) => (-2147483648 : Int) ≤ r.toInt ∧ r.toInt ≤ 2147483647) (fun (_ : Unit) => (WX d) K ad t)) 0 0 := by
  refine t_met RX11 ⟨rfl, by decide +kernel⟩ (Nat.le_of_ble_eq_true rfl) ?_
  intro p e s m below meth c A ls C hE hZ hr hlocks hA hP hD hS hl
  have hl : lv_has ls 3 [(0, .ref (ad 0)), (1, .int x1), (2, .int x2)] := hl
  refine lv_aload_n C.1 C.2.1 dX11_account_0 rfl (lv_at hl 0 rfl) ?_
  refine k_get (v := .ref (ad 7)) C hP 0 rfl rfl inlX11 7 (by decide) m_2_18 rfl dX11_account_1 ?_
  refine lv_iload_n C.1 C.2.1 dX11_account_4 rfl (lv_at hl 1 rfl) ?_
  refine lv_iload_n C.1 C.2.1 dX11_account_5 rfl (lv_at hl 2 rfl) ?_
  refine g_Vi (As := [.int x1, .int x2]) (rest := []) C hP hD hS hA (T_X3_entry l D K Z Y ad d t hok (x1) (x2)) hE hZ (uwV m_82_11 m_77_18 m_77_19 m_2_17 m_77_20) (hdV 2 (by decide +kernel) rfl) ⟨Nat.le_of_ble_eq_true rfl, Nat.le_of_ble_eq_true rfl⟩ rfl rfl (ci := 2) (q0 := 7) rfl rfl rfl hl.1 (Nat.le_of_ble_eq_true rfl) dX11_account_6 ⟨Nat.le_of_ble_eq_true rfl, Nat.le_of_ble_eq_true rfl⟩ (fun r_2 t_1 H locs hw hP hD hS => ?_)
  obtain ⟨h_4, h_5⟩ := hw
  exact g_iret C hr hlocks hP hD hS rfl () rfl ⟨(i_rng _).1, (i_rng _).2⟩ (Nat.le_of_ble_eq_true rfl) (Nat.le_of_ble_eq_true rfl) dX11_account_9

theorem dX11_unit_0 : decode cX11_unit 0 = .ok (.iload_n 1, 1) := by decide +kernel
theorem dX11_unit_1 : decode cX11_unit 1 = .ok (.ifCond .lt 19, 3) := by decide +kernel
theorem dX11_unit_10 : decode cX11_unit 10 = .ok (.aload_n 0, 1) := by decide +kernel
theorem dX11_unit_11 : decode cX11_unit 11 = .ok (.getfield 40, 3) := by decide +kernel
theorem dX11_unit_14 : decode cX11_unit 14 = .ok (.getfield 266, 3) := by decide +kernel
theorem dX11_unit_17 : decode cX11_unit 17 = .ok (.iload_n 1, 1) := by decide +kernel
theorem dX11_unit_18 : decode cX11_unit 18 = .ok (.iaload, 1) := by decide +kernel
theorem dX11_unit_19 : decode cX11_unit 19 = .ok (.ireturn, 1) := by decide +kernel
theorem dX11_unit_20 : decode cX11_unit 20 = .ok (.iload_n 1, 1) := by decide +kernel
theorem dX11_unit_21 : decode cX11_unit 21 = .ok (.bipush 16, 2) := by decide +kernel
theorem dX11_unit_23 : decode cX11_unit 23 = .ok (.if_icmp .ne 14, 3) := by decide +kernel
theorem dX11_unit_26 : decode cX11_unit 26 = .ok (.aload_n 0, 1) := by decide +kernel
theorem dX11_unit_27 : decode cX11_unit 27 = .ok (.getfield 40, 3) := by decide +kernel
theorem dX11_unit_30 : decode cX11_unit 30 = .ok (.getfield 127, 3) := by decide +kernel
theorem dX11_unit_33 : decode cX11_unit 33 = .ok (.getfield 131, 3) := by decide +kernel
theorem dX11_unit_36 : decode cX11_unit 36 = .ok (.ireturn, 1) := by decide +kernel
theorem dX11_unit_37 : decode cX11_unit 37 = .ok (.iload_n 1, 1) := by decide +kernel
theorem dX11_unit_38 : decode cX11_unit 38 = .ok (.bipush 17, 2) := by decide +kernel
theorem dX11_unit_4 : decode cX11_unit 4 = .ok (.iload_n 1, 1) := by decide +kernel
theorem dX11_unit_40 : decode cX11_unit 40 = .ok (.if_icmp .lt 23, 3) := by decide +kernel
theorem dX11_unit_43 : decode cX11_unit 43 = .ok (.iload_n 1, 1) := by decide +kernel
theorem dX11_unit_44 : decode cX11_unit 44 = .ok (.bipush 19, 2) := by decide +kernel
theorem dX11_unit_46 : decode cX11_unit 46 = .ok (.if_icmp .gt 17, 3) := by decide +kernel
theorem dX11_unit_49 : decode cX11_unit 49 = .ok (.aload_n 0, 1) := by decide +kernel
theorem dX11_unit_5 : decode cX11_unit 5 = .ok (.bipush 8, 2) := by decide +kernel
theorem dX11_unit_50 : decode cX11_unit 50 = .ok (.getfield 40, 3) := by decide +kernel
theorem dX11_unit_53 : decode cX11_unit 53 = .ok (.iload_n 1, 1) := by decide +kernel
theorem dX11_unit_54 : decode cX11_unit 54 = .ok (.invokevirtual 269, 3) := by decide +kernel
theorem dX11_unit_57 : decode cX11_unit 57 = .ok (.getfield 273, 3) := by decide +kernel
theorem dX11_unit_60 : decode cX11_unit 60 = .ok (.goto 4, 3) := by decide +kernel
theorem dX11_unit_63 : decode cX11_unit 63 = .ok (.iconst (-1), 1) := by decide +kernel
theorem dX11_unit_64 : decode cX11_unit 64 = .ok (.ireturn, 1) := by decide +kernel
theorem dX11_unit_7 : decode cX11_unit 7 = .ok (.if_icmp .ge 13, 3) := by decide +kernel
set_option maxHeartbeats 4000000 in
set_option maxRecDepth 100000 in
theorem T_X11_unit (l : Launch) (D : va_G) (K : Nat → ClassId) (Z Y : Nat → Nat) (ad : Nat → Nat) (d : dSt) (t : tSt) (hok : okX t) (x1 : Int32) : tMet l yX11_unit cX11_unit 2 (some .int) (rmD 1 0 0) D K Z Y [.ref (ad 0), .int x1] ((WX d) K ad t) (QI D K (fun (r : Int32) (u : Unit) => (-2147483648 : Int) ≤ r.toInt ∧ r.toInt ≤ 2147483647) (fun (_ : Unit) => (WX d) K ad t)) 0 0 := by
  refine t_met RX11 ⟨rfl, by decide +kernel⟩ (Nat.le_of_ble_eq_true rfl) ?_
  intro p e s m below meth c A ls C hE hZ hr hlocks hA hP hD hS hl
  have hl : lv_has ls 2 [(0, .ref (ad 0)), (1, .int x1)] := hl
  have L_20 : ∀  (H : Heap) (locs : List Loc) (ls : Array Slot), va_P D vwCl ((WX d) K ad t) H → va_D A ((WX d) K ad t) → va_S A s.heap H locs → lv_has ls 2 [(0, .ref (ad 0)), (1, .int x1)] → W p l e (rmD 1 0 0) s m [.ref (ad 0), .int x1].toArray below meth c H locs 0 0 (MQ below (QI D K (fun (r : Int32) (u : Unit) => (-2147483648 : Int) ≤ r.toInt ∧ r.toInt ≤ 2147483647) (fun (_ : Unit) => (WX d) K ad t) A) [.ref (ad 0), .int x1].toArray s 0 0 A) (F0 m 20 ls []) := by
    intro  H locs ls  hP hD hS hl
    refine lv_iload_n C.1 C.2.1 dX11_unit_20 rfl (lv_at hl 1 rfl) ?_
    refine lv_bipush (v := 16) C.1 C.2.1 dX11_unit_21 (by decide) ?_
    refine lv_icmp_ne (tgt := 37) C.1 C.2.1 dX11_unit_23 (by decide) (fun c_1 => ?_) (fun c_1 => ?_)
    · replace c_1 : ¬ x1.toInt = 16 := i_ne c_1
      refine lv_iload_n C.1 C.2.1 dX11_unit_37 rfl (lv_at hl 1 rfl) ?_
      refine lv_bipush (v := 17) C.1 C.2.1 dX11_unit_38 (by decide) ?_
      refine lv_icmp_lt (tgt := 63) C.1 C.2.1 dX11_unit_40 (by decide) (fun c_2 => ?_) (fun c_2 => ?_)
      · replace c_2 : x1.toInt < 17 := i_lt c_2
        refine lv_iconst (v := (-1)) C.1 C.2.1 dX11_unit_63 (by decide) ?_
        exact g_iret C hr hlocks hP hD hS rfl () rfl ⟨(i_rng _).1, (i_rng _).2⟩ (Nat.le_of_ble_eq_true rfl) (Nat.le_of_ble_eq_true rfl) dX11_unit_64
      · replace c_2 : 17 ≤ x1.toInt := i_nlt c_2
        refine lv_iload_n C.1 C.2.1 dX11_unit_43 rfl (lv_at hl 1 rfl) ?_
        refine lv_bipush (v := 19) C.1 C.2.1 dX11_unit_44 (by decide) ?_
        refine lv_icmp_gt (tgt := 63) C.1 C.2.1 dX11_unit_46 (by decide) (fun c_3 => ?_) (fun c_3 => ?_)
        · replace c_3 : 19 < x1.toInt := i_lt c_3
          refine lv_iconst (v := (-1)) C.1 C.2.1 dX11_unit_63 (by decide) ?_
          exact g_iret C hr hlocks hP hD hS rfl () rfl ⟨(i_rng _).1, (i_rng _).2⟩ (Nat.le_of_ble_eq_true rfl) (Nat.le_of_ble_eq_true rfl) dX11_unit_64
        · replace c_3 : x1.toInt ≤ 19 := i_nlt c_3
          refine lv_aload_n C.1 C.2.1 dX11_unit_49 rfl (lv_at hl 0 rfl) ?_
          refine k_get (v := .ref (ad 3)) C hP 0 rfl rfl inlX11 3 (by decide) m_2_8 rfl dX11_unit_50 ?_
          refine lv_iload_n C.1 C.2.1 dX11_unit_53 rfl (lv_at hl 1 rfl) ?_
          refine g_Vr (As := [.int x1]) (rest := []) C hP hD hS hA (T_X10_paper l D K Z Y ad d t hok (x1) (show (16 : Int) ≤ (x1 : Int32).toInt ∧ (x1 : Int32).toInt ≤ 19 from ⟨by omega, by omega⟩)) hE hZ (uwV m_86_17 m_53_22 m_53_23 m_1_20 m_54_0) (hdV 1 (by decide +kernel) rfl) ⟨Nat.le_of_ble_eq_true rfl, Nat.le_of_ble_eq_true rfl⟩ rfl rfl (ci := 9) (q0 := 3) rfl rfl rfl hl.1 (Nat.le_of_ble_eq_true rfl) dX11_unit_54 ⟨Nat.le_of_ble_eq_true rfl, Nat.le_of_ble_eq_true rfl⟩ (fun t_4 H locs hw hP hD hS => ?_)
          rcases hw with rfl | rfl | rfl
          · have h_7 : (0 : Int) ≤ (t.1 19 3).toInt ∧ (t.1 19 3).toInt ≤ 300 := hok.1 19 3
            refine k_get (v := .int (t.1 19 3)) C hP 19 rfl rfl inlX4 3 (by decide) m_86_16 rfl dX11_unit_57 ?_
            refine lv_goto (tgt := 64) C.1 C.2.1 dX11_unit_60 (by decide) ?_
            exact g_iret C hr hlocks hP hD hS rfl () rfl ⟨(i_rng _).1, (i_rng _).2⟩ (Nat.le_of_ble_eq_true rfl) (Nat.le_of_ble_eq_true rfl) dX11_unit_64
          · have h_8 : (0 : Int) ≤ (t.1 20 3).toInt ∧ (t.1 20 3).toInt ≤ 300 := hok.1 20 3
            refine k_get (v := .int (t.1 20 3)) C hP 20 rfl rfl inlX4 3 (by decide) m_86_16 rfl dX11_unit_57 ?_
            refine lv_goto (tgt := 64) C.1 C.2.1 dX11_unit_60 (by decide) ?_
            exact g_iret C hr hlocks hP hD hS rfl () rfl ⟨(i_rng _).1, (i_rng _).2⟩ (Nat.le_of_ble_eq_true rfl) (Nat.le_of_ble_eq_true rfl) dX11_unit_64
          · have h_9 : (0 : Int) ≤ (t.1 21 3).toInt ∧ (t.1 21 3).toInt ≤ 300 := hok.1 21 3
            refine k_get (v := .int (t.1 21 3)) C hP 21 rfl rfl inlX4 3 (by decide) m_86_16 rfl dX11_unit_57 ?_
            refine lv_goto (tgt := 64) C.1 C.2.1 dX11_unit_60 (by decide) ?_
            exact g_iret C hr hlocks hP hD hS rfl () rfl ⟨(i_rng _).1, (i_rng _).2⟩ (Nat.le_of_ble_eq_true rfl) (Nat.le_of_ble_eq_true rfl) dX11_unit_64
    · replace c_1 : x1.toInt = 16 := i_eq c_1
      refine lv_aload_n C.1 C.2.1 dX11_unit_26 rfl (lv_at hl 0 rfl) ?_
      refine k_get (v := .ref (ad 3)) C hP 0 rfl rfl inlX11 3 (by decide) m_2_8 rfl dX11_unit_27 ?_
      refine k_get (v := .ref (ad 18)) C hP 3 rfl rfl inlX10 9 (by decide) m_43_16 rfl dX11_unit_30 ?_
      refine k_get (v := .int (t.1 18 3)) C hP 18 rfl rfl inlX6 3 (by decide) m_43_17 rfl dX11_unit_33 ?_
      exact g_iret C hr hlocks hP hD hS rfl () rfl ⟨(i_rng _).1, (i_rng _).2⟩ (Nat.le_of_ble_eq_true rfl) (Nat.le_of_ble_eq_true rfl) dX11_unit_36
  refine lv_iload_n C.1 C.2.1 dX11_unit_0 rfl (lv_at hl 1 rfl) ?_
  refine lv_if_lt (tgt := 20) C.1 C.2.1 dX11_unit_1 (by decide) (fun c_10 => ?_) (fun c_10 => ?_)
  · replace c_10 : x1.toInt < 0 := i_lt c_10
    exact L_20  _ _ _  hP hD hS (lv_sub hl [0, 1] rfl)
  · replace c_10 : 0 ≤ x1.toInt := i_nlt c_10
    refine lv_iload_n C.1 C.2.1 dX11_unit_4 rfl (lv_at hl 1 rfl) ?_
    refine lv_bipush (v := 8) C.1 C.2.1 dX11_unit_5 (by decide) ?_
    refine lv_icmp_ge (tgt := 20) C.1 C.2.1 dX11_unit_7 (by decide) (fun c_11 => ?_) (fun c_11 => ?_)
    · replace c_11 : 8 ≤ x1.toInt := i_le c_11
      exact L_20  _ _ _  hP hD hS (lv_sub hl [0, 1] rfl)
    · replace c_11 : x1.toInt < 8 := i_nle c_11
      refine lv_aload_n C.1 C.2.1 dX11_unit_10 rfl (lv_at hl 0 rfl) ?_
      refine k_get (v := .ref (ad 3)) C hP 0 rfl rfl inlX11 3 (by decide) m_2_8 rfl dX11_unit_11 ?_
      refine k_get (v := .ref (ad 12)) C hP 3 rfl rfl inlX10 2 (by decide) m_86_15 rfl dX11_unit_14 ?_
      refine lv_iload_n C.1 C.2.1 dX11_unit_17 rfl (lv_at hl 1 rfl) ?_
      obtain ⟨v_12, e_13⟩ : ∃ z, z = (t.2.2.1 12 (x1 : Int32).toNatClampNeg) := ⟨_, rfl⟩
      refine k_ild (v := v_12) C hP 12 rfl (vp_in_iff.mpr ⟨by omega, by omega⟩) e_13.symm dX11_unit_18 ?_
      exact g_iret C hr hlocks hP hD hS rfl () rfl ⟨(i_rng _).1, (i_rng _).2⟩ (Nat.le_of_ble_eq_true rfl) (Nat.le_of_ble_eq_true rfl) dX11_unit_19

theorem dX1_shown_0 : decode cX1_shown 0 = .ok (.iload_n 0, 1) := by decide +kernel
theorem dX1_shown_1 : decode cX1_shown 1 = .ok (.ldc 11, 2) := by decide +kernel
theorem dX1_shown_11 : decode cX1_shown 11 = .ok (.iload_n 0, 1) := by decide +kernel
theorem dX1_shown_12 : decode cX1_shown 12 = .ok (.invokestatic 14, 3) := by decide +kernel
theorem dX1_shown_15 : decode cX1_shown 15 = .ok (.ireturn, 1) := by decide +kernel
theorem dX1_shown_3 : decode cX1_shown 3 = .ok (.if_icmp .ne 8, 3) := by decide +kernel
theorem dX1_shown_6 : decode cX1_shown 6 = .ok (.ldc 13, 2) := by decide +kernel
theorem dX1_shown_8 : decode cX1_shown 8 = .ok (.goto 7, 3) := by decide +kernel
set_option maxHeartbeats 4000000 in
set_option maxRecDepth 100000 in
theorem T_X1_shown (l : Launch) (D : va_G) (K : Nat → ClassId) (Z Y : Nat → Nat) (ad : Nat → Nat) (d : dSt) (t : tSt) (hok : okX t) (x0 : Int32) : tMet l yX1_shown cX1_shown 1 (some .int) (rmD 1 0 0) D K Z Y [.int x0] ((WX d) K ad t) (QI D K (fun (r : Int32) (u : Unit) => (-2147483648 : Int) ≤ r.toInt ∧ r.toInt ≤ 1073741823) (fun (_ : Unit) => (WX d) K ad t)) 0 0 := by
  refine t_met RX1 ⟨rfl, by decide +kernel⟩ (Nat.le_of_ble_eq_true rfl) ?_
  intro p e s m below meth c A ls C hE hZ hr hlocks hA hP hD hS hl
  have hl : lv_has ls 1 [(0, .int x0)] := hl
  refine lv_iload_n C.1 C.2.1 dX1_shown_0 rfl (lv_at hl 0 rfl) ?_
  refine lv_ldc (v := 1073741824) C.1 C.2.1 C.2.2.2.1 (C.2.2.2.2.1 _ m_22_17) dX1_shown_1 ?_
  refine lv_icmp_ne (tgt := 11) C.1 C.2.1 dX1_shown_3 (by decide) (fun c_1 => ?_) (fun c_1 => ?_)
  · replace c_1 : ¬ x0.toInt = 1073741824 := i_ne c_1
    refine lv_iload_n C.1 C.2.1 dX1_shown_11 rfl (lv_at hl 0 rfl) ?_
    refine g_Si (As := [.int x0]) (rest := []) C hP hD hS hA (T_X1_value l D K Z Y ad d t hok (x0)) hE hZ (uwS m_84_8 m_23_9 m_14_2 m_23_10) (hdS 1 (by decide +kernel) rfl) ⟨Nat.le_of_ble_eq_true rfl, Nat.le_of_ble_eq_true rfl⟩ rfl rfl rfl hl.1 (Nat.le_of_ble_eq_true rfl) dX1_shown_12 ⟨Nat.le_of_ble_eq_true rfl, Nat.le_of_ble_eq_true rfl⟩ (fun r_3 t_2 H locs hw hP hD hS => ?_)
    obtain ⟨h_5, h_6⟩ := hw
    exact g_iret C hr hlocks hP hD hS rfl () rfl ⟨by omega, by omega⟩ (Nat.le_of_ble_eq_true rfl) (Nat.le_of_ble_eq_true rfl) dX1_shown_15
  · replace c_1 : x0.toInt = 1073741824 := i_eq c_1
    refine lv_ldc (v := (-2147483648)) C.1 C.2.1 C.2.2.2.1 (C.2.2.2.2.1 _ m_84_7) dX1_shown_6 ?_
    refine lv_goto (tgt := 15) C.1 C.2.1 dX1_shown_8 (by decide) ?_
    exact g_iret C hr hlocks hP hD hS rfl () rfl ⟨by decide, by decide⟩ (Nat.le_of_ble_eq_true rfl) (Nat.le_of_ble_eq_true rfl) dX1_shown_15

theorem dX2_clear_0 : decode cX2_clear 0 = .ok (.aload_n 0, 1) := by decide +kernel
theorem dX2_clear_1 : decode cX2_clear 1 = .ok (.getfield 19, 3) := by decide +kernel
theorem dX2_clear_12 : decode cX2_clear 12 = .ok (.iconst 0, 1) := by decide +kernel
theorem dX2_clear_13 : decode cX2_clear 13 = .ok (.invokestatic 26, 3) := by decide +kernel
theorem dX2_clear_16 : decode cX2_clear 16 = .ok (.aload_n 0, 1) := by decide +kernel
theorem dX2_clear_17 : decode cX2_clear 17 = .ok (.getfield 22, 3) := by decide +kernel
theorem dX2_clear_20 : decode cX2_clear 20 = .ok (.invokevirtual 32, 3) := by decide +kernel
theorem dX2_clear_23 : decode cX2_clear 23 = .ok (.aload_n 0, 1) := by decide +kernel
theorem dX2_clear_24 : decode cX2_clear 24 = .ok (.iconst 0, 1) := by decide +kernel
theorem dX2_clear_25 : decode cX2_clear 25 = .ok (.putfield 37, 3) := by decide +kernel
theorem dX2_clear_28 : decode cX2_clear 28 = .ok (.aload_n 0, 1) := by decide +kernel
theorem dX2_clear_29 : decode cX2_clear 29 = .ok (.iconst 0, 1) := by decide +kernel
theorem dX2_clear_30 : decode cX2_clear 30 = .ok (.putfield 41, 3) := by decide +kernel
theorem dX2_clear_33 : decode cX2_clear 33 = .ok (.aload_n 0, 1) := by decide +kernel
theorem dX2_clear_34 : decode cX2_clear 34 = .ok (.iconst 0, 1) := by decide +kernel
theorem dX2_clear_35 : decode cX2_clear 35 = .ok (.putfield 44, 3) := by decide +kernel
theorem dX2_clear_38 : decode cX2_clear 38 = .ok (.aload_n 0, 1) := by decide +kernel
theorem dX2_clear_39 : decode cX2_clear 39 = .ok (.lconst 0, 1) := by decide +kernel
theorem dX2_clear_4 : decode cX2_clear 4 = .ok (.iconst 0, 1) := by decide +kernel
theorem dX2_clear_40 : decode cX2_clear 40 = .ok (.putfield 47, 3) := by decide +kernel
theorem dX2_clear_43 : decode cX2_clear 43 = .ok (.aload_n 0, 1) := by decide +kernel
theorem dX2_clear_44 : decode cX2_clear 44 = .ok (.bipush 9, 2) := by decide +kernel
theorem dX2_clear_46 : decode cX2_clear 46 = .ok (.putfield 15, 3) := by decide +kernel
theorem dX2_clear_49 : decode cX2_clear 49 = .ok (.aload_n 0, 1) := by decide +kernel
theorem dX2_clear_5 : decode cX2_clear 5 = .ok (.invokestatic 26, 3) := by decide +kernel
theorem dX2_clear_50 : decode cX2_clear 50 = .ok (.iconst 0, 1) := by decide +kernel
theorem dX2_clear_51 : decode cX2_clear 51 = .ok (.putfield 51, 3) := by decide +kernel
theorem dX2_clear_54 : decode cX2_clear 54 = .ok (.aload_n 0, 1) := by decide +kernel
theorem dX2_clear_55 : decode cX2_clear 55 = .ok (.iconst 0, 1) := by decide +kernel
theorem dX2_clear_56 : decode cX2_clear 56 = .ok (.putfield 54, 3) := by decide +kernel
theorem dX2_clear_59 : decode cX2_clear 59 = .ok (.return_, 1) := by decide +kernel
theorem dX2_clear_8 : decode cX2_clear 8 = .ok (.aload_n 0, 1) := by decide +kernel
theorem dX2_clear_9 : decode cX2_clear 9 = .ok (.getfield 11, 3) := by decide +kernel
set_option maxHeartbeats 4000000 in
set_option maxRecDepth 100000 in
theorem T_X2_clear (l : Launch) (D : va_G) (K : Nat → ClassId) (Z Y : Nat → Nat) (ad : Nat → Nat) (d : dSt) (t : tSt) (hok : okX t)  : tMet l yX2_clear cX2_clear 1 none (rmD 2 0 0) D K Z Y [.ref (ad 4)] ((WX d) K ad t) (QV D K (fun (u : tSt) => okX u ∧ frA [(3, 8), (4, 3), (4, 4), (4, 5), (4, 8), (4, 9), (4, 10)] [(4, 6)] [10, 15, 22] [13] t u) (fun (u : tSt) => (WX d) K ad u)) 0 0 := by
  refine t_met RX2 ⟨rfl, by decide +kernel⟩ (Nat.le_of_ble_eq_true rfl) ?_
  intro p e s m below meth c A ls C hE hZ hr hlocks hA hP hD hS hl
  have hl : lv_has ls 1 [(0, .ref (ad 4))] := hl
  have hokt := hok
  have hfr : frA [(3, 8), (4, 3), (4, 4), (4, 5), (4, 8), (4, 9), (4, 10)] [(4, 6)] [10, 15, 22] [13] t t := frA_rf
  refine lv_aload_n C.1 C.2.1 dX2_clear_0 rfl (lv_at hl 0 rfl) ?_
  refine k_get (v := .ref (ad 10)) C hP 4 rfl rfl inlX2 0 (by decide) m_4_18 rfl dX2_clear_1 ?_
  refine lv_iconst (v := 0) C.1 C.2.1 dX2_clear_4 (by decide) ?_
  refine g_Sv (W' := fun (_ : Unit) => (WX d) K ad (fB t 10 0)) (As := [.ref (ad 10), .int 0]) (rest := []) C hP hD hS hA (TJ_fillI l D K Z Y ((WX d) K ad t) 10 (ad 10) 7999 (by decide) _ 0 0 rfl rfl) hE hZ (uwS m_11_10 m_11_11 m_11_12 m_11_13) (hdS 2 (by decide +kernel) rfl) ⟨Nat.le_of_ble_eq_true rfl, Nat.le_of_ble_eq_true rfl⟩ rfl rfl rfl hl.1 (Nat.le_of_ble_eq_true rfl) dX2_clear_5 ⟨Nat.le_of_ble_eq_true rfl, Nat.le_of_ble_eq_true rfl⟩ (fun u_ H locs hw hP hD hS => ?_)
  have hok : okX (fB t 10 0) := ⟨hok.1, okB_f hok.2.1 10 0 (show (-2147483648 : Int) ≤ (0 : Int32).toInt ∧ (0 : Int32).toInt ≤ 2147483647 from (i_rng _)), trivial⟩
  have hfr : frA [(3, 8), (4, 3), (4, 4), (4, 5), (4, 8), (4, 9), (4, 10)] [(4, 6)] [10, 15, 22] [13] t (fB t 10 0) := frA_fB hfr 10 _ rfl
  refine lv_aload_n C.1 C.2.1 dX2_clear_8 rfl (lv_at hl 0 rfl) ?_
  refine k_get (v := .ref (ad 22)) C hP 4 rfl rfl inlX2 1 (by decide) m_4_16 rfl dX2_clear_9 ?_
  refine lv_iconst (v := 0) C.1 C.2.1 dX2_clear_12 (by decide) ?_
  obtain ⟨t_1, e_2⟩ : ∃ z, z = (fB t 10 0) := ⟨_, rfl⟩
  rw [← e_2] at hP hD hok hfr
  refine g_Sv (W' := fun (_ : Unit) => (WX d) K ad (fB t_1 22 0)) (As := [.ref (ad 22), .int 0]) (rest := []) C hP hD hS hA (TJ_fillI l D K Z Y ((WX d) K ad t_1) 22 (ad 22) 9 (by decide) _ 0 0 rfl rfl) hE hZ (uwS m_11_10 m_11_11 m_11_12 m_11_13) (hdS 2 (by decide +kernel) rfl) ⟨Nat.le_of_ble_eq_true rfl, Nat.le_of_ble_eq_true rfl⟩ rfl rfl rfl hl.1 (Nat.le_of_ble_eq_true rfl) dX2_clear_13 ⟨Nat.le_of_ble_eq_true rfl, Nat.le_of_ble_eq_true rfl⟩ (fun u_ H locs hw hP hD hS => ?_)
  have hok : okX (fB t_1 22 0) := ⟨hok.1, okB_f hok.2.1 22 0 (show (-2147483648 : Int) ≤ (0 : Int32).toInt ∧ (0 : Int32).toInt ≤ 2147483647 from (i_rng _)), trivial⟩
  have hfr : frA [(3, 8), (4, 3), (4, 4), (4, 5), (4, 8), (4, 9), (4, 10)] [(4, 6)] [10, 15, 22] [13] t (fB t_1 22 0) := frA_fB hfr 22 _ rfl
  refine lv_aload_n C.1 C.2.1 dX2_clear_16 rfl (lv_at hl 0 rfl) ?_
  refine k_get (v := .ref (ad 3)) C hP 4 rfl rfl inlX2 2 (by decide) m_4_19 rfl dX2_clear_17 ?_
  refine g_Vv (As := []) (rest := []) C hP hD hS hA (T_X10_free l D K Z Y ad d (fB t_1 22 0) hok ) hE hZ (uwV m_11_14 m_11_15 m_11_16 m_1_20 m_11_17) (hdV 0 (by decide +kernel) rfl) ⟨Nat.le_of_ble_eq_true rfl, Nat.le_of_ble_eq_true rfl⟩ rfl rfl (ci := 9) (q0 := 3) rfl rfl rfl hl.1 (Nat.le_of_ble_eq_true rfl) dX2_clear_20 ⟨Nat.le_of_ble_eq_true rfl, Nat.le_of_ble_eq_true rfl⟩ (fun t_3 H locs hw hP hD hS => ?_)
  obtain ⟨hok, f_5⟩ := hw
  have hfr : frA [(3, 8), (4, 3), (4, 4), (4, 5), (4, 8), (4, 9), (4, 10)] [(4, 6)] [10, 15, 22] [13] t t_3 := frA_tr hfr f_5 rfl
  refine lv_aload_n C.1 C.2.1 dX2_clear_23 rfl (lv_at hl 0 rfl) ?_
  refine lv_iconst (v := 0) C.1 C.2.1 dX2_clear_24 (by decide) ?_
  refine k_put (ws' := (WX d) K ad (uI t_3 4 3 0)) (v := .int 0) C hP hD hS 4 rfl rfl inlX2 tyX2_ok nmX2 3 (by decide) m_11_4 rfl (by decide) (by decide) rfl rfl dX2_clear_25 (fun H locs hP hD hS => ?_)
  have hok : okX (uI t_3 4 3 0) := ⟨okI_I hok.1 4 3 0 (show (0 : Int) ≤ (0 : Int32).toInt ∧ (0 : Int32).toInt ≤ 1 from ⟨by decide, by decide⟩), hok.2.1, trivial⟩
  have hfr : frA [(3, 8), (4, 3), (4, 4), (4, 5), (4, 8), (4, 9), (4, 10)] [(4, 6)] [10, 15, 22] [13] t (uI t_3 4 3 0) := frA_I hfr 4 3 _ rfl
  refine lv_aload_n C.1 C.2.1 dX2_clear_28 rfl (lv_at hl 0 rfl) ?_
  refine lv_iconst (v := 0) C.1 C.2.1 dX2_clear_29 (by decide) ?_
  refine k_put (ws' := (WX d) K ad (uI (uI t_3 4 3 0) 4 4 0)) (v := .int 0) C hP hD hS 4 rfl rfl inlX2 tyX2_ok nmX2 4 (by decide) m_11_5 rfl rfl rfl rfl rfl dX2_clear_30 (fun H locs hP hD hS => ?_)
  have hok : okX (uI (uI t_3 4 3 0) 4 4 0) := ⟨okI_I hok.1 4 4 0 (show (-1 : Int) ≤ (0 : Int32).toInt ∧ (0 : Int32).toInt ≤ 1 from ⟨by decide, by decide⟩), hok.2.1, trivial⟩
  have hfr : frA [(3, 8), (4, 3), (4, 4), (4, 5), (4, 8), (4, 9), (4, 10)] [(4, 6)] [10, 15, 22] [13] t (uI (uI t_3 4 3 0) 4 4 0) := frA_I hfr 4 4 _ rfl
  refine lv_aload_n C.1 C.2.1 dX2_clear_33 rfl (lv_at hl 0 rfl) ?_
  refine lv_iconst (v := 0) C.1 C.2.1 dX2_clear_34 (by decide) ?_
  refine k_put (ws' := (WX d) K ad (uI (uI (uI t_3 4 3 0) 4 4 0) 4 5 0)) (v := .int 0) C hP hD hS 4 rfl rfl inlX2 tyX2_ok nmX2 5 (by decide) m_11_6 rfl rfl rfl rfl rfl dX2_clear_35 (fun H locs hP hD hS => ?_)
  have hok : okX (uI (uI (uI t_3 4 3 0) 4 4 0) 4 5 0) := ⟨okI_I hok.1 4 5 0 (show (-2147483648 : Int) ≤ (0 : Int32).toInt ∧ (0 : Int32).toInt ≤ 2147483647 from (i_rng _)), hok.2.1, trivial⟩
  have hfr : frA [(3, 8), (4, 3), (4, 4), (4, 5), (4, 8), (4, 9), (4, 10)] [(4, 6)] [10, 15, 22] [13] t (uI (uI (uI t_3 4 3 0) 4 4 0) 4 5 0) := frA_I hfr 4 5 _ rfl
  refine lv_aload_n C.1 C.2.1 dX2_clear_38 rfl (lv_at hl 0 rfl) ?_
  refine lv_lconst (v := 0) C.1 C.2.1 dX2_clear_39 (by decide) ?_
  refine k_put (ws' := (WX d) K ad (uJ (uI (uI (uI t_3 4 3 0) 4 4 0) 4 5 0) 4 6 0)) (v := .long 0) C hP hD hS 4 rfl rfl inlX2 tyX2_ok nmX2 6 (by decide) m_11_7 rfl rfl rfl rfl rfl dX2_clear_40 (fun H locs hP hD hS => ?_)
  have hok : okX (uJ (uI (uI (uI t_3 4 3 0) 4 4 0) 4 5 0) 4 6 0) := ⟨hok.1, hok.2.1, trivial⟩
  have hfr : frA [(3, 8), (4, 3), (4, 4), (4, 5), (4, 8), (4, 9), (4, 10)] [(4, 6)] [10, 15, 22] [13] t (uJ (uI (uI (uI t_3 4 3 0) 4 4 0) 4 5 0) 4 6 0) := frA_J hfr 4 6 _ rfl
  refine lv_aload_n C.1 C.2.1 dX2_clear_43 rfl (lv_at hl 0 rfl) ?_
  refine lv_bipush (v := 9) C.1 C.2.1 dX2_clear_44 (by decide) ?_
  refine k_put (ws' := (WX d) K ad (uI (uJ (uI (uI (uI t_3 4 3 0) 4 4 0) 4 5 0) 4 6 0) 4 8 9)) (v := .int 9) C hP hD hS 4 rfl rfl inlX2 tyX2_ok nmX2 8 (by decide) m_4_17 rfl rfl rfl rfl rfl dX2_clear_46 (fun H locs hP hD hS => ?_)
  have hok : okX (uI (uJ (uI (uI (uI t_3 4 3 0) 4 4 0) 4 5 0) 4 6 0) 4 8 9) := ⟨okI_I hok.1 4 8 9 (show (0 : Int) ≤ (9 : Int32).toInt ∧ (9 : Int32).toInt ≤ 9 from ⟨by decide, by decide⟩), hok.2.1, trivial⟩
  have hfr : frA [(3, 8), (4, 3), (4, 4), (4, 5), (4, 8), (4, 9), (4, 10)] [(4, 6)] [10, 15, 22] [13] t (uI (uJ (uI (uI (uI t_3 4 3 0) 4 4 0) 4 5 0) 4 6 0) 4 8 9) := frA_I hfr 4 8 _ rfl
  refine lv_aload_n C.1 C.2.1 dX2_clear_49 rfl (lv_at hl 0 rfl) ?_
  refine lv_iconst (v := 0) C.1 C.2.1 dX2_clear_50 (by decide) ?_
  refine k_put (ws' := (WX d) K ad (uI (uI (uJ (uI (uI (uI t_3 4 3 0) 4 4 0) 4 5 0) 4 6 0) 4 8 9) 4 9 0)) (v := .int 0) C hP hD hS 4 rfl rfl inlX2 tyX2_ok nmX2 9 (by decide) m_11_8 rfl (by decide) (by decide) rfl rfl dX2_clear_51 (fun H locs hP hD hS => ?_)
  have hok : okX (uI (uI (uJ (uI (uI (uI t_3 4 3 0) 4 4 0) 4 5 0) 4 6 0) 4 8 9) 4 9 0) := ⟨okI_I hok.1 4 9 0 (show (0 : Int) ≤ (0 : Int32).toInt ∧ (0 : Int32).toInt ≤ 1 from ⟨by decide, by decide⟩), hok.2.1, trivial⟩
  have hfr : frA [(3, 8), (4, 3), (4, 4), (4, 5), (4, 8), (4, 9), (4, 10)] [(4, 6)] [10, 15, 22] [13] t (uI (uI (uJ (uI (uI (uI t_3 4 3 0) 4 4 0) 4 5 0) 4 6 0) 4 8 9) 4 9 0) := frA_I hfr 4 9 _ rfl
  refine lv_aload_n C.1 C.2.1 dX2_clear_54 rfl (lv_at hl 0 rfl) ?_
  refine lv_iconst (v := 0) C.1 C.2.1 dX2_clear_55 (by decide) ?_
  refine k_put (ws' := (WX d) K ad (uI (uI (uI (uJ (uI (uI (uI t_3 4 3 0) 4 4 0) 4 5 0) 4 6 0) 4 8 9) 4 9 0) 4 10 0)) (v := .int 0) C hP hD hS 4 rfl rfl inlX2 tyX2_ok nmX2 10 (by decide) m_11_9 rfl (by decide) (by decide) rfl rfl dX2_clear_56 (fun H locs hP hD hS => ?_)
  have hok : okX (uI (uI (uI (uJ (uI (uI (uI t_3 4 3 0) 4 4 0) 4 5 0) 4 6 0) 4 8 9) 4 9 0) 4 10 0) := ⟨okI_I hok.1 4 10 0 (show (0 : Int) ≤ (0 : Int32).toInt ∧ (0 : Int32).toInt ≤ 1 from ⟨by decide, by decide⟩), hok.2.1, trivial⟩
  have hfr : frA [(3, 8), (4, 3), (4, 4), (4, 5), (4, 8), (4, 9), (4, 10)] [(4, 6)] [10, 15, 22] [13] t (uI (uI (uI (uJ (uI (uI (uI t_3 4 3 0) 4 4 0) 4 5 0) 4 6 0) 4 8 9) 4 9 0) 4 10 0) := frA_I hfr 4 10 _ rfl
  exact g_vret C hr hlocks hP hD hS (uI (uI (uI (uJ (uI (uI (uI t_3 4 3 0) 4 4 0) 4 5 0) 4 6 0) 4 8 9) 4 9 0) 4 10 0) rfl ⟨hok, hfr⟩ (Nat.le_of_ble_eq_true rfl) (Nat.le_of_ble_eq_true rfl) dX2_clear_59

theorem dX9_open_0 : decode cX9_open 0 = .ok (.aload_n 0, 1) := by decide +kernel
theorem dX9_open_1 : decode cX9_open 1 = .ok (.iload_n 1, 1) := by decide +kernel
theorem dX9_open_10 : decode cX9_open 10 = .ok (.iload_n 2, 1) := by decide +kernel
theorem dX9_open_11 : decode cX9_open 11 = .ok (.aload_n 0, 1) := by decide +kernel
theorem dX9_open_12 : decode cX9_open 12 = .ok (.getfield 15, 3) := by decide +kernel
theorem dX9_open_15 : decode cX9_open 15 = .ok (.arraylength, 1) := by decide +kernel
theorem dX9_open_16 : decode cX9_open 16 = .ok (.invokestatic 28, 3) := by decide +kernel
theorem dX9_open_19 : decode cX9_open 19 = .ok (.putfield 31, 3) := by decide +kernel
theorem dX9_open_2 : decode cX9_open 2 = .ok (.iconst 0, 1) := by decide +kernel
theorem dX9_open_22 : decode cX9_open 22 = .ok (.aload_n 0, 1) := by decide +kernel
theorem dX9_open_23 : decode cX9_open 23 = .ok (.invokevirtual 34, 3) := by decide +kernel
theorem dX9_open_26 : decode cX9_open 26 = .ok (.return_, 1) := by decide +kernel
theorem dX9_open_3 : decode cX9_open 3 = .ok (.invokestatic 18, 3) := by decide +kernel
theorem dX9_open_6 : decode cX9_open 6 = .ok (.putfield 24, 3) := by decide +kernel
theorem dX9_open_9 : decode cX9_open 9 = .ok (.aload_n 0, 1) := by decide +kernel
set_option maxHeartbeats 4000000 in
set_option maxRecDepth 100000 in
theorem T_X9_open (l : Launch) (D : va_G) (K : Nat → ClassId) (Z Y : Nat → Nat) (ad : Nat → Nat) (d : dSt) (t : tSt) (hok : okX t) (x1 : Int32) (hx1 : (0 : Int) ≤ x1.toInt ∧ x1.toInt ≤ 0) (x2 : Int32) (hx2 : (0 : Int) ≤ x2.toInt ∧ x2.toInt ≤ 1280) : tMet l yX9_open cX9_open 3 none (rmD 1 0 0) D K Z Y [.ref (ad 29), .int x1, .int x2] ((WX d) K ad t) (QV D K (fun (u : tSt) => okX u ∧ frA [(29, 4), (29, 5), (29, 6), (29, 7)] [] [] [] t u ∧ ((u.1 29 4).toInt = x1.toInt) ∧ ((u.1 29 7).toInt = x2.toInt)) (fun (u : tSt) => (WX d) K ad u)) 0 0 := by
  refine t_met RX9 ⟨rfl, by decide +kernel⟩ (Nat.le_of_ble_eq_true rfl) ?_
  intro p e s m below meth c A ls C hE hZ hr hlocks hA hP hD hS hl
  have hl : lv_has ls 3 [(0, .ref (ad 29)), (1, .int x1), (2, .int x2)] := hl
  have hokt := hok
  have hfr : frA [(29, 4), (29, 5), (29, 6), (29, 7)] [] [] [] t t := frA_rf
  have h_1 : (0 : Int) ≤ (t.1 29 4).toInt ∧ (t.1 29 4).toInt ≤ 1281 := hok.1 29 4
  have h_2 : (0 : Int) ≤ (t.1 29 6).toInt ∧ (t.1 29 6).toInt ≤ 0 := hok.1 29 6
  have h_3 : (0 : Int) ≤ (t.1 29 7).toInt ∧ (t.1 29 7).toInt ≤ 1280 := hok.1 29 7
  refine lv_aload_n C.1 C.2.1 dX9_open_0 rfl (lv_at hl 0 rfl) ?_
  refine lv_iload_n C.1 C.2.1 dX9_open_1 rfl (lv_at hl 1 rfl) ?_
  refine lv_iconst (v := 0) C.1 C.2.1 dX9_open_2 (by decide) ?_
  obtain ⟨v_5, e_4⟩ : ∃ z, z = if (x1 : Int32) < (0 : Int32) then (0 : Int32) else (x1 : Int32) := ⟨_, rfl⟩
  have h_6 : (0 : Int32).toInt = 0 := rfl
  have h_7 := mx_r e_4
  refine k_mmax (v := v_5) C hl.1 m_12_13 m_12_14 m_12_15 m_12_16 (Nat.le_of_ble_eq_true rfl) (Nat.le_of_ble_eq_true rfl) (Nat.le_of_ble_eq_true rfl) (Nat.le_of_ble_eq_true rfl) e_4.symm dX9_open_3 ?_
  refine k_put (ws' := (WX d) K ad (uI t 29 6 v_5)) (v := .int v_5) C hP hD hS 29 rfl rfl inlX9 tyX9_ok nmX9 6 (by decide) m_12_17 rfl rfl rfl rfl rfl dX9_open_6 (fun H locs hP hD hS => ?_)
  have hok : okX (uI t 29 6 v_5) := ⟨okI_I hok.1 29 6 v_5 (show (0 : Int) ≤ (v_5 : Int32).toInt ∧ (v_5 : Int32).toInt ≤ 0 from ⟨by omega, by omega⟩), hok.2.1, trivial⟩
  have hfr : frA [(29, 4), (29, 5), (29, 6), (29, 7)] [] [] [] t (uI t 29 6 v_5) := frA_I hfr 29 6 _ rfl
  refine lv_aload_n C.1 C.2.1 dX9_open_9 rfl (lv_at hl 0 rfl) ?_
  refine lv_iload_n C.1 C.2.1 dX9_open_10 rfl (lv_at hl 2 rfl) ?_
  refine lv_aload_n C.1 C.2.1 dX9_open_11 rfl (lv_at hl 0 rfl) ?_
  refine k_get (v := .ref (ad 1)) C hP 29 rfl rfl inlX9 0 (by decide) m_3_0 rfl dX9_open_12 ?_
  refine k_len (v := 8192) C hP 1 2 rfl rfl rfl dX9_open_15 ?_
  obtain ⟨v_9, e_8⟩ : ∃ z, z = if (8192 : Int32) < (x2 : Int32) then (8192 : Int32) else (x2 : Int32) := ⟨_, rfl⟩
  have h_10 : (8192 : Int32).toInt = 8192 := rfl
  have h_11 := mn_r e_8
  refine k_mmin (v := v_9) C hl.1 m_12_18 m_12_19 m_12_15 m_12_20 (Nat.le_of_ble_eq_true rfl) (Nat.le_of_ble_eq_true rfl) (Nat.le_of_ble_eq_true rfl) (Nat.le_of_ble_eq_true rfl) e_8.symm dX9_open_16 ?_
  refine k_put (ws' := (WX d) K ad (uI (uI t 29 6 v_5) 29 7 v_9)) (v := .int v_9) C hP hD hS 29 rfl rfl inlX9 tyX9_ok nmX9 7 (by decide) m_12_21 rfl rfl rfl rfl rfl dX9_open_19 (fun H locs hP hD hS => ?_)
  have hok : okX (uI (uI t 29 6 v_5) 29 7 v_9) := ⟨okI_I hok.1 29 7 v_9 (show (0 : Int) ≤ (v_9 : Int32).toInt ∧ (v_9 : Int32).toInt ≤ 1280 from ⟨by omega, by omega⟩), hok.2.1, trivial⟩
  have hfr : frA [(29, 4), (29, 5), (29, 6), (29, 7)] [] [] [] t (uI (uI t 29 6 v_5) 29 7 v_9) := frA_I hfr 29 7 _ rfl
  refine lv_aload_n C.1 C.2.1 dX9_open_22 rfl (lv_at hl 0 rfl) ?_
  refine g_Vv (As := []) (rest := []) C hP hD hS hA (T_X9_reopen l D K Z Y ad d (uI (uI t 29 6 v_5) 29 7 v_9) hok ) hE hZ (uwV m_12_22 m_12_23 m_13_0 m_1_17 m_13_1) (hdV 0 (by decide +kernel) rfl) ⟨Nat.le_of_ble_eq_true rfl, Nat.le_of_ble_eq_true rfl⟩ rfl rfl (ci := 8) (q0 := 29) rfl rfl rfl hl.1 (Nat.le_of_ble_eq_true rfl) dX9_open_23 ⟨Nat.le_of_ble_eq_true rfl, Nat.le_of_ble_eq_true rfl⟩ (fun t_12 H locs hw hP hD hS => ?_)
  obtain ⟨hok, f_14, p_15⟩ := hw
  have hfr : frA [(29, 4), (29, 5), (29, 6), (29, 7)] [] [] [] t t_12 := frA_tr hfr f_14 rfl
  have h_16 : (t_12.1 29 6).toInt = v_5.toInt := ti_eq (f_14.1 29 6 rfl)
  have h_17 : (t_12.1 29 7).toInt = v_9.toInt := ti_eq (f_14.1 29 7 rfl)
  have h_18 : (0 : Int) ≤ (t_12.1 29 4).toInt ∧ (t_12.1 29 4).toInt ≤ 1281 := hok.1 29 4
  replace p_15 : (t_12.1 29 4).toInt = v_5.toInt := p_15
  exact g_vret C hr hlocks hP hD hS t_12 rfl ⟨hok, hfr, (show (t_12.1 29 4).toInt = x1.toInt from by omega), (show (t_12.1 29 7).toInt = x2.toInt from by omega)⟩ (Nat.le_of_ble_eq_true rfl) (Nat.le_of_ble_eq_true rfl) dX9_open_26

theorem dX11_tapeWord_0 : decode cX11_tapeWord 0 = .ok (.iconst 0, 1) := by decide +kernel
theorem dX11_tapeWord_1 : decode cX11_tapeWord 1 = .ok (.istore_n 3, 1) := by decide +kernel
theorem dX11_tapeWord_10 : decode cX11_tapeWord 10 = .ok (.if_icmp .ge 43, 3) := by decide +kernel
theorem dX11_tapeWord_13 : decode cX11_tapeWord 13 = .ok (.iload_n 3, 1) := by decide +kernel
theorem dX11_tapeWord_14 : decode cX11_tapeWord 14 = .ok (.bipush 6, 2) := by decide +kernel
theorem dX11_tapeWord_16 : decode cX11_tapeWord 16 = .ok (.ishl, 1) := by decide +kernel
theorem dX11_tapeWord_17 : decode cX11_tapeWord 17 = .ok (.iload 4, 2) := by decide +kernel
theorem dX11_tapeWord_19 : decode cX11_tapeWord 19 = .ok (.iload_n 2, 1) := by decide +kernel
theorem dX11_tapeWord_2 : decode cX11_tapeWord 2 = .ok (.iload_n 1, 1) := by decide +kernel
theorem dX11_tapeWord_20 : decode cX11_tapeWord 20 = .ok (.if_icmp .ge 24, 3) := by decide +kernel
theorem dX11_tapeWord_23 : decode cX11_tapeWord 23 = .ok (.iload 4, 2) := by decide +kernel
theorem dX11_tapeWord_25 : decode cX11_tapeWord 25 = .ok (.sipush 8192, 3) := by decide +kernel
theorem dX11_tapeWord_28 : decode cX11_tapeWord 28 = .ok (.if_icmp .ge 16, 3) := by decide +kernel
theorem dX11_tapeWord_3 : decode cX11_tapeWord 3 = .ok (.istore 4, 2) := by decide +kernel
theorem dX11_tapeWord_31 : decode cX11_tapeWord 31 = .ok (.aload_n 0, 1) := by decide +kernel
theorem dX11_tapeWord_32 : decode cX11_tapeWord 32 = .ok (.getfield 32, 3) := by decide +kernel
theorem dX11_tapeWord_35 : decode cX11_tapeWord 35 = .ok (.iload 4, 2) := by decide +kernel
theorem dX11_tapeWord_37 : decode cX11_tapeWord 37 = .ok (.baload, 1) := by decide +kernel
theorem dX11_tapeWord_38 : decode cX11_tapeWord 38 = .ok (.invokestatic 292, 3) := by decide +kernel
theorem dX11_tapeWord_41 : decode cX11_tapeWord 41 = .ok (.goto 4, 3) := by decide +kernel
theorem dX11_tapeWord_44 : decode cX11_tapeWord 44 = .ok (.iconst 0, 1) := by decide +kernel
theorem dX11_tapeWord_45 : decode cX11_tapeWord 45 = .ok (.ior, 1) := by decide +kernel
theorem dX11_tapeWord_46 : decode cX11_tapeWord 46 = .ok (.istore_n 3, 1) := by decide +kernel
theorem dX11_tapeWord_47 : decode cX11_tapeWord 47 = .ok (.iinc 4 1, 3) := by decide +kernel
theorem dX11_tapeWord_5 : decode cX11_tapeWord 5 = .ok (.iload 4, 2) := by decide +kernel
theorem dX11_tapeWord_50 : decode cX11_tapeWord 50 = .ok (.goto (-45), 3) := by decide +kernel
theorem dX11_tapeWord_53 : decode cX11_tapeWord 53 = .ok (.iload_n 3, 1) := by decide +kernel
theorem dX11_tapeWord_54 : decode cX11_tapeWord 54 = .ok (.ireturn, 1) := by decide +kernel
theorem dX11_tapeWord_7 : decode cX11_tapeWord 7 = .ok (.iload_n 1, 1) := by decide +kernel
theorem dX11_tapeWord_8 : decode cX11_tapeWord 8 = .ok (.iconst 5, 1) := by decide +kernel
theorem dX11_tapeWord_9 : decode cX11_tapeWord 9 = .ok (.iadd, 1) := by decide +kernel
set_option maxHeartbeats 4000000 in
set_option maxRecDepth 100000 in
theorem T_X11_tapeWord (l : Launch) (D : va_G) (K : Nat → ClassId) (Z Y : Nat → Nat) (ad : Nat → Nat) (d : dSt) (t : tSt) (hok : okX t) (x1 : Int32) (hx1 : (0 : Int) ≤ x1.toInt ∧ x1.toInt ≤ 40000) (x2 : Int32) (hx2 : (0 : Int) ≤ x2.toInt ∧ x2.toInt ≤ 1280) : tMet l yX11_tapeWord cX11_tapeWord 5 (some .int) (rmD 6 0 0) D K Z Y [.ref (ad 0), .int x1, .int x2] ((WX d) K ad t) (QI D K (fun (r : Int32) (u : Unit) => (-2147483648 : Int) ≤ r.toInt ∧ r.toInt ≤ 2147483647) (fun (_ : Unit) => (WX d) K ad t)) 0 0 := by
  refine t_met RX11 ⟨rfl, by decide +kernel⟩ (Nat.le_of_ble_eq_true rfl) ?_
  intro p e s m below meth c A ls C hE hZ hr hlocks hA hP hD hS hl
  have hl : lv_has ls 5 [(0, .ref (ad 0)), (1, .int x1), (2, .int x2)] := hl
  have L_5 : ∀ (fuel_5 : Nat) (w5_3 : Int32) (w5_4 : Int32) (H : Heap) (locs : List Loc) (ls : Array Slot), (0 : Int) ≤ w5_4.toInt ∧ w5_4.toInt ≤ 49152 → (x1.toInt ≤ w5_4.toInt) → (w5_4.toInt ≤ x1.toInt + 5) → (x1.toInt + 5 - w5_4.toInt) < (fuel_5 : Int) → va_P D vwCl ((WX d) K ad t) H → va_D A ((WX d) K ad t) → va_S A s.heap H locs → lv_has ls 5 [(0, .ref (ad 0)), (1, .int x1), (2, .int x2), (3, .int w5_3), (4, .int w5_4)] → W p l e (rmD 6 0 0) s m [.ref (ad 0), .int x1, .int x2].toArray below meth c H locs 0 0 (MQ below (QI D K (fun (r : Int32) (u : Unit) => (-2147483648 : Int) ≤ r.toInt ∧ r.toInt ≤ 2147483647) (fun (_ : Unit) => (WX d) K ad t) A) [.ref (ad 0), .int x1, .int x2].toArray s 0 0 A) (F0 m 5 ls []) := by
    intro fuel_5
    induction fuel_5 with
    | zero =>
      intro w5_3 w5_4 H locs ls hw5_4 hi5_0 hi5_1 hm5_5 hP hD hS hl
      exact absurd hm5_5 (by omega)
    | succ fuel_5 ih_5 =>
      intro w5_3 w5_4 H locs ls hw5_4 hi5_0 hi5_1 hm5_5 hP hD hS hl
      have hm5_5 : (x1.toInt + 5 - w5_4.toInt) < (fuel_5 : Int) + 1 := by omega
      have L_45 : ∀ (w45_3 : Int32) (w45_4 : Int32) (k45_0 : Int32) (k45_1 : Int32) (H : Heap) (locs : List Loc) (ls : Array Slot), (0 : Int) ≤ w45_4.toInt ∧ w45_4.toInt ≤ 40004 → (0 : Int) ≤ k45_1.toInt ∧ k45_1.toInt ≤ 399 → (x1.toInt ≤ w45_4.toInt) → (w45_4.toInt < x1.toInt + 5) → (x1.toInt + 5 - w45_4.toInt) < (fuel_5 : Int) + 1 → va_P D vwCl ((WX d) K ad t) H → va_D A ((WX d) K ad t) → va_S A s.heap H locs → lv_has ls 5 [(0, .ref (ad 0)), (1, .int x1), (2, .int x2), (3, .int w45_3), (4, .int w45_4)] → W p l e (rmD 6 0 0) s m [.ref (ad 0), .int x1, .int x2].toArray below meth c H locs 0 0 (MQ below (QI D K (fun (r : Int32) (u : Unit) => (-2147483648 : Int) ≤ r.toInt ∧ r.toInt ≤ 2147483647) (fun (_ : Unit) => (WX d) K ad t) A) [.ref (ad 0), .int x1, .int x2].toArray s 0 0 A) (F0 m 45 ls [.int k45_1, .int k45_0]) := by
        intro w45_3 w45_4 k45_0 k45_1 H locs ls hw45_4 hk45_1 hi45_0 hi45_1 hm45_5 hP hD hS hl
        obtain ⟨v_1, e_2⟩ : ∃ z, z = (k45_0 : Int32) ||| (k45_1 : Int32) := ⟨_, rfl⟩
        refine k_ior (v := v_1) C e_2.symm dX11_tapeWord_45 ?_
        refine lv_istore_n (lv' := [(3, .int v_1), (0, .ref (ad 0)), (1, .int x1), (2, .int x2), (4, .int w45_4)]) C.1 C.2.1 dX11_tapeWord_46 rfl hl (by decide) rfl (fun ls hl => ?_)
        have hl : lv_has ls 5 [(0, .ref (ad 0)), (1, .int x1), (2, .int x2), (3, .int v_1), (4, .int w45_4)] := lv_sub hl [1, 2, 3, 0, 4] rfl
        obtain ⟨v_4, e_5⟩ : ∃ z, z = w45_4 + 1 := ⟨_, rfl⟩
        have h_6 : v_4.toInt = w45_4.toInt + 1 := by rw [e_5]; exact ti_iadd (by show (_ : Int) ≤ w45_4.toInt + 1; omega) (by show w45_4.toInt + 1 < (_ : Int); omega)
        refine lv_iinc (v := v_4) (lv' := [(4, .int v_4), (0, .ref (ad 0)), (1, .int x1), (2, .int x2), (3, .int v_1)]) C.1 C.2.1 dX11_tapeWord_47 hl (k := 4) rfl e_5.symm (by decide) rfl (fun ls hl => ?_)
        have hl : lv_has ls 5 [(0, .ref (ad 0)), (1, .int x1), (2, .int x2), (3, .int v_1), (4, .int v_4)] := lv_sub hl [1, 2, 3, 4, 0] rfl
        refine lv_goto (tgt := 5) C.1 C.2.1 dX11_tapeWord_50 (by decide) ?_
        exact ih_5 v_1 v_4 _ _ _ ⟨by omega, by omega⟩ (show x1.toInt ≤ v_4.toInt from by omega) (show v_4.toInt ≤ x1.toInt + 5 from by omega) (show (x1.toInt + 5 - v_4.toInt) < (fuel_5 : Int) from by omega) hP hD hS (lv_sub hl [0, 1, 2, 3, 4] rfl)
      have L_44 : ∀ (w44_3 : Int32) (w44_4 : Int32) (k44_0 : Int32) (H : Heap) (locs : List Loc) (ls : Array Slot), (0 : Int) ≤ w44_4.toInt ∧ w44_4.toInt ≤ 40004 → (x1.toInt ≤ w44_4.toInt) → (w44_4.toInt < x1.toInt + 5) → (x1.toInt + 5 - w44_4.toInt) < (fuel_5 : Int) + 1 → va_P D vwCl ((WX d) K ad t) H → va_D A ((WX d) K ad t) → va_S A s.heap H locs → lv_has ls 5 [(0, .ref (ad 0)), (1, .int x1), (2, .int x2), (3, .int w44_3), (4, .int w44_4)] → W p l e (rmD 6 0 0) s m [.ref (ad 0), .int x1, .int x2].toArray below meth c H locs 0 0 (MQ below (QI D K (fun (r : Int32) (u : Unit) => (-2147483648 : Int) ≤ r.toInt ∧ r.toInt ≤ 2147483647) (fun (_ : Unit) => (WX d) K ad t) A) [.ref (ad 0), .int x1, .int x2].toArray s 0 0 A) (F0 m 44 ls [.int k44_0]) := by
        intro w44_3 w44_4 k44_0 H locs ls hw44_4 hi44_0 hi44_1 hm44_5 hP hD hS hl
        refine lv_iconst (v := 0) C.1 C.2.1 dX11_tapeWord_44 (by decide) ?_
        exact L_45 w44_3 w44_4 k44_0 0 _ _ _ ⟨by omega, by omega⟩ ⟨by decide, by decide⟩ (show x1.toInt ≤ w44_4.toInt from by omega) (show w44_4.toInt < x1.toInt + 5 from by omega) (show (x1.toInt + 5 - w44_4.toInt) < (fuel_5 : Int) + 1 from by omega) hP hD hS (lv_sub hl [0, 1, 2, 3, 4] rfl)
      refine lv_iload C.1 C.2.1 dX11_tapeWord_5 (lv_at hl 4 rfl) ?_
      refine lv_iload_n C.1 C.2.1 dX11_tapeWord_7 rfl (lv_at hl 1 rfl) ?_
      refine lv_iconst (v := 5) C.1 C.2.1 dX11_tapeWord_8 (by decide) ?_
      obtain ⟨v_7, e_8⟩ : ∃ z, z = (x1 : Int32) + (5 : Int32) := ⟨_, rfl⟩
      have h_9 : v_7.toInt = x1.toInt + 5 := by rw [e_8]; exact ti_iadd (by show (_ : Int) ≤ x1.toInt + 5; omega) (by show x1.toInt + 5 < (_ : Int); omega)
      refine k_iadd (v := v_7) C e_8.symm dX11_tapeWord_9 ?_
      refine lv_icmp_ge (tgt := 53) C.1 C.2.1 dX11_tapeWord_10 (by decide) (fun c_10 => ?_) (fun c_10 => ?_)
      · replace c_10 : v_7.toInt ≤ w5_4.toInt := i_le c_10
        refine lv_iload_n C.1 C.2.1 dX11_tapeWord_53 rfl (lv_at hl 3 rfl) ?_
        exact g_iret C hr hlocks hP hD hS rfl () rfl ⟨(i_rng _).1, (i_rng _).2⟩ (Nat.le_of_ble_eq_true rfl) (Nat.le_of_ble_eq_true rfl) dX11_tapeWord_54
      · replace c_10 : w5_4.toInt < v_7.toInt := i_nle c_10
        refine lv_iload_n C.1 C.2.1 dX11_tapeWord_13 rfl (lv_at hl 3 rfl) ?_
        refine lv_bipush (v := 6) C.1 C.2.1 dX11_tapeWord_14 (by decide) ?_
        obtain ⟨v_11, e_12⟩ : ∃ z, z = (w5_3 : Int32) <<< ((6 : Int32) &&& 31) := ⟨_, rfl⟩
        refine k_ishl (v := v_11) C e_12.symm dX11_tapeWord_16 ?_
        refine lv_iload C.1 C.2.1 dX11_tapeWord_17 (lv_at hl 4 rfl) ?_
        refine lv_iload_n C.1 C.2.1 dX11_tapeWord_19 rfl (lv_at hl 2 rfl) ?_
        refine lv_icmp_ge (tgt := 44) C.1 C.2.1 dX11_tapeWord_20 (by decide) (fun c_14 => ?_) (fun c_14 => ?_)
        · replace c_14 : x2.toInt ≤ w5_4.toInt := i_le c_14
          exact L_44 w5_3 w5_4 v_11 _ _ _ ⟨by omega, by omega⟩ (show x1.toInt ≤ w5_4.toInt from by omega) (show w5_4.toInt < x1.toInt + 5 from by omega) (show (x1.toInt + 5 - w5_4.toInt) < (fuel_5 : Int) + 1 from by omega) hP hD hS (lv_sub hl [0, 1, 2, 3, 4] rfl)
        · replace c_14 : w5_4.toInt < x2.toInt := i_nle c_14
          refine lv_iload C.1 C.2.1 dX11_tapeWord_23 (lv_at hl 4 rfl) ?_
          refine lv_sipush (v := 8192) C.1 C.2.1 dX11_tapeWord_25 (by decide) ?_
          refine lv_icmp_ge (tgt := 44) C.1 C.2.1 dX11_tapeWord_28 (by decide) (fun c_15 => False.elim (by have c_15 : 8192 ≤ w5_4.toInt := i_le c_15; omega)) (fun c_15 => ?_)
          replace c_15 : w5_4.toInt < 8192 := i_nle c_15
          refine lv_aload_n C.1 C.2.1 dX11_tapeWord_31 rfl (lv_at hl 0 rfl) ?_
          refine k_get (v := .ref (ad 1)) C hP 0 rfl rfl inlX11 0 (by decide) m_2_6 rfl dX11_tapeWord_32 ?_
          refine lv_iload C.1 C.2.1 dX11_tapeWord_35 (lv_at hl 4 rfl) ?_
          obtain ⟨v_16, e_17⟩ : ∃ z, z = (t.2.2.1 1 (w5_4 : Int32).toNatClampNeg) := ⟨_, rfl⟩
          have h_18 : (-128 : Int) ≤ v_16.toInt ∧ v_16.toInt ≤ 127 := by rw [e_17]; exact hok.2.1 1 _
          refine k_bld (v := v_16) C hP 1 rfl (vp_in_iff.mpr ⟨by omega, by omega⟩) e_17.symm dX11_tapeWord_37 ?_
          refine g_Si (As := [.int v_16]) (rest := [.int v_11]) C hP hD hS hA (T_X1_code l D K Z Y ad d t hok (v_16) (show (-128 : Int) ≤ (v_16 : Int32).toInt ∧ (v_16 : Int32).toInt ≤ 127 from ⟨by omega, by omega⟩)) hE hZ (uwS m_71_0 m_14_1 m_14_2 m_14_3) (hdS 1 (by decide +kernel) rfl) ⟨Nat.le_of_ble_eq_true rfl, Nat.le_of_ble_eq_true rfl⟩ rfl rfl rfl hl.1 (Nat.le_of_ble_eq_true rfl) dX11_tapeWord_38 ⟨Nat.le_of_ble_eq_true rfl, Nat.le_of_ble_eq_true rfl⟩ (fun r_20 t_19 H locs hw hP hD hS => ?_)
          obtain ⟨h_22, h_23⟩ := hw
          refine lv_goto (tgt := 45) C.1 C.2.1 dX11_tapeWord_41 (by decide) ?_
          exact L_45 w5_3 w5_4 v_11 r_20 _ _ _ ⟨by omega, by omega⟩ ⟨by omega, by omega⟩ (show x1.toInt ≤ w5_4.toInt from by omega) (show w5_4.toInt < x1.toInt + 5 from by omega) (show (x1.toInt + 5 - w5_4.toInt) < (fuel_5 : Int) + 1 from by omega) hP hD hS (lv_sub hl [0, 1, 2, 3, 4] rfl)
  refine lv_iconst (v := 0) C.1 C.2.1 dX11_tapeWord_0 (by decide) ?_
  refine lv_istore_n (lv' := [(3, .int 0), (0, .ref (ad 0)), (1, .int x1), (2, .int x2)]) C.1 C.2.1 dX11_tapeWord_1 rfl hl (by decide) rfl (fun ls hl => ?_)
  have hl : lv_has ls 5 [(0, .ref (ad 0)), (1, .int x1), (2, .int x2), (3, .int 0)] := lv_sub hl [1, 2, 3, 0] rfl
  refine lv_iload_n C.1 C.2.1 dX11_tapeWord_2 rfl (lv_at hl 1 rfl) ?_
  refine lv_istore (lv' := [(4, .int x1), (0, .ref (ad 0)), (1, .int x1), (2, .int x2), (3, .int 0)]) C.1 C.2.1 dX11_tapeWord_3 hl (by decide) rfl (fun ls hl => ?_)
  have hl : lv_has ls 5 [(0, .ref (ad 0)), (1, .int x1), (2, .int x2), (3, .int 0), (4, .int x1)] := lv_sub hl [1, 2, 3, 4, 0] rfl
  exact L_5 10 0 x1 _ _ _ ⟨by omega, by omega⟩ (show x1.toInt ≤ x1.toInt from by omega) (show x1.toInt ≤ x1.toInt + 5 from by omega) (show (x1.toInt + 5 - x1.toInt) < ((10 : Nat) : Int) from by omega) hP hD hS (lv_sub hl [0, 1, 2, 3, 4] rfl)

theorem dX11_tapeName_0 : decode cX11_tapeName 0 = .ok (.iload_n 1, 1) := by decide +kernel
theorem dX11_tapeName_1 : decode cX11_tapeName 1 = .ok (.iconst 1, 1) := by decide +kernel
theorem dX11_tapeName_11 : decode cX11_tapeName 11 = .ok (.lconst 0, 1) := by decide +kernel
theorem dX11_tapeName_12 : decode cX11_tapeName 12 = .ok (.lreturn, 1) := by decide +kernel
theorem dX11_tapeName_13 : decode cX11_tapeName 13 = .ok (.lconst 0, 1) := by decide +kernel
theorem dX11_tapeName_14 : decode cX11_tapeName 14 = .ok (.lstore_n 2, 1) := by decide +kernel
theorem dX11_tapeName_15 : decode cX11_tapeName 15 = .ok (.iconst 0, 1) := by decide +kernel
theorem dX11_tapeName_16 : decode cX11_tapeName 16 = .ok (.istore 4, 2) := by decide +kernel
theorem dX11_tapeName_18 : decode cX11_tapeName 18 = .ok (.iload 4, 2) := by decide +kernel
theorem dX11_tapeName_2 : decode cX11_tapeName 2 = .ok (.if_icmp .lt 9, 3) := by decide +kernel
theorem dX11_tapeName_20 : decode cX11_tapeName 20 = .ok (.iload_n 1, 1) := by decide +kernel
theorem dX11_tapeName_21 : decode cX11_tapeName 21 = .ok (.if_icmp .ge 37, 3) := by decide +kernel
theorem dX11_tapeName_24 : decode cX11_tapeName 24 = .ok (.aload_n 0, 1) := by decide +kernel
theorem dX11_tapeName_25 : decode cX11_tapeName 25 = .ok (.getfield 32, 3) := by decide +kernel
theorem dX11_tapeName_28 : decode cX11_tapeName 28 = .ok (.iload 4, 2) := by decide +kernel
theorem dX11_tapeName_30 : decode cX11_tapeName 30 = .ok (.baload, 1) := by decide +kernel
theorem dX11_tapeName_31 : decode cX11_tapeName 31 = .ok (.invokestatic 295, 3) := by decide +kernel
theorem dX11_tapeName_34 : decode cX11_tapeName 34 = .ok (.istore 5, 2) := by decide +kernel
theorem dX11_tapeName_36 : decode cX11_tapeName 36 = .ok (.iload 5, 2) := by decide +kernel
theorem dX11_tapeName_38 : decode cX11_tapeName 38 = .ok (.ifCond .ne 5, 3) := by decide +kernel
theorem dX11_tapeName_41 : decode cX11_tapeName 41 = .ok (.lconst 0, 1) := by decide +kernel
theorem dX11_tapeName_42 : decode cX11_tapeName 42 = .ok (.lreturn, 1) := by decide +kernel
theorem dX11_tapeName_43 : decode cX11_tapeName 43 = .ok (.lload_n 2, 1) := by decide +kernel
theorem dX11_tapeName_44 : decode cX11_tapeName 44 = .ok (.bipush 6, 2) := by decide +kernel
theorem dX11_tapeName_46 : decode cX11_tapeName 46 = .ok (.lshl, 1) := by decide +kernel
theorem dX11_tapeName_47 : decode cX11_tapeName 47 = .ok (.iload 5, 2) := by decide +kernel
theorem dX11_tapeName_49 : decode cX11_tapeName 49 = .ok (.i2l, 1) := by decide +kernel
theorem dX11_tapeName_5 : decode cX11_tapeName 5 = .ok (.iload_n 1, 1) := by decide +kernel
theorem dX11_tapeName_50 : decode cX11_tapeName 50 = .ok (.lor, 1) := by decide +kernel
theorem dX11_tapeName_51 : decode cX11_tapeName 51 = .ok (.lstore_n 2, 1) := by decide +kernel
theorem dX11_tapeName_52 : decode cX11_tapeName 52 = .ok (.iinc 4 1, 3) := by decide +kernel
theorem dX11_tapeName_55 : decode cX11_tapeName 55 = .ok (.goto (-37), 3) := by decide +kernel
theorem dX11_tapeName_58 : decode cX11_tapeName 58 = .ok (.lload_n 2, 1) := by decide +kernel
theorem dX11_tapeName_59 : decode cX11_tapeName 59 = .ok (.bipush 6, 2) := by decide +kernel
theorem dX11_tapeName_6 : decode cX11_tapeName 6 = .ok (.bipush 10, 2) := by decide +kernel
theorem dX11_tapeName_61 : decode cX11_tapeName 61 = .ok (.bipush 10, 2) := by decide +kernel
theorem dX11_tapeName_63 : decode cX11_tapeName 63 = .ok (.iload_n 1, 1) := by decide +kernel
theorem dX11_tapeName_64 : decode cX11_tapeName 64 = .ok (.isub, 1) := by decide +kernel
theorem dX11_tapeName_65 : decode cX11_tapeName 65 = .ok (.imul, 1) := by decide +kernel
theorem dX11_tapeName_66 : decode cX11_tapeName 66 = .ok (.lshl, 1) := by decide +kernel
theorem dX11_tapeName_67 : decode cX11_tapeName 67 = .ok (.lreturn, 1) := by decide +kernel
theorem dX11_tapeName_8 : decode cX11_tapeName 8 = .ok (.if_icmp .le 5, 3) := by decide +kernel
set_option maxHeartbeats 4000000 in
set_option maxRecDepth 100000 in
theorem T_X11_tapeName (l : Launch) (D : va_G) (K : Nat → ClassId) (Z Y : Nat → Nat) (ad : Nat → Nat) (d : dSt) (t : tSt) (hok : okX t) (x1 : Int32) (hx1 : (0 : Int) ≤ x1.toInt ∧ x1.toInt ≤ 3999) : tMet l yX11_tapeName cX11_tapeName 6 (some .long) (rmD 1 0 0) D K Z Y [.ref (ad 0), .int x1] ((WX d) K ad t) (QL D K (fun (r : Int64) (u : Unit) => True) (fun (_ : Unit) => (WX d) K ad t)) 0 0 := by
  refine t_met RX11 ⟨rfl, by decide +kernel⟩ (Nat.le_of_ble_eq_true rfl) ?_
  intro p e s m below meth c A ls C hE hZ hr hlocks hA hP hD hS hl
  have hl : lv_has ls 6 [(0, .ref (ad 0)), (1, .int x1)] := hl
  have L_18 : ∀ (fuel_18 : Nat) (w18_2 : Int64) (w18_4 : Int32) (H : Heap) (locs : List Loc) (ls : Array Slot), (1 : Int) ≤ x1.toInt ∧ x1.toInt ≤ 10 → (0 : Int) ≤ w18_4.toInt ∧ w18_4.toInt ≤ 10 → (10 : Int) - w18_4.toInt < (fuel_18 : Int) → va_P D vwCl ((WX d) K ad t) H → va_D A ((WX d) K ad t) → va_S A s.heap H locs → lv_has ls 6 [(0, .ref (ad 0)), (1, .int x1), (2, .long w18_2), (4, .int w18_4)] → W p l e (rmD 1 0 0) s m [.ref (ad 0), .int x1].toArray below meth c H locs 0 0 (MQ below (QL D K (fun (r : Int64) (u : Unit) => True) (fun (_ : Unit) => (WX d) K ad t) A) [.ref (ad 0), .int x1].toArray s 0 0 A) (F0 m 18 ls []) := by
    intro fuel_18
    induction fuel_18 with
    | zero =>
      intro w18_2 w18_4 H locs ls hx18_1 hw18_4 hm18_18 hP hD hS hl
      exact absurd hm18_18 (by omega)
    | succ fuel_18 ih_18 =>
      intro w18_2 w18_4 H locs ls hx18_1 hw18_4 hm18_18 hP hD hS hl
      have hm18_18 : (10 : Int) - w18_4.toInt < (fuel_18 : Int) + 1 := by omega
      refine lv_iload C.1 C.2.1 dX11_tapeName_18 (lv_at hl 3 rfl) ?_
      refine lv_iload_n C.1 C.2.1 dX11_tapeName_20 rfl (lv_at hl 1 rfl) ?_
      refine lv_icmp_ge (tgt := 58) C.1 C.2.1 dX11_tapeName_21 (by decide) (fun c_1 => ?_) (fun c_1 => ?_)
      · replace c_1 : x1.toInt ≤ w18_4.toInt := i_le c_1
        refine lv_lload_n C.1 C.2.1 dX11_tapeName_58 rfl (lv_at hl 2 rfl) ?_
        refine lv_bipush (v := 6) C.1 C.2.1 dX11_tapeName_59 (by decide) ?_
        refine lv_bipush (v := 10) C.1 C.2.1 dX11_tapeName_61 (by decide) ?_
        refine lv_iload_n C.1 C.2.1 dX11_tapeName_63 rfl (lv_at hl 1 rfl) ?_
        obtain ⟨v_2, e_3⟩ : ∃ z, z = (10 : Int32) - (x1 : Int32) := ⟨_, rfl⟩
        have h_4 : v_2.toInt = 10 - x1.toInt := by rw [e_3]; exact ti_isub (by show (_ : Int) ≤ 10 - x1.toInt; omega) (by show 10 - x1.toInt < (_ : Int); omega)
        refine k_isub (v := v_2) C e_3.symm dX11_tapeName_64 ?_
        obtain ⟨v_5, e_6⟩ : ∃ z, z = (6 : Int32) * (v_2 : Int32) := ⟨_, rfl⟩
        have h_7 : v_5.toInt = 6 * v_2.toInt := by rw [e_6]; exact ti_mull (k := 6) (by decide) (by omega) (by omega)
        refine k_imul (v := v_5) C e_6.symm dX11_tapeName_65 ?_
        obtain ⟨v_8, e_9⟩ : ∃ z, z = (w18_2 : Int64) <<< ((v_5 : Int32).toInt64 &&& 63) := ⟨_, rfl⟩
        refine lv_lshl (v := v_8) C.1 C.2.1 dX11_tapeName_66 e_9.symm ?_
        exact g_lret C hr hlocks hP hD hS () rfl trivial (Nat.le_of_ble_eq_true rfl) (Nat.le_of_ble_eq_true rfl) dX11_tapeName_67
      · replace c_1 : w18_4.toInt < x1.toInt := i_nle c_1
        refine lv_aload_n C.1 C.2.1 dX11_tapeName_24 rfl (lv_at hl 0 rfl) ?_
        refine k_get (v := .ref (ad 1)) C hP 0 rfl rfl inlX11 0 (by decide) m_2_6 rfl dX11_tapeName_25 ?_
        refine lv_iload C.1 C.2.1 dX11_tapeName_28 (lv_at hl 3 rfl) ?_
        obtain ⟨v_10, e_11⟩ : ∃ z, z = (t.2.2.1 1 (w18_4 : Int32).toNatClampNeg) := ⟨_, rfl⟩
        have h_12 : (-128 : Int) ≤ v_10.toInt ∧ v_10.toInt ≤ 127 := by rw [e_11]; exact hok.2.1 1 _
        refine k_bld (v := v_10) C hP 1 rfl (vp_in_iff.mpr ⟨by omega, by omega⟩) e_11.symm dX11_tapeName_30 ?_
        refine g_Si (As := [.int v_10]) (rest := []) C hP hD hS hA (T_X1_rank l D K Z Y ad d t hok (v_10) (show (-128 : Int) ≤ (v_10 : Int32).toInt ∧ (v_10 : Int32).toInt ≤ 127 from ⟨by omega, by omega⟩)) hE hZ (uwS m_86_4 m_72_9 m_14_2 m_72_10) (hdS 1 (by decide +kernel) rfl) ⟨Nat.le_of_ble_eq_true rfl, Nat.le_of_ble_eq_true rfl⟩ rfl rfl rfl hl.1 (Nat.le_of_ble_eq_true rfl) dX11_tapeName_31 ⟨Nat.le_of_ble_eq_true rfl, Nat.le_of_ble_eq_true rfl⟩ (fun r_14 t_13 H locs hw hP hD hS => ?_)
        obtain ⟨h_16, h_17⟩ := hw
        refine lv_istore (lv' := [(5, .int r_14), (0, .ref (ad 0)), (1, .int x1), (2, .long w18_2), (4, .int w18_4)]) C.1 C.2.1 dX11_tapeName_34 hl (by decide) rfl (fun ls hl => ?_)
        have hl : lv_has ls 6 [(0, .ref (ad 0)), (1, .int x1), (2, .long w18_2), (4, .int w18_4), (5, .int r_14)] := lv_sub hl [1, 2, 3, 4, 0] rfl
        refine lv_iload C.1 C.2.1 dX11_tapeName_36 (lv_at hl 4 rfl) ?_
        refine lv_if_ne (tgt := 43) C.1 C.2.1 dX11_tapeName_38 (by decide) (fun c_18 => ?_) (fun c_18 => ?_)
        · replace c_18 : ¬ r_14.toInt = 0 := i_ne c_18
          refine lv_lload_n C.1 C.2.1 dX11_tapeName_43 rfl (lv_at hl 2 rfl) ?_
          refine lv_bipush (v := 6) C.1 C.2.1 dX11_tapeName_44 (by decide) ?_
          obtain ⟨v_19, e_20⟩ : ∃ z, z = (w18_2 : Int64) <<< ((6 : Int32).toInt64 &&& 63) := ⟨_, rfl⟩
          refine lv_lshl (v := v_19) C.1 C.2.1 dX11_tapeName_46 e_20.symm ?_
          refine lv_iload C.1 C.2.1 dX11_tapeName_47 (lv_at hl 4 rfl) ?_
          obtain ⟨v_21, e_22⟩ : ∃ z, z = (r_14 : Int32).toInt64 := ⟨_, rfl⟩
          have h_23 : v_21.toInt = r_14.toInt := by rw [e_22]; exact Jvm.Kit.i64_of_i32 _
          refine lv_i2l (v := v_21) C.1 C.2.1 dX11_tapeName_49 e_22.symm ?_
          obtain ⟨v_24, e_25⟩ : ∃ z, z = (v_19 : Int64) ||| v_21 := ⟨_, rfl⟩
          refine lw_lor (v := v_24) C.1 C.2.1 dX11_tapeName_50 e_25.symm ?_
          refine lv_lstore_n (lv' := [(2, .long v_24), (0, .ref (ad 0)), (1, .int x1), (4, .int w18_4), (5, .int r_14)]) C.1 C.2.1 dX11_tapeName_51 rfl hl (by decide) rfl (fun ls hl => ?_)
          have hl : lv_has ls 6 [(0, .ref (ad 0)), (1, .int x1), (2, .long v_24), (4, .int w18_4), (5, .int r_14)] := lv_sub hl [1, 2, 0, 3, 4] rfl
          obtain ⟨v_26, e_27⟩ : ∃ z, z = w18_4 + 1 := ⟨_, rfl⟩
          have h_28 : v_26.toInt = w18_4.toInt + 1 := by rw [e_27]; exact ti_iadd (by show (_ : Int) ≤ w18_4.toInt + 1; omega) (by show w18_4.toInt + 1 < (_ : Int); omega)
          refine lv_iinc (v := v_26) (lv' := [(4, .int v_26), (0, .ref (ad 0)), (1, .int x1), (2, .long v_24), (5, .int r_14)]) C.1 C.2.1 dX11_tapeName_52 hl (k := 3) rfl e_27.symm (by decide) rfl (fun ls hl => ?_)
          have hl : lv_has ls 6 [(0, .ref (ad 0)), (1, .int x1), (2, .long v_24), (4, .int v_26), (5, .int r_14)] := lv_sub hl [1, 2, 3, 0, 4] rfl
          refine lv_goto (tgt := 18) C.1 C.2.1 dX11_tapeName_55 (by decide) ?_
          exact ih_18 v_24 v_26 _ _ _ ⟨by omega, by omega⟩ ⟨by omega, by omega⟩ (show (10 : Int) - v_26.toInt < (fuel_18 : Int) from by omega) hP hD hS (lv_sub hl [0, 1, 2, 3] rfl)
        · replace c_18 : r_14.toInt = 0 := i_eq c_18
          refine lv_lconst (v := 0) C.1 C.2.1 dX11_tapeName_41 (by decide) ?_
          exact g_lret C hr hlocks hP hD hS () rfl trivial (Nat.le_of_ble_eq_true rfl) (Nat.le_of_ble_eq_true rfl) dX11_tapeName_42
  refine lv_iload_n C.1 C.2.1 dX11_tapeName_0 rfl (lv_at hl 1 rfl) ?_
  refine lv_iconst (v := 1) C.1 C.2.1 dX11_tapeName_1 (by decide) ?_
  refine lv_icmp_lt (tgt := 11) C.1 C.2.1 dX11_tapeName_2 (by decide) (fun c_29 => ?_) (fun c_29 => ?_)
  · replace c_29 : x1.toInt < 1 := i_lt c_29
    refine lv_lconst (v := 0) C.1 C.2.1 dX11_tapeName_11 (by decide) ?_
    exact g_lret C hr hlocks hP hD hS () rfl trivial (Nat.le_of_ble_eq_true rfl) (Nat.le_of_ble_eq_true rfl) dX11_tapeName_12
  · replace c_29 : 1 ≤ x1.toInt := i_nlt c_29
    refine lv_iload_n C.1 C.2.1 dX11_tapeName_5 rfl (lv_at hl 1 rfl) ?_
    refine lv_bipush (v := 10) C.1 C.2.1 dX11_tapeName_6 (by decide) ?_
    refine lv_icmp_le (tgt := 13) C.1 C.2.1 dX11_tapeName_8 (by decide) (fun c_30 => ?_) (fun c_30 => ?_)
    · replace c_30 : x1.toInt ≤ 10 := i_le c_30
      refine lv_lconst (v := 0) C.1 C.2.1 dX11_tapeName_13 (by decide) ?_
      refine lv_lstore_n (lv' := [(2, .long 0), (0, .ref (ad 0)), (1, .int x1)]) C.1 C.2.1 dX11_tapeName_14 rfl hl (by decide) rfl (fun ls hl => ?_)
      have hl : lv_has ls 6 [(0, .ref (ad 0)), (1, .int x1), (2, .long 0)] := lv_sub hl [1, 2, 0] rfl
      refine lv_iconst (v := 0) C.1 C.2.1 dX11_tapeName_15 (by decide) ?_
      refine lv_istore (lv' := [(4, .int 0), (0, .ref (ad 0)), (1, .int x1), (2, .long 0)]) C.1 C.2.1 dX11_tapeName_16 hl (by decide) rfl (fun ls hl => ?_)
      have hl : lv_has ls 6 [(0, .ref (ad 0)), (1, .int x1), (2, .long 0), (4, .int 0)] := lv_sub hl [1, 2, 3, 0] rfl
      exact L_18 11 0 0 _ _ _ ⟨by omega, by omega⟩ ⟨by decide, by decide⟩ (show (10 : Int) - 0 < ((11 : Nat) : Int) from by omega) hP hD hS (lv_sub hl [0, 1, 2, 3] rfl)
    · replace c_30 : 10 < x1.toInt := i_nle c_30
      refine lv_lconst (v := 0) C.1 C.2.1 dX11_tapeName_11 (by decide) ?_
      exact g_lret C hr hlocks hP hD hS () rfl trivial (Nat.le_of_ble_eq_true rfl) (Nat.le_of_ble_eq_true rfl) dX11_tapeName_12


set_option maxHeartbeats 4000000 in
set_option maxRecDepth 100000 in
theorem T_X9_advance (l : Launch) (D : va_G) (K : Nat → ClassId) (Z Y : Nat → Nat) (ad : Nat → Nat) (d : dSt) (t : tSt) (hok : okX t)  : tMet l yX9_advance cX9_advance 3 (some .boolean) (rmD 6 0 0) D K Z Y [.ref (ad 29)] ((WX d) K ad t) (QI D K (fun (r : Int32) (u : tSt) => okX u ∧ frA [(29, 2), (29, 3), (29, 4), (29, 5)] [] [51] [] t u ∧ (0 : Int) ≤ r.toInt ∧ r.toInt ≤ 1 ∧ (r.toInt = 1 → (u.1 29 2).toInt + (u.1 29 3).toInt ≤ 1280) ∧ (r.toInt = 1 → (t.1 29 4).toInt + (u.1 29 3).toInt + 1 ≤ (u.1 29 4).toInt ∧ (u.1 29 4).toInt ≤ (t.1 29 7).toInt + 1)) (fun (u : tSt) => (WX d) K ad u)) 0 0 := by
  refine t_met RX9 ⟨rfl, by decide +kernel⟩ (Nat.le_of_ble_eq_true rfl) ?_
  intro p e s m below meth c A ls C hE hZ hr hlocks hA hP hD hS hl
  have hl : lv_has ls 3 [(0, .ref (ad 29))] := hl
  have hokt := hok
  have hfr : frA [(29, 2), (29, 3), (29, 4), (29, 5)] [] [51] [] t t := frA_rf
  have h_1 : (0 : Int) ≤ (t.1 29 2).toInt ∧ (t.1 29 2).toInt ≤ 1280 := hok.1 29 2
  have h_2 : (0 : Int) ≤ (t.1 29 3).toInt ∧ (t.1 29 3).toInt ≤ 80 := hok.1 29 3
  have h_3 : (0 : Int) ≤ (t.1 29 4).toInt ∧ (t.1 29 4).toInt ≤ 1281 := hok.1 29 4
  have h_4 : (0 : Int) ≤ (t.1 29 7).toInt ∧ (t.1 29 7).toInt ≤ 1280 := hok.1 29 7
  have L_85 : ∀ (fuel_85 : Nat) (t1 : tSt) (w85_1 : Int32) (w85_2 : Int32) (H : Heap) (locs : List Loc) (ls : Array Slot), okX t1 → frA [(29, 2), (29, 3), (29, 4), (29, 5)] [] [51] [] t t1 → (0 : Int) ≤ w85_1.toInt ∧ w85_1.toInt ≤ 1280 → (0 : Int) ≤ w85_2.toInt ∧ w85_2.toInt ≤ 80 → (0 : Int) ≤ (t1.1 29 2).toInt ∧ (t1.1 29 2).toInt ≤ 1279 → (1 : Int) ≤ (t1.1 29 4).toInt ∧ (t1.1 29 4).toInt ≤ 1281 → (1 : Int) ≤ (t1.1 29 7).toInt ∧ (t1.1 29 7).toInt ≤ 1280 → ((t1.1 29 2).toInt + (t1.1 29 3).toInt ≤ 1280) → ((t.1 29 4).toInt + (t1.1 29 3).toInt + 1 ≤ (t1.1 29 4).toInt) → ((t1.1 29 4).toInt ≤ (t.1 29 7).toInt + 1) → (80 : Int) - w85_2.toInt < (fuel_85 : Int) → va_P D vwCl ((WX d) K ad t1) H → va_D A ((WX d) K ad t1) → va_S A s.heap H locs → lv_has ls 3 [(0, .ref (ad 29)), (1, .int w85_1), (2, .int w85_2)] → W p l e (rmD 6 0 0) s m [.ref (ad 29)].toArray below meth c H locs 0 0 (MQ below (QI D K (fun (r : Int32) (u : tSt) => okX u ∧ frA [(29, 2), (29, 3), (29, 4), (29, 5)] [] [51] [] t u ∧ (0 : Int) ≤ r.toInt ∧ r.toInt ≤ 1 ∧ (r.toInt = 1 → (u.1 29 2).toInt + (u.1 29 3).toInt ≤ 1280) ∧ (r.toInt = 1 → (t.1 29 4).toInt + (u.1 29 3).toInt + 1 ≤ (u.1 29 4).toInt ∧ (u.1 29 4).toInt ≤ (t.1 29 7).toInt + 1)) (fun (u : tSt) => (WX d) K ad u) A) [.ref (ad 29)].toArray s 0 0 A) (F0 m 85 ls []) := by
    intro fuel_85
    induction fuel_85 with
    | zero =>
      intro t1 w85_1 w85_2 H locs ls hok hfr hw85_1 hw85_2 hf85_2 hf85_4 hf85_7 hi85_0 hi85_1 hi85_2 hm85_85 hP hD hS hl
      have h_5 : (t1.1 29 7).toInt = (t.1 29 7).toInt := ti_eq (hfr.1 29 7 rfl)
      have h_6 : (0 : Int) ≤ (t1.1 29 3).toInt ∧ (t1.1 29 3).toInt ≤ 80 := hok.1 29 3
      exact absurd hm85_85 (by omega)
    | succ fuel_85 ih_85 =>
      intro t1 w85_1 w85_2 H locs ls hok hfr hw85_1 hw85_2 hf85_2 hf85_4 hf85_7 hi85_0 hi85_1 hi85_2 hm85_85 hP hD hS hl
      have hm85_85 : (80 : Int) - w85_2.toInt < (fuel_85 : Int) + 1 := by omega
      have h_7 : (t1.1 29 7).toInt = (t.1 29 7).toInt := ti_eq (hfr.1 29 7 rfl)
      have h_8 : (0 : Int) ≤ (t1.1 29 3).toInt ∧ (t1.1 29 3).toInt ≤ 80 := hok.1 29 3
      have L_126 : ∀ (t1 : tSt) (w126_1 : Int32) (w126_2 : Int32) (k126_1 : Int32) (k126_2 : Int32) (H : Heap) (locs : List Loc) (ls : Array Slot), okX t1 → frA [(29, 2), (29, 3), (29, 4), (29, 5)] [] [51] [] t t1 → (0 : Int) ≤ w126_1.toInt ∧ w126_1.toInt ≤ 1280 → (0 : Int) ≤ w126_2.toInt ∧ w126_2.toInt ≤ 79 → (0 : Int) ≤ k126_1.toInt ∧ k126_1.toInt ≤ 79 → (0 : Int) ≤ k126_2.toInt ∧ k126_2.toInt ≤ 255 → (0 : Int) ≤ (t1.1 29 2).toInt ∧ (t1.1 29 2).toInt ≤ 1279 → (1 : Int) ≤ (t1.1 29 4).toInt ∧ (t1.1 29 4).toInt ≤ 1281 → (1 : Int) ≤ (t1.1 29 7).toInt ∧ (t1.1 29 7).toInt ≤ 1280 → ((t1.1 29 2).toInt + (t1.1 29 3).toInt ≤ 1280) → ((t.1 29 4).toInt + (t1.1 29 3).toInt + 1 ≤ (t1.1 29 4).toInt) → ((t1.1 29 4).toInt ≤ (t.1 29 7).toInt + 1) → (80 : Int) - w126_2.toInt < (fuel_85 : Int) + 1 → va_P D vwCl ((WX d) K ad t1) H → va_D A ((WX d) K ad t1) → va_S A s.heap H locs → lv_has ls 3 [(0, .ref (ad 29)), (1, .int w126_1), (2, .int w126_2)] → W p l e (rmD 6 0 0) s m [.ref (ad 29)].toArray below meth c H locs 0 0 (MQ below (QI D K (fun (r : Int32) (u : tSt) => okX u ∧ frA [(29, 2), (29, 3), (29, 4), (29, 5)] [] [51] [] t u ∧ (0 : Int) ≤ r.toInt ∧ r.toInt ≤ 1 ∧ (r.toInt = 1 → (u.1 29 2).toInt + (u.1 29 3).toInt ≤ 1280) ∧ (r.toInt = 1 → (t.1 29 4).toInt + (u.1 29 3).toInt + 1 ≤ (u.1 29 4).toInt ∧ (u.1 29 4).toInt ≤ (t.1 29 7).toInt + 1)) (fun (u : tSt) => (WX d) K ad u) A) [.ref (ad 29)].toArray s 0 0 A) (F0 m 126 ls [.int k126_2, .int k126_1, .ref (ad 51)]) := by
        intro t1 w126_1 w126_2 k126_1 k126_2 H locs ls hok hfr hw126_1 hw126_2 hk126_1 hk126_2 hf126_2 hf126_4 hf126_7 hi126_0 hi126_1 hi126_2 hm126_85 hP hD hS hl
        have h_9 : (t1.1 29 7).toInt = (t.1 29 7).toInt := ti_eq (hfr.1 29 7 rfl)
        have h_10 : (0 : Int) ≤ (t1.1 29 3).toInt ∧ (t1.1 29 3).toInt ≤ 80 := hok.1 29 3
        obtain ⟨v_11, e_12⟩ : ∃ z, z = (k126_2 : Int32).toInt8.toInt32 := ⟨_, rfl⟩
        have h_13 : (-128 : Int) ≤ v_11.toInt ∧ v_11.toInt ≤ 127 := by rw [e_12]; exact nar_byte _
        refine lv_i2b (v := v_11) C.1 C.2.1 dX9_advance_126 e_12.symm ?_
        obtain ⟨v_14, e_15⟩ : ∃ z, z = vp_nar .byte v_11 := ⟨_, rfl⟩
        have h_16 : (-128 : Int) ≤ v_14.toInt ∧ v_14.toInt ≤ 127 := by rw [e_15]; exact nar_byte _
        refine k_bst (ws' := (WX d) K ad (uB t1 51 (k126_1 : Int32).toNatClampNeg v_14)) (x' := v_14) C hP hD hS 51 rfl (vp_in_iff.mpr ⟨by omega, by omega⟩) rfl e_15.symm rfl dX9_advance_127 (fun H locs hP hD hS => ?_)
        have hok : okX (uB t1 51 (k126_1 : Int32).toNatClampNeg v_14) := ⟨hok.1, okB_B hok.2.1 51 _ v_14 (show (-128 : Int) ≤ (v_14 : Int32).toInt ∧ (v_14 : Int32).toInt ≤ 127 from ⟨by omega, by omega⟩), trivial⟩
        have hfr : frA [(29, 2), (29, 3), (29, 4), (29, 5)] [] [51] [] t (uB t1 51 (k126_1 : Int32).toNatClampNeg v_14) := frA_B hfr 51 _ _ rfl
        obtain ⟨v_17, e_18⟩ : ∃ z, z = w126_2 + 1 := ⟨_, rfl⟩
        have h_19 : v_17.toInt = w126_2.toInt + 1 := by rw [e_18]; exact ti_iadd (by show (_ : Int) ≤ w126_2.toInt + 1; omega) (by show w126_2.toInt + 1 < (_ : Int); omega)
        refine lv_iinc (v := v_17) (lv' := [(2, .int v_17), (0, .ref (ad 29)), (1, .int w126_1)]) C.1 C.2.1 dX9_advance_128 hl (k := 2) rfl e_18.symm (by decide) rfl (fun ls hl => ?_)
        have hl : lv_has ls 3 [(0, .ref (ad 29)), (1, .int w126_1), (2, .int v_17)] := lv_sub hl [1, 2, 0] rfl
        refine lv_goto (tgt := 85) C.1 C.2.1 dX9_advance_131 (by decide) ?_
        exact ih_85 (uB t1 51 (k126_1 : Int32).toNatClampNeg v_14) w126_1 v_17 _ _ _ hok hfr ⟨by omega, by omega⟩ ⟨by omega, by omega⟩ (show (0 : Int) ≤ ((t1.1 29 2) : Int32).toInt ∧ ((t1.1 29 2) : Int32).toInt ≤ 1279 from ⟨by omega, by omega⟩) (show (1 : Int) ≤ ((t1.1 29 4) : Int32).toInt ∧ ((t1.1 29 4) : Int32).toInt ≤ 1281 from ⟨by omega, by omega⟩) (show (1 : Int) ≤ ((t1.1 29 7) : Int32).toInt ∧ ((t1.1 29 7) : Int32).toInt ≤ 1280 from ⟨by omega, by omega⟩) (show (t1.1 29 2).toInt + (t1.1 29 3).toInt ≤ 1280 from by omega) (show (t.1 29 4).toInt + (t1.1 29 3).toInt + 1 ≤ (t1.1 29 4).toInt from by omega) (show (t1.1 29 4).toInt ≤ (t.1 29 7).toInt + 1 from by omega) (show (80 : Int) - v_17.toInt < (fuel_85 : Int) from by omega) hP hD hS (lv_sub hl [0, 1, 2] rfl)
      refine lv_iload_n C.1 C.2.1 dX9_advance_85 rfl (lv_at hl 2 rfl) ?_
      refine lv_bipush (v := 80) C.1 C.2.1 dX9_advance_86 (by decide) ?_
      refine lv_icmp_ge (tgt := 134) C.1 C.2.1 dX9_advance_88 (by decide) (fun c_20 => ?_) (fun c_20 => ?_)
      · replace c_20 : 80 ≤ w85_2.toInt := i_le c_20
        refine lv_iconst (v := 1) C.1 C.2.1 dX9_advance_134 (by decide) ?_
        exact g_iret C hr hlocks hP hD hS (by decide) t1 rfl ⟨hok, hfr, by decide, by decide, (show 1 = 1 → (t1.1 29 2).toInt + (t1.1 29 3).toInt ≤ 1280 from by omega), (show 1 = 1 → (t.1 29 4).toInt + (t1.1 29 3).toInt + 1 ≤ (t1.1 29 4).toInt ∧ (t1.1 29 4).toInt ≤ (t.1 29 7).toInt + 1 from by omega)⟩ (Nat.le_of_ble_eq_true rfl) (Nat.le_of_ble_eq_true rfl) dX9_advance_135
      · replace c_20 : w85_2.toInt < 80 := i_nle c_20
        refine lv_aload_n C.1 C.2.1 dX9_advance_91 rfl (lv_at hl 0 rfl) ?_
        refine k_get (v := .ref (ad 51)) C hP 29 rfl rfl inlX9 1 (by decide) m_2_23 rfl dX9_advance_92 ?_
        refine lv_iload_n C.1 C.2.1 dX9_advance_95 rfl (lv_at hl 2 rfl) ?_
        refine lv_iload_n C.1 C.2.1 dX9_advance_96 rfl (lv_at hl 2 rfl) ?_
        refine lv_aload_n C.1 C.2.1 dX9_advance_97 rfl (lv_at hl 0 rfl) ?_
        refine k_get (v := .int (t1.1 29 3)) C hP 29 rfl rfl inlX9 3 (by decide) m_13_23 rfl dX9_advance_98 ?_
        refine lv_icmp_ge (tgt := 124) C.1 C.2.1 dX9_advance_101 (by decide) (fun c_21 => ?_) (fun c_21 => ?_)
        · replace c_21 : (t1.1 29 3).toInt ≤ w85_2.toInt := i_le c_21
          refine lv_bipush (v := 32) C.1 C.2.1 dX9_advance_124 (by decide) ?_
          exact L_126 t1 w85_1 w85_2 w85_2 32 _ _ _ hok hfr ⟨by omega, by omega⟩ ⟨by omega, by omega⟩ ⟨by omega, by omega⟩ ⟨by decide, by decide⟩ (show (0 : Int) ≤ ((t1.1 29 2) : Int32).toInt ∧ ((t1.1 29 2) : Int32).toInt ≤ 1279 from ⟨by omega, by omega⟩) (show (1 : Int) ≤ ((t1.1 29 4) : Int32).toInt ∧ ((t1.1 29 4) : Int32).toInt ≤ 1281 from ⟨by omega, by omega⟩) (show (1 : Int) ≤ ((t1.1 29 7) : Int32).toInt ∧ ((t1.1 29 7) : Int32).toInt ≤ 1280 from ⟨by omega, by omega⟩) (show (t1.1 29 2).toInt + (t1.1 29 3).toInt ≤ 1280 from by omega) (show (t.1 29 4).toInt + (t1.1 29 3).toInt + 1 ≤ (t1.1 29 4).toInt from by omega) (show (t1.1 29 4).toInt ≤ (t.1 29 7).toInt + 1 from by omega) (show (80 : Int) - w85_2.toInt < (fuel_85 : Int) + 1 from by omega) hP hD hS (lv_sub hl [0, 1, 2] rfl)
        · replace c_21 : w85_2.toInt < (t1.1 29 3).toInt := i_nle c_21
          refine lv_aload_n C.1 C.2.1 dX9_advance_104 rfl (lv_at hl 0 rfl) ?_
          refine k_get (v := .ref (ad 1)) C hP 29 rfl rfl inlX9 0 (by decide) m_3_0 rfl dX9_advance_105 ?_
          refine lv_aload_n C.1 C.2.1 dX9_advance_108 rfl (lv_at hl 0 rfl) ?_
          refine k_get (v := .int (t1.1 29 2)) C hP 29 rfl rfl inlX9 2 (by decide) m_13_22 rfl dX9_advance_109 ?_
          refine lv_iload_n C.1 C.2.1 dX9_advance_112 rfl (lv_at hl 2 rfl) ?_
          obtain ⟨v_22, e_23⟩ : ∃ z, z = ((t1.1 29 2) : Int32) + (w85_2 : Int32) := ⟨_, rfl⟩
          have h_24 : v_22.toInt = (t1.1 29 2).toInt + w85_2.toInt := by rw [e_23]; exact ti_iadd (by show (_ : Int) ≤ (t1.1 29 2).toInt + w85_2.toInt; omega) (by show (t1.1 29 2).toInt + w85_2.toInt < (_ : Int); omega)
          refine k_iadd (v := v_22) C e_23.symm dX9_advance_113 ?_
          obtain ⟨v_25, e_26⟩ : ∃ z, z = (t1.2.2.1 1 (v_22 : Int32).toNatClampNeg) := ⟨_, rfl⟩
          have h_27 : (-128 : Int) ≤ v_25.toInt ∧ v_25.toInt ≤ 127 := by rw [e_26]; exact hok.2.1 1 _
          refine k_bld (v := v_25) C hP 1 rfl (vp_in_iff.mpr ⟨by omega, by omega⟩) e_26.symm dX9_advance_114 ?_
          refine g_Si (As := [.int v_25]) (rest := [.int w85_2, .ref (ad 51)]) C hP hD hS hA (T_X1_code l D K Z Y ad d t1 hok (v_25) (show (-128 : Int) ≤ (v_25 : Int32).toInt ∧ (v_25 : Int32).toInt ≤ 127 from ⟨by omega, by omega⟩)) hE hZ (uwS m_14_0 m_14_1 m_14_2 m_14_3) (hdS 1 (by decide +kernel) rfl) ⟨Nat.le_of_ble_eq_true rfl, Nat.le_of_ble_eq_true rfl⟩ rfl rfl rfl hl.1 (Nat.le_of_ble_eq_true rfl) dX9_advance_115 ⟨Nat.le_of_ble_eq_true rfl, Nat.le_of_ble_eq_true rfl⟩ (fun r_29 t_28 H locs hw hP hD hS => ?_)
          obtain ⟨h_31, h_32⟩ := hw
          refine g_Si (As := [.int r_29]) (rest := [.int w85_2, .ref (ad 51)]) C hP hD hS hA (T_X1_written l D K Z Y ad d t1 hok (r_29) (show (0 : Int) ≤ (r_29 : Int32).toInt ∧ (r_29 : Int32).toInt ≤ 399 from ⟨by omega, by omega⟩)) hE hZ (uwS m_17_17 m_17_18 m_14_2 m_17_19) (hdS 1 (by decide +kernel) rfl) ⟨Nat.le_of_ble_eq_true rfl, Nat.le_of_ble_eq_true rfl⟩ rfl rfl rfl hl.1 (Nat.le_of_ble_eq_true rfl) dX9_advance_118 ⟨Nat.le_of_ble_eq_true rfl, Nat.le_of_ble_eq_true rfl⟩ (fun r_34 t_33 H locs hw hP hD hS => ?_)
          obtain ⟨h_36, h_37⟩ := hw
          refine lv_goto (tgt := 126) C.1 C.2.1 dX9_advance_121 (by decide) ?_
          exact L_126 t1 w85_1 w85_2 w85_2 r_34 _ _ _ hok hfr ⟨by omega, by omega⟩ ⟨by omega, by omega⟩ ⟨by omega, by omega⟩ ⟨by omega, by omega⟩ (show (0 : Int) ≤ ((t1.1 29 2) : Int32).toInt ∧ ((t1.1 29 2) : Int32).toInt ≤ 1279 from ⟨by omega, by omega⟩) (show (1 : Int) ≤ ((t1.1 29 4) : Int32).toInt ∧ ((t1.1 29 4) : Int32).toInt ≤ 1281 from ⟨by omega, by omega⟩) (show (1 : Int) ≤ ((t1.1 29 7) : Int32).toInt ∧ ((t1.1 29 7) : Int32).toInt ≤ 1280 from ⟨by omega, by omega⟩) (show (t1.1 29 2).toInt + (t1.1 29 3).toInt ≤ 1280 from by omega) (show (t.1 29 4).toInt + (t1.1 29 3).toInt + 1 ≤ (t1.1 29 4).toInt from by omega) (show (t1.1 29 4).toInt ≤ (t.1 29 7).toInt + 1 from by omega) (show (80 : Int) - w85_2.toInt < (fuel_85 : Int) + 1 from by omega) hP hD hS (lv_sub hl [0, 1, 2] rfl)
  have L_61 : ∀ (t1 : tSt) (w61_1 : Int32) (H : Heap) (locs : List Loc) (ls : Array Slot), okX t1 → frA [(29, 2), (29, 3), (29, 4), (29, 5)] [] [51] [] t t1 → (0 : Int) ≤ w61_1.toInt ∧ w61_1.toInt ≤ 1280 → (0 : Int) ≤ (t1.1 29 2).toInt ∧ (t1.1 29 2).toInt ≤ 1279 → (0 : Int) ≤ (t1.1 29 4).toInt ∧ (t1.1 29 4).toInt ≤ 1279 → (1 : Int) ≤ (t1.1 29 7).toInt ∧ (t1.1 29 7).toInt ≤ 1280 → ((t1.1 29 2).toInt ≤ w61_1.toInt) → (w61_1.toInt ≤ (t1.1 29 7).toInt) → ((t1.1 29 2).toInt = (t.1 29 4).toInt) → va_P D vwCl ((WX d) K ad t1) H → va_D A ((WX d) K ad t1) → va_S A s.heap H locs → lv_has ls 3 [(0, .ref (ad 29)), (1, .int w61_1)] → W p l e (rmD 6 0 0) s m [.ref (ad 29)].toArray below meth c H locs 0 0 (MQ below (QI D K (fun (r : Int32) (u : tSt) => okX u ∧ frA [(29, 2), (29, 3), (29, 4), (29, 5)] [] [51] [] t u ∧ (0 : Int) ≤ r.toInt ∧ r.toInt ≤ 1 ∧ (r.toInt = 1 → (u.1 29 2).toInt + (u.1 29 3).toInt ≤ 1280) ∧ (r.toInt = 1 → (t.1 29 4).toInt + (u.1 29 3).toInt + 1 ≤ (u.1 29 4).toInt ∧ (u.1 29 4).toInt ≤ (t.1 29 7).toInt + 1)) (fun (u : tSt) => (WX d) K ad u) A) [.ref (ad 29)].toArray s 0 0 A) (F0 m 61 ls []) := by
    intro t1 w61_1 H locs ls hok hfr hw61_1 hf61_2 hf61_4 hf61_7 hi61_0 hi61_1 hi61_2 hP hD hS hl
    have h_38 : (t1.1 29 7).toInt = (t.1 29 7).toInt := ti_eq (hfr.1 29 7 rfl)
    have h_39 : (0 : Int) ≤ (t1.1 29 3).toInt ∧ (t1.1 29 3).toInt ≤ 80 := hok.1 29 3
    refine lv_aload_n C.1 C.2.1 dX9_advance_61 rfl (lv_at hl 0 rfl) ?_
    refine lv_iload_n C.1 C.2.1 dX9_advance_62 rfl (lv_at hl 1 rfl) ?_
    refine lv_iconst (v := 1) C.1 C.2.1 dX9_advance_63 (by decide) ?_
    obtain ⟨v_40, e_41⟩ : ∃ z, z = (w61_1 : Int32) + (1 : Int32) := ⟨_, rfl⟩
    have h_42 : v_40.toInt = w61_1.toInt + 1 := by rw [e_41]; exact ti_iadd (by show (_ : Int) ≤ w61_1.toInt + 1; omega) (by show w61_1.toInt + 1 < (_ : Int); omega)
    refine k_iadd (v := v_40) C e_41.symm dX9_advance_64 ?_
    refine k_put (ws' := (WX d) K ad (uI t1 29 4 v_40)) (v := .int v_40) C hP hD hS 29 rfl rfl inlX9 tyX9_ok nmX9 4 (by decide) m_13_2 rfl rfl rfl rfl rfl dX9_advance_65 (fun H locs hP hD hS => ?_)
    have hok : okX (uI t1 29 4 v_40) := ⟨okI_I hok.1 29 4 v_40 (show (0 : Int) ≤ (v_40 : Int32).toInt ∧ (v_40 : Int32).toInt ≤ 1281 from ⟨by omega, by omega⟩), hok.2.1, trivial⟩
    have hfr : frA [(29, 2), (29, 3), (29, 4), (29, 5)] [] [51] [] t (uI t1 29 4 v_40) := frA_I hfr 29 4 _ rfl
    refine lv_aload_n C.1 C.2.1 dX9_advance_68 rfl (lv_at hl 0 rfl) ?_
    refine lv_iload_n C.1 C.2.1 dX9_advance_69 rfl (lv_at hl 1 rfl) ?_
    refine lv_aload_n C.1 C.2.1 dX9_advance_70 rfl (lv_at hl 0 rfl) ?_
    refine k_get (v := .int (t1.1 29 2)) C hP 29 rfl rfl inlX9 2 (by decide) m_13_22 rfl dX9_advance_71 ?_
    obtain ⟨v_43, e_44⟩ : ∃ z, z = (w61_1 : Int32) - ((t1.1 29 2) : Int32) := ⟨_, rfl⟩
    have h_45 : v_43.toInt = w61_1.toInt - (t1.1 29 2).toInt := by rw [e_44]; exact ti_isub (by show (_ : Int) ≤ w61_1.toInt - (t1.1 29 2).toInt; omega) (by show w61_1.toInt - (t1.1 29 2).toInt < (_ : Int); omega)
    refine k_isub (v := v_43) C e_44.symm dX9_advance_74 ?_
    refine lv_bipush (v := 80) C.1 C.2.1 dX9_advance_75 (by decide) ?_
    obtain ⟨v_47, e_46⟩ : ∃ z, z = if (80 : Int32) < (v_43 : Int32) then (80 : Int32) else (v_43 : Int32) := ⟨_, rfl⟩
    have h_48 : (80 : Int32).toInt = 80 := rfl
    have h_49 := mn_r e_46
    refine k_mmin (v := v_47) C hl.1 m_12_18 m_12_19 m_12_15 m_12_20 (Nat.le_of_ble_eq_true rfl) (Nat.le_of_ble_eq_true rfl) (Nat.le_of_ble_eq_true rfl) (Nat.le_of_ble_eq_true rfl) e_46.symm dX9_advance_77 ?_
    refine k_put (ws' := (WX d) K ad (uI (uI t1 29 4 v_40) 29 3 v_47)) (v := .int v_47) C hP hD hS 29 rfl rfl inlX9 tyX9_ok nmX9 3 (by decide) m_13_23 rfl rfl rfl rfl rfl dX9_advance_80 (fun H locs hP hD hS => ?_)
    have hok : okX (uI (uI t1 29 4 v_40) 29 3 v_47) := ⟨okI_I hok.1 29 3 v_47 (show (0 : Int) ≤ (v_47 : Int32).toInt ∧ (v_47 : Int32).toInt ≤ 80 from ⟨by omega, by omega⟩), hok.2.1, trivial⟩
    have hfr : frA [(29, 2), (29, 3), (29, 4), (29, 5)] [] [51] [] t (uI (uI t1 29 4 v_40) 29 3 v_47) := frA_I hfr 29 3 _ rfl
    refine lv_iconst (v := 0) C.1 C.2.1 dX9_advance_83 (by decide) ?_
    refine lv_istore_n (lv' := [(2, .int 0), (0, .ref (ad 29)), (1, .int w61_1)]) C.1 C.2.1 dX9_advance_84 rfl hl (by decide) rfl (fun ls hl => ?_)
    have hl : lv_has ls 3 [(0, .ref (ad 29)), (1, .int w61_1), (2, .int 0)] := lv_sub hl [1, 2, 0] rfl
    exact L_85 81 (uI (uI t1 29 4 v_40) 29 3 v_47) w61_1 0 _ _ _ hok hfr ⟨by omega, by omega⟩ ⟨by decide, by decide⟩ (show (0 : Int) ≤ ((t1.1 29 2) : Int32).toInt ∧ ((t1.1 29 2) : Int32).toInt ≤ 1279 from ⟨by omega, by omega⟩) (show (1 : Int) ≤ (v_40 : Int32).toInt ∧ (v_40 : Int32).toInt ≤ 1281 from ⟨by omega, by omega⟩) (show (1 : Int) ≤ ((t1.1 29 7) : Int32).toInt ∧ ((t1.1 29 7) : Int32).toInt ≤ 1280 from ⟨by omega, by omega⟩) (show (t1.1 29 2).toInt + v_47.toInt ≤ 1280 from by omega) (show (t.1 29 4).toInt + v_47.toInt + 1 ≤ v_40.toInt from by omega) (show v_40.toInt ≤ (t.1 29 7).toInt + 1 from by omega) (show (80 : Int) - 0 < ((81 : Nat) : Int) from by omega) hP hD hS (lv_sub hl [0, 1, 2] rfl)
  have L_36 : ∀ (fuel_36 : Nat) (t1 : tSt) (w36_1 : Int32) (H : Heap) (locs : List Loc) (ls : Array Slot), okX t1 → frA [(29, 2), (29, 3), (29, 4), (29, 5)] [] [51] [] t t1 → (0 : Int) ≤ w36_1.toInt ∧ w36_1.toInt ≤ 1280 → (0 : Int) ≤ (t1.1 29 2).toInt ∧ (t1.1 29 2).toInt ≤ 1279 → (0 : Int) ≤ (t1.1 29 4).toInt ∧ (t1.1 29 4).toInt ≤ 1279 → (1 : Int) ≤ (t1.1 29 7).toInt ∧ (t1.1 29 7).toInt ≤ 1280 → ((t1.1 29 2).toInt ≤ w36_1.toInt) → (w36_1.toInt ≤ (t1.1 29 7).toInt) → ((t1.1 29 2).toInt = (t.1 29 4).toInt) → (1280 : Int) - w36_1.toInt < (fuel_36 : Int) → va_P D vwCl ((WX d) K ad t1) H → va_D A ((WX d) K ad t1) → va_S A s.heap H locs → lv_has ls 3 [(0, .ref (ad 29)), (1, .int w36_1)] → W p l e (rmD 6 0 0) s m [.ref (ad 29)].toArray below meth c H locs 0 0 (MQ below (QI D K (fun (r : Int32) (u : tSt) => okX u ∧ frA [(29, 2), (29, 3), (29, 4), (29, 5)] [] [51] [] t u ∧ (0 : Int) ≤ r.toInt ∧ r.toInt ≤ 1 ∧ (r.toInt = 1 → (u.1 29 2).toInt + (u.1 29 3).toInt ≤ 1280) ∧ (r.toInt = 1 → (t.1 29 4).toInt + (u.1 29 3).toInt + 1 ≤ (u.1 29 4).toInt ∧ (u.1 29 4).toInt ≤ (t.1 29 7).toInt + 1)) (fun (u : tSt) => (WX d) K ad u) A) [.ref (ad 29)].toArray s 0 0 A) (F0 m 36 ls []) := by
    intro fuel_36
    induction fuel_36 with
    | zero =>
      intro t1 w36_1 H locs ls hok hfr hw36_1 hf36_2 hf36_4 hf36_7 hi36_0 hi36_1 hi36_2 hm36_36 hP hD hS hl
      have h_50 : (t1.1 29 7).toInt = (t.1 29 7).toInt := ti_eq (hfr.1 29 7 rfl)
      have h_51 : (0 : Int) ≤ (t1.1 29 3).toInt ∧ (t1.1 29 3).toInt ≤ 80 := hok.1 29 3
      exact absurd hm36_36 (by omega)
    | succ fuel_36 ih_36 =>
      intro t1 w36_1 H locs ls hok hfr hw36_1 hf36_2 hf36_4 hf36_7 hi36_0 hi36_1 hi36_2 hm36_36 hP hD hS hl
      have hm36_36 : (1280 : Int) - w36_1.toInt < (fuel_36 : Int) + 1 := by omega
      have h_52 : (t1.1 29 7).toInt = (t.1 29 7).toInt := ti_eq (hfr.1 29 7 rfl)
      have h_53 : (0 : Int) ≤ (t1.1 29 3).toInt ∧ (t1.1 29 3).toInt ≤ 80 := hok.1 29 3
      refine lv_iload_n C.1 C.2.1 dX9_advance_36 rfl (lv_at hl 1 rfl) ?_
      refine lv_aload_n C.1 C.2.1 dX9_advance_37 rfl (lv_at hl 0 rfl) ?_
      refine k_get (v := .int (t1.1 29 7)) C hP 29 rfl rfl inlX9 7 (by decide) m_12_21 rfl dX9_advance_38 ?_
      refine lv_icmp_ge (tgt := 61) C.1 C.2.1 dX9_advance_41 (by decide) (fun c_54 => ?_) (fun c_54 => ?_)
      · replace c_54 : (t1.1 29 7).toInt ≤ w36_1.toInt := i_le c_54
        exact L_61 t1 w36_1 _ _ _ hok hfr ⟨by omega, by omega⟩ (show (0 : Int) ≤ ((t1.1 29 2) : Int32).toInt ∧ ((t1.1 29 2) : Int32).toInt ≤ 1279 from ⟨by omega, by omega⟩) (show (0 : Int) ≤ ((t1.1 29 4) : Int32).toInt ∧ ((t1.1 29 4) : Int32).toInt ≤ 1279 from ⟨by omega, by omega⟩) (show (1 : Int) ≤ ((t1.1 29 7) : Int32).toInt ∧ ((t1.1 29 7) : Int32).toInt ≤ 1280 from ⟨by omega, by omega⟩) (show (t1.1 29 2).toInt ≤ w36_1.toInt from by omega) (show w36_1.toInt ≤ (t1.1 29 7).toInt from by omega) (show (t1.1 29 2).toInt = (t.1 29 4).toInt from by omega) hP hD hS (lv_sub hl [0, 1] rfl)
      · replace c_54 : w36_1.toInt < (t1.1 29 7).toInt := i_nle c_54
        refine lv_aload_n C.1 C.2.1 dX9_advance_44 rfl (lv_at hl 0 rfl) ?_
        refine k_get (v := .ref (ad 1)) C hP 29 rfl rfl inlX9 0 (by decide) m_3_0 rfl dX9_advance_45 ?_
        refine lv_iload_n C.1 C.2.1 dX9_advance_48 rfl (lv_at hl 1 rfl) ?_
        obtain ⟨v_55, e_56⟩ : ∃ z, z = (t1.2.2.1 1 (w36_1 : Int32).toNatClampNeg) := ⟨_, rfl⟩
        have h_57 : (-128 : Int) ≤ v_55.toInt ∧ v_55.toInt ≤ 127 := by rw [e_56]; exact hok.2.1 1 _
        refine k_bld (v := v_55) C hP 1 rfl (vp_in_iff.mpr ⟨by omega, by omega⟩) e_56.symm dX9_advance_49 ?_
        refine lv_bipush (v := 10) C.1 C.2.1 dX9_advance_50 (by decide) ?_
        refine lv_icmp_eq (tgt := 61) C.1 C.2.1 dX9_advance_52 (by decide) (fun c_58 => ?_) (fun c_58 => ?_)
        · replace c_58 : v_55.toInt = 10 := i_eq c_58
          exact L_61 t1 w36_1 _ _ _ hok hfr ⟨by omega, by omega⟩ (show (0 : Int) ≤ ((t1.1 29 2) : Int32).toInt ∧ ((t1.1 29 2) : Int32).toInt ≤ 1279 from ⟨by omega, by omega⟩) (show (0 : Int) ≤ ((t1.1 29 4) : Int32).toInt ∧ ((t1.1 29 4) : Int32).toInt ≤ 1279 from ⟨by omega, by omega⟩) (show (1 : Int) ≤ ((t1.1 29 7) : Int32).toInt ∧ ((t1.1 29 7) : Int32).toInt ≤ 1280 from ⟨by omega, by omega⟩) (show (t1.1 29 2).toInt ≤ w36_1.toInt from by omega) (show w36_1.toInt ≤ (t1.1 29 7).toInt from by omega) (show (t1.1 29 2).toInt = (t.1 29 4).toInt from by omega) hP hD hS (lv_sub hl [0, 1] rfl)
        · replace c_58 : ¬ v_55.toInt = 10 := i_ne c_58
          obtain ⟨v_59, e_60⟩ : ∃ z, z = w36_1 + 1 := ⟨_, rfl⟩
          have h_61 : v_59.toInt = w36_1.toInt + 1 := by rw [e_60]; exact ti_iadd (by show (_ : Int) ≤ w36_1.toInt + 1; omega) (by show w36_1.toInt + 1 < (_ : Int); omega)
          refine lv_iinc (v := v_59) (lv' := [(1, .int v_59), (0, .ref (ad 29))]) C.1 C.2.1 dX9_advance_55 hl (k := 1) rfl e_60.symm (by decide) rfl (fun ls hl => ?_)
          have hl : lv_has ls 3 [(0, .ref (ad 29)), (1, .int v_59)] := lv_sub hl [1, 0] rfl
          refine lv_goto (tgt := 36) C.1 C.2.1 dX9_advance_58 (by decide) ?_
          exact ih_36 t1 v_59 _ _ _ hok hfr ⟨by omega, by omega⟩ (show (0 : Int) ≤ ((t1.1 29 2) : Int32).toInt ∧ ((t1.1 29 2) : Int32).toInt ≤ 1279 from ⟨by omega, by omega⟩) (show (0 : Int) ≤ ((t1.1 29 4) : Int32).toInt ∧ ((t1.1 29 4) : Int32).toInt ≤ 1279 from ⟨by omega, by omega⟩) (show (1 : Int) ≤ ((t1.1 29 7) : Int32).toInt ∧ ((t1.1 29 7) : Int32).toInt ≤ 1280 from ⟨by omega, by omega⟩) (show (t1.1 29 2).toInt ≤ v_59.toInt from by omega) (show v_59.toInt ≤ (t1.1 29 7).toInt from by omega) (show (t1.1 29 2).toInt = (t.1 29 4).toInt from by omega) (show (1280 : Int) - v_59.toInt < (fuel_36 : Int) from by omega) hP hD hS (lv_sub hl [0, 1] rfl)
  refine lv_aload_n C.1 C.2.1 dX9_advance_0 rfl (lv_at hl 0 rfl) ?_
  refine lv_dup C.1 C.2.1 dX9_advance_1 rfl ?_
  refine k_get (v := .int (t.1 29 5)) C hP 29 rfl rfl inlX9 5 (by decide) m_13_3 rfl dX9_advance_2 ?_
  refine lv_iconst (v := 1) C.1 C.2.1 dX9_advance_5 (by decide) ?_
  obtain ⟨v_62, e_63⟩ : ∃ z, z = ((t.1 29 5) : Int32) + (1 : Int32) := ⟨_, rfl⟩
  refine k_iadd (v := v_62) C e_63.symm dX9_advance_6 ?_
  refine k_put (ws' := (WX d) K ad (uI t 29 5 v_62)) (v := .int v_62) C hP hD hS 29 rfl rfl inlX9 tyX9_ok nmX9 5 (by decide) m_13_3 rfl rfl rfl rfl rfl dX9_advance_7 (fun H locs hP hD hS => ?_)
  have hok : okX (uI t 29 5 v_62) := ⟨okI_I hok.1 29 5 v_62 (show (-2147483648 : Int) ≤ (v_62 : Int32).toInt ∧ (v_62 : Int32).toInt ≤ 2147483647 from (i_rng _)), hok.2.1, trivial⟩
  have hfr : frA [(29, 2), (29, 3), (29, 4), (29, 5)] [] [51] [] t (uI t 29 5 v_62) := frA_I hfr 29 5 _ rfl
  refine lv_aload_n C.1 C.2.1 dX9_advance_10 rfl (lv_at hl 0 rfl) ?_
  refine k_get (v := .int (t.1 29 4)) C hP 29 rfl rfl inlX9 4 (by decide) m_13_2 rfl dX9_advance_11 ?_
  refine lv_aload_n C.1 C.2.1 dX9_advance_14 rfl (lv_at hl 0 rfl) ?_
  refine k_get (v := .int (t.1 29 7)) C hP 29 rfl rfl inlX9 7 (by decide) m_12_21 rfl dX9_advance_15 ?_
  refine lv_icmp_lt (tgt := 23) C.1 C.2.1 dX9_advance_18 (by decide) (fun c_65 => ?_) (fun c_65 => ?_)
  · replace c_65 : (t.1 29 4).toInt < (t.1 29 7).toInt := i_lt c_65
    refine lv_aload_n C.1 C.2.1 dX9_advance_23 rfl (lv_at hl 0 rfl) ?_
    refine lv_aload_n C.1 C.2.1 dX9_advance_24 rfl (lv_at hl 0 rfl) ?_
    refine k_get (v := .int (t.1 29 4)) C hP 29 rfl rfl inlX9 4 (by decide) m_13_2 rfl dX9_advance_25 ?_
    refine k_put (ws' := (WX d) K ad (uI (uI t 29 5 v_62) 29 2 (t.1 29 4))) (v := .int (t.1 29 4)) C hP hD hS 29 rfl rfl inlX9 tyX9_ok nmX9 2 (by decide) m_13_22 rfl rfl rfl rfl rfl dX9_advance_28 (fun H locs hP hD hS => ?_)
    have hok : okX (uI (uI t 29 5 v_62) 29 2 (t.1 29 4)) := ⟨okI_I hok.1 29 2 (t.1 29 4) (show (0 : Int) ≤ ((t.1 29 4) : Int32).toInt ∧ ((t.1 29 4) : Int32).toInt ≤ 1280 from ⟨by omega, by omega⟩), hok.2.1, trivial⟩
    have hfr : frA [(29, 2), (29, 3), (29, 4), (29, 5)] [] [51] [] t (uI (uI t 29 5 v_62) 29 2 (t.1 29 4)) := frA_I hfr 29 2 _ rfl
    refine lv_aload_n C.1 C.2.1 dX9_advance_31 rfl (lv_at hl 0 rfl) ?_
    refine k_get (v := .int (t.1 29 4)) C hP 29 rfl rfl inlX9 2 (by decide) m_13_22 rfl dX9_advance_32 ?_
    refine lv_istore_n (lv' := [(1, .int (t.1 29 4)), (0, .ref (ad 29))]) C.1 C.2.1 dX9_advance_35 rfl hl (by decide) rfl (fun ls hl => ?_)
    have hl : lv_has ls 3 [(0, .ref (ad 29)), (1, .int (t.1 29 4))] := lv_sub hl [1, 0] rfl
    exact L_36 1281 (uI (uI t 29 5 v_62) 29 2 (t.1 29 4)) (t.1 29 4) _ _ _ hok hfr ⟨by omega, by omega⟩ (show (0 : Int) ≤ ((t.1 29 4) : Int32).toInt ∧ ((t.1 29 4) : Int32).toInt ≤ 1279 from ⟨by omega, by omega⟩) (show (0 : Int) ≤ ((t.1 29 4) : Int32).toInt ∧ ((t.1 29 4) : Int32).toInt ≤ 1279 from ⟨by omega, by omega⟩) (show (1 : Int) ≤ ((t.1 29 7) : Int32).toInt ∧ ((t.1 29 7) : Int32).toInt ≤ 1280 from ⟨by omega, by omega⟩) (show (t.1 29 4).toInt ≤ (t.1 29 4).toInt from by omega) (show (t.1 29 4).toInt ≤ (t.1 29 7).toInt from by omega) (show (t.1 29 4).toInt = (t.1 29 4).toInt from by omega) (show (1280 : Int) - (t.1 29 4).toInt < ((1281 : Nat) : Int) from by omega) hP hD hS (lv_sub hl [0, 1] rfl)
  · replace c_65 : (t.1 29 7).toInt ≤ (t.1 29 4).toInt := i_nlt c_65
    refine lv_iconst (v := 0) C.1 C.2.1 dX9_advance_21 (by decide) ?_
    exact g_iret C hr hlocks hP hD hS (by decide) (uI t 29 5 v_62) rfl ⟨hok, hfr, by decide, by decide, (show 0 = 1 → (t.1 29 2).toInt + (t.1 29 3).toInt ≤ 1280 from by omega), (show 0 = 1 → (t.1 29 4).toInt + (t.1 29 3).toInt + 1 ≤ (t.1 29 4).toInt ∧ (t.1 29 4).toInt ≤ (t.1 29 7).toInt + 1 from by omega)⟩ (Nat.le_of_ble_eq_true rfl) (Nat.le_of_ble_eq_true rfl) dX9_advance_22


set_option maxHeartbeats 4000000 in
set_option maxRecDepth 100000 in
theorem T_X9_open_1 (l : Launch) (D : va_G) (K : Nat → ClassId) (Z Y : Nat → Nat) (ad : Nat → Nat) (d : dSt) (t : tSt) (hok : okX t) (x1 : Int32) (hx1 : (0 : Int) ≤ x1.toInt ∧ x1.toInt ≤ 1281) (x2 : Int32) (hx2 : (0 : Int) ≤ x2.toInt ∧ x2.toInt ≤ 1280) : tMet l yX9_open cX9_open 3 none (rmD 1 0 0) D K Z Y [.ref (ad 2), .int x1, .int x2] ((WX d) K ad t) (QV D K (fun (u : tSt) => okX u ∧ frA [(2, 4), (2, 5), (2, 6), (2, 7)] [] [] [] t u ∧ ((u.1 2 4).toInt = x1.toInt) ∧ ((u.1 2 7).toInt = x2.toInt)) (fun (u : tSt) => (WX d) K ad u)) 0 0 := by
  refine t_met RX9 ⟨rfl, by decide +kernel⟩ (Nat.le_of_ble_eq_true rfl) ?_
  intro p e s m below meth c A ls C hE hZ hr hlocks hA hP hD hS hl
  have hl : lv_has ls 3 [(0, .ref (ad 2)), (1, .int x1), (2, .int x2)] := hl
  have hokt := hok
  have hfr : frA [(2, 4), (2, 5), (2, 6), (2, 7)] [] [] [] t t := frA_rf
  have h_1 : (0 : Int) ≤ (t.1 2 4).toInt ∧ (t.1 2 4).toInt ≤ 1281 := hok.1 2 4
  have h_2 : (0 : Int) ≤ (t.1 2 6).toInt ∧ (t.1 2 6).toInt ≤ 1281 := hok.1 2 6
  have h_3 : (0 : Int) ≤ (t.1 2 7).toInt ∧ (t.1 2 7).toInt ≤ 1280 := hok.1 2 7
  refine lv_aload_n C.1 C.2.1 dX9_open_0 rfl (lv_at hl 0 rfl) ?_
  refine lv_iload_n C.1 C.2.1 dX9_open_1 rfl (lv_at hl 1 rfl) ?_
  refine lv_iconst (v := 0) C.1 C.2.1 dX9_open_2 (by decide) ?_
  obtain ⟨v_5, e_4⟩ : ∃ z, z = if (x1 : Int32) < (0 : Int32) then (0 : Int32) else (x1 : Int32) := ⟨_, rfl⟩
  have h_6 : (0 : Int32).toInt = 0 := rfl
  have h_7 := mx_r e_4
  refine k_mmax (v := v_5) C hl.1 m_12_13 m_12_14 m_12_15 m_12_16 (Nat.le_of_ble_eq_true rfl) (Nat.le_of_ble_eq_true rfl) (Nat.le_of_ble_eq_true rfl) (Nat.le_of_ble_eq_true rfl) e_4.symm dX9_open_3 ?_
  refine k_put (ws' := (WX d) K ad (uI t 2 6 v_5)) (v := .int v_5) C hP hD hS 2 rfl rfl inlX9 tyX9_ok nmX9 6 (by decide) m_12_17 rfl rfl rfl rfl rfl dX9_open_6 (fun H locs hP hD hS => ?_)
  have hok : okX (uI t 2 6 v_5) := ⟨okI_I hok.1 2 6 v_5 (show (0 : Int) ≤ (v_5 : Int32).toInt ∧ (v_5 : Int32).toInt ≤ 1281 from ⟨by omega, by omega⟩), hok.2.1, trivial⟩
  have hfr : frA [(2, 4), (2, 5), (2, 6), (2, 7)] [] [] [] t (uI t 2 6 v_5) := frA_I hfr 2 6 _ rfl
  refine lv_aload_n C.1 C.2.1 dX9_open_9 rfl (lv_at hl 0 rfl) ?_
  refine lv_iload_n C.1 C.2.1 dX9_open_10 rfl (lv_at hl 2 rfl) ?_
  refine lv_aload_n C.1 C.2.1 dX9_open_11 rfl (lv_at hl 0 rfl) ?_
  refine k_get (v := .ref (ad 8)) C hP 2 rfl rfl inlX9 0 (by decide) m_3_0 rfl dX9_open_12 ?_
  refine k_len (v := 8192) C hP 8 2 rfl rfl rfl dX9_open_15 ?_
  obtain ⟨v_9, e_8⟩ : ∃ z, z = if (8192 : Int32) < (x2 : Int32) then (8192 : Int32) else (x2 : Int32) := ⟨_, rfl⟩
  have h_10 : (8192 : Int32).toInt = 8192 := rfl
  have h_11 := mn_r e_8
  refine k_mmin (v := v_9) C hl.1 m_12_18 m_12_19 m_12_15 m_12_20 (Nat.le_of_ble_eq_true rfl) (Nat.le_of_ble_eq_true rfl) (Nat.le_of_ble_eq_true rfl) (Nat.le_of_ble_eq_true rfl) e_8.symm dX9_open_16 ?_
  refine k_put (ws' := (WX d) K ad (uI (uI t 2 6 v_5) 2 7 v_9)) (v := .int v_9) C hP hD hS 2 rfl rfl inlX9 tyX9_ok nmX9 7 (by decide) m_12_21 rfl rfl rfl rfl rfl dX9_open_19 (fun H locs hP hD hS => ?_)
  have hok : okX (uI (uI t 2 6 v_5) 2 7 v_9) := ⟨okI_I hok.1 2 7 v_9 (show (0 : Int) ≤ (v_9 : Int32).toInt ∧ (v_9 : Int32).toInt ≤ 1280 from ⟨by omega, by omega⟩), hok.2.1, trivial⟩
  have hfr : frA [(2, 4), (2, 5), (2, 6), (2, 7)] [] [] [] t (uI (uI t 2 6 v_5) 2 7 v_9) := frA_I hfr 2 7 _ rfl
  refine lv_aload_n C.1 C.2.1 dX9_open_22 rfl (lv_at hl 0 rfl) ?_
  refine g_Vv (As := []) (rest := []) C hP hD hS hA (T_X9_reopen_1 l D K Z Y ad d (uI (uI t 2 6 v_5) 2 7 v_9) hok ) hE hZ (uwV m_12_22 m_12_23 m_13_0 m_1_17 m_13_1) (hdV 0 (by decide +kernel) rfl) ⟨Nat.le_of_ble_eq_true rfl, Nat.le_of_ble_eq_true rfl⟩ rfl rfl (ci := 8) (q0 := 2) rfl rfl rfl hl.1 (Nat.le_of_ble_eq_true rfl) dX9_open_23 ⟨Nat.le_of_ble_eq_true rfl, Nat.le_of_ble_eq_true rfl⟩ (fun t_12 H locs hw hP hD hS => ?_)
  obtain ⟨hok, f_14, p_15⟩ := hw
  have hfr : frA [(2, 4), (2, 5), (2, 6), (2, 7)] [] [] [] t t_12 := frA_tr hfr f_14 rfl
  have h_16 : (t_12.1 2 6).toInt = v_5.toInt := ti_eq (f_14.1 2 6 rfl)
  have h_17 : (t_12.1 2 7).toInt = v_9.toInt := ti_eq (f_14.1 2 7 rfl)
  have h_18 : (0 : Int) ≤ (t_12.1 2 4).toInt ∧ (t_12.1 2 4).toInt ≤ 1281 := hok.1 2 4
  replace p_15 : (t_12.1 2 4).toInt = v_5.toInt := p_15
  exact g_vret C hr hlocks hP hD hS t_12 rfl ⟨hok, hfr, (show (t_12.1 2 4).toInt = x1.toInt from by omega), (show (t_12.1 2 7).toInt = x2.toInt from by omega)⟩ (Nat.le_of_ble_eq_true rfl) (Nat.le_of_ble_eq_true rfl) dX9_open_26

theorem dX3_optionsAt_0 : decode cX3_optionsAt 0 = .ok (.iconst 0, 1) := by decide +kernel
theorem dX3_optionsAt_1 : decode cX3_optionsAt 1 = .ok (.istore_n 2, 1) := by decide +kernel
theorem dX3_optionsAt_10 : decode cX3_optionsAt 10 = .ok (.if_icmp .gt 78, 3) := by decide +kernel
theorem dX3_optionsAt_102 : decode cX3_optionsAt 102 = .ok (.ifCond .ne 5, 3) := by decide +kernel
theorem dX3_optionsAt_105 : decode cX3_optionsAt 105 = .ok (.iconst (-1), 1) := by decide +kernel
theorem dX3_optionsAt_106 : decode cX3_optionsAt 106 = .ok (.ireturn, 1) := by decide +kernel
theorem dX3_optionsAt_107 : decode cX3_optionsAt 107 = .ok (.iinc 3 1, 3) := by decide +kernel
theorem dX3_optionsAt_110 : decode cX3_optionsAt 110 = .ok (.goto (-22), 3) := by decide +kernel
theorem dX3_optionsAt_113 : decode cX3_optionsAt 113 = .ok (.iload_n 2, 1) := by decide +kernel
theorem dX3_optionsAt_114 : decode cX3_optionsAt 114 = .ok (.ireturn, 1) := by decide +kernel
theorem dX3_optionsAt_13 : decode cX3_optionsAt 13 = .ok (.iload 4, 2) := by decide +kernel
theorem dX3_optionsAt_15 : decode cX3_optionsAt 15 = .ok (.invokestatic 122, 3) := by decide +kernel
theorem dX3_optionsAt_18 : decode cX3_optionsAt 18 = .ok (.astore 5, 2) := by decide +kernel
theorem dX3_optionsAt_2 : decode cX3_optionsAt 2 = .ok (.iload_n 1, 1) := by decide +kernel
theorem dX3_optionsAt_20 : decode cX3_optionsAt 20 = .ok (.aload_n 0, 1) := by decide +kernel
theorem dX3_optionsAt_21 : decode cX3_optionsAt 21 = .ok (.getfield 21, 3) := by decide +kernel
theorem dX3_optionsAt_24 : decode cX3_optionsAt 24 = .ok (.iload_n 3, 1) := by decide +kernel
theorem dX3_optionsAt_25 : decode cX3_optionsAt 25 = .ok (.invokevirtual 94, 3) := by decide +kernel
theorem dX3_optionsAt_28 : decode cX3_optionsAt 28 = .ok (.ifCond .eq 54, 3) := by decide +kernel
theorem dX3_optionsAt_3 : decode cX3_optionsAt 3 = .ok (.istore_n 3, 1) := by decide +kernel
theorem dX3_optionsAt_31 : decode cX3_optionsAt 31 = .ok (.aload_n 0, 1) := by decide +kernel
theorem dX3_optionsAt_32 : decode cX3_optionsAt 32 = .ok (.getfield 21, 3) := by decide +kernel
theorem dX3_optionsAt_35 : decode cX3_optionsAt 35 = .ok (.iload_n 3, 1) := by decide +kernel
theorem dX3_optionsAt_36 : decode cX3_optionsAt 36 = .ok (.iconst 1, 1) := by decide +kernel
theorem dX3_optionsAt_37 : decode cX3_optionsAt 37 = .ok (.iadd, 1) := by decide +kernel
theorem dX3_optionsAt_38 : decode cX3_optionsAt 38 = .ok (.aload 5, 2) := by decide +kernel
theorem dX3_optionsAt_4 : decode cX3_optionsAt 4 = .ok (.iconst 0, 1) := by decide +kernel
theorem dX3_optionsAt_40 : decode cX3_optionsAt 40 = .ok (.invokevirtual 85, 3) := by decide +kernel
theorem dX3_optionsAt_43 : decode cX3_optionsAt 43 = .ok (.ifCond .eq 39, 3) := by decide +kernel
theorem dX3_optionsAt_46 : decode cX3_optionsAt 46 = .ok (.aload_n 0, 1) := by decide +kernel
theorem dX3_optionsAt_47 : decode cX3_optionsAt 47 = .ok (.getfield 21, 3) := by decide +kernel
theorem dX3_optionsAt_5 : decode cX3_optionsAt 5 = .ok (.istore 4, 2) := by decide +kernel
theorem dX3_optionsAt_50 : decode cX3_optionsAt 50 = .ok (.iload_n 3, 1) := by decide +kernel
theorem dX3_optionsAt_51 : decode cX3_optionsAt 51 = .ok (.iconst 1, 1) := by decide +kernel
theorem dX3_optionsAt_52 : decode cX3_optionsAt 52 = .ok (.iadd, 1) := by decide +kernel
theorem dX3_optionsAt_53 : decode cX3_optionsAt 53 = .ok (.aload 5, 2) := by decide +kernel
theorem dX3_optionsAt_55 : decode cX3_optionsAt 55 = .ok (.invokevirtual 89, 3) := by decide +kernel
theorem dX3_optionsAt_58 : decode cX3_optionsAt 58 = .ok (.iadd, 1) := by decide +kernel
theorem dX3_optionsAt_59 : decode cX3_optionsAt 59 = .ok (.invokevirtual 94, 3) := by decide +kernel
theorem dX3_optionsAt_62 : decode cX3_optionsAt 62 = .ok (.ifCond .eq 20, 3) := by decide +kernel
theorem dX3_optionsAt_65 : decode cX3_optionsAt 65 = .ok (.iload_n 2, 1) := by decide +kernel
theorem dX3_optionsAt_66 : decode cX3_optionsAt 66 = .ok (.iconst 1, 1) := by decide +kernel
theorem dX3_optionsAt_67 : decode cX3_optionsAt 67 = .ok (.iload 4, 2) := by decide +kernel
theorem dX3_optionsAt_69 : decode cX3_optionsAt 69 = .ok (.ishl, 1) := by decide +kernel
theorem dX3_optionsAt_7 : decode cX3_optionsAt 7 = .ok (.iload 4, 2) := by decide +kernel
theorem dX3_optionsAt_70 : decode cX3_optionsAt 70 = .ok (.ior, 1) := by decide +kernel
theorem dX3_optionsAt_71 : decode cX3_optionsAt 71 = .ok (.istore_n 2, 1) := by decide +kernel
theorem dX3_optionsAt_72 : decode cX3_optionsAt 72 = .ok (.iload_n 3, 1) := by decide +kernel
theorem dX3_optionsAt_73 : decode cX3_optionsAt 73 = .ok (.iconst 1, 1) := by decide +kernel
theorem dX3_optionsAt_74 : decode cX3_optionsAt 74 = .ok (.aload 5, 2) := by decide +kernel
theorem dX3_optionsAt_76 : decode cX3_optionsAt 76 = .ok (.invokevirtual 89, 3) := by decide +kernel
theorem dX3_optionsAt_79 : decode cX3_optionsAt 79 = .ok (.iadd, 1) := by decide +kernel
theorem dX3_optionsAt_80 : decode cX3_optionsAt 80 = .ok (.iadd, 1) := by decide +kernel
theorem dX3_optionsAt_81 : decode cX3_optionsAt 81 = .ok (.istore_n 3, 1) := by decide +kernel
theorem dX3_optionsAt_82 : decode cX3_optionsAt 82 = .ok (.iinc 4 1, 3) := by decide +kernel
theorem dX3_optionsAt_85 : decode cX3_optionsAt 85 = .ok (.goto (-78), 3) := by decide +kernel
theorem dX3_optionsAt_88 : decode cX3_optionsAt 88 = .ok (.iload_n 3, 1) := by decide +kernel
theorem dX3_optionsAt_89 : decode cX3_optionsAt 89 = .ok (.bipush 80, 2) := by decide +kernel
theorem dX3_optionsAt_9 : decode cX3_optionsAt 9 = .ok (.iconst 4, 1) := by decide +kernel
theorem dX3_optionsAt_91 : decode cX3_optionsAt 91 = .ok (.if_icmp .ge 22, 3) := by decide +kernel
theorem dX3_optionsAt_94 : decode cX3_optionsAt 94 = .ok (.aload_n 0, 1) := by decide +kernel
theorem dX3_optionsAt_95 : decode cX3_optionsAt 95 = .ok (.getfield 21, 3) := by decide +kernel
theorem dX3_optionsAt_98 : decode cX3_optionsAt 98 = .ok (.iload_n 3, 1) := by decide +kernel
theorem dX3_optionsAt_99 : decode cX3_optionsAt 99 = .ok (.invokevirtual 94, 3) := by decide +kernel
set_option maxHeartbeats 4000000 in
set_option maxRecDepth 100000 in
theorem T_X3_optionsAt (l : Launch) (D : va_G) (K : Nat → ClassId) (Z Y : Nat → Nat) (ad : Nat → Nat) (d : dSt) (t : tSt) (hok : okX t) (x1 : Int32) (hx1 : (6 : Int) ≤ x1.toInt ∧ x1.toInt ≤ 27) : tMet l yX3_optionsAt cX3_optionsAt 6 (some .int) (rmD 5 0 0) D K Z Y [.ref (ad 7), .int x1] ((WX d) K ad t) (QI D K (fun (r : Int32) (u : Unit) => (-2147483648 : Int) ≤ r.toInt ∧ r.toInt ≤ 2147483647) (fun (_ : Unit) => (WX d) K ad t)) 0 0 := by
  refine t_met RX3 ⟨rfl, by decide +kernel⟩ (Nat.le_of_ble_eq_true rfl) ?_
  intro p e s m below meth c A ls C hE hZ hr hlocks hA hP hD hS hl
  have hl : lv_has ls 6 [(0, .ref (ad 7)), (1, .int x1)] := hl
  have L_88 : ∀ (fuel_88 : Nat) (w88_2 : Int32) (w88_3 : Int32) (w88_4 : Int32) (H : Heap) (locs : List Loc) (ls : Array Slot), (5 : Int) ≤ w88_4.toInt ∧ w88_4.toInt ≤ 5 → (0 ≤ w88_3.toInt) → (w88_3.toInt ≤ 80) → (90 - w88_3.toInt) < (fuel_88 : Int) → va_P D vwCl ((WX d) K ad t) H → va_D A ((WX d) K ad t) → va_S A s.heap H locs → lv_has ls 6 [(0, .ref (ad 7)), (1, .int x1), (2, .int w88_2), (3, .int w88_3), (4, .int w88_4)] → W p l e (rmD 5 0 0) s m [.ref (ad 7), .int x1].toArray below meth c H locs 0 0 (MQ below (QI D K (fun (r : Int32) (u : Unit) => (-2147483648 : Int) ≤ r.toInt ∧ r.toInt ≤ 2147483647) (fun (_ : Unit) => (WX d) K ad t) A) [.ref (ad 7), .int x1].toArray s 0 0 A) (F0 m 88 ls []) := by
    intro fuel_88
    induction fuel_88 with
    | zero =>
      intro w88_2 w88_3 w88_4 H locs ls hw88_4 hi88_0 hi88_1 hm88_88 hP hD hS hl
      exact absurd hm88_88 (by omega)
    | succ fuel_88 ih_88 =>
      intro w88_2 w88_3 w88_4 H locs ls hw88_4 hi88_0 hi88_1 hm88_88 hP hD hS hl
      have hm88_88 : (90 - w88_3.toInt) < (fuel_88 : Int) + 1 := by omega
      refine lv_iload_n C.1 C.2.1 dX3_optionsAt_88 rfl (lv_at hl 3 rfl) ?_
      refine lv_bipush (v := 80) C.1 C.2.1 dX3_optionsAt_89 (by decide) ?_
      refine lv_icmp_ge (tgt := 113) C.1 C.2.1 dX3_optionsAt_91 (by decide) (fun c_1 => ?_) (fun c_1 => ?_)
      · replace c_1 : 80 ≤ w88_3.toInt := i_le c_1
        refine lv_iload_n C.1 C.2.1 dX3_optionsAt_113 rfl (lv_at hl 2 rfl) ?_
        exact g_iret C hr hlocks hP hD hS rfl () rfl ⟨(i_rng _).1, (i_rng _).2⟩ (Nat.le_of_ble_eq_true rfl) (Nat.le_of_ble_eq_true rfl) dX3_optionsAt_114
      · replace c_1 : w88_3.toInt < 80 := i_nle c_1
        refine lv_aload_n C.1 C.2.1 dX3_optionsAt_94 rfl (lv_at hl 0 rfl) ?_
        refine k_get (v := .ref (ad 29)) C hP 7 rfl rfl inlX3 0 (by decide) m_6_23 rfl dX3_optionsAt_95 ?_
        refine lv_iload_n C.1 C.2.1 dX3_optionsAt_98 rfl (lv_at hl 3 rfl) ?_
        refine g_Vi (As := [.int w88_3]) (rest := []) C hP hD hS hA (T_X9_isBlankAt l D K Z Y ad d t hok (w88_3)) hE hZ (uwV m_72_22 m_72_23 m_73_0 m_1_17 m_73_1) (hdV 1 (by decide +kernel) rfl) ⟨Nat.le_of_ble_eq_true rfl, Nat.le_of_ble_eq_true rfl⟩ rfl rfl (ci := 8) (q0 := 29) rfl rfl rfl hl.1 (Nat.le_of_ble_eq_true rfl) dX3_optionsAt_99 ⟨Nat.le_of_ble_eq_true rfl, Nat.le_of_ble_eq_true rfl⟩ (fun r_3 t_2 H locs hw hP hD hS => ?_)
        obtain ⟨h_5, h_6⟩ := hw
        refine lv_if_ne (tgt := 107) C.1 C.2.1 dX3_optionsAt_102 (by decide) (fun c_7 => ?_) (fun c_7 => ?_)
        · replace c_7 : ¬ r_3.toInt = 0 := i_ne c_7
          obtain ⟨v_8, e_9⟩ : ∃ z, z = w88_3 + 1 := ⟨_, rfl⟩
          have h_10 : v_8.toInt = w88_3.toInt + 1 := by rw [e_9]; exact ti_iadd (by show (_ : Int) ≤ w88_3.toInt + 1; omega) (by show w88_3.toInt + 1 < (_ : Int); omega)
          refine lv_iinc (v := v_8) (lv' := [(3, .int v_8), (0, .ref (ad 7)), (1, .int x1), (2, .int w88_2), (4, .int w88_4)]) C.1 C.2.1 dX3_optionsAt_107 hl (k := 3) rfl e_9.symm (by decide) rfl (fun ls hl => ?_)
          have hl : lv_has ls 6 [(0, .ref (ad 7)), (1, .int x1), (2, .int w88_2), (3, .int v_8), (4, .int w88_4)] := lv_sub hl [1, 2, 3, 0, 4] rfl
          refine lv_goto (tgt := 88) C.1 C.2.1 dX3_optionsAt_110 (by decide) ?_
          exact ih_88 w88_2 v_8 w88_4 _ _ _ ⟨by omega, by omega⟩ (show 0 ≤ v_8.toInt from by omega) (show v_8.toInt ≤ 80 from by omega) (show (90 - v_8.toInt) < (fuel_88 : Int) from by omega) hP hD hS (lv_sub hl [0, 1, 2, 3, 4] rfl)
        · replace c_7 : r_3.toInt = 0 := i_eq c_7
          refine lv_iconst (v := (-1)) C.1 C.2.1 dX3_optionsAt_105 (by decide) ?_
          exact g_iret C hr hlocks hP hD hS rfl () rfl ⟨(i_rng _).1, (i_rng _).2⟩ (Nat.le_of_ble_eq_true rfl) (Nat.le_of_ble_eq_true rfl) dX3_optionsAt_106
  have L_7 : ∀ (fuel_7 : Nat) (w7_2 : Int32) (w7_3 : Int32) (w7_4 : Int32) (H : Heap) (locs : List Loc) (ls : Array Slot), (0 : Int) ≤ w7_4.toInt ∧ w7_4.toInt ≤ 5 → (0 ≤ w7_3.toInt) → (w7_3.toInt ≤ 30 + 6 * w7_4.toInt) → (0 ≤ w7_4.toInt) → (w7_4.toInt ≤ 5) → (5 : Int) - w7_4.toInt < (fuel_7 : Int) → va_P D vwCl ((WX d) K ad t) H → va_D A ((WX d) K ad t) → va_S A s.heap H locs → lv_has ls 6 [(0, .ref (ad 7)), (1, .int x1), (2, .int w7_2), (3, .int w7_3), (4, .int w7_4)] → W p l e (rmD 5 0 0) s m [.ref (ad 7), .int x1].toArray below meth c H locs 0 0 (MQ below (QI D K (fun (r : Int32) (u : Unit) => (-2147483648 : Int) ≤ r.toInt ∧ r.toInt ≤ 2147483647) (fun (_ : Unit) => (WX d) K ad t) A) [.ref (ad 7), .int x1].toArray s 0 0 A) (F0 m 7 ls []) := by
    intro fuel_7
    induction fuel_7 with
    | zero =>
      intro w7_2 w7_3 w7_4 H locs ls hw7_4 hi7_0 hi7_1 hi7_2 hi7_3 hm7_7 hP hD hS hl
      exact absurd hm7_7 (by omega)
    | succ fuel_7 ih_7 =>
      intro w7_2 w7_3 w7_4 H locs ls hw7_4 hi7_0 hi7_1 hi7_2 hi7_3 hm7_7 hP hD hS hl
      have hm7_7 : (5 : Int) - w7_4.toInt < (fuel_7 : Int) + 1 := by omega
      have L_82 : ∀ (w82_2 : Int32) (w82_3 : Int32) (w82_4 : Int32) (w82_5 : Nat) (H : Heap) (locs : List Loc) (ls : Array Slot), (0 : Int) ≤ w82_4.toInt ∧ w82_4.toInt ≤ 4 → sS w82_5 → (0 ≤ w82_3.toInt) → (w82_3.toInt ≤ 36 + 6 * w82_4.toInt) → (0 ≤ w82_4.toInt) → (w82_4.toInt ≤ 4) → (5 : Int) - w82_4.toInt < (fuel_7 : Int) + 1 → va_P D vwCl ((WX d) K ad t) H → va_D A ((WX d) K ad t) → va_S A s.heap H locs → lv_has ls 6 [(0, .ref (ad 7)), (1, .int x1), (2, .int w82_2), (3, .int w82_3), (4, .int w82_4), (5, .ref (Z w82_5))] → W p l e (rmD 5 0 0) s m [.ref (ad 7), .int x1].toArray below meth c H locs 0 0 (MQ below (QI D K (fun (r : Int32) (u : Unit) => (-2147483648 : Int) ≤ r.toInt ∧ r.toInt ≤ 2147483647) (fun (_ : Unit) => (WX d) K ad t) A) [.ref (ad 7), .int x1].toArray s 0 0 A) (F0 m 82 ls []) := by
        intro w82_2 w82_3 w82_4 w82_5 H locs ls hw82_4 hw82_5 hi82_0 hi82_1 hi82_2 hi82_3 hm82_7 hP hD hS hl
        obtain ⟨v_11, e_12⟩ : ∃ z, z = w82_4 + 1 := ⟨_, rfl⟩
        have h_13 : v_11.toInt = w82_4.toInt + 1 := by rw [e_12]; exact ti_iadd (by show (_ : Int) ≤ w82_4.toInt + 1; omega) (by show w82_4.toInt + 1 < (_ : Int); omega)
        refine lv_iinc (v := v_11) (lv' := [(4, .int v_11), (0, .ref (ad 7)), (1, .int x1), (2, .int w82_2), (3, .int w82_3), (5, .ref (Z w82_5))]) C.1 C.2.1 dX3_optionsAt_82 hl (k := 4) rfl e_12.symm (by decide) rfl (fun ls hl => ?_)
        have hl : lv_has ls 6 [(0, .ref (ad 7)), (1, .int x1), (2, .int w82_2), (3, .int w82_3), (4, .int v_11), (5, .ref (Z w82_5))] := lv_sub hl [1, 2, 3, 4, 0, 5] rfl
        refine lv_goto (tgt := 7) C.1 C.2.1 dX3_optionsAt_85 (by decide) ?_
        exact ih_7 w82_2 w82_3 v_11 _ _ _ ⟨by omega, by omega⟩ (show 0 ≤ w82_3.toInt from by omega) (show w82_3.toInt ≤ 30 + 6 * v_11.toInt from by omega) (show 0 ≤ v_11.toInt from by omega) (show v_11.toInt ≤ 5 from by omega) (show (5 : Int) - v_11.toInt < (fuel_7 : Int) from by omega) hP hD hS (lv_sub hl [0, 1, 2, 3, 4] rfl)
      refine lv_iload C.1 C.2.1 dX3_optionsAt_7 (lv_at hl 4 rfl) ?_
      refine lv_iconst (v := 4) C.1 C.2.1 dX3_optionsAt_9 (by decide) ?_
      refine lv_icmp_gt (tgt := 88) C.1 C.2.1 dX3_optionsAt_10 (by decide) (fun c_14 => ?_) (fun c_14 => ?_)
      · replace c_14 : 4 < w7_4.toInt := i_lt c_14
        exact L_88 200 w7_2 w7_3 w7_4 _ _ _ ⟨by omega, by omega⟩ (show 0 ≤ w7_3.toInt from by omega) (show w7_3.toInt ≤ 80 from by omega) (show (90 - w7_3.toInt) < ((200 : Nat) : Int) from by omega) hP hD hS (lv_sub hl [0, 1, 2, 3, 4] rfl)
      · replace c_14 : w7_4.toInt ≤ 4 := i_nlt c_14
        refine lv_iload C.1 C.2.1 dX3_optionsAt_13 (lv_at hl 4 rfl) ?_
        refine g_Sr (As := [.int w7_4]) (rest := []) C hP hD hS hA (T_X3_wordOf l D K Z Y ad d t hok (w7_4) (show (0 : Int) ≤ (w7_4 : Int32).toInt ∧ (w7_4 : Int32).toInt ≤ 4 from ⟨by omega, by omega⟩)) hE hZ (uwS m_72_19 m_72_20 m_2_17 m_72_21) (hdS 1 (by decide +kernel) rfl) ⟨Nat.le_of_ble_eq_true rfl, Nat.le_of_ble_eq_true rfl⟩ rfl rfl rfl hl.1 (Nat.le_of_ble_eq_true rfl) dX3_optionsAt_15 ⟨Nat.le_of_ble_eq_true rfl, Nat.le_of_ble_eq_true rfl⟩ (fun t_15 H locs hw hP hD hS => ?_)
        have ht_15 := hw
        have hsq := sS_len ht_15
        refine lv_astore (lv' := [(5, .ref (Z t_15)), (0, .ref (ad 7)), (1, .int x1), (2, .int w7_2), (3, .int w7_3), (4, .int w7_4)]) C.1 C.2.1 dX3_optionsAt_18 hl (by decide) rfl (fun ls hl => ?_)
        have hl : lv_has ls 6 [(0, .ref (ad 7)), (1, .int x1), (2, .int w7_2), (3, .int w7_3), (4, .int w7_4), (5, .ref (Z t_15))] := lv_sub hl [1, 2, 3, 4, 5, 0] rfl
        refine lv_aload_n C.1 C.2.1 dX3_optionsAt_20 rfl (lv_at hl 0 rfl) ?_
        refine k_get (v := .ref (ad 29)) C hP 7 rfl rfl inlX3 0 (by decide) m_6_23 rfl dX3_optionsAt_21 ?_
        refine lv_iload_n C.1 C.2.1 dX3_optionsAt_24 rfl (lv_at hl 3 rfl) ?_
        refine g_Vi (As := [.int w7_3]) (rest := []) C hP hD hS hA (T_X9_isBlankAt l D K Z Y ad d t hok (w7_3)) hE hZ (uwV m_72_22 m_72_23 m_73_0 m_1_17 m_73_1) (hdV 1 (by decide +kernel) rfl) ⟨Nat.le_of_ble_eq_true rfl, Nat.le_of_ble_eq_true rfl⟩ rfl rfl (ci := 8) (q0 := 29) rfl rfl rfl hl.1 (Nat.le_of_ble_eq_true rfl) dX3_optionsAt_25 ⟨Nat.le_of_ble_eq_true rfl, Nat.le_of_ble_eq_true rfl⟩ (fun r_19 t_18 H locs hw hP hD hS => ?_)
        obtain ⟨h_21, h_22⟩ := hw
        refine lv_if_eq (tgt := 82) C.1 C.2.1 dX3_optionsAt_28 (by decide) (fun c_23 => ?_) (fun c_23 => ?_)
        · replace c_23 : r_19.toInt = 0 := i_eq c_23
          exact L_82 w7_2 w7_3 w7_4 (t_15) _ _ _ ⟨by omega, by omega⟩ ht_15 (show 0 ≤ w7_3.toInt from by omega) (show w7_3.toInt ≤ 36 + 6 * w7_4.toInt from by omega) (show 0 ≤ w7_4.toInt from by omega) (show w7_4.toInt ≤ 4 from by omega) (show (5 : Int) - w7_4.toInt < (fuel_7 : Int) + 1 from by omega) hP hD hS (lv_sub hl [0, 1, 2, 3, 4, 5] rfl)
        · replace c_23 : ¬ r_19.toInt = 0 := i_ne c_23
          refine lv_aload_n C.1 C.2.1 dX3_optionsAt_31 rfl (lv_at hl 0 rfl) ?_
          refine k_get (v := .ref (ad 29)) C hP 7 rfl rfl inlX3 0 (by decide) m_6_23 rfl dX3_optionsAt_32 ?_
          refine lv_iload_n C.1 C.2.1 dX3_optionsAt_35 rfl (lv_at hl 3 rfl) ?_
          refine lv_iconst (v := 1) C.1 C.2.1 dX3_optionsAt_36 (by decide) ?_
          obtain ⟨v_24, e_25⟩ : ∃ z, z = (w7_3 : Int32) + (1 : Int32) := ⟨_, rfl⟩
          have h_27 := i_rng w7_3
          have h_26 : v_24.toInt = w7_3.toInt + 1 := by rw [e_25]; exact ti_iadd (by show (_ : Int) ≤ w7_3.toInt + 1; omega) (by show w7_3.toInt + 1 < (_ : Int); omega)
          refine k_iadd (v := v_24) C e_25.symm dX3_optionsAt_37 ?_
          refine lv_aload C.1 C.2.1 dX3_optionsAt_38 (lv_at hl 5 rfl) ?_
          refine g_Vi (As := [.int v_24, .ref (Z t_15)]) (rest := []) C hP hD hS hA (T_X9_isAt l D K Z Y ad d t hok (v_24) (show (0 : Int) ≤ (v_24 : Int32).toInt ∧ (v_24 : Int32).toInt ≤ 100 from ⟨by omega, by omega⟩) (t_15) ht_15) hE hZ (uwV m_72_2 m_72_3 m_72_4 m_1_17 m_72_5) (hdV 2 (by decide +kernel) rfl) ⟨Nat.le_of_ble_eq_true rfl, Nat.le_of_ble_eq_true rfl⟩ rfl rfl (ci := 8) (q0 := 29) rfl rfl rfl hl.1 (Nat.le_of_ble_eq_true rfl) dX3_optionsAt_40 ⟨Nat.le_of_ble_eq_true rfl, Nat.le_of_ble_eq_true rfl⟩ (fun r_29 t_28 H locs hw hP hD hS => ?_)
          obtain ⟨h_31, h_32⟩ := hw
          refine lv_if_eq (tgt := 82) C.1 C.2.1 dX3_optionsAt_43 (by decide) (fun c_33 => ?_) (fun c_33 => ?_)
          · replace c_33 : r_29.toInt = 0 := i_eq c_33
            exact L_82 w7_2 w7_3 w7_4 (t_15) _ _ _ ⟨by omega, by omega⟩ ht_15 (show 0 ≤ w7_3.toInt from by omega) (show w7_3.toInt ≤ 36 + 6 * w7_4.toInt from by omega) (show 0 ≤ w7_4.toInt from by omega) (show w7_4.toInt ≤ 4 from by omega) (show (5 : Int) - w7_4.toInt < (fuel_7 : Int) + 1 from by omega) hP hD hS (lv_sub hl [0, 1, 2, 3, 4, 5] rfl)
          · replace c_33 : ¬ r_29.toInt = 0 := i_ne c_33
            refine lv_aload_n C.1 C.2.1 dX3_optionsAt_46 rfl (lv_at hl 0 rfl) ?_
            refine k_get (v := .ref (ad 29)) C hP 7 rfl rfl inlX3 0 (by decide) m_6_23 rfl dX3_optionsAt_47 ?_
            refine lv_iload_n C.1 C.2.1 dX3_optionsAt_50 rfl (lv_at hl 3 rfl) ?_
            refine lv_iconst (v := 1) C.1 C.2.1 dX3_optionsAt_51 (by decide) ?_
            obtain ⟨v_34, e_35⟩ : ∃ z, z = (w7_3 : Int32) + (1 : Int32) := ⟨_, rfl⟩
            have h_37 := i_rng w7_3
            have h_36 : v_34.toInt = w7_3.toInt + 1 := by rw [e_35]; exact ti_iadd (by show (_ : Int) ≤ w7_3.toInt + 1; omega) (by show w7_3.toInt + 1 < (_ : Int); omega)
            refine k_iadd (v := v_34) C e_35.symm dX3_optionsAt_52 ?_
            refine lv_aload C.1 C.2.1 dX3_optionsAt_53 (lv_at hl 5 rfl) ?_
            refine g_Ti (As := []) (rest := [.int v_34, .ref (ad 29)]) C hP hD hS hA (TJ_length l D K Z Y ((WX d) K ad t) t_15 (sS_lt ht_15)) hE hZ (uwV m_73_2 m_14_22 m_14_23 m_14_8 m_15_0) (hdV 0 (by decide +kernel) rfl) ⟨Nat.le_of_ble_eq_true rfl, Nat.le_of_ble_eq_true rfl⟩ rfl rfl (i0 := t_15) (sS_lt ht_15) rfl rfl hl.1 (Nat.le_of_ble_eq_true rfl) dX3_optionsAt_55 ⟨Nat.le_of_ble_eq_true rfl, Nat.le_of_ble_eq_true rfl⟩ (fun r_38 u_r_38 H locs hw hP hD hS => ?_)
            have h_39 : r_38.toInt = sL t_15 := hw
            have h_40 := sS_len ht_15
            obtain ⟨v_41, e_42⟩ : ∃ z, z = (v_34 : Int32) + (r_38 : Int32) := ⟨_, rfl⟩
            have h_43 : v_41.toInt = v_34.toInt + r_38.toInt := by rw [e_42]; exact ti_iadd (by show (_ : Int) ≤ v_34.toInt + r_38.toInt; omega) (by show v_34.toInt + r_38.toInt < (_ : Int); omega)
            refine k_iadd (v := v_41) C e_42.symm dX3_optionsAt_58 ?_
            refine g_Vi (As := [.int v_41]) (rest := []) C hP hD hS hA (T_X9_isBlankAt l D K Z Y ad d t hok (v_41)) hE hZ (uwV m_72_22 m_72_23 m_73_0 m_1_17 m_73_1) (hdV 1 (by decide +kernel) rfl) ⟨Nat.le_of_ble_eq_true rfl, Nat.le_of_ble_eq_true rfl⟩ rfl rfl (ci := 8) (q0 := 29) rfl rfl rfl hl.1 (Nat.le_of_ble_eq_true rfl) dX3_optionsAt_59 ⟨Nat.le_of_ble_eq_true rfl, Nat.le_of_ble_eq_true rfl⟩ (fun r_45 t_44 H locs hw hP hD hS => ?_)
            obtain ⟨h_47, h_48⟩ := hw
            refine lv_if_eq (tgt := 82) C.1 C.2.1 dX3_optionsAt_62 (by decide) (fun c_49 => ?_) (fun c_49 => ?_)
            · replace c_49 : r_45.toInt = 0 := i_eq c_49
              exact L_82 w7_2 w7_3 w7_4 (t_15) _ _ _ ⟨by omega, by omega⟩ ht_15 (show 0 ≤ w7_3.toInt from by omega) (show w7_3.toInt ≤ 36 + 6 * w7_4.toInt from by omega) (show 0 ≤ w7_4.toInt from by omega) (show w7_4.toInt ≤ 4 from by omega) (show (5 : Int) - w7_4.toInt < (fuel_7 : Int) + 1 from by omega) hP hD hS (lv_sub hl [0, 1, 2, 3, 4, 5] rfl)
            · replace c_49 : ¬ r_45.toInt = 0 := i_ne c_49
              refine lv_iload_n C.1 C.2.1 dX3_optionsAt_65 rfl (lv_at hl 2 rfl) ?_
              refine lv_iconst (v := 1) C.1 C.2.1 dX3_optionsAt_66 (by decide) ?_
              refine lv_iload C.1 C.2.1 dX3_optionsAt_67 (lv_at hl 4 rfl) ?_
              obtain ⟨v_50, e_51⟩ : ∃ z, z = (1 : Int32) <<< ((w7_4 : Int32) &&& 31) := ⟨_, rfl⟩
              refine k_ishl (v := v_50) C e_51.symm dX3_optionsAt_69 ?_
              obtain ⟨v_53, e_54⟩ : ∃ z, z = (w7_2 : Int32) ||| (v_50 : Int32) := ⟨_, rfl⟩
              refine k_ior (v := v_53) C e_54.symm dX3_optionsAt_70 ?_
              refine lv_istore_n (lv' := [(2, .int v_53), (0, .ref (ad 7)), (1, .int x1), (3, .int w7_3), (4, .int w7_4), (5, .ref (Z t_15))]) C.1 C.2.1 dX3_optionsAt_71 rfl hl (by decide) rfl (fun ls hl => ?_)
              have hl : lv_has ls 6 [(0, .ref (ad 7)), (1, .int x1), (2, .int v_53), (3, .int w7_3), (4, .int w7_4), (5, .ref (Z t_15))] := lv_sub hl [1, 2, 0, 3, 4, 5] rfl
              refine lv_iload_n C.1 C.2.1 dX3_optionsAt_72 rfl (lv_at hl 3 rfl) ?_
              refine lv_iconst (v := 1) C.1 C.2.1 dX3_optionsAt_73 (by decide) ?_
              refine lv_aload C.1 C.2.1 dX3_optionsAt_74 (lv_at hl 5 rfl) ?_
              refine g_Ti (As := []) (rest := [.int 1, .int w7_3]) C hP hD hS hA (TJ_length l D K Z Y ((WX d) K ad t) t_15 (sS_lt ht_15)) hE hZ (uwV m_73_2 m_14_22 m_14_23 m_14_8 m_15_0) (hdV 0 (by decide +kernel) rfl) ⟨Nat.le_of_ble_eq_true rfl, Nat.le_of_ble_eq_true rfl⟩ rfl rfl (i0 := t_15) (sS_lt ht_15) rfl rfl hl.1 (Nat.le_of_ble_eq_true rfl) dX3_optionsAt_76 ⟨Nat.le_of_ble_eq_true rfl, Nat.le_of_ble_eq_true rfl⟩ (fun r_56 u_r_56 H locs hw hP hD hS => ?_)
              have h_57 : r_56.toInt = sL t_15 := hw
              have h_58 := sS_len ht_15
              obtain ⟨v_59, e_60⟩ : ∃ z, z = (1 : Int32) + (r_56 : Int32) := ⟨_, rfl⟩
              have h_61 : v_59.toInt = 1 + r_56.toInt := by rw [e_60]; exact ti_iadd (by show (_ : Int) ≤ 1 + r_56.toInt; omega) (by show 1 + r_56.toInt < (_ : Int); omega)
              refine k_iadd (v := v_59) C e_60.symm dX3_optionsAt_79 ?_
              obtain ⟨v_62, e_63⟩ : ∃ z, z = (w7_3 : Int32) + (v_59 : Int32) := ⟨_, rfl⟩
              have h_65 := i_rng w7_3
              have h_64 : v_62.toInt = w7_3.toInt + v_59.toInt := by rw [e_63]; exact ti_iadd (by show (_ : Int) ≤ w7_3.toInt + v_59.toInt; omega) (by show w7_3.toInt + v_59.toInt < (_ : Int); omega)
              refine k_iadd (v := v_62) C e_63.symm dX3_optionsAt_80 ?_
              refine lv_istore_n (lv' := [(3, .int v_62), (0, .ref (ad 7)), (1, .int x1), (2, .int v_53), (4, .int w7_4), (5, .ref (Z t_15))]) C.1 C.2.1 dX3_optionsAt_81 rfl hl (by decide) rfl (fun ls hl => ?_)
              have hl : lv_has ls 6 [(0, .ref (ad 7)), (1, .int x1), (2, .int v_53), (3, .int v_62), (4, .int w7_4), (5, .ref (Z t_15))] := lv_sub hl [1, 2, 3, 0, 4, 5] rfl
              exact L_82 v_53 v_62 w7_4 (t_15) _ _ _ ⟨by omega, by omega⟩ ht_15 (show 0 ≤ v_62.toInt from by omega) (show v_62.toInt ≤ 36 + 6 * w7_4.toInt from by omega) (show 0 ≤ w7_4.toInt from by omega) (show w7_4.toInt ≤ 4 from by omega) (show (5 : Int) - w7_4.toInt < (fuel_7 : Int) + 1 from by omega) hP hD hS (lv_sub hl [0, 1, 2, 3, 4, 5] rfl)
  refine lv_iconst (v := 0) C.1 C.2.1 dX3_optionsAt_0 (by decide) ?_
  refine lv_istore_n (lv' := [(2, .int 0), (0, .ref (ad 7)), (1, .int x1)]) C.1 C.2.1 dX3_optionsAt_1 rfl hl (by decide) rfl (fun ls hl => ?_)
  have hl : lv_has ls 6 [(0, .ref (ad 7)), (1, .int x1), (2, .int 0)] := lv_sub hl [1, 2, 0] rfl
  refine lv_iload_n C.1 C.2.1 dX3_optionsAt_2 rfl (lv_at hl 1 rfl) ?_
  refine lv_istore_n (lv' := [(3, .int x1), (0, .ref (ad 7)), (1, .int x1), (2, .int 0)]) C.1 C.2.1 dX3_optionsAt_3 rfl hl (by decide) rfl (fun ls hl => ?_)
  have hl : lv_has ls 6 [(0, .ref (ad 7)), (1, .int x1), (2, .int 0), (3, .int x1)] := lv_sub hl [1, 2, 3, 0] rfl
  refine lv_iconst (v := 0) C.1 C.2.1 dX3_optionsAt_4 (by decide) ?_
  refine lv_istore (lv' := [(4, .int 0), (0, .ref (ad 7)), (1, .int x1), (2, .int 0), (3, .int x1)]) C.1 C.2.1 dX3_optionsAt_5 hl (by decide) rfl (fun ls hl => ?_)
  have hl : lv_has ls 6 [(0, .ref (ad 7)), (1, .int x1), (2, .int 0), (3, .int x1), (4, .int 0)] := lv_sub hl [1, 2, 3, 4, 0] rfl
  exact L_7 6 0 x1 0 _ _ _ ⟨by decide, by decide⟩ (show 0 ≤ x1.toInt from by omega) (show x1.toInt ≤ 30 + 6 * 0 from by omega) (show 0 ≤ 0 from by omega) (show 0 ≤ 5 from by omega) (show (5 : Int) - 0 < ((6 : Nat) : Int) from by omega) hP hD hS (lv_sub hl [0, 1, 2, 3, 4] rfl)

theorem dX4_digits_0 : decode cX4_digits 0 = .ok (.lload_n 3, 1) := by decide +kernel
theorem dX4_digits_1 : decode cX4_digits 1 = .ok (.lstore 5, 2) := by decide +kernel
theorem dX4_digits_10 : decode cX4_digits 10 = .ok (.iload 7, 2) := by decide +kernel
theorem dX4_digits_12 : decode cX4_digits 12 = .ok (.iload_n 1, 1) := by decide +kernel
theorem dX4_digits_13 : decode cX4_digits 13 = .ok (.if_icmp .lt 33, 3) := by decide +kernel
theorem dX4_digits_16 : decode cX4_digits 16 = .ok (.aload_n 0, 1) := by decide +kernel
theorem dX4_digits_17 : decode cX4_digits 17 = .ok (.iload 7, 2) := by decide +kernel
theorem dX4_digits_19 : decode cX4_digits 19 = .ok (.bipush 48, 2) := by decide +kernel
theorem dX4_digits_21 : decode cX4_digits 21 = .ok (.lload 5, 2) := by decide +kernel
theorem dX4_digits_23 : decode cX4_digits 23 = .ok (.ldc2_w 38, 3) := by decide +kernel
theorem dX4_digits_26 : decode cX4_digits 26 = .ok (.lrem, 1) := by decide +kernel
theorem dX4_digits_27 : decode cX4_digits 27 = .ok (.l2i, 1) := by decide +kernel
theorem dX4_digits_28 : decode cX4_digits 28 = .ok (.iadd, 1) := by decide +kernel
theorem dX4_digits_29 : decode cX4_digits 29 = .ok (.invokevirtual 34, 3) := by decide +kernel
theorem dX4_digits_3 : decode cX4_digits 3 = .ok (.iload_n 1, 1) := by decide +kernel
theorem dX4_digits_32 : decode cX4_digits 32 = .ok (.lload 5, 2) := by decide +kernel
theorem dX4_digits_34 : decode cX4_digits 34 = .ok (.ldc2_w 38, 3) := by decide +kernel
theorem dX4_digits_37 : decode cX4_digits 37 = .ok (.ldiv, 1) := by decide +kernel
theorem dX4_digits_38 : decode cX4_digits 38 = .ok (.lstore 5, 2) := by decide +kernel
theorem dX4_digits_4 : decode cX4_digits 4 = .ok (.iload_n 2, 1) := by decide +kernel
theorem dX4_digits_40 : decode cX4_digits 40 = .ok (.iinc 7 (-1), 3) := by decide +kernel
theorem dX4_digits_43 : decode cX4_digits 43 = .ok (.goto (-33), 3) := by decide +kernel
theorem dX4_digits_46 : decode cX4_digits 46 = .ok (.return_, 1) := by decide +kernel
theorem dX4_digits_5 : decode cX4_digits 5 = .ok (.iadd, 1) := by decide +kernel
theorem dX4_digits_6 : decode cX4_digits 6 = .ok (.iconst 1, 1) := by decide +kernel
theorem dX4_digits_7 : decode cX4_digits 7 = .ok (.isub, 1) := by decide +kernel
theorem dX4_digits_8 : decode cX4_digits 8 = .ok (.istore 7, 2) := by decide +kernel
set_option maxHeartbeats 4000000 in
set_option maxRecDepth 100000 in
theorem T_X4_digits (l : Launch) (D : va_G) (K : Nat → ClassId) (Z Y : Nat → Nat) (ad : Nat → Nat) (d : dSt) (t : tSt) (hok : okX t) (x1 : Int32) (hx1 : (0 : Int) ≤ x1.toInt ∧ x1.toInt ≤ 200) (x2 : Int32) (hx2 : (1 : Int) ≤ x2.toInt ∧ x2.toInt ≤ 10) (x3 : Int64) (hs0 : 0 ≤ x2.toInt) : tMet l yX4_digits cX4_digits 8 none (rmD 1 0 0) D K Z Y [.ref (ad 20), .int x1, .int x2, .long x3] ((WX d) K ad t) (QV D K (fun (u : tSt) => okX u ∧ frA [] [] [37] [] t u) (fun (u : tSt) => (WX d) K ad u)) 0 0 := by
  refine t_met RX4 ⟨rfl, by decide +kernel⟩ (Nat.le_of_ble_eq_true rfl) ?_
  intro p e s m below meth c A ls C hE hZ hr hlocks hA hP hD hS hl
  have hl : lv_has ls 8 [(0, .ref (ad 20)), (1, .int x1), (2, .int x2), (3, .long x3)] := hl
  have hokt := hok
  have hfr : frA [] [] [37] [] t t := frA_rf
  have L_10 : ∀ (fuel_10 : Nat) (t1 : tSt) (w10_5 : Int64) (w10_7 : Int32) (H : Heap) (locs : List Loc) (ls : Array Slot), okX t1 → frA [] [] [37] [] t t1 → (-1 : Int) ≤ w10_7.toInt ∧ w10_7.toInt ≤ 209 → (w10_7.toInt < x1.toInt + x2.toInt + 1) → (x1.toInt - 1 ≤ w10_7.toInt) → (w10_7.toInt - x1.toInt + 1) < (fuel_10 : Int) → va_P D vwCl ((WX d) K ad t1) H → va_D A ((WX d) K ad t1) → va_S A s.heap H locs → lv_has ls 8 [(0, .ref (ad 20)), (1, .int x1), (2, .int x2), (3, .long x3), (5, .long w10_5), (7, .int w10_7)] → W p l e (rmD 1 0 0) s m [.ref (ad 20), .int x1, .int x2, .long x3].toArray below meth c H locs 0 0 (MQ below (QV D K (fun (u : tSt) => okX u ∧ frA [] [] [37] [] t u) (fun (u : tSt) => (WX d) K ad u) A) [.ref (ad 20), .int x1, .int x2, .long x3].toArray s 0 0 A) (F0 m 10 ls []) := by
    intro fuel_10
    induction fuel_10 with
    | zero =>
      intro t1 w10_5 w10_7 H locs ls hok hfr hw10_7 hi10_0 hi10_1 hm10_10 hP hD hS hl
      exact absurd hm10_10 (by omega)
    | succ fuel_10 ih_10 =>
      intro t1 w10_5 w10_7 H locs ls hok hfr hw10_7 hi10_0 hi10_1 hm10_10 hP hD hS hl
      have hm10_10 : (w10_7.toInt - x1.toInt + 1) < (fuel_10 : Int) + 1 := by omega
      refine lv_iload C.1 C.2.1 dX4_digits_10 (lv_at hl 5 rfl) ?_
      refine lv_iload_n C.1 C.2.1 dX4_digits_12 rfl (lv_at hl 1 rfl) ?_
      refine lv_icmp_lt (tgt := 46) C.1 C.2.1 dX4_digits_13 (by decide) (fun c_1 => ?_) (fun c_1 => ?_)
      · replace c_1 : w10_7.toInt < x1.toInt := i_lt c_1
        exact g_vret C hr hlocks hP hD hS t1 rfl ⟨hok, hfr⟩ (Nat.le_of_ble_eq_true rfl) (Nat.le_of_ble_eq_true rfl) dX4_digits_46
      · replace c_1 : x1.toInt ≤ w10_7.toInt := i_nlt c_1
        refine lv_aload_n C.1 C.2.1 dX4_digits_16 rfl (lv_at hl 0 rfl) ?_
        refine lv_iload C.1 C.2.1 dX4_digits_17 (lv_at hl 5 rfl) ?_
        refine lv_bipush (v := 48) C.1 C.2.1 dX4_digits_19 (by decide) ?_
        refine lv_lload C.1 C.2.1 dX4_digits_21 (lv_at hl 4 rfl) ?_
        refine lv_ldc2 (v := 10) C.1 C.2.1 C.2.2.2.1 (C.2.2.2.2.1 _ m_40_22) dX4_digits_23 ?_
        obtain ⟨v_2, e_3⟩ : ∃ z, z = (w10_5 : Int64) - (w10_5 : Int64) / (10 : Int64) * (10 : Int64) := ⟨_, rfl⟩
        have h_4 : -10 < v_2.toInt ∧ v_2.toInt < 10 := by rw [e_3]; exact tl_remb (k := 10) (by decide) (by decide)
        refine k_lrem (v := v_2) C (by decide) e_3.symm dX4_digits_26 ?_
        obtain ⟨v_5, e_6⟩ : ∃ z, z = (v_2).toInt32 := ⟨_, rfl⟩
        have h_7 : v_5.toInt = v_2.toInt := by rw [e_6]; exact Jvm.Kit.i32_of_i64 (by show (_ : Int) ≤ v_2.toInt; omega) (by show v_2.toInt < (_ : Int); omega)
        refine lv_l2i (v := v_5) C.1 C.2.1 dX4_digits_27 e_6.symm ?_
        obtain ⟨v_8, e_9⟩ : ∃ z, z = (48 : Int32) + (v_5 : Int32) := ⟨_, rfl⟩
        have h_10 : v_8.toInt = 48 + v_5.toInt := by rw [e_9]; exact ti_iadd (by show (_ : Int) ≤ 48 + v_5.toInt; omega) (by show 48 + v_5.toInt < (_ : Int); omega)
        refine k_iadd (v := v_8) C e_9.symm dX4_digits_28 ?_
        refine g_Vv (As := [.int w10_7, .int v_8]) (rest := []) C hP hD hS hA (T_X4_mark l D K Z Y ad d t1 hok (w10_7) (v_8) (show (-128 : Int) ≤ (v_8 : Int32).toInt ∧ (v_8 : Int32).toInt ≤ 255 from ⟨by omega, by omega⟩)) hE hZ (uwV m_40_23 m_41_0 m_41_1 m_3_20 m_41_2) (hdV 2 (by decide +kernel) rfl) ⟨Nat.le_of_ble_eq_true rfl, Nat.le_of_ble_eq_true rfl⟩ rfl rfl (ci := 3) (q0 := 20) rfl rfl rfl hl.1 (Nat.le_of_ble_eq_true rfl) dX4_digits_29 ⟨Nat.le_of_ble_eq_true rfl, Nat.le_of_ble_eq_true rfl⟩ (fun t_11 H locs hw hP hD hS => ?_)
        obtain ⟨hok, f_13⟩ := hw
        have hfr : frA [] [] [37] [] t t_11 := frA_tr hfr f_13 rfl
        refine lv_lload C.1 C.2.1 dX4_digits_32 (lv_at hl 4 rfl) ?_
        refine lv_ldc2 (v := 10) C.1 C.2.1 C.2.2.2.1 (C.2.2.2.2.1 _ m_40_22) dX4_digits_34 ?_
        obtain ⟨v_14, e_15⟩ : ∃ z, z = (w10_5 : Int64) / (10 : Int64) := ⟨_, rfl⟩
        refine k_ldiv (v := v_14) C (by decide) e_15.symm dX4_digits_37 ?_
        refine lv_lstore (lv' := [(5, .long v_14), (0, .ref (ad 20)), (1, .int x1), (2, .int x2), (3, .long x3), (7, .int w10_7)]) C.1 C.2.1 dX4_digits_38 hl (by decide) rfl (fun ls hl => ?_)
        have hl : lv_has ls 8 [(0, .ref (ad 20)), (1, .int x1), (2, .int x2), (3, .long x3), (5, .long v_14), (7, .int w10_7)] := lv_sub hl [1, 2, 3, 4, 0, 5] rfl
        obtain ⟨v_16, e_17⟩ : ∃ z, z = w10_7 + (-1) := ⟨_, rfl⟩
        have h_18 : v_16.toInt = w10_7.toInt + (-1) := by rw [e_17]; exact ti_iadd (by show (_ : Int) ≤ w10_7.toInt + (-1); omega) (by show w10_7.toInt + (-1) < (_ : Int); omega)
        refine lv_iinc (v := v_16) (lv' := [(7, .int v_16), (0, .ref (ad 20)), (1, .int x1), (2, .int x2), (3, .long x3), (5, .long v_14)]) C.1 C.2.1 dX4_digits_40 hl (k := 5) rfl e_17.symm (by decide) rfl (fun ls hl => ?_)
        have hl : lv_has ls 8 [(0, .ref (ad 20)), (1, .int x1), (2, .int x2), (3, .long x3), (5, .long v_14), (7, .int v_16)] := lv_sub hl [1, 2, 3, 4, 5, 0] rfl
        refine lv_goto (tgt := 10) C.1 C.2.1 dX4_digits_43 (by decide) ?_
        exact ih_10 t_11 v_14 v_16 _ _ _ hok hfr ⟨by omega, by omega⟩ (show v_16.toInt < x1.toInt + x2.toInt + 1 from by omega) (show x1.toInt - 1 ≤ v_16.toInt from by omega) (show (v_16.toInt - x1.toInt + 1) < (fuel_10 : Int) from by omega) hP hD hS (lv_sub hl [0, 1, 2, 3, 4, 5] rfl)
  refine lv_lload_n C.1 C.2.1 dX4_digits_0 rfl (lv_at hl 3 rfl) ?_
  refine lv_lstore (lv' := [(5, .long x3), (0, .ref (ad 20)), (1, .int x1), (2, .int x2), (3, .long x3)]) C.1 C.2.1 dX4_digits_1 hl (by decide) rfl (fun ls hl => ?_)
  have hl : lv_has ls 8 [(0, .ref (ad 20)), (1, .int x1), (2, .int x2), (3, .long x3), (5, .long x3)] := lv_sub hl [1, 2, 3, 4, 0] rfl
  refine lv_iload_n C.1 C.2.1 dX4_digits_3 rfl (lv_at hl 1 rfl) ?_
  refine lv_iload_n C.1 C.2.1 dX4_digits_4 rfl (lv_at hl 2 rfl) ?_
  obtain ⟨v_19, e_20⟩ : ∃ z, z = (x1 : Int32) + (x2 : Int32) := ⟨_, rfl⟩
  have h_21 : v_19.toInt = x1.toInt + x2.toInt := by rw [e_20]; exact ti_iadd (by show (_ : Int) ≤ x1.toInt + x2.toInt; omega) (by show x1.toInt + x2.toInt < (_ : Int); omega)
  refine k_iadd (v := v_19) C e_20.symm dX4_digits_5 ?_
  refine lv_iconst (v := 1) C.1 C.2.1 dX4_digits_6 (by decide) ?_
  obtain ⟨v_22, e_23⟩ : ∃ z, z = (v_19 : Int32) - (1 : Int32) := ⟨_, rfl⟩
  have h_24 : v_22.toInt = v_19.toInt - 1 := by rw [e_23]; exact ti_isub (by show (_ : Int) ≤ v_19.toInt - 1; omega) (by show v_19.toInt - 1 < (_ : Int); omega)
  refine k_isub (v := v_22) C e_23.symm dX4_digits_7 ?_
  refine lv_istore (lv' := [(7, .int v_22), (0, .ref (ad 20)), (1, .int x1), (2, .int x2), (3, .long x3), (5, .long x3)]) C.1 C.2.1 dX4_digits_8 hl (by decide) rfl (fun ls hl => ?_)
  have hl : lv_has ls 8 [(0, .ref (ad 20)), (1, .int x1), (2, .int x2), (3, .long x3), (5, .long x3), (7, .int v_22)] := lv_sub hl [1, 2, 3, 4, 5, 0] rfl
  exact L_10 400 t x3 v_22 _ _ _ hok hfr ⟨by omega, by omega⟩ (show v_22.toInt < x1.toInt + x2.toInt + 1 from by omega) (show x1.toInt - 1 ≤ v_22.toInt from by omega) (show (v_22.toInt - x1.toInt + 1) < ((400 : Nat) : Int) from by omega) hP hD hS (lv_sub hl [0, 1, 2, 3, 4, 5] rfl)

theorem dX2_decode_0 : decode cX2_decode 0 = .ok (.aload_n 0, 1) := by decide +kernel
theorem dX2_decode_1 : decode cX2_decode 1 = .ok (.getfield 77, 3) := by decide +kernel
theorem dX2_decode_10 : decode cX2_decode 10 = .ok (.aload_n 0, 1) := by decide +kernel
theorem dX2_decode_100 : decode cX2_decode 100 = .ok (.iload_n 1, 1) := by decide +kernel
theorem dX2_decode_101 : decode cX2_decode 101 = .ok (.iaload, 1) := by decide +kernel
theorem dX2_decode_102 : decode cX2_decode 102 = .ok (.invokestatic 98, 3) := by decide +kernel
theorem dX2_decode_105 : decode cX2_decode 105 = .ok (.iadd, 1) := by decide +kernel
theorem dX2_decode_106 : decode cX2_decode 106 = .ok (.putfield 142, 3) := by decide +kernel
theorem dX2_decode_109 : decode cX2_decode 109 = .ok (.aload_n 0, 1) := by decide +kernel
theorem dX2_decode_11 : decode cX2_decode 11 = .ok (.getfield 77, 3) := by decide +kernel
theorem dX2_decode_110 : decode cX2_decode 110 = .ok (.getfield 84, 3) := by decide +kernel
theorem dX2_decode_113 : decode cX2_decode 113 = .ok (.iconst 5, 1) := by decide +kernel
theorem dX2_decode_114 : decode cX2_decode 114 = .ok (.if_icmp .ne 18, 3) := by decide +kernel
theorem dX2_decode_117 : decode cX2_decode 117 = .ok (.aload_n 0, 1) := by decide +kernel
theorem dX2_decode_118 : decode cX2_decode 118 = .ok (.getfield 87, 3) := by decide +kernel
theorem dX2_decode_121 : decode cX2_decode 121 = .ok (.iconst 3, 1) := by decide +kernel
theorem dX2_decode_122 : decode cX2_decode 122 = .ok (.if_icmp .ne 10, 3) := by decide +kernel
theorem dX2_decode_125 : decode cX2_decode 125 = .ok (.aload_n 0, 1) := by decide +kernel
theorem dX2_decode_126 : decode cX2_decode 126 = .ok (.getfield 54, 3) := by decide +kernel
theorem dX2_decode_129 : decode cX2_decode 129 = .ok (.ifCond .eq 7, 3) := by decide +kernel
theorem dX2_decode_132 : decode cX2_decode 132 = .ok (.iconst 1, 1) := by decide +kernel
theorem dX2_decode_133 : decode cX2_decode 133 = .ok (.goto 4, 3) := by decide +kernel
theorem dX2_decode_136 : decode cX2_decode 136 = .ok (.iconst 0, 1) := by decide +kernel
theorem dX2_decode_137 : decode cX2_decode 137 = .ok (.ireturn, 1) := by decide +kernel
theorem dX2_decode_14 : decode cX2_decode 14 = .ok (.iconst 4, 1) := by decide +kernel
theorem dX2_decode_15 : decode cX2_decode 15 = .ok (.invokestatic 130, 3) := by decide +kernel
theorem dX2_decode_18 : decode cX2_decode 18 = .ok (.putfield 87, 3) := by decide +kernel
theorem dX2_decode_21 : decode cX2_decode 21 = .ok (.aload_n 0, 1) := by decide +kernel
theorem dX2_decode_22 : decode cX2_decode 22 = .ok (.aload_n 0, 1) := by decide +kernel
theorem dX2_decode_23 : decode cX2_decode 23 = .ok (.getfield 77, 3) := by decide +kernel
theorem dX2_decode_26 : decode cX2_decode 26 = .ok (.iconst 5, 1) := by decide +kernel
theorem dX2_decode_27 : decode cX2_decode 27 = .ok (.invokestatic 130, 3) := by decide +kernel
theorem dX2_decode_30 : decode cX2_decode 30 = .ok (.putfield 84, 3) := by decide +kernel
theorem dX2_decode_33 : decode cX2_decode 33 = .ok (.iload_n 1, 1) := by decide +kernel
theorem dX2_decode_34 : decode cX2_decode 34 = .ok (.bipush 6, 2) := by decide +kernel
theorem dX2_decode_36 : decode cX2_decode 36 = .ok (.if_icmp .gt 17, 3) := by decide +kernel
theorem dX2_decode_39 : decode cX2_decode 39 = .ok (.aload_n 0, 1) := by decide +kernel
theorem dX2_decode_4 : decode cX2_decode 4 = .ok (.iconst 3, 1) := by decide +kernel
theorem dX2_decode_40 : decode cX2_decode 40 = .ok (.getfield 84, 3) := by decide +kernel
theorem dX2_decode_43 : decode cX2_decode 43 = .ok (.aload_n 0, 1) := by decide +kernel
theorem dX2_decode_44 : decode cX2_decode 44 = .ok (.getfield 87, 3) := by decide +kernel
theorem dX2_decode_47 : decode cX2_decode 47 = .ok (.invokestatic 139, 3) := by decide +kernel
theorem dX2_decode_5 : decode cX2_decode 5 = .ok (.invokestatic 130, 3) := by decide +kernel
theorem dX2_decode_50 : decode cX2_decode 50 = .ok (.ifCond .ge 5, 3) := by decide +kernel
theorem dX2_decode_53 : decode cX2_decode 53 = .ok (.iconst 0, 1) := by decide +kernel
theorem dX2_decode_54 : decode cX2_decode 54 = .ok (.ireturn, 1) := by decide +kernel
theorem dX2_decode_55 : decode cX2_decode 55 = .ok (.aload_n 0, 1) := by decide +kernel
theorem dX2_decode_56 : decode cX2_decode 56 = .ok (.getfield 77, 3) := by decide +kernel
theorem dX2_decode_59 : decode cX2_decode 59 = .ok (.bipush 18, 2) := by decide +kernel
theorem dX2_decode_61 : decode cX2_decode 61 = .ok (.ishr, 1) := by decide +kernel
theorem dX2_decode_62 : decode cX2_decode 62 = .ok (.sipush 4095, 3) := by decide +kernel
theorem dX2_decode_65 : decode cX2_decode 65 = .ok (.iand, 1) := by decide +kernel
theorem dX2_decode_66 : decode cX2_decode 66 = .ok (.istore_n 2, 1) := by decide +kernel
theorem dX2_decode_67 : decode cX2_decode 67 = .ok (.aload_n 0, 1) := by decide +kernel
theorem dX2_decode_68 : decode cX2_decode 68 = .ok (.aload_n 0, 1) := by decide +kernel
theorem dX2_decode_69 : decode cX2_decode 69 = .ok (.getfield 77, 3) := by decide +kernel
theorem dX2_decode_72 : decode cX2_decode 72 = .ok (.ldc 124, 2) := by decide +kernel
theorem dX2_decode_74 : decode cX2_decode 74 = .ok (.iand, 1) := by decide +kernel
theorem dX2_decode_75 : decode cX2_decode 75 = .ok (.ifCond .eq 8, 3) := by decide +kernel
theorem dX2_decode_78 : decode cX2_decode 78 = .ok (.iload_n 2, 1) := by decide +kernel
theorem dX2_decode_79 : decode cX2_decode 79 = .ok (.ineg, 1) := by decide +kernel
theorem dX2_decode_8 : decode cX2_decode 8 = .ok (.istore_n 1, 1) := by decide +kernel
theorem dX2_decode_80 : decode cX2_decode 80 = .ok (.goto 4, 3) := by decide +kernel
theorem dX2_decode_83 : decode cX2_decode 83 = .ok (.iload_n 2, 1) := by decide +kernel
theorem dX2_decode_84 : decode cX2_decode 84 = .ok (.putfield 142, 3) := by decide +kernel
theorem dX2_decode_87 : decode cX2_decode 87 = .ok (.iload_n 1, 1) := by decide +kernel
theorem dX2_decode_88 : decode cX2_decode 88 = .ok (.ifCond .le 21, 3) := by decide +kernel
theorem dX2_decode_9 : decode cX2_decode 9 = .ok (.aload_n 0, 1) := by decide +kernel
theorem dX2_decode_91 : decode cX2_decode 91 = .ok (.aload_n 0, 1) := by decide +kernel
theorem dX2_decode_92 : decode cX2_decode 92 = .ok (.dup, 1) := by decide +kernel
theorem dX2_decode_93 : decode cX2_decode 93 = .ok (.getfield 142, 3) := by decide +kernel
theorem dX2_decode_96 : decode cX2_decode 96 = .ok (.aload_n 0, 1) := by decide +kernel
theorem dX2_decode_97 : decode cX2_decode 97 = .ok (.getfield 11, 3) := by decide +kernel
set_option maxHeartbeats 4000000 in
set_option maxRecDepth 100000 in
theorem T_X2_decode (l : Launch) (D : va_G) (K : Nat → ClassId) (Z Y : Nat → Nat) (ad : Nat → Nat) (d : dSt) (t : tSt) (hok : okX t)  : tMet l yX2_decode cX2_decode 3 (some .boolean) (rmD 1 0 0) D K Z Y [.ref (ad 4)] ((WX d) K ad t) (QI D K (fun (r : Int32) (u : tSt) => okX u ∧ frA [(4, 13), (4, 14), (4, 15)] [] [] [] t u ∧ (0 : Int) ≤ r.toInt ∧ r.toInt ≤ 1) (fun (u : tSt) => (WX d) K ad u)) 0 0 := by
  refine t_met RX2 ⟨rfl, by decide +kernel⟩ (Nat.le_of_ble_eq_true rfl) ?_
  intro p e s m below meth c A ls C hE hZ hr hlocks hA hP hD hS hl
  have hl : lv_has ls 3 [(0, .ref (ad 4))] := hl
  have hokt := hok
  have hfr : frA [(4, 13), (4, 14), (4, 15)] [] [] [] t t := frA_rf
  have L_109 : ∀ (t1 : tSt) (w109_1 : Int32) (w109_2 : Int32) (H : Heap) (locs : List Loc) (ls : Array Slot), okX t1 → frA [(4, 13), (4, 14), (4, 15)] [] [] [] t t1 → (0 : Int) ≤ w109_1.toInt ∧ w109_1.toInt ≤ 6 → (0 : Int) ≤ w109_2.toInt ∧ w109_2.toInt ≤ 4095 → (-1073745919 : Int) ≤ (t1.1 4 15).toInt ∧ (t1.1 4 15).toInt ≤ 1073745918 → va_P D vwCl ((WX d) K ad t1) H → va_D A ((WX d) K ad t1) → va_S A s.heap H locs → lv_has ls 3 [(0, .ref (ad 4)), (1, .int w109_1), (2, .int w109_2)] → W p l e (rmD 1 0 0) s m [.ref (ad 4)].toArray below meth c H locs 0 0 (MQ below (QI D K (fun (r : Int32) (u : tSt) => okX u ∧ frA [(4, 13), (4, 14), (4, 15)] [] [] [] t u ∧ (0 : Int) ≤ r.toInt ∧ r.toInt ≤ 1) (fun (u : tSt) => (WX d) K ad u) A) [.ref (ad 4)].toArray s 0 0 A) (F0 m 109 ls []) := by
    intro t1 w109_1 w109_2 H locs ls hok hfr hw109_1 hw109_2 hf109_15 hP hD hS hl
    refine lv_aload_n C.1 C.2.1 dX2_decode_109 rfl (lv_at hl 0 rfl) ?_
    have h_1 : (0 : Int) ≤ (t1.1 4 13).toInt ∧ (t1.1 4 13).toInt ≤ 63 := hok.1 4 13
    refine k_get (v := .int (t1.1 4 13)) C hP 4 rfl rfl inlX2 13 (by decide) m_45_18 rfl dX2_decode_110 ?_
    refine lv_iconst (v := 5) C.1 C.2.1 dX2_decode_113 (by decide) ?_
    refine lv_icmp_ne (tgt := 132) C.1 C.2.1 dX2_decode_114 (by decide) (fun c_2 => ?_) (fun c_2 => ?_)
    · replace c_2 : ¬ (t1.1 4 13).toInt = 5 := i_ne c_2
      refine lv_iconst (v := 1) C.1 C.2.1 dX2_decode_132 (by decide) ?_
      refine lv_goto (tgt := 137) C.1 C.2.1 dX2_decode_133 (by decide) ?_
      exact g_iret C hr hlocks hP hD hS (by decide) t1 rfl ⟨hok, hfr, by decide, by decide⟩ (Nat.le_of_ble_eq_true rfl) (Nat.le_of_ble_eq_true rfl) dX2_decode_137
    · replace c_2 : (t1.1 4 13).toInt = 5 := i_eq c_2
      refine lv_aload_n C.1 C.2.1 dX2_decode_117 rfl (lv_at hl 0 rfl) ?_
      have h_3 : (0 : Int) ≤ (t1.1 4 14).toInt ∧ (t1.1 4 14).toInt ≤ 63 := hok.1 4 14
      refine k_get (v := .int (t1.1 4 14)) C hP 4 rfl rfl inlX2 14 (by decide) m_45_19 rfl dX2_decode_118 ?_
      refine lv_iconst (v := 3) C.1 C.2.1 dX2_decode_121 (by decide) ?_
      refine lv_icmp_ne (tgt := 132) C.1 C.2.1 dX2_decode_122 (by decide) (fun c_4 => ?_) (fun c_4 => ?_)
      · replace c_4 : ¬ (t1.1 4 14).toInt = 3 := i_ne c_4
        refine lv_iconst (v := 1) C.1 C.2.1 dX2_decode_132 (by decide) ?_
        refine lv_goto (tgt := 137) C.1 C.2.1 dX2_decode_133 (by decide) ?_
        exact g_iret C hr hlocks hP hD hS (by decide) t1 rfl ⟨hok, hfr, by decide, by decide⟩ (Nat.le_of_ble_eq_true rfl) (Nat.le_of_ble_eq_true rfl) dX2_decode_137
      · replace c_4 : (t1.1 4 14).toInt = 3 := i_eq c_4
        refine lv_aload_n C.1 C.2.1 dX2_decode_125 rfl (lv_at hl 0 rfl) ?_
        have h_5 : (0 : Int) ≤ (t1.1 4 10).toInt ∧ (t1.1 4 10).toInt ≤ 1 := hok.1 4 10
        refine k_get (v := .int (t1.1 4 10)) C hP 4 rfl rfl inlX2 10 (by decide) m_11_9 rfl dX2_decode_126 ?_
        refine lv_if_eq (tgt := 136) C.1 C.2.1 dX2_decode_129 (by decide) (fun c_6 => ?_) (fun c_6 => ?_)
        · replace c_6 : (t1.1 4 10).toInt = 0 := i_eq c_6
          refine lv_iconst (v := 0) C.1 C.2.1 dX2_decode_136 (by decide) ?_
          exact g_iret C hr hlocks hP hD hS (by decide) t1 rfl ⟨hok, hfr, by decide, by decide⟩ (Nat.le_of_ble_eq_true rfl) (Nat.le_of_ble_eq_true rfl) dX2_decode_137
        · replace c_6 : ¬ (t1.1 4 10).toInt = 0 := i_ne c_6
          refine lv_iconst (v := 1) C.1 C.2.1 dX2_decode_132 (by decide) ?_
          refine lv_goto (tgt := 137) C.1 C.2.1 dX2_decode_133 (by decide) ?_
          exact g_iret C hr hlocks hP hD hS (by decide) t1 rfl ⟨hok, hfr, by decide, by decide⟩ (Nat.le_of_ble_eq_true rfl) (Nat.le_of_ble_eq_true rfl) dX2_decode_137
  have L_84 : ∀ (t1 : tSt) (w84_1 : Int32) (w84_2 : Int32) (k84_1 : Int32) (H : Heap) (locs : List Loc) (ls : Array Slot), okX t1 → frA [(4, 13), (4, 14), (4, 15)] [] [] [] t t1 → (0 : Int) ≤ w84_1.toInt ∧ w84_1.toInt ≤ 6 → (0 : Int) ≤ w84_2.toInt ∧ w84_2.toInt ≤ 4095 → (-4095 : Int) ≤ k84_1.toInt ∧ k84_1.toInt ≤ 4095 → va_P D vwCl ((WX d) K ad t1) H → va_D A ((WX d) K ad t1) → va_S A s.heap H locs → lv_has ls 3 [(0, .ref (ad 4)), (1, .int w84_1), (2, .int w84_2)] → W p l e (rmD 1 0 0) s m [.ref (ad 4)].toArray below meth c H locs 0 0 (MQ below (QI D K (fun (r : Int32) (u : tSt) => okX u ∧ frA [(4, 13), (4, 14), (4, 15)] [] [] [] t u ∧ (0 : Int) ≤ r.toInt ∧ r.toInt ≤ 1) (fun (u : tSt) => (WX d) K ad u) A) [.ref (ad 4)].toArray s 0 0 A) (F0 m 84 ls [.int k84_1, .ref (ad 4)]) := by
    intro t1 w84_1 w84_2 k84_1 H locs ls hok hfr hw84_1 hw84_2 hk84_1 hP hD hS hl
    refine k_put (ws' := (WX d) K ad (uI t1 4 15 k84_1)) (v := .int k84_1) C hP hD hS 4 rfl rfl inlX2 tyX2_ok nmX2 15 (by decide) m_47_12 rfl rfl rfl rfl rfl dX2_decode_84 (fun H locs hP hD hS => ?_)
    have hok : okX (uI t1 4 15 k84_1) := ⟨okI_I hok.1 4 15 k84_1 (show (-2147483648 : Int) ≤ (k84_1 : Int32).toInt ∧ (k84_1 : Int32).toInt ≤ 1073745919 from ⟨(i_rng _).1, by omega⟩), hok.2.1, trivial⟩
    have hfr : frA [(4, 13), (4, 14), (4, 15)] [] [] [] t (uI t1 4 15 k84_1) := frA_I hfr 4 15 _ rfl
    refine lv_iload_n C.1 C.2.1 dX2_decode_87 rfl (lv_at hl 1 rfl) ?_
    refine lv_if_le (tgt := 109) C.1 C.2.1 dX2_decode_88 (by decide) (fun c_7 => ?_) (fun c_7 => ?_)
    · replace c_7 : w84_1.toInt ≤ 0 := i_le c_7
      exact L_109 (uI t1 4 15 k84_1) w84_1 w84_2 _ _ _ hok hfr ⟨by omega, by omega⟩ ⟨by omega, by omega⟩ (show (-1073745919 : Int) ≤ (k84_1 : Int32).toInt ∧ (k84_1 : Int32).toInt ≤ 1073745918 from ⟨by omega, by omega⟩) hP hD hS (lv_sub hl [0, 1, 2] rfl)
    · replace c_7 : 0 < w84_1.toInt := i_nle c_7
      refine lv_aload_n C.1 C.2.1 dX2_decode_91 rfl (lv_at hl 0 rfl) ?_
      refine lv_dup C.1 C.2.1 dX2_decode_92 rfl ?_
      refine k_get (v := .int k84_1) C hP 4 rfl rfl inlX2 15 (by decide) m_47_12 rfl dX2_decode_93 ?_
      refine lv_aload_n C.1 C.2.1 dX2_decode_96 rfl (lv_at hl 0 rfl) ?_
      refine k_get (v := .ref (ad 22)) C hP 4 rfl rfl inlX2 1 (by decide) m_4_16 rfl dX2_decode_97 ?_
      refine lv_iload_n C.1 C.2.1 dX2_decode_100 rfl (lv_at hl 1 rfl) ?_
      obtain ⟨v_8, e_9⟩ : ∃ z, z = (t1.2.2.1 22 (w84_1 : Int32).toNatClampNeg) := ⟨_, rfl⟩
      refine k_ild (v := v_8) C hP 22 rfl (vp_in_iff.mpr ⟨by omega, by omega⟩) e_9.symm dX2_decode_101 ?_
      refine g_Si (As := [.int v_8]) (rest := [.int k84_1, .ref (ad 4)]) C hP hD hS hA (T_X1_value l D K Z Y ad d (uI t1 4 15 k84_1) hok (v_8)) hE hZ (uwS m_47_19 m_23_9 m_14_2 m_23_10) (hdS 1 (by decide +kernel) rfl) ⟨Nat.le_of_ble_eq_true rfl, Nat.le_of_ble_eq_true rfl⟩ rfl rfl rfl hl.1 (Nat.le_of_ble_eq_true rfl) dX2_decode_102 ⟨Nat.le_of_ble_eq_true rfl, Nat.le_of_ble_eq_true rfl⟩ (fun r_11 t_10 H locs hw hP hD hS => ?_)
      obtain ⟨h_13, h_14⟩ := hw
      obtain ⟨v_15, e_16⟩ : ∃ z, z = (k84_1 : Int32) + (r_11 : Int32) := ⟨_, rfl⟩
      have h_17 : v_15.toInt = k84_1.toInt + r_11.toInt := by rw [e_16]; exact ti_iadd (by show (_ : Int) ≤ k84_1.toInt + r_11.toInt; omega) (by show k84_1.toInt + r_11.toInt < (_ : Int); omega)
      refine k_iadd (v := v_15) C e_16.symm dX2_decode_105 ?_
      refine k_put (ws' := (WX d) K ad (uI (uI t1 4 15 k84_1) 4 15 v_15)) (v := .int v_15) C hP hD hS 4 rfl rfl inlX2 tyX2_ok nmX2 15 (by decide) m_47_12 rfl rfl rfl rfl rfl dX2_decode_106 (fun H locs hP hD hS => ?_)
      have hok : okX (uI (uI t1 4 15 k84_1) 4 15 v_15) := ⟨okI_I hok.1 4 15 v_15 (show (-2147483648 : Int) ≤ (v_15 : Int32).toInt ∧ (v_15 : Int32).toInt ≤ 1073745919 from ⟨(i_rng _).1, by omega⟩), hok.2.1, trivial⟩
      have hfr : frA [(4, 13), (4, 14), (4, 15)] [] [] [] t (uI (uI t1 4 15 k84_1) 4 15 v_15) := frA_I hfr 4 15 _ rfl
      exact L_109 (uI (uI t1 4 15 k84_1) 4 15 v_15) w84_1 w84_2 _ _ _ hok hfr ⟨by omega, by omega⟩ ⟨by omega, by omega⟩ (show (-1073745919 : Int) ≤ (v_15 : Int32).toInt ∧ (v_15 : Int32).toInt ≤ 1073745918 from ⟨by omega, by omega⟩) hP hD hS (lv_sub hl [0, 1, 2] rfl)
  refine lv_aload_n C.1 C.2.1 dX2_decode_0 rfl (lv_at hl 0 rfl) ?_
  refine k_get (v := .int (t.1 4 11)) C hP 4 rfl rfl inlX2 11 (by decide) m_45_17 rfl dX2_decode_1 ?_
  refine lv_iconst (v := 3) C.1 C.2.1 dX2_decode_4 (by decide) ?_
  refine g_Si (As := [.int (t.1 4 11), .int 3]) (rest := []) C hP hD hS hA (T_X1_byteOf l D K Z Y ad d t hok ((t.1 4 11)) 3 (show (1 : Int) ≤ (3 : Int32).toInt ∧ (3 : Int32).toInt ≤ 5 from ⟨by decide, by decide⟩)) hE hZ (uwS m_47_13 m_47_14 m_14_2 m_47_15) (hdS 2 (by decide +kernel) rfl) ⟨Nat.le_of_ble_eq_true rfl, Nat.le_of_ble_eq_true rfl⟩ rfl rfl rfl hl.1 (Nat.le_of_ble_eq_true rfl) dX2_decode_5 ⟨Nat.le_of_ble_eq_true rfl, Nat.le_of_ble_eq_true rfl⟩ (fun r_19 t_18 H locs hw hP hD hS => ?_)
  obtain ⟨h_21, h_22⟩ := hw
  refine lv_istore_n (lv' := [(1, .int r_19), (0, .ref (ad 4))]) C.1 C.2.1 dX2_decode_8 rfl hl (by decide) rfl (fun ls hl => ?_)
  have hl : lv_has ls 3 [(0, .ref (ad 4)), (1, .int r_19)] := lv_sub hl [1, 0] rfl
  refine lv_aload_n C.1 C.2.1 dX2_decode_9 rfl (lv_at hl 0 rfl) ?_
  refine lv_aload_n C.1 C.2.1 dX2_decode_10 rfl (lv_at hl 0 rfl) ?_
  refine k_get (v := .int (t.1 4 11)) C hP 4 rfl rfl inlX2 11 (by decide) m_45_17 rfl dX2_decode_11 ?_
  refine lv_iconst (v := 4) C.1 C.2.1 dX2_decode_14 (by decide) ?_
  refine g_Si (As := [.int (t.1 4 11), .int 4]) (rest := [.ref (ad 4)]) C hP hD hS hA (T_X1_byteOf l D K Z Y ad d t hok ((t.1 4 11)) 4 (show (1 : Int) ≤ (4 : Int32).toInt ∧ (4 : Int32).toInt ≤ 5 from ⟨by decide, by decide⟩)) hE hZ (uwS m_47_13 m_47_14 m_14_2 m_47_15) (hdS 2 (by decide +kernel) rfl) ⟨Nat.le_of_ble_eq_true rfl, Nat.le_of_ble_eq_true rfl⟩ rfl rfl rfl hl.1 (Nat.le_of_ble_eq_true rfl) dX2_decode_15 ⟨Nat.le_of_ble_eq_true rfl, Nat.le_of_ble_eq_true rfl⟩ (fun r_24 t_23 H locs hw hP hD hS => ?_)
  obtain ⟨h_26, h_27⟩ := hw
  refine k_put (ws' := (WX d) K ad (uI t 4 14 r_24)) (v := .int r_24) C hP hD hS 4 rfl rfl inlX2 tyX2_ok nmX2 14 (by decide) m_45_19 rfl rfl rfl rfl rfl dX2_decode_18 (fun H locs hP hD hS => ?_)
  have hok : okX (uI t 4 14 r_24) := ⟨okI_I hok.1 4 14 r_24 (show (0 : Int) ≤ (r_24 : Int32).toInt ∧ (r_24 : Int32).toInt ≤ 63 from ⟨by omega, by omega⟩), hok.2.1, trivial⟩
  have hfr : frA [(4, 13), (4, 14), (4, 15)] [] [] [] t (uI t 4 14 r_24) := frA_I hfr 4 14 _ rfl
  refine lv_aload_n C.1 C.2.1 dX2_decode_21 rfl (lv_at hl 0 rfl) ?_
  refine lv_aload_n C.1 C.2.1 dX2_decode_22 rfl (lv_at hl 0 rfl) ?_
  refine k_get (v := .int (t.1 4 11)) C hP 4 rfl rfl inlX2 11 (by decide) m_45_17 rfl dX2_decode_23 ?_
  refine lv_iconst (v := 5) C.1 C.2.1 dX2_decode_26 (by decide) ?_
  refine g_Si (As := [.int (t.1 4 11), .int 5]) (rest := [.ref (ad 4)]) C hP hD hS hA (T_X1_byteOf l D K Z Y ad d (uI t 4 14 r_24) hok ((t.1 4 11)) 5 (show (1 : Int) ≤ (5 : Int32).toInt ∧ (5 : Int32).toInt ≤ 5 from ⟨by decide, by decide⟩)) hE hZ (uwS m_47_13 m_47_14 m_14_2 m_47_15) (hdS 2 (by decide +kernel) rfl) ⟨Nat.le_of_ble_eq_true rfl, Nat.le_of_ble_eq_true rfl⟩ rfl rfl rfl hl.1 (Nat.le_of_ble_eq_true rfl) dX2_decode_27 ⟨Nat.le_of_ble_eq_true rfl, Nat.le_of_ble_eq_true rfl⟩ (fun r_29 t_28 H locs hw hP hD hS => ?_)
  obtain ⟨h_31, h_32⟩ := hw
  refine k_put (ws' := (WX d) K ad (uI (uI t 4 14 r_24) 4 13 r_29)) (v := .int r_29) C hP hD hS 4 rfl rfl inlX2 tyX2_ok nmX2 13 (by decide) m_45_18 rfl rfl rfl rfl rfl dX2_decode_30 (fun H locs hP hD hS => ?_)
  have hok : okX (uI (uI t 4 14 r_24) 4 13 r_29) := ⟨okI_I hok.1 4 13 r_29 (show (0 : Int) ≤ (r_29 : Int32).toInt ∧ (r_29 : Int32).toInt ≤ 63 from ⟨by omega, by omega⟩), hok.2.1, trivial⟩
  have hfr : frA [(4, 13), (4, 14), (4, 15)] [] [] [] t (uI (uI t 4 14 r_24) 4 13 r_29) := frA_I hfr 4 13 _ rfl
  refine lv_iload_n C.1 C.2.1 dX2_decode_33 rfl (lv_at hl 1 rfl) ?_
  refine lv_bipush (v := 6) C.1 C.2.1 dX2_decode_34 (by decide) ?_
  refine lv_icmp_gt (tgt := 53) C.1 C.2.1 dX2_decode_36 (by decide) (fun c_33 => ?_) (fun c_33 => ?_)
  · replace c_33 : 6 < r_19.toInt := i_lt c_33
    refine lv_iconst (v := 0) C.1 C.2.1 dX2_decode_53 (by decide) ?_
    exact g_iret C hr hlocks hP hD hS (by decide) (uI (uI t 4 14 r_24) 4 13 r_29) rfl ⟨hok, hfr, by decide, by decide⟩ (Nat.le_of_ble_eq_true rfl) (Nat.le_of_ble_eq_true rfl) dX2_decode_54
  · replace c_33 : r_19.toInt ≤ 6 := i_nlt c_33
    refine lv_aload_n C.1 C.2.1 dX2_decode_39 rfl (lv_at hl 0 rfl) ?_
    refine k_get (v := .int r_29) C hP 4 rfl rfl inlX2 13 (by decide) m_45_18 rfl dX2_decode_40 ?_
    refine lv_aload_n C.1 C.2.1 dX2_decode_43 rfl (lv_at hl 0 rfl) ?_
    refine k_get (v := .int r_24) C hP 4 rfl rfl inlX2 14 (by decide) m_45_19 rfl dX2_decode_44 ?_
    refine g_Si (As := [.int r_29, .int r_24]) (rest := []) C hP hD hS hA (T_X1_opOf l D K Z Y ad d (uI (uI t 4 14 r_24) 4 13 r_29) hok (r_29) (show (0 : Int) ≤ (r_29 : Int32).toInt ∧ (r_29 : Int32).toInt ≤ 63 from ⟨by omega, by omega⟩) (r_24) (show (0 : Int) ≤ (r_24 : Int32).toInt ∧ (r_24 : Int32).toInt ≤ 63 from ⟨by omega, by omega⟩)) hE hZ (uwS m_47_16 m_47_17 m_14_2 m_47_18) (hdS 2 (by decide +kernel) rfl) ⟨Nat.le_of_ble_eq_true rfl, Nat.le_of_ble_eq_true rfl⟩ rfl rfl rfl hl.1 (Nat.le_of_ble_eq_true rfl) dX2_decode_47 ⟨Nat.le_of_ble_eq_true rfl, Nat.le_of_ble_eq_true rfl⟩ (fun r_35 t_34 H locs hw hP hD hS => ?_)
    obtain ⟨h_37, h_38⟩ := hw
    refine lv_if_ge (tgt := 55) C.1 C.2.1 dX2_decode_50 (by decide) (fun c_39 => ?_) (fun c_39 => ?_)
    · replace c_39 : 0 ≤ r_35.toInt := i_le c_39
      refine lv_aload_n C.1 C.2.1 dX2_decode_55 rfl (lv_at hl 0 rfl) ?_
      refine k_get (v := .int (t.1 4 11)) C hP 4 rfl rfl inlX2 11 (by decide) m_45_17 rfl dX2_decode_56 ?_
      refine lv_bipush (v := 18) C.1 C.2.1 dX2_decode_59 (by decide) ?_
      obtain ⟨v_40, e_41⟩ : ∃ z, z = ((t.1 4 11) : Int32) >>> ((18 : Int32) &&& 31) := ⟨_, rfl⟩
      have h_42 : v_40.toInt = (t.1 4 11).toInt / 2 ^ 18 := by rw [e_41]; exact Jvm.Kit.i32_shr _ _ (k := 18) (by decide)
      refine k_ishr (v := v_40) C e_41.symm dX2_decode_61 ?_
      refine lv_sipush (v := 4095) C.1 C.2.1 dX2_decode_62 (by decide) ?_
      obtain ⟨v_43, e_44⟩ : ∃ z, z = (v_40 : Int32) &&& (4095 : Int32) := ⟨_, rfl⟩
      have h_45 : v_43.toInt = v_40.toInt % 2 ^ 12 := by rw [e_44]; exact Jvm.Kit.i32_mask _ _ (k := 12) (by decide) (by decide)
      refine k_iand (v := v_43) C e_44.symm dX2_decode_65 ?_
      refine lv_istore_n (lv' := [(2, .int v_43), (0, .ref (ad 4)), (1, .int r_19)]) C.1 C.2.1 dX2_decode_66 rfl hl (by decide) rfl (fun ls hl => ?_)
      have hl : lv_has ls 3 [(0, .ref (ad 4)), (1, .int r_19), (2, .int v_43)] := lv_sub hl [1, 2, 0] rfl
      refine lv_aload_n C.1 C.2.1 dX2_decode_67 rfl (lv_at hl 0 rfl) ?_
      refine lv_aload_n C.1 C.2.1 dX2_decode_68 rfl (lv_at hl 0 rfl) ?_
      refine k_get (v := .int (t.1 4 11)) C hP 4 rfl rfl inlX2 11 (by decide) m_45_17 rfl dX2_decode_69 ?_
      refine lv_ldc (v := 1073741824) C.1 C.2.1 C.2.2.2.1 (C.2.2.2.2.1 _ m_47_11) dX2_decode_72 ?_
      obtain ⟨v_46, e_47⟩ : ∃ z, z = ((t.1 4 11) : Int32) &&& (1073741824 : Int32) := ⟨_, rfl⟩
      have h_48 : (0 : Int) ≤ v_46.toInt ∧ v_46.toInt ≤ 1073741824 := by rw [e_47]; exact z_and _ (k := 1073741824) (by decide) (by decide)
      refine k_iand (v := v_46) C e_47.symm dX2_decode_74 ?_
      refine lv_if_eq (tgt := 83) C.1 C.2.1 dX2_decode_75 (by decide) (fun c_49 => ?_) (fun c_49 => ?_)
      · replace c_49 : v_46.toInt = 0 := i_eq c_49
        refine lv_iload_n C.1 C.2.1 dX2_decode_83 rfl (lv_at hl 2 rfl) ?_
        exact L_84 (uI (uI t 4 14 r_24) 4 13 r_29) r_19 v_43 v_43 _ _ _ hok hfr ⟨by omega, by omega⟩ ⟨by omega, by omega⟩ ⟨by omega, by omega⟩ hP hD hS (lv_sub hl [0, 1, 2] rfl)
      · replace c_49 : ¬ v_46.toInt = 0 := i_ne c_49
        refine lv_iload_n C.1 C.2.1 dX2_decode_78 rfl (lv_at hl 2 rfl) ?_
        obtain ⟨v_50, e_51⟩ : ∃ z, z = -(v_43 : Int32) := ⟨_, rfl⟩
        have h_52 : v_50.toInt = -v_43.toInt := by rw [e_51]; exact Jvm.Kit.i32_neg (by show ¬ v_43.toInt = (_ : Int); omega)
        refine k_ineg (v := v_50) C e_51.symm dX2_decode_79 ?_
        refine lv_goto (tgt := 84) C.1 C.2.1 dX2_decode_80 (by decide) ?_
        exact L_84 (uI (uI t 4 14 r_24) 4 13 r_29) r_19 v_43 v_50 _ _ _ hok hfr ⟨by omega, by omega⟩ ⟨by omega, by omega⟩ ⟨by omega, by omega⟩ hP hD hS (lv_sub hl [0, 1, 2] rfl)
    · replace c_39 : r_35.toInt < 0 := i_nle c_39
      refine lv_iconst (v := 0) C.1 C.2.1 dX2_decode_53 (by decide) ?_
      exact g_iret C hr hlocks hP hD hS (by decide) (uI (uI t 4 14 r_24) 4 13 r_29) rfl ⟨hok, hfr, by decide, by decide⟩ (Nat.le_of_ble_eq_true rfl) (Nat.le_of_ble_eq_true rfl) dX2_decode_54

theorem dX5_labelKind_0 : decode cX5_labelKind 0 = .ok (.aload_n 0, 1) := by decide +kernel
theorem dX5_labelKind_1 : decode cX5_labelKind 1 = .ok (.iconst 0, 1) := by decide +kernel
theorem dX5_labelKind_10 : decode cX5_labelKind 10 = .ok (.aload_n 0, 1) := by decide +kernel
theorem dX5_labelKind_11 : decode cX5_labelKind 11 = .ok (.invokevirtual 35, 3) := by decide +kernel
theorem dX5_labelKind_14 : decode cX5_labelKind 14 = .ok (.istore_n 2, 1) := by decide +kernel
theorem dX5_labelKind_15 : decode cX5_labelKind 15 = .ok (.aload_n 0, 1) := by decide +kernel
theorem dX5_labelKind_16 : decode cX5_labelKind 16 = .ok (.invokevirtual 39, 3) := by decide +kernel
theorem dX5_labelKind_19 : decode cX5_labelKind 19 = .ok (.ifCond .eq 17, 3) := by decide +kernel
theorem dX5_labelKind_2 : decode cX5_labelKind 2 = .ok (.putfield 19, 3) := by decide +kernel
theorem dX5_labelKind_22 : decode cX5_labelKind 22 = .ok (.iload_n 2, 1) := by decide +kernel
theorem dX5_labelKind_23 : decode cX5_labelKind 23 = .ok (.iconst 2, 1) := by decide +kernel
theorem dX5_labelKind_24 : decode cX5_labelKind 24 = .ok (.if_icmp .eq 8, 3) := by decide +kernel
theorem dX5_labelKind_27 : decode cX5_labelKind 27 = .ok (.iload_n 2, 1) := by decide +kernel
theorem dX5_labelKind_28 : decode cX5_labelKind 28 = .ok (.iconst 3, 1) := by decide +kernel
theorem dX5_labelKind_29 : decode cX5_labelKind 29 = .ok (.if_icmp .ne 7, 3) := by decide +kernel
theorem dX5_labelKind_32 : decode cX5_labelKind 32 = .ok (.iload_n 2, 1) := by decide +kernel
theorem dX5_labelKind_33 : decode cX5_labelKind 33 = .ok (.goto 4, 3) := by decide +kernel
theorem dX5_labelKind_36 : decode cX5_labelKind 36 = .ok (.iconst 0, 1) := by decide +kernel
theorem dX5_labelKind_37 : decode cX5_labelKind 37 = .ok (.ireturn, 1) := by decide +kernel
theorem dX5_labelKind_5 : decode cX5_labelKind 5 = .ok (.aload_n 0, 1) := by decide +kernel
theorem dX5_labelKind_6 : decode cX5_labelKind 6 = .ok (.iload_n 1, 1) := by decide +kernel
theorem dX5_labelKind_7 : decode cX5_labelKind 7 = .ok (.putfield 23, 3) := by decide +kernel
set_option maxHeartbeats 4000000 in
set_option maxRecDepth 100000 in
theorem T_X5_labelKind (l : Launch) (D : va_G) (K : Nat → ClassId) (Z Y : Nat → Nat) (ad : Nat → Nat) (d : dSt) (t : tSt) (hok : okX t) (x1 : Int32) (hx1 : (-1 : Int) ≤ x1.toInt ∧ x1.toInt ≤ 15) : tMet l yX5_labelKind cX5_labelKind 3 (some .int) (rmD 1 0 0) D K Z Y [.ref (ad 24), .int x1] ((WX d) K ad t) (QI D K (fun (r : Int32) (u : tSt) => okX u ∧ frA [(24, 2), (24, 3), (24, 8)] [(24, 7), (24, 9)] [] [] t u ∧ (0 : Int) ≤ r.toInt ∧ r.toInt ≤ 3) (fun (u : tSt) => (WX d) K ad u)) 0 0 := by
  refine t_met RX5 ⟨rfl, by decide +kernel⟩ (Nat.le_of_ble_eq_true rfl) ?_
  intro p e s m below meth c A ls C hE hZ hr hlocks hA hP hD hS hl
  have hl : lv_has ls 3 [(0, .ref (ad 24)), (1, .int x1)] := hl
  have hokt := hok
  have hfr : frA [(24, 2), (24, 3), (24, 8)] [(24, 7), (24, 9)] [] [] t t := frA_rf
  refine lv_aload_n C.1 C.2.1 dX5_labelKind_0 rfl (lv_at hl 0 rfl) ?_
  refine lv_iconst (v := 0) C.1 C.2.1 dX5_labelKind_1 (by decide) ?_
  refine k_put (ws' := (WX d) K ad (uI t 24 2 0)) (v := .int 0) C hP hD hS 24 rfl rfl inlX5 tyX5_ok nmX5 2 (by decide) m_19_9 rfl rfl rfl rfl rfl dX5_labelKind_2 (fun H locs hP hD hS => ?_)
  have hok : okX (uI t 24 2 0) := ⟨okI_I hok.1 24 2 0 (show (0 : Int) ≤ (0 : Int32).toInt ∧ (0 : Int32).toInt ≤ 81 from ⟨by decide, by decide⟩), hok.2.1, trivial⟩
  have hfr : frA [(24, 2), (24, 3), (24, 8)] [(24, 7), (24, 9)] [] [] t (uI t 24 2 0) := frA_I hfr 24 2 _ rfl
  refine lv_aload_n C.1 C.2.1 dX5_labelKind_5 rfl (lv_at hl 0 rfl) ?_
  refine lv_iload_n C.1 C.2.1 dX5_labelKind_6 rfl (lv_at hl 1 rfl) ?_
  refine k_put (ws' := (WX d) K ad (uI (uI t 24 2 0) 24 3 x1)) (v := .int x1) C hP hD hS 24 rfl rfl inlX5 tyX5_ok nmX5 3 (by decide) m_19_10 rfl rfl rfl rfl rfl dX5_labelKind_7 (fun H locs hP hD hS => ?_)
  have hok : okX (uI (uI t 24 2 0) 24 3 x1) := ⟨okI_I hok.1 24 3 x1 (show (-1 : Int) ≤ (x1 : Int32).toInt ∧ (x1 : Int32).toInt ≤ 80 from ⟨by omega, by omega⟩), hok.2.1, trivial⟩
  have hfr : frA [(24, 2), (24, 3), (24, 8)] [(24, 7), (24, 9)] [] [] t (uI (uI t 24 2 0) 24 3 x1) := frA_I hfr 24 3 _ rfl
  refine lv_aload_n C.1 C.2.1 dX5_labelKind_10 rfl (lv_at hl 0 rfl) ?_
  refine g_Vi (As := []) (rest := []) C hP hD hS hA (T_X5_token l D K Z Y ad d (uI (uI t 24 2 0) 24 3 x1) hok ) hE hZ (uwV m_19_11 m_19_12 m_19_13 m_5_22 m_19_14) (hdV 0 (by decide +kernel) rfl) ⟨Nat.le_of_ble_eq_true rfl, Nat.le_of_ble_eq_true rfl⟩ rfl rfl (ci := 4) (q0 := 24) rfl rfl rfl hl.1 (Nat.le_of_ble_eq_true rfl) dX5_labelKind_11 ⟨Nat.le_of_ble_eq_true rfl, Nat.le_of_ble_eq_true rfl⟩ (fun r_2 t_1 H locs hw hP hD hS => ?_)
  obtain ⟨hok, f_3, h_4, h_5⟩ := hw
  have hfr : frA [(24, 2), (24, 3), (24, 8)] [(24, 7), (24, 9)] [] [] t t_1 := frA_tr hfr f_3 rfl
  have h_6 : (t_1.1 24 3).toInt = x1.toInt := ti_eq (f_3.1 24 3 rfl)
  refine lv_istore_n (lv' := [(2, .int r_2), (0, .ref (ad 24)), (1, .int x1)]) C.1 C.2.1 dX5_labelKind_14 rfl hl (by decide) rfl (fun ls hl => ?_)
  have hl : lv_has ls 3 [(0, .ref (ad 24)), (1, .int x1), (2, .int r_2)] := lv_sub hl [1, 2, 0] rfl
  refine lv_aload_n C.1 C.2.1 dX5_labelKind_15 rfl (lv_at hl 0 rfl) ?_
  refine g_Vi (As := []) (rest := []) C hP hD hS hA (T_X5_isAtEnd l D K Z Y ad d t_1 hok ) hE hZ (uwV m_19_20 m_19_21 m_19_22 m_5_22 m_19_23) (hdV 0 (by decide +kernel) rfl) ⟨Nat.le_of_ble_eq_true rfl, Nat.le_of_ble_eq_true rfl⟩ rfl rfl (ci := 4) (q0 := 24) rfl rfl rfl hl.1 (Nat.le_of_ble_eq_true rfl) dX5_labelKind_16 ⟨Nat.le_of_ble_eq_true rfl, Nat.le_of_ble_eq_true rfl⟩ (fun r_8 t_7 H locs hw hP hD hS => ?_)
  obtain ⟨h_10, h_11⟩ := hw
  refine lv_if_eq (tgt := 36) C.1 C.2.1 dX5_labelKind_19 (by decide) (fun c_12 => ?_) (fun c_12 => ?_)
  · replace c_12 : r_8.toInt = 0 := i_eq c_12
    refine lv_iconst (v := 0) C.1 C.2.1 dX5_labelKind_36 (by decide) ?_
    exact g_iret C hr hlocks hP hD hS rfl t_1 rfl ⟨hok, hfr, by decide, by decide⟩ (Nat.le_of_ble_eq_true rfl) (Nat.le_of_ble_eq_true rfl) dX5_labelKind_37
  · replace c_12 : ¬ r_8.toInt = 0 := i_ne c_12
    refine lv_iload_n C.1 C.2.1 dX5_labelKind_22 rfl (lv_at hl 2 rfl) ?_
    refine lv_iconst (v := 2) C.1 C.2.1 dX5_labelKind_23 (by decide) ?_
    refine lv_icmp_eq (tgt := 32) C.1 C.2.1 dX5_labelKind_24 (by decide) (fun c_13 => ?_) (fun c_13 => ?_)
    · replace c_13 : r_2.toInt = 2 := i_eq c_13
      refine lv_iload_n C.1 C.2.1 dX5_labelKind_32 rfl (lv_at hl 2 rfl) ?_
      refine lv_goto (tgt := 37) C.1 C.2.1 dX5_labelKind_33 (by decide) ?_
      exact g_iret C hr hlocks hP hD hS rfl t_1 rfl ⟨hok, hfr, by omega, by omega⟩ (Nat.le_of_ble_eq_true rfl) (Nat.le_of_ble_eq_true rfl) dX5_labelKind_37
    · replace c_13 : ¬ r_2.toInt = 2 := i_ne c_13
      refine lv_iload_n C.1 C.2.1 dX5_labelKind_27 rfl (lv_at hl 2 rfl) ?_
      refine lv_iconst (v := 3) C.1 C.2.1 dX5_labelKind_28 (by decide) ?_
      refine lv_icmp_ne (tgt := 36) C.1 C.2.1 dX5_labelKind_29 (by decide) (fun c_14 => ?_) (fun c_14 => ?_)
      · replace c_14 : ¬ r_2.toInt = 3 := i_ne c_14
        refine lv_iconst (v := 0) C.1 C.2.1 dX5_labelKind_36 (by decide) ?_
        exact g_iret C hr hlocks hP hD hS rfl t_1 rfl ⟨hok, hfr, by decide, by decide⟩ (Nat.le_of_ble_eq_true rfl) (Nat.le_of_ble_eq_true rfl) dX5_labelKind_37
      · replace c_14 : r_2.toInt = 3 := i_eq c_14
        refine lv_iload_n C.1 C.2.1 dX5_labelKind_32 rfl (lv_at hl 2 rfl) ?_
        refine lv_goto (tgt := 37) C.1 C.2.1 dX5_labelKind_33 (by decide) ?_
        exact g_iret C hr hlocks hP hD hS rfl t_1 rfl ⟨hok, hfr, by omega, by omega⟩ (Nat.le_of_ble_eq_true rfl) (Nat.le_of_ble_eq_true rfl) dX5_labelKind_37

theorem dX3_openBody_0 : decode cX3_openBody 0 = .ok (.aload_n 0, 1) := by decide +kernel
theorem dX3_openBody_1 : decode cX3_openBody 1 = .ok (.iconst 0, 1) := by decide +kernel
theorem dX3_openBody_10 : decode cX3_openBody 10 = .ok (.getfield 60, 3) := by decide +kernel
theorem dX3_openBody_13 : decode cX3_openBody 13 = .ok (.putfield 69, 3) := by decide +kernel
theorem dX3_openBody_16 : decode cX3_openBody 16 = .ok (.aload_n 0, 1) := by decide +kernel
theorem dX3_openBody_17 : decode cX3_openBody 17 = .ok (.ldc 49, 2) := by decide +kernel
theorem dX3_openBody_19 : decode cX3_openBody 19 = .ok (.invokevirtual 51, 3) := by decide +kernel
theorem dX3_openBody_2 : decode cX3_openBody 2 = .ok (.putfield 66, 3) := by decide +kernel
theorem dX3_openBody_22 : decode cX3_openBody 22 = .ok (.ifCond .eq 8, 3) := by decide +kernel
theorem dX3_openBody_25 : decode cX3_openBody 25 = .ok (.aload_n 0, 1) := by decide +kernel
theorem dX3_openBody_26 : decode cX3_openBody 26 = .ok (.invokevirtual 55, 3) := by decide +kernel
theorem dX3_openBody_29 : decode cX3_openBody 29 = .ok (.ireturn, 1) := by decide +kernel
theorem dX3_openBody_30 : decode cX3_openBody 30 = .ok (.aload_n 0, 1) := by decide +kernel
theorem dX3_openBody_31 : decode cX3_openBody 31 = .ok (.ldc 72, 2) := by decide +kernel
theorem dX3_openBody_33 : decode cX3_openBody 33 = .ok (.invokevirtual 51, 3) := by decide +kernel
theorem dX3_openBody_36 : decode cX3_openBody 36 = .ok (.ifCond .eq 22, 3) := by decide +kernel
theorem dX3_openBody_39 : decode cX3_openBody 39 = .ok (.aload_n 0, 1) := by decide +kernel
theorem dX3_openBody_40 : decode cX3_openBody 40 = .ok (.iconst 1, 1) := by decide +kernel
theorem dX3_openBody_41 : decode cX3_openBody 41 = .ok (.putfield 66, 3) := by decide +kernel
theorem dX3_openBody_44 : decode cX3_openBody 44 = .ok (.aload_n 0, 1) := by decide +kernel
theorem dX3_openBody_45 : decode cX3_openBody 45 = .ok (.aload_n 0, 1) := by decide +kernel
theorem dX3_openBody_46 : decode cX3_openBody 46 = .ok (.getfield 21, 3) := by decide +kernel
theorem dX3_openBody_49 : decode cX3_openBody 49 = .ok (.getfield 74, 3) := by decide +kernel
theorem dX3_openBody_5 : decode cX3_openBody 5 = .ok (.aload_n 0, 1) := by decide +kernel
theorem dX3_openBody_52 : decode cX3_openBody 52 = .ok (.putfield 69, 3) := by decide +kernel
theorem dX3_openBody_55 : decode cX3_openBody 55 = .ok (.goto 17, 3) := by decide +kernel
theorem dX3_openBody_58 : decode cX3_openBody 58 = .ok (.aload_n 0, 1) := by decide +kernel
theorem dX3_openBody_59 : decode cX3_openBody 59 = .ok (.ldc 77, 2) := by decide +kernel
theorem dX3_openBody_6 : decode cX3_openBody 6 = .ok (.aload_n 0, 1) := by decide +kernel
theorem dX3_openBody_61 : decode cX3_openBody 61 = .ok (.invokevirtual 51, 3) := by decide +kernel
theorem dX3_openBody_64 : decode cX3_openBody 64 = .ok (.ifCond .eq 8, 3) := by decide +kernel
theorem dX3_openBody_67 : decode cX3_openBody 67 = .ok (.aload_n 0, 1) := by decide +kernel
theorem dX3_openBody_68 : decode cX3_openBody 68 = .ok (.iconst 2, 1) := by decide +kernel
theorem dX3_openBody_69 : decode cX3_openBody 69 = .ok (.putfield 66, 3) := by decide +kernel
theorem dX3_openBody_7 : decode cX3_openBody 7 = .ok (.getfield 21, 3) := by decide +kernel
theorem dX3_openBody_72 : decode cX3_openBody 72 = .ok (.iconst 2, 1) := by decide +kernel
theorem dX3_openBody_73 : decode cX3_openBody 73 = .ok (.ireturn, 1) := by decide +kernel
set_option maxHeartbeats 4000000 in
set_option maxRecDepth 100000 in
theorem T_X3_openBody (l : Launch) (D : va_G) (K : Nat → ClassId) (Z Y : Nat → Nat) (ad : Nat → Nat) (d : dSt) (t : tSt) (hok : okX t)  : tMet l yX3_openBody cX3_openBody 1 (some .int) (rmD 6 0 0) D K Z Y [.ref (ad 7)] ((WX d) K ad t) (QI D K (fun (r : Int32) (u : tSt) => okX u ∧ frA [(7, 4), (7, 5), (7, 6), (7, 7)] [] [] [] t u ∧ (2 : Int) ≤ r.toInt ∧ r.toInt ≤ 3) (fun (u : tSt) => (WX d) K ad u)) 0 0 := by
  refine t_met RX3 ⟨rfl, by decide +kernel⟩ (Nat.le_of_ble_eq_true rfl) ?_
  intro p e s m below meth c A ls C hE hZ hr hlocks hA hP hD hS hl
  have hl : lv_has ls 1 [(0, .ref (ad 7))] := hl
  have hokt := hok
  have hfr : frA [(7, 4), (7, 5), (7, 6), (7, 7)] [] [] [] t t := frA_rf
  refine lv_aload_n C.1 C.2.1 dX3_openBody_0 rfl (lv_at hl 0 rfl) ?_
  refine lv_iconst (v := 0) C.1 C.2.1 dX3_openBody_1 (by decide) ?_
  refine k_put (ws' := (WX d) K ad (uI t 7 4 0)) (v := .int 0) C hP hD hS 7 rfl rfl inlX3 tyX3_ok nmX3 4 (by decide) m_73_15 rfl rfl rfl rfl rfl dX3_openBody_2 (fun H locs hP hD hS => ?_)
  have hok : okX (uI t 7 4 0) := ⟨okI_I hok.1 7 4 0 (show (0 : Int) ≤ (0 : Int32).toInt ∧ (0 : Int32).toInt ≤ 2 from ⟨by decide, by decide⟩), hok.2.1, trivial⟩
  have hfr : frA [(7, 4), (7, 5), (7, 6), (7, 7)] [] [] [] t (uI t 7 4 0) := frA_I hfr 7 4 _ rfl
  refine lv_aload_n C.1 C.2.1 dX3_openBody_5 rfl (lv_at hl 0 rfl) ?_
  refine lv_aload_n C.1 C.2.1 dX3_openBody_6 rfl (lv_at hl 0 rfl) ?_
  refine k_get (v := .ref (ad 29)) C hP 7 rfl rfl inlX3 0 (by decide) m_6_23 rfl dX3_openBody_7 ?_
  have h_1 : (0 : Int) ≤ (t.1 29 2).toInt ∧ (t.1 29 2).toInt ≤ 1280 := hok.1 29 2
  refine k_get (v := .int (t.1 29 2)) C hP 29 rfl rfl inlX9 2 (by decide) m_71_16 rfl dX3_openBody_10 ?_
  refine k_put (ws' := (WX d) K ad (uI (uI t 7 4 0) 7 5 (t.1 29 2))) (v := .int (t.1 29 2)) C hP hD hS 7 rfl rfl inlX3 tyX3_ok nmX3 5 (by decide) m_73_16 rfl rfl rfl rfl rfl dX3_openBody_13 (fun H locs hP hD hS => ?_)
  have hok : okX (uI (uI t 7 4 0) 7 5 (t.1 29 2)) := ⟨okI_I hok.1 7 5 (t.1 29 2) (show (0 : Int) ≤ ((t.1 29 2) : Int32).toInt ∧ ((t.1 29 2) : Int32).toInt ≤ 1281 from ⟨by omega, by omega⟩), hok.2.1, trivial⟩
  have hfr : frA [(7, 4), (7, 5), (7, 6), (7, 7)] [] [] [] t (uI (uI t 7 4 0) 7 5 (t.1 29 2)) := frA_I hfr 7 5 _ rfl
  refine lv_aload_n C.1 C.2.1 dX3_openBody_16 rfl (lv_at hl 0 rfl) ?_
  refine va_ldcS C.1 C.2.1 C.2.2.2.1 (hE.2 13 (by decide)) dX3_openBody_17 ?_
  refine g_Vi (As := [.ref (Z 13)]) (rest := []) C hP hD hS hA (T_X3_isCard l D K Z Y ad d (uI (uI t 7 4 0) 7 5 (t.1 29 2)) hok (13) (show sS 13 from ⟨by decide, by decide, by decide⟩)) hE hZ (uwV m_73_18 m_73_19 m_73_20 m_2_17 m_73_21) (hdV 1 (by decide +kernel) rfl) ⟨Nat.le_of_ble_eq_true rfl, Nat.le_of_ble_eq_true rfl⟩ rfl rfl (ci := 2) (q0 := 7) rfl rfl rfl hl.1 (Nat.le_of_ble_eq_true rfl) dX3_openBody_19 ⟨Nat.le_of_ble_eq_true rfl, Nat.le_of_ble_eq_true rfl⟩ (fun r_3 t_2 H locs hw hP hD hS => ?_)
  obtain ⟨h_5, h_6⟩ := hw
  refine lv_if_eq (tgt := 30) C.1 C.2.1 dX3_openBody_22 (by decide) (fun c_7 => ?_) (fun c_7 => ?_)
  · replace c_7 : r_3.toInt = 0 := i_eq c_7
    refine lv_aload_n C.1 C.2.1 dX3_openBody_30 rfl (lv_at hl 0 rfl) ?_
    refine va_ldcS C.1 C.2.1 C.2.2.2.1 (hE.2 14 (by decide)) dX3_openBody_31 ?_
    refine g_Vi (As := [.ref (Z 14)]) (rest := []) C hP hD hS hA (T_X3_isCard l D K Z Y ad d (uI (uI t 7 4 0) 7 5 (t.1 29 2)) hok (14) (show sS 14 from ⟨by decide, by decide, by decide⟩)) hE hZ (uwV m_73_18 m_73_19 m_73_20 m_2_17 m_73_21) (hdV 1 (by decide +kernel) rfl) ⟨Nat.le_of_ble_eq_true rfl, Nat.le_of_ble_eq_true rfl⟩ rfl rfl (ci := 2) (q0 := 7) rfl rfl rfl hl.1 (Nat.le_of_ble_eq_true rfl) dX3_openBody_33 ⟨Nat.le_of_ble_eq_true rfl, Nat.le_of_ble_eq_true rfl⟩ (fun r_9 t_8 H locs hw hP hD hS => ?_)
    obtain ⟨h_11, h_12⟩ := hw
    refine lv_if_eq (tgt := 58) C.1 C.2.1 dX3_openBody_36 (by decide) (fun c_13 => ?_) (fun c_13 => ?_)
    · replace c_13 : r_9.toInt = 0 := i_eq c_13
      refine lv_aload_n C.1 C.2.1 dX3_openBody_58 rfl (lv_at hl 0 rfl) ?_
      refine va_ldcS C.1 C.2.1 C.2.2.2.1 (hE.2 15 (by decide)) dX3_openBody_59 ?_
      refine g_Vi (As := [.ref (Z 15)]) (rest := []) C hP hD hS hA (T_X3_isCard l D K Z Y ad d (uI (uI t 7 4 0) 7 5 (t.1 29 2)) hok (15) (show sS 15 from ⟨by decide, by decide, by decide⟩)) hE hZ (uwV m_73_18 m_73_19 m_73_20 m_2_17 m_73_21) (hdV 1 (by decide +kernel) rfl) ⟨Nat.le_of_ble_eq_true rfl, Nat.le_of_ble_eq_true rfl⟩ rfl rfl (ci := 2) (q0 := 7) rfl rfl rfl hl.1 (Nat.le_of_ble_eq_true rfl) dX3_openBody_61 ⟨Nat.le_of_ble_eq_true rfl, Nat.le_of_ble_eq_true rfl⟩ (fun r_15 t_14 H locs hw hP hD hS => ?_)
      obtain ⟨h_17, h_18⟩ := hw
      refine lv_if_eq (tgt := 72) C.1 C.2.1 dX3_openBody_64 (by decide) (fun c_19 => ?_) (fun c_19 => ?_)
      · replace c_19 : r_15.toInt = 0 := i_eq c_19
        refine lv_iconst (v := 2) C.1 C.2.1 dX3_openBody_72 (by decide) ?_
        exact g_iret C hr hlocks hP hD hS rfl (uI (uI t 7 4 0) 7 5 (t.1 29 2)) rfl ⟨hok, hfr, by decide, by decide⟩ (Nat.le_of_ble_eq_true rfl) (Nat.le_of_ble_eq_true rfl) dX3_openBody_73
      · replace c_19 : ¬ r_15.toInt = 0 := i_ne c_19
        refine lv_aload_n C.1 C.2.1 dX3_openBody_67 rfl (lv_at hl 0 rfl) ?_
        refine lv_iconst (v := 2) C.1 C.2.1 dX3_openBody_68 (by decide) ?_
        refine k_put (ws' := (WX d) K ad (uI (uI (uI t 7 4 0) 7 5 (t.1 29 2)) 7 4 2)) (v := .int 2) C hP hD hS 7 rfl rfl inlX3 tyX3_ok nmX3 4 (by decide) m_73_15 rfl rfl rfl rfl rfl dX3_openBody_69 (fun H locs hP hD hS => ?_)
        have hok : okX (uI (uI (uI t 7 4 0) 7 5 (t.1 29 2)) 7 4 2) := ⟨okI_I hok.1 7 4 2 (show (0 : Int) ≤ (2 : Int32).toInt ∧ (2 : Int32).toInt ≤ 2 from ⟨by decide, by decide⟩), hok.2.1, trivial⟩
        have hfr : frA [(7, 4), (7, 5), (7, 6), (7, 7)] [] [] [] t (uI (uI (uI t 7 4 0) 7 5 (t.1 29 2)) 7 4 2) := frA_I hfr 7 4 _ rfl
        refine lv_iconst (v := 2) C.1 C.2.1 dX3_openBody_72 (by decide) ?_
        exact g_iret C hr hlocks hP hD hS rfl (uI (uI (uI t 7 4 0) 7 5 (t.1 29 2)) 7 4 2) rfl ⟨hok, hfr, by decide, by decide⟩ (Nat.le_of_ble_eq_true rfl) (Nat.le_of_ble_eq_true rfl) dX3_openBody_73
    · replace c_13 : ¬ r_9.toInt = 0 := i_ne c_13
      refine lv_aload_n C.1 C.2.1 dX3_openBody_39 rfl (lv_at hl 0 rfl) ?_
      refine lv_iconst (v := 1) C.1 C.2.1 dX3_openBody_40 (by decide) ?_
      refine k_put (ws' := (WX d) K ad (uI (uI (uI t 7 4 0) 7 5 (t.1 29 2)) 7 4 1)) (v := .int 1) C hP hD hS 7 rfl rfl inlX3 tyX3_ok nmX3 4 (by decide) m_73_15 rfl rfl rfl rfl rfl dX3_openBody_41 (fun H locs hP hD hS => ?_)
      have hok : okX (uI (uI (uI t 7 4 0) 7 5 (t.1 29 2)) 7 4 1) := ⟨okI_I hok.1 7 4 1 (show (0 : Int) ≤ (1 : Int32).toInt ∧ (1 : Int32).toInt ≤ 2 from ⟨by decide, by decide⟩), hok.2.1, trivial⟩
      have hfr : frA [(7, 4), (7, 5), (7, 6), (7, 7)] [] [] [] t (uI (uI (uI t 7 4 0) 7 5 (t.1 29 2)) 7 4 1) := frA_I hfr 7 4 _ rfl
      refine lv_aload_n C.1 C.2.1 dX3_openBody_44 rfl (lv_at hl 0 rfl) ?_
      refine lv_aload_n C.1 C.2.1 dX3_openBody_45 rfl (lv_at hl 0 rfl) ?_
      refine k_get (v := .ref (ad 29)) C hP 7 rfl rfl inlX3 0 (by decide) m_6_23 rfl dX3_openBody_46 ?_
      have h_20 : (0 : Int) ≤ (t.1 29 4).toInt ∧ (t.1 29 4).toInt ≤ 1281 := hok.1 29 4
      refine k_get (v := .int (t.1 29 4)) C hP 29 rfl rfl inlX9 4 (by decide) m_73_17 rfl dX3_openBody_49 ?_
      refine k_put (ws' := (WX d) K ad (uI (uI (uI (uI t 7 4 0) 7 5 (t.1 29 2)) 7 4 1) 7 5 (t.1 29 4))) (v := .int (t.1 29 4)) C hP hD hS 7 rfl rfl inlX3 tyX3_ok nmX3 5 (by decide) m_73_16 rfl rfl rfl rfl rfl dX3_openBody_52 (fun H locs hP hD hS => ?_)
      have hok : okX (uI (uI (uI (uI t 7 4 0) 7 5 (t.1 29 2)) 7 4 1) 7 5 (t.1 29 4)) := ⟨okI_I hok.1 7 5 (t.1 29 4) (show (0 : Int) ≤ ((t.1 29 4) : Int32).toInt ∧ ((t.1 29 4) : Int32).toInt ≤ 1281 from ⟨by omega, by omega⟩), hok.2.1, trivial⟩
      have hfr : frA [(7, 4), (7, 5), (7, 6), (7, 7)] [] [] [] t (uI (uI (uI (uI t 7 4 0) 7 5 (t.1 29 2)) 7 4 1) 7 5 (t.1 29 4)) := frA_I hfr 7 5 _ rfl
      refine lv_goto (tgt := 72) C.1 C.2.1 dX3_openBody_55 (by decide) ?_
      refine lv_iconst (v := 2) C.1 C.2.1 dX3_openBody_72 (by decide) ?_
      exact g_iret C hr hlocks hP hD hS rfl (uI (uI (uI (uI t 7 4 0) 7 5 (t.1 29 2)) 7 4 1) 7 5 (t.1 29 4)) rfl ⟨hok, hfr, by decide, by decide⟩ (Nat.le_of_ble_eq_true rfl) (Nat.le_of_ble_eq_true rfl) dX3_openBody_73
  · replace c_7 : ¬ r_3.toInt = 0 := i_ne c_7
    refine lv_aload_n C.1 C.2.1 dX3_openBody_25 rfl (lv_at hl 0 rfl) ?_
    refine g_Vi (As := []) (rest := []) C hP hD hS hA (T_X3_openData l D K Z Y ad d (uI (uI t 7 4 0) 7 5 (t.1 29 2)) hok ) hE hZ (uwV m_73_22 m_73_23 m_74_0 m_2_17 m_74_1) (hdV 0 (by decide +kernel) rfl) ⟨Nat.le_of_ble_eq_true rfl, Nat.le_of_ble_eq_true rfl⟩ rfl rfl (ci := 2) (q0 := 7) rfl rfl rfl hl.1 (Nat.le_of_ble_eq_true rfl) dX3_openBody_26 ⟨Nat.le_of_ble_eq_true rfl, Nat.le_of_ble_eq_true rfl⟩ (fun r_22 t_21 H locs hw hP hD hS => ?_)
    obtain ⟨hok, f_23, h_24, h_25⟩ := hw
    have hfr : frA [(7, 4), (7, 5), (7, 6), (7, 7)] [] [] [] t t_21 := frA_tr hfr f_23 rfl
    have h_26 : (t_21.1 7 4).toInt = 0 := by rw [show (t_21.1 7 4) = (0 : Int32) from f_23.1 7 4 rfl]; rfl
    have h_27 : (t_21.1 29 2).toInt = (t.1 29 2).toInt := ti_eq (f_23.1 29 2 rfl)
    have h_28 : (t_21.1 7 5).toInt = (t.1 29 2).toInt := ti_eq (f_23.1 7 5 rfl)
    exact g_iret C hr hlocks hP hD hS rfl t_21 rfl ⟨hok, hfr, by omega, by omega⟩ (Nat.le_of_ble_eq_true rfl) (Nat.le_of_ble_eq_true rfl) dX3_openBody_29

theorem dX1_opLetter_0 : decode cX1_opLetter 0 = .ok (.iload_n 0, 1) := by decide +kernel
theorem dX1_opLetter_1 : decode cX1_opLetter 1 = .ok (.bipush 16, 2) := by decide +kernel
theorem dX1_opLetter_10 : decode cX1_opLetter 10 = .ok (.invokestatic 46, 3) := by decide +kernel
theorem dX1_opLetter_13 : decode cX1_opLetter 13 = .ok (.ireturn, 1) := by decide +kernel
theorem dX1_opLetter_14 : decode cX1_opLetter 14 = .ok (.iload_n 0, 1) := by decide +kernel
theorem dX1_opLetter_15 : decode cX1_opLetter 15 = .ok (.bipush 47, 2) := by decide +kernel
theorem dX1_opLetter_17 : decode cX1_opLetter 17 = .ok (.if_icmp .ge 14, 3) := by decide +kernel
theorem dX1_opLetter_20 : decode cX1_opLetter 20 = .ok (.ldc 50, 2) := by decide +kernel
theorem dX1_opLetter_22 : decode cX1_opLetter 22 = .ok (.iload_n 0, 1) := by decide +kernel
theorem dX1_opLetter_23 : decode cX1_opLetter 23 = .ok (.bipush 16, 2) := by decide +kernel
theorem dX1_opLetter_25 : decode cX1_opLetter 25 = .ok (.isub, 1) := by decide +kernel
theorem dX1_opLetter_26 : decode cX1_opLetter 26 = .ok (.iload_n 1, 1) := by decide +kernel
theorem dX1_opLetter_27 : decode cX1_opLetter 27 = .ok (.invokestatic 46, 3) := by decide +kernel
theorem dX1_opLetter_3 : decode cX1_opLetter 3 = .ok (.if_icmp .ge 11, 3) := by decide +kernel
theorem dX1_opLetter_30 : decode cX1_opLetter 30 = .ok (.ireturn, 1) := by decide +kernel
theorem dX1_opLetter_31 : decode cX1_opLetter 31 = .ok (.iload_n 0, 1) := by decide +kernel
theorem dX1_opLetter_32 : decode cX1_opLetter 32 = .ok (.bipush 57, 2) := by decide +kernel
theorem dX1_opLetter_34 : decode cX1_opLetter 34 = .ok (.if_icmp .ge 14, 3) := by decide +kernel
theorem dX1_opLetter_37 : decode cX1_opLetter 37 = .ok (.ldc 52, 2) := by decide +kernel
theorem dX1_opLetter_39 : decode cX1_opLetter 39 = .ok (.iload_n 0, 1) := by decide +kernel
theorem dX1_opLetter_40 : decode cX1_opLetter 40 = .ok (.bipush 47, 2) := by decide +kernel
theorem dX1_opLetter_42 : decode cX1_opLetter 42 = .ok (.isub, 1) := by decide +kernel
theorem dX1_opLetter_43 : decode cX1_opLetter 43 = .ok (.iload_n 1, 1) := by decide +kernel
theorem dX1_opLetter_44 : decode cX1_opLetter 44 = .ok (.invokestatic 46, 3) := by decide +kernel
theorem dX1_opLetter_47 : decode cX1_opLetter 47 = .ok (.ireturn, 1) := by decide +kernel
theorem dX1_opLetter_48 : decode cX1_opLetter 48 = .ok (.iload_n 0, 1) := by decide +kernel
theorem dX1_opLetter_49 : decode cX1_opLetter 49 = .ok (.bipush 105, 2) := by decide +kernel
theorem dX1_opLetter_51 : decode cX1_opLetter 51 = .ok (.if_icmp .ge 14, 3) := by decide +kernel
theorem dX1_opLetter_54 : decode cX1_opLetter 54 = .ok (.ldc 54, 2) := by decide +kernel
theorem dX1_opLetter_56 : decode cX1_opLetter 56 = .ok (.iload_n 0, 1) := by decide +kernel
theorem dX1_opLetter_57 : decode cX1_opLetter 57 = .ok (.bipush 57, 2) := by decide +kernel
theorem dX1_opLetter_59 : decode cX1_opLetter 59 = .ok (.isub, 1) := by decide +kernel
theorem dX1_opLetter_6 : decode cX1_opLetter 6 = .ok (.ldc 44, 2) := by decide +kernel
theorem dX1_opLetter_60 : decode cX1_opLetter 60 = .ok (.iload_n 1, 1) := by decide +kernel
theorem dX1_opLetter_61 : decode cX1_opLetter 61 = .ok (.invokestatic 46, 3) := by decide +kernel
theorem dX1_opLetter_64 : decode cX1_opLetter 64 = .ok (.ireturn, 1) := by decide +kernel
theorem dX1_opLetter_65 : decode cX1_opLetter 65 = .ok (.iload_n 0, 1) := by decide +kernel
theorem dX1_opLetter_66 : decode cX1_opLetter 66 = .ok (.sipush 145, 3) := by decide +kernel
theorem dX1_opLetter_69 : decode cX1_opLetter 69 = .ok (.if_icmp .ge 16, 3) := by decide +kernel
theorem dX1_opLetter_72 : decode cX1_opLetter 72 = .ok (.ldc 56, 2) := by decide +kernel
theorem dX1_opLetter_74 : decode cX1_opLetter 74 = .ok (.iload_n 0, 1) := by decide +kernel
theorem dX1_opLetter_75 : decode cX1_opLetter 75 = .ok (.bipush 105, 2) := by decide +kernel
theorem dX1_opLetter_77 : decode cX1_opLetter 77 = .ok (.isub, 1) := by decide +kernel
theorem dX1_opLetter_78 : decode cX1_opLetter 78 = .ok (.iload_n 1, 1) := by decide +kernel
theorem dX1_opLetter_79 : decode cX1_opLetter 79 = .ok (.invokestatic 46, 3) := by decide +kernel
theorem dX1_opLetter_8 : decode cX1_opLetter 8 = .ok (.iload_n 0, 1) := by decide +kernel
theorem dX1_opLetter_82 : decode cX1_opLetter 82 = .ok (.goto 14, 3) := by decide +kernel
theorem dX1_opLetter_85 : decode cX1_opLetter 85 = .ok (.ldc 58, 2) := by decide +kernel
theorem dX1_opLetter_87 : decode cX1_opLetter 87 = .ok (.iload_n 0, 1) := by decide +kernel
theorem dX1_opLetter_88 : decode cX1_opLetter 88 = .ok (.sipush 145, 3) := by decide +kernel
theorem dX1_opLetter_9 : decode cX1_opLetter 9 = .ok (.iload_n 1, 1) := by decide +kernel
theorem dX1_opLetter_91 : decode cX1_opLetter 91 = .ok (.isub, 1) := by decide +kernel
theorem dX1_opLetter_92 : decode cX1_opLetter 92 = .ok (.iload_n 1, 1) := by decide +kernel
theorem dX1_opLetter_93 : decode cX1_opLetter 93 = .ok (.invokestatic 46, 3) := by decide +kernel
theorem dX1_opLetter_96 : decode cX1_opLetter 96 = .ok (.ireturn, 1) := by decide +kernel
set_option maxHeartbeats 4000000 in
set_option maxRecDepth 100000 in
theorem T_X1_opLetter (l : Launch) (D : va_G) (K : Nat → ClassId) (Z Y : Nat → Nat) (ad : Nat → Nat) (d : dSt) (t : tSt) (hok : okX t) (x0 : Int32) (hx0 : (0 : Int) ≤ x0.toInt ∧ x0.toInt ≤ 2147483647) (x1 : Int32) (hx1 : (0 : Int) ≤ x1.toInt ∧ x1.toInt ≤ 3) : tMet l yX1_opLetter cX1_opLetter 2 (some .int) (rmD 5 0 0) D K Z Y [.int x0, .int x1] ((WX d) K ad t) (QI D K (fun (r : Int32) (u : Unit) => (0 : Int) ≤ r.toInt ∧ r.toInt ≤ 255) (fun (_ : Unit) => (WX d) K ad t)) 0 0 := by
  refine t_met RX1 ⟨rfl, by decide +kernel⟩ (Nat.le_of_ble_eq_true rfl) ?_
  intro p e s m below meth c A ls C hE hZ hr hlocks hA hP hD hS hl
  have hl : lv_has ls 2 [(0, .int x0), (1, .int x1)] := hl
  refine lv_iload_n C.1 C.2.1 dX1_opLetter_0 rfl (lv_at hl 0 rfl) ?_
  refine lv_bipush (v := 16) C.1 C.2.1 dX1_opLetter_1 (by decide) ?_
  refine lv_icmp_ge (tgt := 14) C.1 C.2.1 dX1_opLetter_3 (by decide) (fun c_1 => ?_) (fun c_1 => ?_)
  · replace c_1 : 16 ≤ x0.toInt := i_le c_1
    refine lv_iload_n C.1 C.2.1 dX1_opLetter_14 rfl (lv_at hl 0 rfl) ?_
    refine lv_bipush (v := 47) C.1 C.2.1 dX1_opLetter_15 (by decide) ?_
    refine lv_icmp_ge (tgt := 31) C.1 C.2.1 dX1_opLetter_17 (by decide) (fun c_2 => ?_) (fun c_2 => ?_)
    · replace c_2 : 47 ≤ x0.toInt := i_le c_2
      refine lv_iload_n C.1 C.2.1 dX1_opLetter_31 rfl (lv_at hl 0 rfl) ?_
      refine lv_bipush (v := 57) C.1 C.2.1 dX1_opLetter_32 (by decide) ?_
      refine lv_icmp_ge (tgt := 48) C.1 C.2.1 dX1_opLetter_34 (by decide) (fun c_3 => ?_) (fun c_3 => ?_)
      · replace c_3 : 57 ≤ x0.toInt := i_le c_3
        refine lv_iload_n C.1 C.2.1 dX1_opLetter_48 rfl (lv_at hl 0 rfl) ?_
        refine lv_bipush (v := 105) C.1 C.2.1 dX1_opLetter_49 (by decide) ?_
        refine lv_icmp_ge (tgt := 65) C.1 C.2.1 dX1_opLetter_51 (by decide) (fun c_4 => ?_) (fun c_4 => ?_)
        · replace c_4 : 105 ≤ x0.toInt := i_le c_4
          refine lv_iload_n C.1 C.2.1 dX1_opLetter_65 rfl (lv_at hl 0 rfl) ?_
          refine lv_sipush (v := 145) C.1 C.2.1 dX1_opLetter_66 (by decide) ?_
          refine lv_icmp_ge (tgt := 85) C.1 C.2.1 dX1_opLetter_69 (by decide) (fun c_5 => ?_) (fun c_5 => ?_)
          · replace c_5 : 145 ≤ x0.toInt := i_le c_5
            refine va_ldcS C.1 C.2.1 C.2.2.2.1 (hE.2 6 (by decide)) dX1_opLetter_85 ?_
            refine lv_iload_n C.1 C.2.1 dX1_opLetter_87 rfl (lv_at hl 0 rfl) ?_
            refine lv_sipush (v := 145) C.1 C.2.1 dX1_opLetter_88 (by decide) ?_
            obtain ⟨v_6, e_7⟩ : ∃ z, z = (x0 : Int32) - (145 : Int32) := ⟨_, rfl⟩
            have h_9 := i_rng x0
            have h_8 : v_6.toInt = x0.toInt - 145 := by rw [e_7]; exact ti_isub (by show (_ : Int) ≤ x0.toInt - 145; omega) (by show x0.toInt - 145 < (_ : Int); omega)
            refine k_isub (v := v_6) C e_7.symm dX1_opLetter_91 ?_
            refine lv_iload_n C.1 C.2.1 dX1_opLetter_92 rfl (lv_at hl 1 rfl) ?_
            refine g_Si (As := [.ref (Z 6), .int v_6, .int x1]) (rest := []) C hP hD hS hA (T_X1_letterIn l D K Z Y ad d t hok (6) (show sG 6 from ⟨by decide, by decide, by decide⟩) (v_6) (show (0 : Int) ≤ (v_6 : Int32).toInt ∧ (v_6 : Int32).toInt ≤ 2147483647 from ⟨by omega, (i_rng _).2⟩) (x1) (show (0 : Int) ≤ (x1 : Int32).toInt ∧ (x1 : Int32).toInt ≤ 3 from ⟨by omega, by omega⟩)) hE hZ (uwS m_20_7 m_20_8 m_14_2 m_20_9) (hdS 3 (by decide +kernel) rfl) ⟨Nat.le_of_ble_eq_true rfl, Nat.le_of_ble_eq_true rfl⟩ rfl rfl rfl hl.1 (Nat.le_of_ble_eq_true rfl) dX1_opLetter_93 ⟨Nat.le_of_ble_eq_true rfl, Nat.le_of_ble_eq_true rfl⟩ (fun r_11 t_10 H locs hw hP hD hS => ?_)
            obtain ⟨h_13, h_14⟩ := hw
            exact g_iret C hr hlocks hP hD hS rfl () rfl ⟨by omega, by omega⟩ (Nat.le_of_ble_eq_true rfl) (Nat.le_of_ble_eq_true rfl) dX1_opLetter_96
          · replace c_5 : x0.toInt < 145 := i_nle c_5
            refine va_ldcS C.1 C.2.1 C.2.2.2.1 (hE.2 5 (by decide)) dX1_opLetter_72 ?_
            refine lv_iload_n C.1 C.2.1 dX1_opLetter_74 rfl (lv_at hl 0 rfl) ?_
            refine lv_bipush (v := 105) C.1 C.2.1 dX1_opLetter_75 (by decide) ?_
            obtain ⟨v_15, e_16⟩ : ∃ z, z = (x0 : Int32) - (105 : Int32) := ⟨_, rfl⟩
            have h_17 : v_15.toInt = x0.toInt - 105 := by rw [e_16]; exact ti_isub (by show (_ : Int) ≤ x0.toInt - 105; omega) (by show x0.toInt - 105 < (_ : Int); omega)
            refine k_isub (v := v_15) C e_16.symm dX1_opLetter_77 ?_
            refine lv_iload_n C.1 C.2.1 dX1_opLetter_78 rfl (lv_at hl 1 rfl) ?_
            refine g_Si (As := [.ref (Z 5), .int v_15, .int x1]) (rest := []) C hP hD hS hA (T_X1_letterIn l D K Z Y ad d t hok (5) (show sG 5 from ⟨by decide, by decide, by decide⟩) (v_15) (show (0 : Int) ≤ (v_15 : Int32).toInt ∧ (v_15 : Int32).toInt ≤ 2147483647 from ⟨by omega, (i_rng _).2⟩) (x1) (show (0 : Int) ≤ (x1 : Int32).toInt ∧ (x1 : Int32).toInt ≤ 3 from ⟨by omega, by omega⟩)) hE hZ (uwS m_20_7 m_20_8 m_14_2 m_20_9) (hdS 3 (by decide +kernel) rfl) ⟨Nat.le_of_ble_eq_true rfl, Nat.le_of_ble_eq_true rfl⟩ rfl rfl rfl hl.1 (Nat.le_of_ble_eq_true rfl) dX1_opLetter_79 ⟨Nat.le_of_ble_eq_true rfl, Nat.le_of_ble_eq_true rfl⟩ (fun r_19 t_18 H locs hw hP hD hS => ?_)
            obtain ⟨h_21, h_22⟩ := hw
            refine lv_goto (tgt := 96) C.1 C.2.1 dX1_opLetter_82 (by decide) ?_
            exact g_iret C hr hlocks hP hD hS rfl () rfl ⟨by omega, by omega⟩ (Nat.le_of_ble_eq_true rfl) (Nat.le_of_ble_eq_true rfl) dX1_opLetter_96
        · replace c_4 : x0.toInt < 105 := i_nle c_4
          refine va_ldcS C.1 C.2.1 C.2.2.2.1 (hE.2 4 (by decide)) dX1_opLetter_54 ?_
          refine lv_iload_n C.1 C.2.1 dX1_opLetter_56 rfl (lv_at hl 0 rfl) ?_
          refine lv_bipush (v := 57) C.1 C.2.1 dX1_opLetter_57 (by decide) ?_
          obtain ⟨v_23, e_24⟩ : ∃ z, z = (x0 : Int32) - (57 : Int32) := ⟨_, rfl⟩
          have h_25 : v_23.toInt = x0.toInt - 57 := by rw [e_24]; exact ti_isub (by show (_ : Int) ≤ x0.toInt - 57; omega) (by show x0.toInt - 57 < (_ : Int); omega)
          refine k_isub (v := v_23) C e_24.symm dX1_opLetter_59 ?_
          refine lv_iload_n C.1 C.2.1 dX1_opLetter_60 rfl (lv_at hl 1 rfl) ?_
          refine g_Si (As := [.ref (Z 4), .int v_23, .int x1]) (rest := []) C hP hD hS hA (T_X1_letterIn l D K Z Y ad d t hok (4) (show sG 4 from ⟨by decide, by decide, by decide⟩) (v_23) (show (0 : Int) ≤ (v_23 : Int32).toInt ∧ (v_23 : Int32).toInt ≤ 2147483647 from ⟨by omega, (i_rng _).2⟩) (x1) (show (0 : Int) ≤ (x1 : Int32).toInt ∧ (x1 : Int32).toInt ≤ 3 from ⟨by omega, by omega⟩)) hE hZ (uwS m_20_7 m_20_8 m_14_2 m_20_9) (hdS 3 (by decide +kernel) rfl) ⟨Nat.le_of_ble_eq_true rfl, Nat.le_of_ble_eq_true rfl⟩ rfl rfl rfl hl.1 (Nat.le_of_ble_eq_true rfl) dX1_opLetter_61 ⟨Nat.le_of_ble_eq_true rfl, Nat.le_of_ble_eq_true rfl⟩ (fun r_27 t_26 H locs hw hP hD hS => ?_)
          obtain ⟨h_29, h_30⟩ := hw
          exact g_iret C hr hlocks hP hD hS rfl () rfl ⟨by omega, by omega⟩ (Nat.le_of_ble_eq_true rfl) (Nat.le_of_ble_eq_true rfl) dX1_opLetter_64
      · replace c_3 : x0.toInt < 57 := i_nle c_3
        refine va_ldcS C.1 C.2.1 C.2.2.2.1 (hE.2 3 (by decide)) dX1_opLetter_37 ?_
        refine lv_iload_n C.1 C.2.1 dX1_opLetter_39 rfl (lv_at hl 0 rfl) ?_
        refine lv_bipush (v := 47) C.1 C.2.1 dX1_opLetter_40 (by decide) ?_
        obtain ⟨v_31, e_32⟩ : ∃ z, z = (x0 : Int32) - (47 : Int32) := ⟨_, rfl⟩
        have h_33 : v_31.toInt = x0.toInt - 47 := by rw [e_32]; exact ti_isub (by show (_ : Int) ≤ x0.toInt - 47; omega) (by show x0.toInt - 47 < (_ : Int); omega)
        refine k_isub (v := v_31) C e_32.symm dX1_opLetter_42 ?_
        refine lv_iload_n C.1 C.2.1 dX1_opLetter_43 rfl (lv_at hl 1 rfl) ?_
        refine g_Si (As := [.ref (Z 3), .int v_31, .int x1]) (rest := []) C hP hD hS hA (T_X1_letterIn l D K Z Y ad d t hok (3) (show sG 3 from ⟨by decide, by decide, by decide⟩) (v_31) (show (0 : Int) ≤ (v_31 : Int32).toInt ∧ (v_31 : Int32).toInt ≤ 2147483647 from ⟨by omega, (i_rng _).2⟩) (x1) (show (0 : Int) ≤ (x1 : Int32).toInt ∧ (x1 : Int32).toInt ≤ 3 from ⟨by omega, by omega⟩)) hE hZ (uwS m_20_7 m_20_8 m_14_2 m_20_9) (hdS 3 (by decide +kernel) rfl) ⟨Nat.le_of_ble_eq_true rfl, Nat.le_of_ble_eq_true rfl⟩ rfl rfl rfl hl.1 (Nat.le_of_ble_eq_true rfl) dX1_opLetter_44 ⟨Nat.le_of_ble_eq_true rfl, Nat.le_of_ble_eq_true rfl⟩ (fun r_35 t_34 H locs hw hP hD hS => ?_)
        obtain ⟨h_37, h_38⟩ := hw
        exact g_iret C hr hlocks hP hD hS rfl () rfl ⟨by omega, by omega⟩ (Nat.le_of_ble_eq_true rfl) (Nat.le_of_ble_eq_true rfl) dX1_opLetter_47
    · replace c_2 : x0.toInt < 47 := i_nle c_2
      refine va_ldcS C.1 C.2.1 C.2.2.2.1 (hE.2 2 (by decide)) dX1_opLetter_20 ?_
      refine lv_iload_n C.1 C.2.1 dX1_opLetter_22 rfl (lv_at hl 0 rfl) ?_
      refine lv_bipush (v := 16) C.1 C.2.1 dX1_opLetter_23 (by decide) ?_
      obtain ⟨v_39, e_40⟩ : ∃ z, z = (x0 : Int32) - (16 : Int32) := ⟨_, rfl⟩
      have h_41 : v_39.toInt = x0.toInt - 16 := by rw [e_40]; exact ti_isub (by show (_ : Int) ≤ x0.toInt - 16; omega) (by show x0.toInt - 16 < (_ : Int); omega)
      refine k_isub (v := v_39) C e_40.symm dX1_opLetter_25 ?_
      refine lv_iload_n C.1 C.2.1 dX1_opLetter_26 rfl (lv_at hl 1 rfl) ?_
      refine g_Si (As := [.ref (Z 2), .int v_39, .int x1]) (rest := []) C hP hD hS hA (T_X1_letterIn l D K Z Y ad d t hok (2) (show sG 2 from ⟨by decide, by decide, by decide⟩) (v_39) (show (0 : Int) ≤ (v_39 : Int32).toInt ∧ (v_39 : Int32).toInt ≤ 2147483647 from ⟨by omega, (i_rng _).2⟩) (x1) (show (0 : Int) ≤ (x1 : Int32).toInt ∧ (x1 : Int32).toInt ≤ 3 from ⟨by omega, by omega⟩)) hE hZ (uwS m_20_7 m_20_8 m_14_2 m_20_9) (hdS 3 (by decide +kernel) rfl) ⟨Nat.le_of_ble_eq_true rfl, Nat.le_of_ble_eq_true rfl⟩ rfl rfl rfl hl.1 (Nat.le_of_ble_eq_true rfl) dX1_opLetter_27 ⟨Nat.le_of_ble_eq_true rfl, Nat.le_of_ble_eq_true rfl⟩ (fun r_43 t_42 H locs hw hP hD hS => ?_)
      obtain ⟨h_45, h_46⟩ := hw
      exact g_iret C hr hlocks hP hD hS rfl () rfl ⟨by omega, by omega⟩ (Nat.le_of_ble_eq_true rfl) (Nat.le_of_ble_eq_true rfl) dX1_opLetter_30
  · replace c_1 : x0.toInt < 16 := i_nle c_1
    refine va_ldcS C.1 C.2.1 C.2.2.2.1 (hE.2 1 (by decide)) dX1_opLetter_6 ?_
    refine lv_iload_n C.1 C.2.1 dX1_opLetter_8 rfl (lv_at hl 0 rfl) ?_
    refine lv_iload_n C.1 C.2.1 dX1_opLetter_9 rfl (lv_at hl 1 rfl) ?_
    refine g_Si (As := [.ref (Z 1), .int x0, .int x1]) (rest := []) C hP hD hS hA (T_X1_letterIn l D K Z Y ad d t hok (1) (show sG 1 from ⟨by decide, by decide, by decide⟩) (x0) (show (0 : Int) ≤ (x0 : Int32).toInt ∧ (x0 : Int32).toInt ≤ 2147483647 from ⟨by omega, (i_rng _).2⟩) (x1) (show (0 : Int) ≤ (x1 : Int32).toInt ∧ (x1 : Int32).toInt ≤ 3 from ⟨by omega, by omega⟩)) hE hZ (uwS m_20_7 m_20_8 m_14_2 m_20_9) (hdS 3 (by decide +kernel) rfl) ⟨Nat.le_of_ble_eq_true rfl, Nat.le_of_ble_eq_true rfl⟩ rfl rfl rfl hl.1 (Nat.le_of_ble_eq_true rfl) dX1_opLetter_10 ⟨Nat.le_of_ble_eq_true rfl, Nat.le_of_ble_eq_true rfl⟩ (fun r_48 t_47 H locs hw hP hD hS => ?_)
    obtain ⟨h_50, h_51⟩ := hw
    exact g_iret C hr hlocks hP hD hS rfl () rfl ⟨by omega, by omega⟩ (Nat.le_of_ble_eq_true rfl) (Nat.le_of_ble_eq_true rfl) dX1_opLetter_13


set_option maxHeartbeats 4000000 in
set_option maxRecDepth 100000 in
theorem T_X4_digits_1 (l : Launch) (D : va_G) (K : Nat → ClassId) (Z Y : Nat → Nat) (ad : Nat → Nat) (d : dSt) (t : tSt) (hok : okX t) (x1 : Int32) (hx1 : (6 : Int) ≤ x1.toInt ∧ x1.toInt ≤ 72) (x2 : Int32) (hx2 : (1 : Int) ≤ x2.toInt ∧ x2.toInt ≤ 10) (x3 : Int64) (hx3 : (0 : Int) ≤ x3.toInt ∧ x3.toInt ≤ 9223372036854775807) (hs0 : 0 ≤ x2.toInt) : tMet l yX4_digits cX4_digits 8 none (rmD 1 0 0) D K Z Y [.ref (ad 19), .int x1, .int x2, .long x3] ((WX d) K ad t) (QV D K (fun (u : tSt) => okX u ∧ frA [] [] [34] [] t u) (fun (u : tSt) => (WX d) K ad u)) 0 0 := by
  refine t_met RX4 ⟨rfl, by decide +kernel⟩ (Nat.le_of_ble_eq_true rfl) ?_
  intro p e s m below meth c A ls C hE hZ hr hlocks hA hP hD hS hl
  have hl : lv_has ls 8 [(0, .ref (ad 19)), (1, .int x1), (2, .int x2), (3, .long x3)] := hl
  have hokt := hok
  have hfr : frA [] [] [34] [] t t := frA_rf
  have L_10 : ∀ (fuel_10 : Nat) (t1 : tSt) (w10_5 : Int64) (w10_7 : Int32) (H : Heap) (locs : List Loc) (ls : Array Slot), okX t1 → frA [] [] [34] [] t t1 → (5 : Int) ≤ w10_7.toInt ∧ w10_7.toInt ≤ 81 → (w10_7.toInt < x1.toInt + x2.toInt + 1) → (x1.toInt - 1 ≤ w10_7.toInt) → (w10_7.toInt - x1.toInt + 1) < (fuel_10 : Int) → va_P D vwCl ((WX d) K ad t1) H → va_D A ((WX d) K ad t1) → va_S A s.heap H locs → lv_has ls 8 [(0, .ref (ad 19)), (1, .int x1), (2, .int x2), (3, .long x3), (5, .long w10_5), (7, .int w10_7)] → W p l e (rmD 1 0 0) s m [.ref (ad 19), .int x1, .int x2, .long x3].toArray below meth c H locs 0 0 (MQ below (QV D K (fun (u : tSt) => okX u ∧ frA [] [] [34] [] t u) (fun (u : tSt) => (WX d) K ad u) A) [.ref (ad 19), .int x1, .int x2, .long x3].toArray s 0 0 A) (F0 m 10 ls []) := by
    intro fuel_10
    induction fuel_10 with
    | zero =>
      intro t1 w10_5 w10_7 H locs ls hok hfr hw10_7 hi10_0 hi10_1 hm10_10 hP hD hS hl
      exact absurd hm10_10 (by omega)
    | succ fuel_10 ih_10 =>
      intro t1 w10_5 w10_7 H locs ls hok hfr hw10_7 hi10_0 hi10_1 hm10_10 hP hD hS hl
      have hm10_10 : (w10_7.toInt - x1.toInt + 1) < (fuel_10 : Int) + 1 := by omega
      refine lv_iload C.1 C.2.1 dX4_digits_10 (lv_at hl 5 rfl) ?_
      refine lv_iload_n C.1 C.2.1 dX4_digits_12 rfl (lv_at hl 1 rfl) ?_
      refine lv_icmp_lt (tgt := 46) C.1 C.2.1 dX4_digits_13 (by decide) (fun c_1 => ?_) (fun c_1 => ?_)
      · replace c_1 : w10_7.toInt < x1.toInt := i_lt c_1
        exact g_vret C hr hlocks hP hD hS t1 rfl ⟨hok, hfr⟩ (Nat.le_of_ble_eq_true rfl) (Nat.le_of_ble_eq_true rfl) dX4_digits_46
      · replace c_1 : x1.toInt ≤ w10_7.toInt := i_nlt c_1
        refine lv_aload_n C.1 C.2.1 dX4_digits_16 rfl (lv_at hl 0 rfl) ?_
        refine lv_iload C.1 C.2.1 dX4_digits_17 (lv_at hl 5 rfl) ?_
        refine lv_bipush (v := 48) C.1 C.2.1 dX4_digits_19 (by decide) ?_
        refine lv_lload C.1 C.2.1 dX4_digits_21 (lv_at hl 4 rfl) ?_
        refine lv_ldc2 (v := 10) C.1 C.2.1 C.2.2.2.1 (C.2.2.2.2.1 _ m_40_22) dX4_digits_23 ?_
        obtain ⟨v_2, e_3⟩ : ∃ z, z = (w10_5 : Int64) - (w10_5 : Int64) / (10 : Int64) * (10 : Int64) := ⟨_, rfl⟩
        have h_4 : -10 < v_2.toInt ∧ v_2.toInt < 10 := by rw [e_3]; exact tl_remb (k := 10) (by decide) (by decide)
        refine k_lrem (v := v_2) C (by decide) e_3.symm dX4_digits_26 ?_
        obtain ⟨v_5, e_6⟩ : ∃ z, z = (v_2).toInt32 := ⟨_, rfl⟩
        have h_7 : v_5.toInt = v_2.toInt := by rw [e_6]; exact Jvm.Kit.i32_of_i64 (by show (_ : Int) ≤ v_2.toInt; omega) (by show v_2.toInt < (_ : Int); omega)
        refine lv_l2i (v := v_5) C.1 C.2.1 dX4_digits_27 e_6.symm ?_
        obtain ⟨v_8, e_9⟩ : ∃ z, z = (48 : Int32) + (v_5 : Int32) := ⟨_, rfl⟩
        have h_10 : v_8.toInt = 48 + v_5.toInt := by rw [e_9]; exact ti_iadd (by show (_ : Int) ≤ 48 + v_5.toInt; omega) (by show 48 + v_5.toInt < (_ : Int); omega)
        refine k_iadd (v := v_8) C e_9.symm dX4_digits_28 ?_
        refine g_Vv (As := [.int w10_7, .int v_8]) (rest := []) C hP hD hS hA (T_X4_mark_1 l D K Z Y ad d t1 hok (w10_7) (show (1 : Int) ≤ (w10_7 : Int32).toInt ∧ (w10_7 : Int32).toInt ≤ 2147483647 from ⟨by omega, (i_rng _).2⟩) (v_8) (show (0 : Int) ≤ (v_8 : Int32).toInt ∧ (v_8 : Int32).toInt ≤ 255 from ⟨by omega, by omega⟩)) hE hZ (uwV m_40_23 m_41_0 m_41_1 m_3_20 m_41_2) (hdV 2 (by decide +kernel) rfl) ⟨Nat.le_of_ble_eq_true rfl, Nat.le_of_ble_eq_true rfl⟩ rfl rfl (ci := 3) (q0 := 19) rfl rfl rfl hl.1 (Nat.le_of_ble_eq_true rfl) dX4_digits_29 ⟨Nat.le_of_ble_eq_true rfl, Nat.le_of_ble_eq_true rfl⟩ (fun t_11 H locs hw hP hD hS => ?_)
        obtain ⟨hok, f_13⟩ := hw
        have hfr : frA [] [] [34] [] t t_11 := frA_tr hfr f_13 rfl
        refine lv_lload C.1 C.2.1 dX4_digits_32 (lv_at hl 4 rfl) ?_
        refine lv_ldc2 (v := 10) C.1 C.2.1 C.2.2.2.1 (C.2.2.2.2.1 _ m_40_22) dX4_digits_34 ?_
        obtain ⟨v_14, e_15⟩ : ∃ z, z = (w10_5 : Int64) / (10 : Int64) := ⟨_, rfl⟩
        refine k_ldiv (v := v_14) C (by decide) e_15.symm dX4_digits_37 ?_
        refine lv_lstore (lv' := [(5, .long v_14), (0, .ref (ad 19)), (1, .int x1), (2, .int x2), (3, .long x3), (7, .int w10_7)]) C.1 C.2.1 dX4_digits_38 hl (by decide) rfl (fun ls hl => ?_)
        have hl : lv_has ls 8 [(0, .ref (ad 19)), (1, .int x1), (2, .int x2), (3, .long x3), (5, .long v_14), (7, .int w10_7)] := lv_sub hl [1, 2, 3, 4, 0, 5] rfl
        obtain ⟨v_16, e_17⟩ : ∃ z, z = w10_7 + (-1) := ⟨_, rfl⟩
        have h_18 : v_16.toInt = w10_7.toInt + (-1) := by rw [e_17]; exact ti_iadd (by show (_ : Int) ≤ w10_7.toInt + (-1); omega) (by show w10_7.toInt + (-1) < (_ : Int); omega)
        refine lv_iinc (v := v_16) (lv' := [(7, .int v_16), (0, .ref (ad 19)), (1, .int x1), (2, .int x2), (3, .long x3), (5, .long v_14)]) C.1 C.2.1 dX4_digits_40 hl (k := 5) rfl e_17.symm (by decide) rfl (fun ls hl => ?_)
        have hl : lv_has ls 8 [(0, .ref (ad 19)), (1, .int x1), (2, .int x2), (3, .long x3), (5, .long v_14), (7, .int v_16)] := lv_sub hl [1, 2, 3, 4, 5, 0] rfl
        refine lv_goto (tgt := 10) C.1 C.2.1 dX4_digits_43 (by decide) ?_
        exact ih_10 t_11 v_14 v_16 _ _ _ hok hfr ⟨by omega, by omega⟩ (show v_16.toInt < x1.toInt + x2.toInt + 1 from by omega) (show x1.toInt - 1 ≤ v_16.toInt from by omega) (show (v_16.toInt - x1.toInt + 1) < (fuel_10 : Int) from by omega) hP hD hS (lv_sub hl [0, 1, 2, 3, 4, 5] rfl)
  refine lv_lload_n C.1 C.2.1 dX4_digits_0 rfl (lv_at hl 3 rfl) ?_
  refine lv_lstore (lv' := [(5, .long x3), (0, .ref (ad 19)), (1, .int x1), (2, .int x2), (3, .long x3)]) C.1 C.2.1 dX4_digits_1 hl (by decide) rfl (fun ls hl => ?_)
  have hl : lv_has ls 8 [(0, .ref (ad 19)), (1, .int x1), (2, .int x2), (3, .long x3), (5, .long x3)] := lv_sub hl [1, 2, 3, 4, 0] rfl
  refine lv_iload_n C.1 C.2.1 dX4_digits_3 rfl (lv_at hl 1 rfl) ?_
  refine lv_iload_n C.1 C.2.1 dX4_digits_4 rfl (lv_at hl 2 rfl) ?_
  obtain ⟨v_19, e_20⟩ : ∃ z, z = (x1 : Int32) + (x2 : Int32) := ⟨_, rfl⟩
  have h_21 : v_19.toInt = x1.toInt + x2.toInt := by rw [e_20]; exact ti_iadd (by show (_ : Int) ≤ x1.toInt + x2.toInt; omega) (by show x1.toInt + x2.toInt < (_ : Int); omega)
  refine k_iadd (v := v_19) C e_20.symm dX4_digits_5 ?_
  refine lv_iconst (v := 1) C.1 C.2.1 dX4_digits_6 (by decide) ?_
  obtain ⟨v_22, e_23⟩ : ∃ z, z = (v_19 : Int32) - (1 : Int32) := ⟨_, rfl⟩
  have h_24 : v_22.toInt = v_19.toInt - 1 := by rw [e_23]; exact ti_isub (by show (_ : Int) ≤ v_19.toInt - 1; omega) (by show v_19.toInt - 1 < (_ : Int); omega)
  refine k_isub (v := v_22) C e_23.symm dX4_digits_7 ?_
  refine lv_istore (lv' := [(7, .int v_22), (0, .ref (ad 19)), (1, .int x1), (2, .int x2), (3, .long x3), (5, .long x3)]) C.1 C.2.1 dX4_digits_8 hl (by decide) rfl (fun ls hl => ?_)
  have hl : lv_has ls 8 [(0, .ref (ad 19)), (1, .int x1), (2, .int x2), (3, .long x3), (5, .long x3), (7, .int v_22)] := lv_sub hl [1, 2, 3, 4, 5, 0] rfl
  exact L_10 400 t x3 v_22 _ _ _ hok hfr ⟨by omega, by omega⟩ (show v_22.toInt < x1.toInt + x2.toInt + 1 from by omega) (show x1.toInt - 1 ≤ v_22.toInt from by omega) (show (v_22.toInt - x1.toInt + 1) < ((400 : Nat) : Int) from by omega) hP hD hS (lv_sub hl [0, 1, 2, 3, 4, 5] rfl)

theorem dX1_fOf_0 : decode cX1_fOf 0 = .ok (.iload_n 0, 1) := by decide +kernel
theorem dX1_fOf_1 : decode cX1_fOf 1 = .ok (.invokestatic 64, 3) := by decide +kernel
theorem dX1_fOf_100 : decode cX1_fOf 100 = .ok (.bipush 55, 2) := by decide +kernel
theorem dX1_fOf_102 : decode cX1_fOf 102 = .ok (.if_icmp .gt 12, 3) := by decide +kernel
theorem dX1_fOf_105 : decode cX1_fOf 105 = .ok (.iload_n 0, 1) := by decide +kernel
theorem dX1_fOf_106 : decode cX1_fOf 106 = .ok (.bipush 105, 2) := by decide +kernel
theorem dX1_fOf_108 : decode cX1_fOf 108 = .ok (.isub, 1) := by decide +kernel
theorem dX1_fOf_109 : decode cX1_fOf 109 = .ok (.iconst 4, 1) := by decide +kernel
theorem dX1_fOf_11 : decode cX1_fOf 11 = .ok (.iload_n 1, 1) := by decide +kernel
theorem dX1_fOf_110 : decode cX1_fOf 110 = .ok (.irem, 1) := by decide +kernel
theorem dX1_fOf_111 : decode cX1_fOf 111 = .ok (.goto 4, 3) := by decide +kernel
theorem dX1_fOf_114 : decode cX1_fOf 114 = .ok (.iconst 5, 1) := by decide +kernel
theorem dX1_fOf_115 : decode cX1_fOf 115 = .ok (.ireturn, 1) := by decide +kernel
theorem dX1_fOf_12 : decode cX1_fOf 12 = .ok (.bipush 38, 2) := by decide +kernel
theorem dX1_fOf_14 : decode cX1_fOf 14 = .ok (.if_icmp .gt 5, 3) := by decide +kernel
theorem dX1_fOf_17 : decode cX1_fOf 17 = .ok (.iconst 0, 1) := by decide +kernel
theorem dX1_fOf_18 : decode cX1_fOf 18 = .ok (.ireturn, 1) := by decide +kernel
theorem dX1_fOf_19 : decode cX1_fOf 19 = .ok (.iload_n 1, 1) := by decide +kernel
theorem dX1_fOf_20 : decode cX1_fOf 20 = .ok (.iconst 5, 1) := by decide +kernel
theorem dX1_fOf_21 : decode cX1_fOf 21 = .ok (.if_icmp .eq 9, 3) := by decide +kernel
theorem dX1_fOf_24 : decode cX1_fOf 24 = .ok (.iload_n 1, 1) := by decide +kernel
theorem dX1_fOf_25 : decode cX1_fOf 25 = .ok (.bipush 6, 2) := by decide +kernel
theorem dX1_fOf_27 : decode cX1_fOf 27 = .ok (.if_icmp .ne 19, 3) := by decide +kernel
theorem dX1_fOf_30 : decode cX1_fOf 30 = .ok (.iload_n 1, 1) := by decide +kernel
theorem dX1_fOf_31 : decode cX1_fOf 31 = .ok (.iconst 5, 1) := by decide +kernel
theorem dX1_fOf_32 : decode cX1_fOf 32 = .ok (.if_icmp .ne 9, 3) := by decide +kernel
theorem dX1_fOf_35 : decode cX1_fOf 35 = .ok (.iload_n 0, 1) := by decide +kernel
theorem dX1_fOf_36 : decode cX1_fOf 36 = .ok (.iconst 5, 1) := by decide +kernel
theorem dX1_fOf_37 : decode cX1_fOf 37 = .ok (.isub, 1) := by decide +kernel
theorem dX1_fOf_38 : decode cX1_fOf 38 = .ok (.goto 7, 3) := by decide +kernel
theorem dX1_fOf_4 : decode cX1_fOf 4 = .ok (.istore_n 1, 1) := by decide +kernel
theorem dX1_fOf_41 : decode cX1_fOf 41 = .ok (.iload_n 0, 1) := by decide +kernel
theorem dX1_fOf_42 : decode cX1_fOf 42 = .ok (.bipush 9, 2) := by decide +kernel
theorem dX1_fOf_44 : decode cX1_fOf 44 = .ok (.isub, 1) := by decide +kernel
theorem dX1_fOf_45 : decode cX1_fOf 45 = .ok (.ireturn, 1) := by decide +kernel
theorem dX1_fOf_46 : decode cX1_fOf 46 = .ok (.iload_n 1, 1) := by decide +kernel
theorem dX1_fOf_47 : decode cX1_fOf 47 = .ok (.bipush 7, 2) := by decide +kernel
theorem dX1_fOf_49 : decode cX1_fOf 49 = .ok (.if_icmp .ne 5, 3) := by decide +kernel
theorem dX1_fOf_5 : decode cX1_fOf 5 = .ok (.iload_n 1, 1) := by decide +kernel
theorem dX1_fOf_52 : decode cX1_fOf 52 = .ok (.iconst 1, 1) := by decide +kernel
theorem dX1_fOf_53 : decode cX1_fOf 53 = .ok (.ireturn, 1) := by decide +kernel
theorem dX1_fOf_54 : decode cX1_fOf 54 = .ok (.iload_n 1, 1) := by decide +kernel
theorem dX1_fOf_55 : decode cX1_fOf 55 = .ok (.bipush 32, 2) := by decide +kernel
theorem dX1_fOf_57 : decode cX1_fOf 57 = .ok (.if_icmp .ne 5, 3) := by decide +kernel
theorem dX1_fOf_6 : decode cX1_fOf 6 = .ok (.bipush 34, 2) := by decide +kernel
theorem dX1_fOf_60 : decode cX1_fOf 60 = .ok (.iconst 2, 1) := by decide +kernel
theorem dX1_fOf_61 : decode cX1_fOf 61 = .ok (.ireturn, 1) := by decide +kernel
theorem dX1_fOf_62 : decode cX1_fOf 62 = .ok (.iload_n 1, 1) := by decide +kernel
theorem dX1_fOf_63 : decode cX1_fOf 63 = .ok (.bipush 39, 2) := by decide +kernel
theorem dX1_fOf_65 : decode cX1_fOf 65 = .ok (.if_icmp .ne 8, 3) := by decide +kernel
theorem dX1_fOf_68 : decode cX1_fOf 68 = .ok (.iload_n 0, 1) := by decide +kernel
theorem dX1_fOf_69 : decode cX1_fOf 69 = .ok (.bipush 47, 2) := by decide +kernel
theorem dX1_fOf_71 : decode cX1_fOf 71 = .ok (.isub, 1) := by decide +kernel
theorem dX1_fOf_72 : decode cX1_fOf 72 = .ok (.ireturn, 1) := by decide +kernel
theorem dX1_fOf_73 : decode cX1_fOf 73 = .ok (.iload_n 1, 1) := by decide +kernel
theorem dX1_fOf_74 : decode cX1_fOf 74 = .ok (.bipush 40, 2) := by decide +kernel
theorem dX1_fOf_76 : decode cX1_fOf 76 = .ok (.if_icmp .lt 17, 3) := by decide +kernel
theorem dX1_fOf_79 : decode cX1_fOf 79 = .ok (.iload_n 1, 1) := by decide +kernel
theorem dX1_fOf_8 : decode cX1_fOf 8 = .ok (.if_icmp .lt 11, 3) := by decide +kernel
theorem dX1_fOf_80 : decode cX1_fOf 80 = .ok (.bipush 47, 2) := by decide +kernel
theorem dX1_fOf_82 : decode cX1_fOf 82 = .ok (.if_icmp .gt 11, 3) := by decide +kernel
theorem dX1_fOf_85 : decode cX1_fOf 85 = .ok (.iload_n 0, 1) := by decide +kernel
theorem dX1_fOf_86 : decode cX1_fOf 86 = .ok (.bipush 57, 2) := by decide +kernel
theorem dX1_fOf_88 : decode cX1_fOf 88 = .ok (.isub, 1) := by decide +kernel
theorem dX1_fOf_89 : decode cX1_fOf 89 = .ok (.bipush 6, 2) := by decide +kernel
theorem dX1_fOf_91 : decode cX1_fOf 91 = .ok (.irem, 1) := by decide +kernel
theorem dX1_fOf_92 : decode cX1_fOf 92 = .ok (.ireturn, 1) := by decide +kernel
theorem dX1_fOf_93 : decode cX1_fOf 93 = .ok (.iload_n 1, 1) := by decide +kernel
theorem dX1_fOf_94 : decode cX1_fOf 94 = .ok (.bipush 48, 2) := by decide +kernel
theorem dX1_fOf_96 : decode cX1_fOf 96 = .ok (.if_icmp .lt 18, 3) := by decide +kernel
theorem dX1_fOf_99 : decode cX1_fOf 99 = .ok (.iload_n 1, 1) := by decide +kernel
set_option maxHeartbeats 4000000 in
set_option maxRecDepth 100000 in
theorem T_X1_fOf (l : Launch) (D : va_G) (K : Nat → ClassId) (Z Y : Nat → Nat) (ad : Nat → Nat) (d : dSt) (t : tSt) (hok : okX t) (x0 : Int32) (hx0 : (-1 : Int) ≤ x0.toInt ∧ x0.toInt ≤ 255) : tMet l yX1_fOf cX1_fOf 2 (some .int) (rmD 1 0 0) D K Z Y [.int x0] ((WX d) K ad t) (QI D K (fun (r : Int32) (u : Unit) => (-128 : Int) ≤ r.toInt ∧ r.toInt ≤ 255) (fun (_ : Unit) => (WX d) K ad t)) 0 0 := by
  refine t_met RX1 ⟨rfl, by decide +kernel⟩ (Nat.le_of_ble_eq_true rfl) ?_
  intro p e s m below meth c A ls C hE hZ hr hlocks hA hP hD hS hl
  have hl : lv_has ls 2 [(0, .int x0)] := hl
  have L_93 : ∀ (w93_1 : Int32) (H : Heap) (locs : List Loc) (ls : Array Slot), (-1 : Int) ≤ w93_1.toInt ∧ w93_1.toInt ≤ 255 → va_P D vwCl ((WX d) K ad t) H → va_D A ((WX d) K ad t) → va_S A s.heap H locs → lv_has ls 2 [(0, .int x0), (1, .int w93_1)] → W p l e (rmD 1 0 0) s m [.int x0].toArray below meth c H locs 0 0 (MQ below (QI D K (fun (r : Int32) (u : Unit) => (-128 : Int) ≤ r.toInt ∧ r.toInt ≤ 255) (fun (_ : Unit) => (WX d) K ad t) A) [.int x0].toArray s 0 0 A) (F0 m 93 ls []) := by
    intro w93_1 H locs ls hw93_1 hP hD hS hl
    refine lv_iload_n C.1 C.2.1 dX1_fOf_93 rfl (lv_at hl 1 rfl) ?_
    refine lv_bipush (v := 48) C.1 C.2.1 dX1_fOf_94 (by decide) ?_
    refine lv_icmp_lt (tgt := 114) C.1 C.2.1 dX1_fOf_96 (by decide) (fun c_1 => ?_) (fun c_1 => ?_)
    · replace c_1 : w93_1.toInt < 48 := i_lt c_1
      refine lv_iconst (v := 5) C.1 C.2.1 dX1_fOf_114 (by decide) ?_
      exact g_iret C hr hlocks hP hD hS rfl () rfl ⟨by decide, by decide⟩ (Nat.le_of_ble_eq_true rfl) (Nat.le_of_ble_eq_true rfl) dX1_fOf_115
    · replace c_1 : 48 ≤ w93_1.toInt := i_nlt c_1
      refine lv_iload_n C.1 C.2.1 dX1_fOf_99 rfl (lv_at hl 1 rfl) ?_
      refine lv_bipush (v := 55) C.1 C.2.1 dX1_fOf_100 (by decide) ?_
      refine lv_icmp_gt (tgt := 114) C.1 C.2.1 dX1_fOf_102 (by decide) (fun c_2 => ?_) (fun c_2 => ?_)
      · replace c_2 : 55 < w93_1.toInt := i_lt c_2
        refine lv_iconst (v := 5) C.1 C.2.1 dX1_fOf_114 (by decide) ?_
        exact g_iret C hr hlocks hP hD hS rfl () rfl ⟨by decide, by decide⟩ (Nat.le_of_ble_eq_true rfl) (Nat.le_of_ble_eq_true rfl) dX1_fOf_115
      · replace c_2 : w93_1.toInt ≤ 55 := i_nlt c_2
        refine lv_iload_n C.1 C.2.1 dX1_fOf_105 rfl (lv_at hl 0 rfl) ?_
        refine lv_bipush (v := 105) C.1 C.2.1 dX1_fOf_106 (by decide) ?_
        obtain ⟨v_3, e_4⟩ : ∃ z, z = (x0 : Int32) - (105 : Int32) := ⟨_, rfl⟩
        have h_5 : v_3.toInt = x0.toInt - 105 := by rw [e_4]; exact ti_isub (by show (_ : Int) ≤ x0.toInt - 105; omega) (by show x0.toInt - 105 < (_ : Int); omega)
        refine k_isub (v := v_3) C e_4.symm dX1_fOf_108 ?_
        refine lv_iconst (v := 4) C.1 C.2.1 dX1_fOf_109 (by decide) ?_
        obtain ⟨v_6, e_7⟩ : ∃ z, z = (v_3 : Int32) - (v_3 : Int32) / (4 : Int32) * (4 : Int32) := ⟨_, rfl⟩
        have h_8 : (-4 : Int) < v_6.toInt ∧ v_6.toInt < 4 := by rw [e_7]; exact z_remb (k := 4) (by decide) (by decide)
        refine k_irem (v := v_6) C (by decide) e_7.symm dX1_fOf_110 ?_
        refine lv_goto (tgt := 115) C.1 C.2.1 dX1_fOf_111 (by decide) ?_
        exact g_iret C hr hlocks hP hD hS rfl () rfl ⟨by omega, by omega⟩ (Nat.le_of_ble_eq_true rfl) (Nat.le_of_ble_eq_true rfl) dX1_fOf_115
  have L_30 : ∀ (w30_1 : Int32) (H : Heap) (locs : List Loc) (ls : Array Slot), (5 : Int) ≤ w30_1.toInt ∧ w30_1.toInt ≤ 6 → va_P D vwCl ((WX d) K ad t) H → va_D A ((WX d) K ad t) → va_S A s.heap H locs → lv_has ls 2 [(0, .int x0), (1, .int w30_1)] → W p l e (rmD 1 0 0) s m [.int x0].toArray below meth c H locs 0 0 (MQ below (QI D K (fun (r : Int32) (u : Unit) => (-128 : Int) ≤ r.toInt ∧ r.toInt ≤ 255) (fun (_ : Unit) => (WX d) K ad t) A) [.int x0].toArray s 0 0 A) (F0 m 30 ls []) := by
    intro w30_1 H locs ls hw30_1 hP hD hS hl
    refine lv_iload_n C.1 C.2.1 dX1_fOf_30 rfl (lv_at hl 1 rfl) ?_
    refine lv_iconst (v := 5) C.1 C.2.1 dX1_fOf_31 (by decide) ?_
    refine lv_icmp_ne (tgt := 41) C.1 C.2.1 dX1_fOf_32 (by decide) (fun c_9 => ?_) (fun c_9 => ?_)
    · replace c_9 : ¬ w30_1.toInt = 5 := i_ne c_9
      refine lv_iload_n C.1 C.2.1 dX1_fOf_41 rfl (lv_at hl 0 rfl) ?_
      refine lv_bipush (v := 9) C.1 C.2.1 dX1_fOf_42 (by decide) ?_
      obtain ⟨v_10, e_11⟩ : ∃ z, z = (x0 : Int32) - (9 : Int32) := ⟨_, rfl⟩
      have h_12 : v_10.toInt = x0.toInt - 9 := by rw [e_11]; exact ti_isub (by show (_ : Int) ≤ x0.toInt - 9; omega) (by show x0.toInt - 9 < (_ : Int); omega)
      refine k_isub (v := v_10) C e_11.symm dX1_fOf_44 ?_
      exact g_iret C hr hlocks hP hD hS rfl () rfl ⟨by omega, by omega⟩ (Nat.le_of_ble_eq_true rfl) (Nat.le_of_ble_eq_true rfl) dX1_fOf_45
    · replace c_9 : w30_1.toInt = 5 := i_eq c_9
      refine lv_iload_n C.1 C.2.1 dX1_fOf_35 rfl (lv_at hl 0 rfl) ?_
      refine lv_iconst (v := 5) C.1 C.2.1 dX1_fOf_36 (by decide) ?_
      obtain ⟨v_13, e_14⟩ : ∃ z, z = (x0 : Int32) - (5 : Int32) := ⟨_, rfl⟩
      have h_15 : v_13.toInt = x0.toInt - 5 := by rw [e_14]; exact ti_isub (by show (_ : Int) ≤ x0.toInt - 5; omega) (by show x0.toInt - 5 < (_ : Int); omega)
      refine k_isub (v := v_13) C e_14.symm dX1_fOf_37 ?_
      refine lv_goto (tgt := 45) C.1 C.2.1 dX1_fOf_38 (by decide) ?_
      exact g_iret C hr hlocks hP hD hS rfl () rfl ⟨by omega, by omega⟩ (Nat.le_of_ble_eq_true rfl) (Nat.le_of_ble_eq_true rfl) dX1_fOf_45
  have L_19 : ∀ (w19_1 : Int32) (H : Heap) (locs : List Loc) (ls : Array Slot), (-1 : Int) ≤ w19_1.toInt ∧ w19_1.toInt ≤ 255 → va_P D vwCl ((WX d) K ad t) H → va_D A ((WX d) K ad t) → va_S A s.heap H locs → lv_has ls 2 [(0, .int x0), (1, .int w19_1)] → W p l e (rmD 1 0 0) s m [.int x0].toArray below meth c H locs 0 0 (MQ below (QI D K (fun (r : Int32) (u : Unit) => (-128 : Int) ≤ r.toInt ∧ r.toInt ≤ 255) (fun (_ : Unit) => (WX d) K ad t) A) [.int x0].toArray s 0 0 A) (F0 m 19 ls []) := by
    intro w19_1 H locs ls hw19_1 hP hD hS hl
    refine lv_iload_n C.1 C.2.1 dX1_fOf_19 rfl (lv_at hl 1 rfl) ?_
    refine lv_iconst (v := 5) C.1 C.2.1 dX1_fOf_20 (by decide) ?_
    refine lv_icmp_eq (tgt := 30) C.1 C.2.1 dX1_fOf_21 (by decide) (fun c_16 => ?_) (fun c_16 => ?_)
    · replace c_16 : w19_1.toInt = 5 := i_eq c_16
      exact L_30 w19_1 _ _ _ ⟨by omega, by omega⟩ hP hD hS (lv_sub hl [0, 1] rfl)
    · replace c_16 : ¬ w19_1.toInt = 5 := i_ne c_16
      refine lv_iload_n C.1 C.2.1 dX1_fOf_24 rfl (lv_at hl 1 rfl) ?_
      refine lv_bipush (v := 6) C.1 C.2.1 dX1_fOf_25 (by decide) ?_
      refine lv_icmp_ne (tgt := 46) C.1 C.2.1 dX1_fOf_27 (by decide) (fun c_17 => ?_) (fun c_17 => ?_)
      · replace c_17 : ¬ w19_1.toInt = 6 := i_ne c_17
        refine lv_iload_n C.1 C.2.1 dX1_fOf_46 rfl (lv_at hl 1 rfl) ?_
        refine lv_bipush (v := 7) C.1 C.2.1 dX1_fOf_47 (by decide) ?_
        refine lv_icmp_ne (tgt := 54) C.1 C.2.1 dX1_fOf_49 (by decide) (fun c_18 => ?_) (fun c_18 => ?_)
        · replace c_18 : ¬ w19_1.toInt = 7 := i_ne c_18
          refine lv_iload_n C.1 C.2.1 dX1_fOf_54 rfl (lv_at hl 1 rfl) ?_
          refine lv_bipush (v := 32) C.1 C.2.1 dX1_fOf_55 (by decide) ?_
          refine lv_icmp_ne (tgt := 62) C.1 C.2.1 dX1_fOf_57 (by decide) (fun c_19 => ?_) (fun c_19 => ?_)
          · replace c_19 : ¬ w19_1.toInt = 32 := i_ne c_19
            refine lv_iload_n C.1 C.2.1 dX1_fOf_62 rfl (lv_at hl 1 rfl) ?_
            refine lv_bipush (v := 39) C.1 C.2.1 dX1_fOf_63 (by decide) ?_
            refine lv_icmp_ne (tgt := 73) C.1 C.2.1 dX1_fOf_65 (by decide) (fun c_20 => ?_) (fun c_20 => ?_)
            · replace c_20 : ¬ w19_1.toInt = 39 := i_ne c_20
              refine lv_iload_n C.1 C.2.1 dX1_fOf_73 rfl (lv_at hl 1 rfl) ?_
              refine lv_bipush (v := 40) C.1 C.2.1 dX1_fOf_74 (by decide) ?_
              refine lv_icmp_lt (tgt := 93) C.1 C.2.1 dX1_fOf_76 (by decide) (fun c_21 => ?_) (fun c_21 => ?_)
              · replace c_21 : w19_1.toInt < 40 := i_lt c_21
                exact L_93 w19_1 _ _ _ ⟨by omega, by omega⟩ hP hD hS (lv_sub hl [0, 1] rfl)
              · replace c_21 : 40 ≤ w19_1.toInt := i_nlt c_21
                refine lv_iload_n C.1 C.2.1 dX1_fOf_79 rfl (lv_at hl 1 rfl) ?_
                refine lv_bipush (v := 47) C.1 C.2.1 dX1_fOf_80 (by decide) ?_
                refine lv_icmp_gt (tgt := 93) C.1 C.2.1 dX1_fOf_82 (by decide) (fun c_22 => ?_) (fun c_22 => ?_)
                · replace c_22 : 47 < w19_1.toInt := i_lt c_22
                  exact L_93 w19_1 _ _ _ ⟨by omega, by omega⟩ hP hD hS (lv_sub hl [0, 1] rfl)
                · replace c_22 : w19_1.toInt ≤ 47 := i_nlt c_22
                  refine lv_iload_n C.1 C.2.1 dX1_fOf_85 rfl (lv_at hl 0 rfl) ?_
                  refine lv_bipush (v := 57) C.1 C.2.1 dX1_fOf_86 (by decide) ?_
                  obtain ⟨v_23, e_24⟩ : ∃ z, z = (x0 : Int32) - (57 : Int32) := ⟨_, rfl⟩
                  have h_25 : v_23.toInt = x0.toInt - 57 := by rw [e_24]; exact ti_isub (by show (_ : Int) ≤ x0.toInt - 57; omega) (by show x0.toInt - 57 < (_ : Int); omega)
                  refine k_isub (v := v_23) C e_24.symm dX1_fOf_88 ?_
                  refine lv_bipush (v := 6) C.1 C.2.1 dX1_fOf_89 (by decide) ?_
                  obtain ⟨v_26, e_27⟩ : ∃ z, z = (v_23 : Int32) - (v_23 : Int32) / (6 : Int32) * (6 : Int32) := ⟨_, rfl⟩
                  have h_28 : (-6 : Int) < v_26.toInt ∧ v_26.toInt < 6 := by rw [e_27]; exact z_remb (k := 6) (by decide) (by decide)
                  refine k_irem (v := v_26) C (by decide) e_27.symm dX1_fOf_91 ?_
                  exact g_iret C hr hlocks hP hD hS rfl () rfl ⟨by omega, by omega⟩ (Nat.le_of_ble_eq_true rfl) (Nat.le_of_ble_eq_true rfl) dX1_fOf_92
            · replace c_20 : w19_1.toInt = 39 := i_eq c_20
              refine lv_iload_n C.1 C.2.1 dX1_fOf_68 rfl (lv_at hl 0 rfl) ?_
              refine lv_bipush (v := 47) C.1 C.2.1 dX1_fOf_69 (by decide) ?_
              obtain ⟨v_29, e_30⟩ : ∃ z, z = (x0 : Int32) - (47 : Int32) := ⟨_, rfl⟩
              have h_31 : v_29.toInt = x0.toInt - 47 := by rw [e_30]; exact ti_isub (by show (_ : Int) ≤ x0.toInt - 47; omega) (by show x0.toInt - 47 < (_ : Int); omega)
              refine k_isub (v := v_29) C e_30.symm dX1_fOf_71 ?_
              exact g_iret C hr hlocks hP hD hS rfl () rfl ⟨by omega, by omega⟩ (Nat.le_of_ble_eq_true rfl) (Nat.le_of_ble_eq_true rfl) dX1_fOf_72
          · replace c_19 : w19_1.toInt = 32 := i_eq c_19
            refine lv_iconst (v := 2) C.1 C.2.1 dX1_fOf_60 (by decide) ?_
            exact g_iret C hr hlocks hP hD hS rfl () rfl ⟨by decide, by decide⟩ (Nat.le_of_ble_eq_true rfl) (Nat.le_of_ble_eq_true rfl) dX1_fOf_61
        · replace c_18 : w19_1.toInt = 7 := i_eq c_18
          refine lv_iconst (v := 1) C.1 C.2.1 dX1_fOf_52 (by decide) ?_
          exact g_iret C hr hlocks hP hD hS rfl () rfl ⟨by decide, by decide⟩ (Nat.le_of_ble_eq_true rfl) (Nat.le_of_ble_eq_true rfl) dX1_fOf_53
      · replace c_17 : w19_1.toInt = 6 := i_eq c_17
        exact L_30 w19_1 _ _ _ ⟨by omega, by omega⟩ hP hD hS (lv_sub hl [0, 1] rfl)
  refine lv_iload_n C.1 C.2.1 dX1_fOf_0 rfl (lv_at hl 0 rfl) ?_
  refine g_Si (As := [.int x0]) (rest := []) C hP hD hS hA (T_X1_cOf l D K Z Y ad d t hok (x0) (show (-1 : Int) ≤ (x0 : Int32).toInt ∧ (x0 : Int32).toInt ≤ 255 from ⟨by omega, by omega⟩)) hE hZ (uwS m_25_3 m_25_4 m_14_2 m_25_5) (hdS 1 (by decide +kernel) rfl) ⟨Nat.le_of_ble_eq_true rfl, Nat.le_of_ble_eq_true rfl⟩ rfl rfl rfl hl.1 (Nat.le_of_ble_eq_true rfl) dX1_fOf_1 ⟨Nat.le_of_ble_eq_true rfl, Nat.le_of_ble_eq_true rfl⟩ (fun r_33 t_32 H locs hw hP hD hS => ?_)
  obtain ⟨h_35, h_36⟩ := hw
  refine lv_istore_n (lv' := [(1, .int r_33), (0, .int x0)]) C.1 C.2.1 dX1_fOf_4 rfl hl (by decide) rfl (fun ls hl => ?_)
  have hl : lv_has ls 2 [(0, .int x0), (1, .int r_33)] := lv_sub hl [1, 0] rfl
  refine lv_iload_n C.1 C.2.1 dX1_fOf_5 rfl (lv_at hl 1 rfl) ?_
  refine lv_bipush (v := 34) C.1 C.2.1 dX1_fOf_6 (by decide) ?_
  refine lv_icmp_lt (tgt := 19) C.1 C.2.1 dX1_fOf_8 (by decide) (fun c_37 => ?_) (fun c_37 => ?_)
  · replace c_37 : r_33.toInt < 34 := i_lt c_37
    exact L_19 r_33 _ _ _ ⟨by omega, by omega⟩ hP hD hS (lv_sub hl [0, 1] rfl)
  · replace c_37 : 34 ≤ r_33.toInt := i_nlt c_37
    refine lv_iload_n C.1 C.2.1 dX1_fOf_11 rfl (lv_at hl 1 rfl) ?_
    refine lv_bipush (v := 38) C.1 C.2.1 dX1_fOf_12 (by decide) ?_
    refine lv_icmp_gt (tgt := 19) C.1 C.2.1 dX1_fOf_14 (by decide) (fun c_38 => ?_) (fun c_38 => ?_)
    · replace c_38 : 38 < r_33.toInt := i_lt c_38
      exact L_19 r_33 _ _ _ ⟨by omega, by omega⟩ hP hD hS (lv_sub hl [0, 1] rfl)
    · replace c_38 : r_33.toInt ≤ 38 := i_nlt c_38
      refine lv_iconst (v := 0) C.1 C.2.1 dX1_fOf_17 (by decide) ?_
      exact g_iret C hr hlocks hP hD hS rfl () rfl ⟨by decide, by decide⟩ (Nat.le_of_ble_eq_true rfl) (Nat.le_of_ble_eq_true rfl) dX1_fOf_18

theorem dX5_atom_0 : decode cX5_atom 0 = .ok (.aload_n 0, 1) := by decide +kernel
theorem dX5_atom_1 : decode cX5_atom 1 = .ok (.bipush 42, 2) := by decide +kernel
theorem dX5_atom_10 : decode cX5_atom 10 = .ok (.getfield 29, 3) := by decide +kernel
theorem dX5_atom_100 : decode cX5_atom 100 = .ok (.iconst 4, 1) := by decide +kernel
theorem dX5_atom_101 : decode cX5_atom 101 = .ok (.if_icmp .ne 47, 3) := by decide +kernel
theorem dX5_atom_104 : decode cX5_atom 104 = .ok (.aload_n 0, 1) := by decide +kernel
theorem dX5_atom_105 : decode cX5_atom 105 = .ok (.getfield 54, 3) := by decide +kernel
theorem dX5_atom_108 : decode cX5_atom 108 = .ok (.ifCond .lt 40, 3) := by decide +kernel
theorem dX5_atom_111 : decode cX5_atom 111 = .ok (.aload_n 0, 1) := by decide +kernel
theorem dX5_atom_112 : decode cX5_atom 112 = .ok (.getfield 54, 3) := by decide +kernel
theorem dX5_atom_115 : decode cX5_atom 115 = .ok (.bipush 10, 2) := by decide +kernel
theorem dX5_atom_117 : decode cX5_atom 117 = .ok (.if_icmp .ge 31, 3) := by decide +kernel
theorem dX5_atom_120 : decode cX5_atom 120 = .ok (.aload_n 0, 1) := by decide +kernel
theorem dX5_atom_121 : decode cX5_atom 121 = .ok (.getfield 15, 3) := by decide +kernel
theorem dX5_atom_124 : decode cX5_atom 124 = .ok (.getfield 92, 3) := by decide +kernel
theorem dX5_atom_127 : decode cX5_atom 127 = .ok (.aload_n 0, 1) := by decide +kernel
theorem dX5_atom_128 : decode cX5_atom 128 = .ok (.getfield 54, 3) := by decide +kernel
theorem dX5_atom_13 : decode cX5_atom 13 = .ok (.i2l, 1) := by decide +kernel
theorem dX5_atom_131 : decode cX5_atom 131 = .ok (.baload, 1) := by decide +kernel
theorem dX5_atom_132 : decode cX5_atom 132 = .ok (.ifCond .eq 16, 3) := by decide +kernel
theorem dX5_atom_135 : decode cX5_atom 135 = .ok (.aload_n 0, 1) := by decide +kernel
theorem dX5_atom_136 : decode cX5_atom 136 = .ok (.getfield 15, 3) := by decide +kernel
theorem dX5_atom_139 : decode cX5_atom 139 = .ok (.getfield 96, 3) := by decide +kernel
theorem dX5_atom_14 : decode cX5_atom 14 = .ok (.invokestatic 77, 3) := by decide +kernel
theorem dX5_atom_142 : decode cX5_atom 142 = .ok (.aload_n 0, 1) := by decide +kernel
theorem dX5_atom_143 : decode cX5_atom 143 = .ok (.getfield 54, 3) := by decide +kernel
theorem dX5_atom_146 : decode cX5_atom 146 = .ok (.iaload, 1) := by decide +kernel
theorem dX5_atom_147 : decode cX5_atom 147 = .ok (.ireturn, 1) := by decide +kernel
theorem dX5_atom_148 : decode cX5_atom 148 = .ok (.aload_n 0, 1) := by decide +kernel
theorem dX5_atom_149 : decode cX5_atom 149 = .ok (.iload_n 1, 1) := by decide +kernel
theorem dX5_atom_150 : decode cX5_atom 150 = .ok (.iconst 2, 1) := by decide +kernel
theorem dX5_atom_151 : decode cX5_atom 151 = .ok (.if_icmp .eq 13, 3) := by decide +kernel
theorem dX5_atom_154 : decode cX5_atom 154 = .ok (.iload_n 1, 1) := by decide +kernel
theorem dX5_atom_155 : decode cX5_atom 155 = .ok (.iconst 4, 1) := by decide +kernel
theorem dX5_atom_156 : decode cX5_atom 156 = .ok (.if_icmp .eq 8, 3) := by decide +kernel
theorem dX5_atom_159 : decode cX5_atom 159 = .ok (.iload_n 1, 1) := by decide +kernel
theorem dX5_atom_160 : decode cX5_atom 160 = .ok (.iconst 5, 1) := by decide +kernel
theorem dX5_atom_161 : decode cX5_atom 161 = .ok (.if_icmp .ne 7, 3) := by decide +kernel
theorem dX5_atom_164 : decode cX5_atom 164 = .ok (.iconst 4, 1) := by decide +kernel
theorem dX5_atom_165 : decode cX5_atom 165 = .ok (.goto 4, 3) := by decide +kernel
theorem dX5_atom_168 : decode cX5_atom 168 = .ok (.iconst 1, 1) := by decide +kernel
theorem dX5_atom_169 : decode cX5_atom 169 = .ok (.invokevirtual 99, 3) := by decide +kernel
theorem dX5_atom_17 : decode cX5_atom 17 = .ok (.ireturn, 1) := by decide +kernel
theorem dX5_atom_172 : decode cX5_atom 172 = .ok (.iconst 0, 1) := by decide +kernel
theorem dX5_atom_173 : decode cX5_atom 173 = .ok (.ireturn, 1) := by decide +kernel
theorem dX5_atom_18 : decode cX5_atom 18 = .ok (.aload_n 0, 1) := by decide +kernel
theorem dX5_atom_19 : decode cX5_atom 19 = .ok (.invokevirtual 35, 3) := by decide +kernel
theorem dX5_atom_22 : decode cX5_atom 22 = .ok (.istore_n 1, 1) := by decide +kernel
theorem dX5_atom_23 : decode cX5_atom 23 = .ok (.iload_n 1, 1) := by decide +kernel
theorem dX5_atom_24 : decode cX5_atom 24 = .ok (.iconst 1, 1) := by decide +kernel
theorem dX5_atom_25 : decode cX5_atom 25 = .ok (.if_icmp .ne 20, 3) := by decide +kernel
theorem dX5_atom_28 : decode cX5_atom 28 = .ok (.aload_n 0, 1) := by decide +kernel
theorem dX5_atom_29 : decode cX5_atom 29 = .ok (.getfield 47, 3) := by decide +kernel
theorem dX5_atom_3 : decode cX5_atom 3 = .ok (.invokevirtual 73, 3) := by decide +kernel
theorem dX5_atom_32 : decode cX5_atom 32 = .ok (.ldc2_w 82, 3) := by decide +kernel
theorem dX5_atom_35 : decode cX5_atom 35 = .ok (.lcmp, 1) := by decide +kernel
theorem dX5_atom_36 : decode cX5_atom 36 = .ok (.ifCond .gt 9, 3) := by decide +kernel
theorem dX5_atom_39 : decode cX5_atom 39 = .ok (.aload_n 0, 1) := by decide +kernel
theorem dX5_atom_40 : decode cX5_atom 40 = .ok (.getfield 47, 3) := by decide +kernel
theorem dX5_atom_43 : decode cX5_atom 43 = .ok (.l2i, 1) := by decide +kernel
theorem dX5_atom_44 : decode cX5_atom 44 = .ok (.ireturn, 1) := by decide +kernel
theorem dX5_atom_45 : decode cX5_atom 45 = .ok (.iload_n 1, 1) := by decide +kernel
theorem dX5_atom_46 : decode cX5_atom 46 = .ok (.iconst 2, 1) := by decide +kernel
theorem dX5_atom_47 : decode cX5_atom 47 = .ok (.if_icmp .ne 52, 3) := by decide +kernel
theorem dX5_atom_50 : decode cX5_atom 50 = .ok (.aload_n 0, 1) := by decide +kernel
theorem dX5_atom_51 : decode cX5_atom 51 = .ok (.getfield 15, 3) := by decide +kernel
theorem dX5_atom_54 : decode cX5_atom 54 = .ok (.aload_n 0, 1) := by decide +kernel
theorem dX5_atom_55 : decode cX5_atom 55 = .ok (.getfield 43, 3) := by decide +kernel
theorem dX5_atom_58 : decode cX5_atom 58 = .ok (.invokevirtual 60, 3) := by decide +kernel
theorem dX5_atom_6 : decode cX5_atom 6 = .ok (.ifCond .eq 12, 3) := by decide +kernel
theorem dX5_atom_61 : decode cX5_atom 61 = .ok (.istore_n 2, 1) := by decide +kernel
theorem dX5_atom_62 : decode cX5_atom 62 = .ok (.iload_n 2, 1) := by decide +kernel
theorem dX5_atom_63 : decode cX5_atom 63 = .ok (.ifCond .lt 36, 3) := by decide +kernel
theorem dX5_atom_66 : decode cX5_atom 66 = .ok (.aload_n 0, 1) := by decide +kernel
theorem dX5_atom_67 : decode cX5_atom 67 = .ok (.getfield 15, 3) := by decide +kernel
theorem dX5_atom_70 : decode cX5_atom 70 = .ok (.iload_n 2, 1) := by decide +kernel
theorem dX5_atom_71 : decode cX5_atom 71 = .ok (.invokevirtual 66, 3) := by decide +kernel
theorem dX5_atom_74 : decode cX5_atom 74 = .ok (.ifCond .eq 25, 3) := by decide +kernel
theorem dX5_atom_77 : decode cX5_atom 77 = .ok (.aload_n 0, 1) := by decide +kernel
theorem dX5_atom_78 : decode cX5_atom 78 = .ok (.getfield 15, 3) := by decide +kernel
theorem dX5_atom_81 : decode cX5_atom 81 = .ok (.iload_n 2, 1) := by decide +kernel
theorem dX5_atom_82 : decode cX5_atom 82 = .ok (.aload_n 0, 1) := by decide +kernel
theorem dX5_atom_83 : decode cX5_atom 83 = .ok (.getfield 32, 3) := by decide +kernel
theorem dX5_atom_86 : decode cX5_atom 86 = .ok (.invokevirtual 84, 3) := by decide +kernel
theorem dX5_atom_89 : decode cX5_atom 89 = .ok (.aload_n 0, 1) := by decide +kernel
theorem dX5_atom_9 : decode cX5_atom 9 = .ok (.aload_n 0, 1) := by decide +kernel
theorem dX5_atom_90 : decode cX5_atom 90 = .ok (.getfield 15, 3) := by decide +kernel
theorem dX5_atom_93 : decode cX5_atom 93 = .ok (.getfield 88, 3) := by decide +kernel
theorem dX5_atom_96 : decode cX5_atom 96 = .ok (.iload_n 2, 1) := by decide +kernel
theorem dX5_atom_97 : decode cX5_atom 97 = .ok (.iaload, 1) := by decide +kernel
theorem dX5_atom_98 : decode cX5_atom 98 = .ok (.ireturn, 1) := by decide +kernel
theorem dX5_atom_99 : decode cX5_atom 99 = .ok (.iload_n 1, 1) := by decide +kernel
set_option maxHeartbeats 4000000 in
set_option maxRecDepth 100000 in
theorem T_X5_atom (l : Launch) (D : va_G) (K : Nat → ClassId) (Z Y : Nat → Nat) (ad : Nat → Nat) (d : dSt) (t : tSt) (hok : okX t)  : tMet l yX5_atom cX5_atom 3 (some .int) (rmD 2 0 0) D K Z Y [.ref (ad 24)] ((WX d) K ad t) (QI D K (fun (r : Int32) (u : tSt) => okX u ∧ frA [(23, 6), (24, 2), (24, 4), (24, 8)] [(24, 7), (24, 9)] [44, 45] [] t u ∧ (-2147483648 : Int) ≤ r.toInt ∧ r.toInt ≤ 2147483647) (fun (u : tSt) => (WX d) K ad u)) 0 0 := by
  refine t_met RX5 ⟨rfl, by decide +kernel⟩ (Nat.le_of_ble_eq_true rfl) ?_
  intro p e s m below meth c A ls C hE hZ hr hlocks hA hP hD hS hl
  have hl : lv_has ls 3 [(0, .ref (ad 24))] := hl
  have hokt := hok
  have hfr : frA [(23, 6), (24, 2), (24, 4), (24, 8)] [(24, 7), (24, 9)] [44, 45] [] t t := frA_rf
  have h_1 : (0 : Int) ≤ (t.1 23 3).toInt ∧ (t.1 23 3).toInt ≤ 1024 := hok.1 23 3
  have L_164 : ∀ (t1 : tSt) (w164_1 : Int32) (H : Heap) (locs : List Loc) (ls : Array Slot), okX t1 → frA [(23, 6), (24, 2), (24, 4), (24, 8)] [(24, 7), (24, 9)] [44, 45] [] t t1 → (2 : Int) ≤ w164_1.toInt ∧ w164_1.toInt ≤ 5 → va_P D vwCl ((WX d) K ad t1) H → va_D A ((WX d) K ad t1) → va_S A s.heap H locs → lv_has ls 3 [(0, .ref (ad 24)), (1, .int w164_1)] → W p l e (rmD 2 0 0) s m [.ref (ad 24)].toArray below meth c H locs 0 0 (MQ below (QI D K (fun (r : Int32) (u : tSt) => okX u ∧ frA [(23, 6), (24, 2), (24, 4), (24, 8)] [(24, 7), (24, 9)] [44, 45] [] t u ∧ (-2147483648 : Int) ≤ r.toInt ∧ r.toInt ≤ 2147483647) (fun (u : tSt) => (WX d) K ad u) A) [.ref (ad 24)].toArray s 0 0 A) (F0 m 164 ls [.ref (ad 24)]) := by
    intro t1 w164_1 H locs ls hok hfr hw164_1 hP hD hS hl
    have h_2 : (t1.1 23 3).toInt = (t.1 23 3).toInt := ti_eq (hfr.1 23 3 rfl)
    have h_3 : (0 : Int) ≤ (t1.1 23 3).toInt ∧ (t1.1 23 3).toInt ≤ 1024 := hok.1 23 3
    refine lv_iconst (v := 4) C.1 C.2.1 dX5_atom_164 (by decide) ?_
    refine lv_goto (tgt := 169) C.1 C.2.1 dX5_atom_165 (by decide) ?_
    refine g_Vv (As := [.int 4]) (rest := []) C hP hD hS hA (T_X5_fail l D K Z Y ad d t1 hok 4 (show (1 : Int) ≤ (4 : Int32).toInt ∧ (4 : Int32).toInt ≤ 6 from ⟨by decide, by decide⟩)) hE hZ (uwV m_23_0 m_23_1 m_23_2 m_5_22 m_23_3) (hdV 1 (by decide +kernel) rfl) ⟨Nat.le_of_ble_eq_true rfl, Nat.le_of_ble_eq_true rfl⟩ rfl rfl (ci := 4) (q0 := 24) rfl rfl rfl hl.1 (Nat.le_of_ble_eq_true rfl) dX5_atom_169 ⟨Nat.le_of_ble_eq_true rfl, Nat.le_of_ble_eq_true rfl⟩ (fun t_4 H locs hw hP hD hS => ?_)
    obtain ⟨hok, f_6⟩ := hw
    have hfr : frA [(23, 6), (24, 2), (24, 4), (24, 8)] [(24, 7), (24, 9)] [44, 45] [] t t_4 := frA_tr hfr f_6 rfl
    have h_7 : (t_4.1 23 3).toInt = (t1.1 23 3).toInt := ti_eq (f_6.1 23 3 rfl)
    have h_8 : (0 : Int) ≤ (t_4.1 23 3).toInt ∧ (t_4.1 23 3).toInt ≤ 1024 := hok.1 23 3
    refine lv_iconst (v := 0) C.1 C.2.1 dX5_atom_172 (by decide) ?_
    exact g_iret C hr hlocks hP hD hS rfl t_4 rfl ⟨hok, hfr, (i_rng _).1, (i_rng _).2⟩ (Nat.le_of_ble_eq_true rfl) (Nat.le_of_ble_eq_true rfl) dX5_atom_173
  have L_148 : ∀ (t1 : tSt) (w148_1 : Int32) (H : Heap) (locs : List Loc) (ls : Array Slot), okX t1 → frA [(23, 6), (24, 2), (24, 4), (24, 8)] [(24, 7), (24, 9)] [44, 45] [] t t1 → (0 : Int) ≤ w148_1.toInt ∧ w148_1.toInt ≤ 5 → va_P D vwCl ((WX d) K ad t1) H → va_D A ((WX d) K ad t1) → va_S A s.heap H locs → lv_has ls 3 [(0, .ref (ad 24)), (1, .int w148_1)] → W p l e (rmD 2 0 0) s m [.ref (ad 24)].toArray below meth c H locs 0 0 (MQ below (QI D K (fun (r : Int32) (u : tSt) => okX u ∧ frA [(23, 6), (24, 2), (24, 4), (24, 8)] [(24, 7), (24, 9)] [44, 45] [] t u ∧ (-2147483648 : Int) ≤ r.toInt ∧ r.toInt ≤ 2147483647) (fun (u : tSt) => (WX d) K ad u) A) [.ref (ad 24)].toArray s 0 0 A) (F0 m 148 ls []) := by
    intro t1 w148_1 H locs ls hok hfr hw148_1 hP hD hS hl
    have h_9 : (t1.1 23 3).toInt = (t.1 23 3).toInt := ti_eq (hfr.1 23 3 rfl)
    have h_10 : (0 : Int) ≤ (t1.1 23 3).toInt ∧ (t1.1 23 3).toInt ≤ 1024 := hok.1 23 3
    refine lv_aload_n C.1 C.2.1 dX5_atom_148 rfl (lv_at hl 0 rfl) ?_
    refine lv_iload_n C.1 C.2.1 dX5_atom_149 rfl (lv_at hl 1 rfl) ?_
    refine lv_iconst (v := 2) C.1 C.2.1 dX5_atom_150 (by decide) ?_
    refine lv_icmp_eq (tgt := 164) C.1 C.2.1 dX5_atom_151 (by decide) (fun c_11 => ?_) (fun c_11 => ?_)
    · replace c_11 : w148_1.toInt = 2 := i_eq c_11
      exact L_164 t1 w148_1 _ _ _ hok hfr ⟨by omega, by omega⟩ hP hD hS (lv_sub hl [0, 1] rfl)
    · replace c_11 : ¬ w148_1.toInt = 2 := i_ne c_11
      refine lv_iload_n C.1 C.2.1 dX5_atom_154 rfl (lv_at hl 1 rfl) ?_
      refine lv_iconst (v := 4) C.1 C.2.1 dX5_atom_155 (by decide) ?_
      refine lv_icmp_eq (tgt := 164) C.1 C.2.1 dX5_atom_156 (by decide) (fun c_12 => ?_) (fun c_12 => ?_)
      · replace c_12 : w148_1.toInt = 4 := i_eq c_12
        exact L_164 t1 w148_1 _ _ _ hok hfr ⟨by omega, by omega⟩ hP hD hS (lv_sub hl [0, 1] rfl)
      · replace c_12 : ¬ w148_1.toInt = 4 := i_ne c_12
        refine lv_iload_n C.1 C.2.1 dX5_atom_159 rfl (lv_at hl 1 rfl) ?_
        refine lv_iconst (v := 5) C.1 C.2.1 dX5_atom_160 (by decide) ?_
        refine lv_icmp_ne (tgt := 168) C.1 C.2.1 dX5_atom_161 (by decide) (fun c_13 => ?_) (fun c_13 => ?_)
        · replace c_13 : ¬ w148_1.toInt = 5 := i_ne c_13
          refine lv_iconst (v := 1) C.1 C.2.1 dX5_atom_168 (by decide) ?_
          refine g_Vv (As := [.int 1]) (rest := []) C hP hD hS hA (T_X5_fail l D K Z Y ad d t1 hok 1 (show (1 : Int) ≤ (1 : Int32).toInt ∧ (1 : Int32).toInt ≤ 6 from ⟨by decide, by decide⟩)) hE hZ (uwV m_23_0 m_23_1 m_23_2 m_5_22 m_23_3) (hdV 1 (by decide +kernel) rfl) ⟨Nat.le_of_ble_eq_true rfl, Nat.le_of_ble_eq_true rfl⟩ rfl rfl (ci := 4) (q0 := 24) rfl rfl rfl hl.1 (Nat.le_of_ble_eq_true rfl) dX5_atom_169 ⟨Nat.le_of_ble_eq_true rfl, Nat.le_of_ble_eq_true rfl⟩ (fun t_14 H locs hw hP hD hS => ?_)
          obtain ⟨hok, f_16⟩ := hw
          have hfr : frA [(23, 6), (24, 2), (24, 4), (24, 8)] [(24, 7), (24, 9)] [44, 45] [] t t_14 := frA_tr hfr f_16 rfl
          have h_17 : (t_14.1 23 3).toInt = (t1.1 23 3).toInt := ti_eq (f_16.1 23 3 rfl)
          have h_18 : (0 : Int) ≤ (t_14.1 23 3).toInt ∧ (t_14.1 23 3).toInt ≤ 1024 := hok.1 23 3
          refine lv_iconst (v := 0) C.1 C.2.1 dX5_atom_172 (by decide) ?_
          exact g_iret C hr hlocks hP hD hS rfl t_14 rfl ⟨hok, hfr, (i_rng _).1, (i_rng _).2⟩ (Nat.le_of_ble_eq_true rfl) (Nat.le_of_ble_eq_true rfl) dX5_atom_173
        · replace c_13 : w148_1.toInt = 5 := i_eq c_13
          exact L_164 t1 w148_1 _ _ _ hok hfr ⟨by omega, by omega⟩ hP hD hS (lv_sub hl [0, 1] rfl)
  have L_99 : ∀ (t1 : tSt) (w99_1 : Int32) (H : Heap) (locs : List Loc) (ls : Array Slot), okX t1 → frA [(23, 6), (24, 2), (24, 4), (24, 8)] [(24, 7), (24, 9)] [44, 45] [] t t1 → (0 : Int) ≤ w99_1.toInt ∧ w99_1.toInt ≤ 5 → va_P D vwCl ((WX d) K ad t1) H → va_D A ((WX d) K ad t1) → va_S A s.heap H locs → lv_has ls 3 [(0, .ref (ad 24)), (1, .int w99_1)] → W p l e (rmD 2 0 0) s m [.ref (ad 24)].toArray below meth c H locs 0 0 (MQ below (QI D K (fun (r : Int32) (u : tSt) => okX u ∧ frA [(23, 6), (24, 2), (24, 4), (24, 8)] [(24, 7), (24, 9)] [44, 45] [] t u ∧ (-2147483648 : Int) ≤ r.toInt ∧ r.toInt ≤ 2147483647) (fun (u : tSt) => (WX d) K ad u) A) [.ref (ad 24)].toArray s 0 0 A) (F0 m 99 ls []) := by
    intro t1 w99_1 H locs ls hok hfr hw99_1 hP hD hS hl
    have h_19 : (t1.1 23 3).toInt = (t.1 23 3).toInt := ti_eq (hfr.1 23 3 rfl)
    have h_20 : (0 : Int) ≤ (t1.1 23 3).toInt ∧ (t1.1 23 3).toInt ≤ 1024 := hok.1 23 3
    refine lv_iload_n C.1 C.2.1 dX5_atom_99 rfl (lv_at hl 1 rfl) ?_
    refine lv_iconst (v := 4) C.1 C.2.1 dX5_atom_100 (by decide) ?_
    refine lv_icmp_ne (tgt := 148) C.1 C.2.1 dX5_atom_101 (by decide) (fun c_21 => ?_) (fun c_21 => ?_)
    · replace c_21 : ¬ w99_1.toInt = 4 := i_ne c_21
      exact L_148 t1 w99_1 _ _ _ hok hfr ⟨by omega, by omega⟩ hP hD hS (lv_sub hl [0, 1] rfl)
    · replace c_21 : w99_1.toInt = 4 := i_eq c_21
      refine lv_aload_n C.1 C.2.1 dX5_atom_104 rfl (lv_at hl 0 rfl) ?_
      have h_22 : (-3999 : Int) ≤ (t1.1 24 8).toInt ∧ (t1.1 24 8).toInt ≤ 79 := hok.1 24 8
      refine k_get (v := .int (t1.1 24 8)) C hP 24 rfl rfl inlX5 8 (by decide) m_19_19 rfl dX5_atom_105 ?_
      refine lv_if_lt (tgt := 148) C.1 C.2.1 dX5_atom_108 (by decide) (fun c_23 => ?_) (fun c_23 => ?_)
      · replace c_23 : (t1.1 24 8).toInt < 0 := i_lt c_23
        exact L_148 t1 w99_1 _ _ _ hok hfr ⟨by omega, by omega⟩ hP hD hS (lv_sub hl [0, 1] rfl)
      · replace c_23 : 0 ≤ (t1.1 24 8).toInt := i_nlt c_23
        refine lv_aload_n C.1 C.2.1 dX5_atom_111 rfl (lv_at hl 0 rfl) ?_
        refine k_get (v := .int (t1.1 24 8)) C hP 24 rfl rfl inlX5 8 (by decide) m_19_19 rfl dX5_atom_112 ?_
        refine lv_bipush (v := 10) C.1 C.2.1 dX5_atom_115 (by decide) ?_
        refine lv_icmp_ge (tgt := 148) C.1 C.2.1 dX5_atom_117 (by decide) (fun c_24 => ?_) (fun c_24 => ?_)
        · replace c_24 : 10 ≤ (t1.1 24 8).toInt := i_le c_24
          exact L_148 t1 w99_1 _ _ _ hok hfr ⟨by omega, by omega⟩ hP hD hS (lv_sub hl [0, 1] rfl)
        · replace c_24 : (t1.1 24 8).toInt < 10 := i_nle c_24
          refine lv_aload_n C.1 C.2.1 dX5_atom_120 rfl (lv_at hl 0 rfl) ?_
          refine k_get (v := .ref (ad 23)) C hP 24 rfl rfl inlX5 1 (by decide) m_6_6 rfl dX5_atom_121 ?_
          refine k_get (v := .ref (ad 47)) C hP 23 rfl rfl inlX8 8 (by decide) m_22_7 rfl dX5_atom_124 ?_
          refine lv_aload_n C.1 C.2.1 dX5_atom_127 rfl (lv_at hl 0 rfl) ?_
          refine k_get (v := .int (t1.1 24 8)) C hP 24 rfl rfl inlX5 8 (by decide) m_19_19 rfl dX5_atom_128 ?_
          obtain ⟨v_25, e_26⟩ : ∃ z, z = (t1.2.2.1 47 ((t1.1 24 8) : Int32).toNatClampNeg) := ⟨_, rfl⟩
          have h_27 : (0 : Int) ≤ v_25.toInt ∧ v_25.toInt ≤ 1 := by rw [e_26]; exact hok.2.1 47 _
          refine k_zld (v := v_25) C hP 47 rfl (vp_in_iff.mpr ⟨by omega, by omega⟩) e_26.symm dX5_atom_131 ?_
          refine lv_if_eq (tgt := 148) C.1 C.2.1 dX5_atom_132 (by decide) (fun c_28 => ?_) (fun c_28 => ?_)
          · replace c_28 : v_25.toInt = 0 := i_eq c_28
            exact L_148 t1 w99_1 _ _ _ hok hfr ⟨by omega, by omega⟩ hP hD hS (lv_sub hl [0, 1] rfl)
          · replace c_28 : ¬ v_25.toInt = 0 := i_ne c_28
            refine lv_aload_n C.1 C.2.1 dX5_atom_135 rfl (lv_at hl 0 rfl) ?_
            refine k_get (v := .ref (ad 23)) C hP 24 rfl rfl inlX5 1 (by decide) m_6_6 rfl dX5_atom_136 ?_
            refine k_get (v := .ref (ad 46)) C hP 23 rfl rfl inlX8 7 (by decide) m_22_8 rfl dX5_atom_139 ?_
            refine lv_aload_n C.1 C.2.1 dX5_atom_142 rfl (lv_at hl 0 rfl) ?_
            refine k_get (v := .int (t1.1 24 8)) C hP 24 rfl rfl inlX5 8 (by decide) m_19_19 rfl dX5_atom_143 ?_
            obtain ⟨v_29, e_30⟩ : ∃ z, z = (t1.2.2.1 46 ((t1.1 24 8) : Int32).toNatClampNeg) := ⟨_, rfl⟩
            refine k_ild (v := v_29) C hP 46 rfl (vp_in_iff.mpr ⟨by omega, by omega⟩) e_30.symm dX5_atom_146 ?_
            exact g_iret C hr hlocks hP hD hS rfl t1 rfl ⟨hok, hfr, (i_rng _).1, (i_rng _).2⟩ (Nat.le_of_ble_eq_true rfl) (Nat.le_of_ble_eq_true rfl) dX5_atom_147
  have L_45 : ∀ (t1 : tSt) (w45_1 : Int32) (H : Heap) (locs : List Loc) (ls : Array Slot), okX t1 → frA [(23, 6), (24, 2), (24, 4), (24, 8)] [(24, 7), (24, 9)] [44, 45] [] t t1 → (0 : Int) ≤ w45_1.toInt ∧ w45_1.toInt ≤ 5 → va_P D vwCl ((WX d) K ad t1) H → va_D A ((WX d) K ad t1) → va_S A s.heap H locs → lv_has ls 3 [(0, .ref (ad 24)), (1, .int w45_1)] → W p l e (rmD 2 0 0) s m [.ref (ad 24)].toArray below meth c H locs 0 0 (MQ below (QI D K (fun (r : Int32) (u : tSt) => okX u ∧ frA [(23, 6), (24, 2), (24, 4), (24, 8)] [(24, 7), (24, 9)] [44, 45] [] t u ∧ (-2147483648 : Int) ≤ r.toInt ∧ r.toInt ≤ 2147483647) (fun (u : tSt) => (WX d) K ad u) A) [.ref (ad 24)].toArray s 0 0 A) (F0 m 45 ls []) := by
    intro t1 w45_1 H locs ls hok hfr hw45_1 hP hD hS hl
    have h_31 : (t1.1 23 3).toInt = (t.1 23 3).toInt := ti_eq (hfr.1 23 3 rfl)
    have h_32 : (0 : Int) ≤ (t1.1 23 3).toInt ∧ (t1.1 23 3).toInt ≤ 1024 := hok.1 23 3
    refine lv_iload_n C.1 C.2.1 dX5_atom_45 rfl (lv_at hl 1 rfl) ?_
    refine lv_iconst (v := 2) C.1 C.2.1 dX5_atom_46 (by decide) ?_
    refine lv_icmp_ne (tgt := 99) C.1 C.2.1 dX5_atom_47 (by decide) (fun c_33 => ?_) (fun c_33 => ?_)
    · replace c_33 : ¬ w45_1.toInt = 2 := i_ne c_33
      exact L_99 t1 w45_1 _ _ _ hok hfr ⟨by omega, by omega⟩ hP hD hS (lv_sub hl [0, 1] rfl)
    · replace c_33 : w45_1.toInt = 2 := i_eq c_33
      refine lv_aload_n C.1 C.2.1 dX5_atom_50 rfl (lv_at hl 0 rfl) ?_
      refine k_get (v := .ref (ad 23)) C hP 24 rfl rfl inlX5 1 (by decide) m_6_6 rfl dX5_atom_51 ?_
      refine lv_aload_n C.1 C.2.1 dX5_atom_54 rfl (lv_at hl 0 rfl) ?_
      refine k_get (v := .long (t1.2.1 24 7)) C hP 24 rfl rfl inlX5 7 (by decide) m_19_15 rfl dX5_atom_55 ?_
      refine g_Vi (As := [.long (t1.2.1 24 7)]) (rest := []) C hP hD hS hA (T_X8_find l D K Z Y ad d t1 hok ((t1.2.1 24 7))) hE hZ (uwV m_22_18 m_20_12 m_20_13 m_2_5 m_20_14) (hdV 1 (by decide +kernel) rfl) ⟨Nat.le_of_ble_eq_true rfl, Nat.le_of_ble_eq_true rfl⟩ rfl rfl (ci := 7) (q0 := 23) rfl rfl rfl hl.1 (Nat.le_of_ble_eq_true rfl) dX5_atom_58 ⟨Nat.le_of_ble_eq_true rfl, Nat.le_of_ble_eq_true rfl⟩ (fun r_35 t_34 H locs hw hP hD hS => ?_)
      obtain ⟨h_37, h_38⟩ := hw
      refine lv_istore_n (lv' := [(2, .int r_35), (0, .ref (ad 24)), (1, .int w45_1)]) C.1 C.2.1 dX5_atom_61 rfl hl (by decide) rfl (fun ls hl => ?_)
      have hl : lv_has ls 3 [(0, .ref (ad 24)), (1, .int w45_1), (2, .int r_35)] := lv_sub hl [1, 2, 0] rfl
      refine lv_iload_n C.1 C.2.1 dX5_atom_62 rfl (lv_at hl 2 rfl) ?_
      refine lv_if_lt (tgt := 99) C.1 C.2.1 dX5_atom_63 (by decide) (fun c_39 => ?_) (fun c_39 => ?_)
      · replace c_39 : r_35.toInt < 0 := i_lt c_39
        exact L_99 t1 w45_1 _ _ _ hok hfr ⟨by omega, by omega⟩ hP hD hS (lv_sub hl [0, 1] rfl)
      · replace c_39 : 0 ≤ r_35.toInt := i_nlt c_39
        refine lv_aload_n C.1 C.2.1 dX5_atom_66 rfl (lv_at hl 0 rfl) ?_
        refine k_get (v := .ref (ad 23)) C hP 24 rfl rfl inlX5 1 (by decide) m_6_6 rfl dX5_atom_67 ?_
        refine lv_iload_n C.1 C.2.1 dX5_atom_70 rfl (lv_at hl 2 rfl) ?_
        refine g_Vi (As := [.int r_35]) (rest := []) C hP hD hS hA (T_X8_standing l D K Z Y ad d t1 hok (r_35) (show (-128 : Int) ≤ (r_35 : Int32).toInt ∧ (r_35 : Int32).toInt ≤ 2147483647 from ⟨by omega, (i_rng _).2⟩)) hE hZ (uwV m_22_19 m_20_16 m_20_17 m_2_5 m_20_18) (hdV 1 (by decide +kernel) rfl) ⟨Nat.le_of_ble_eq_true rfl, Nat.le_of_ble_eq_true rfl⟩ rfl rfl (ci := 7) (q0 := 23) rfl rfl rfl hl.1 (Nat.le_of_ble_eq_true rfl) dX5_atom_71 ⟨Nat.le_of_ble_eq_true rfl, Nat.le_of_ble_eq_true rfl⟩ (fun r_41 t_40 H locs hw hP hD hS => ?_)
        obtain ⟨h_43, h_44, p_45⟩ := hw
        replace p_45 : ¬ r_41.toInt = 0 → 0 ≤ r_35.toInt ∧ r_35.toInt < (t1.1 23 3).toInt := p_45
        refine lv_if_eq (tgt := 99) C.1 C.2.1 dX5_atom_74 (by decide) (fun c_46 => ?_) (fun c_46 => ?_)
        · replace c_46 : r_41.toInt = 0 := i_eq c_46
          exact L_99 t1 w45_1 _ _ _ hok hfr ⟨by omega, by omega⟩ hP hD hS (lv_sub hl [0, 1] rfl)
        · replace c_46 : ¬ r_41.toInt = 0 := i_ne c_46
          refine lv_aload_n C.1 C.2.1 dX5_atom_77 rfl (lv_at hl 0 rfl) ?_
          refine k_get (v := .ref (ad 23)) C hP 24 rfl rfl inlX5 1 (by decide) m_6_6 rfl dX5_atom_78 ?_
          refine lv_iload_n C.1 C.2.1 dX5_atom_81 rfl (lv_at hl 2 rfl) ?_
          refine lv_aload_n C.1 C.2.1 dX5_atom_82 rfl (lv_at hl 0 rfl) ?_
          refine k_get (v := .int (t1.1 24 6)) C hP 24 rfl rfl inlX5 6 (by decide) m_21_1 rfl dX5_atom_83 ?_
          refine g_Vv (As := [.int r_35, .int (t1.1 24 6)]) (rest := []) C hP hD hS hA (T_X8_noteRead l D K Z Y ad d t1 hok (r_35) (show (-1 : Int) ≤ (r_35 : Int32).toInt ∧ (r_35 : Int32).toInt ≤ 2147483647 from ⟨by omega, (i_rng _).2⟩) ((t1.1 24 6))) hE hZ (uwV m_22_20 m_22_21 m_22_22 m_2_5 m_22_23) (hdV 2 (by decide +kernel) rfl) ⟨Nat.le_of_ble_eq_true rfl, Nat.le_of_ble_eq_true rfl⟩ rfl rfl (ci := 7) (q0 := 23) rfl rfl rfl hl.1 (Nat.le_of_ble_eq_true rfl) dX5_atom_86 ⟨Nat.le_of_ble_eq_true rfl, Nat.le_of_ble_eq_true rfl⟩ (fun t_47 H locs hw hP hD hS => ?_)
          obtain ⟨hok, f_49⟩ := hw
          have hfr : frA [(23, 6), (24, 2), (24, 4), (24, 8)] [(24, 7), (24, 9)] [44, 45] [] t t_47 := frA_tr hfr f_49 rfl
          have h_50 : (t_47.1 24 6).toInt = (t1.1 24 6).toInt := ti_eq (f_49.1 24 6 rfl)
          have h_51 : (t_47.1 23 3).toInt = (t1.1 23 3).toInt := ti_eq (f_49.1 23 3 rfl)
          have h_52 : (0 : Int) ≤ (t_47.1 23 3).toInt ∧ (t_47.1 23 3).toInt ≤ 1024 := hok.1 23 3
          refine lv_aload_n C.1 C.2.1 dX5_atom_89 rfl (lv_at hl 0 rfl) ?_
          refine k_get (v := .ref (ad 23)) C hP 24 rfl rfl inlX5 1 (by decide) m_6_6 rfl dX5_atom_90 ?_
          refine k_get (v := .ref (ad 42)) C hP 23 rfl rfl inlX8 1 (by decide) m_22_6 rfl dX5_atom_93 ?_
          refine lv_iload_n C.1 C.2.1 dX5_atom_96 rfl (lv_at hl 2 rfl) ?_
          obtain ⟨v_53, e_54⟩ : ∃ z, z = (t_47.2.2.1 42 (r_35 : Int32).toNatClampNeg) := ⟨_, rfl⟩
          refine k_ild (v := v_53) C hP 42 rfl (vp_in_iff.mpr ⟨by omega, by omega⟩) e_54.symm dX5_atom_97 ?_
          exact g_iret C hr hlocks hP hD hS rfl t_47 rfl ⟨hok, hfr, (i_rng _).1, (i_rng _).2⟩ (Nat.le_of_ble_eq_true rfl) (Nat.le_of_ble_eq_true rfl) dX5_atom_98
  refine lv_aload_n C.1 C.2.1 dX5_atom_0 rfl (lv_at hl 0 rfl) ?_
  refine lv_bipush (v := 42) C.1 C.2.1 dX5_atom_1 (by decide) ?_
  refine g_Vi (As := [.int 42]) (rest := []) C hP hD hS hA (T_X5_pass l D K Z Y ad d t hok 42 (show (32 : Int) ≤ (42 : Int32).toInt ∧ (42 : Int32).toInt ≤ 61 from ⟨by decide, by decide⟩)) hE hZ (uwV m_22_9 m_21_9 m_21_10 m_5_22 m_21_11) (hdV 1 (by decide +kernel) rfl) ⟨Nat.le_of_ble_eq_true rfl, Nat.le_of_ble_eq_true rfl⟩ rfl rfl (ci := 4) (q0 := 24) rfl rfl rfl hl.1 (Nat.le_of_ble_eq_true rfl) dX5_atom_3 ⟨Nat.le_of_ble_eq_true rfl, Nat.le_of_ble_eq_true rfl⟩ (fun r_56 t_55 H locs hw hP hD hS => ?_)
  obtain ⟨hok, f_57, h_58, h_59⟩ := hw
  have hfr : frA [(23, 6), (24, 2), (24, 4), (24, 8)] [(24, 7), (24, 9)] [44, 45] [] t t_55 := frA_tr hfr f_57 rfl
  have h_60 : (t_55.1 23 3).toInt = (t.1 23 3).toInt := ti_eq (f_57.1 23 3 rfl)
  have h_61 : (0 : Int) ≤ (t_55.1 23 3).toInt ∧ (t_55.1 23 3).toInt ≤ 1024 := hok.1 23 3
  refine lv_if_eq (tgt := 18) C.1 C.2.1 dX5_atom_6 (by decide) (fun c_62 => ?_) (fun c_62 => ?_)
  · replace c_62 : r_56.toInt = 0 := i_eq c_62
    refine lv_aload_n C.1 C.2.1 dX5_atom_18 rfl (lv_at hl 0 rfl) ?_
    refine g_Vi (As := []) (rest := []) C hP hD hS hA (T_X5_token l D K Z Y ad d t_55 hok ) hE hZ (uwV m_19_11 m_19_12 m_19_13 m_5_22 m_19_14) (hdV 0 (by decide +kernel) rfl) ⟨Nat.le_of_ble_eq_true rfl, Nat.le_of_ble_eq_true rfl⟩ rfl rfl (ci := 4) (q0 := 24) rfl rfl rfl hl.1 (Nat.le_of_ble_eq_true rfl) dX5_atom_19 ⟨Nat.le_of_ble_eq_true rfl, Nat.le_of_ble_eq_true rfl⟩ (fun r_64 t_63 H locs hw hP hD hS => ?_)
    obtain ⟨hok, f_65, h_66, h_67⟩ := hw
    have hfr : frA [(23, 6), (24, 2), (24, 4), (24, 8)] [(24, 7), (24, 9)] [44, 45] [] t t_63 := frA_tr hfr f_65 rfl
    have h_68 : (t_63.1 23 3).toInt = (t_55.1 23 3).toInt := ti_eq (f_65.1 23 3 rfl)
    have h_69 : (0 : Int) ≤ (t_63.1 23 3).toInt ∧ (t_63.1 23 3).toInt ≤ 1024 := hok.1 23 3
    refine lv_istore_n (lv' := [(1, .int r_64), (0, .ref (ad 24))]) C.1 C.2.1 dX5_atom_22 rfl hl (by decide) rfl (fun ls hl => ?_)
    have hl : lv_has ls 3 [(0, .ref (ad 24)), (1, .int r_64)] := lv_sub hl [1, 0] rfl
    refine lv_iload_n C.1 C.2.1 dX5_atom_23 rfl (lv_at hl 1 rfl) ?_
    refine lv_iconst (v := 1) C.1 C.2.1 dX5_atom_24 (by decide) ?_
    refine lv_icmp_ne (tgt := 45) C.1 C.2.1 dX5_atom_25 (by decide) (fun c_70 => ?_) (fun c_70 => ?_)
    · replace c_70 : ¬ r_64.toInt = 1 := i_ne c_70
      exact L_45 t_63 r_64 _ _ _ hok hfr ⟨by omega, by omega⟩ hP hD hS (lv_sub hl [0, 1] rfl)
    · replace c_70 : r_64.toInt = 1 := i_eq c_70
      refine lv_aload_n C.1 C.2.1 dX5_atom_28 rfl (lv_at hl 0 rfl) ?_
      refine k_get (v := .long (t_63.2.1 24 9)) C hP 24 rfl rfl inlX5 9 (by decide) m_19_16 rfl dX5_atom_29 ?_
      refine lv_ldc2 (v := 1073741823) C.1 C.2.1 C.2.2.2.1 (C.2.2.2.2.1 _ m_22_5) dX5_atom_32 ?_
      obtain ⟨v_71, e_72⟩ : ∃ z, z = lg_cmp ((t_63.2.1 24 9) : Int64) 1073741823 := ⟨_, rfl⟩
      have h_73 : (-1 : Int) ≤ v_71.toInt ∧ v_71.toInt ≤ 1 := by rw [e_72]; exact cmp_rng _ _
      refine k_lcmp (v := v_71) C e_72.symm dX5_atom_35 ?_
      refine lv_if_gt (tgt := 45) C.1 C.2.1 dX5_atom_36 (by decide) (fun c_74 => ?_) (fun c_74 => ?_)
      · replace c_74 : 0 < v_71.toInt := i_lt c_74
        exact L_45 t_63 r_64 _ _ _ hok hfr ⟨by omega, by omega⟩ hP hD hS (lv_sub hl [0, 1] rfl)
      · replace c_74 : v_71.toInt ≤ 0 := i_nlt c_74
        refine lv_aload_n C.1 C.2.1 dX5_atom_39 rfl (lv_at hl 0 rfl) ?_
        refine k_get (v := .long (t_63.2.1 24 9)) C hP 24 rfl rfl inlX5 9 (by decide) m_19_16 rfl dX5_atom_40 ?_
        obtain ⟨v_75, e_76⟩ : ∃ z, z = ((t_63.2.1 24 9)).toInt32 := ⟨_, rfl⟩
        refine lv_l2i (v := v_75) C.1 C.2.1 dX5_atom_43 e_76.symm ?_
        exact g_iret C hr hlocks hP hD hS rfl t_63 rfl ⟨hok, hfr, (i_rng _).1, (i_rng _).2⟩ (Nat.le_of_ble_eq_true rfl) (Nat.le_of_ble_eq_true rfl) dX5_atom_44
  · replace c_62 : ¬ r_56.toInt = 0 := i_ne c_62
    refine lv_aload_n C.1 C.2.1 dX5_atom_9 rfl (lv_at hl 0 rfl) ?_
    refine k_get (v := .int (t_55.1 24 5)) C hP 24 rfl rfl inlX5 5 (by decide) m_21_0 rfl dX5_atom_10 ?_
    obtain ⟨v_77, e_78⟩ : ∃ z, z = ((t_55.1 24 5) : Int32).toInt64 := ⟨_, rfl⟩
    have h_79 : v_77.toInt = (t_55.1 24 5).toInt := by rw [e_78]; exact Jvm.Kit.i64_of_i32 _
    have h_80 := i_rng (t_55.1 24 5)
    refine lv_i2l (v := v_77) C.1 C.2.1 dX5_atom_13 e_78.symm ?_
    refine g_Si (As := [.long v_77]) (rest := []) C hP hD hS hA (T_X1_wordOf l D K Z Y ad d t_55 hok (v_77)) hE hZ (uwS m_22_10 m_22_11 m_14_2 m_22_12) (hdS 1 (by decide +kernel) rfl) ⟨Nat.le_of_ble_eq_true rfl, Nat.le_of_ble_eq_true rfl⟩ rfl rfl rfl hl.1 (Nat.le_of_ble_eq_true rfl) dX5_atom_14 ⟨Nat.le_of_ble_eq_true rfl, Nat.le_of_ble_eq_true rfl⟩ (fun r_82 t_81 H locs hw hP hD hS => ?_)
    obtain ⟨h_84, h_85⟩ := hw
    exact g_iret C hr hlocks hP hD hS rfl t_55 rfl ⟨hok, hfr, (i_rng _).1, (i_rng _).2⟩ (Nat.le_of_ble_eq_true rfl) (Nat.le_of_ble_eq_true rfl) dX5_atom_17
