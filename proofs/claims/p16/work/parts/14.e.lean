theorem dX12_unit_0 : decode cX12_unit 0 = .ok (.aload_n 0, 1) := by decide +kernel
theorem dX12_unit_1 : decode cX12_unit 1 = .ok (.iconst 0, 1) := by decide +kernel
theorem dX12_unit_11 : decode cX12_unit 11 = .ok (.iload_n 1, 1) := by decide +kernel
theorem dX12_unit_12 : decode cX12_unit 12 = .ok (.bipush 19, 2) := by decide +kernel
theorem dX12_unit_14 : decode cX12_unit 14 = .ok (.if_icmp .gt 13, 3) := by decide +kernel
theorem dX12_unit_17 : decode cX12_unit 17 = .ok (.aload_n 0, 1) := by decide +kernel
theorem dX12_unit_18 : decode cX12_unit 18 = .ok (.getfield 58, 3) := by decide +kernel
theorem dX12_unit_2 : decode cX12_unit 2 = .ok (.putfield 155, 3) := by decide +kernel
theorem dX12_unit_21 : decode cX12_unit 21 = .ok (.iload_n 1, 1) := by decide +kernel
theorem dX12_unit_22 : decode cX12_unit 22 = .ok (.bipush 17, 2) := by decide +kernel
theorem dX12_unit_24 : decode cX12_unit 24 = .ok (.isub, 1) := by decide +kernel
theorem dX12_unit_25 : decode cX12_unit 25 = .ok (.iaload, 1) := by decide +kernel
theorem dX12_unit_26 : decode cX12_unit 26 = .ok (.ireturn, 1) := by decide +kernel
theorem dX12_unit_27 : decode cX12_unit 27 = .ok (.iload_n 1, 1) := by decide +kernel
theorem dX12_unit_28 : decode cX12_unit 28 = .ok (.bipush 16, 2) := by decide +kernel
theorem dX12_unit_30 : decode cX12_unit 30 = .ok (.if_icmp .ne 8, 3) := by decide +kernel
theorem dX12_unit_33 : decode cX12_unit 33 = .ok (.aload_n 0, 1) := by decide +kernel
theorem dX12_unit_34 : decode cX12_unit 34 = .ok (.invokevirtual 232, 3) := by decide +kernel
theorem dX12_unit_37 : decode cX12_unit 37 = .ok (.ireturn, 1) := by decide +kernel
theorem dX12_unit_38 : decode cX12_unit 38 = .ok (.iload_n 1, 1) := by decide +kernel
theorem dX12_unit_39 : decode cX12_unit 39 = .ok (.ifCond .lt 18, 3) := by decide +kernel
theorem dX12_unit_42 : decode cX12_unit 42 = .ok (.iload_n 1, 1) := by decide +kernel
theorem dX12_unit_43 : decode cX12_unit 43 = .ok (.bipush 8, 2) := by decide +kernel
theorem dX12_unit_45 : decode cX12_unit 45 = .ok (.if_icmp .ge 12, 3) := by decide +kernel
theorem dX12_unit_48 : decode cX12_unit 48 = .ok (.aload_n 0, 1) := by decide +kernel
theorem dX12_unit_49 : decode cX12_unit 49 = .ok (.getfield 44, 3) := by decide +kernel
theorem dX12_unit_5 : decode cX12_unit 5 = .ok (.iload_n 1, 1) := by decide +kernel
theorem dX12_unit_52 : decode cX12_unit 52 = .ok (.iload_n 1, 1) := by decide +kernel
theorem dX12_unit_53 : decode cX12_unit 53 = .ok (.iaload, 1) := by decide +kernel
theorem dX12_unit_54 : decode cX12_unit 54 = .ok (.goto 4, 3) := by decide +kernel
theorem dX12_unit_57 : decode cX12_unit 57 = .ok (.iconst (-1), 1) := by decide +kernel
theorem dX12_unit_58 : decode cX12_unit 58 = .ok (.ireturn, 1) := by decide +kernel
theorem dX12_unit_6 : decode cX12_unit 6 = .ok (.bipush 17, 2) := by decide +kernel
theorem dX12_unit_8 : decode cX12_unit 8 = .ok (.if_icmp .lt 19, 3) := by decide +kernel
set_option maxHeartbeats 4000000 in
set_option maxRecDepth 100000 in
theorem T_X12_unit (l : Launch) (D : va_G) (K : Nat → ClassId) (Z Y : Nat → Nat) (ad : Nat → Nat) (t : tSt) (hok : okM t) (x1 : Int32) : tMet l yX12_unit cX12_unit 2 (some .int) (rmD 1 0 0) D K Z Y [.ref (ad 0), .int x1] (WM K ad t) (QI D K (fun (r : Int32) (u : tSt) => okM u ∧ frA [(0, 0)] [] [] [] t u ∧ (-3999 : Int) ≤ r.toInt ∧ r.toInt ≤ 2147483647) (fun (u : tSt) => WM K ad u)) 0 0 := by
  refine t_met RX12 ⟨rfl, by decide +kernel⟩ (Nat.le_of_ble_eq_true rfl) ?_
  intro p e s m below meth c A ls C hE hZ hr hlocks hA hP hD hS hl
  have hl : lv_has ls 2 [(0, .ref (ad 0)), (1, .int x1)] := hl
  have hokt := hok
  have hfr : frA [(0, 0)] [] [] [] t t := frA_rf
  have h_1 : (0 : Int) ≤ (t.1 0 35).toInt ∧ (t.1 0 35).toInt ≤ 1700 := hok.1 0 35
  have h_2 : (0 : Int) ≤ (t.1 0 36).toInt ∧ (t.1 0 36).toInt ≤ 1700 := hok.1 0 36
  have L_27 : ∀ (t1 : tSt) (H : Heap) (locs : List Loc) (ls : Array Slot), okM t1 → frA [(0, 0)] [] [] [] t t1 → (0 : Int) ≤ (t1.1 0 0).toInt ∧ (t1.1 0 0).toInt ≤ 0 → va_P D vwCl (WM K ad t1) H → va_D A (WM K ad t1) → va_S A s.heap H locs → lv_has ls 2 [(0, .ref (ad 0)), (1, .int x1)] → W p l e (rmD 1 0 0) s m [.ref (ad 0), .int x1].toArray below meth c H locs 0 0 (MQ below (QI D K (fun (r : Int32) (u : tSt) => okM u ∧ frA [(0, 0)] [] [] [] t u ∧ (-3999 : Int) ≤ r.toInt ∧ r.toInt ≤ 2147483647) (fun (u : tSt) => WM K ad u) A) [.ref (ad 0), .int x1].toArray s 0 0 A) (F0 m 27 ls []) := by
    intro t1 H locs ls hok hfr hf27_0 hP hD hS hl
    have h_3 : (t1.1 0 35).toInt = (t.1 0 35).toInt := ti_eq (hfr.1 0 35 rfl)
    have h_4 : (t1.1 0 36).toInt = (t.1 0 36).toInt := ti_eq (hfr.1 0 36 rfl)
    have h_5 : (0 : Int) ≤ (t1.1 0 35).toInt ∧ (t1.1 0 35).toInt ≤ 1700 := hok.1 0 35
    have h_6 : (0 : Int) ≤ (t1.1 0 36).toInt ∧ (t1.1 0 36).toInt ≤ 1700 := hok.1 0 36
    refine lv_iload_n C.1 C.2.1 dX12_unit_27 rfl (lv_at hl 1 rfl) ?_
    refine lv_bipush (v := 16) C.1 C.2.1 dX12_unit_28 (by decide) ?_
    refine lv_icmp_ne (tgt := 38) C.1 C.2.1 dX12_unit_30 (by decide) (fun c_7 => ?_) (fun c_7 => ?_)
    · replace c_7 : ¬ x1.toInt = 16 := i_ne c_7
      refine lv_iload_n C.1 C.2.1 dX12_unit_38 rfl (lv_at hl 1 rfl) ?_
      refine lv_if_lt (tgt := 57) C.1 C.2.1 dX12_unit_39 (by decide) (fun c_8 => ?_) (fun c_8 => ?_)
      · replace c_8 : x1.toInt < 0 := i_lt c_8
        refine lv_iconst (v := (-1)) C.1 C.2.1 dX12_unit_57 (by decide) ?_
        exact g_iret C hr hlocks hP hD hS rfl t1 rfl ⟨hok, hfr, by decide, by decide⟩ (Nat.le_of_ble_eq_true rfl) (Nat.le_of_ble_eq_true rfl) dX12_unit_58
      · replace c_8 : 0 ≤ x1.toInt := i_nlt c_8
        refine lv_iload_n C.1 C.2.1 dX12_unit_42 rfl (lv_at hl 1 rfl) ?_
        refine lv_bipush (v := 8) C.1 C.2.1 dX12_unit_43 (by decide) ?_
        refine lv_icmp_ge (tgt := 57) C.1 C.2.1 dX12_unit_45 (by decide) (fun c_9 => ?_) (fun c_9 => ?_)
        · replace c_9 : 8 ≤ x1.toInt := i_le c_9
          refine lv_iconst (v := (-1)) C.1 C.2.1 dX12_unit_57 (by decide) ?_
          exact g_iret C hr hlocks hP hD hS rfl t1 rfl ⟨hok, hfr, by decide, by decide⟩ (Nat.le_of_ble_eq_true rfl) (Nat.le_of_ble_eq_true rfl) dX12_unit_58
        · replace c_9 : x1.toInt < 8 := i_nle c_9
          refine lv_aload_n C.1 C.2.1 dX12_unit_48 rfl (lv_at hl 0 rfl) ?_
          refine k_get (v := .ref (ad 9)) C hP 0 rfl rfl inlX12 24 (by decide) m_7_14 rfl dX12_unit_49 ?_
          refine lv_iload_n C.1 C.2.1 dX12_unit_52 rfl (lv_at hl 1 rfl) ?_
          obtain ⟨v_10, e_11⟩ : ∃ z, z = (t1.2.2.1 9 (x1 : Int32).toNatClampNeg) := ⟨_, rfl⟩
          have h_12 : (0 : Int) ≤ v_10.toInt ∧ v_10.toInt ≤ 64 := by rw [e_11]; exact hok.2.1 9 _
          refine k_ild (v := v_10) C hP 9 rfl (vp_in_iff.mpr ⟨by omega, by omega⟩) e_11.symm dX12_unit_53 ?_
          refine lv_goto (tgt := 58) C.1 C.2.1 dX12_unit_54 (by decide) ?_
          exact g_iret C hr hlocks hP hD hS rfl t1 rfl ⟨hok, hfr, by omega, by omega⟩ (Nat.le_of_ble_eq_true rfl) (Nat.le_of_ble_eq_true rfl) dX12_unit_58
    · replace c_7 : x1.toInt = 16 := i_eq c_7
      refine lv_aload_n C.1 C.2.1 dX12_unit_33 rfl (lv_at hl 0 rfl) ?_
      refine g_Vi (As := []) (rest := []) C hP hD hS hA (T_X12_cardsLeft l D K Z Y ad t1 hok ) hE hZ (uwV m_44_12 m_44_13 m_44_14 m_1_5 m_44_15) (hdV 0 (by decide +kernel) rfl) ⟨Nat.le_of_ble_eq_true rfl, Nat.le_of_ble_eq_true rfl⟩ rfl rfl (ci := 11) (q0 := 0) rfl rfl rfl hl.1 (Nat.le_of_ble_eq_true rfl) dX12_unit_34 ⟨Nat.le_of_ble_eq_true rfl, Nat.le_of_ble_eq_true rfl⟩ (fun r_14 t_13 H locs hw hP hD hS => ?_)
      obtain ⟨h_16, h_17, p_18⟩ := hw
      replace p_18 : r_14.toInt = (t1.1 0 36).toInt - (t1.1 0 35).toInt := p_18
      exact g_iret C hr hlocks hP hD hS rfl t1 rfl ⟨hok, hfr, by omega, by omega⟩ (Nat.le_of_ble_eq_true rfl) (Nat.le_of_ble_eq_true rfl) dX12_unit_37
  refine lv_aload_n C.1 C.2.1 dX12_unit_0 rfl (lv_at hl 0 rfl) ?_
  refine lv_iconst (v := 0) C.1 C.2.1 dX12_unit_1 (by decide) ?_
  refine k_put (ws' := WM K ad (uI t 0 0 0)) (v := .int 0) C hP hD hS 0 rfl rfl inlX12 tyX12_ok nmX12 0 (by decide) m_9_18 rfl rfl rfl rfl rfl dX12_unit_2 (fun H locs hP hD hS => ?_)
  have hok : okM (uI t 0 0 0) := ⟨okI_I hok.1 0 0 0 (show (0 : Int) ≤ (0 : Int32).toInt ∧ (0 : Int32).toInt ≤ 1 from ⟨by decide, by decide⟩), hok.2.1, hok.2.2.1, hok.2.2.2.1, hok.2.2.2.2.1, hok.2.2.2.2.2.1, hok.2.2.2.2.2.2.1, trivial⟩
  have hfr : frA [(0, 0)] [] [] [] t (uI t 0 0 0) := frA_I hfr 0 0 _ rfl
  refine lv_iload_n C.1 C.2.1 dX12_unit_5 rfl (lv_at hl 1 rfl) ?_
  refine lv_bipush (v := 17) C.1 C.2.1 dX12_unit_6 (by decide) ?_
  refine lv_icmp_lt (tgt := 27) C.1 C.2.1 dX12_unit_8 (by decide) (fun c_19 => ?_) (fun c_19 => ?_)
  · replace c_19 : x1.toInt < 17 := i_lt c_19
    exact L_27 (uI t 0 0 0) _ _ _ hok hfr (show (0 : Int) ≤ (0 : Int32).toInt ∧ (0 : Int32).toInt ≤ 0 from ⟨by decide, by decide⟩) hP hD hS (lv_sub hl [0, 1] rfl)
  · replace c_19 : 17 ≤ x1.toInt := i_nlt c_19
    refine lv_iload_n C.1 C.2.1 dX12_unit_11 rfl (lv_at hl 1 rfl) ?_
    refine lv_bipush (v := 19) C.1 C.2.1 dX12_unit_12 (by decide) ?_
    refine lv_icmp_gt (tgt := 27) C.1 C.2.1 dX12_unit_14 (by decide) (fun c_20 => ?_) (fun c_20 => ?_)
    · replace c_20 : 19 < x1.toInt := i_lt c_20
      exact L_27 (uI t 0 0 0) _ _ _ hok hfr (show (0 : Int) ≤ (0 : Int32).toInt ∧ (0 : Int32).toInt ≤ 0 from ⟨by decide, by decide⟩) hP hD hS (lv_sub hl [0, 1] rfl)
    · replace c_20 : x1.toInt ≤ 19 := i_nlt c_20
      refine lv_aload_n C.1 C.2.1 dX12_unit_17 rfl (lv_at hl 0 rfl) ?_
      refine k_get (v := .ref (ad 13)) C hP 0 rfl rfl inlX12 28 (by decide) m_7_20 rfl dX12_unit_18 ?_
      refine lv_iload_n C.1 C.2.1 dX12_unit_21 rfl (lv_at hl 1 rfl) ?_
      refine lv_bipush (v := 17) C.1 C.2.1 dX12_unit_22 (by decide) ?_
      obtain ⟨v_21, e_22⟩ : ∃ z, z = (x1 : Int32) - (17 : Int32) := ⟨_, rfl⟩
      have h_23 : v_21.toInt = x1.toInt - 17 := by rw [e_22]; exact ti_isub (by show (_ : Int) ≤ x1.toInt - 17; omega) (by show x1.toInt - 17 < (_ : Int); omega)
      refine k_isub (v := v_21) C e_22.symm dX12_unit_24 ?_
      obtain ⟨v_24, e_25⟩ : ∃ z, z = (t.2.2.1 13 (v_21 : Int32).toNatClampNeg) := ⟨_, rfl⟩
      have h_26 : (0 : Int) ≤ v_24.toInt ∧ v_24.toInt ≤ 300 := by rw [e_25]; exact hok.2.1 13 _
      refine k_ild (v := v_24) C hP 13 rfl (vp_in_iff.mpr ⟨by omega, by omega⟩) e_25.symm dX12_unit_25 ?_
      exact g_iret C hr hlocks hP hD hS rfl (uI t 0 0 0) rfl ⟨hok, hfr, by omega, by omega⟩ (Nat.le_of_ble_eq_true rfl) (Nat.le_of_ble_eq_true rfl) dX12_unit_26

theorem dX12_told_0 : decode cX12_told 0 = .ok (.iload_n 0, 1) := by decide +kernel
theorem dX12_told_1 : decode cX12_told 1 = .ok (.ldc 158, 2) := by decide +kernel
theorem dX12_told_11 : decode cX12_told 11 = .ok (.iload_n 0, 1) := by decide +kernel
theorem dX12_told_12 : decode cX12_told 12 = .ok (.invokestatic 161, 3) := by decide +kernel
theorem dX12_told_15 : decode cX12_told 15 = .ok (.ireturn, 1) := by decide +kernel
theorem dX12_told_3 : decode cX12_told 3 = .ok (.if_icmp .ne 8, 3) := by decide +kernel
theorem dX12_told_6 : decode cX12_told 6 = .ok (.ldc 160, 2) := by decide +kernel
theorem dX12_told_8 : decode cX12_told 8 = .ok (.goto 7, 3) := by decide +kernel
set_option maxHeartbeats 4000000 in
set_option maxRecDepth 100000 in
theorem T_X12_told (l : Launch) (D : va_G) (K : Nat → ClassId) (Z Y : Nat → Nat) (ad : Nat → Nat) (t : tSt) (hok : okM t) (x0 : Int32) : tMet l yX12_told cX12_told 1 (some .int) (rmD 1 0 0) D K Z Y [.int x0] (WM K ad t) (QI D K (fun (r : Int32) (u : Unit) => (-2147483648 : Int) ≤ r.toInt ∧ r.toInt ≤ 2147483647) (fun (_ : Unit) => WM K ad t)) 0 0 := by
  refine t_met RX12 ⟨rfl, by decide +kernel⟩ (Nat.le_of_ble_eq_true rfl) ?_
  intro p e s m below meth c A ls C hE hZ hr hlocks hA hP hD hS hl
  have hl : lv_has ls 1 [(0, .int x0)] := hl
  refine lv_iload_n C.1 C.2.1 dX12_told_0 rfl (lv_at hl 0 rfl) ?_
  refine lv_ldc (v := 1073741824) C.1 C.2.1 C.2.2.2.1 (C.2.2.2.2.1 _ m_34_19) dX12_told_1 ?_
  refine lv_icmp_ne (tgt := 11) C.1 C.2.1 dX12_told_3 (by decide) (fun c_1 => ?_) (fun c_1 => ?_)
  · replace c_1 : ¬ x0.toInt = 1073741824 := i_ne c_1
    refine lv_iload_n C.1 C.2.1 dX12_told_11 rfl (lv_at hl 0 rfl) ?_
    refine g_Si (As := [.int x0]) (rest := []) C hP hD hS hA (T_X12_value l D K Z Y ad t hok (x0)) hE hZ (uwS m_36_9 m_36_10 m_1_5 m_36_11) (hdS 1 (by decide +kernel) rfl) ⟨Nat.le_of_ble_eq_true rfl, Nat.le_of_ble_eq_true rfl⟩ rfl rfl rfl hl.1 (Nat.le_of_ble_eq_true rfl) dX12_told_12 ⟨Nat.le_of_ble_eq_true rfl, Nat.le_of_ble_eq_true rfl⟩ (fun r_3 t_2 H locs hw hP hD hS => ?_)
    obtain ⟨h_5, h_6, p_7⟩ := hw
    replace p_7 : r_3.toInt = (vO x0).toInt := p_7
    exact g_iret C hr hlocks hP hD hS rfl () rfl ⟨(i_rng _).1, (i_rng _).2⟩ (Nat.le_of_ble_eq_true rfl) (Nat.le_of_ble_eq_true rfl) dX12_told_15
  · replace c_1 : x0.toInt = 1073741824 := i_eq c_1
    refine lv_ldc (v := (-2147483648)) C.1 C.2.1 C.2.2.2.1 (C.2.2.2.2.1 _ m_84_16) dX12_told_6 ?_
    refine lv_goto (tgt := 15) C.1 C.2.1 dX12_told_8 (by decide) ?_
    exact g_iret C hr hlocks hP hD hS rfl () rfl ⟨(i_rng _).1, (i_rng _).2⟩ (Nat.le_of_ble_eq_true rfl) (Nat.le_of_ble_eq_true rfl) dX12_told_15

theorem dX12_clearMachine_0 : decode cX12_clearMachine 0 = .ok (.aload_n 0, 1) := by decide +kernel
theorem dX12_clearMachine_1 : decode cX12_clearMachine 1 = .ok (.invokevirtual 627, 3) := by decide +kernel
theorem dX12_clearMachine_12 : decode cX12_clearMachine 12 = .ok (.aload_n 0, 1) := by decide +kernel
theorem dX12_clearMachine_13 : decode cX12_clearMachine 13 = .ok (.getfield 17, 3) := by decide +kernel
theorem dX12_clearMachine_16 : decode cX12_clearMachine 16 = .ok (.iload_n 1, 1) := by decide +kernel
theorem dX12_clearMachine_17 : decode cX12_clearMachine 17 = .ok (.iconst 0, 1) := by decide +kernel
theorem dX12_clearMachine_18 : decode cX12_clearMachine 18 = .ok (.iastore, 1) := by decide +kernel
theorem dX12_clearMachine_19 : decode cX12_clearMachine 19 = .ok (.iinc 1 1, 3) := by decide +kernel
theorem dX12_clearMachine_22 : decode cX12_clearMachine 22 = .ok (.goto (-16), 3) := by decide +kernel
theorem dX12_clearMachine_25 : decode cX12_clearMachine 25 = .ok (.aload_n 0, 1) := by decide +kernel
theorem dX12_clearMachine_26 : decode cX12_clearMachine 26 = .ok (.iconst 0, 1) := by decide +kernel
theorem dX12_clearMachine_27 : decode cX12_clearMachine 27 = .ok (.putfield 314, 3) := by decide +kernel
theorem dX12_clearMachine_30 : decode cX12_clearMachine 30 = .ok (.aload_n 0, 1) := by decide +kernel
theorem dX12_clearMachine_31 : decode cX12_clearMachine 31 = .ok (.iconst 1, 1) := by decide +kernel
theorem dX12_clearMachine_32 : decode cX12_clearMachine 32 = .ok (.putfield 20, 3) := by decide +kernel
theorem dX12_clearMachine_35 : decode cX12_clearMachine 35 = .ok (.aload_n 0, 1) := by decide +kernel
theorem dX12_clearMachine_36 : decode cX12_clearMachine 36 = .ok (.iconst 0, 1) := by decide +kernel
theorem dX12_clearMachine_37 : decode cX12_clearMachine 37 = .ok (.putfield 378, 3) := by decide +kernel
theorem dX12_clearMachine_4 : decode cX12_clearMachine 4 = .ok (.iconst 0, 1) := by decide +kernel
theorem dX12_clearMachine_40 : decode cX12_clearMachine 40 = .ok (.aload_n 0, 1) := by decide +kernel
theorem dX12_clearMachine_41 : decode cX12_clearMachine 41 = .ok (.lconst 0, 1) := by decide +kernel
theorem dX12_clearMachine_42 : decode cX12_clearMachine 42 = .ok (.putfield 272, 3) := by decide +kernel
theorem dX12_clearMachine_45 : decode cX12_clearMachine 45 = .ok (.aload_n 0, 1) := by decide +kernel
theorem dX12_clearMachine_46 : decode cX12_clearMachine 46 = .ok (.bipush 9, 2) := by decide +kernel
theorem dX12_clearMachine_48 : decode cX12_clearMachine 48 = .ok (.putfield 24, 3) := by decide +kernel
theorem dX12_clearMachine_5 : decode cX12_clearMachine 5 = .ok (.istore_n 1, 1) := by decide +kernel
theorem dX12_clearMachine_51 : decode cX12_clearMachine 51 = .ok (.aload_n 0, 1) := by decide +kernel
theorem dX12_clearMachine_52 : decode cX12_clearMachine 52 = .ok (.iconst 0, 1) := by decide +kernel
theorem dX12_clearMachine_53 : decode cX12_clearMachine 53 = .ok (.putfield 241, 3) := by decide +kernel
theorem dX12_clearMachine_56 : decode cX12_clearMachine 56 = .ok (.aload_n 0, 1) := by decide +kernel
theorem dX12_clearMachine_57 : decode cX12_clearMachine 57 = .ok (.iconst 0, 1) := by decide +kernel
theorem dX12_clearMachine_58 : decode cX12_clearMachine 58 = .ok (.putfield 238, 3) := by decide +kernel
theorem dX12_clearMachine_6 : decode cX12_clearMachine 6 = .ok (.iload_n 1, 1) := by decide +kernel
theorem dX12_clearMachine_61 : decode cX12_clearMachine 61 = .ok (.aload_n 0, 1) := by decide +kernel
theorem dX12_clearMachine_62 : decode cX12_clearMachine 62 = .ok (.iconst 0, 1) := by decide +kernel
theorem dX12_clearMachine_63 : decode cX12_clearMachine 63 = .ok (.putfield 235, 3) := by decide +kernel
theorem dX12_clearMachine_66 : decode cX12_clearMachine 66 = .ok (.aload_n 0, 1) := by decide +kernel
theorem dX12_clearMachine_67 : decode cX12_clearMachine 67 = .ok (.iconst 0, 1) := by decide +kernel
theorem dX12_clearMachine_68 : decode cX12_clearMachine 68 = .ok (.putfield 415, 3) := by decide +kernel
theorem dX12_clearMachine_7 : decode cX12_clearMachine 7 = .ok (.bipush 9, 2) := by decide +kernel
theorem dX12_clearMachine_71 : decode cX12_clearMachine 71 = .ok (.aload_n 0, 1) := by decide +kernel
theorem dX12_clearMachine_72 : decode cX12_clearMachine 72 = .ok (.invokevirtual 630, 3) := by decide +kernel
theorem dX12_clearMachine_75 : decode cX12_clearMachine 75 = .ok (.return_, 1) := by decide +kernel
theorem dX12_clearMachine_9 : decode cX12_clearMachine 9 = .ok (.if_icmp .ge 16, 3) := by decide +kernel
set_option maxHeartbeats 4000000 in
set_option maxRecDepth 100000 in
theorem T_X12_clearMachine (l : Launch) (D : va_G) (K : Nat → ClassId) (Z Y : Nat → Nat) (ad : Nat → Nat) (t : tSt) (hok : okM t)  : tMet l yX12_clearMachine cX12_clearMachine 2 none (rmD 1 0 0) D K Z Y [.ref (ad 0)] (WM K ad t) (QV D K (fun (u : tSt) => okM u ∧ frA [(0, 5), (0, 6), (0, 7), (0, 9), (0, 10), (0, 11), (0, 12), (0, 91)] [(0, 8)] [2, 3, 5] [4] t u ∧ ((u.2.1 0 8).toInt = 0) ∧ ((u.1 0 12).toInt = 0) ∧ (bz (u.2.2.2 4) 20)) (fun (u : tSt) => WM K ad u)) 0 0 := by
  refine t_met RX12 ⟨rfl, by decide +kernel⟩ (Nat.le_of_ble_eq_true rfl) ?_
  intro p e s m below meth c A ls C hE hZ hr hlocks hA hP hD hS hl
  have hl : lv_has ls 2 [(0, .ref (ad 0))] := hl
  have hokt := hok
  have hfr : frA [(0, 5), (0, 6), (0, 7), (0, 9), (0, 10), (0, 11), (0, 12), (0, 91)] [(0, 8)] [2, 3, 5] [4] t t := frA_rf
  have h_1 : (0 : Int) ≤ (t.1 0 12).toInt ∧ (t.1 0 12).toInt ≤ 1 := hok.1 0 12
  have L_6 : ∀ (fuel_6 : Nat) (t1 : tSt) (w6_1 : Int32) (H : Heap) (locs : List Loc) (ls : Array Slot), okM t1 → frA [(0, 5), (0, 6), (0, 7), (0, 9), (0, 10), (0, 11), (0, 12), (0, 91)] [(0, 8)] [2, 3, 5] [4] t t1 → (0 : Int) ≤ w6_1.toInt ∧ w6_1.toInt ≤ 9 → (9 : Int) - w6_1.toInt < (fuel_6 : Int) → va_P D vwCl (WM K ad t1) H → va_D A (WM K ad t1) → va_S A s.heap H locs → lv_has ls 2 [(0, .ref (ad 0)), (1, .int w6_1)] → W p l e (rmD 1 0 0) s m [.ref (ad 0)].toArray below meth c H locs 0 0 (MQ below (QV D K (fun (u : tSt) => okM u ∧ frA [(0, 5), (0, 6), (0, 7), (0, 9), (0, 10), (0, 11), (0, 12), (0, 91)] [(0, 8)] [2, 3, 5] [4] t u ∧ ((u.2.1 0 8).toInt = 0) ∧ ((u.1 0 12).toInt = 0) ∧ (bz (u.2.2.2 4) 20)) (fun (u : tSt) => WM K ad u) A) [.ref (ad 0)].toArray s 0 0 A) (F0 m 6 ls []) := by
    intro fuel_6
    induction fuel_6 with
    | zero =>
      intro t1 w6_1 H locs ls hok hfr hw6_1 hm6_6 hP hD hS hl
      have h_2 : (0 : Int) ≤ (t1.1 0 12).toInt ∧ (t1.1 0 12).toInt ≤ 1 := hok.1 0 12
      exact absurd hm6_6 (by omega)
    | succ fuel_6 ih_6 =>
      intro t1 w6_1 H locs ls hok hfr hw6_1 hm6_6 hP hD hS hl
      have hm6_6 : (9 : Int) - w6_1.toInt < (fuel_6 : Int) + 1 := by omega
      have h_3 : (0 : Int) ≤ (t1.1 0 12).toInt ∧ (t1.1 0 12).toInt ≤ 1 := hok.1 0 12
      refine lv_iload_n C.1 C.2.1 dX12_clearMachine_6 rfl (lv_at hl 1 rfl) ?_
      refine lv_bipush (v := 9) C.1 C.2.1 dX12_clearMachine_7 (by decide) ?_
      refine lv_icmp_ge (tgt := 25) C.1 C.2.1 dX12_clearMachine_9 (by decide) (fun c_4 => ?_) (fun c_4 => ?_)
      · replace c_4 : 9 ≤ w6_1.toInt := i_le c_4
        refine lv_aload_n C.1 C.2.1 dX12_clearMachine_25 rfl (lv_at hl 0 rfl) ?_
        refine lv_iconst (v := 0) C.1 C.2.1 dX12_clearMachine_26 (by decide) ?_
        refine k_put (ws' := WM K ad (uI t1 0 5 0)) (v := .int 0) C hP hD hS 0 rfl rfl inlX12 tyX12_ok nmX12 5 (by decide) m_29_21 rfl (by decide) (by decide) rfl rfl dX12_clearMachine_27 (fun H locs hP hD hS => ?_)
        have hok : okM (uI t1 0 5 0) := ⟨okI_I hok.1 0 5 0 (show (0 : Int) ≤ (0 : Int32).toInt ∧ (0 : Int32).toInt ≤ 1 from ⟨by decide, by decide⟩), hok.2.1, hok.2.2.1, hok.2.2.2.1, hok.2.2.2.2.1, hok.2.2.2.2.2.1, hok.2.2.2.2.2.2.1, trivial⟩
        have hfr : frA [(0, 5), (0, 6), (0, 7), (0, 9), (0, 10), (0, 11), (0, 12), (0, 91)] [(0, 8)] [2, 3, 5] [4] t (uI t1 0 5 0) := frA_I hfr 0 5 _ rfl
        refine lv_aload_n C.1 C.2.1 dX12_clearMachine_30 rfl (lv_at hl 0 rfl) ?_
        refine lv_iconst (v := 1) C.1 C.2.1 dX12_clearMachine_31 (by decide) ?_
        refine k_put (ws' := WM K ad (uI (uI t1 0 5 0) 0 6 1)) (v := .int 1) C hP hD hS 0 rfl rfl inlX12 tyX12_ok nmX12 6 (by decide) m_7_7 rfl rfl rfl rfl rfl dX12_clearMachine_32 (fun H locs hP hD hS => ?_)
        have hok : okM (uI (uI t1 0 5 0) 0 6 1) := ⟨okI_I hok.1 0 6 1 (show (0 : Int) ≤ (1 : Int32).toInt ∧ (1 : Int32).toInt ≤ 7 from ⟨by decide, by decide⟩), hok.2.1, hok.2.2.1, hok.2.2.2.1, hok.2.2.2.2.1, hok.2.2.2.2.2.1, hok.2.2.2.2.2.2.1, trivial⟩
        have hfr : frA [(0, 5), (0, 6), (0, 7), (0, 9), (0, 10), (0, 11), (0, 12), (0, 91)] [(0, 8)] [2, 3, 5] [4] t (uI (uI t1 0 5 0) 0 6 1) := frA_I hfr 0 6 _ rfl
        refine lv_aload_n C.1 C.2.1 dX12_clearMachine_35 rfl (lv_at hl 0 rfl) ?_
        refine lv_iconst (v := 0) C.1 C.2.1 dX12_clearMachine_36 (by decide) ?_
        refine k_put (ws' := WM K ad (uI (uI (uI t1 0 5 0) 0 6 1) 0 7 0)) (v := .int 0) C hP hD hS 0 rfl rfl inlX12 tyX12_ok nmX12 7 (by decide) m_29_22 rfl rfl rfl rfl rfl dX12_clearMachine_37 (fun H locs hP hD hS => ?_)
        have hok : okM (uI (uI (uI t1 0 5 0) 0 6 1) 0 7 0) := ⟨okI_I hok.1 0 7 0 (show (-2147483648 : Int) ≤ (0 : Int32).toInt ∧ (0 : Int32).toInt ≤ 2147483647 from (i_rng _)), hok.2.1, hok.2.2.1, hok.2.2.2.1, hok.2.2.2.2.1, hok.2.2.2.2.2.1, hok.2.2.2.2.2.2.1, trivial⟩
        have hfr : frA [(0, 5), (0, 6), (0, 7), (0, 9), (0, 10), (0, 11), (0, 12), (0, 91)] [(0, 8)] [2, 3, 5] [4] t (uI (uI (uI t1 0 5 0) 0 6 1) 0 7 0) := frA_I hfr 0 7 _ rfl
        refine lv_aload_n C.1 C.2.1 dX12_clearMachine_40 rfl (lv_at hl 0 rfl) ?_
        refine lv_lconst (v := 0) C.1 C.2.1 dX12_clearMachine_41 (by decide) ?_
        refine k_put (ws' := WM K ad (uJ (uI (uI (uI t1 0 5 0) 0 6 1) 0 7 0) 0 8 0)) (v := .long 0) C hP hD hS 0 rfl rfl inlX12 tyX12_ok nmX12 8 (by decide) m_29_23 rfl rfl rfl rfl rfl dX12_clearMachine_42 (fun H locs hP hD hS => ?_)
        have hok : okM (uJ (uI (uI (uI t1 0 5 0) 0 6 1) 0 7 0) 0 8 0) := ⟨hok.1, hok.2.1, hok.2.2.1, hok.2.2.2.1, hok.2.2.2.2.1, hok.2.2.2.2.2.1, (jM_t (v := (0 : Int64)) hok.2.2.2.2.2.2.1 (fun _ => ⟨by decide, Or.inr (by decide)⟩)), trivial⟩
        have hfr : frA [(0, 5), (0, 6), (0, 7), (0, 9), (0, 10), (0, 11), (0, 12), (0, 91)] [(0, 8)] [2, 3, 5] [4] t (uJ (uI (uI (uI t1 0 5 0) 0 6 1) 0 7 0) 0 8 0) := frA_J hfr 0 8 _ rfl
        refine lv_aload_n C.1 C.2.1 dX12_clearMachine_45 rfl (lv_at hl 0 rfl) ?_
        refine lv_bipush (v := 9) C.1 C.2.1 dX12_clearMachine_46 (by decide) ?_
        refine k_put (ws' := WM K ad (uI (uJ (uI (uI (uI t1 0 5 0) 0 6 1) 0 7 0) 0 8 0) 0 9 9)) (v := .int 9) C hP hD hS 0 rfl rfl inlX12 tyX12_ok nmX12 9 (by decide) m_7_8 rfl rfl rfl rfl rfl dX12_clearMachine_48 (fun H locs hP hD hS => ?_)
        have hok : okM (uI (uJ (uI (uI (uI t1 0 5 0) 0 6 1) 0 7 0) 0 8 0) 0 9 9) := ⟨okI_I hok.1 0 9 9 (show (0 : Int) ≤ (9 : Int32).toInt ∧ (9 : Int32).toInt ≤ 10 from ⟨by decide, by decide⟩), hok.2.1, hok.2.2.1, hok.2.2.2.1, hok.2.2.2.2.1, hok.2.2.2.2.2.1, hok.2.2.2.2.2.2.1, trivial⟩
        have hfr : frA [(0, 5), (0, 6), (0, 7), (0, 9), (0, 10), (0, 11), (0, 12), (0, 91)] [(0, 8)] [2, 3, 5] [4] t (uI (uJ (uI (uI (uI t1 0 5 0) 0 6 1) 0 7 0) 0 8 0) 0 9 9) := frA_I hfr 0 9 _ rfl
        refine lv_aload_n C.1 C.2.1 dX12_clearMachine_51 rfl (lv_at hl 0 rfl) ?_
        refine lv_iconst (v := 0) C.1 C.2.1 dX12_clearMachine_52 (by decide) ?_
        refine k_put (ws' := WM K ad (uI (uI (uJ (uI (uI (uI t1 0 5 0) 0 6 1) 0 7 0) 0 8 0) 0 9 9) 0 10 0)) (v := .int 0) C hP hD hS 0 rfl rfl inlX12 tyX12_ok nmX12 10 (by decide) m_30_0 rfl (by decide) (by decide) rfl rfl dX12_clearMachine_53 (fun H locs hP hD hS => ?_)
        have hok : okM (uI (uI (uJ (uI (uI (uI t1 0 5 0) 0 6 1) 0 7 0) 0 8 0) 0 9 9) 0 10 0) := ⟨okI_I hok.1 0 10 0 (show (0 : Int) ≤ (0 : Int32).toInt ∧ (0 : Int32).toInt ≤ 1 from ⟨by decide, by decide⟩), hok.2.1, hok.2.2.1, hok.2.2.2.1, hok.2.2.2.2.1, hok.2.2.2.2.2.1, hok.2.2.2.2.2.2.1, trivial⟩
        have hfr : frA [(0, 5), (0, 6), (0, 7), (0, 9), (0, 10), (0, 11), (0, 12), (0, 91)] [(0, 8)] [2, 3, 5] [4] t (uI (uI (uJ (uI (uI (uI t1 0 5 0) 0 6 1) 0 7 0) 0 8 0) 0 9 9) 0 10 0) := frA_I hfr 0 10 _ rfl
        refine lv_aload_n C.1 C.2.1 dX12_clearMachine_56 rfl (lv_at hl 0 rfl) ?_
        refine lv_iconst (v := 0) C.1 C.2.1 dX12_clearMachine_57 (by decide) ?_
        refine k_put (ws' := WM K ad (uI (uI (uI (uJ (uI (uI (uI t1 0 5 0) 0 6 1) 0 7 0) 0 8 0) 0 9 9) 0 10 0) 0 11 0)) (v := .int 0) C hP hD hS 0 rfl rfl inlX12 tyX12_ok nmX12 11 (by decide) m_30_1 rfl (by decide) (by decide) rfl rfl dX12_clearMachine_58 (fun H locs hP hD hS => ?_)
        have hok : okM (uI (uI (uI (uJ (uI (uI (uI t1 0 5 0) 0 6 1) 0 7 0) 0 8 0) 0 9 9) 0 10 0) 0 11 0) := ⟨okI_I hok.1 0 11 0 (show (0 : Int) ≤ (0 : Int32).toInt ∧ (0 : Int32).toInt ≤ 1 from ⟨by decide, by decide⟩), hok.2.1, hok.2.2.1, hok.2.2.2.1, hok.2.2.2.2.1, hok.2.2.2.2.2.1, hok.2.2.2.2.2.2.1, trivial⟩
        have hfr : frA [(0, 5), (0, 6), (0, 7), (0, 9), (0, 10), (0, 11), (0, 12), (0, 91)] [(0, 8)] [2, 3, 5] [4] t (uI (uI (uI (uJ (uI (uI (uI t1 0 5 0) 0 6 1) 0 7 0) 0 8 0) 0 9 9) 0 10 0) 0 11 0) := frA_I hfr 0 11 _ rfl
        refine lv_aload_n C.1 C.2.1 dX12_clearMachine_61 rfl (lv_at hl 0 rfl) ?_
        refine lv_iconst (v := 0) C.1 C.2.1 dX12_clearMachine_62 (by decide) ?_
        refine k_put (ws' := WM K ad (uI (uI (uI (uI (uJ (uI (uI (uI t1 0 5 0) 0 6 1) 0 7 0) 0 8 0) 0 9 9) 0 10 0) 0 11 0) 0 12 0)) (v := .int 0) C hP hD hS 0 rfl rfl inlX12 tyX12_ok nmX12 12 (by decide) m_30_2 rfl (by decide) (by decide) rfl rfl dX12_clearMachine_63 (fun H locs hP hD hS => ?_)
        have hok : okM (uI (uI (uI (uI (uJ (uI (uI (uI t1 0 5 0) 0 6 1) 0 7 0) 0 8 0) 0 9 9) 0 10 0) 0 11 0) 0 12 0) := ⟨okI_I hok.1 0 12 0 (show (0 : Int) ≤ (0 : Int32).toInt ∧ (0 : Int32).toInt ≤ 1 from ⟨by decide, by decide⟩), hok.2.1, hok.2.2.1, hok.2.2.2.1, hok.2.2.2.2.1, hok.2.2.2.2.2.1, (jM_0 (k := (0 : Int32)) hok.2.2.2.2.2.2.1 (by decide)), trivial⟩
        have hfr : frA [(0, 5), (0, 6), (0, 7), (0, 9), (0, 10), (0, 11), (0, 12), (0, 91)] [(0, 8)] [2, 3, 5] [4] t (uI (uI (uI (uI (uJ (uI (uI (uI t1 0 5 0) 0 6 1) 0 7 0) 0 8 0) 0 9 9) 0 10 0) 0 11 0) 0 12 0) := frA_I hfr 0 12 _ rfl
        refine lv_aload_n C.1 C.2.1 dX12_clearMachine_66 rfl (lv_at hl 0 rfl) ?_
        refine lv_iconst (v := 0) C.1 C.2.1 dX12_clearMachine_67 (by decide) ?_
        refine k_put (ws' := WM K ad (uI (uI (uI (uI (uI (uJ (uI (uI (uI t1 0 5 0) 0 6 1) 0 7 0) 0 8 0) 0 9 9) 0 10 0) 0 11 0) 0 12 0) 0 91 0)) (v := .int 0) C hP hD hS 0 rfl rfl inlX12 tyX12_ok nmX12 91 (by decide) m_30_3 rfl rfl rfl rfl rfl dX12_clearMachine_68 (fun H locs hP hD hS => ?_)
        have hok : okM (uI (uI (uI (uI (uI (uJ (uI (uI (uI t1 0 5 0) 0 6 1) 0 7 0) 0 8 0) 0 9 9) 0 10 0) 0 11 0) 0 12 0) 0 91 0) := ⟨okI_I hok.1 0 91 0 (show (-2147483648 : Int) ≤ (0 : Int32).toInt ∧ (0 : Int32).toInt ≤ 2147483647 from (i_rng _)), hok.2.1, hok.2.2.1, hok.2.2.2.1, hok.2.2.2.2.1, hok.2.2.2.2.2.1, hok.2.2.2.2.2.2.1, trivial⟩
        have hfr : frA [(0, 5), (0, 6), (0, 7), (0, 9), (0, 10), (0, 11), (0, 12), (0, 91)] [(0, 8)] [2, 3, 5] [4] t (uI (uI (uI (uI (uI (uJ (uI (uI (uI t1 0 5 0) 0 6 1) 0 7 0) 0 8 0) 0 9 9) 0 10 0) 0 11 0) 0 12 0) 0 91 0) := frA_I hfr 0 91 _ rfl
        refine lv_aload_n C.1 C.2.1 dX12_clearMachine_71 rfl (lv_at hl 0 rfl) ?_
        refine g_Vv (As := []) (rest := []) C hP hD hS hA (T_X12_freeUnits l D K Z Y ad (uI (uI (uI (uI (uI (uJ (uI (uI (uI t1 0 5 0) 0 6 1) 0 7 0) 0 8 0) 0 9 9) 0 10 0) 0 11 0) 0 12 0) 0 91 0) hok ) hE hZ (uwV m_30_8 m_30_9 m_30_10 m_1_5 m_30_11) (hdV 0 (by decide +kernel) rfl) ⟨Nat.le_of_ble_eq_true rfl, Nat.le_of_ble_eq_true rfl⟩ rfl rfl (ci := 11) (q0 := 0) rfl rfl rfl hl.1 (Nat.le_of_ble_eq_true rfl) dX12_clearMachine_72 ⟨Nat.le_of_ble_eq_true rfl, Nat.le_of_ble_eq_true rfl⟩ (fun t_5 H locs hw hP hD hS => ?_)
        obtain ⟨hok, f_7, p_8⟩ := hw
        have hfr : frA [(0, 5), (0, 6), (0, 7), (0, 9), (0, 10), (0, 11), (0, 12), (0, 91)] [(0, 8)] [2, 3, 5] [4] t t_5 := frA_tr hfr f_7 rfl
        have h_9 : (t_5.1 0 5).toInt = 0 := by rw [show (t_5.1 0 5) = (0 : Int32) from f_7.1 0 5 rfl]; rfl
        have h_10 : (t_5.1 0 6).toInt = 1 := by rw [show (t_5.1 0 6) = (1 : Int32) from f_7.1 0 6 rfl]; rfl
        have h_11 : (t_5.1 0 7).toInt = 0 := by rw [show (t_5.1 0 7) = (0 : Int32) from f_7.1 0 7 rfl]; rfl
        have h_12 : (t_5.2.1 0 8).toInt = 0 := by rw [show (t_5.2.1 0 8) = (0 : Int64) from f_7.2.1 0 8 rfl]; rfl
        have h_13 : (t_5.1 0 9).toInt = 9 := by rw [show (t_5.1 0 9) = (9 : Int32) from f_7.1 0 9 rfl]; rfl
        have h_14 : (t_5.1 0 10).toInt = 0 := by rw [show (t_5.1 0 10) = (0 : Int32) from f_7.1 0 10 rfl]; rfl
        have h_15 : (t_5.1 0 11).toInt = 0 := by rw [show (t_5.1 0 11) = (0 : Int32) from f_7.1 0 11 rfl]; rfl
        have h_16 : (t_5.1 0 12).toInt = 0 := by rw [show (t_5.1 0 12) = (0 : Int32) from f_7.1 0 12 rfl]; rfl
        have h_17 : (t_5.1 0 91).toInt = 0 := by rw [show (t_5.1 0 91) = (0 : Int32) from f_7.1 0 91 rfl]; rfl
        replace p_8 : bz (t_5.2.2.2 4) 20 := p_8
        have hbz := p_8
        exact g_vret C hr hlocks hP hD hS t_5 rfl ⟨hok, hfr, (show (t_5.2.1 0 8).toInt = 0 from by omega), (show (t_5.1 0 12).toInt = 0 from by omega), (show bz (t_5.2.2.2 4) 20 from by exact hbz)⟩ (Nat.le_of_ble_eq_true rfl) (Nat.le_of_ble_eq_true rfl) dX12_clearMachine_75
      · replace c_4 : w6_1.toInt < 9 := i_nle c_4
        refine lv_aload_n C.1 C.2.1 dX12_clearMachine_12 rfl (lv_at hl 0 rfl) ?_
        refine k_get (v := .ref (ad 3)) C hP 0 rfl rfl inlX12 4 (by decide) m_7_6 rfl dX12_clearMachine_13 ?_
        refine lv_iload_n C.1 C.2.1 dX12_clearMachine_16 rfl (lv_at hl 1 rfl) ?_
        refine lv_iconst (v := 0) C.1 C.2.1 dX12_clearMachine_17 (by decide) ?_
        refine k_ist (ws' := WM K ad (uB t1 3 (w6_1 : Int32).toNatClampNeg 0)) (x' := 0) C hP hD hS 3 rfl (vp_in_iff.mpr ⟨by omega, by omega⟩) rfl rfl rfl dX12_clearMachine_18 (fun H locs hP hD hS => ?_)
        have hok : okM (uB t1 3 (w6_1 : Int32).toNatClampNeg 0) := ⟨hok.1, okB_B hok.2.1 3 _ 0 (show (-2147483648 : Int) ≤ (0 : Int32).toInt ∧ (0 : Int32).toInt ≤ 2147483647 from (i_rng _)), hok.2.2.1, hok.2.2.2.1, hok.2.2.2.2.1, hok.2.2.2.2.2.1, hok.2.2.2.2.2.2.1, trivial⟩
        have hfr : frA [(0, 5), (0, 6), (0, 7), (0, 9), (0, 10), (0, 11), (0, 12), (0, 91)] [(0, 8)] [2, 3, 5] [4] t (uB t1 3 (w6_1 : Int32).toNatClampNeg 0) := frA_B hfr 3 _ _ rfl
        obtain ⟨v_18, e_19⟩ : ∃ z, z = w6_1 + 1 := ⟨_, rfl⟩
        have h_20 : v_18.toInt = w6_1.toInt + 1 := by rw [e_19]; exact ti_iadd (by show (_ : Int) ≤ w6_1.toInt + 1; omega) (by show w6_1.toInt + 1 < (_ : Int); omega)
        refine lv_iinc (v := v_18) (lv' := [(1, .int v_18), (0, .ref (ad 0))]) C.1 C.2.1 dX12_clearMachine_19 hl (k := 1) rfl e_19.symm (by decide) rfl (fun ls hl => ?_)
        have hl : lv_has ls 2 [(0, .ref (ad 0)), (1, .int v_18)] := lv_sub hl [1, 0] rfl
        refine lv_goto (tgt := 6) C.1 C.2.1 dX12_clearMachine_22 (by decide) ?_
        exact ih_6 (uB t1 3 (w6_1 : Int32).toNatClampNeg 0) v_18 _ _ _ hok hfr ⟨by omega, by omega⟩ (show (9 : Int) - v_18.toInt < (fuel_6 : Int) from by omega) hP hD hS (lv_sub hl [0, 1] rfl)
  refine lv_aload_n C.1 C.2.1 dX12_clearMachine_0 rfl (lv_at hl 0 rfl) ?_
  refine g_Vv (As := []) (rest := []) C hP hD hS hA (T_X12_clearMemory l D K Z Y ad t hok ) hE hZ (uwV m_30_4 m_30_5 m_30_6 m_1_5 m_30_7) (hdV 0 (by decide +kernel) rfl) ⟨Nat.le_of_ble_eq_true rfl, Nat.le_of_ble_eq_true rfl⟩ rfl rfl (ci := 11) (q0 := 0) rfl rfl rfl hl.1 (Nat.le_of_ble_eq_true rfl) dX12_clearMachine_1 ⟨Nat.le_of_ble_eq_true rfl, Nat.le_of_ble_eq_true rfl⟩ (fun t_21 H locs hw hP hD hS => ?_)
  obtain ⟨hok, f_23⟩ := hw
  have hfr : frA [(0, 5), (0, 6), (0, 7), (0, 9), (0, 10), (0, 11), (0, 12), (0, 91)] [(0, 8)] [2, 3, 5] [4] t t_21 := frA_tr hfr f_23 rfl
  have h_24 : (t_21.2.1 0 8).toInt = (t.2.1 0 8).toInt := tl_eq (f_23.2.1 0 8 rfl)
  have h_25 : (t_21.1 0 12).toInt = (t.1 0 12).toInt := ti_eq (f_23.1 0 12 rfl)
  have h_26 : (0 : Int) ≤ (t_21.1 0 12).toInt ∧ (t_21.1 0 12).toInt ≤ 1 := hok.1 0 12
  refine lv_iconst (v := 0) C.1 C.2.1 dX12_clearMachine_4 (by decide) ?_
  refine lv_istore_n (lv' := [(1, .int 0), (0, .ref (ad 0))]) C.1 C.2.1 dX12_clearMachine_5 rfl hl (by decide) rfl (fun ls hl => ?_)
  have hl : lv_has ls 2 [(0, .ref (ad 0)), (1, .int 0)] := lv_sub hl [1, 0] rfl
  exact L_6 10 t_21 0 _ _ _ hok hfr ⟨by decide, by decide⟩ (show (9 : Int) - 0 < ((10 : Nat) : Int) from by omega) hP hD hS (lv_sub hl [0, 1] rfl)

theorem dX12_deckLetter_0 : decode cX12_deckLetter 0 = .ok (.aload_n 0, 1) := by decide +kernel
theorem dX12_deckLetter_1 : decode cX12_deckLetter 1 = .ok (.getfield 128, 3) := by decide +kernel
theorem dX12_deckLetter_10 : decode cX12_deckLetter 10 = .ok (.aload_n 0, 1) := by decide +kernel
theorem dX12_deckLetter_11 : decode cX12_deckLetter 11 = .ok (.getfield 134, 3) := by decide +kernel
theorem dX12_deckLetter_14 : decode cX12_deckLetter 14 = .ok (.iload_n 1, 1) := by decide +kernel
theorem dX12_deckLetter_15 : decode cX12_deckLetter 15 = .ok (.iaload, 1) := by decide +kernel
theorem dX12_deckLetter_16 : decode cX12_deckLetter 16 = .ok (.iload_n 2, 1) := by decide +kernel
theorem dX12_deckLetter_17 : decode cX12_deckLetter 17 = .ok (.iconst 1, 1) := by decide +kernel
theorem dX12_deckLetter_18 : decode cX12_deckLetter 18 = .ok (.isub, 1) := by decide +kernel
theorem dX12_deckLetter_19 : decode cX12_deckLetter 19 = .ok (.invokestatic 244, 3) := by decide +kernel
theorem dX12_deckLetter_22 : decode cX12_deckLetter 22 = .ok (.ireturn, 1) := by decide +kernel
theorem dX12_deckLetter_4 : decode cX12_deckLetter 4 = .ok (.aload_n 0, 1) := by decide +kernel
theorem dX12_deckLetter_5 : decode cX12_deckLetter 5 = .ok (.getfield 131, 3) := by decide +kernel
theorem dX12_deckLetter_8 : decode cX12_deckLetter 8 = .ok (.iload_n 1, 1) := by decide +kernel
theorem dX12_deckLetter_9 : decode cX12_deckLetter 9 = .ok (.iaload, 1) := by decide +kernel
set_option maxHeartbeats 4000000 in
set_option maxRecDepth 100000 in
theorem T_X12_deckLetter (l : Launch) (D : va_G) (K : Nat → ClassId) (Z Y : Nat → Nat) (ad : Nat → Nat) (t : tSt) (hok : okM t) (x1 : Int32) (hx1 : (0 : Int) ≤ x1.toInt ∧ x1.toInt ≤ 1280) (x2 : Int32) (hx2 : (1 : Int) ≤ x2.toInt ∧ x2.toInt ≤ 200) : tMet l yX12_deckLetter cX12_deckLetter 3 (some .int) (rmD 7 0 0) D K Z Y [.ref (ad 0), .int x1, .int x2] (WM K ad t) (QI D K (fun (r : Int32) (u : Unit) => (0 : Int) ≤ r.toInt ∧ r.toInt ≤ 255 ∧ (r = fDeck t x1 x2) ∧ (r.toInt = (fDeck t x1 x2).toInt) ∧ (¬ r.toInt = 32 → (t.2.2.1 37 (x1 : Int32).toNatClampNeg).toInt + x2.toInt ≤ (t.2.2.1 38 (x1 : Int32).toNatClampNeg).toInt) ∧ (81 ≤ x2.toInt → r.toInt = 32)) (fun (_ : Unit) => WM K ad t)) 0 0 := by
  refine t_met RX12 ⟨rfl, by decide +kernel⟩ (Nat.le_of_ble_eq_true rfl) ?_
  intro p e s m below meth c A ls C hE hZ hr hlocks hA hP hD hS hl
  have hl : lv_has ls 3 [(0, .ref (ad 0)), (1, .int x1), (2, .int x2)] := hl
  refine lv_aload_n C.1 C.2.1 dX12_deckLetter_0 rfl (lv_at hl 0 rfl) ?_
  refine k_get (v := .ref (ad 36)) C hP 0 rfl rfl inlX12 74 (by decide) m_8_20 rfl dX12_deckLetter_1 ?_
  refine lv_aload_n C.1 C.2.1 dX12_deckLetter_4 rfl (lv_at hl 0 rfl) ?_
  refine k_get (v := .ref (ad 37)) C hP 0 rfl rfl inlX12 75 (by decide) m_8_21 rfl dX12_deckLetter_5 ?_
  refine lv_iload_n C.1 C.2.1 dX12_deckLetter_8 rfl (lv_at hl 1 rfl) ?_
  have h_1 : (0 : Int) ≤ (t.2.2.1 37 (x1 : Int32).toNatClampNeg).toInt ∧ (t.2.2.1 37 (x1 : Int32).toNatClampNeg).toInt ≤ 1280 := hok.2.1 37 _
  refine k_ild (v := (t.2.2.1 37 (x1 : Int32).toNatClampNeg)) C hP 37 rfl (vp_in_iff.mpr ⟨by omega, by omega⟩) rfl dX12_deckLetter_9 ?_
  refine lv_aload_n C.1 C.2.1 dX12_deckLetter_10 rfl (lv_at hl 0 rfl) ?_
  refine k_get (v := .ref (ad 38)) C hP 0 rfl rfl inlX12 76 (by decide) m_8_22 rfl dX12_deckLetter_11 ?_
  refine lv_iload_n C.1 C.2.1 dX12_deckLetter_14 rfl (lv_at hl 1 rfl) ?_
  have h_2 : (0 : Int) ≤ (t.2.2.1 38 (x1 : Int32).toNatClampNeg).toInt ∧ (t.2.2.1 38 (x1 : Int32).toNatClampNeg).toInt ≤ 1280 := hok.2.1 38 _
  refine k_ild (v := (t.2.2.1 38 (x1 : Int32).toNatClampNeg)) C hP 38 rfl (vp_in_iff.mpr ⟨by omega, by omega⟩) rfl dX12_deckLetter_15 ?_
  refine lv_iload_n C.1 C.2.1 dX12_deckLetter_16 rfl (lv_at hl 2 rfl) ?_
  refine lv_iconst (v := 1) C.1 C.2.1 dX12_deckLetter_17 (by decide) ?_
  obtain ⟨v_3, e_4⟩ : ∃ z, z = (x2 : Int32) - (1 : Int32) := ⟨_, rfl⟩
  have h_5 : v_3.toInt = x2.toInt - 1 := by rw [e_4]; exact ti_isub (by show (_ : Int) ≤ x2.toInt - 1; omega) (by show x2.toInt - 1 < (_ : Int); omega)
  refine k_isub (v := v_3) C e_4.symm dX12_deckLetter_18 ?_
  refine g_Si (As := [.ref (ad 36), .int (t.2.2.1 37 (x1 : Int32).toNatClampNeg), .int (t.2.2.1 38 (x1 : Int32).toNatClampNeg), .int v_3]) (rest := []) C hP hD hS hA (T_X12_letterIn l D K Z Y ad t hok ((t.2.2.1 37 (x1 : Int32).toNatClampNeg)) (show (0 : Int) ≤ ((t.2.2.1 37 (x1 : Int32).toNatClampNeg) : Int32).toInt ∧ ((t.2.2.1 37 (x1 : Int32).toNatClampNeg) : Int32).toInt ≤ 1280 from ⟨by omega, by omega⟩) ((t.2.2.1 38 (x1 : Int32).toNatClampNeg)) (show (0 : Int) ≤ ((t.2.2.1 38 (x1 : Int32).toNatClampNeg) : Int32).toInt ∧ ((t.2.2.1 38 (x1 : Int32).toNatClampNeg) : Int32).toInt ≤ 1280 from ⟨by omega, by omega⟩) (v_3) (show (0 : Int) ≤ (v_3 : Int32).toInt ∧ (v_3 : Int32).toInt ≤ 199 from ⟨by omega, by omega⟩)) hE hZ (uwS m_31_12 m_31_13 m_1_5 m_31_14) (hdS 4 (by decide +kernel) rfl) ⟨Nat.le_of_ble_eq_true rfl, Nat.le_of_ble_eq_true rfl⟩ rfl rfl rfl hl.1 (Nat.le_of_ble_eq_true rfl) dX12_deckLetter_19 ⟨Nat.le_of_ble_eq_true rfl, Nat.le_of_ble_eq_true rfl⟩ (fun r_7 t_6 H locs hw hP hD hS => ?_)
  obtain ⟨h_9, h_10, p_11, p_12, p_13, p_14⟩ := hw
  replace p_11 : r_7 = gL (t.2.2.1 36) (t.2.2.1 37 (x1 : Int32).toNatClampNeg) (t.2.2.1 38 (x1 : Int32).toNatClampNeg) v_3 := p_11
  replace p_12 : r_7.toInt = (gL (t.2.2.1 36) (t.2.2.1 37 (x1 : Int32).toNatClampNeg) (t.2.2.1 38 (x1 : Int32).toNatClampNeg) v_3).toInt := p_12
  replace p_13 : ¬ r_7.toInt = 32 → (t.2.2.1 37 (x1 : Int32).toNatClampNeg).toInt + v_3.toInt < (t.2.2.1 38 (x1 : Int32).toNatClampNeg).toInt := p_13
  replace p_14 : 80 ≤ v_3.toInt → r_7.toInt = 32 := p_14
  exact g_iret C hr hlocks hP hD hS rfl () rfl ⟨by omega, by omega, (show r_7 = fDeck t x1 x2 from by subst_vars; rfl), (show (r_7 : Int32).toInt = (fDeck t x1 x2).toInt from by subst_vars; rfl), (show ¬ r_7.toInt = 32 → (t.2.2.1 37 (x1 : Int32).toNatClampNeg).toInt + x2.toInt ≤ (t.2.2.1 38 (x1 : Int32).toNatClampNeg).toInt from by omega), (show 81 ≤ x2.toInt → r_7.toInt = 32 from by omega)⟩ (Nat.le_of_ble_eq_true rfl) (Nat.le_of_ble_eq_true rfl) dX12_deckLetter_22

theorem dX12_cardWord_0 : decode cX12_cardWord 0 = .ok (.iconst 0, 1) := by decide +kernel
theorem dX12_cardWord_1 : decode cX12_cardWord 1 = .ok (.istore_n 2, 1) := by decide +kernel
theorem dX12_cardWord_10 : decode cX12_cardWord 10 = .ok (.iconst 5, 1) := by decide +kernel
theorem dX12_cardWord_11 : decode cX12_cardWord 11 = .ok (.iadd, 1) := by decide +kernel
theorem dX12_cardWord_12 : decode cX12_cardWord 12 = .ok (.if_icmp .ge 44, 3) := by decide +kernel
theorem dX12_cardWord_15 : decode cX12_cardWord 15 = .ok (.iload_n 2, 1) := by decide +kernel
theorem dX12_cardWord_16 : decode cX12_cardWord 16 = .ok (.bipush 6, 2) := by decide +kernel
theorem dX12_cardWord_18 : decode cX12_cardWord 18 = .ok (.ishl, 1) := by decide +kernel
theorem dX12_cardWord_19 : decode cX12_cardWord 19 = .ok (.aload_n 0, 1) := by decide +kernel
theorem dX12_cardWord_2 : decode cX12_cardWord 2 = .ok (.iconst 5, 1) := by decide +kernel
theorem dX12_cardWord_20 : decode cX12_cardWord 20 = .ok (.getfield 65, 3) := by decide +kernel
theorem dX12_cardWord_23 : decode cX12_cardWord 23 = .ok (.aload_n 0, 1) := by decide +kernel
theorem dX12_cardWord_24 : decode cX12_cardWord 24 = .ok (.getfield 68, 3) := by decide +kernel
theorem dX12_cardWord_27 : decode cX12_cardWord 27 = .ok (.aload_n 0, 1) := by decide +kernel
theorem dX12_cardWord_28 : decode cX12_cardWord 28 = .ok (.getfield 229, 3) := by decide +kernel
theorem dX12_cardWord_3 : decode cX12_cardWord 3 = .ok (.iload_n 1, 1) := by decide +kernel
theorem dX12_cardWord_31 : decode cX12_cardWord 31 = .ok (.iaload, 1) := by decide +kernel
theorem dX12_cardWord_32 : decode cX12_cardWord 32 = .ok (.aload_n 0, 1) := by decide +kernel
theorem dX12_cardWord_33 : decode cX12_cardWord 33 = .ok (.getfield 71, 3) := by decide +kernel
theorem dX12_cardWord_36 : decode cX12_cardWord 36 = .ok (.aload_n 0, 1) := by decide +kernel
theorem dX12_cardWord_37 : decode cX12_cardWord 37 = .ok (.getfield 229, 3) := by decide +kernel
theorem dX12_cardWord_4 : decode cX12_cardWord 4 = .ok (.imul, 1) := by decide +kernel
theorem dX12_cardWord_40 : decode cX12_cardWord 40 = .ok (.iaload, 1) := by decide +kernel
theorem dX12_cardWord_41 : decode cX12_cardWord 41 = .ok (.iload_n 3, 1) := by decide +kernel
theorem dX12_cardWord_42 : decode cX12_cardWord 42 = .ok (.invokestatic 244, 3) := by decide +kernel
theorem dX12_cardWord_45 : decode cX12_cardWord 45 = .ok (.invokestatic 183, 3) := by decide +kernel
theorem dX12_cardWord_48 : decode cX12_cardWord 48 = .ok (.ior, 1) := by decide +kernel
theorem dX12_cardWord_49 : decode cX12_cardWord 49 = .ok (.istore_n 2, 1) := by decide +kernel
theorem dX12_cardWord_5 : decode cX12_cardWord 5 = .ok (.istore_n 3, 1) := by decide +kernel
theorem dX12_cardWord_50 : decode cX12_cardWord 50 = .ok (.iinc 3 1, 3) := by decide +kernel
theorem dX12_cardWord_53 : decode cX12_cardWord 53 = .ok (.goto (-47), 3) := by decide +kernel
theorem dX12_cardWord_56 : decode cX12_cardWord 56 = .ok (.iload_n 2, 1) := by decide +kernel
theorem dX12_cardWord_57 : decode cX12_cardWord 57 = .ok (.ireturn, 1) := by decide +kernel
theorem dX12_cardWord_6 : decode cX12_cardWord 6 = .ok (.iload_n 3, 1) := by decide +kernel
theorem dX12_cardWord_7 : decode cX12_cardWord 7 = .ok (.iconst 5, 1) := by decide +kernel
theorem dX12_cardWord_8 : decode cX12_cardWord 8 = .ok (.iload_n 1, 1) := by decide +kernel
theorem dX12_cardWord_9 : decode cX12_cardWord 9 = .ok (.imul, 1) := by decide +kernel
set_option maxHeartbeats 4000000 in
set_option maxRecDepth 100000 in
theorem T_X12_cardWord (l : Launch) (D : va_G) (K : Nat → ClassId) (Z Y : Nat → Nat) (ad : Nat → Nat) (t : tSt) (hok : okM t) (x1 : Int32) (hx1 : (0 : Int) ≤ x1.toInt ∧ x1.toInt ≤ 15) : tMet l yX12_cardWord cX12_cardWord 4 (some .int) (rmD 7 0 0) D K Z Y [.ref (ad 0), .int x1] (WM K ad t) (QI D K (fun (r : Int32) (u : Unit) => (-2147483648 : Int) ≤ r.toInt ∧ r.toInt ≤ 2147483647) (fun (_ : Unit) => WM K ad t)) 0 0 := by
  refine t_met RX12 ⟨rfl, by decide +kernel⟩ (Nat.le_of_ble_eq_true rfl) ?_
  intro p e s m below meth c A ls C hE hZ hr hlocks hA hP hD hS hl
  have hl : lv_has ls 4 [(0, .ref (ad 0)), (1, .int x1)] := hl
  have L_6 : ∀ (fuel_6 : Nat) (w6_2 : Int32) (w6_3 : Int32) (H : Heap) (locs : List Loc) (ls : Array Slot), (0 : Int) ≤ w6_3.toInt ∧ w6_3.toInt ≤ 80 → (80 : Int) - w6_3.toInt < (fuel_6 : Int) → va_P D vwCl (WM K ad t) H → va_D A (WM K ad t) → va_S A s.heap H locs → lv_has ls 4 [(0, .ref (ad 0)), (1, .int x1), (2, .int w6_2), (3, .int w6_3)] → W p l e (rmD 7 0 0) s m [.ref (ad 0), .int x1].toArray below meth c H locs 0 0 (MQ below (QI D K (fun (r : Int32) (u : Unit) => (-2147483648 : Int) ≤ r.toInt ∧ r.toInt ≤ 2147483647) (fun (_ : Unit) => WM K ad t) A) [.ref (ad 0), .int x1].toArray s 0 0 A) (F0 m 6 ls []) := by
    intro fuel_6
    induction fuel_6 with
    | zero =>
      intro w6_2 w6_3 H locs ls hw6_3 hm6_6 hP hD hS hl
      exact absurd hm6_6 (by omega)
    | succ fuel_6 ih_6 =>
      intro w6_2 w6_3 H locs ls hw6_3 hm6_6 hP hD hS hl
      have hm6_6 : (80 : Int) - w6_3.toInt < (fuel_6 : Int) + 1 := by omega
      refine lv_iload_n C.1 C.2.1 dX12_cardWord_6 rfl (lv_at hl 3 rfl) ?_
      refine lv_iconst (v := 5) C.1 C.2.1 dX12_cardWord_7 (by decide) ?_
      refine lv_iload_n C.1 C.2.1 dX12_cardWord_8 rfl (lv_at hl 1 rfl) ?_
      obtain ⟨v_1, e_2⟩ : ∃ z, z = (5 : Int32) * (x1 : Int32) := ⟨_, rfl⟩
      have h_3 : v_1.toInt = 5 * x1.toInt := by rw [e_2]; exact ti_mull (k := 5) (by decide) (by omega) (by omega)
      refine k_imul (v := v_1) C e_2.symm dX12_cardWord_9 ?_
      refine lv_iconst (v := 5) C.1 C.2.1 dX12_cardWord_10 (by decide) ?_
      obtain ⟨v_4, e_5⟩ : ∃ z, z = (v_1 : Int32) + (5 : Int32) := ⟨_, rfl⟩
      have h_6 : v_4.toInt = v_1.toInt + 5 := by rw [e_5]; exact ti_iadd (by show (_ : Int) ≤ v_1.toInt + 5; omega) (by show v_1.toInt + 5 < (_ : Int); omega)
      refine k_iadd (v := v_4) C e_5.symm dX12_cardWord_11 ?_
      refine lv_icmp_ge (tgt := 56) C.1 C.2.1 dX12_cardWord_12 (by decide) (fun c_7 => ?_) (fun c_7 => ?_)
      · replace c_7 : v_4.toInt ≤ w6_3.toInt := i_le c_7
        refine lv_iload_n C.1 C.2.1 dX12_cardWord_56 rfl (lv_at hl 2 rfl) ?_
        exact g_iret C hr hlocks hP hD hS rfl () rfl ⟨(i_rng _).1, (i_rng _).2⟩ (Nat.le_of_ble_eq_true rfl) (Nat.le_of_ble_eq_true rfl) dX12_cardWord_57
      · replace c_7 : w6_3.toInt < v_4.toInt := i_nle c_7
        refine lv_iload_n C.1 C.2.1 dX12_cardWord_15 rfl (lv_at hl 2 rfl) ?_
        refine lv_bipush (v := 6) C.1 C.2.1 dX12_cardWord_16 (by decide) ?_
        obtain ⟨v_8, e_9⟩ : ∃ z, z = (w6_2 : Int32) <<< ((6 : Int32) &&& 31) := ⟨_, rfl⟩
        refine k_ishl (v := v_8) C e_9.symm dX12_cardWord_18 ?_
        refine lv_aload_n C.1 C.2.1 dX12_cardWord_19 rfl (lv_at hl 0 rfl) ?_
        refine k_get (v := .ref (ad 15)) C hP 0 rfl rfl inlX12 32 (by decide) m_7_23 rfl dX12_cardWord_20 ?_
        refine lv_aload_n C.1 C.2.1 dX12_cardWord_23 rfl (lv_at hl 0 rfl) ?_
        refine k_get (v := .ref (ad 16)) C hP 0 rfl rfl inlX12 33 (by decide) m_8_0 rfl dX12_cardWord_24 ?_
        refine lv_aload_n C.1 C.2.1 dX12_cardWord_27 rfl (lv_at hl 0 rfl) ?_
        have h_11 : (0 : Int) ≤ (t.1 0 35).toInt ∧ (t.1 0 35).toInt ≤ 1700 := hok.1 0 35
        refine k_get (v := .int (t.1 0 35)) C hP 0 rfl rfl inlX12 35 (by decide) m_44_17 rfl dX12_cardWord_28 ?_
        obtain ⟨v_12, e_13⟩ : ∃ z, z = (t.2.2.1 16 ((t.1 0 35) : Int32).toNatClampNeg) := ⟨_, rfl⟩
        have h_14 : (0 : Int) ≤ v_12.toInt ∧ v_12.toInt ≤ 33300 := by rw [e_13]; exact hok.2.1 16 _
        refine k_ild (v := v_12) C hP 16 rfl (vp_in_iff.mpr ⟨by omega, by omega⟩) e_13.symm dX12_cardWord_31 ?_
        refine lv_aload_n C.1 C.2.1 dX12_cardWord_32 rfl (lv_at hl 0 rfl) ?_
        refine k_get (v := .ref (ad 17)) C hP 0 rfl rfl inlX12 34 (by decide) m_8_1 rfl dX12_cardWord_33 ?_
        refine lv_aload_n C.1 C.2.1 dX12_cardWord_36 rfl (lv_at hl 0 rfl) ?_
        refine k_get (v := .int (t.1 0 35)) C hP 0 rfl rfl inlX12 35 (by decide) m_44_17 rfl dX12_cardWord_37 ?_
        obtain ⟨v_15, e_16⟩ : ∃ z, z = (t.2.2.1 17 ((t.1 0 35) : Int32).toNatClampNeg) := ⟨_, rfl⟩
        have h_17 : (0 : Int) ≤ v_15.toInt ∧ v_15.toInt ≤ 33300 := by rw [e_16]; exact hok.2.1 17 _
        refine k_ild (v := v_15) C hP 17 rfl (vp_in_iff.mpr ⟨by omega, by omega⟩) e_16.symm dX12_cardWord_40 ?_
        refine lv_iload_n C.1 C.2.1 dX12_cardWord_41 rfl (lv_at hl 3 rfl) ?_
        refine g_Si (As := [.ref (ad 15), .int v_12, .int v_15, .int w6_3]) (rest := [.int v_8]) C hP hD hS hA (T_X12_letterIn_1 l D K Z Y ad t hok (v_12) (show (0 : Int) ≤ (v_12 : Int32).toInt ∧ (v_12 : Int32).toInt ≤ 33300 from ⟨by omega, by omega⟩) (v_15) (show (0 : Int) ≤ (v_15 : Int32).toInt ∧ (v_15 : Int32).toInt ≤ 33300 from ⟨by omega, by omega⟩) (w6_3) (show (0 : Int) ≤ (w6_3 : Int32).toInt ∧ (w6_3 : Int32).toInt ≤ 79 from ⟨by omega, by omega⟩)) hE hZ (uwS m_31_12 m_31_13 m_1_5 m_31_14) (hdS 4 (by decide +kernel) rfl) ⟨Nat.le_of_ble_eq_true rfl, Nat.le_of_ble_eq_true rfl⟩ rfl rfl rfl hl.1 (Nat.le_of_ble_eq_true rfl) dX12_cardWord_42 ⟨Nat.le_of_ble_eq_true rfl, Nat.le_of_ble_eq_true rfl⟩ (fun r_19 t_18 H locs hw hP hD hS => ?_)
        obtain ⟨h_21, h_22, p_23, p_24, p_25, p_26⟩ := hw
        replace p_23 : r_19 = gL (t.2.2.1 15) v_12 v_15 w6_3 := p_23
        replace p_24 : r_19.toInt = (gL (t.2.2.1 15) v_12 v_15 w6_3).toInt := p_24
        replace p_25 : ¬ r_19.toInt = 32 → v_12.toInt + w6_3.toInt < v_15.toInt := p_25
        replace p_26 : 80 ≤ w6_3.toInt → r_19.toInt = 32 := p_26
        refine g_Si (As := [.int r_19]) (rest := [.int v_8]) C hP hD hS hA (T_X12_byteOf l D K Z Y ad t hok (r_19) (show (-3999 : Int) ≤ (r_19 : Int32).toInt ∧ (r_19 : Int32).toInt ≤ 255 from ⟨by omega, by omega⟩)) hE hZ (uwS m_31_15 m_31_16 m_1_5 m_31_17) (hdS 1 (by decide +kernel) rfl) ⟨Nat.le_of_ble_eq_true rfl, Nat.le_of_ble_eq_true rfl⟩ rfl rfl rfl hl.1 (Nat.le_of_ble_eq_true rfl) dX12_cardWord_45 ⟨Nat.le_of_ble_eq_true rfl, Nat.le_of_ble_eq_true rfl⟩ (fun r_28 t_27 H locs hw hP hD hS => ?_)
        obtain ⟨h_30, h_31, p_32⟩ := hw
        replace p_32 : r_28 = bO r_19 := p_32
        obtain ⟨v_33, e_34⟩ : ∃ z, z = (v_8 : Int32) ||| (r_28 : Int32) := ⟨_, rfl⟩
        refine k_ior (v := v_33) C e_34.symm dX12_cardWord_48 ?_
        refine lv_istore_n (lv' := [(2, .int v_33), (0, .ref (ad 0)), (1, .int x1), (3, .int w6_3)]) C.1 C.2.1 dX12_cardWord_49 rfl hl (by decide) rfl (fun ls hl => ?_)
        have hl : lv_has ls 4 [(0, .ref (ad 0)), (1, .int x1), (2, .int v_33), (3, .int w6_3)] := lv_sub hl [1, 2, 0, 3] rfl
        obtain ⟨v_36, e_37⟩ : ∃ z, z = w6_3 + 1 := ⟨_, rfl⟩
        have h_38 : v_36.toInt = w6_3.toInt + 1 := by rw [e_37]; exact ti_iadd (by show (_ : Int) ≤ w6_3.toInt + 1; omega) (by show w6_3.toInt + 1 < (_ : Int); omega)
        refine lv_iinc (v := v_36) (lv' := [(3, .int v_36), (0, .ref (ad 0)), (1, .int x1), (2, .int v_33)]) C.1 C.2.1 dX12_cardWord_50 hl (k := 3) rfl e_37.symm (by decide) rfl (fun ls hl => ?_)
        have hl : lv_has ls 4 [(0, .ref (ad 0)), (1, .int x1), (2, .int v_33), (3, .int v_36)] := lv_sub hl [1, 2, 3, 0] rfl
        refine lv_goto (tgt := 6) C.1 C.2.1 dX12_cardWord_53 (by decide) ?_
        exact ih_6 v_33 v_36 _ _ _ ⟨by omega, by omega⟩ (show (80 : Int) - v_36.toInt < (fuel_6 : Int) from by omega) hP hD hS (lv_sub hl [0, 1, 2, 3] rfl)
  refine lv_iconst (v := 0) C.1 C.2.1 dX12_cardWord_0 (by decide) ?_
  refine lv_istore_n (lv' := [(2, .int 0), (0, .ref (ad 0)), (1, .int x1)]) C.1 C.2.1 dX12_cardWord_1 rfl hl (by decide) rfl (fun ls hl => ?_)
  have hl : lv_has ls 4 [(0, .ref (ad 0)), (1, .int x1), (2, .int 0)] := lv_sub hl [1, 2, 0] rfl
  refine lv_iconst (v := 5) C.1 C.2.1 dX12_cardWord_2 (by decide) ?_
  refine lv_iload_n C.1 C.2.1 dX12_cardWord_3 rfl (lv_at hl 1 rfl) ?_
  obtain ⟨v_39, e_40⟩ : ∃ z, z = (5 : Int32) * (x1 : Int32) := ⟨_, rfl⟩
  have h_41 : v_39.toInt = 5 * x1.toInt := by rw [e_40]; exact ti_mull (k := 5) (by decide) (by omega) (by omega)
  refine k_imul (v := v_39) C e_40.symm dX12_cardWord_4 ?_
  refine lv_istore_n (lv' := [(3, .int v_39), (0, .ref (ad 0)), (1, .int x1), (2, .int 0)]) C.1 C.2.1 dX12_cardWord_5 rfl hl (by decide) rfl (fun ls hl => ?_)
  have hl : lv_has ls 4 [(0, .ref (ad 0)), (1, .int x1), (2, .int 0), (3, .int v_39)] := lv_sub hl [1, 2, 3, 0] rfl
  exact L_6 81 0 v_39 _ _ _ ⟨by omega, by omega⟩ (show (80 : Int) - v_39.toInt < ((81 : Nat) : Int) from by omega) hP hD hS (lv_sub hl [0, 1, 2, 3] rfl)

theorem dX12_findLines_0 : decode cX12_findLines 0 = .ok (.aload_n 0, 1) := by decide +kernel
theorem dX12_findLines_1 : decode cX12_findLines 1 = .ok (.iconst 0, 1) := by decide +kernel
theorem dX12_findLines_12 : decode cX12_findLines 12 = .ok (.if_icmp .ge 59, 3) := by decide +kernel
theorem dX12_findLines_15 : decode cX12_findLines 15 = .ok (.aload_n 0, 1) := by decide +kernel
theorem dX12_findLines_16 : decode cX12_findLines 16 = .ok (.getfield 77, 3) := by decide +kernel
theorem dX12_findLines_19 : decode cX12_findLines 19 = .ok (.aload_n 0, 1) := by decide +kernel
theorem dX12_findLines_2 : decode cX12_findLines 2 = .ok (.putfield 436, 3) := by decide +kernel
theorem dX12_findLines_20 : decode cX12_findLines 20 = .ok (.getfield 436, 3) := by decide +kernel
theorem dX12_findLines_23 : decode cX12_findLines 23 = .ok (.iload_n 1, 1) := by decide +kernel
theorem dX12_findLines_24 : decode cX12_findLines 24 = .ok (.iastore, 1) := by decide +kernel
theorem dX12_findLines_25 : decode cX12_findLines 25 = .ok (.aload_n 0, 1) := by decide +kernel
theorem dX12_findLines_26 : decode cX12_findLines 26 = .ok (.getfield 80, 3) := by decide +kernel
theorem dX12_findLines_29 : decode cX12_findLines 29 = .ok (.aload_n 0, 1) := by decide +kernel
theorem dX12_findLines_30 : decode cX12_findLines 30 = .ok (.getfield 436, 3) := by decide +kernel
theorem dX12_findLines_33 : decode cX12_findLines 33 = .ok (.aload_n 0, 1) := by decide +kernel
theorem dX12_findLines_34 : decode cX12_findLines 34 = .ok (.getfield 74, 3) := by decide +kernel
theorem dX12_findLines_37 : decode cX12_findLines 37 = .ok (.iload_n 1, 1) := by decide +kernel
theorem dX12_findLines_38 : decode cX12_findLines 38 = .ok (.aload_n 0, 1) := by decide +kernel
theorem dX12_findLines_39 : decode cX12_findLines 39 = .ok (.getfield 433, 3) := by decide +kernel
theorem dX12_findLines_42 : decode cX12_findLines 42 = .ok (.invokestatic 439, 3) := by decide +kernel
theorem dX12_findLines_45 : decode cX12_findLines 45 = .ok (.iastore, 1) := by decide +kernel
theorem dX12_findLines_46 : decode cX12_findLines 46 = .ok (.aload_n 0, 1) := by decide +kernel
theorem dX12_findLines_47 : decode cX12_findLines 47 = .ok (.getfield 80, 3) := by decide +kernel
theorem dX12_findLines_5 : decode cX12_findLines 5 = .ok (.iconst 0, 1) := by decide +kernel
theorem dX12_findLines_50 : decode cX12_findLines 50 = .ok (.aload_n 0, 1) := by decide +kernel
theorem dX12_findLines_51 : decode cX12_findLines 51 = .ok (.getfield 436, 3) := by decide +kernel
theorem dX12_findLines_54 : decode cX12_findLines 54 = .ok (.iaload, 1) := by decide +kernel
theorem dX12_findLines_55 : decode cX12_findLines 55 = .ok (.iconst 1, 1) := by decide +kernel
theorem dX12_findLines_56 : decode cX12_findLines 56 = .ok (.iadd, 1) := by decide +kernel
theorem dX12_findLines_57 : decode cX12_findLines 57 = .ok (.istore_n 1, 1) := by decide +kernel
theorem dX12_findLines_58 : decode cX12_findLines 58 = .ok (.aload_n 0, 1) := by decide +kernel
theorem dX12_findLines_59 : decode cX12_findLines 59 = .ok (.dup, 1) := by decide +kernel
theorem dX12_findLines_6 : decode cX12_findLines 6 = .ok (.istore_n 1, 1) := by decide +kernel
theorem dX12_findLines_60 : decode cX12_findLines 60 = .ok (.getfield 436, 3) := by decide +kernel
theorem dX12_findLines_63 : decode cX12_findLines 63 = .ok (.iconst 1, 1) := by decide +kernel
theorem dX12_findLines_64 : decode cX12_findLines 64 = .ok (.iadd, 1) := by decide +kernel
theorem dX12_findLines_65 : decode cX12_findLines 65 = .ok (.putfield 436, 3) := by decide +kernel
theorem dX12_findLines_68 : decode cX12_findLines 68 = .ok (.goto (-61), 3) := by decide +kernel
theorem dX12_findLines_7 : decode cX12_findLines 7 = .ok (.iload_n 1, 1) := by decide +kernel
theorem dX12_findLines_71 : decode cX12_findLines 71 = .ok (.return_, 1) := by decide +kernel
theorem dX12_findLines_8 : decode cX12_findLines 8 = .ok (.aload_n 0, 1) := by decide +kernel
theorem dX12_findLines_9 : decode cX12_findLines 9 = .ok (.getfield 433, 3) := by decide +kernel
set_option maxHeartbeats 4000000 in
set_option maxRecDepth 100000 in
theorem T_X12_findLines (l : Launch) (D : va_G) (K : Nat → ClassId) (Z Y : Nat → Nat) (ad : Nat → Nat) (t : tSt) (hok : okM t)  : tMet l yX12_findLines cX12_findLines 2 none (rmD 1 0 0) D K Z Y [.ref (ad 0)] (WM K ad t) (QV D K (fun (u : tSt) => okM u ∧ frA [(0, 41)] [] [19, 20] [] t u ∧ (lnS (u.1 0 41).toInt (u.2.2.1 19) (u.2.2.1 20))) (fun (u : tSt) => WM K ad u)) 0 0 := by
  refine t_met RX12 ⟨rfl, by decide +kernel⟩ (Nat.le_of_ble_eq_true rfl) ?_
  intro p e s m below meth c A ls C hE hZ hr hlocks hA hP hD hS hl
  have hl : lv_has ls 2 [(0, .ref (ad 0))] := hl
  have hokt := hok
  have hfr : frA [(0, 41)] [] [19, 20] [] t t := frA_rf
  have h_1 : (0 : Int) ≤ (t.1 0 38).toInt ∧ (t.1 0 38).toInt ≤ 1280 := hok.1 0 38
  have h_2 : (0 : Int) ≤ (t.1 0 41).toInt ∧ (t.1 0 41).toInt ≤ 1280 := hok.1 0 41
  have L_7 : ∀ (fuel_7 : Nat) (t1 : tSt) (w7_1 : Int32) (H : Heap) (locs : List Loc) (ls : Array Slot), okM t1 → frA [(0, 41)] [] [19, 20] [] t t1 → (0 : Int) ≤ w7_1.toInt ∧ w7_1.toInt ≤ 1281 → (0 ≤ w7_1.toInt) → (w7_1.toInt ≤ (t1.1 0 38).toInt + 1) → ((t1.1 0 41).toInt ≤ w7_1.toInt) → (lnS (t1.1 0 41).toInt (t1.2.2.1 19) (t1.2.2.1 20)) → (∀ w : Int32, 0 ≤ w.toInt → w.toInt + 1 = (t1.1 0 41).toInt → w7_1.toInt = ((t1.2.2.1 20) w.toNatClampNeg).toInt + 1) → (1300 - w7_1.toInt) < (fuel_7 : Int) → va_P D vwCl (WM K ad t1) H → va_D A (WM K ad t1) → va_S A s.heap H locs → lv_has ls 2 [(0, .ref (ad 0)), (1, .int w7_1)] → W p l e (rmD 1 0 0) s m [.ref (ad 0)].toArray below meth c H locs 0 0 (MQ below (QV D K (fun (u : tSt) => okM u ∧ frA [(0, 41)] [] [19, 20] [] t u ∧ (lnS (u.1 0 41).toInt (u.2.2.1 19) (u.2.2.1 20))) (fun (u : tSt) => WM K ad u) A) [.ref (ad 0)].toArray s 0 0 A) (F0 m 7 ls []) := by
    intro fuel_7
    induction fuel_7 with
    | zero =>
      intro t1 w7_1 H locs ls hok hfr hw7_1 hi7_0 hi7_1 hi7_2 hi7_3 hi7_4 hm7_7 hP hD hS hl
      have h_3 : (t1.1 0 38).toInt = (t.1 0 38).toInt := ti_eq (hfr.1 0 38 rfl)
      have h_4 : (0 : Int) ≤ (t1.1 0 38).toInt ∧ (t1.1 0 38).toInt ≤ 1280 := hok.1 0 38
      have h_5 : (0 : Int) ≤ (t1.1 0 41).toInt ∧ (t1.1 0 41).toInt ≤ 1280 := hok.1 0 41
      exact absurd hm7_7 (by omega)
    | succ fuel_7 ih_7 =>
      intro t1 w7_1 H locs ls hok hfr hw7_1 hi7_0 hi7_1 hi7_2 hi7_3 hi7_4 hm7_7 hP hD hS hl
      have hm7_7 : (1300 - w7_1.toInt) < (fuel_7 : Int) + 1 := by omega
      have h_6 : (t1.1 0 38).toInt = (t.1 0 38).toInt := ti_eq (hfr.1 0 38 rfl)
      have h_7 : (0 : Int) ≤ (t1.1 0 38).toInt ∧ (t1.1 0 38).toInt ≤ 1280 := hok.1 0 38
      have h_8 : (0 : Int) ≤ (t1.1 0 41).toInt ∧ (t1.1 0 41).toInt ≤ 1280 := hok.1 0 41
      refine lv_iload_n C.1 C.2.1 dX12_findLines_7 rfl (lv_at hl 1 rfl) ?_
      refine lv_aload_n C.1 C.2.1 dX12_findLines_8 rfl (lv_at hl 0 rfl) ?_
      refine k_get (v := .int (t1.1 0 38)) C hP 0 rfl rfl inlX12 38 (by decide) m_29_6 rfl dX12_findLines_9 ?_
      refine lv_icmp_ge (tgt := 71) C.1 C.2.1 dX12_findLines_12 (by decide) (fun c_9 => ?_) (fun c_9 => ?_)
      · replace c_9 : (t1.1 0 38).toInt ≤ w7_1.toInt := i_le c_9
        exact g_vret C hr hlocks hP hD hS t1 rfl ⟨hok, hfr, (show lnS (t1.1 0 41).toInt (t1.2.2.1 19) (t1.2.2.1 20) from by exact hi7_3)⟩ (Nat.le_of_ble_eq_true rfl) (Nat.le_of_ble_eq_true rfl) dX12_findLines_71
      · replace c_9 : w7_1.toInt < (t1.1 0 38).toInt := i_nle c_9
        refine lv_aload_n C.1 C.2.1 dX12_findLines_15 rfl (lv_at hl 0 rfl) ?_
        refine k_get (v := .ref (ad 19)) C hP 0 rfl rfl inlX12 39 (by decide) m_8_3 rfl dX12_findLines_16 ?_
        refine lv_aload_n C.1 C.2.1 dX12_findLines_19 rfl (lv_at hl 0 rfl) ?_
        refine k_get (v := .int (t1.1 0 41)) C hP 0 rfl rfl inlX12 41 (by decide) m_29_12 rfl dX12_findLines_20 ?_
        refine lv_iload_n C.1 C.2.1 dX12_findLines_23 rfl (lv_at hl 1 rfl) ?_
        refine k_ist (ws' := WM K ad (uB t1 19 ((t1.1 0 41) : Int32).toNatClampNeg w7_1)) (x' := w7_1) C hP hD hS 19 rfl (vp_in_iff.mpr ⟨by omega, by omega⟩) rfl rfl rfl dX12_findLines_24 (fun H locs hP hD hS => ?_)
        have hok : okM (uB t1 19 ((t1.1 0 41) : Int32).toNatClampNeg w7_1) := ⟨hok.1, okB_B hok.2.1 19 _ w7_1 (show (0 : Int) ≤ (w7_1 : Int32).toInt ∧ (w7_1 : Int32).toInt ≤ 1280 from ⟨by omega, by omega⟩), hok.2.2.1, hok.2.2.2.1, hok.2.2.2.2.1, hok.2.2.2.2.2.1, hok.2.2.2.2.2.2.1, trivial⟩
        have hfr : frA [(0, 41)] [] [19, 20] [] t (uB t1 19 ((t1.1 0 41) : Int32).toNatClampNeg w7_1) := frA_B hfr 19 _ _ rfl
        refine lv_aload_n C.1 C.2.1 dX12_findLines_25 rfl (lv_at hl 0 rfl) ?_
        refine k_get (v := .ref (ad 20)) C hP 0 rfl rfl inlX12 40 (by decide) m_8_4 rfl dX12_findLines_26 ?_
        refine lv_aload_n C.1 C.2.1 dX12_findLines_29 rfl (lv_at hl 0 rfl) ?_
        refine k_get (v := .int (t1.1 0 41)) C hP 0 rfl rfl inlX12 41 (by decide) m_29_12 rfl dX12_findLines_30 ?_
        refine lv_aload_n C.1 C.2.1 dX12_findLines_33 rfl (lv_at hl 0 rfl) ?_
        refine k_get (v := .ref (ad 18)) C hP 0 rfl rfl inlX12 37 (by decide) m_8_2 rfl dX12_findLines_34 ?_
        refine lv_iload_n C.1 C.2.1 dX12_findLines_37 rfl (lv_at hl 1 rfl) ?_
        refine lv_aload_n C.1 C.2.1 dX12_findLines_38 rfl (lv_at hl 0 rfl) ?_
        refine k_get (v := .int (t1.1 0 38)) C hP 0 rfl rfl inlX12 38 (by decide) m_29_6 rfl dX12_findLines_39 ?_
        refine g_Si (As := [.ref (ad 18), .int w7_1, .int (t1.1 0 38)]) (rest := [.int (t1.1 0 41), .ref (ad 20)]) C hP hD hS hA (T_X12_lineEnd_1 l D K Z Y ad (uB t1 19 ((t1.1 0 41) : Int32).toNatClampNeg w7_1) hok (w7_1) (show (0 : Int) ≤ (w7_1 : Int32).toInt ∧ (w7_1 : Int32).toInt ≤ 1280 from ⟨by omega, by omega⟩) ((t1.1 0 38)) (show (1 : Int) ≤ ((t1.1 0 38) : Int32).toInt ∧ ((t1.1 0 38) : Int32).toInt ≤ 1280 from ⟨by omega, by omega⟩)) hE hZ (uwS m_30_23 m_31_0 m_1_5 m_31_1) (hdS 3 (by decide +kernel) rfl) ⟨Nat.le_of_ble_eq_true rfl, Nat.le_of_ble_eq_true rfl⟩ rfl rfl rfl hl.1 (Nat.le_of_ble_eq_true rfl) dX12_findLines_42 ⟨Nat.le_of_ble_eq_true rfl, Nat.le_of_ble_eq_true rfl⟩ (fun r_11 t_10 H locs hw hP hD hS => ?_)
        obtain ⟨h_13, h_14, p_15, p_16, p_17⟩ := hw
        replace p_15 : w7_1.toInt ≤ r_11.toInt := p_15
        replace p_16 : r_11.toInt ≤ (t1.1 0 38).toInt ∨ r_11.toInt = w7_1.toInt := p_16
        replace p_17 : leP (t1.2.2.1 18) w7_1 (t1.1 0 38) r_11 := p_17
        refine k_ist (ws' := WM K ad (uB (uB t1 19 ((t1.1 0 41) : Int32).toNatClampNeg w7_1) 20 ((t1.1 0 41) : Int32).toNatClampNeg r_11)) (x' := r_11) C hP hD hS 20 rfl (vp_in_iff.mpr ⟨by omega, by omega⟩) rfl rfl rfl dX12_findLines_45 (fun H locs hP hD hS => ?_)
        have hok : okM (uB (uB t1 19 ((t1.1 0 41) : Int32).toNatClampNeg w7_1) 20 ((t1.1 0 41) : Int32).toNatClampNeg r_11) := ⟨hok.1, okB_B hok.2.1 20 _ r_11 (show (0 : Int) ≤ (r_11 : Int32).toInt ∧ (r_11 : Int32).toInt ≤ 1280 from ⟨by omega, by omega⟩), hok.2.2.1, hok.2.2.2.1, hok.2.2.2.2.1, hok.2.2.2.2.2.1, hok.2.2.2.2.2.2.1, trivial⟩
        have hfr : frA [(0, 41)] [] [19, 20] [] t (uB (uB t1 19 ((t1.1 0 41) : Int32).toNatClampNeg w7_1) 20 ((t1.1 0 41) : Int32).toNatClampNeg r_11) := frA_B hfr 20 _ _ rfl
        have hlt : ((uB (uB t1 19 ((t1.1 0 41) : Int32).toNatClampNeg w7_1) 20 ((t1.1 0 41) : Int32).toNatClampNeg r_11).2.2.1 20 ((t1.1 0 41) : Int32).toNatClampNeg).toInt = (r_11 : Int32).toInt := by show (upd _ _ _ _).toInt = _; rw [pk_us]
        refine lv_aload_n C.1 C.2.1 dX12_findLines_46 rfl (lv_at hl 0 rfl) ?_
        refine k_get (v := .ref (ad 20)) C hP 0 rfl rfl inlX12 40 (by decide) m_8_4 rfl dX12_findLines_47 ?_
        refine lv_aload_n C.1 C.2.1 dX12_findLines_50 rfl (lv_at hl 0 rfl) ?_
        refine k_get (v := .int (t1.1 0 41)) C hP 0 rfl rfl inlX12 41 (by decide) m_29_12 rfl dX12_findLines_51 ?_
        have h_18 : (0 : Int) ≤ ((uB (uB t1 19 ((t1.1 0 41) : Int32).toNatClampNeg w7_1) 20 ((t1.1 0 41) : Int32).toNatClampNeg r_11).2.2.1 20 ((t1.1 0 41) : Int32).toNatClampNeg).toInt ∧ ((uB (uB t1 19 ((t1.1 0 41) : Int32).toNatClampNeg w7_1) 20 ((t1.1 0 41) : Int32).toNatClampNeg r_11).2.2.1 20 ((t1.1 0 41) : Int32).toNatClampNeg).toInt ≤ 1280 := hok.2.1 20 _
        refine k_ild (v := ((uB (uB t1 19 ((t1.1 0 41) : Int32).toNatClampNeg w7_1) 20 ((t1.1 0 41) : Int32).toNatClampNeg r_11).2.2.1 20 ((t1.1 0 41) : Int32).toNatClampNeg)) C hP 20 rfl (vp_in_iff.mpr ⟨by omega, by omega⟩) rfl dX12_findLines_54 ?_
        refine lv_iconst (v := 1) C.1 C.2.1 dX12_findLines_55 (by decide) ?_
        obtain ⟨v_19, e_20⟩ : ∃ z, z = (((uB (uB t1 19 ((t1.1 0 41) : Int32).toNatClampNeg w7_1) 20 ((t1.1 0 41) : Int32).toNatClampNeg r_11).2.2.1 20 ((t1.1 0 41) : Int32).toNatClampNeg) : Int32) + (1 : Int32) := ⟨_, rfl⟩
        have h_21 : v_19.toInt = ((uB (uB t1 19 ((t1.1 0 41) : Int32).toNatClampNeg w7_1) 20 ((t1.1 0 41) : Int32).toNatClampNeg r_11).2.2.1 20 ((t1.1 0 41) : Int32).toNatClampNeg).toInt + 1 := by rw [e_20]; exact ti_iadd (by show (_ : Int) ≤ ((uB (uB t1 19 ((t1.1 0 41) : Int32).toNatClampNeg w7_1) 20 ((t1.1 0 41) : Int32).toNatClampNeg r_11).2.2.1 20 ((t1.1 0 41) : Int32).toNatClampNeg).toInt + 1; omega) (by show ((uB (uB t1 19 ((t1.1 0 41) : Int32).toNatClampNeg w7_1) 20 ((t1.1 0 41) : Int32).toNatClampNeg r_11).2.2.1 20 ((t1.1 0 41) : Int32).toNatClampNeg).toInt + 1 < (_ : Int); omega)
        refine k_iadd (v := v_19) C e_20.symm dX12_findLines_56 ?_
        refine lv_istore_n (lv' := [(1, .int v_19), (0, .ref (ad 0))]) C.1 C.2.1 dX12_findLines_57 rfl hl (by decide) rfl (fun ls hl => ?_)
        have hl : lv_has ls 2 [(0, .ref (ad 0)), (1, .int v_19)] := lv_sub hl [1, 0] rfl
        refine lv_aload_n C.1 C.2.1 dX12_findLines_58 rfl (lv_at hl 0 rfl) ?_
        refine lv_dup C.1 C.2.1 dX12_findLines_59 rfl ?_
        refine k_get (v := .int (t1.1 0 41)) C hP 0 rfl rfl inlX12 41 (by decide) m_29_12 rfl dX12_findLines_60 ?_
        refine lv_iconst (v := 1) C.1 C.2.1 dX12_findLines_63 (by decide) ?_
        obtain ⟨v_22, e_23⟩ : ∃ z, z = ((t1.1 0 41) : Int32) + (1 : Int32) := ⟨_, rfl⟩
        have h_24 : v_22.toInt = (t1.1 0 41).toInt + 1 := by rw [e_23]; exact ti_iadd (by show (_ : Int) ≤ (t1.1 0 41).toInt + 1; omega) (by show (t1.1 0 41).toInt + 1 < (_ : Int); omega)
        refine k_iadd (v := v_22) C e_23.symm dX12_findLines_64 ?_
        refine k_put (ws' := WM K ad (uI (uB (uB t1 19 ((t1.1 0 41) : Int32).toNatClampNeg w7_1) 20 ((t1.1 0 41) : Int32).toNatClampNeg r_11) 0 41 v_22)) (v := .int v_22) C hP hD hS 0 rfl rfl inlX12 tyX12_ok nmX12 41 (by decide) m_29_12 rfl rfl rfl rfl rfl dX12_findLines_65 (fun H locs hP hD hS => ?_)
        have hok : okM (uI (uB (uB t1 19 ((t1.1 0 41) : Int32).toNatClampNeg w7_1) 20 ((t1.1 0 41) : Int32).toNatClampNeg r_11) 0 41 v_22) := ⟨okI_I hok.1 0 41 v_22 (show (0 : Int) ≤ (v_22 : Int32).toInt ∧ (v_22 : Int32).toInt ≤ 1280 from ⟨by omega, by omega⟩), hok.2.1, hok.2.2.1, hok.2.2.2.1, hok.2.2.2.2.1, hok.2.2.2.2.2.1, hok.2.2.2.2.2.2.1, trivial⟩
        have hfr : frA [(0, 41)] [] [19, 20] [] t (uI (uB (uB t1 19 ((t1.1 0 41) : Int32).toNatClampNeg w7_1) 20 ((t1.1 0 41) : Int32).toNatClampNeg r_11) 0 41 v_22) := frA_I hfr 0 41 _ rfl
        refine lv_goto (tgt := 7) C.1 C.2.1 dX12_findLines_68 (by decide) ?_
        exact ih_7 (uI (uB (uB t1 19 ((t1.1 0 41) : Int32).toNatClampNeg w7_1) 20 ((t1.1 0 41) : Int32).toNatClampNeg r_11) 0 41 v_22) v_19 _ _ _ hok hfr ⟨by omega, by omega⟩ (show 0 ≤ v_19.toInt from by omega) (show v_19.toInt ≤ (t1.1 0 38).toInt + 1 from by omega) (show v_22.toInt ≤ v_19.toInt from by omega) (show lnS v_22.toInt ((uI (uB (uB t1 19 ((t1.1 0 41) : Int32).toNatClampNeg w7_1) 20 ((t1.1 0 41) : Int32).toNatClampNeg r_11) 0 41 v_22).2.2.1 19) ((uI (uB (uB t1 19 ((t1.1 0 41) : Int32).toNatClampNeg w7_1) 20 ((t1.1 0 41) : Int32).toNatClampNeg r_11) 0 41 v_22).2.2.1 20) from by first | exact lnS_0 (by omega) | exact lnS_up (n := (t1.1 0 41)) (f := (t1.2.2.1 19)) (g := (t1.2.2.1 20)) hi7_3 (by omega) (by omega) (by omega) (fun w h1 h2 => by have := hi7_4 w h1 (by omega); omega)) (show ∀ w : Int32, 0 ≤ w.toInt → w.toInt + 1 = v_22.toInt → v_19.toInt = (((uI (uB (uB t1 19 ((t1.1 0 41) : Int32).toNatClampNeg w7_1) 20 ((t1.1 0 41) : Int32).toNatClampNeg r_11) 0 41 v_22).2.2.1 20) w.toNatClampNeg).toInt + 1 from by intro w h1 h2; first | (exfalso; omega) | (have hw : w = (t1.1 0 41) := Int32.toInt_inj.mp (by omega); rw [hw]; show _ = (upd _ _ _ _).toInt + 1; rw [pk_us]; omega)) (show (1300 - v_19.toInt) < (fuel_7 : Int) from by omega) hP hD hS (lv_sub hl [0, 1] rfl)
  refine lv_aload_n C.1 C.2.1 dX12_findLines_0 rfl (lv_at hl 0 rfl) ?_
  refine lv_iconst (v := 0) C.1 C.2.1 dX12_findLines_1 (by decide) ?_
  refine k_put (ws' := WM K ad (uI t 0 41 0)) (v := .int 0) C hP hD hS 0 rfl rfl inlX12 tyX12_ok nmX12 41 (by decide) m_29_12 rfl rfl rfl rfl rfl dX12_findLines_2 (fun H locs hP hD hS => ?_)
  have hok : okM (uI t 0 41 0) := ⟨okI_I hok.1 0 41 0 (show (0 : Int) ≤ (0 : Int32).toInt ∧ (0 : Int32).toInt ≤ 1280 from ⟨by decide, by decide⟩), hok.2.1, hok.2.2.1, hok.2.2.2.1, hok.2.2.2.2.1, hok.2.2.2.2.2.1, hok.2.2.2.2.2.2.1, trivial⟩
  have hfr : frA [(0, 41)] [] [19, 20] [] t (uI t 0 41 0) := frA_I hfr 0 41 _ rfl
  refine lv_iconst (v := 0) C.1 C.2.1 dX12_findLines_5 (by decide) ?_
  refine lv_istore_n (lv' := [(1, .int 0), (0, .ref (ad 0))]) C.1 C.2.1 dX12_findLines_6 rfl hl (by decide) rfl (fun ls hl => ?_)
  have hl : lv_has ls 2 [(0, .ref (ad 0)), (1, .int 0)] := lv_sub hl [1, 0] rfl
  exact L_7 1400 (uI t 0 41 0) 0 _ _ _ hok hfr ⟨by decide, by decide⟩ (show 0 ≤ 0 from by omega) (show 0 ≤ (t.1 0 38).toInt + 1 from by omega) (show 0 ≤ 0 from by omega) (show lnS 0 (t.2.2.1 19) (t.2.2.1 20) from by first | exact lnS_0 (by omega) | exact lnS_up (n := (t1.1 0 41)) (f := (t.2.2.1 19)) (g := (t.2.2.1 20)) hi7_3 (by omega) (by omega) (by omega) (fun w h1 h2 => by have := hi7_4 w h1 (by omega); omega)) (show ∀ w : Int32, 0 ≤ w.toInt → w.toInt + 1 = 0 → 0 = ((t.2.2.1 20) w.toNatClampNeg).toInt + 1 from by intro w h1 h2; first | (exfalso; omega) | (have hw : w = (t1.1 0 41) := Int32.toInt_inj.mp (by omega); rw [hw]; show _ = (upd _ _ _ _).toInt + 1; rw [pk_us]; omega)) (show (1300 - 0) < ((1400 : Nat) : Int) from by omega) hP hD hS (lv_sub hl [0, 1] rfl)

theorem dX12_hasWordAt_0 : decode cX12_hasWordAt 0 = .ok (.iconst 0, 1) := by decide +kernel
theorem dX12_hasWordAt_1 : decode cX12_hasWordAt 1 = .ok (.istore 4, 2) := by decide +kernel
theorem dX12_hasWordAt_12 : decode cX12_hasWordAt 12 = .ok (.aload_n 0, 1) := by decide +kernel
theorem dX12_hasWordAt_13 : decode cX12_hasWordAt 13 = .ok (.iload_n 1, 1) := by decide +kernel
theorem dX12_hasWordAt_14 : decode cX12_hasWordAt 14 = .ok (.iload_n 2, 1) := by decide +kernel
theorem dX12_hasWordAt_15 : decode cX12_hasWordAt 15 = .ok (.iload 4, 2) := by decide +kernel
theorem dX12_hasWordAt_17 : decode cX12_hasWordAt 17 = .ok (.iadd, 1) := by decide +kernel
theorem dX12_hasWordAt_18 : decode cX12_hasWordAt 18 = .ok (.invokevirtual 725, 3) := by decide +kernel
theorem dX12_hasWordAt_21 : decode cX12_hasWordAt 21 = .ok (.aload_n 3, 1) := by decide +kernel
theorem dX12_hasWordAt_22 : decode cX12_hasWordAt 22 = .ok (.iload 4, 2) := by decide +kernel
theorem dX12_hasWordAt_24 : decode cX12_hasWordAt 24 = .ok (.invokevirtual 172, 3) := by decide +kernel
theorem dX12_hasWordAt_27 : decode cX12_hasWordAt 27 = .ok (.if_icmp .eq 5, 3) := by decide +kernel
theorem dX12_hasWordAt_3 : decode cX12_hasWordAt 3 = .ok (.iload 4, 2) := by decide +kernel
theorem dX12_hasWordAt_30 : decode cX12_hasWordAt 30 = .ok (.iconst 0, 1) := by decide +kernel
theorem dX12_hasWordAt_31 : decode cX12_hasWordAt 31 = .ok (.ireturn, 1) := by decide +kernel
theorem dX12_hasWordAt_32 : decode cX12_hasWordAt 32 = .ok (.iinc 4 1, 3) := by decide +kernel
theorem dX12_hasWordAt_35 : decode cX12_hasWordAt 35 = .ok (.goto (-32), 3) := by decide +kernel
theorem dX12_hasWordAt_38 : decode cX12_hasWordAt 38 = .ok (.aload_n 0, 1) := by decide +kernel
theorem dX12_hasWordAt_39 : decode cX12_hasWordAt 39 = .ok (.iload_n 1, 1) := by decide +kernel
theorem dX12_hasWordAt_40 : decode cX12_hasWordAt 40 = .ok (.iload_n 2, 1) := by decide +kernel
theorem dX12_hasWordAt_41 : decode cX12_hasWordAt 41 = .ok (.aload_n 3, 1) := by decide +kernel
theorem dX12_hasWordAt_42 : decode cX12_hasWordAt 42 = .ok (.invokevirtual 203, 3) := by decide +kernel
theorem dX12_hasWordAt_45 : decode cX12_hasWordAt 45 = .ok (.iadd, 1) := by decide +kernel
theorem dX12_hasWordAt_46 : decode cX12_hasWordAt 46 = .ok (.invokevirtual 725, 3) := by decide +kernel
theorem dX12_hasWordAt_49 : decode cX12_hasWordAt 49 = .ok (.bipush 32, 2) := by decide +kernel
theorem dX12_hasWordAt_5 : decode cX12_hasWordAt 5 = .ok (.aload_n 3, 1) := by decide +kernel
theorem dX12_hasWordAt_51 : decode cX12_hasWordAt 51 = .ok (.if_icmp .ne 7, 3) := by decide +kernel
theorem dX12_hasWordAt_54 : decode cX12_hasWordAt 54 = .ok (.iconst 1, 1) := by decide +kernel
theorem dX12_hasWordAt_55 : decode cX12_hasWordAt 55 = .ok (.goto 4, 3) := by decide +kernel
theorem dX12_hasWordAt_58 : decode cX12_hasWordAt 58 = .ok (.iconst 0, 1) := by decide +kernel
theorem dX12_hasWordAt_59 : decode cX12_hasWordAt 59 = .ok (.ireturn, 1) := by decide +kernel
theorem dX12_hasWordAt_6 : decode cX12_hasWordAt 6 = .ok (.invokevirtual 203, 3) := by decide +kernel
theorem dX12_hasWordAt_9 : decode cX12_hasWordAt 9 = .ok (.if_icmp .ge 29, 3) := by decide +kernel
set_option maxHeartbeats 4000000 in
set_option maxRecDepth 100000 in
theorem T_X12_hasWordAt (l : Launch) (D : va_G) (K : Nat → ClassId) (Z Y : Nat → Nat) (ad : Nat → Nat) (t : tSt) (hok : okM t) (x1 : Int32) (hx1 : (0 : Int) ≤ x1.toInt ∧ x1.toInt ≤ 1280) (x2 : Int32) (hx2 : (1 : Int) ≤ x2.toInt ∧ x2.toInt ≤ 150) (i3 : Nat) (hi3 : sS i3) : tMet l yX12_hasWordAt cX12_hasWordAt 5 (some .boolean) (rmD 8 0 0) D K Z Y [.ref (ad 0), .int x1, .int x2, .ref (Z i3)] (WM K ad t) (QI D K (fun (r : Int32) (u : Unit) => (0 : Int) ≤ r.toInt ∧ r.toInt ≤ 1) (fun (_ : Unit) => WM K ad t)) 0 0 := by
  refine t_met RX12 ⟨rfl, by decide +kernel⟩ (Nat.le_of_ble_eq_true rfl) ?_
  intro p e s m below meth c A ls C hE hZ hr hlocks hA hP hD hS hl
  have hl : lv_has ls 5 [(0, .ref (ad 0)), (1, .int x1), (2, .int x2), (3, .ref (Z i3))] := hl
  have L_3 : ∀ (fuel_3 : Nat) (w3_4 : Int32) (H : Heap) (locs : List Loc) (ls : Array Slot), (0 : Int) ≤ w3_4.toInt ∧ w3_4.toInt ≤ 400 → (400 : Int) - w3_4.toInt < (fuel_3 : Int) → va_P D vwCl (WM K ad t) H → va_D A (WM K ad t) → va_S A s.heap H locs → lv_has ls 5 [(0, .ref (ad 0)), (1, .int x1), (2, .int x2), (3, .ref (Z i3)), (4, .int w3_4)] → W p l e (rmD 8 0 0) s m [.ref (ad 0), .int x1, .int x2, .ref (Z i3)].toArray below meth c H locs 0 0 (MQ below (QI D K (fun (r : Int32) (u : Unit) => (0 : Int) ≤ r.toInt ∧ r.toInt ≤ 1) (fun (_ : Unit) => WM K ad t) A) [.ref (ad 0), .int x1, .int x2, .ref (Z i3)].toArray s 0 0 A) (F0 m 3 ls []) := by
    intro fuel_3
    induction fuel_3 with
    | zero =>
      intro w3_4 H locs ls hw3_4 hm3_3 hP hD hS hl
      exact absurd hm3_3 (by omega)
    | succ fuel_3 ih_3 =>
      intro w3_4 H locs ls hw3_4 hm3_3 hP hD hS hl
      have hm3_3 : (400 : Int) - w3_4.toInt < (fuel_3 : Int) + 1 := by omega
      refine lv_iload C.1 C.2.1 dX12_hasWordAt_3 (lv_at hl 4 rfl) ?_
      refine lv_aload_n C.1 C.2.1 dX12_hasWordAt_5 rfl (lv_at hl 3 rfl) ?_
      refine g_Ti (As := []) (rest := [.int w3_4]) C hP hD hS hA (TJ_length l D K Z Y (WM K ad t) i3 (sS_lt hi3)) hE hZ (uwV m_79_5 m_14_22 m_14_23 m_14_8 m_15_0) (hdV 0 (by decide +kernel) rfl) ⟨Nat.le_of_ble_eq_true rfl, Nat.le_of_ble_eq_true rfl⟩ rfl rfl (i0 := i3) (sS_lt hi3) rfl rfl hl.1 (Nat.le_of_ble_eq_true rfl) dX12_hasWordAt_6 ⟨Nat.le_of_ble_eq_true rfl, Nat.le_of_ble_eq_true rfl⟩ (fun r_1 u_r_1 H locs hw hP hD hS => ?_)
      have h_2 : r_1.toInt = sL i3 := hw
      have h_3 := sS_len hi3
      refine lv_icmp_ge (tgt := 38) C.1 C.2.1 dX12_hasWordAt_9 (by decide) (fun c_4 => ?_) (fun c_4 => ?_)
      · replace c_4 : r_1.toInt ≤ w3_4.toInt := i_le c_4
        refine lv_aload_n C.1 C.2.1 dX12_hasWordAt_38 rfl (lv_at hl 0 rfl) ?_
        refine lv_iload_n C.1 C.2.1 dX12_hasWordAt_39 rfl (lv_at hl 1 rfl) ?_
        refine lv_iload_n C.1 C.2.1 dX12_hasWordAt_40 rfl (lv_at hl 2 rfl) ?_
        refine lv_aload_n C.1 C.2.1 dX12_hasWordAt_41 rfl (lv_at hl 3 rfl) ?_
        refine g_Ti (As := []) (rest := [.int x2, .int x1, .ref (ad 0)]) C hP hD hS hA (TJ_length l D K Z Y (WM K ad t) i3 (sS_lt hi3)) hE hZ (uwV m_79_5 m_14_22 m_14_23 m_14_8 m_15_0) (hdV 0 (by decide +kernel) rfl) ⟨Nat.le_of_ble_eq_true rfl, Nat.le_of_ble_eq_true rfl⟩ rfl rfl (i0 := i3) (sS_lt hi3) rfl rfl hl.1 (Nat.le_of_ble_eq_true rfl) dX12_hasWordAt_42 ⟨Nat.le_of_ble_eq_true rfl, Nat.le_of_ble_eq_true rfl⟩ (fun r_5 u_r_5 H locs hw hP hD hS => ?_)
        have h_6 : r_5.toInt = sL i3 := hw
        have h_7 := sS_len hi3
        obtain ⟨v_8, e_9⟩ : ∃ z, z = (x2 : Int32) + (r_5 : Int32) := ⟨_, rfl⟩
        have h_10 : v_8.toInt = x2.toInt + r_5.toInt := by rw [e_9]; exact ti_iadd (by show (_ : Int) ≤ x2.toInt + r_5.toInt; omega) (by show x2.toInt + r_5.toInt < (_ : Int); omega)
        refine k_iadd (v := v_8) C e_9.symm dX12_hasWordAt_45 ?_
        refine g_Vi (As := [.int x1, .int v_8]) (rest := []) C hP hD hS hA (T_X12_deckLetter l D K Z Y ad t hok (x1) (show (0 : Int) ≤ (x1 : Int32).toInt ∧ (x1 : Int32).toInt ≤ 1280 from ⟨by omega, by omega⟩) (v_8) (show (1 : Int) ≤ (v_8 : Int32).toInt ∧ (v_8 : Int32).toInt ≤ 200 from ⟨by omega, by omega⟩)) hE hZ (uwV m_79_6 m_79_7 m_79_8 m_1_5 m_79_9) (hdV 2 (by decide +kernel) rfl) ⟨Nat.le_of_ble_eq_true rfl, Nat.le_of_ble_eq_true rfl⟩ rfl rfl (ci := 11) (q0 := 0) rfl rfl rfl hl.1 (Nat.le_of_ble_eq_true rfl) dX12_hasWordAt_46 ⟨Nat.le_of_ble_eq_true rfl, Nat.le_of_ble_eq_true rfl⟩ (fun r_12 t_11 H locs hw hP hD hS => ?_)
        obtain ⟨h_14, h_15, p_16, p_17, p_18, p_19⟩ := hw
        replace p_16 : r_12 = fDeck t x1 v_8 := p_16
        replace p_17 : r_12.toInt = (fDeck t x1 v_8).toInt := p_17
        replace p_18 : ¬ r_12.toInt = 32 → (t.2.2.1 37 (x1 : Int32).toNatClampNeg).toInt + v_8.toInt ≤ (t.2.2.1 38 (x1 : Int32).toNatClampNeg).toInt := p_18
        replace p_19 : 81 ≤ v_8.toInt → r_12.toInt = 32 := p_19
        refine lv_bipush (v := 32) C.1 C.2.1 dX12_hasWordAt_49 (by decide) ?_
        refine lv_icmp_ne (tgt := 58) C.1 C.2.1 dX12_hasWordAt_51 (by decide) (fun c_20 => ?_) (fun c_20 => ?_)
        · replace c_20 : ¬ r_12.toInt = 32 := i_ne c_20
          refine lv_iconst (v := 0) C.1 C.2.1 dX12_hasWordAt_58 (by decide) ?_
          exact g_iret C hr hlocks hP hD hS (by decide) () rfl ⟨by decide, by decide⟩ (Nat.le_of_ble_eq_true rfl) (Nat.le_of_ble_eq_true rfl) dX12_hasWordAt_59
        · replace c_20 : r_12.toInt = 32 := i_eq c_20
          refine lv_iconst (v := 1) C.1 C.2.1 dX12_hasWordAt_54 (by decide) ?_
          refine lv_goto (tgt := 59) C.1 C.2.1 dX12_hasWordAt_55 (by decide) ?_
          exact g_iret C hr hlocks hP hD hS (by decide) () rfl ⟨by decide, by decide⟩ (Nat.le_of_ble_eq_true rfl) (Nat.le_of_ble_eq_true rfl) dX12_hasWordAt_59
      · replace c_4 : w3_4.toInt < r_1.toInt := i_nle c_4
        refine lv_aload_n C.1 C.2.1 dX12_hasWordAt_12 rfl (lv_at hl 0 rfl) ?_
        refine lv_iload_n C.1 C.2.1 dX12_hasWordAt_13 rfl (lv_at hl 1 rfl) ?_
        refine lv_iload_n C.1 C.2.1 dX12_hasWordAt_14 rfl (lv_at hl 2 rfl) ?_
        refine lv_iload C.1 C.2.1 dX12_hasWordAt_15 (lv_at hl 4 rfl) ?_
        obtain ⟨v_21, e_22⟩ : ∃ z, z = (x2 : Int32) + (w3_4 : Int32) := ⟨_, rfl⟩
        have h_23 : v_21.toInt = x2.toInt + w3_4.toInt := by rw [e_22]; exact ti_iadd (by show (_ : Int) ≤ x2.toInt + w3_4.toInt; omega) (by show x2.toInt + w3_4.toInt < (_ : Int); omega)
        refine k_iadd (v := v_21) C e_22.symm dX12_hasWordAt_17 ?_
        refine g_Vi (As := [.int x1, .int v_21]) (rest := []) C hP hD hS hA (T_X12_deckLetter l D K Z Y ad t hok (x1) (show (0 : Int) ≤ (x1 : Int32).toInt ∧ (x1 : Int32).toInt ≤ 1280 from ⟨by omega, by omega⟩) (v_21) (show (1 : Int) ≤ (v_21 : Int32).toInt ∧ (v_21 : Int32).toInt ≤ 200 from ⟨by omega, by omega⟩)) hE hZ (uwV m_79_6 m_79_7 m_79_8 m_1_5 m_79_9) (hdV 2 (by decide +kernel) rfl) ⟨Nat.le_of_ble_eq_true rfl, Nat.le_of_ble_eq_true rfl⟩ rfl rfl (ci := 11) (q0 := 0) rfl rfl rfl hl.1 (Nat.le_of_ble_eq_true rfl) dX12_hasWordAt_18 ⟨Nat.le_of_ble_eq_true rfl, Nat.le_of_ble_eq_true rfl⟩ (fun r_25 t_24 H locs hw hP hD hS => ?_)
        obtain ⟨h_27, h_28, p_29, p_30, p_31, p_32⟩ := hw
        replace p_29 : r_25 = fDeck t x1 v_21 := p_29
        replace p_30 : r_25.toInt = (fDeck t x1 v_21).toInt := p_30
        replace p_31 : ¬ r_25.toInt = 32 → (t.2.2.1 37 (x1 : Int32).toNatClampNeg).toInt + v_21.toInt ≤ (t.2.2.1 38 (x1 : Int32).toNatClampNeg).toInt := p_31
        replace p_32 : 81 ≤ v_21.toInt → r_25.toInt = 32 := p_32
        refine lv_aload_n C.1 C.2.1 dX12_hasWordAt_21 rfl (lv_at hl 3 rfl) ?_
        refine lv_iload C.1 C.2.1 dX12_hasWordAt_22 (lv_at hl 4 rfl) ?_
        refine g_Ti (As := [.int w3_4]) (rest := [.int r_25]) C hP hD hS hA (TJ_charAt l D K Z Y (WM K ad t) i3 (sS_lt hi3) w3_4 (show 0 ≤ w3_4.toInt ∧ w3_4.toInt < sL i3 from by omega)) hE hZ (uwV m_31_19 m_17_21 m_17_22 m_14_8 m_17_23) (hdV 1 (by decide +kernel) rfl) ⟨Nat.le_of_ble_eq_true rfl, Nat.le_of_ble_eq_true rfl⟩ rfl rfl (i0 := i3) (sS_lt hi3) rfl rfl hl.1 (Nat.le_of_ble_eq_true rfl) dX12_hasWordAt_24 ⟨Nat.le_of_ble_eq_true rfl, Nat.le_of_ble_eq_true rfl⟩ (fun r_33 u_r_33 H locs hw hP hD hS => ?_)
        have er_33 : r_33 = (sByt i3).getD (w3_4 : Int32).toNatClampNeg 0 := hw
        have h_34 : (32 : Int) ≤ r_33.toInt ∧ r_33.toInt ≤ 126 := by rw [er_33]; exact sByt_rr (sS_lt hi3) (by omega) (by omega)
        refine lv_icmp_eq (tgt := 32) C.1 C.2.1 dX12_hasWordAt_27 (by decide) (fun c_35 => ?_) (fun c_35 => ?_)
        · replace c_35 : r_25.toInt = r_33.toInt := i_eq c_35
          obtain ⟨v_36, e_37⟩ : ∃ z, z = w3_4 + 1 := ⟨_, rfl⟩
          have h_38 : v_36.toInt = w3_4.toInt + 1 := by rw [e_37]; exact ti_iadd (by show (_ : Int) ≤ w3_4.toInt + 1; omega) (by show w3_4.toInt + 1 < (_ : Int); omega)
          refine lv_iinc (v := v_36) (lv' := [(4, .int v_36), (0, .ref (ad 0)), (1, .int x1), (2, .int x2), (3, .ref (Z i3))]) C.1 C.2.1 dX12_hasWordAt_32 hl (k := 4) rfl e_37.symm (by decide) rfl (fun ls hl => ?_)
          have hl : lv_has ls 5 [(0, .ref (ad 0)), (1, .int x1), (2, .int x2), (3, .ref (Z i3)), (4, .int v_36)] := lv_sub hl [1, 2, 3, 4, 0] rfl
          refine lv_goto (tgt := 3) C.1 C.2.1 dX12_hasWordAt_35 (by decide) ?_
          exact ih_3 v_36 _ _ _ ⟨by omega, by omega⟩ (show (400 : Int) - v_36.toInt < (fuel_3 : Int) from by omega) hP hD hS (lv_sub hl [0, 1, 2, 3, 4] rfl)
        · replace c_35 : ¬ r_25.toInt = r_33.toInt := i_ne c_35
          refine lv_iconst (v := 0) C.1 C.2.1 dX12_hasWordAt_30 (by decide) ?_
          exact g_iret C hr hlocks hP hD hS (by decide) () rfl ⟨by decide, by decide⟩ (Nat.le_of_ble_eq_true rfl) (Nat.le_of_ble_eq_true rfl) dX12_hasWordAt_31
  refine lv_iconst (v := 0) C.1 C.2.1 dX12_hasWordAt_0 (by decide) ?_
  refine lv_istore (lv' := [(4, .int 0), (0, .ref (ad 0)), (1, .int x1), (2, .int x2), (3, .ref (Z i3))]) C.1 C.2.1 dX12_hasWordAt_1 hl (by decide) rfl (fun ls hl => ?_)
  have hl : lv_has ls 5 [(0, .ref (ad 0)), (1, .int x1), (2, .int x2), (3, .ref (Z i3)), (4, .int 0)] := lv_sub hl [1, 2, 3, 4, 0] rfl
  exact L_3 401 0 _ _ _ ⟨by decide, by decide⟩ (show (400 : Int) - 0 < ((401 : Nat) : Int) from by omega) hP hD hS (lv_sub hl [0, 1, 2, 3, 4] rfl)

theorem dX12_letterAt_0 : decode cX12_letterAt 0 = .ok (.aload_n 0, 1) := by decide +kernel
theorem dX12_letterAt_1 : decode cX12_letterAt 1 = .ok (.getfield 74, 3) := by decide +kernel
theorem dX12_letterAt_12 : decode cX12_letterAt 12 = .ok (.iaload, 1) := by decide +kernel
theorem dX12_letterAt_13 : decode cX12_letterAt 13 = .ok (.aload_n 0, 1) := by decide +kernel
theorem dX12_letterAt_14 : decode cX12_letterAt 14 = .ok (.getfield 80, 3) := by decide +kernel
theorem dX12_letterAt_17 : decode cX12_letterAt 17 = .ok (.aload_n 0, 1) := by decide +kernel
theorem dX12_letterAt_18 : decode cX12_letterAt 18 = .ok (.getfield 443, 3) := by decide +kernel
theorem dX12_letterAt_21 : decode cX12_letterAt 21 = .ok (.iaload, 1) := by decide +kernel
theorem dX12_letterAt_22 : decode cX12_letterAt 22 = .ok (.iload_n 1, 1) := by decide +kernel
theorem dX12_letterAt_23 : decode cX12_letterAt 23 = .ok (.iconst 1, 1) := by decide +kernel
theorem dX12_letterAt_24 : decode cX12_letterAt 24 = .ok (.isub, 1) := by decide +kernel
theorem dX12_letterAt_25 : decode cX12_letterAt 25 = .ok (.invokestatic 244, 3) := by decide +kernel
theorem dX12_letterAt_28 : decode cX12_letterAt 28 = .ok (.ireturn, 1) := by decide +kernel
theorem dX12_letterAt_4 : decode cX12_letterAt 4 = .ok (.aload_n 0, 1) := by decide +kernel
theorem dX12_letterAt_5 : decode cX12_letterAt 5 = .ok (.getfield 77, 3) := by decide +kernel
theorem dX12_letterAt_8 : decode cX12_letterAt 8 = .ok (.aload_n 0, 1) := by decide +kernel
theorem dX12_letterAt_9 : decode cX12_letterAt 9 = .ok (.getfield 443, 3) := by decide +kernel
set_option maxHeartbeats 4000000 in
set_option maxRecDepth 100000 in
theorem T_X12_letterAt (l : Launch) (D : va_G) (K : Nat → ClassId) (Z Y : Nat → Nat) (ad : Nat → Nat) (t : tSt) (hok : okM t) (x1 : Int32) (hx1 : (1 : Int) ≤ x1.toInt ∧ x1.toInt ≤ 100) : tMet l yX12_letterAt cX12_letterAt 2 (some .int) (rmD 7 0 0) D K Z Y [.ref (ad 0), .int x1] (WM K ad t) (QI D K (fun (r : Int32) (u : Unit) => (0 : Int) ≤ r.toInt ∧ r.toInt ≤ 255 ∧ (r = fLet t x1) ∧ (r.toInt = (fLet t x1).toInt) ∧ (¬ r.toInt = 32 → (t.2.2.1 19 ((t.1 0 67) : Int32).toNatClampNeg).toInt + x1.toInt ≤ (t.2.2.1 20 ((t.1 0 67) : Int32).toNatClampNeg).toInt) ∧ (81 ≤ x1.toInt → r.toInt = 32)) (fun (_ : Unit) => WM K ad t)) 0 0 := by
  refine t_met RX12 ⟨rfl, by decide +kernel⟩ (Nat.le_of_ble_eq_true rfl) ?_
  intro p e s m below meth c A ls C hE hZ hr hlocks hA hP hD hS hl
  have hl : lv_has ls 2 [(0, .ref (ad 0)), (1, .int x1)] := hl
  have h_1 : (0 : Int) ≤ (t.1 0 67).toInt ∧ (t.1 0 67).toInt ≤ 1281 := hok.1 0 67
  refine lv_aload_n C.1 C.2.1 dX12_letterAt_0 rfl (lv_at hl 0 rfl) ?_
  refine k_get (v := .ref (ad 18)) C hP 0 rfl rfl inlX12 37 (by decide) m_8_2 rfl dX12_letterAt_1 ?_
  refine lv_aload_n C.1 C.2.1 dX12_letterAt_4 rfl (lv_at hl 0 rfl) ?_
  refine k_get (v := .ref (ad 19)) C hP 0 rfl rfl inlX12 39 (by decide) m_8_3 rfl dX12_letterAt_5 ?_
  refine lv_aload_n C.1 C.2.1 dX12_letterAt_8 rfl (lv_at hl 0 rfl) ?_
  refine k_get (v := .int (t.1 0 67)) C hP 0 rfl rfl inlX12 67 (by decide) m_29_11 rfl dX12_letterAt_9 ?_
  have h_2 : (0 : Int) ≤ (t.2.2.1 19 ((t.1 0 67) : Int32).toNatClampNeg).toInt ∧ (t.2.2.1 19 ((t.1 0 67) : Int32).toNatClampNeg).toInt ≤ 1280 := hok.2.1 19 _
  refine k_ild (v := (t.2.2.1 19 ((t.1 0 67) : Int32).toNatClampNeg)) C hP 19 rfl (vp_in_iff.mpr ⟨by omega, by omega⟩) rfl dX12_letterAt_12 ?_
  refine lv_aload_n C.1 C.2.1 dX12_letterAt_13 rfl (lv_at hl 0 rfl) ?_
  refine k_get (v := .ref (ad 20)) C hP 0 rfl rfl inlX12 40 (by decide) m_8_4 rfl dX12_letterAt_14 ?_
  refine lv_aload_n C.1 C.2.1 dX12_letterAt_17 rfl (lv_at hl 0 rfl) ?_
  refine k_get (v := .int (t.1 0 67)) C hP 0 rfl rfl inlX12 67 (by decide) m_29_11 rfl dX12_letterAt_18 ?_
  have h_3 : (0 : Int) ≤ (t.2.2.1 20 ((t.1 0 67) : Int32).toNatClampNeg).toInt ∧ (t.2.2.1 20 ((t.1 0 67) : Int32).toNatClampNeg).toInt ≤ 1280 := hok.2.1 20 _
  refine k_ild (v := (t.2.2.1 20 ((t.1 0 67) : Int32).toNatClampNeg)) C hP 20 rfl (vp_in_iff.mpr ⟨by omega, by omega⟩) rfl dX12_letterAt_21 ?_
  refine lv_iload_n C.1 C.2.1 dX12_letterAt_22 rfl (lv_at hl 1 rfl) ?_
  refine lv_iconst (v := 1) C.1 C.2.1 dX12_letterAt_23 (by decide) ?_
  obtain ⟨v_4, e_5⟩ : ∃ z, z = (x1 : Int32) - (1 : Int32) := ⟨_, rfl⟩
  have h_6 : v_4.toInt = x1.toInt - 1 := by rw [e_5]; exact ti_isub (by show (_ : Int) ≤ x1.toInt - 1; omega) (by show x1.toInt - 1 < (_ : Int); omega)
  refine k_isub (v := v_4) C e_5.symm dX12_letterAt_24 ?_
  refine g_Si (As := [.ref (ad 18), .int (t.2.2.1 19 ((t.1 0 67) : Int32).toNatClampNeg), .int (t.2.2.1 20 ((t.1 0 67) : Int32).toNatClampNeg), .int v_4]) (rest := []) C hP hD hS hA (T_X12_letterIn_2 l D K Z Y ad t hok ((t.2.2.1 19 ((t.1 0 67) : Int32).toNatClampNeg)) (show (0 : Int) ≤ ((t.2.2.1 19 ((t.1 0 67) : Int32).toNatClampNeg) : Int32).toInt ∧ ((t.2.2.1 19 ((t.1 0 67) : Int32).toNatClampNeg) : Int32).toInt ≤ 1280 from ⟨by omega, by omega⟩) ((t.2.2.1 20 ((t.1 0 67) : Int32).toNatClampNeg)) (show (0 : Int) ≤ ((t.2.2.1 20 ((t.1 0 67) : Int32).toNatClampNeg) : Int32).toInt ∧ ((t.2.2.1 20 ((t.1 0 67) : Int32).toNatClampNeg) : Int32).toInt ≤ 1280 from ⟨by omega, by omega⟩) (v_4) (show (0 : Int) ≤ (v_4 : Int32).toInt ∧ (v_4 : Int32).toInt ≤ 99 from ⟨by omega, by omega⟩)) hE hZ (uwS m_31_12 m_31_13 m_1_5 m_31_14) (hdS 4 (by decide +kernel) rfl) ⟨Nat.le_of_ble_eq_true rfl, Nat.le_of_ble_eq_true rfl⟩ rfl rfl rfl hl.1 (Nat.le_of_ble_eq_true rfl) dX12_letterAt_25 ⟨Nat.le_of_ble_eq_true rfl, Nat.le_of_ble_eq_true rfl⟩ (fun r_8 t_7 H locs hw hP hD hS => ?_)
  obtain ⟨h_10, h_11, p_12, p_13, p_14, p_15⟩ := hw
  replace p_12 : r_8 = gL (t.2.2.1 18) (t.2.2.1 19 ((t.1 0 67) : Int32).toNatClampNeg) (t.2.2.1 20 ((t.1 0 67) : Int32).toNatClampNeg) v_4 := p_12
  replace p_13 : r_8.toInt = (gL (t.2.2.1 18) (t.2.2.1 19 ((t.1 0 67) : Int32).toNatClampNeg) (t.2.2.1 20 ((t.1 0 67) : Int32).toNatClampNeg) v_4).toInt := p_13
  replace p_14 : ¬ r_8.toInt = 32 → (t.2.2.1 19 ((t.1 0 67) : Int32).toNatClampNeg).toInt + v_4.toInt < (t.2.2.1 20 ((t.1 0 67) : Int32).toNatClampNeg).toInt := p_14
  replace p_15 : 80 ≤ v_4.toInt → r_8.toInt = 32 := p_15
  exact g_iret C hr hlocks hP hD hS rfl () rfl ⟨by omega, by omega, (show r_8 = fLet t x1 from by subst_vars; rfl), (show (r_8 : Int32).toInt = (fLet t x1).toInt from by subst_vars; rfl), (show ¬ r_8.toInt = 32 → (t.2.2.1 19 ((t.1 0 67) : Int32).toNatClampNeg).toInt + x1.toInt ≤ (t.2.2.1 20 ((t.1 0 67) : Int32).toNatClampNeg).toInt from by omega), (show 81 ≤ x1.toInt → r_8.toInt = 32 from by omega)⟩ (Nat.le_of_ble_eq_true rfl) (Nat.le_of_ble_eq_true rfl) dX12_letterAt_28

theorem dX12_sayDigits_0 : decode cX12_sayDigits 0 = .ok (.lconst 1, 1) := by decide +kernel
theorem dX12_sayDigits_1 : decode cX12_sayDigits 1 = .ok (.lstore 4, 2) := by decide +kernel
theorem dX12_sayDigits_12 : decode cX12_sayDigits 12 = .ok (.ldc2_w 192, 3) := by decide +kernel
theorem dX12_sayDigits_15 : decode cX12_sayDigits 15 = .ok (.lload 4, 2) := by decide +kernel
theorem dX12_sayDigits_17 : decode cX12_sayDigits 17 = .ok (.lmul, 1) := by decide +kernel
theorem dX12_sayDigits_18 : decode cX12_sayDigits 18 = .ok (.lstore 4, 2) := by decide +kernel
theorem dX12_sayDigits_20 : decode cX12_sayDigits 20 = .ok (.iinc 6 1, 3) := by decide +kernel
theorem dX12_sayDigits_23 : decode cX12_sayDigits 23 = .ok (.goto (-17), 3) := by decide +kernel
theorem dX12_sayDigits_26 : decode cX12_sayDigits 26 = .ok (.iconst 0, 1) := by decide +kernel
theorem dX12_sayDigits_27 : decode cX12_sayDigits 27 = .ok (.istore 6, 2) := by decide +kernel
theorem dX12_sayDigits_29 : decode cX12_sayDigits 29 = .ok (.iload 6, 2) := by decide +kernel
theorem dX12_sayDigits_3 : decode cX12_sayDigits 3 = .ok (.iconst 1, 1) := by decide +kernel
theorem dX12_sayDigits_31 : decode cX12_sayDigits 31 = .ok (.iload_n 3, 1) := by decide +kernel
theorem dX12_sayDigits_32 : decode cX12_sayDigits 32 = .ok (.if_icmp .ge 34, 3) := by decide +kernel
theorem dX12_sayDigits_35 : decode cX12_sayDigits 35 = .ok (.aload_n 0, 1) := by decide +kernel
theorem dX12_sayDigits_36 : decode cX12_sayDigits 36 = .ok (.ldc2_w 194, 3) := by decide +kernel
theorem dX12_sayDigits_39 : decode cX12_sayDigits 39 = .ok (.lload_n 1, 1) := by decide +kernel
theorem dX12_sayDigits_4 : decode cX12_sayDigits 4 = .ok (.istore 6, 2) := by decide +kernel
theorem dX12_sayDigits_40 : decode cX12_sayDigits 40 = .ok (.lload 4, 2) := by decide +kernel
theorem dX12_sayDigits_42 : decode cX12_sayDigits 42 = .ok (.ldiv, 1) := by decide +kernel
theorem dX12_sayDigits_43 : decode cX12_sayDigits 43 = .ok (.ldc2_w 192, 3) := by decide +kernel
theorem dX12_sayDigits_46 : decode cX12_sayDigits 46 = .ok (.lrem, 1) := by decide +kernel
theorem dX12_sayDigits_47 : decode cX12_sayDigits 47 = .ok (.ladd, 1) := by decide +kernel
theorem dX12_sayDigits_48 : decode cX12_sayDigits 48 = .ok (.l2i, 1) := by decide +kernel
theorem dX12_sayDigits_49 : decode cX12_sayDigits 49 = .ok (.invokevirtual 189, 3) := by decide +kernel
theorem dX12_sayDigits_52 : decode cX12_sayDigits 52 = .ok (.lload 4, 2) := by decide +kernel
theorem dX12_sayDigits_54 : decode cX12_sayDigits 54 = .ok (.ldc2_w 192, 3) := by decide +kernel
theorem dX12_sayDigits_57 : decode cX12_sayDigits 57 = .ok (.ldiv, 1) := by decide +kernel
theorem dX12_sayDigits_58 : decode cX12_sayDigits 58 = .ok (.lstore 4, 2) := by decide +kernel
theorem dX12_sayDigits_6 : decode cX12_sayDigits 6 = .ok (.iload 6, 2) := by decide +kernel
theorem dX12_sayDigits_60 : decode cX12_sayDigits 60 = .ok (.iinc 6 1, 3) := by decide +kernel
theorem dX12_sayDigits_63 : decode cX12_sayDigits 63 = .ok (.goto (-34), 3) := by decide +kernel
theorem dX12_sayDigits_66 : decode cX12_sayDigits 66 = .ok (.return_, 1) := by decide +kernel
theorem dX12_sayDigits_8 : decode cX12_sayDigits 8 = .ok (.iload_n 3, 1) := by decide +kernel
theorem dX12_sayDigits_9 : decode cX12_sayDigits 9 = .ok (.if_icmp .ge 17, 3) := by decide +kernel
set_option maxHeartbeats 4000000 in
set_option maxRecDepth 100000 in
theorem T_X12_sayDigits (l : Launch) (D : va_G) (K : Nat → ClassId) (Z Y : Nat → Nat) (ad : Nat → Nat) (t : tSt) (hok : okM t) (x1 : Int64) (x2 : Int32) (hx2 : (1 : Int) ≤ x2.toInt ∧ x2.toInt ≤ 10) (hs0 : (t.1 0 30).toInt + x2.toInt ≤ 120) (hs1 : 1 ≤ x2.toInt) (hs2 : x2.toInt ≤ 10) : tMet l yX12_sayDigits cX12_sayDigits 7 none (rmD 1 0 0) D K Z Y [.ref (ad 0), .long x1, .int x2] (WM K ad t) (QV D K (fun (u : tSt) => okM u ∧ frA [(0, 30)] [] [14] [] t u ∧ ((u.1 0 30).toInt = (t.1 0 30).toInt + x2.toInt)) (fun (u : tSt) => WM K ad u)) 0 0 := by
  refine t_met RX12 ⟨rfl, by decide +kernel⟩ (Nat.le_of_ble_eq_true rfl) ?_
  intro p e s m below meth c A ls C hE hZ hr hlocks hA hP hD hS hl
  have hl : lv_has ls 7 [(0, .ref (ad 0)), (1, .long x1), (3, .int x2)] := hl
  have hokt := hok
  have hfr : frA [(0, 30)] [] [14] [] t t := frA_rf
  have h_1 : (0 : Int) ≤ (t.1 0 30).toInt ∧ (t.1 0 30).toInt ≤ 120 := hok.1 0 30
  have L_29 : ∀ (fuel_29 : Nat) (t1 : tSt) (w29_4 : Int64) (w29_6 : Int32) (H : Heap) (locs : List Loc) (ls : Array Slot), okM t1 → frA [(0, 30)] [] [14] [] t t1 → (0 : Int) ≤ w29_6.toInt ∧ w29_6.toInt ≤ 10 → (w29_6.toInt < x2.toInt → pw 10 w29_4 (x2.toInt - 1 - w29_6.toInt)) → ((t1.1 0 30).toInt = (t.1 0 30).toInt + w29_6.toInt) → (0 ≤ w29_6.toInt) → (w29_6.toInt ≤ x2.toInt) → (10 : Int) - w29_6.toInt < (fuel_29 : Int) → va_P D vwCl (WM K ad t1) H → va_D A (WM K ad t1) → va_S A s.heap H locs → lv_has ls 7 [(0, .ref (ad 0)), (1, .long x1), (3, .int x2), (4, .long w29_4), (6, .int w29_6)] → W p l e (rmD 1 0 0) s m [.ref (ad 0), .long x1, .int x2].toArray below meth c H locs 0 0 (MQ below (QV D K (fun (u : tSt) => okM u ∧ frA [(0, 30)] [] [14] [] t u ∧ ((u.1 0 30).toInt = (t.1 0 30).toInt + x2.toInt)) (fun (u : tSt) => WM K ad u) A) [.ref (ad 0), .long x1, .int x2].toArray s 0 0 A) (F0 m 29 ls []) := by
    intro fuel_29
    induction fuel_29 with
    | zero =>
      intro t1 w29_4 w29_6 H locs ls hok hfr hw29_6 hi29_0 hi29_1 hi29_2 hi29_3 hm29_29 hP hD hS hl
      have h_2 : (0 : Int) ≤ (t1.1 0 30).toInt ∧ (t1.1 0 30).toInt ≤ 120 := hok.1 0 30
      exact absurd hm29_29 (by omega)
    | succ fuel_29 ih_29 =>
      intro t1 w29_4 w29_6 H locs ls hok hfr hw29_6 hi29_0 hi29_1 hi29_2 hi29_3 hm29_29 hP hD hS hl
      have hm29_29 : (10 : Int) - w29_6.toInt < (fuel_29 : Int) + 1 := by omega
      have h_3 : (0 : Int) ≤ (t1.1 0 30).toInt ∧ (t1.1 0 30).toInt ≤ 120 := hok.1 0 30
      refine lv_iload C.1 C.2.1 dX12_sayDigits_29 (lv_at hl 4 rfl) ?_
      refine lv_iload_n C.1 C.2.1 dX12_sayDigits_31 rfl (lv_at hl 2 rfl) ?_
      refine lv_icmp_ge (tgt := 66) C.1 C.2.1 dX12_sayDigits_32 (by decide) (fun c_4 => ?_) (fun c_4 => ?_)
      · replace c_4 : x2.toInt ≤ w29_6.toInt := i_le c_4
        exact g_vret C hr hlocks hP hD hS t1 rfl ⟨hok, hfr, (show (t1.1 0 30).toInt = (t.1 0 30).toInt + x2.toInt from by omega)⟩ (Nat.le_of_ble_eq_true rfl) (Nat.le_of_ble_eq_true rfl) dX12_sayDigits_66
      · replace c_4 : w29_6.toInt < x2.toInt := i_nle c_4
        refine lv_aload_n C.1 C.2.1 dX12_sayDigits_35 rfl (lv_at hl 0 rfl) ?_
        refine lv_ldc2 (v := 48) C.1 C.2.1 C.2.2.2.1 (C.2.2.2.2.1 _ m_36_5) dX12_sayDigits_36 ?_
        refine lv_lload_n C.1 C.2.1 dX12_sayDigits_39 rfl (lv_at hl 1 rfl) ?_
        refine lv_lload C.1 C.2.1 dX12_sayDigits_40 (lv_at hl 3 rfl) ?_
        obtain ⟨v_5, e_6⟩ : ∃ z, z = (x1 : Int64) / (w29_4 : Int64) := ⟨_, rfl⟩
        refine k_ldiv (v := v_5) C (pw_ne (hi29_0 (by omega)) (by decide)) e_6.symm dX12_sayDigits_42 ?_
        refine lv_ldc2 (v := 10) C.1 C.2.1 C.2.2.2.1 (C.2.2.2.2.1 _ m_36_4) dX12_sayDigits_43 ?_
        obtain ⟨v_7, e_8⟩ : ∃ z, z = (v_5 : Int64) - (v_5 : Int64) / (10 : Int64) * (10 : Int64) := ⟨_, rfl⟩
        have h_9 : -10 < v_7.toInt ∧ v_7.toInt < 10 := by rw [e_8]; exact tl_remb (k := 10) (by decide) (by decide)
        refine k_lrem (v := v_7) C (by decide) e_8.symm dX12_sayDigits_46 ?_
        obtain ⟨v_10, e_11⟩ : ∃ z, z = (48 : Int64) + (v_7 : Int64) := ⟨_, rfl⟩
        have h_12 : v_10.toInt = 48 + v_7.toInt := by rw [e_11]; exact Jvm.Kit.i64_add (by show (_ : Int) ≤ 48 + v_7.toInt; omega) (by show 48 + v_7.toInt < (_ : Int); omega)
        refine k_ladd (v := v_10) C e_11.symm dX12_sayDigits_47 ?_
        obtain ⟨v_13, e_14⟩ : ∃ z, z = (v_10).toInt32 := ⟨_, rfl⟩
        have h_15 : v_13.toInt = v_10.toInt := by rw [e_14]; exact Jvm.Kit.i32_of_i64 (by show (_ : Int) ≤ v_10.toInt; omega) (by show v_10.toInt < (_ : Int); omega)
        refine lv_l2i (v := v_13) C.1 C.2.1 dX12_sayDigits_48 e_14.symm ?_
        refine g_Vv (As := [.int v_13]) (rest := []) C hP hD hS hA (T_X12_say l D K Z Y ad t1 hok (v_13) (show (t1.1 0 30).toInt ≤ 119 from by omega)) hE hZ (uwV m_42_13 m_42_14 m_42_15 m_1_5 m_42_16) (hdV 1 (by decide +kernel) rfl) ⟨Nat.le_of_ble_eq_true rfl, Nat.le_of_ble_eq_true rfl⟩ rfl rfl (ci := 11) (q0 := 0) rfl rfl rfl hl.1 (Nat.le_of_ble_eq_true rfl) dX12_sayDigits_49 ⟨Nat.le_of_ble_eq_true rfl, Nat.le_of_ble_eq_true rfl⟩ (fun t_16 H locs hw hP hD hS => ?_)
        obtain ⟨hok, f_18, p_19⟩ := hw
        have hfr : frA [(0, 30)] [] [14] [] t t_16 := frA_tr hfr f_18 rfl
        have h_20 : (0 : Int) ≤ (t_16.1 0 30).toInt ∧ (t_16.1 0 30).toInt ≤ 120 := hok.1 0 30
        replace p_19 : (t_16.1 0 30).toInt = (t1.1 0 30).toInt + 1 := p_19
        refine lv_lload C.1 C.2.1 dX12_sayDigits_52 (lv_at hl 3 rfl) ?_
        refine lv_ldc2 (v := 10) C.1 C.2.1 C.2.2.2.1 (C.2.2.2.2.1 _ m_36_4) dX12_sayDigits_54 ?_
        obtain ⟨v_21, e_22⟩ : ∃ z, z = (w29_4 : Int64) / (10 : Int64) := ⟨_, rfl⟩
        have hpw1 := fun hq => pw_dn (hi29_0 (by omega)) (show (10 : Int64).toInt = 10 from rfl) e_22 (by decide) hq
        refine k_ldiv (v := v_21) C (by decide) e_22.symm dX12_sayDigits_57 ?_
        refine lv_lstore (lv' := [(4, .long v_21), (0, .ref (ad 0)), (1, .long x1), (3, .int x2), (6, .int w29_6)]) C.1 C.2.1 dX12_sayDigits_58 hl (by decide) rfl (fun ls hl => ?_)
        have hl : lv_has ls 7 [(0, .ref (ad 0)), (1, .long x1), (3, .int x2), (4, .long v_21), (6, .int w29_6)] := lv_sub hl [1, 2, 3, 0, 4] rfl
        obtain ⟨v_23, e_24⟩ : ∃ z, z = w29_6 + 1 := ⟨_, rfl⟩
        have h_25 : v_23.toInt = w29_6.toInt + 1 := by rw [e_24]; exact ti_iadd (by show (_ : Int) ≤ w29_6.toInt + 1; omega) (by show w29_6.toInt + 1 < (_ : Int); omega)
        refine lv_iinc (v := v_23) (lv' := [(6, .int v_23), (0, .ref (ad 0)), (1, .long x1), (3, .int x2), (4, .long v_21)]) C.1 C.2.1 dX12_sayDigits_60 hl (k := 4) rfl e_24.symm (by decide) rfl (fun ls hl => ?_)
        have hl : lv_has ls 7 [(0, .ref (ad 0)), (1, .long x1), (3, .int x2), (4, .long v_21), (6, .int v_23)] := lv_sub hl [1, 2, 3, 4, 0] rfl
        refine lv_goto (tgt := 29) C.1 C.2.1 dX12_sayDigits_63 (by decide) ?_
        exact ih_29 t_16 v_21 v_23 _ _ _ hok hfr ⟨by omega, by omega⟩ (show v_23.toInt < x2.toInt → pw 10 v_21 (x2.toInt - 1 - v_23.toInt) from by intro hq; first | exact pw_eq hi6_0 (by omega) | exact pw_eq (hpw1 (by omega)) (by omega)) (show (t_16.1 0 30).toInt = (t.1 0 30).toInt + v_23.toInt from by omega) (show 0 ≤ v_23.toInt from by omega) (show v_23.toInt ≤ x2.toInt from by omega) (show (10 : Int) - v_23.toInt < (fuel_29 : Int) from by omega) hP hD hS (lv_sub hl [0, 1, 2, 3, 4] rfl)
  have L_6 : ∀ (fuel_6 : Nat) (t1 : tSt) (w6_4 : Int64) (w6_6 : Int32) (H : Heap) (locs : List Loc) (ls : Array Slot), okM t1 → frA [(0, 30)] [] [14] [] t t1 → (1 : Int) ≤ w6_6.toInt ∧ w6_6.toInt ≤ 10 → (pw 10 w6_4 (w6_6.toInt - 1)) → (1 ≤ w6_6.toInt) → (w6_6.toInt ≤ x2.toInt) → ((t1.1 0 30).toInt = (t.1 0 30).toInt) → (10 : Int) - w6_6.toInt < (fuel_6 : Int) → va_P D vwCl (WM K ad t1) H → va_D A (WM K ad t1) → va_S A s.heap H locs → lv_has ls 7 [(0, .ref (ad 0)), (1, .long x1), (3, .int x2), (4, .long w6_4), (6, .int w6_6)] → W p l e (rmD 1 0 0) s m [.ref (ad 0), .long x1, .int x2].toArray below meth c H locs 0 0 (MQ below (QV D K (fun (u : tSt) => okM u ∧ frA [(0, 30)] [] [14] [] t u ∧ ((u.1 0 30).toInt = (t.1 0 30).toInt + x2.toInt)) (fun (u : tSt) => WM K ad u) A) [.ref (ad 0), .long x1, .int x2].toArray s 0 0 A) (F0 m 6 ls []) := by
    intro fuel_6
    induction fuel_6 with
    | zero =>
      intro t1 w6_4 w6_6 H locs ls hok hfr hw6_6 hi6_0 hi6_1 hi6_2 hi6_3 hm6_6 hP hD hS hl
      have h_26 : (0 : Int) ≤ (t1.1 0 30).toInt ∧ (t1.1 0 30).toInt ≤ 120 := hok.1 0 30
      exact absurd hm6_6 (by omega)
    | succ fuel_6 ih_6 =>
      intro t1 w6_4 w6_6 H locs ls hok hfr hw6_6 hi6_0 hi6_1 hi6_2 hi6_3 hm6_6 hP hD hS hl
      have hm6_6 : (10 : Int) - w6_6.toInt < (fuel_6 : Int) + 1 := by omega
      have h_27 : (0 : Int) ≤ (t1.1 0 30).toInt ∧ (t1.1 0 30).toInt ≤ 120 := hok.1 0 30
      refine lv_iload C.1 C.2.1 dX12_sayDigits_6 (lv_at hl 4 rfl) ?_
      refine lv_iload_n C.1 C.2.1 dX12_sayDigits_8 rfl (lv_at hl 2 rfl) ?_
      refine lv_icmp_ge (tgt := 26) C.1 C.2.1 dX12_sayDigits_9 (by decide) (fun c_28 => ?_) (fun c_28 => ?_)
      · replace c_28 : x2.toInt ≤ w6_6.toInt := i_le c_28
        refine lv_iconst (v := 0) C.1 C.2.1 dX12_sayDigits_26 (by decide) ?_
        refine lv_istore (lv' := [(6, .int 0), (0, .ref (ad 0)), (1, .long x1), (3, .int x2), (4, .long w6_4)]) C.1 C.2.1 dX12_sayDigits_27 hl (by decide) rfl (fun ls hl => ?_)
        have hl : lv_has ls 7 [(0, .ref (ad 0)), (1, .long x1), (3, .int x2), (4, .long w6_4), (6, .int 0)] := lv_sub hl [1, 2, 3, 4, 0] rfl
        exact L_29 11 t1 w6_4 0 _ _ _ hok hfr ⟨by decide, by decide⟩ (show 0 < x2.toInt → pw 10 w6_4 (x2.toInt - 1 - 0) from by intro hq; first | exact pw_eq hi6_0 (by omega) | exact pw_eq (hpw1 (by omega)) (by omega)) (show (t1.1 0 30).toInt = (t.1 0 30).toInt + 0 from by omega) (show 0 ≤ 0 from by omega) (show 0 ≤ x2.toInt from by omega) (show (10 : Int) - 0 < ((11 : Nat) : Int) from by omega) hP hD hS (lv_sub hl [0, 1, 2, 3, 4] rfl)
      · replace c_28 : w6_6.toInt < x2.toInt := i_nle c_28
        refine lv_ldc2 (v := 10) C.1 C.2.1 C.2.2.2.1 (C.2.2.2.2.1 _ m_36_4) dX12_sayDigits_12 ?_
        refine lv_lload C.1 C.2.1 dX12_sayDigits_15 (lv_at hl 3 rfl) ?_
        obtain ⟨v_29, e_30⟩ : ∃ z, z = (10 : Int64) * (w6_4 : Int64) := ⟨_, rfl⟩
        have hpw0 := pw_up hi6_0 (show (10 : Int64).toInt = 10 from rfl) e_30 (by decide) (p10 (by omega))
        refine k_lmul (v := v_29) C e_30.symm dX12_sayDigits_17 ?_
        refine lv_lstore (lv' := [(4, .long v_29), (0, .ref (ad 0)), (1, .long x1), (3, .int x2), (6, .int w6_6)]) C.1 C.2.1 dX12_sayDigits_18 hl (by decide) rfl (fun ls hl => ?_)
        have hl : lv_has ls 7 [(0, .ref (ad 0)), (1, .long x1), (3, .int x2), (4, .long v_29), (6, .int w6_6)] := lv_sub hl [1, 2, 3, 0, 4] rfl
        obtain ⟨v_31, e_32⟩ : ∃ z, z = w6_6 + 1 := ⟨_, rfl⟩
        have h_33 : v_31.toInt = w6_6.toInt + 1 := by rw [e_32]; exact ti_iadd (by show (_ : Int) ≤ w6_6.toInt + 1; omega) (by show w6_6.toInt + 1 < (_ : Int); omega)
        refine lv_iinc (v := v_31) (lv' := [(6, .int v_31), (0, .ref (ad 0)), (1, .long x1), (3, .int x2), (4, .long v_29)]) C.1 C.2.1 dX12_sayDigits_20 hl (k := 4) rfl e_32.symm (by decide) rfl (fun ls hl => ?_)
        have hl : lv_has ls 7 [(0, .ref (ad 0)), (1, .long x1), (3, .int x2), (4, .long v_29), (6, .int v_31)] := lv_sub hl [1, 2, 3, 4, 0] rfl
        refine lv_goto (tgt := 6) C.1 C.2.1 dX12_sayDigits_23 (by decide) ?_
        exact ih_6 t1 v_29 v_31 _ _ _ hok hfr ⟨by omega, by omega⟩ (show pw 10 v_29 (v_31.toInt - 1) from by first | exact ⟨by decide, rfl⟩ | exact pw_eq hpw0 (by omega)) (show 1 ≤ v_31.toInt from by omega) (show v_31.toInt ≤ x2.toInt from by omega) (show (t1.1 0 30).toInt = (t.1 0 30).toInt from by omega) (show (10 : Int) - v_31.toInt < (fuel_6 : Int) from by omega) hP hD hS (lv_sub hl [0, 1, 2, 3, 4] rfl)
  refine lv_lconst (v := 1) C.1 C.2.1 dX12_sayDigits_0 (by decide) ?_
  refine lv_lstore (lv' := [(4, .long 1), (0, .ref (ad 0)), (1, .long x1), (3, .int x2)]) C.1 C.2.1 dX12_sayDigits_1 hl (by decide) rfl (fun ls hl => ?_)
  have hl : lv_has ls 7 [(0, .ref (ad 0)), (1, .long x1), (3, .int x2), (4, .long 1)] := lv_sub hl [1, 2, 3, 0] rfl
  refine lv_iconst (v := 1) C.1 C.2.1 dX12_sayDigits_3 (by decide) ?_
  refine lv_istore (lv' := [(6, .int 1), (0, .ref (ad 0)), (1, .long x1), (3, .int x2), (4, .long 1)]) C.1 C.2.1 dX12_sayDigits_4 hl (by decide) rfl (fun ls hl => ?_)
  have hl : lv_has ls 7 [(0, .ref (ad 0)), (1, .long x1), (3, .int x2), (4, .long 1), (6, .int 1)] := lv_sub hl [1, 2, 3, 4, 0] rfl
  exact L_6 10 t 1 1 _ _ _ hok hfr ⟨by decide, by decide⟩ (show pw 10 1 (1 - 1) from by first | exact ⟨by decide, rfl⟩ | exact pw_eq hpw0 (by omega)) (show 1 ≤ 1 from by omega) (show 1 ≤ x2.toInt from by omega) (show (t.1 0 30).toInt = (t.1 0 30).toInt from by omega) (show (10 : Int) - 1 < ((10 : Nat) : Int) from by omega) hP hD hS (lv_sub hl [0, 1, 2, 3, 4] rfl)

theorem dX12_settle_0 : decode cX12_settle 0 = .ok (.iconst 1, 1) := by decide +kernel
theorem dX12_settle_1 : decode cX12_settle 1 = .ok (.istore_n 3, 1) := by decide +kernel
theorem dX12_settle_10 : decode cX12_settle 10 = .ok (.istore 5, 2) := by decide +kernel
theorem dX12_settle_100 : decode cX12_settle 100 = .ok (.lcmp, 1) := by decide +kernel
theorem dX12_settle_101 : decode cX12_settle 101 = .ok (.ifCond .ge 7, 3) := by decide +kernel
theorem dX12_settle_104 : decode cX12_settle 104 = .ok (.iload 5, 2) := by decide +kernel
theorem dX12_settle_106 : decode cX12_settle 106 = .ok (.istore 4, 2) := by decide +kernel
theorem dX12_settle_108 : decode cX12_settle 108 = .ok (.iinc 5 1, 3) := by decide +kernel
theorem dX12_settle_111 : decode cX12_settle 111 = .ok (.goto (-99), 3) := by decide +kernel
theorem dX12_settle_114 : decode cX12_settle 114 = .ok (.iload 4, 2) := by decide +kernel
theorem dX12_settle_116 : decode cX12_settle 116 = .ok (.iconst (-1), 1) := by decide +kernel
theorem dX12_settle_117 : decode cX12_settle 117 = .ok (.if_icmp .eq 7, 3) := by decide +kernel
theorem dX12_settle_12 : decode cX12_settle 12 = .ok (.iload 5, 2) := by decide +kernel
theorem dX12_settle_120 : decode cX12_settle 120 = .ok (.iconst 1, 1) := by decide +kernel
theorem dX12_settle_121 : decode cX12_settle 121 = .ok (.goto 4, 3) := by decide +kernel
theorem dX12_settle_124 : decode cX12_settle 124 = .ok (.iconst 0, 1) := by decide +kernel
theorem dX12_settle_125 : decode cX12_settle 125 = .ok (.istore_n 3, 1) := by decide +kernel
theorem dX12_settle_126 : decode cX12_settle 126 = .ok (.iconst 0, 1) := by decide +kernel
theorem dX12_settle_127 : decode cX12_settle 127 = .ok (.istore 5, 2) := by decide +kernel
theorem dX12_settle_129 : decode cX12_settle 129 = .ok (.iload_n 3, 1) := by decide +kernel
theorem dX12_settle_130 : decode cX12_settle 130 = .ok (.ifCond .eq 46, 3) := by decide +kernel
theorem dX12_settle_133 : decode cX12_settle 133 = .ok (.iload 5, 2) := by decide +kernel
theorem dX12_settle_135 : decode cX12_settle 135 = .ok (.iload 4, 2) := by decide +kernel
theorem dX12_settle_137 : decode cX12_settle 137 = .ok (.invokestatic 211, 3) := by decide +kernel
theorem dX12_settle_14 : decode cX12_settle 14 = .ok (.bipush 20, 2) := by decide +kernel
theorem dX12_settle_140 : decode cX12_settle 140 = .ok (.if_icmp .ge 36, 3) := by decide +kernel
theorem dX12_settle_143 : decode cX12_settle 143 = .ok (.aload_n 0, 1) := by decide +kernel
theorem dX12_settle_144 : decode cX12_settle 144 = .ok (.aload_n 0, 1) := by decide +kernel
theorem dX12_settle_145 : decode cX12_settle 145 = .ok (.getfield 38, 3) := by decide +kernel
theorem dX12_settle_148 : decode cX12_settle 148 = .ok (.iload 4, 2) := by decide +kernel
theorem dX12_settle_150 : decode cX12_settle 150 = .ok (.iaload, 1) := by decide +kernel
theorem dX12_settle_151 : decode cX12_settle 151 = .ok (.iload 5, 2) := by decide +kernel
theorem dX12_settle_153 : decode cX12_settle 153 = .ok (.iadd, 1) := by decide +kernel
theorem dX12_settle_154 : decode cX12_settle 154 = .ok (.aload_n 0, 1) := by decide +kernel
theorem dX12_settle_155 : decode cX12_settle 155 = .ok (.getfield 41, 3) := by decide +kernel
theorem dX12_settle_158 : decode cX12_settle 158 = .ok (.bipush 100, 2) := by decide +kernel
theorem dX12_settle_16 : decode cX12_settle 16 = .ok (.if_icmp .ge 98, 3) := by decide +kernel
theorem dX12_settle_160 : decode cX12_settle 160 = .ok (.iload 4, 2) := by decide +kernel
theorem dX12_settle_162 : decode cX12_settle 162 = .ok (.imul, 1) := by decide +kernel
theorem dX12_settle_163 : decode cX12_settle 163 = .ok (.iload 5, 2) := by decide +kernel
theorem dX12_settle_165 : decode cX12_settle 165 = .ok (.iadd, 1) := by decide +kernel
theorem dX12_settle_166 : decode cX12_settle 166 = .ok (.iaload, 1) := by decide +kernel
theorem dX12_settle_167 : decode cX12_settle 167 = .ok (.invokevirtual 214, 3) := by decide +kernel
theorem dX12_settle_170 : decode cX12_settle 170 = .ok (.iinc 5 1, 3) := by decide +kernel
theorem dX12_settle_173 : decode cX12_settle 173 = .ok (.goto (-44), 3) := by decide +kernel
theorem dX12_settle_176 : decode cX12_settle 176 = .ok (.iload_n 3, 1) := by decide +kernel
theorem dX12_settle_177 : decode cX12_settle 177 = .ok (.ifCond .eq 11, 3) := by decide +kernel
theorem dX12_settle_180 : decode cX12_settle 180 = .ok (.aload_n 0, 1) := by decide +kernel
theorem dX12_settle_181 : decode cX12_settle 181 = .ok (.getfield 31, 3) := by decide +kernel
theorem dX12_settle_184 : decode cX12_settle 184 = .ok (.iload 4, 2) := by decide +kernel
theorem dX12_settle_186 : decode cX12_settle 186 = .ok (.iconst 0, 1) := by decide +kernel
theorem dX12_settle_187 : decode cX12_settle 187 = .ok (.bastore, 1) := by decide +kernel
theorem dX12_settle_188 : decode cX12_settle 188 = .ok (.goto (-186), 3) := by decide +kernel
theorem dX12_settle_19 : decode cX12_settle 19 = .ok (.aload_n 0, 1) := by decide +kernel
theorem dX12_settle_191 : decode cX12_settle 191 = .ok (.return_, 1) := by decide +kernel
theorem dX12_settle_2 : decode cX12_settle 2 = .ok (.iload_n 3, 1) := by decide +kernel
theorem dX12_settle_20 : decode cX12_settle 20 = .ok (.getfield 31, 3) := by decide +kernel
theorem dX12_settle_23 : decode cX12_settle 23 = .ok (.iload 5, 2) := by decide +kernel
theorem dX12_settle_25 : decode cX12_settle 25 = .ok (.baload, 1) := by decide +kernel
theorem dX12_settle_26 : decode cX12_settle 26 = .ok (.ifCond .eq 82, 3) := by decide +kernel
theorem dX12_settle_29 : decode cX12_settle 29 = .ok (.aload_n 0, 1) := by decide +kernel
theorem dX12_settle_3 : decode cX12_settle 3 = .ok (.ifCond .eq 188, 3) := by decide +kernel
theorem dX12_settle_30 : decode cX12_settle 30 = .ok (.getfield 27, 3) := by decide +kernel
theorem dX12_settle_33 : decode cX12_settle 33 = .ok (.iload 5, 2) := by decide +kernel
theorem dX12_settle_35 : decode cX12_settle 35 = .ok (.laload, 1) := by decide +kernel
theorem dX12_settle_36 : decode cX12_settle 36 = .ok (.lload_n 1, 1) := by decide +kernel
theorem dX12_settle_37 : decode cX12_settle 37 = .ok (.lcmp, 1) := by decide +kernel
theorem dX12_settle_38 : decode cX12_settle 38 = .ok (.ifCond .le 6, 3) := by decide +kernel
theorem dX12_settle_41 : decode cX12_settle 41 = .ok (.goto 67, 3) := by decide +kernel
theorem dX12_settle_44 : decode cX12_settle 44 = .ok (.iload 4, 2) := by decide +kernel
theorem dX12_settle_46 : decode cX12_settle 46 = .ok (.iconst (-1), 1) := by decide +kernel
theorem dX12_settle_47 : decode cX12_settle 47 = .ok (.if_icmp .eq 57, 3) := by decide +kernel
theorem dX12_settle_50 : decode cX12_settle 50 = .ok (.aload_n 0, 1) := by decide +kernel
theorem dX12_settle_51 : decode cX12_settle 51 = .ok (.getfield 27, 3) := by decide +kernel
theorem dX12_settle_54 : decode cX12_settle 54 = .ok (.iload 5, 2) := by decide +kernel
theorem dX12_settle_56 : decode cX12_settle 56 = .ok (.laload, 1) := by decide +kernel
theorem dX12_settle_57 : decode cX12_settle 57 = .ok (.aload_n 0, 1) := by decide +kernel
theorem dX12_settle_58 : decode cX12_settle 58 = .ok (.getfield 27, 3) := by decide +kernel
theorem dX12_settle_6 : decode cX12_settle 6 = .ok (.iconst (-1), 1) := by decide +kernel
theorem dX12_settle_61 : decode cX12_settle 61 = .ok (.iload 4, 2) := by decide +kernel
theorem dX12_settle_63 : decode cX12_settle 63 = .ok (.laload, 1) := by decide +kernel
theorem dX12_settle_64 : decode cX12_settle 64 = .ok (.lcmp, 1) := by decide +kernel
theorem dX12_settle_65 : decode cX12_settle 65 = .ok (.ifCond .lt 39, 3) := by decide +kernel
theorem dX12_settle_68 : decode cX12_settle 68 = .ok (.aload_n 0, 1) := by decide +kernel
theorem dX12_settle_69 : decode cX12_settle 69 = .ok (.getfield 27, 3) := by decide +kernel
theorem dX12_settle_7 : decode cX12_settle 7 = .ok (.istore 4, 2) := by decide +kernel
theorem dX12_settle_72 : decode cX12_settle 72 = .ok (.iload 5, 2) := by decide +kernel
theorem dX12_settle_74 : decode cX12_settle 74 = .ok (.laload, 1) := by decide +kernel
theorem dX12_settle_75 : decode cX12_settle 75 = .ok (.aload_n 0, 1) := by decide +kernel
theorem dX12_settle_76 : decode cX12_settle 76 = .ok (.getfield 27, 3) := by decide +kernel
theorem dX12_settle_79 : decode cX12_settle 79 = .ok (.iload 4, 2) := by decide +kernel
theorem dX12_settle_81 : decode cX12_settle 81 = .ok (.laload, 1) := by decide +kernel
theorem dX12_settle_82 : decode cX12_settle 82 = .ok (.lcmp, 1) := by decide +kernel
theorem dX12_settle_83 : decode cX12_settle 83 = .ok (.ifCond .ne 25, 3) := by decide +kernel
theorem dX12_settle_86 : decode cX12_settle 86 = .ok (.aload_n 0, 1) := by decide +kernel
theorem dX12_settle_87 : decode cX12_settle 87 = .ok (.getfield 35, 3) := by decide +kernel
theorem dX12_settle_9 : decode cX12_settle 9 = .ok (.iconst 0, 1) := by decide +kernel
theorem dX12_settle_90 : decode cX12_settle 90 = .ok (.iload 5, 2) := by decide +kernel
theorem dX12_settle_92 : decode cX12_settle 92 = .ok (.laload, 1) := by decide +kernel
theorem dX12_settle_93 : decode cX12_settle 93 = .ok (.aload_n 0, 1) := by decide +kernel
theorem dX12_settle_94 : decode cX12_settle 94 = .ok (.getfield 35, 3) := by decide +kernel
theorem dX12_settle_97 : decode cX12_settle 97 = .ok (.iload 4, 2) := by decide +kernel
theorem dX12_settle_99 : decode cX12_settle 99 = .ok (.laload, 1) := by decide +kernel
set_option maxHeartbeats 4000000 in
set_option maxRecDepth 100000 in
theorem T_X12_settle (l : Launch) (D : va_G) (K : Nat → ClassId) (Z Y : Nat → Nat) (ad : Nat → Nat) (t : tSt) (hok : okM t) (x1 : Int64) : tMet l yX12_settle cX12_settle 6 none (rmD 1 0 0) D K Z Y [.ref (ad 0), .long x1] (WM K ad t) (QV D K (fun (u : tSt) => okM u ∧ frA [] [] [2, 5] [] t u) (fun (u : tSt) => WM K ad u)) 0 0 := by
  refine t_met RX12 ⟨rfl, by decide +kernel⟩ (Nat.le_of_ble_eq_true rfl) ?_
  intro p e s m below meth c A ls C hE hZ hr hlocks hA hP hD hS hl
  have hl : lv_has ls 6 [(0, .ref (ad 0)), (1, .long x1)] := hl
  have hokt := hok
  have hfr : frA [] [] [2, 5] [] t t := frA_rf
  have L_2 : ∀ (fuel_2 : Nat) (t1 : tSt) (w2_3 : Int32) (H : Heap) (locs : List Loc) (ls : Array Slot), okM t1 → frA [] [] [2, 5] [] t t1 → (0 : Int) ≤ w2_3.toInt ∧ w2_3.toInt ≤ 1 → (2 * (cnt20 (t1.2.2.1 5) 20 : Int) + w2_3.toInt) < (fuel_2 : Int) → va_P D vwCl (WM K ad t1) H → va_D A (WM K ad t1) → va_S A s.heap H locs → lv_has ls 6 [(0, .ref (ad 0)), (1, .long x1), (3, .int w2_3)] → W p l e (rmD 1 0 0) s m [.ref (ad 0), .long x1].toArray below meth c H locs 0 0 (MQ below (QV D K (fun (u : tSt) => okM u ∧ frA [] [] [2, 5] [] t u) (fun (u : tSt) => WM K ad u) A) [.ref (ad 0), .long x1].toArray s 0 0 A) (F0 m 2 ls []) := by
    intro fuel_2
    induction fuel_2 with
    | zero =>
      intro t1 w2_3 H locs ls hok hfr hw2_3 hm2_2 hP hD hS hl
      have e_1 : t1.2.2.1 7 = t.2.2.1 7 := hfr.2.2.1 7 rfl
      have hcn := cnt20_le (t1.2.2.1 5) 20
      exact absurd hm2_2 (by omega)
    | succ fuel_2 ih_2 =>
      intro t1 w2_3 H locs ls hok hfr hw2_3 hm2_2 hP hD hS hl
      have hm2_2 : (2 * (cnt20 (t1.2.2.1 5) 20 : Int) + w2_3.toInt) < (fuel_2 : Int) + 1 := by omega
      have e_2 : t1.2.2.1 7 = t.2.2.1 7 := hfr.2.2.1 7 rfl
      have L_188 : ∀ (t1 : tSt) (w188_3 : Int32) (w188_4 : Int32) (w188_5 : Int32) (H : Heap) (locs : List Loc) (ls : Array Slot), okM t1 → frA [] [] [2, 5] [] t t1 → (0 : Int) ≤ w188_3.toInt ∧ w188_3.toInt ≤ 1 → (-1 : Int) ≤ w188_4.toInt ∧ w188_4.toInt ≤ 19 → (0 : Int) ≤ w188_5.toInt ∧ w188_5.toInt ≤ 100 → (2 * (cnt20 (t1.2.2.1 5) 20 : Int) + w188_3.toInt) < (fuel_2 : Int) → va_P D vwCl (WM K ad t1) H → va_D A (WM K ad t1) → va_S A s.heap H locs → lv_has ls 6 [(0, .ref (ad 0)), (1, .long x1), (3, .int w188_3), (4, .int w188_4), (5, .int w188_5)] → W p l e (rmD 1 0 0) s m [.ref (ad 0), .long x1].toArray below meth c H locs 0 0 (MQ below (QV D K (fun (u : tSt) => okM u ∧ frA [] [] [2, 5] [] t u) (fun (u : tSt) => WM K ad u) A) [.ref (ad 0), .long x1].toArray s 0 0 A) (F0 m 188 ls []) := by
        intro t1 w188_3 w188_4 w188_5 H locs ls hok hfr hw188_3 hw188_4 hw188_5 hm188_2 hP hD hS hl
        have e_3 : t1.2.2.1 7 = t.2.2.1 7 := hfr.2.2.1 7 rfl
        refine lv_goto (tgt := 2) C.1 C.2.1 dX12_settle_188 (by decide) ?_
        have hcn := cnt20_le (t1.2.2.1 5) 20
        exact ih_2 t1 w188_3 _ _ _ hok hfr ⟨by omega, by omega⟩ (show (2 * (cnt20 (t1.2.2.1 5) 20 : Int) + w188_3.toInt) < (fuel_2 : Int) from by omega) hP hD hS (lv_sub hl [0, 1, 2] rfl)
      have L_176 : ∀ (t1 : tSt) (w176_3 : Int32) (w176_4 : Int32) (w176_5 : Int32) (H : Heap) (locs : List Loc) (ls : Array Slot), okM t1 → frA [] [] [2, 5] [] t t1 → (0 : Int) ≤ w176_3.toInt ∧ w176_3.toInt ≤ 1 → (-1 : Int) ≤ w176_4.toInt ∧ w176_4.toInt ≤ 19 → (0 : Int) ≤ w176_5.toInt ∧ w176_5.toInt ≤ 100 → (w176_3.toInt = 0 ∨ (0 ≤ w176_4.toInt ∧ ¬ (t1.2.2.1 5 (w176_4 : Int32).toNatClampNeg).toInt = 0)) → (2 * (cnt20 (t1.2.2.1 5) 20 : Int) < (fuel_2 : Int)) → (2 * (cnt20 (t1.2.2.1 5) 20 : Int) + w176_3.toInt) < (fuel_2 : Int) + 1 → va_P D vwCl (WM K ad t1) H → va_D A (WM K ad t1) → va_S A s.heap H locs → lv_has ls 6 [(0, .ref (ad 0)), (1, .long x1), (3, .int w176_3), (4, .int w176_4), (5, .int w176_5)] → W p l e (rmD 1 0 0) s m [.ref (ad 0), .long x1].toArray below meth c H locs 0 0 (MQ below (QV D K (fun (u : tSt) => okM u ∧ frA [] [] [2, 5] [] t u) (fun (u : tSt) => WM K ad u) A) [.ref (ad 0), .long x1].toArray s 0 0 A) (F0 m 176 ls []) := by
        intro t1 w176_3 w176_4 w176_5 H locs ls hok hfr hw176_3 hw176_4 hw176_5 hi176_0 hi176_1 hm176_2 hP hD hS hl
        have e_4 : t1.2.2.1 7 = t.2.2.1 7 := hfr.2.2.1 7 rfl
        refine lv_iload_n C.1 C.2.1 dX12_settle_176 rfl (lv_at hl 2 rfl) ?_
        refine lv_if_eq (tgt := 188) C.1 C.2.1 dX12_settle_177 (by decide) (fun c_5 => ?_) (fun c_5 => ?_)
        · replace c_5 : w176_3.toInt = 0 := i_eq c_5
          have hcn := cnt20_le (t1.2.2.1 5) 20
          exact L_188 t1 w176_3 w176_4 w176_5 _ _ _ hok hfr ⟨by omega, by omega⟩ ⟨by omega, by omega⟩ ⟨by omega, by omega⟩ (show (2 * (cnt20 (t1.2.2.1 5) 20 : Int) + w176_3.toInt) < (fuel_2 : Int) from by omega) hP hD hS (lv_sub hl [0, 1, 2, 3, 4] rfl)
        · replace c_5 : ¬ w176_3.toInt = 0 := i_ne c_5
          refine lv_aload_n C.1 C.2.1 dX12_settle_180 rfl (lv_at hl 0 rfl) ?_
          refine k_get (v := .ref (ad 5)) C hP 0 rfl rfl inlX12 20 (by decide) m_7_10 rfl dX12_settle_181 ?_
          refine lv_iload C.1 C.2.1 dX12_settle_184 (lv_at hl 3 rfl) ?_
          refine lv_iconst (v := 0) C.1 C.2.1 dX12_settle_186 (by decide) ?_
          obtain ⟨v_6, e_7⟩ : ∃ z, z = vp_nar .boolean 0 := ⟨_, rfl⟩
          have h_8 : (0 : Int) ≤ v_6.toInt ∧ v_6.toInt ≤ 1 := by rw [e_7]; exact nar_boolean _
          have hv0 : v_6.toInt = 0 := by rw [e_7]; rfl
          refine k_zst (ws' := WM K ad (uB t1 5 (w176_4 : Int32).toNatClampNeg v_6)) (x' := v_6) C hP hD hS 5 rfl (vp_in_iff.mpr ⟨by omega, by omega⟩) rfl e_7.symm rfl dX12_settle_187 (fun H locs hP hD hS => ?_)
          have hok : okM (uB t1 5 (w176_4 : Int32).toNatClampNeg v_6) := ⟨hok.1, okB_B hok.2.1 5 _ v_6 (show (0 : Int) ≤ (v_6 : Int32).toInt ∧ (v_6 : Int32).toInt ≤ 1 from ⟨by omega, by omega⟩), (iM1_off hok.2.2.1 _ hv0), hok.2.2.2.1, hok.2.2.2.2.1, hok.2.2.2.2.2.1, hok.2.2.2.2.2.2.1, trivial⟩
          have hfr : frA [] [] [2, 5] [] t (uB t1 5 (w176_4 : Int32).toNatClampNeg v_6) := frA_B hfr 5 _ _ rfl
          have hcz : cnt20 ((uB t1 5 (w176_4 : Int32).toNatClampNeg v_6).2.2.1 5) 20 + 1 = cnt20 (t1.2.2.1 5) 20 := cnt20_z (by omega) hv0 20 (by have := clamp_eq (x := w176_4) (by omega); omega)
          have hcn := cnt20_le ((uB t1 5 (w176_4 : Int32).toNatClampNeg v_6).2.2.1 5) 20
          exact L_188 (uB t1 5 (w176_4 : Int32).toNatClampNeg v_6) w176_3 w176_4 w176_5 _ _ _ hok hfr ⟨by omega, by omega⟩ ⟨by omega, by omega⟩ ⟨by omega, by omega⟩ (show (2 * (cnt20 ((uB t1 5 (w176_4 : Int32).toNatClampNeg v_6).2.2.1 5) 20 : Int) + w176_3.toInt) < (fuel_2 : Int) from by omega) hP hD hS (lv_sub hl [0, 1, 2, 3, 4] rfl)
      have L_129 : ∀ (fuel_129 : Nat) (t1 : tSt) (w129_3 : Int32) (w129_4 : Int32) (w129_5 : Int32) (H : Heap) (locs : List Loc) (ls : Array Slot), okM t1 → frA [] [] [2, 5] [] t t1 → (0 : Int) ≤ w129_3.toInt ∧ w129_3.toInt ≤ 1 → (-1 : Int) ≤ w129_4.toInt ∧ w129_4.toInt ≤ 19 → (0 : Int) ≤ w129_5.toInt ∧ w129_5.toInt ≤ 100 → (w129_3.toInt = 0 ∨ (0 ≤ w129_4.toInt ∧ ¬ (t1.2.2.1 5 (w129_4 : Int32).toNatClampNeg).toInt = 0)) → (2 * (cnt20 (t1.2.2.1 5) 20 : Int) < (fuel_2 : Int)) → (2 * (cnt20 (t1.2.2.1 5) 20 : Int) + w129_3.toInt) < (fuel_2 : Int) + 1 → (100 : Int) - w129_5.toInt < (fuel_129 : Int) → va_P D vwCl (WM K ad t1) H → va_D A (WM K ad t1) → va_S A s.heap H locs → lv_has ls 6 [(0, .ref (ad 0)), (1, .long x1), (3, .int w129_3), (4, .int w129_4), (5, .int w129_5)] → W p l e (rmD 1 0 0) s m [.ref (ad 0), .long x1].toArray below meth c H locs 0 0 (MQ below (QV D K (fun (u : tSt) => okM u ∧ frA [] [] [2, 5] [] t u) (fun (u : tSt) => WM K ad u) A) [.ref (ad 0), .long x1].toArray s 0 0 A) (F0 m 129 ls []) := by
        intro fuel_129
        induction fuel_129 with
        | zero =>
          intro t1 w129_3 w129_4 w129_5 H locs ls hok hfr hw129_3 hw129_4 hw129_5 hi129_0 hi129_1 hm129_2 hm129_129 hP hD hS hl
          have e_9 : t1.2.2.1 7 = t.2.2.1 7 := hfr.2.2.1 7 rfl
          exact absurd hm129_129 (by omega)
        | succ fuel_129 ih_129 =>
          intro t1 w129_3 w129_4 w129_5 H locs ls hok hfr hw129_3 hw129_4 hw129_5 hi129_0 hi129_1 hm129_2 hm129_129 hP hD hS hl
          have hm129_129 : (100 : Int) - w129_5.toInt < (fuel_129 : Int) + 1 := by omega
          have e_10 : t1.2.2.1 7 = t.2.2.1 7 := hfr.2.2.1 7 rfl
          refine lv_iload_n C.1 C.2.1 dX12_settle_129 rfl (lv_at hl 2 rfl) ?_
          refine lv_if_eq (tgt := 176) C.1 C.2.1 dX12_settle_130 (by decide) (fun c_11 => ?_) (fun c_11 => ?_)
          · replace c_11 : w129_3.toInt = 0 := i_eq c_11
            have hcn := cnt20_le (t1.2.2.1 5) 20
            exact L_176 t1 w129_3 w129_4 w129_5 _ _ _ hok hfr ⟨by omega, by omega⟩ ⟨by omega, by omega⟩ ⟨by omega, by omega⟩ (show w129_3.toInt = 0 ∨ (0 ≤ w129_4.toInt ∧ ¬ (t1.2.2.1 5 (w129_4 : Int32).toNatClampNeg).toInt = 0) from by omega) (show 2 * (cnt20 (t1.2.2.1 5) 20 : Int) < (fuel_2 : Int) from by omega) (show (2 * (cnt20 (t1.2.2.1 5) 20 : Int) + w129_3.toInt) < (fuel_2 : Int) + 1 from by omega) hP hD hS (lv_sub hl [0, 1, 2, 3, 4] rfl)
          · replace c_11 : ¬ w129_3.toInt = 0 := i_ne c_11
            refine lv_iload C.1 C.2.1 dX12_settle_133 (lv_at hl 4 rfl) ?_
            refine lv_iload C.1 C.2.1 dX12_settle_135 (lv_at hl 3 rfl) ?_
            refine g_Si (As := [.int w129_4]) (rest := [.int w129_5]) C hP hD hS hA (T_X12_sizeOf l D K Z Y ad t1 hok (w129_4) (show (-1 : Int) ≤ (w129_4 : Int32).toInt ∧ (w129_4 : Int32).toInt ≤ 19 from ⟨by omega, by omega⟩)) hE hZ (uwS m_56_19 m_56_20 m_1_5 m_56_21) (hdS 1 (by decide +kernel) rfl) ⟨Nat.le_of_ble_eq_true rfl, Nat.le_of_ble_eq_true rfl⟩ rfl rfl rfl hl.1 (Nat.le_of_ble_eq_true rfl) dX12_settle_137 ⟨Nat.le_of_ble_eq_true rfl, Nat.le_of_ble_eq_true rfl⟩ (fun r_13 t_12 H locs hw hP hD hS => ?_)
            obtain ⟨h_15, h_16, p_17, p_18, p_19, p_20⟩ := hw
            replace p_17 : w129_4.toInt < 16 → r_13.toInt = 100 := p_17
            replace p_18 : w129_4.toInt = 16 ∨ w129_4.toInt = 17 → r_13.toInt = 16 := p_18
            replace p_19 : w129_4.toInt = 18 → r_13.toInt = 24 := p_19
            replace p_20 : w129_4.toInt = 19 → r_13.toInt = 14 := p_20
            refine lv_icmp_ge (tgt := 176) C.1 C.2.1 dX12_settle_140 (by decide) (fun c_21 => ?_) (fun c_21 => ?_)
            · replace c_21 : r_13.toInt ≤ w129_5.toInt := i_le c_21
              have hcn := cnt20_le (t1.2.2.1 5) 20
              exact L_176 t1 w129_3 w129_4 w129_5 _ _ _ hok hfr ⟨by omega, by omega⟩ ⟨by omega, by omega⟩ ⟨by omega, by omega⟩ (show w129_3.toInt = 0 ∨ (0 ≤ w129_4.toInt ∧ ¬ (t1.2.2.1 5 (w129_4 : Int32).toNatClampNeg).toInt = 0) from by omega) (show 2 * (cnt20 (t1.2.2.1 5) 20 : Int) < (fuel_2 : Int) from by omega) (show (2 * (cnt20 (t1.2.2.1 5) 20 : Int) + w129_3.toInt) < (fuel_2 : Int) + 1 from by omega) hP hD hS (lv_sub hl [0, 1, 2, 3, 4] rfl)
            · replace c_21 : w129_5.toInt < r_13.toInt := i_nle c_21
              have hq : -3999 ≤ (t1.2.2.1 7 (w129_4 : Int32).toNatClampNeg).toInt ∧ (w129_4.toInt < 16 → (t1.2.2.1 7 (w129_4 : Int32).toNatClampNeg).toInt + 100 ≤ 4000) ∧ (16 ≤ w129_4.toInt → w129_4.toInt = 16 ∧ (t1.2.2.1 7 (w129_4 : Int32).toNatClampNeg).toInt + 16 ≤ 4000) := iM1_at hok.2.2.1 w129_4 (by omega) (by omega) (by omega)
              have h_22 : (t1.2.2.1 7 (w129_4 : Int32).toNatClampNeg).toInt = (t.2.2.1 7 (w129_4 : Int32).toNatClampNeg).toInt := tb_eq e_10 _
              refine lv_aload_n C.1 C.2.1 dX12_settle_143 rfl (lv_at hl 0 rfl) ?_
              refine lv_aload_n C.1 C.2.1 dX12_settle_144 rfl (lv_at hl 0 rfl) ?_
              refine k_get (v := .ref (ad 7)) C hP 0 rfl rfl inlX12 22 (by decide) m_7_12 rfl dX12_settle_145 ?_
              refine lv_iload C.1 C.2.1 dX12_settle_148 (lv_at hl 3 rfl) ?_
              refine k_ild (v := (t.2.2.1 7 (w129_4 : Int32).toNatClampNeg)) C hP 7 rfl (vp_in_iff.mpr ⟨by omega, by omega⟩) (congrFun e_10 _) dX12_settle_150 ?_
              refine lv_iload C.1 C.2.1 dX12_settle_151 (lv_at hl 4 rfl) ?_
              obtain ⟨v_23, e_24⟩ : ∃ z, z = ((t.2.2.1 7 (w129_4 : Int32).toNatClampNeg) : Int32) + (w129_5 : Int32) := ⟨_, rfl⟩
              have h_25 : v_23.toInt = (t.2.2.1 7 (w129_4 : Int32).toNatClampNeg).toInt + w129_5.toInt := by rw [e_24]; exact ti_iadd (by show (_ : Int) ≤ (t.2.2.1 7 (w129_4 : Int32).toNatClampNeg).toInt + w129_5.toInt; omega) (by show (t.2.2.1 7 (w129_4 : Int32).toNatClampNeg).toInt + w129_5.toInt < (_ : Int); omega)
              refine k_iadd (v := v_23) C e_24.symm dX12_settle_153 ?_
              refine lv_aload_n C.1 C.2.1 dX12_settle_154 rfl (lv_at hl 0 rfl) ?_
              refine k_get (v := .ref (ad 8)) C hP 0 rfl rfl inlX12 23 (by decide) m_7_13 rfl dX12_settle_155 ?_
              refine lv_bipush (v := 100) C.1 C.2.1 dX12_settle_158 (by decide) ?_
              refine lv_iload C.1 C.2.1 dX12_settle_160 (lv_at hl 3 rfl) ?_
              obtain ⟨v_26, e_27⟩ : ∃ z, z = (100 : Int32) * (w129_4 : Int32) := ⟨_, rfl⟩
              have h_28 : v_26.toInt = 100 * w129_4.toInt := by rw [e_27]; exact ti_mull (k := 100) (by decide) (by omega) (by omega)
              refine k_imul (v := v_26) C e_27.symm dX12_settle_162 ?_
              refine lv_iload C.1 C.2.1 dX12_settle_163 (lv_at hl 4 rfl) ?_
              obtain ⟨v_29, e_30⟩ : ∃ z, z = (v_26 : Int32) + (w129_5 : Int32) := ⟨_, rfl⟩
              have h_31 : v_29.toInt = v_26.toInt + w129_5.toInt := by rw [e_30]; exact ti_iadd (by show (_ : Int) ≤ v_26.toInt + w129_5.toInt; omega) (by show v_26.toInt + w129_5.toInt < (_ : Int); omega)
              refine k_iadd (v := v_29) C e_30.symm dX12_settle_165 ?_
              obtain ⟨v_32, e_33⟩ : ∃ z, z = (t1.2.2.1 8 (v_29 : Int32).toNatClampNeg) := ⟨_, rfl⟩
              refine k_ild (v := v_32) C hP 8 rfl (vp_in_iff.mpr ⟨by omega, by omega⟩) e_33.symm dX12_settle_166 ?_
              refine g_Vv (As := [.int v_23, .int v_32]) (rest := []) C hP hD hS hA (T_X12_setMemory l D K Z Y ad t1 hok (v_23) (show (-3999 : Int) ≤ (v_23 : Int32).toInt ∧ (v_23 : Int32).toInt ≤ 3999 from ⟨by omega, by omega⟩) (v_32)) hE hZ (uwV m_38_15 m_38_16 m_38_17 m_1_5 m_38_18) (hdV 2 (by decide +kernel) rfl) ⟨Nat.le_of_ble_eq_true rfl, Nat.le_of_ble_eq_true rfl⟩ rfl rfl (ci := 11) (q0 := 0) rfl rfl rfl hl.1 (Nat.le_of_ble_eq_true rfl) dX12_settle_167 ⟨Nat.le_of_ble_eq_true rfl, Nat.le_of_ble_eq_true rfl⟩ (fun t_34 H locs hw hP hD hS => ?_)
              obtain ⟨hok, f_36⟩ := hw
              have hfr : frA [] [] [2, 5] [] t t_34 := frA_tr hfr f_36 rfl
              have e_37 : t_34.2.2.1 5 = t1.2.2.1 5 := f_36.2.2.1 5 rfl
              have e_38 : t_34.2.2.1 7 = t.2.2.1 7 := (f_36.2.2.1 7 rfl).trans (e_10)
              have hcr : cnt20 (t_34.2.2.1 5) 20 = cnt20 (t1.2.2.1 5) 20 := congrArg (fun f => cnt20 f 20) (f_36.2.2.1 5 rfl)
              obtain ⟨v_39, e_40⟩ : ∃ z, z = w129_5 + 1 := ⟨_, rfl⟩
              have h_41 : v_39.toInt = w129_5.toInt + 1 := by rw [e_40]; exact ti_iadd (by show (_ : Int) ≤ w129_5.toInt + 1; omega) (by show w129_5.toInt + 1 < (_ : Int); omega)
              refine lv_iinc (v := v_39) (lv' := [(5, .int v_39), (0, .ref (ad 0)), (1, .long x1), (3, .int w129_3), (4, .int w129_4)]) C.1 C.2.1 dX12_settle_170 hl (k := 4) rfl e_40.symm (by decide) rfl (fun ls hl => ?_)
              have hl : lv_has ls 6 [(0, .ref (ad 0)), (1, .long x1), (3, .int w129_3), (4, .int w129_4), (5, .int v_39)] := lv_sub hl [1, 2, 3, 4, 0] rfl
              refine lv_goto (tgt := 129) C.1 C.2.1 dX12_settle_173 (by decide) ?_
              have h_42 : (t_34.2.2.1 5 (w129_4 : Int32).toNatClampNeg).toInt = (t1.2.2.1 5 (w129_4 : Int32).toNatClampNeg).toInt := tb_eq e_37 _
              have hcn := cnt20_le (t_34.2.2.1 5) 20
              exact ih_129 t_34 w129_3 w129_4 v_39 _ _ _ hok hfr ⟨by omega, by omega⟩ ⟨by omega, by omega⟩ ⟨by omega, by omega⟩ (show w129_3.toInt = 0 ∨ (0 ≤ w129_4.toInt ∧ ¬ (t_34.2.2.1 5 (w129_4 : Int32).toNatClampNeg).toInt = 0) from by omega) (show 2 * (cnt20 (t_34.2.2.1 5) 20 : Int) < (fuel_2 : Int) from by omega) (show (2 * (cnt20 (t_34.2.2.1 5) 20 : Int) + w129_3.toInt) < (fuel_2 : Int) + 1 from by omega) (show (100 : Int) - v_39.toInt < (fuel_129 : Int) from by omega) hP hD hS (lv_sub hl [0, 1, 2, 3, 4] rfl)
      have L_12 : ∀ (fuel_12 : Nat) (t1 : tSt) (w12_3 : Int32) (w12_4 : Int32) (w12_5 : Int32) (H : Heap) (locs : List Loc) (ls : Array Slot), okM t1 → frA [] [] [2, 5] [] t t1 → (1 : Int) ≤ w12_3.toInt ∧ w12_3.toInt ≤ 1 → (-1 : Int) ≤ w12_4.toInt ∧ w12_4.toInt ≤ 19 → (0 : Int) ≤ w12_5.toInt ∧ w12_5.toInt ≤ 20 → (w12_4.toInt = -1 ∨ ¬ (t1.2.2.1 5 (w12_4 : Int32).toNatClampNeg).toInt = 0) → (2 * (cnt20 (t1.2.2.1 5) 20 : Int) + w12_3.toInt) < (fuel_2 : Int) + 1 → (20 : Int) - w12_5.toInt < (fuel_12 : Int) → va_P D vwCl (WM K ad t1) H → va_D A (WM K ad t1) → va_S A s.heap H locs → lv_has ls 6 [(0, .ref (ad 0)), (1, .long x1), (3, .int w12_3), (4, .int w12_4), (5, .int w12_5)] → W p l e (rmD 1 0 0) s m [.ref (ad 0), .long x1].toArray below meth c H locs 0 0 (MQ below (QV D K (fun (u : tSt) => okM u ∧ frA [] [] [2, 5] [] t u) (fun (u : tSt) => WM K ad u) A) [.ref (ad 0), .long x1].toArray s 0 0 A) (F0 m 12 ls []) := by
        intro fuel_12
        induction fuel_12 with
        | zero =>
          intro t1 w12_3 w12_4 w12_5 H locs ls hok hfr hw12_3 hw12_4 hw12_5 hi12_0 hm12_2 hm12_12 hP hD hS hl
          have e_43 : t1.2.2.1 7 = t.2.2.1 7 := hfr.2.2.1 7 rfl
          exact absurd hm12_12 (by omega)
        | succ fuel_12 ih_12 =>
          intro t1 w12_3 w12_4 w12_5 H locs ls hok hfr hw12_3 hw12_4 hw12_5 hi12_0 hm12_2 hm12_12 hP hD hS hl
          have hm12_12 : (20 : Int) - w12_5.toInt < (fuel_12 : Int) + 1 := by omega
          have e_44 : t1.2.2.1 7 = t.2.2.1 7 := hfr.2.2.1 7 rfl
          have L_108 : ∀ (t1 : tSt) (w108_3 : Int32) (w108_4 : Int32) (w108_5 : Int32) (H : Heap) (locs : List Loc) (ls : Array Slot), okM t1 → frA [] [] [2, 5] [] t t1 → (1 : Int) ≤ w108_3.toInt ∧ w108_3.toInt ≤ 1 → (-1 : Int) ≤ w108_4.toInt ∧ w108_4.toInt ≤ 19 → (0 : Int) ≤ w108_5.toInt ∧ w108_5.toInt ≤ 19 → (w108_4.toInt = -1 ∨ ¬ (t1.2.2.1 5 (w108_4 : Int32).toNatClampNeg).toInt = 0) → (2 * (cnt20 (t1.2.2.1 5) 20 : Int) + w108_3.toInt) < (fuel_2 : Int) + 1 → (20 : Int) - w108_5.toInt < (fuel_12 : Int) + 1 → va_P D vwCl (WM K ad t1) H → va_D A (WM K ad t1) → va_S A s.heap H locs → lv_has ls 6 [(0, .ref (ad 0)), (1, .long x1), (3, .int w108_3), (4, .int w108_4), (5, .int w108_5)] → W p l e (rmD 1 0 0) s m [.ref (ad 0), .long x1].toArray below meth c H locs 0 0 (MQ below (QV D K (fun (u : tSt) => okM u ∧ frA [] [] [2, 5] [] t u) (fun (u : tSt) => WM K ad u) A) [.ref (ad 0), .long x1].toArray s 0 0 A) (F0 m 108 ls []) := by
            intro t1 w108_3 w108_4 w108_5 H locs ls hok hfr hw108_3 hw108_4 hw108_5 hi108_0 hm108_2 hm108_12 hP hD hS hl
            have e_45 : t1.2.2.1 7 = t.2.2.1 7 := hfr.2.2.1 7 rfl
            obtain ⟨v_46, e_47⟩ : ∃ z, z = w108_5 + 1 := ⟨_, rfl⟩
            have h_48 : v_46.toInt = w108_5.toInt + 1 := by rw [e_47]; exact ti_iadd (by show (_ : Int) ≤ w108_5.toInt + 1; omega) (by show w108_5.toInt + 1 < (_ : Int); omega)
            refine lv_iinc (v := v_46) (lv' := [(5, .int v_46), (0, .ref (ad 0)), (1, .long x1), (3, .int w108_3), (4, .int w108_4)]) C.1 C.2.1 dX12_settle_108 hl (k := 4) rfl e_47.symm (by decide) rfl (fun ls hl => ?_)
            have hl : lv_has ls 6 [(0, .ref (ad 0)), (1, .long x1), (3, .int w108_3), (4, .int w108_4), (5, .int v_46)] := lv_sub hl [1, 2, 3, 4, 0] rfl
            refine lv_goto (tgt := 12) C.1 C.2.1 dX12_settle_111 (by decide) ?_
            have hcn := cnt20_le (t1.2.2.1 5) 20
            exact ih_12 t1 w108_3 w108_4 v_46 _ _ _ hok hfr ⟨by omega, by omega⟩ ⟨by omega, by omega⟩ ⟨by omega, by omega⟩ (show w108_4.toInt = -1 ∨ ¬ (t1.2.2.1 5 (w108_4 : Int32).toNatClampNeg).toInt = 0 from by omega) (show (2 * (cnt20 (t1.2.2.1 5) 20 : Int) + w108_3.toInt) < (fuel_2 : Int) + 1 from by omega) (show (20 : Int) - v_46.toInt < (fuel_12 : Int) from by omega) hP hD hS (lv_sub hl [0, 1, 2, 3, 4] rfl)
          have L_104 : ∀ (t1 : tSt) (w104_3 : Int32) (w104_4 : Int32) (w104_5 : Int32) (H : Heap) (locs : List Loc) (ls : Array Slot), okM t1 → frA [] [] [2, 5] [] t t1 → (1 : Int) ≤ w104_3.toInt ∧ w104_3.toInt ≤ 1 → (-1 : Int) ≤ w104_4.toInt ∧ w104_4.toInt ≤ 19 → (0 : Int) ≤ w104_5.toInt ∧ w104_5.toInt ≤ 19 → (¬ (t1.2.2.1 5 (w104_5 : Int32).toNatClampNeg).toInt = 0) → (2 * (cnt20 (t1.2.2.1 5) 20 : Int) + w104_3.toInt) < (fuel_2 : Int) + 1 → (20 : Int) - w104_5.toInt < (fuel_12 : Int) + 1 → va_P D vwCl (WM K ad t1) H → va_D A (WM K ad t1) → va_S A s.heap H locs → lv_has ls 6 [(0, .ref (ad 0)), (1, .long x1), (3, .int w104_3), (4, .int w104_4), (5, .int w104_5)] → W p l e (rmD 1 0 0) s m [.ref (ad 0), .long x1].toArray below meth c H locs 0 0 (MQ below (QV D K (fun (u : tSt) => okM u ∧ frA [] [] [2, 5] [] t u) (fun (u : tSt) => WM K ad u) A) [.ref (ad 0), .long x1].toArray s 0 0 A) (F0 m 104 ls []) := by
            intro t1 w104_3 w104_4 w104_5 H locs ls hok hfr hw104_3 hw104_4 hw104_5 hi104_0 hm104_2 hm104_12 hP hD hS hl
            have e_49 : t1.2.2.1 7 = t.2.2.1 7 := hfr.2.2.1 7 rfl
            refine lv_iload C.1 C.2.1 dX12_settle_104 (lv_at hl 4 rfl) ?_
            refine lv_istore (lv' := [(4, .int w104_5), (0, .ref (ad 0)), (1, .long x1), (3, .int w104_3), (5, .int w104_5)]) C.1 C.2.1 dX12_settle_106 hl (by decide) rfl (fun ls hl => ?_)
            have hl : lv_has ls 6 [(0, .ref (ad 0)), (1, .long x1), (3, .int w104_3), (4, .int w104_5), (5, .int w104_5)] := lv_sub hl [1, 2, 3, 0, 4] rfl
            have hcn := cnt20_le (t1.2.2.1 5) 20
            exact L_108 t1 w104_3 w104_5 w104_5 _ _ _ hok hfr ⟨by omega, by omega⟩ ⟨by omega, by omega⟩ ⟨by omega, by omega⟩ (show w104_5.toInt = -1 ∨ ¬ (t1.2.2.1 5 (w104_5 : Int32).toNatClampNeg).toInt = 0 from by omega) (show (2 * (cnt20 (t1.2.2.1 5) 20 : Int) + w104_3.toInt) < (fuel_2 : Int) + 1 from by omega) (show (20 : Int) - w104_5.toInt < (fuel_12 : Int) + 1 from by omega) hP hD hS (lv_sub hl [0, 1, 2, 3, 4] rfl)
          refine lv_iload C.1 C.2.1 dX12_settle_12 (lv_at hl 4 rfl) ?_
          refine lv_bipush (v := 20) C.1 C.2.1 dX12_settle_14 (by decide) ?_
          refine lv_icmp_ge (tgt := 114) C.1 C.2.1 dX12_settle_16 (by decide) (fun c_50 => ?_) (fun c_50 => ?_)
          · replace c_50 : 20 ≤ w12_5.toInt := i_le c_50
            refine lv_iload C.1 C.2.1 dX12_settle_114 (lv_at hl 3 rfl) ?_
            refine lv_iconst (v := (-1)) C.1 C.2.1 dX12_settle_116 (by decide) ?_
            refine lv_icmp_eq (tgt := 124) C.1 C.2.1 dX12_settle_117 (by decide) (fun c_51 => ?_) (fun c_51 => ?_)
            · replace c_51 : w12_4.toInt = (-1) := i_eq c_51
              refine lv_iconst (v := 0) C.1 C.2.1 dX12_settle_124 (by decide) ?_
              refine lv_istore_n (lv' := [(3, .int 0), (0, .ref (ad 0)), (1, .long x1), (4, .int w12_4), (5, .int w12_5)]) C.1 C.2.1 dX12_settle_125 rfl hl (by decide) rfl (fun ls hl => ?_)
              have hl : lv_has ls 6 [(0, .ref (ad 0)), (1, .long x1), (3, .int 0), (4, .int w12_4), (5, .int w12_5)] := lv_sub hl [1, 2, 0, 3, 4] rfl
              refine lv_iconst (v := 0) C.1 C.2.1 dX12_settle_126 (by decide) ?_
              refine lv_istore (lv' := [(5, .int 0), (0, .ref (ad 0)), (1, .long x1), (3, .int 0), (4, .int w12_4)]) C.1 C.2.1 dX12_settle_127 hl (by decide) rfl (fun ls hl => ?_)
              have hl : lv_has ls 6 [(0, .ref (ad 0)), (1, .long x1), (3, .int 0), (4, .int w12_4), (5, .int 0)] := lv_sub hl [1, 2, 3, 4, 0] rfl
              have hcn := cnt20_le (t1.2.2.1 5) 20
              exact L_129 101 t1 0 w12_4 0 _ _ _ hok hfr ⟨by decide, by decide⟩ ⟨by omega, by omega⟩ ⟨by decide, by decide⟩ (show 0 = 0 ∨ (0 ≤ w12_4.toInt ∧ ¬ (t1.2.2.1 5 (w12_4 : Int32).toNatClampNeg).toInt = 0) from by omega) (show 2 * (cnt20 (t1.2.2.1 5) 20 : Int) < (fuel_2 : Int) from by omega) (show (2 * (cnt20 (t1.2.2.1 5) 20 : Int) + 0) < (fuel_2 : Int) + 1 from by omega) (show (100 : Int) - 0 < ((101 : Nat) : Int) from by omega) hP hD hS (lv_sub hl [0, 1, 2, 3, 4] rfl)
            · replace c_51 : ¬ w12_4.toInt = (-1) := i_ne c_51
              refine lv_iconst (v := 1) C.1 C.2.1 dX12_settle_120 (by decide) ?_
              refine lv_goto (tgt := 125) C.1 C.2.1 dX12_settle_121 (by decide) ?_
              refine lv_istore_n (lv' := [(3, .int 1), (0, .ref (ad 0)), (1, .long x1), (4, .int w12_4), (5, .int w12_5)]) C.1 C.2.1 dX12_settle_125 rfl hl (by decide) rfl (fun ls hl => ?_)
              have hl : lv_has ls 6 [(0, .ref (ad 0)), (1, .long x1), (3, .int 1), (4, .int w12_4), (5, .int w12_5)] := lv_sub hl [1, 2, 0, 3, 4] rfl
              refine lv_iconst (v := 0) C.1 C.2.1 dX12_settle_126 (by decide) ?_
              refine lv_istore (lv' := [(5, .int 0), (0, .ref (ad 0)), (1, .long x1), (3, .int 1), (4, .int w12_4)]) C.1 C.2.1 dX12_settle_127 hl (by decide) rfl (fun ls hl => ?_)
              have hl : lv_has ls 6 [(0, .ref (ad 0)), (1, .long x1), (3, .int 1), (4, .int w12_4), (5, .int 0)] := lv_sub hl [1, 2, 3, 4, 0] rfl
              have hcn := cnt20_le (t1.2.2.1 5) 20
              exact L_129 101 t1 1 w12_4 0 _ _ _ hok hfr ⟨by decide, by decide⟩ ⟨by omega, by omega⟩ ⟨by decide, by decide⟩ (show 1 = 0 ∨ (0 ≤ w12_4.toInt ∧ ¬ (t1.2.2.1 5 (w12_4 : Int32).toNatClampNeg).toInt = 0) from by omega) (show 2 * (cnt20 (t1.2.2.1 5) 20 : Int) < (fuel_2 : Int) from by omega) (show (2 * (cnt20 (t1.2.2.1 5) 20 : Int) + 1) < (fuel_2 : Int) + 1 from by omega) (show (100 : Int) - 0 < ((101 : Nat) : Int) from by omega) hP hD hS (lv_sub hl [0, 1, 2, 3, 4] rfl)
          · replace c_50 : w12_5.toInt < 20 := i_nle c_50
            refine lv_aload_n C.1 C.2.1 dX12_settle_19 rfl (lv_at hl 0 rfl) ?_
            refine k_get (v := .ref (ad 5)) C hP 0 rfl rfl inlX12 20 (by decide) m_7_10 rfl dX12_settle_20 ?_
            refine lv_iload C.1 C.2.1 dX12_settle_23 (lv_at hl 4 rfl) ?_
            have h_52 : (0 : Int) ≤ (t1.2.2.1 5 (w12_5 : Int32).toNatClampNeg).toInt ∧ (t1.2.2.1 5 (w12_5 : Int32).toNatClampNeg).toInt ≤ 1 := hok.2.1 5 _
            refine k_zld (v := (t1.2.2.1 5 (w12_5 : Int32).toNatClampNeg)) C hP 5 rfl (vp_in_iff.mpr ⟨by omega, by omega⟩) rfl dX12_settle_25 ?_
            refine lv_if_eq (tgt := 108) C.1 C.2.1 dX12_settle_26 (by decide) (fun c_53 => ?_) (fun c_53 => ?_)
            · replace c_53 : (t1.2.2.1 5 (w12_5 : Int32).toNatClampNeg).toInt = 0 := i_eq c_53
              have hcn := cnt20_le (t1.2.2.1 5) 20
              exact L_108 t1 w12_3 w12_4 w12_5 _ _ _ hok hfr ⟨by omega, by omega⟩ ⟨by omega, by omega⟩ ⟨by omega, by omega⟩ (show w12_4.toInt = -1 ∨ ¬ (t1.2.2.1 5 (w12_4 : Int32).toNatClampNeg).toInt = 0 from by omega) (show (2 * (cnt20 (t1.2.2.1 5) 20 : Int) + w12_3.toInt) < (fuel_2 : Int) + 1 from by omega) (show (20 : Int) - w12_5.toInt < (fuel_12 : Int) + 1 from by omega) hP hD hS (lv_sub hl [0, 1, 2, 3, 4] rfl)
            · replace c_53 : ¬ (t1.2.2.1 5 (w12_5 : Int32).toNatClampNeg).toInt = 0 := i_ne c_53
              refine lv_aload_n C.1 C.2.1 dX12_settle_29 rfl (lv_at hl 0 rfl) ?_
              refine k_get (v := .ref (ad 4)) C hP 0 rfl rfl inlX12 19 (by decide) m_7_9 rfl dX12_settle_30 ?_
              refine lv_iload C.1 C.2.1 dX12_settle_33 (lv_at hl 4 rfl) ?_
              refine k_lld (v := (t1.2.2.2 4 (w12_5 : Int32).toNatClampNeg)) C hP 4 rfl (vp_in_iff.mpr ⟨by omega, by omega⟩) rfl dX12_settle_35 ?_
              refine lv_lload_n C.1 C.2.1 dX12_settle_36 rfl (lv_at hl 1 rfl) ?_
              obtain ⟨v_54, e_55⟩ : ∃ z, z = lg_cmp ((t1.2.2.2 4 (w12_5 : Int32).toNatClampNeg) : Int64) x1 := ⟨_, rfl⟩
              have h_56 : (-1 : Int) ≤ v_54.toInt ∧ v_54.toInt ≤ 1 := by rw [e_55]; exact cmp_rng _ _
              refine k_lcmp (v := v_54) C e_55.symm dX12_settle_37 ?_
              refine lv_if_le (tgt := 44) C.1 C.2.1 dX12_settle_38 (by decide) (fun c_57 => ?_) (fun c_57 => ?_)
              · replace c_57 : v_54.toInt ≤ 0 := i_le c_57
                refine lv_iload C.1 C.2.1 dX12_settle_44 (lv_at hl 3 rfl) ?_
                refine lv_iconst (v := (-1)) C.1 C.2.1 dX12_settle_46 (by decide) ?_
                refine lv_icmp_eq (tgt := 104) C.1 C.2.1 dX12_settle_47 (by decide) (fun c_58 => ?_) (fun c_58 => ?_)
                · replace c_58 : w12_4.toInt = (-1) := i_eq c_58
                  have hcn := cnt20_le (t1.2.2.1 5) 20
                  exact L_104 t1 w12_3 w12_4 w12_5 _ _ _ hok hfr ⟨by omega, by omega⟩ ⟨by omega, by omega⟩ ⟨by omega, by omega⟩ (show ¬ (t1.2.2.1 5 (w12_5 : Int32).toNatClampNeg).toInt = 0 from by omega) (show (2 * (cnt20 (t1.2.2.1 5) 20 : Int) + w12_3.toInt) < (fuel_2 : Int) + 1 from by omega) (show (20 : Int) - w12_5.toInt < (fuel_12 : Int) + 1 from by omega) hP hD hS (lv_sub hl [0, 1, 2, 3, 4] rfl)
                · replace c_58 : ¬ w12_4.toInt = (-1) := i_ne c_58
                  refine lv_aload_n C.1 C.2.1 dX12_settle_50 rfl (lv_at hl 0 rfl) ?_
                  refine k_get (v := .ref (ad 4)) C hP 0 rfl rfl inlX12 19 (by decide) m_7_9 rfl dX12_settle_51 ?_
                  refine lv_iload C.1 C.2.1 dX12_settle_54 (lv_at hl 4 rfl) ?_
                  refine k_lld (v := (t1.2.2.2 4 (w12_5 : Int32).toNatClampNeg)) C hP 4 rfl (vp_in_iff.mpr ⟨by omega, by omega⟩) rfl dX12_settle_56 ?_
                  refine lv_aload_n C.1 C.2.1 dX12_settle_57 rfl (lv_at hl 0 rfl) ?_
                  refine k_get (v := .ref (ad 4)) C hP 0 rfl rfl inlX12 19 (by decide) m_7_9 rfl dX12_settle_58 ?_
                  refine lv_iload C.1 C.2.1 dX12_settle_61 (lv_at hl 3 rfl) ?_
                  refine k_lld (v := (t1.2.2.2 4 (w12_4 : Int32).toNatClampNeg)) C hP 4 rfl (vp_in_iff.mpr ⟨by omega, by omega⟩) rfl dX12_settle_63 ?_
                  obtain ⟨v_59, e_60⟩ : ∃ z, z = lg_cmp ((t1.2.2.2 4 (w12_5 : Int32).toNatClampNeg) : Int64) (t1.2.2.2 4 (w12_4 : Int32).toNatClampNeg) := ⟨_, rfl⟩
                  have h_61 : (-1 : Int) ≤ v_59.toInt ∧ v_59.toInt ≤ 1 := by rw [e_60]; exact cmp_rng _ _
                  refine k_lcmp (v := v_59) C e_60.symm dX12_settle_64 ?_
                  refine lv_if_lt (tgt := 104) C.1 C.2.1 dX12_settle_65 (by decide) (fun c_62 => ?_) (fun c_62 => ?_)
                  · replace c_62 : v_59.toInt < 0 := i_lt c_62
                    have hcn := cnt20_le (t1.2.2.1 5) 20
                    exact L_104 t1 w12_3 w12_4 w12_5 _ _ _ hok hfr ⟨by omega, by omega⟩ ⟨by omega, by omega⟩ ⟨by omega, by omega⟩ (show ¬ (t1.2.2.1 5 (w12_5 : Int32).toNatClampNeg).toInt = 0 from by omega) (show (2 * (cnt20 (t1.2.2.1 5) 20 : Int) + w12_3.toInt) < (fuel_2 : Int) + 1 from by omega) (show (20 : Int) - w12_5.toInt < (fuel_12 : Int) + 1 from by omega) hP hD hS (lv_sub hl [0, 1, 2, 3, 4] rfl)
                  · replace c_62 : 0 ≤ v_59.toInt := i_nlt c_62
                    refine lv_aload_n C.1 C.2.1 dX12_settle_68 rfl (lv_at hl 0 rfl) ?_
                    refine k_get (v := .ref (ad 4)) C hP 0 rfl rfl inlX12 19 (by decide) m_7_9 rfl dX12_settle_69 ?_
                    refine lv_iload C.1 C.2.1 dX12_settle_72 (lv_at hl 4 rfl) ?_
                    refine k_lld (v := (t1.2.2.2 4 (w12_5 : Int32).toNatClampNeg)) C hP 4 rfl (vp_in_iff.mpr ⟨by omega, by omega⟩) rfl dX12_settle_74 ?_
                    refine lv_aload_n C.1 C.2.1 dX12_settle_75 rfl (lv_at hl 0 rfl) ?_
                    refine k_get (v := .ref (ad 4)) C hP 0 rfl rfl inlX12 19 (by decide) m_7_9 rfl dX12_settle_76 ?_
                    refine lv_iload C.1 C.2.1 dX12_settle_79 (lv_at hl 3 rfl) ?_
                    refine k_lld (v := (t1.2.2.2 4 (w12_4 : Int32).toNatClampNeg)) C hP 4 rfl (vp_in_iff.mpr ⟨by omega, by omega⟩) rfl dX12_settle_81 ?_
                    obtain ⟨v_63, e_64⟩ : ∃ z, z = lg_cmp ((t1.2.2.2 4 (w12_5 : Int32).toNatClampNeg) : Int64) (t1.2.2.2 4 (w12_4 : Int32).toNatClampNeg) := ⟨_, rfl⟩
                    have h_65 : (-1 : Int) ≤ v_63.toInt ∧ v_63.toInt ≤ 1 := by rw [e_64]; exact cmp_rng _ _
                    refine k_lcmp (v := v_63) C e_64.symm dX12_settle_82 ?_
                    refine lv_if_ne (tgt := 108) C.1 C.2.1 dX12_settle_83 (by decide) (fun c_66 => ?_) (fun c_66 => ?_)
                    · replace c_66 : ¬ v_63.toInt = 0 := i_ne c_66
                      have hcn := cnt20_le (t1.2.2.1 5) 20
                      exact L_108 t1 w12_3 w12_4 w12_5 _ _ _ hok hfr ⟨by omega, by omega⟩ ⟨by omega, by omega⟩ ⟨by omega, by omega⟩ (show w12_4.toInt = -1 ∨ ¬ (t1.2.2.1 5 (w12_4 : Int32).toNatClampNeg).toInt = 0 from by omega) (show (2 * (cnt20 (t1.2.2.1 5) 20 : Int) + w12_3.toInt) < (fuel_2 : Int) + 1 from by omega) (show (20 : Int) - w12_5.toInt < (fuel_12 : Int) + 1 from by omega) hP hD hS (lv_sub hl [0, 1, 2, 3, 4] rfl)
                    · replace c_66 : v_63.toInt = 0 := i_eq c_66
                      refine lv_aload_n C.1 C.2.1 dX12_settle_86 rfl (lv_at hl 0 rfl) ?_
                      refine k_get (v := .ref (ad 6)) C hP 0 rfl rfl inlX12 21 (by decide) m_7_11 rfl dX12_settle_87 ?_
                      refine lv_iload C.1 C.2.1 dX12_settle_90 (lv_at hl 4 rfl) ?_
                      refine k_lld (v := (t1.2.2.2 6 (w12_5 : Int32).toNatClampNeg)) C hP 6 rfl (vp_in_iff.mpr ⟨by omega, by omega⟩) rfl dX12_settle_92 ?_
                      refine lv_aload_n C.1 C.2.1 dX12_settle_93 rfl (lv_at hl 0 rfl) ?_
                      refine k_get (v := .ref (ad 6)) C hP 0 rfl rfl inlX12 21 (by decide) m_7_11 rfl dX12_settle_94 ?_
                      refine lv_iload C.1 C.2.1 dX12_settle_97 (lv_at hl 3 rfl) ?_
                      refine k_lld (v := (t1.2.2.2 6 (w12_4 : Int32).toNatClampNeg)) C hP 6 rfl (vp_in_iff.mpr ⟨by omega, by omega⟩) rfl dX12_settle_99 ?_
                      obtain ⟨v_67, e_68⟩ : ∃ z, z = lg_cmp ((t1.2.2.2 6 (w12_5 : Int32).toNatClampNeg) : Int64) (t1.2.2.2 6 (w12_4 : Int32).toNatClampNeg) := ⟨_, rfl⟩
                      have h_69 : (-1 : Int) ≤ v_67.toInt ∧ v_67.toInt ≤ 1 := by rw [e_68]; exact cmp_rng _ _
                      refine k_lcmp (v := v_67) C e_68.symm dX12_settle_100 ?_
                      refine lv_if_ge (tgt := 108) C.1 C.2.1 dX12_settle_101 (by decide) (fun c_70 => ?_) (fun c_70 => ?_)
                      · replace c_70 : 0 ≤ v_67.toInt := i_le c_70
                        have hcn := cnt20_le (t1.2.2.1 5) 20
                        exact L_108 t1 w12_3 w12_4 w12_5 _ _ _ hok hfr ⟨by omega, by omega⟩ ⟨by omega, by omega⟩ ⟨by omega, by omega⟩ (show w12_4.toInt = -1 ∨ ¬ (t1.2.2.1 5 (w12_4 : Int32).toNatClampNeg).toInt = 0 from by omega) (show (2 * (cnt20 (t1.2.2.1 5) 20 : Int) + w12_3.toInt) < (fuel_2 : Int) + 1 from by omega) (show (20 : Int) - w12_5.toInt < (fuel_12 : Int) + 1 from by omega) hP hD hS (lv_sub hl [0, 1, 2, 3, 4] rfl)
                      · replace c_70 : v_67.toInt < 0 := i_nle c_70
                        have hcn := cnt20_le (t1.2.2.1 5) 20
                        exact L_104 t1 w12_3 w12_4 w12_5 _ _ _ hok hfr ⟨by omega, by omega⟩ ⟨by omega, by omega⟩ ⟨by omega, by omega⟩ (show ¬ (t1.2.2.1 5 (w12_5 : Int32).toNatClampNeg).toInt = 0 from by omega) (show (2 * (cnt20 (t1.2.2.1 5) 20 : Int) + w12_3.toInt) < (fuel_2 : Int) + 1 from by omega) (show (20 : Int) - w12_5.toInt < (fuel_12 : Int) + 1 from by omega) hP hD hS (lv_sub hl [0, 1, 2, 3, 4] rfl)
              · replace c_57 : 0 < v_54.toInt := i_nle c_57
                refine lv_goto (tgt := 108) C.1 C.2.1 dX12_settle_41 (by decide) ?_
                have hcn := cnt20_le (t1.2.2.1 5) 20
                exact L_108 t1 w12_3 w12_4 w12_5 _ _ _ hok hfr ⟨by omega, by omega⟩ ⟨by omega, by omega⟩ ⟨by omega, by omega⟩ (show w12_4.toInt = -1 ∨ ¬ (t1.2.2.1 5 (w12_4 : Int32).toNatClampNeg).toInt = 0 from by omega) (show (2 * (cnt20 (t1.2.2.1 5) 20 : Int) + w12_3.toInt) < (fuel_2 : Int) + 1 from by omega) (show (20 : Int) - w12_5.toInt < (fuel_12 : Int) + 1 from by omega) hP hD hS (lv_sub hl [0, 1, 2, 3, 4] rfl)
      refine lv_iload_n C.1 C.2.1 dX12_settle_2 rfl (lv_at hl 2 rfl) ?_
      refine lv_if_eq (tgt := 191) C.1 C.2.1 dX12_settle_3 (by decide) (fun c_71 => ?_) (fun c_71 => ?_)
      · replace c_71 : w2_3.toInt = 0 := i_eq c_71
        exact g_vret C hr hlocks hP hD hS t1 rfl ⟨hok, hfr⟩ (Nat.le_of_ble_eq_true rfl) (Nat.le_of_ble_eq_true rfl) dX12_settle_191
      · replace c_71 : ¬ w2_3.toInt = 0 := i_ne c_71
        refine lv_iconst (v := (-1)) C.1 C.2.1 dX12_settle_6 (by decide) ?_
        refine lv_istore (lv' := [(4, .int (-1)), (0, .ref (ad 0)), (1, .long x1), (3, .int w2_3)]) C.1 C.2.1 dX12_settle_7 hl (by decide) rfl (fun ls hl => ?_)
        have hl : lv_has ls 6 [(0, .ref (ad 0)), (1, .long x1), (3, .int w2_3), (4, .int (-1))] := lv_sub hl [1, 2, 3, 0] rfl
        refine lv_iconst (v := 0) C.1 C.2.1 dX12_settle_9 (by decide) ?_
        refine lv_istore (lv' := [(5, .int 0), (0, .ref (ad 0)), (1, .long x1), (3, .int w2_3), (4, .int (-1))]) C.1 C.2.1 dX12_settle_10 hl (by decide) rfl (fun ls hl => ?_)
        have hl : lv_has ls 6 [(0, .ref (ad 0)), (1, .long x1), (3, .int w2_3), (4, .int (-1)), (5, .int 0)] := lv_sub hl [1, 2, 3, 4, 0] rfl
        have hcn := cnt20_le (t1.2.2.1 5) 20
        exact L_12 21 t1 w2_3 (-1) 0 _ _ _ hok hfr ⟨by omega, by omega⟩ ⟨by decide, by decide⟩ ⟨by decide, by decide⟩ (show (-1) = -1 ∨ ¬ (t1.2.2.1 5 ((-1) : Int32).toNatClampNeg).toInt = 0 from by omega) (show (2 * (cnt20 (t1.2.2.1 5) 20 : Int) + w2_3.toInt) < (fuel_2 : Int) + 1 from by omega) (show (20 : Int) - 0 < ((21 : Nat) : Int) from by omega) hP hD hS (lv_sub hl [0, 1, 2, 3, 4] rfl)
  refine lv_iconst (v := 1) C.1 C.2.1 dX12_settle_0 (by decide) ?_
  refine lv_istore_n (lv' := [(3, .int 1), (0, .ref (ad 0)), (1, .long x1)]) C.1 C.2.1 dX12_settle_1 rfl hl (by decide) rfl (fun ls hl => ?_)
  have hl : lv_has ls 6 [(0, .ref (ad 0)), (1, .long x1), (3, .int 1)] := lv_sub hl [1, 2, 0] rfl
  have hcn := cnt20_le (t.2.2.1 5) 20
  exact L_2 100 t 1 _ _ _ hok hfr ⟨by decide, by decide⟩ (show (2 * (cnt20 (t.2.2.1 5) 20 : Int) + 1) < ((100 : Nat) : Int) from by omega) hP hD hS (lv_sub hl [0, 1, 2] rfl)

theorem dX12_isBlank_0 : decode cX12_isBlank 0 = .ok (.iload_n 1, 1) := by decide +kernel
theorem dX12_isBlank_1 : decode cX12_isBlank 1 = .ok (.istore_n 3, 1) := by decide +kernel
theorem dX12_isBlank_12 : decode cX12_isBlank 12 = .ok (.bipush 32, 2) := by decide +kernel
theorem dX12_isBlank_14 : decode cX12_isBlank 14 = .ok (.if_icmp .eq 5, 3) := by decide +kernel
theorem dX12_isBlank_17 : decode cX12_isBlank 17 = .ok (.iconst 0, 1) := by decide +kernel
theorem dX12_isBlank_18 : decode cX12_isBlank 18 = .ok (.ireturn, 1) := by decide +kernel
theorem dX12_isBlank_19 : decode cX12_isBlank 19 = .ok (.iinc 3 1, 3) := by decide +kernel
theorem dX12_isBlank_2 : decode cX12_isBlank 2 = .ok (.iload_n 3, 1) := by decide +kernel
theorem dX12_isBlank_22 : decode cX12_isBlank 22 = .ok (.goto (-20), 3) := by decide +kernel
theorem dX12_isBlank_25 : decode cX12_isBlank 25 = .ok (.iconst 1, 1) := by decide +kernel
theorem dX12_isBlank_26 : decode cX12_isBlank 26 = .ok (.ireturn, 1) := by decide +kernel
theorem dX12_isBlank_3 : decode cX12_isBlank 3 = .ok (.iload_n 2, 1) := by decide +kernel
theorem dX12_isBlank_4 : decode cX12_isBlank 4 = .ok (.if_icmp .gt 21, 3) := by decide +kernel
theorem dX12_isBlank_7 : decode cX12_isBlank 7 = .ok (.aload_n 0, 1) := by decide +kernel
theorem dX12_isBlank_8 : decode cX12_isBlank 8 = .ok (.iload_n 3, 1) := by decide +kernel
theorem dX12_isBlank_9 : decode cX12_isBlank 9 = .ok (.invokevirtual 446, 3) := by decide +kernel
set_option maxHeartbeats 4000000 in
set_option maxRecDepth 100000 in
theorem T_X12_isBlank (l : Launch) (D : va_G) (K : Nat → ClassId) (Z Y : Nat → Nat) (ad : Nat → Nat) (t : tSt) (hok : okM t) (x1 : Int32) (hx1 : (1 : Int) ≤ x1.toInt ∧ x1.toInt ≤ 16) (x2 : Int32) (hx2 : (10 : Int) ≤ x2.toInt ∧ x2.toInt ≤ 15) : tMet l yX12_isBlank cX12_isBlank 4 (some .boolean) (rmD 8 0 0) D K Z Y [.ref (ad 0), .int x1, .int x2] (WM K ad t) (QI D K (fun (r : Int32) (u : Unit) => (0 : Int) ≤ r.toInt ∧ r.toInt ≤ 1 ∧ (r.toInt = 0 → (t.2.2.1 19 ((t.1 0 67) : Int32).toNatClampNeg).toInt + x1.toInt ≤ (t.2.2.1 20 ((t.1 0 67) : Int32).toNatClampNeg).toInt)) (fun (_ : Unit) => WM K ad t)) 0 0 := by
  refine t_met RX12 ⟨rfl, by decide +kernel⟩ (Nat.le_of_ble_eq_true rfl) ?_
  intro p e s m below meth c A ls C hE hZ hr hlocks hA hP hD hS hl
  have hl : lv_has ls 4 [(0, .ref (ad 0)), (1, .int x1), (2, .int x2)] := hl
  have h_1 : (0 : Int) ≤ (t.1 0 67).toInt ∧ (t.1 0 67).toInt ≤ 1281 := hok.1 0 67
  have L_2 : ∀ (fuel_2 : Nat) (w2_3 : Int32) (H : Heap) (locs : List Loc) (ls : Array Slot), (1 : Int) ≤ w2_3.toInt ∧ w2_3.toInt ≤ 16 → (x1.toInt ≤ w2_3.toInt) → (16 : Int) - w2_3.toInt < (fuel_2 : Int) → va_P D vwCl (WM K ad t) H → va_D A (WM K ad t) → va_S A s.heap H locs → lv_has ls 4 [(0, .ref (ad 0)), (1, .int x1), (2, .int x2), (3, .int w2_3)] → W p l e (rmD 8 0 0) s m [.ref (ad 0), .int x1, .int x2].toArray below meth c H locs 0 0 (MQ below (QI D K (fun (r : Int32) (u : Unit) => (0 : Int) ≤ r.toInt ∧ r.toInt ≤ 1 ∧ (r.toInt = 0 → (t.2.2.1 19 ((t.1 0 67) : Int32).toNatClampNeg).toInt + x1.toInt ≤ (t.2.2.1 20 ((t.1 0 67) : Int32).toNatClampNeg).toInt)) (fun (_ : Unit) => WM K ad t) A) [.ref (ad 0), .int x1, .int x2].toArray s 0 0 A) (F0 m 2 ls []) := by
    intro fuel_2
    induction fuel_2 with
    | zero =>
      intro w2_3 H locs ls hw2_3 hi2_0 hm2_2 hP hD hS hl
      have h_2 : (0 : Int) ≤ (t.1 0 67).toInt ∧ (t.1 0 67).toInt ≤ 1281 := hok.1 0 67
      exact absurd hm2_2 (by omega)
    | succ fuel_2 ih_2 =>
      intro w2_3 H locs ls hw2_3 hi2_0 hm2_2 hP hD hS hl
      have hm2_2 : (16 : Int) - w2_3.toInt < (fuel_2 : Int) + 1 := by omega
      have h_3 : (0 : Int) ≤ (t.1 0 67).toInt ∧ (t.1 0 67).toInt ≤ 1281 := hok.1 0 67
      refine lv_iload_n C.1 C.2.1 dX12_isBlank_2 rfl (lv_at hl 3 rfl) ?_
      refine lv_iload_n C.1 C.2.1 dX12_isBlank_3 rfl (lv_at hl 2 rfl) ?_
      refine lv_icmp_gt (tgt := 25) C.1 C.2.1 dX12_isBlank_4 (by decide) (fun c_4 => ?_) (fun c_4 => ?_)
      · replace c_4 : x2.toInt < w2_3.toInt := i_lt c_4
        refine lv_iconst (v := 1) C.1 C.2.1 dX12_isBlank_25 (by decide) ?_
        exact g_iret C hr hlocks hP hD hS (by decide) () rfl ⟨by decide, by decide, (show 1 = 0 → (t.2.2.1 19 ((t.1 0 67) : Int32).toNatClampNeg).toInt + x1.toInt ≤ (t.2.2.1 20 ((t.1 0 67) : Int32).toNatClampNeg).toInt from by omega)⟩ (Nat.le_of_ble_eq_true rfl) (Nat.le_of_ble_eq_true rfl) dX12_isBlank_26
      · replace c_4 : w2_3.toInt ≤ x2.toInt := i_nlt c_4
        refine lv_aload_n C.1 C.2.1 dX12_isBlank_7 rfl (lv_at hl 0 rfl) ?_
        refine lv_iload_n C.1 C.2.1 dX12_isBlank_8 rfl (lv_at hl 3 rfl) ?_
        refine g_Vi (As := [.int w2_3]) (rest := []) C hP hD hS hA (T_X12_letterAt l D K Z Y ad t hok (w2_3) (show (1 : Int) ≤ (w2_3 : Int32).toInt ∧ (w2_3 : Int32).toInt ≤ 100 from ⟨by omega, by omega⟩)) hE hZ (uwV m_31_8 m_31_9 m_31_10 m_1_5 m_31_11) (hdV 1 (by decide +kernel) rfl) ⟨Nat.le_of_ble_eq_true rfl, Nat.le_of_ble_eq_true rfl⟩ rfl rfl (ci := 11) (q0 := 0) rfl rfl rfl hl.1 (Nat.le_of_ble_eq_true rfl) dX12_isBlank_9 ⟨Nat.le_of_ble_eq_true rfl, Nat.le_of_ble_eq_true rfl⟩ (fun r_6 t_5 H locs hw hP hD hS => ?_)
        obtain ⟨h_8, h_9, p_10, p_11, p_12, p_13⟩ := hw
        replace p_10 : r_6 = fLet t w2_3 := p_10
        replace p_11 : r_6.toInt = (fLet t w2_3).toInt := p_11
        replace p_12 : ¬ r_6.toInt = 32 → (t.2.2.1 19 ((t.1 0 67) : Int32).toNatClampNeg).toInt + w2_3.toInt ≤ (t.2.2.1 20 ((t.1 0 67) : Int32).toNatClampNeg).toInt := p_12
        replace p_13 : 81 ≤ w2_3.toInt → r_6.toInt = 32 := p_13
        refine lv_bipush (v := 32) C.1 C.2.1 dX12_isBlank_12 (by decide) ?_
        refine lv_icmp_eq (tgt := 19) C.1 C.2.1 dX12_isBlank_14 (by decide) (fun c_14 => ?_) (fun c_14 => ?_)
        · replace c_14 : r_6.toInt = 32 := i_eq c_14
          obtain ⟨v_15, e_16⟩ : ∃ z, z = w2_3 + 1 := ⟨_, rfl⟩
          have h_17 : v_15.toInt = w2_3.toInt + 1 := by rw [e_16]; exact ti_iadd (by show (_ : Int) ≤ w2_3.toInt + 1; omega) (by show w2_3.toInt + 1 < (_ : Int); omega)
          refine lv_iinc (v := v_15) (lv' := [(3, .int v_15), (0, .ref (ad 0)), (1, .int x1), (2, .int x2)]) C.1 C.2.1 dX12_isBlank_19 hl (k := 3) rfl e_16.symm (by decide) rfl (fun ls hl => ?_)
          have hl : lv_has ls 4 [(0, .ref (ad 0)), (1, .int x1), (2, .int x2), (3, .int v_15)] := lv_sub hl [1, 2, 3, 0] rfl
          refine lv_goto (tgt := 2) C.1 C.2.1 dX12_isBlank_22 (by decide) ?_
          exact ih_2 v_15 _ _ _ ⟨by omega, by omega⟩ (show x1.toInt ≤ v_15.toInt from by omega) (show (16 : Int) - v_15.toInt < (fuel_2 : Int) from by omega) hP hD hS (lv_sub hl [0, 1, 2, 3] rfl)
        · replace c_14 : ¬ r_6.toInt = 32 := i_ne c_14
          refine lv_iconst (v := 0) C.1 C.2.1 dX12_isBlank_17 (by decide) ?_
          exact g_iret C hr hlocks hP hD hS (by decide) () rfl ⟨by decide, by decide, (show 0 = 0 → (t.2.2.1 19 ((t.1 0 67) : Int32).toNatClampNeg).toInt + x1.toInt ≤ (t.2.2.1 20 ((t.1 0 67) : Int32).toNatClampNeg).toInt from by omega)⟩ (Nat.le_of_ble_eq_true rfl) (Nat.le_of_ble_eq_true rfl) dX12_isBlank_18
  refine lv_iload_n C.1 C.2.1 dX12_isBlank_0 rfl (lv_at hl 1 rfl) ?_
  refine lv_istore_n (lv' := [(3, .int x1), (0, .ref (ad 0)), (1, .int x1), (2, .int x2)]) C.1 C.2.1 dX12_isBlank_1 rfl hl (by decide) rfl (fun ls hl => ?_)
  have hl : lv_has ls 4 [(0, .ref (ad 0)), (1, .int x1), (2, .int x2), (3, .int x1)] := lv_sub hl [1, 2, 3, 0] rfl
  exact L_2 16 x1 _ _ _ ⟨by omega, by omega⟩ (show x1.toInt ≤ x1.toInt from by omega) (show (16 : Int) - x1.toInt < ((16 : Nat) : Int) from by omega) hP hD hS (lv_sub hl [0, 1, 2, 3] rfl)

theorem dX12_beginCard_0 : decode cX12_beginCard 0 = .ok (.aload_n 0, 1) := by decide +kernel
theorem dX12_beginCard_1 : decode cX12_beginCard 1 = .ok (.invokevirtual 263, 3) := by decide +kernel
theorem dX12_beginCard_10 : decode cX12_beginCard 10 = .ok (.aload_n 0, 1) := by decide +kernel
theorem dX12_beginCard_11 : decode cX12_beginCard 11 = .ok (.iload_n 1, 1) := by decide +kernel
theorem dX12_beginCard_12 : decode cX12_beginCard 12 = .ok (.i2l, 1) := by decide +kernel
theorem dX12_beginCard_13 : decode cX12_beginCard 13 = .ok (.iconst 1, 1) := by decide +kernel
theorem dX12_beginCard_14 : decode cX12_beginCard 14 = .ok (.invokevirtual 199, 3) := by decide +kernel
theorem dX12_beginCard_17 : decode cX12_beginCard 17 = .ok (.aload_n 0, 1) := by decide +kernel
theorem dX12_beginCard_18 : decode cX12_beginCard 18 = .ok (.iload_n 2, 1) := by decide +kernel
theorem dX12_beginCard_19 : decode cX12_beginCard 19 = .ok (.i2l, 1) := by decide +kernel
theorem dX12_beginCard_20 : decode cX12_beginCard 20 = .ok (.iconst 4, 1) := by decide +kernel
theorem dX12_beginCard_21 : decode cX12_beginCard 21 = .ok (.invokevirtual 199, 3) := by decide +kernel
theorem dX12_beginCard_24 : decode cX12_beginCard 24 = .ok (.return_, 1) := by decide +kernel
theorem dX12_beginCard_4 : decode cX12_beginCard 4 = .ok (.aload_n 0, 1) := by decide +kernel
theorem dX12_beginCard_5 : decode cX12_beginCard 5 = .ok (.bipush 6, 2) := by decide +kernel
theorem dX12_beginCard_7 : decode cX12_beginCard 7 = .ok (.invokevirtual 667, 3) := by decide +kernel
set_option maxHeartbeats 4000000 in
set_option maxRecDepth 100000 in
theorem T_X12_beginCard (l : Launch) (D : va_G) (K : Nat → ClassId) (Z Y : Nat → Nat) (ad : Nat → Nat) (t : tSt) (hok : okM t) (x1 : Int32) (hx1 : (0 : Int) ≤ x1.toInt ∧ x1.toInt ≤ 7) (x2 : Int32) (hx2 : (0 : Int) ≤ x2.toInt ∧ x2.toInt ≤ 2147483647) : tMet l yX12_beginCard cX12_beginCard 3 none (rmD 2 0 0) D K Z Y [.ref (ad 0), .int x1, .int x2] (WM K ad t) (QV D K (fun (u : tSt) => okM u ∧ frA [(0, 30)] [] [14] [] t u ∧ ((u.1 0 30).toInt ≤ 10)) (fun (u : tSt) => WM K ad u)) 0 0 := by
  refine t_met RX12 ⟨rfl, by decide +kernel⟩ (Nat.le_of_ble_eq_true rfl) ?_
  intro p e s m below meth c A ls C hE hZ hr hlocks hA hP hD hS hl
  have hl : lv_has ls 3 [(0, .ref (ad 0)), (1, .int x1), (2, .int x2)] := hl
  have hokt := hok
  have hfr : frA [(0, 30)] [] [14] [] t t := frA_rf
  have h_1 : (0 : Int) ≤ (t.1 0 30).toInt ∧ (t.1 0 30).toInt ≤ 120 := hok.1 0 30
  refine lv_aload_n C.1 C.2.1 dX12_beginCard_0 rfl (lv_at hl 0 rfl) ?_
  refine g_Vv (As := []) (rest := []) C hP hD hS hA (T_X12_begin l D K Z Y ad t hok ) hE hZ (uwV m_42_4 m_42_5 m_42_6 m_1_5 m_42_7) (hdV 0 (by decide +kernel) rfl) ⟨Nat.le_of_ble_eq_true rfl, Nat.le_of_ble_eq_true rfl⟩ rfl rfl (ci := 11) (q0 := 0) rfl rfl rfl hl.1 (Nat.le_of_ble_eq_true rfl) dX12_beginCard_1 ⟨Nat.le_of_ble_eq_true rfl, Nat.le_of_ble_eq_true rfl⟩ (fun t_2 H locs hw hP hD hS => ?_)
  obtain ⟨hok, f_4, p_5⟩ := hw
  have hfr : frA [(0, 30)] [] [14] [] t t_2 := frA_tr hfr f_4 rfl
  have h_6 : (0 : Int) ≤ (t_2.1 0 30).toInt ∧ (t_2.1 0 30).toInt ≤ 120 := hok.1 0 30
  replace p_5 : (t_2.1 0 30).toInt = 0 := p_5
  refine lv_aload_n C.1 C.2.1 dX12_beginCard_4 rfl (lv_at hl 0 rfl) ?_
  refine lv_bipush (v := 6) C.1 C.2.1 dX12_beginCard_5 (by decide) ?_
  have h_7 : (6 : Int32).toInt = 6 := rfl
  refine g_Vv (As := [.int 6]) (rest := []) C hP hD hS hA (T_X12_toColumn l D K Z Y ad t_2 hok 6 (show (2 : Int) ≤ (6 : Int32).toInt ∧ (6 : Int32).toInt ≤ 63 from ⟨by decide, by decide⟩) (show (6 : Int32).toInt ≤ 121 from by omega)) hE hZ (uwV m_42_17 m_42_18 m_42_19 m_1_5 m_42_20) (hdV 1 (by decide +kernel) rfl) ⟨Nat.le_of_ble_eq_true rfl, Nat.le_of_ble_eq_true rfl⟩ rfl rfl (ci := 11) (q0 := 0) rfl rfl rfl hl.1 (Nat.le_of_ble_eq_true rfl) dX12_beginCard_7 ⟨Nat.le_of_ble_eq_true rfl, Nat.le_of_ble_eq_true rfl⟩ (fun t_8 H locs hw hP hD hS => ?_)
  obtain ⟨hok, f_10, p_11, p_12⟩ := hw
  have hfr : frA [(0, 30)] [] [14] [] t t_8 := frA_tr hfr f_10 rfl
  have h_13 : (0 : Int) ≤ (t_8.1 0 30).toInt ∧ (t_8.1 0 30).toInt ≤ 120 := hok.1 0 30
  replace p_11 : (t_2.1 0 30).toInt ≤ (t_8.1 0 30).toInt := p_11
  replace p_12 : (t_8.1 0 30).toInt ≤ (t_2.1 0 30).toInt ∨ (t_8.1 0 30).toInt ≤ (6 : Int32).toInt - 1 := p_12
  refine lv_aload_n C.1 C.2.1 dX12_beginCard_10 rfl (lv_at hl 0 rfl) ?_
  refine lv_iload_n C.1 C.2.1 dX12_beginCard_11 rfl (lv_at hl 1 rfl) ?_
  obtain ⟨v_14, e_15⟩ : ∃ z, z = (x1 : Int32).toInt64 := ⟨_, rfl⟩
  have h_16 : v_14.toInt = x1.toInt := by rw [e_15]; exact Jvm.Kit.i64_of_i32 _
  refine lv_i2l (v := v_14) C.1 C.2.1 dX12_beginCard_12 e_15.symm ?_
  refine lv_iconst (v := 1) C.1 C.2.1 dX12_beginCard_13 (by decide) ?_
  have h_17 : (1 : Int32).toInt = 1 := rfl
  refine g_Vv (As := [.long v_14, .int 1]) (rest := []) C hP hD hS hA (T_X12_sayDigits l D K Z Y ad t_8 hok (v_14) 1 (show (1 : Int) ≤ (1 : Int32).toInt ∧ (1 : Int32).toInt ≤ 10 from ⟨by decide, by decide⟩) (show (t_8.1 0 30).toInt + (1 : Int32).toInt ≤ 120 from by omega) (show 1 ≤ (1 : Int32).toInt from by omega) (show (1 : Int32).toInt ≤ 10 from by omega)) hE hZ (uwV m_42_9 m_42_10 m_42_11 m_1_5 m_42_12) (hdV 2 (by decide +kernel) rfl) ⟨Nat.le_of_ble_eq_true rfl, Nat.le_of_ble_eq_true rfl⟩ rfl rfl (ci := 11) (q0 := 0) rfl rfl rfl hl.1 (Nat.le_of_ble_eq_true rfl) dX12_beginCard_14 ⟨Nat.le_of_ble_eq_true rfl, Nat.le_of_ble_eq_true rfl⟩ (fun t_18 H locs hw hP hD hS => ?_)
  obtain ⟨hok, f_20, p_21⟩ := hw
  have hfr : frA [(0, 30)] [] [14] [] t t_18 := frA_tr hfr f_20 rfl
  have h_22 : (0 : Int) ≤ (t_18.1 0 30).toInt ∧ (t_18.1 0 30).toInt ≤ 120 := hok.1 0 30
  replace p_21 : (t_18.1 0 30).toInt = (t_8.1 0 30).toInt + (1 : Int32).toInt := p_21
  refine lv_aload_n C.1 C.2.1 dX12_beginCard_17 rfl (lv_at hl 0 rfl) ?_
  refine lv_iload_n C.1 C.2.1 dX12_beginCard_18 rfl (lv_at hl 2 rfl) ?_
  obtain ⟨v_23, e_24⟩ : ∃ z, z = (x2 : Int32).toInt64 := ⟨_, rfl⟩
  have h_25 : v_23.toInt = x2.toInt := by rw [e_24]; exact Jvm.Kit.i64_of_i32 _
  have h_26 := i_rng x2
  refine lv_i2l (v := v_23) C.1 C.2.1 dX12_beginCard_19 e_24.symm ?_
  refine lv_iconst (v := 4) C.1 C.2.1 dX12_beginCard_20 (by decide) ?_
  have h_27 : (4 : Int32).toInt = 4 := rfl
  refine g_Vv (As := [.long v_23, .int 4]) (rest := []) C hP hD hS hA (T_X12_sayDigits l D K Z Y ad t_18 hok (v_23) 4 (show (1 : Int) ≤ (4 : Int32).toInt ∧ (4 : Int32).toInt ≤ 10 from ⟨by decide, by decide⟩) (show (t_18.1 0 30).toInt + (4 : Int32).toInt ≤ 120 from by omega) (show 1 ≤ (4 : Int32).toInt from by omega) (show (4 : Int32).toInt ≤ 10 from by omega)) hE hZ (uwV m_42_9 m_42_10 m_42_11 m_1_5 m_42_12) (hdV 2 (by decide +kernel) rfl) ⟨Nat.le_of_ble_eq_true rfl, Nat.le_of_ble_eq_true rfl⟩ rfl rfl (ci := 11) (q0 := 0) rfl rfl rfl hl.1 (Nat.le_of_ble_eq_true rfl) dX12_beginCard_21 ⟨Nat.le_of_ble_eq_true rfl, Nat.le_of_ble_eq_true rfl⟩ (fun t_28 H locs hw hP hD hS => ?_)
  obtain ⟨hok, f_30, p_31⟩ := hw
  have hfr : frA [(0, 30)] [] [14] [] t t_28 := frA_tr hfr f_30 rfl
  have h_32 : (0 : Int) ≤ (t_28.1 0 30).toInt ∧ (t_28.1 0 30).toInt ≤ 120 := hok.1 0 30
  replace p_31 : (t_28.1 0 30).toInt = (t_18.1 0 30).toInt + (4 : Int32).toInt := p_31
  exact g_vret C hr hlocks hP hD hS t_28 rfl ⟨hok, hfr, (show (t_28.1 0 30).toInt ≤ 10 from by omega)⟩ (Nat.le_of_ble_eq_true rfl) (Nat.le_of_ble_eq_true rfl) dX12_beginCard_24

theorem dX12_sayWord_0 : decode cX12_sayWord 0 = .ok (.aload_n 0, 1) := by decide +kernel
theorem dX12_sayWord_1 : decode cX12_sayWord 1 = .ok (.iload_n 1, 1) := by decide +kernel
theorem dX12_sayWord_10 : decode cX12_sayWord 10 = .ok (.i2l, 1) := by decide +kernel
theorem dX12_sayWord_11 : decode cX12_sayWord 11 = .ok (.bipush 10, 2) := by decide +kernel
theorem dX12_sayWord_13 : decode cX12_sayWord 13 = .ok (.invokevirtual 199, 3) := by decide +kernel
theorem dX12_sayWord_16 : decode cX12_sayWord 16 = .ok (.return_, 1) := by decide +kernel
theorem dX12_sayWord_2 : decode cX12_sayWord 2 = .ok (.invokevirtual 196, 3) := by decide +kernel
theorem dX12_sayWord_5 : decode cX12_sayWord 5 = .ok (.aload_n 0, 1) := by decide +kernel
theorem dX12_sayWord_6 : decode cX12_sayWord 6 = .ok (.iload_n 1, 1) := by decide +kernel
theorem dX12_sayWord_7 : decode cX12_sayWord 7 = .ok (.ldc 159, 2) := by decide +kernel
theorem dX12_sayWord_9 : decode cX12_sayWord 9 = .ok (.iand, 1) := by decide +kernel
set_option maxHeartbeats 4000000 in
set_option maxRecDepth 100000 in
theorem T_X12_sayWord (l : Launch) (D : va_G) (K : Nat → ClassId) (Z Y : Nat → Nat) (ad : Nat → Nat) (t : tSt) (hok : okM t) (x1 : Int32) (hs0 : (t.1 0 30).toInt ≤ 109) : tMet l yX12_sayWord cX12_sayWord 2 none (rmD 2 0 0) D K Z Y [.ref (ad 0), .int x1] (WM K ad t) (QV D K (fun (u : tSt) => okM u ∧ frA [(0, 30)] [] [14] [] t u ∧ ((u.1 0 30).toInt = (t.1 0 30).toInt + 11)) (fun (u : tSt) => WM K ad u)) 0 0 := by
  refine t_met RX12 ⟨rfl, by decide +kernel⟩ (Nat.le_of_ble_eq_true rfl) ?_
  intro p e s m below meth c A ls C hE hZ hr hlocks hA hP hD hS hl
  have hl : lv_has ls 2 [(0, .ref (ad 0)), (1, .int x1)] := hl
  have hokt := hok
  have hfr : frA [(0, 30)] [] [14] [] t t := frA_rf
  have h_1 : (0 : Int) ≤ (t.1 0 30).toInt ∧ (t.1 0 30).toInt ≤ 120 := hok.1 0 30
  refine lv_aload_n C.1 C.2.1 dX12_sayWord_0 rfl (lv_at hl 0 rfl) ?_
  refine lv_iload_n C.1 C.2.1 dX12_sayWord_1 rfl (lv_at hl 1 rfl) ?_
  refine g_Vv (As := [.int x1]) (rest := []) C hP hD hS hA (T_X12_saySign l D K Z Y ad t hok (x1) (show (t.1 0 30).toInt ≤ 119 from by omega)) hE hZ (uwV m_64_0 m_64_1 m_64_2 m_1_5 m_64_3) (hdV 1 (by decide +kernel) rfl) ⟨Nat.le_of_ble_eq_true rfl, Nat.le_of_ble_eq_true rfl⟩ rfl rfl (ci := 11) (q0 := 0) rfl rfl rfl hl.1 (Nat.le_of_ble_eq_true rfl) dX12_sayWord_2 ⟨Nat.le_of_ble_eq_true rfl, Nat.le_of_ble_eq_true rfl⟩ (fun t_2 H locs hw hP hD hS => ?_)
  obtain ⟨hok, f_4, p_5⟩ := hw
  have hfr : frA [(0, 30)] [] [14] [] t t_2 := frA_tr hfr f_4 rfl
  have h_6 : (0 : Int) ≤ (t_2.1 0 30).toInt ∧ (t_2.1 0 30).toInt ≤ 120 := hok.1 0 30
  replace p_5 : (t_2.1 0 30).toInt = (t.1 0 30).toInt + 1 := p_5
  refine lv_aload_n C.1 C.2.1 dX12_sayWord_5 rfl (lv_at hl 0 rfl) ?_
  refine lv_iload_n C.1 C.2.1 dX12_sayWord_6 rfl (lv_at hl 1 rfl) ?_
  refine lv_ldc (v := 1073741823) C.1 C.2.1 C.2.2.2.1 (C.2.2.2.2.1 _ m_36_12) dX12_sayWord_7 ?_
  obtain ⟨v_7, e_8⟩ : ∃ z, z = (x1 : Int32) &&& (1073741823 : Int32) := ⟨_, rfl⟩
  have h_9 : v_7.toInt = x1.toInt % 2 ^ 30 := by rw [e_8]; exact Jvm.Kit.i32_mask _ _ (k := 30) (by decide) (by decide)
  refine k_iand (v := v_7) C e_8.symm dX12_sayWord_9 ?_
  obtain ⟨v_10, e_11⟩ : ∃ z, z = (v_7 : Int32).toInt64 := ⟨_, rfl⟩
  have h_12 : v_10.toInt = v_7.toInt := by rw [e_11]; exact Jvm.Kit.i64_of_i32 _
  refine lv_i2l (v := v_10) C.1 C.2.1 dX12_sayWord_10 e_11.symm ?_
  refine lv_bipush (v := 10) C.1 C.2.1 dX12_sayWord_11 (by decide) ?_
  have h_13 : (10 : Int32).toInt = 10 := rfl
  refine g_Vv (As := [.long v_10, .int 10]) (rest := []) C hP hD hS hA (T_X12_sayDigits l D K Z Y ad t_2 hok (v_10) 10 (show (1 : Int) ≤ (10 : Int32).toInt ∧ (10 : Int32).toInt ≤ 10 from ⟨by decide, by decide⟩) (show (t_2.1 0 30).toInt + (10 : Int32).toInt ≤ 120 from by omega) (show 1 ≤ (10 : Int32).toInt from by omega) (show (10 : Int32).toInt ≤ 10 from by omega)) hE hZ (uwV m_42_9 m_42_10 m_42_11 m_1_5 m_42_12) (hdV 2 (by decide +kernel) rfl) ⟨Nat.le_of_ble_eq_true rfl, Nat.le_of_ble_eq_true rfl⟩ rfl rfl (ci := 11) (q0 := 0) rfl rfl rfl hl.1 (Nat.le_of_ble_eq_true rfl) dX12_sayWord_13 ⟨Nat.le_of_ble_eq_true rfl, Nat.le_of_ble_eq_true rfl⟩ (fun t_14 H locs hw hP hD hS => ?_)
  obtain ⟨hok, f_16, p_17⟩ := hw
  have hfr : frA [(0, 30)] [] [14] [] t t_14 := frA_tr hfr f_16 rfl
  have h_18 : (0 : Int) ≤ (t_14.1 0 30).toInt ∧ (t_14.1 0 30).toInt ≤ 120 := hok.1 0 30
  replace p_17 : (t_14.1 0 30).toInt = (t_2.1 0 30).toInt + (10 : Int32).toInt := p_17
  exact g_vret C hr hlocks hP hD hS t_14 rfl ⟨hok, hfr, (show (t_14.1 0 30).toInt = (t.1 0 30).toInt + 11 from by omega)⟩ (Nat.le_of_ble_eq_true rfl) (Nat.le_of_ble_eq_true rfl) dX12_sayWord_16

theorem dX12_sayParts_0 : decode cX12_sayParts 0 = .ok (.aload_n 0, 1) := by decide +kernel
theorem dX12_sayParts_1 : decode cX12_sayParts 1 = .ok (.iload_n 1, 1) := by decide +kernel
theorem dX12_sayParts_10 : decode cX12_sayParts 10 = .ok (.bipush 18, 2) := by decide +kernel
theorem dX12_sayParts_12 : decode cX12_sayParts 12 = .ok (.ishr, 1) := by decide +kernel
theorem dX12_sayParts_13 : decode cX12_sayParts 13 = .ok (.i2l, 1) := by decide +kernel
theorem dX12_sayParts_14 : decode cX12_sayParts 14 = .ok (.iconst 4, 1) := by decide +kernel
theorem dX12_sayParts_15 : decode cX12_sayParts 15 = .ok (.invokevirtual 199, 3) := by decide +kernel
theorem dX12_sayParts_18 : decode cX12_sayParts 18 = .ok (.aload_n 0, 1) := by decide +kernel
theorem dX12_sayParts_19 : decode cX12_sayParts 19 = .ok (.bipush 32, 2) := by decide +kernel
theorem dX12_sayParts_2 : decode cX12_sayParts 2 = .ok (.invokevirtual 196, 3) := by decide +kernel
theorem dX12_sayParts_21 : decode cX12_sayParts 21 = .ok (.invokevirtual 189, 3) := by decide +kernel
theorem dX12_sayParts_24 : decode cX12_sayParts 24 = .ok (.aload_n 0, 1) := by decide +kernel
theorem dX12_sayParts_25 : decode cX12_sayParts 25 = .ok (.iload_n 1, 1) := by decide +kernel
theorem dX12_sayParts_26 : decode cX12_sayParts 26 = .ok (.bipush 12, 2) := by decide +kernel
theorem dX12_sayParts_28 : decode cX12_sayParts 28 = .ok (.ishr, 1) := by decide +kernel
theorem dX12_sayParts_29 : decode cX12_sayParts 29 = .ok (.bipush 63, 2) := by decide +kernel
theorem dX12_sayParts_31 : decode cX12_sayParts 31 = .ok (.iand, 1) := by decide +kernel
theorem dX12_sayParts_32 : decode cX12_sayParts 32 = .ok (.i2l, 1) := by decide +kernel
theorem dX12_sayParts_33 : decode cX12_sayParts 33 = .ok (.iconst 2, 1) := by decide +kernel
theorem dX12_sayParts_34 : decode cX12_sayParts 34 = .ok (.invokevirtual 199, 3) := by decide +kernel
theorem dX12_sayParts_37 : decode cX12_sayParts 37 = .ok (.aload_n 0, 1) := by decide +kernel
theorem dX12_sayParts_38 : decode cX12_sayParts 38 = .ok (.bipush 32, 2) := by decide +kernel
theorem dX12_sayParts_40 : decode cX12_sayParts 40 = .ok (.invokevirtual 189, 3) := by decide +kernel
theorem dX12_sayParts_43 : decode cX12_sayParts 43 = .ok (.aload_n 0, 1) := by decide +kernel
theorem dX12_sayParts_44 : decode cX12_sayParts 44 = .ok (.iload_n 1, 1) := by decide +kernel
theorem dX12_sayParts_45 : decode cX12_sayParts 45 = .ok (.bipush 6, 2) := by decide +kernel
theorem dX12_sayParts_47 : decode cX12_sayParts 47 = .ok (.ishr, 1) := by decide +kernel
theorem dX12_sayParts_48 : decode cX12_sayParts 48 = .ok (.bipush 63, 2) := by decide +kernel
theorem dX12_sayParts_5 : decode cX12_sayParts 5 = .ok (.aload_n 0, 1) := by decide +kernel
theorem dX12_sayParts_50 : decode cX12_sayParts 50 = .ok (.iand, 1) := by decide +kernel
theorem dX12_sayParts_51 : decode cX12_sayParts 51 = .ok (.i2l, 1) := by decide +kernel
theorem dX12_sayParts_52 : decode cX12_sayParts 52 = .ok (.iconst 2, 1) := by decide +kernel
theorem dX12_sayParts_53 : decode cX12_sayParts 53 = .ok (.invokevirtual 199, 3) := by decide +kernel
theorem dX12_sayParts_56 : decode cX12_sayParts 56 = .ok (.aload_n 0, 1) := by decide +kernel
theorem dX12_sayParts_57 : decode cX12_sayParts 57 = .ok (.bipush 32, 2) := by decide +kernel
theorem dX12_sayParts_59 : decode cX12_sayParts 59 = .ok (.invokevirtual 189, 3) := by decide +kernel
theorem dX12_sayParts_6 : decode cX12_sayParts 6 = .ok (.iload_n 1, 1) := by decide +kernel
theorem dX12_sayParts_62 : decode cX12_sayParts 62 = .ok (.aload_n 0, 1) := by decide +kernel
theorem dX12_sayParts_63 : decode cX12_sayParts 63 = .ok (.iload_n 1, 1) := by decide +kernel
theorem dX12_sayParts_64 : decode cX12_sayParts 64 = .ok (.bipush 63, 2) := by decide +kernel
theorem dX12_sayParts_66 : decode cX12_sayParts 66 = .ok (.iand, 1) := by decide +kernel
theorem dX12_sayParts_67 : decode cX12_sayParts 67 = .ok (.i2l, 1) := by decide +kernel
theorem dX12_sayParts_68 : decode cX12_sayParts 68 = .ok (.iconst 2, 1) := by decide +kernel
theorem dX12_sayParts_69 : decode cX12_sayParts 69 = .ok (.invokevirtual 199, 3) := by decide +kernel
theorem dX12_sayParts_7 : decode cX12_sayParts 7 = .ok (.ldc 159, 2) := by decide +kernel
theorem dX12_sayParts_72 : decode cX12_sayParts 72 = .ok (.aload_n 0, 1) := by decide +kernel
theorem dX12_sayParts_73 : decode cX12_sayParts 73 = .ok (.bipush 32, 2) := by decide +kernel
theorem dX12_sayParts_75 : decode cX12_sayParts 75 = .ok (.invokevirtual 189, 3) := by decide +kernel
theorem dX12_sayParts_78 : decode cX12_sayParts 78 = .ok (.return_, 1) := by decide +kernel
theorem dX12_sayParts_9 : decode cX12_sayParts 9 = .ok (.iand, 1) := by decide +kernel
set_option maxHeartbeats 4000000 in
set_option maxRecDepth 100000 in
theorem T_X12_sayParts (l : Launch) (D : va_G) (K : Nat → ClassId) (Z Y : Nat → Nat) (ad : Nat → Nat) (t : tSt) (hok : okM t) (x1 : Int32) (hs0 : (t.1 0 30).toInt ≤ 105) : tMet l yX12_sayParts cX12_sayParts 2 none (rmD 2 0 0) D K Z Y [.ref (ad 0), .int x1] (WM K ad t) (QV D K (fun (u : tSt) => okM u ∧ frA [(0, 30)] [] [14] [] t u ∧ ((u.1 0 30).toInt = (t.1 0 30).toInt + 15)) (fun (u : tSt) => WM K ad u)) 0 0 := by
  refine t_met RX12 ⟨rfl, by decide +kernel⟩ (Nat.le_of_ble_eq_true rfl) ?_
  intro p e s m below meth c A ls C hE hZ hr hlocks hA hP hD hS hl
  have hl : lv_has ls 2 [(0, .ref (ad 0)), (1, .int x1)] := hl
  have hokt := hok
  have hfr : frA [(0, 30)] [] [14] [] t t := frA_rf
  have h_1 : (0 : Int) ≤ (t.1 0 30).toInt ∧ (t.1 0 30).toInt ≤ 120 := hok.1 0 30
  refine lv_aload_n C.1 C.2.1 dX12_sayParts_0 rfl (lv_at hl 0 rfl) ?_
  refine lv_iload_n C.1 C.2.1 dX12_sayParts_1 rfl (lv_at hl 1 rfl) ?_
  refine g_Vv (As := [.int x1]) (rest := []) C hP hD hS hA (T_X12_saySign l D K Z Y ad t hok (x1) (show (t.1 0 30).toInt ≤ 119 from by omega)) hE hZ (uwV m_64_0 m_64_1 m_64_2 m_1_5 m_64_3) (hdV 1 (by decide +kernel) rfl) ⟨Nat.le_of_ble_eq_true rfl, Nat.le_of_ble_eq_true rfl⟩ rfl rfl (ci := 11) (q0 := 0) rfl rfl rfl hl.1 (Nat.le_of_ble_eq_true rfl) dX12_sayParts_2 ⟨Nat.le_of_ble_eq_true rfl, Nat.le_of_ble_eq_true rfl⟩ (fun t_2 H locs hw hP hD hS => ?_)
  obtain ⟨hok, f_4, p_5⟩ := hw
  have hfr : frA [(0, 30)] [] [14] [] t t_2 := frA_tr hfr f_4 rfl
  have h_6 : (0 : Int) ≤ (t_2.1 0 30).toInt ∧ (t_2.1 0 30).toInt ≤ 120 := hok.1 0 30
  replace p_5 : (t_2.1 0 30).toInt = (t.1 0 30).toInt + 1 := p_5
  refine lv_aload_n C.1 C.2.1 dX12_sayParts_5 rfl (lv_at hl 0 rfl) ?_
  refine lv_iload_n C.1 C.2.1 dX12_sayParts_6 rfl (lv_at hl 1 rfl) ?_
  refine lv_ldc (v := 1073741823) C.1 C.2.1 C.2.2.2.1 (C.2.2.2.2.1 _ m_36_12) dX12_sayParts_7 ?_
  obtain ⟨v_7, e_8⟩ : ∃ z, z = (x1 : Int32) &&& (1073741823 : Int32) := ⟨_, rfl⟩
  have h_9 : v_7.toInt = x1.toInt % 2 ^ 30 := by rw [e_8]; exact Jvm.Kit.i32_mask _ _ (k := 30) (by decide) (by decide)
  refine k_iand (v := v_7) C e_8.symm dX12_sayParts_9 ?_
  refine lv_bipush (v := 18) C.1 C.2.1 dX12_sayParts_10 (by decide) ?_
  obtain ⟨v_10, e_11⟩ : ∃ z, z = (v_7 : Int32) >>> ((18 : Int32) &&& 31) := ⟨_, rfl⟩
  have h_12 : v_10.toInt = v_7.toInt / 2 ^ 18 := by rw [e_11]; exact Jvm.Kit.i32_shr _ _ (k := 18) (by decide)
  refine k_ishr (v := v_10) C e_11.symm dX12_sayParts_12 ?_
  obtain ⟨v_13, e_14⟩ : ∃ z, z = (v_10 : Int32).toInt64 := ⟨_, rfl⟩
  have h_15 : v_13.toInt = v_10.toInt := by rw [e_14]; exact Jvm.Kit.i64_of_i32 _
  refine lv_i2l (v := v_13) C.1 C.2.1 dX12_sayParts_13 e_14.symm ?_
  refine lv_iconst (v := 4) C.1 C.2.1 dX12_sayParts_14 (by decide) ?_
  have h_16 : (4 : Int32).toInt = 4 := rfl
  refine g_Vv (As := [.long v_13, .int 4]) (rest := []) C hP hD hS hA (T_X12_sayDigits l D K Z Y ad t_2 hok (v_13) 4 (show (1 : Int) ≤ (4 : Int32).toInt ∧ (4 : Int32).toInt ≤ 10 from ⟨by decide, by decide⟩) (show (t_2.1 0 30).toInt + (4 : Int32).toInt ≤ 120 from by omega) (show 1 ≤ (4 : Int32).toInt from by omega) (show (4 : Int32).toInt ≤ 10 from by omega)) hE hZ (uwV m_42_9 m_42_10 m_42_11 m_1_5 m_42_12) (hdV 2 (by decide +kernel) rfl) ⟨Nat.le_of_ble_eq_true rfl, Nat.le_of_ble_eq_true rfl⟩ rfl rfl (ci := 11) (q0 := 0) rfl rfl rfl hl.1 (Nat.le_of_ble_eq_true rfl) dX12_sayParts_15 ⟨Nat.le_of_ble_eq_true rfl, Nat.le_of_ble_eq_true rfl⟩ (fun t_17 H locs hw hP hD hS => ?_)
  obtain ⟨hok, f_19, p_20⟩ := hw
  have hfr : frA [(0, 30)] [] [14] [] t t_17 := frA_tr hfr f_19 rfl
  have h_21 : (0 : Int) ≤ (t_17.1 0 30).toInt ∧ (t_17.1 0 30).toInt ≤ 120 := hok.1 0 30
  replace p_20 : (t_17.1 0 30).toInt = (t_2.1 0 30).toInt + (4 : Int32).toInt := p_20
  refine lv_aload_n C.1 C.2.1 dX12_sayParts_18 rfl (lv_at hl 0 rfl) ?_
  refine lv_bipush (v := 32) C.1 C.2.1 dX12_sayParts_19 (by decide) ?_
  refine g_Vv (As := [.int 32]) (rest := []) C hP hD hS hA (T_X12_say l D K Z Y ad t_17 hok 32 (show (t_17.1 0 30).toInt ≤ 119 from by omega)) hE hZ (uwV m_42_13 m_42_14 m_42_15 m_1_5 m_42_16) (hdV 1 (by decide +kernel) rfl) ⟨Nat.le_of_ble_eq_true rfl, Nat.le_of_ble_eq_true rfl⟩ rfl rfl (ci := 11) (q0 := 0) rfl rfl rfl hl.1 (Nat.le_of_ble_eq_true rfl) dX12_sayParts_21 ⟨Nat.le_of_ble_eq_true rfl, Nat.le_of_ble_eq_true rfl⟩ (fun t_22 H locs hw hP hD hS => ?_)
  obtain ⟨hok, f_24, p_25⟩ := hw
  have hfr : frA [(0, 30)] [] [14] [] t t_22 := frA_tr hfr f_24 rfl
  have h_26 : (0 : Int) ≤ (t_22.1 0 30).toInt ∧ (t_22.1 0 30).toInt ≤ 120 := hok.1 0 30
  replace p_25 : (t_22.1 0 30).toInt = (t_17.1 0 30).toInt + 1 := p_25
  refine lv_aload_n C.1 C.2.1 dX12_sayParts_24 rfl (lv_at hl 0 rfl) ?_
  refine lv_iload_n C.1 C.2.1 dX12_sayParts_25 rfl (lv_at hl 1 rfl) ?_
  refine lv_bipush (v := 12) C.1 C.2.1 dX12_sayParts_26 (by decide) ?_
  obtain ⟨v_27, e_28⟩ : ∃ z, z = (x1 : Int32) >>> ((12 : Int32) &&& 31) := ⟨_, rfl⟩
  have h_29 : v_27.toInt = x1.toInt / 2 ^ 12 := by rw [e_28]; exact Jvm.Kit.i32_shr _ _ (k := 12) (by decide)
  refine k_ishr (v := v_27) C e_28.symm dX12_sayParts_28 ?_
  refine lv_bipush (v := 63) C.1 C.2.1 dX12_sayParts_29 (by decide) ?_
  obtain ⟨v_30, e_31⟩ : ∃ z, z = (v_27 : Int32) &&& (63 : Int32) := ⟨_, rfl⟩
  have h_32 : v_30.toInt = v_27.toInt % 2 ^ 6 := by rw [e_31]; exact Jvm.Kit.i32_mask _ _ (k := 6) (by decide) (by decide)
  refine k_iand (v := v_30) C e_31.symm dX12_sayParts_31 ?_
  obtain ⟨v_33, e_34⟩ : ∃ z, z = (v_30 : Int32).toInt64 := ⟨_, rfl⟩
  have h_35 : v_33.toInt = v_30.toInt := by rw [e_34]; exact Jvm.Kit.i64_of_i32 _
  refine lv_i2l (v := v_33) C.1 C.2.1 dX12_sayParts_32 e_34.symm ?_
  refine lv_iconst (v := 2) C.1 C.2.1 dX12_sayParts_33 (by decide) ?_
  have h_36 : (2 : Int32).toInt = 2 := rfl
  refine g_Vv (As := [.long v_33, .int 2]) (rest := []) C hP hD hS hA (T_X12_sayDigits l D K Z Y ad t_22 hok (v_33) 2 (show (1 : Int) ≤ (2 : Int32).toInt ∧ (2 : Int32).toInt ≤ 10 from ⟨by decide, by decide⟩) (show (t_22.1 0 30).toInt + (2 : Int32).toInt ≤ 120 from by omega) (show 1 ≤ (2 : Int32).toInt from by omega) (show (2 : Int32).toInt ≤ 10 from by omega)) hE hZ (uwV m_42_9 m_42_10 m_42_11 m_1_5 m_42_12) (hdV 2 (by decide +kernel) rfl) ⟨Nat.le_of_ble_eq_true rfl, Nat.le_of_ble_eq_true rfl⟩ rfl rfl (ci := 11) (q0 := 0) rfl rfl rfl hl.1 (Nat.le_of_ble_eq_true rfl) dX12_sayParts_34 ⟨Nat.le_of_ble_eq_true rfl, Nat.le_of_ble_eq_true rfl⟩ (fun t_37 H locs hw hP hD hS => ?_)
  obtain ⟨hok, f_39, p_40⟩ := hw
  have hfr : frA [(0, 30)] [] [14] [] t t_37 := frA_tr hfr f_39 rfl
  have h_41 : (0 : Int) ≤ (t_37.1 0 30).toInt ∧ (t_37.1 0 30).toInt ≤ 120 := hok.1 0 30
  replace p_40 : (t_37.1 0 30).toInt = (t_22.1 0 30).toInt + (2 : Int32).toInt := p_40
  refine lv_aload_n C.1 C.2.1 dX12_sayParts_37 rfl (lv_at hl 0 rfl) ?_
  refine lv_bipush (v := 32) C.1 C.2.1 dX12_sayParts_38 (by decide) ?_
  refine g_Vv (As := [.int 32]) (rest := []) C hP hD hS hA (T_X12_say l D K Z Y ad t_37 hok 32 (show (t_37.1 0 30).toInt ≤ 119 from by omega)) hE hZ (uwV m_42_13 m_42_14 m_42_15 m_1_5 m_42_16) (hdV 1 (by decide +kernel) rfl) ⟨Nat.le_of_ble_eq_true rfl, Nat.le_of_ble_eq_true rfl⟩ rfl rfl (ci := 11) (q0 := 0) rfl rfl rfl hl.1 (Nat.le_of_ble_eq_true rfl) dX12_sayParts_40 ⟨Nat.le_of_ble_eq_true rfl, Nat.le_of_ble_eq_true rfl⟩ (fun t_42 H locs hw hP hD hS => ?_)
  obtain ⟨hok, f_44, p_45⟩ := hw
  have hfr : frA [(0, 30)] [] [14] [] t t_42 := frA_tr hfr f_44 rfl
  have h_46 : (0 : Int) ≤ (t_42.1 0 30).toInt ∧ (t_42.1 0 30).toInt ≤ 120 := hok.1 0 30
  replace p_45 : (t_42.1 0 30).toInt = (t_37.1 0 30).toInt + 1 := p_45
  refine lv_aload_n C.1 C.2.1 dX12_sayParts_43 rfl (lv_at hl 0 rfl) ?_
  refine lv_iload_n C.1 C.2.1 dX12_sayParts_44 rfl (lv_at hl 1 rfl) ?_
  refine lv_bipush (v := 6) C.1 C.2.1 dX12_sayParts_45 (by decide) ?_
  obtain ⟨v_47, e_48⟩ : ∃ z, z = (x1 : Int32) >>> ((6 : Int32) &&& 31) := ⟨_, rfl⟩
  have h_49 : v_47.toInt = x1.toInt / 2 ^ 6 := by rw [e_48]; exact Jvm.Kit.i32_shr _ _ (k := 6) (by decide)
  refine k_ishr (v := v_47) C e_48.symm dX12_sayParts_47 ?_
  refine lv_bipush (v := 63) C.1 C.2.1 dX12_sayParts_48 (by decide) ?_
  obtain ⟨v_50, e_51⟩ : ∃ z, z = (v_47 : Int32) &&& (63 : Int32) := ⟨_, rfl⟩
  have h_52 : v_50.toInt = v_47.toInt % 2 ^ 6 := by rw [e_51]; exact Jvm.Kit.i32_mask _ _ (k := 6) (by decide) (by decide)
  refine k_iand (v := v_50) C e_51.symm dX12_sayParts_50 ?_
  obtain ⟨v_53, e_54⟩ : ∃ z, z = (v_50 : Int32).toInt64 := ⟨_, rfl⟩
  have h_55 : v_53.toInt = v_50.toInt := by rw [e_54]; exact Jvm.Kit.i64_of_i32 _
  refine lv_i2l (v := v_53) C.1 C.2.1 dX12_sayParts_51 e_54.symm ?_
  refine lv_iconst (v := 2) C.1 C.2.1 dX12_sayParts_52 (by decide) ?_
  refine g_Vv (As := [.long v_53, .int 2]) (rest := []) C hP hD hS hA (T_X12_sayDigits l D K Z Y ad t_42 hok (v_53) 2 (show (1 : Int) ≤ (2 : Int32).toInt ∧ (2 : Int32).toInt ≤ 10 from ⟨by decide, by decide⟩) (show (t_42.1 0 30).toInt + (2 : Int32).toInt ≤ 120 from by omega) (show 1 ≤ (2 : Int32).toInt from by omega) (show (2 : Int32).toInt ≤ 10 from by omega)) hE hZ (uwV m_42_9 m_42_10 m_42_11 m_1_5 m_42_12) (hdV 2 (by decide +kernel) rfl) ⟨Nat.le_of_ble_eq_true rfl, Nat.le_of_ble_eq_true rfl⟩ rfl rfl (ci := 11) (q0 := 0) rfl rfl rfl hl.1 (Nat.le_of_ble_eq_true rfl) dX12_sayParts_53 ⟨Nat.le_of_ble_eq_true rfl, Nat.le_of_ble_eq_true rfl⟩ (fun t_56 H locs hw hP hD hS => ?_)
  obtain ⟨hok, f_58, p_59⟩ := hw
  have hfr : frA [(0, 30)] [] [14] [] t t_56 := frA_tr hfr f_58 rfl
  have h_60 : (0 : Int) ≤ (t_56.1 0 30).toInt ∧ (t_56.1 0 30).toInt ≤ 120 := hok.1 0 30
  replace p_59 : (t_56.1 0 30).toInt = (t_42.1 0 30).toInt + (2 : Int32).toInt := p_59
  refine lv_aload_n C.1 C.2.1 dX12_sayParts_56 rfl (lv_at hl 0 rfl) ?_
  refine lv_bipush (v := 32) C.1 C.2.1 dX12_sayParts_57 (by decide) ?_
  refine g_Vv (As := [.int 32]) (rest := []) C hP hD hS hA (T_X12_say l D K Z Y ad t_56 hok 32 (show (t_56.1 0 30).toInt ≤ 119 from by omega)) hE hZ (uwV m_42_13 m_42_14 m_42_15 m_1_5 m_42_16) (hdV 1 (by decide +kernel) rfl) ⟨Nat.le_of_ble_eq_true rfl, Nat.le_of_ble_eq_true rfl⟩ rfl rfl (ci := 11) (q0 := 0) rfl rfl rfl hl.1 (Nat.le_of_ble_eq_true rfl) dX12_sayParts_59 ⟨Nat.le_of_ble_eq_true rfl, Nat.le_of_ble_eq_true rfl⟩ (fun t_61 H locs hw hP hD hS => ?_)
  obtain ⟨hok, f_63, p_64⟩ := hw
  have hfr : frA [(0, 30)] [] [14] [] t t_61 := frA_tr hfr f_63 rfl
  have h_65 : (0 : Int) ≤ (t_61.1 0 30).toInt ∧ (t_61.1 0 30).toInt ≤ 120 := hok.1 0 30
  replace p_64 : (t_61.1 0 30).toInt = (t_56.1 0 30).toInt + 1 := p_64
  refine lv_aload_n C.1 C.2.1 dX12_sayParts_62 rfl (lv_at hl 0 rfl) ?_
  refine lv_iload_n C.1 C.2.1 dX12_sayParts_63 rfl (lv_at hl 1 rfl) ?_
  refine lv_bipush (v := 63) C.1 C.2.1 dX12_sayParts_64 (by decide) ?_
  obtain ⟨v_66, e_67⟩ : ∃ z, z = (x1 : Int32) &&& (63 : Int32) := ⟨_, rfl⟩
  have h_68 : v_66.toInt = x1.toInt % 2 ^ 6 := by rw [e_67]; exact Jvm.Kit.i32_mask _ _ (k := 6) (by decide) (by decide)
  refine k_iand (v := v_66) C e_67.symm dX12_sayParts_66 ?_
  obtain ⟨v_69, e_70⟩ : ∃ z, z = (v_66 : Int32).toInt64 := ⟨_, rfl⟩
  have h_71 : v_69.toInt = v_66.toInt := by rw [e_70]; exact Jvm.Kit.i64_of_i32 _
  refine lv_i2l (v := v_69) C.1 C.2.1 dX12_sayParts_67 e_70.symm ?_
  refine lv_iconst (v := 2) C.1 C.2.1 dX12_sayParts_68 (by decide) ?_
  refine g_Vv (As := [.long v_69, .int 2]) (rest := []) C hP hD hS hA (T_X12_sayDigits l D K Z Y ad t_61 hok (v_69) 2 (show (1 : Int) ≤ (2 : Int32).toInt ∧ (2 : Int32).toInt ≤ 10 from ⟨by decide, by decide⟩) (show (t_61.1 0 30).toInt + (2 : Int32).toInt ≤ 120 from by omega) (show 1 ≤ (2 : Int32).toInt from by omega) (show (2 : Int32).toInt ≤ 10 from by omega)) hE hZ (uwV m_42_9 m_42_10 m_42_11 m_1_5 m_42_12) (hdV 2 (by decide +kernel) rfl) ⟨Nat.le_of_ble_eq_true rfl, Nat.le_of_ble_eq_true rfl⟩ rfl rfl (ci := 11) (q0 := 0) rfl rfl rfl hl.1 (Nat.le_of_ble_eq_true rfl) dX12_sayParts_69 ⟨Nat.le_of_ble_eq_true rfl, Nat.le_of_ble_eq_true rfl⟩ (fun t_72 H locs hw hP hD hS => ?_)
  obtain ⟨hok, f_74, p_75⟩ := hw
  have hfr : frA [(0, 30)] [] [14] [] t t_72 := frA_tr hfr f_74 rfl
  have h_76 : (0 : Int) ≤ (t_72.1 0 30).toInt ∧ (t_72.1 0 30).toInt ≤ 120 := hok.1 0 30
  replace p_75 : (t_72.1 0 30).toInt = (t_61.1 0 30).toInt + (2 : Int32).toInt := p_75
  refine lv_aload_n C.1 C.2.1 dX12_sayParts_72 rfl (lv_at hl 0 rfl) ?_
  refine lv_bipush (v := 32) C.1 C.2.1 dX12_sayParts_73 (by decide) ?_
  refine g_Vv (As := [.int 32]) (rest := []) C hP hD hS hA (T_X12_say l D K Z Y ad t_72 hok 32 (show (t_72.1 0 30).toInt ≤ 119 from by omega)) hE hZ (uwV m_42_13 m_42_14 m_42_15 m_1_5 m_42_16) (hdV 1 (by decide +kernel) rfl) ⟨Nat.le_of_ble_eq_true rfl, Nat.le_of_ble_eq_true rfl⟩ rfl rfl (ci := 11) (q0 := 0) rfl rfl rfl hl.1 (Nat.le_of_ble_eq_true rfl) dX12_sayParts_75 ⟨Nat.le_of_ble_eq_true rfl, Nat.le_of_ble_eq_true rfl⟩ (fun t_77 H locs hw hP hD hS => ?_)
  obtain ⟨hok, f_79, p_80⟩ := hw
  have hfr : frA [(0, 30)] [] [14] [] t t_77 := frA_tr hfr f_79 rfl
  have h_81 : (0 : Int) ≤ (t_77.1 0 30).toInt ∧ (t_77.1 0 30).toInt ≤ 120 := hok.1 0 30
  replace p_80 : (t_77.1 0 30).toInt = (t_72.1 0 30).toInt + 1 := p_80
  exact g_vret C hr hlocks hP hD hS t_77 rfl ⟨hok, hfr, (show (t_77.1 0 30).toInt = (t.1 0 30).toInt + 15 from by omega)⟩ (Nat.le_of_ble_eq_true rfl) (Nat.le_of_ble_eq_true rfl) dX12_sayParts_78

theorem dX12_areDigits_0 : decode cX12_areDigits 0 = .ok (.iload_n 2, 1) := by decide +kernel
theorem dX12_areDigits_1 : decode cX12_areDigits 1 = .ok (.istore 4, 2) := by decide +kernel
theorem dX12_areDigits_10 : decode cX12_areDigits 10 = .ok (.iload_n 1, 1) := by decide +kernel
theorem dX12_areDigits_11 : decode cX12_areDigits 11 = .ok (.iload 4, 2) := by decide +kernel
theorem dX12_areDigits_13 : decode cX12_areDigits 13 = .ok (.invokevirtual 725, 3) := by decide +kernel
theorem dX12_areDigits_16 : decode cX12_areDigits 16 = .ok (.invokestatic 455, 3) := by decide +kernel
theorem dX12_areDigits_19 : decode cX12_areDigits 19 = .ok (.ifCond .ne 5, 3) := by decide +kernel
theorem dX12_areDigits_22 : decode cX12_areDigits 22 = .ok (.iconst 0, 1) := by decide +kernel
theorem dX12_areDigits_23 : decode cX12_areDigits 23 = .ok (.ireturn, 1) := by decide +kernel
theorem dX12_areDigits_24 : decode cX12_areDigits 24 = .ok (.iinc 4 1, 3) := by decide +kernel
theorem dX12_areDigits_27 : decode cX12_areDigits 27 = .ok (.goto (-24), 3) := by decide +kernel
theorem dX12_areDigits_3 : decode cX12_areDigits 3 = .ok (.iload 4, 2) := by decide +kernel
theorem dX12_areDigits_30 : decode cX12_areDigits 30 = .ok (.iconst 1, 1) := by decide +kernel
theorem dX12_areDigits_31 : decode cX12_areDigits 31 = .ok (.ireturn, 1) := by decide +kernel
theorem dX12_areDigits_5 : decode cX12_areDigits 5 = .ok (.iload_n 3, 1) := by decide +kernel
theorem dX12_areDigits_6 : decode cX12_areDigits 6 = .ok (.if_icmp .ge 24, 3) := by decide +kernel
theorem dX12_areDigits_9 : decode cX12_areDigits 9 = .ok (.aload_n 0, 1) := by decide +kernel
set_option maxHeartbeats 4000000 in
set_option maxRecDepth 100000 in
theorem T_X12_areDigits (l : Launch) (D : va_G) (K : Nat → ClassId) (Z Y : Nat → Nat) (ad : Nat → Nat) (t : tSt) (hok : okM t) (x1 : Int32) (hx1 : (2 : Int) ≤ x1.toInt ∧ x1.toInt ≤ 1279) (x2 : Int32) (hx2 : (7 : Int) ≤ x2.toInt ∧ x2.toInt ≤ 72) (x3 : Int32) (hx3 : (11 : Int) ≤ x3.toInt ∧ x3.toInt ≤ 80) : tMet l yX12_areDigits cX12_areDigits 5 (some .boolean) (rmD 8 0 0) D K Z Y [.ref (ad 0), .int x1, .int x2, .int x3] (WM K ad t) (QI D K (fun (r : Int32) (u : Unit) => (0 : Int) ≤ r.toInt ∧ r.toInt ≤ 1 ∧ (r.toInt = 1 → ∀ c : Int32, x2.toInt ≤ c.toInt → c.toInt < x3.toInt → 48 ≤ (fDeck t x1 c).toInt ∧ (fDeck t x1 c).toInt ≤ 57)) (fun (_ : Unit) => WM K ad t)) 0 0 := by
  refine t_met RX12 ⟨rfl, by decide +kernel⟩ (Nat.le_of_ble_eq_true rfl) ?_
  intro p e s m below meth c A ls C hE hZ hr hlocks hA hP hD hS hl
  have hl : lv_has ls 5 [(0, .ref (ad 0)), (1, .int x1), (2, .int x2), (3, .int x3)] := hl
  have L_3 : ∀ (fuel_3 : Nat) (w3_4 : Int32) (H : Heap) (locs : List Loc) (ls : Array Slot), (7 : Int) ≤ w3_4.toInt ∧ w3_4.toInt ≤ 80 → (x2.toInt ≤ w3_4.toInt) → (∀ c : Int32, x2.toInt ≤ c.toInt → c.toInt < w3_4.toInt → 48 ≤ (fDeck t x1 c).toInt ∧ (fDeck t x1 c).toInt ≤ 57) → (80 : Int) - w3_4.toInt < (fuel_3 : Int) → va_P D vwCl (WM K ad t) H → va_D A (WM K ad t) → va_S A s.heap H locs → lv_has ls 5 [(0, .ref (ad 0)), (1, .int x1), (2, .int x2), (3, .int x3), (4, .int w3_4)] → W p l e (rmD 8 0 0) s m [.ref (ad 0), .int x1, .int x2, .int x3].toArray below meth c H locs 0 0 (MQ below (QI D K (fun (r : Int32) (u : Unit) => (0 : Int) ≤ r.toInt ∧ r.toInt ≤ 1 ∧ (r.toInt = 1 → ∀ c : Int32, x2.toInt ≤ c.toInt → c.toInt < x3.toInt → 48 ≤ (fDeck t x1 c).toInt ∧ (fDeck t x1 c).toInt ≤ 57)) (fun (_ : Unit) => WM K ad t) A) [.ref (ad 0), .int x1, .int x2, .int x3].toArray s 0 0 A) (F0 m 3 ls []) := by
    intro fuel_3
    induction fuel_3 with
    | zero =>
      intro w3_4 H locs ls hw3_4 hi3_0 hi3_1 hm3_3 hP hD hS hl
      exact absurd hm3_3 (by omega)
    | succ fuel_3 ih_3 =>
      intro w3_4 H locs ls hw3_4 hi3_0 hi3_1 hm3_3 hP hD hS hl
      have hm3_3 : (80 : Int) - w3_4.toInt < (fuel_3 : Int) + 1 := by omega
      refine lv_iload C.1 C.2.1 dX12_areDigits_3 (lv_at hl 4 rfl) ?_
      refine lv_iload_n C.1 C.2.1 dX12_areDigits_5 rfl (lv_at hl 3 rfl) ?_
      refine lv_icmp_ge (tgt := 30) C.1 C.2.1 dX12_areDigits_6 (by decide) (fun c_1 => ?_) (fun c_1 => ?_)
      · replace c_1 : x3.toInt ≤ w3_4.toInt := i_le c_1
        refine lv_iconst (v := 1) C.1 C.2.1 dX12_areDigits_30 (by decide) ?_
        exact g_iret C hr hlocks hP hD hS (by decide) () rfl ⟨by decide, by decide, (show 1 = 1 → ∀ c : Int32, x2.toInt ≤ c.toInt → c.toInt < x3.toInt → 48 ≤ (fDeck t x1 c).toInt ∧ (fDeck t x1 c).toInt ≤ 57 from by first | exact fun _ c h1 h2 => hi3_1 c h1 (by omega) | (intro h0; exfalso; omega))⟩ (Nat.le_of_ble_eq_true rfl) (Nat.le_of_ble_eq_true rfl) dX12_areDigits_31
      · replace c_1 : w3_4.toInt < x3.toInt := i_nle c_1
        refine lv_aload_n C.1 C.2.1 dX12_areDigits_9 rfl (lv_at hl 0 rfl) ?_
        refine lv_iload_n C.1 C.2.1 dX12_areDigits_10 rfl (lv_at hl 1 rfl) ?_
        refine lv_iload C.1 C.2.1 dX12_areDigits_11 (lv_at hl 4 rfl) ?_
        refine g_Vi (As := [.int x1, .int w3_4]) (rest := []) C hP hD hS hA (T_X12_deckLetter l D K Z Y ad t hok (x1) (show (0 : Int) ≤ (x1 : Int32).toInt ∧ (x1 : Int32).toInt ≤ 1280 from ⟨by omega, by omega⟩) (w3_4) (show (1 : Int) ≤ (w3_4 : Int32).toInt ∧ (w3_4 : Int32).toInt ≤ 200 from ⟨by omega, by omega⟩)) hE hZ (uwV m_79_6 m_79_7 m_79_8 m_1_5 m_79_9) (hdV 2 (by decide +kernel) rfl) ⟨Nat.le_of_ble_eq_true rfl, Nat.le_of_ble_eq_true rfl⟩ rfl rfl (ci := 11) (q0 := 0) rfl rfl rfl hl.1 (Nat.le_of_ble_eq_true rfl) dX12_areDigits_13 ⟨Nat.le_of_ble_eq_true rfl, Nat.le_of_ble_eq_true rfl⟩ (fun r_3 t_2 H locs hw hP hD hS => ?_)
        obtain ⟨h_5, h_6, p_7, p_8, p_9, p_10⟩ := hw
        replace p_7 : r_3 = fDeck t x1 w3_4 := p_7
        replace p_8 : r_3.toInt = (fDeck t x1 w3_4).toInt := p_8
        replace p_9 : ¬ r_3.toInt = 32 → (t.2.2.1 37 (x1 : Int32).toNatClampNeg).toInt + w3_4.toInt ≤ (t.2.2.1 38 (x1 : Int32).toNatClampNeg).toInt := p_9
        replace p_10 : 81 ≤ w3_4.toInt → r_3.toInt = 32 := p_10
        refine g_Si (As := [.int r_3]) (rest := []) C hP hD hS hA (T_X12_isDigit l D K Z Y ad t hok (r_3) (show (0 : Int) ≤ (r_3 : Int32).toInt ∧ (r_3 : Int32).toInt ≤ 255 from ⟨by omega, by omega⟩)) hE hZ (uwS m_32_15 m_32_16 m_1_5 m_32_17) (hdS 1 (by decide +kernel) rfl) ⟨Nat.le_of_ble_eq_true rfl, Nat.le_of_ble_eq_true rfl⟩ rfl rfl rfl hl.1 (Nat.le_of_ble_eq_true rfl) dX12_areDigits_16 ⟨Nat.le_of_ble_eq_true rfl, Nat.le_of_ble_eq_true rfl⟩ (fun r_12 t_11 H locs hw hP hD hS => ?_)
        obtain ⟨h_14, h_15, p_16⟩ := hw
        replace p_16 : r_12.toInt = 1 → 48 ≤ r_3.toInt ∧ r_3.toInt ≤ 57 := p_16
        refine lv_if_ne (tgt := 24) C.1 C.2.1 dX12_areDigits_19 (by decide) (fun c_17 => ?_) (fun c_17 => ?_)
        · replace c_17 : ¬ r_12.toInt = 0 := i_ne c_17
          obtain ⟨v_18, e_19⟩ : ∃ z, z = w3_4 + 1 := ⟨_, rfl⟩
          have h_20 : v_18.toInt = w3_4.toInt + 1 := by rw [e_19]; exact ti_iadd (by show (_ : Int) ≤ w3_4.toInt + 1; omega) (by show w3_4.toInt + 1 < (_ : Int); omega)
          refine lv_iinc (v := v_18) (lv' := [(4, .int v_18), (0, .ref (ad 0)), (1, .int x1), (2, .int x2), (3, .int x3)]) C.1 C.2.1 dX12_areDigits_24 hl (k := 4) rfl e_19.symm (by decide) rfl (fun ls hl => ?_)
          have hl : lv_has ls 5 [(0, .ref (ad 0)), (1, .int x1), (2, .int x2), (3, .int x3), (4, .int v_18)] := lv_sub hl [1, 2, 3, 4, 0] rfl
          refine lv_goto (tgt := 3) C.1 C.2.1 dX12_areDigits_27 (by decide) ?_
          exact ih_3 v_18 _ _ _ ⟨by omega, by omega⟩ (show x2.toInt ≤ v_18.toInt from by omega) (show ∀ c : Int32, x2.toInt ≤ c.toInt → c.toInt < v_18.toInt → 48 ≤ (fDeck t x1 c).toInt ∧ (fDeck t x1 c).toInt ≤ 57 from by intro c h1 h2; first | (exfalso; omega) | (rcases Int.lt_or_eq_of_le (show c.toInt ≤ w3_4.toInt from by omega) with h | h; exact hi3_1 c h1 h; have hcc : c = w3_4 := Int32.toInt_inj.mp h; subst hcc; omega)) (show (80 : Int) - v_18.toInt < (fuel_3 : Int) from by omega) hP hD hS (lv_sub hl [0, 1, 2, 3, 4] rfl)
        · replace c_17 : r_12.toInt = 0 := i_eq c_17
          refine lv_iconst (v := 0) C.1 C.2.1 dX12_areDigits_22 (by decide) ?_
          exact g_iret C hr hlocks hP hD hS (by decide) () rfl ⟨by decide, by decide, (show 0 = 1 → ∀ c : Int32, x2.toInt ≤ c.toInt → c.toInt < x3.toInt → 48 ≤ (fDeck t x1 c).toInt ∧ (fDeck t x1 c).toInt ≤ 57 from by first | exact fun _ c h1 h2 => hi3_1 c h1 (by omega) | (intro h0; exfalso; omega))⟩ (Nat.le_of_ble_eq_true rfl) (Nat.le_of_ble_eq_true rfl) dX12_areDigits_23
  refine lv_iload_n C.1 C.2.1 dX12_areDigits_0 rfl (lv_at hl 2 rfl) ?_
  refine lv_istore (lv' := [(4, .int x2), (0, .ref (ad 0)), (1, .int x1), (2, .int x2), (3, .int x3)]) C.1 C.2.1 dX12_areDigits_1 hl (by decide) rfl (fun ls hl => ?_)
  have hl : lv_has ls 5 [(0, .ref (ad 0)), (1, .int x1), (2, .int x2), (3, .int x3), (4, .int x2)] := lv_sub hl [1, 2, 3, 4, 0] rfl
  exact L_3 74 x2 _ _ _ ⟨by omega, by omega⟩ (show x2.toInt ≤ x2.toInt from by omega) (show ∀ c : Int32, x2.toInt ≤ c.toInt → c.toInt < x2.toInt → 48 ≤ (fDeck t x1 c).toInt ∧ (fDeck t x1 c).toInt ≤ 57 from by intro c h1 h2; first | (exfalso; omega) | (rcases Int.lt_or_eq_of_le (show c.toInt ≤ w3_4.toInt from by omega) with h | h; exact hi3_1 c h1 h; have hcc : c = w3_4 := Int32.toInt_inj.mp h; subst hcc; omega)) (show (80 : Int) - x2.toInt < ((74 : Nat) : Int) from by omega) hP hD hS (lv_sub hl [0, 1, 2, 3, 4] rfl)

theorem dX12_endOf_0 : decode cX12_endOf 0 = .ok (.iload_n 1, 1) := by decide +kernel
theorem dX12_endOf_1 : decode cX12_endOf 1 = .ok (.istore_n 3, 1) := by decide +kernel
theorem dX12_endOf_12 : decode cX12_endOf 12 = .ok (.bipush 32, 2) := by decide +kernel
theorem dX12_endOf_14 : decode cX12_endOf 14 = .ok (.if_icmp .eq 9, 3) := by decide +kernel
theorem dX12_endOf_17 : decode cX12_endOf 17 = .ok (.iinc 3 1, 3) := by decide +kernel
theorem dX12_endOf_2 : decode cX12_endOf 2 = .ok (.iload_n 3, 1) := by decide +kernel
theorem dX12_endOf_20 : decode cX12_endOf 20 = .ok (.goto (-18), 3) := by decide +kernel
theorem dX12_endOf_23 : decode cX12_endOf 23 = .ok (.iload_n 3, 1) := by decide +kernel
theorem dX12_endOf_24 : decode cX12_endOf 24 = .ok (.iload_n 1, 1) := by decide +kernel
theorem dX12_endOf_25 : decode cX12_endOf 25 = .ok (.if_icmp .eq 12, 3) := by decide +kernel
theorem dX12_endOf_28 : decode cX12_endOf 28 = .ok (.aload_n 0, 1) := by decide +kernel
theorem dX12_endOf_29 : decode cX12_endOf 29 = .ok (.iload_n 3, 1) := by decide +kernel
theorem dX12_endOf_3 : decode cX12_endOf 3 = .ok (.iload_n 2, 1) := by decide +kernel
theorem dX12_endOf_30 : decode cX12_endOf 30 = .ok (.iload_n 2, 1) := by decide +kernel
theorem dX12_endOf_31 : decode cX12_endOf 31 = .ok (.invokevirtual 449, 3) := by decide +kernel
theorem dX12_endOf_34 : decode cX12_endOf 34 = .ok (.ifCond .ne 7, 3) := by decide +kernel
theorem dX12_endOf_37 : decode cX12_endOf 37 = .ok (.iconst 0, 1) := by decide +kernel
theorem dX12_endOf_38 : decode cX12_endOf 38 = .ok (.goto 4, 3) := by decide +kernel
theorem dX12_endOf_4 : decode cX12_endOf 4 = .ok (.if_icmp .gt 19, 3) := by decide +kernel
theorem dX12_endOf_41 : decode cX12_endOf 41 = .ok (.iload_n 3, 1) := by decide +kernel
theorem dX12_endOf_42 : decode cX12_endOf 42 = .ok (.ireturn, 1) := by decide +kernel
theorem dX12_endOf_7 : decode cX12_endOf 7 = .ok (.aload_n 0, 1) := by decide +kernel
theorem dX12_endOf_8 : decode cX12_endOf 8 = .ok (.iload_n 3, 1) := by decide +kernel
theorem dX12_endOf_9 : decode cX12_endOf 9 = .ok (.invokevirtual 446, 3) := by decide +kernel
set_option maxHeartbeats 4000000 in
set_option maxRecDepth 100000 in
theorem T_X12_endOf (l : Launch) (D : va_G) (K : Nat → ClassId) (Z Y : Nat → Nat) (ad : Nat → Nat) (t : tSt) (hok : okM t) (x1 : Int32) (hx1 : (1 : Int) ≤ x1.toInt ∧ x1.toInt ≤ 15) (x2 : Int32) (hx2 : (10 : Int) ≤ x2.toInt ∧ x2.toInt ≤ 15) (hs0 : x2.toInt ≤ 15) : tMet l yX12_endOf cX12_endOf 4 (some .int) (rmD 9 0 0) D K Z Y [.ref (ad 0), .int x1, .int x2] (WM K ad t) (QI D K (fun (r : Int32) (u : Unit) => (0 : Int) ≤ r.toInt ∧ r.toInt ≤ 16) (fun (_ : Unit) => WM K ad t)) 0 0 := by
  refine t_met RX12 ⟨rfl, by decide +kernel⟩ (Nat.le_of_ble_eq_true rfl) ?_
  intro p e s m below meth c A ls C hE hZ hr hlocks hA hP hD hS hl
  have hl : lv_has ls 4 [(0, .ref (ad 0)), (1, .int x1), (2, .int x2)] := hl
  have h_1 : (0 : Int) ≤ (t.1 0 67).toInt ∧ (t.1 0 67).toInt ≤ 1281 := hok.1 0 67
  have L_23 : ∀ (w23_3 : Int32) (H : Heap) (locs : List Loc) (ls : Array Slot), (1 : Int) ≤ w23_3.toInt ∧ w23_3.toInt ≤ 16 → (x1.toInt ≤ w23_3.toInt) → (w23_3.toInt ≤ x2.toInt + 1 ∨ w23_3.toInt = x1.toInt) → va_P D vwCl (WM K ad t) H → va_D A (WM K ad t) → va_S A s.heap H locs → lv_has ls 4 [(0, .ref (ad 0)), (1, .int x1), (2, .int x2), (3, .int w23_3)] → W p l e (rmD 9 0 0) s m [.ref (ad 0), .int x1, .int x2].toArray below meth c H locs 0 0 (MQ below (QI D K (fun (r : Int32) (u : Unit) => (0 : Int) ≤ r.toInt ∧ r.toInt ≤ 16) (fun (_ : Unit) => WM K ad t) A) [.ref (ad 0), .int x1, .int x2].toArray s 0 0 A) (F0 m 23 ls []) := by
    intro w23_3 H locs ls hw23_3 hi23_0 hi23_1 hP hD hS hl
    have h_2 : (0 : Int) ≤ (t.1 0 67).toInt ∧ (t.1 0 67).toInt ≤ 1281 := hok.1 0 67
    refine lv_iload_n C.1 C.2.1 dX12_endOf_23 rfl (lv_at hl 3 rfl) ?_
    refine lv_iload_n C.1 C.2.1 dX12_endOf_24 rfl (lv_at hl 1 rfl) ?_
    refine lv_icmp_eq (tgt := 37) C.1 C.2.1 dX12_endOf_25 (by decide) (fun c_3 => ?_) (fun c_3 => ?_)
    · replace c_3 : w23_3.toInt = x1.toInt := i_eq c_3
      refine lv_iconst (v := 0) C.1 C.2.1 dX12_endOf_37 (by decide) ?_
      refine lv_goto (tgt := 42) C.1 C.2.1 dX12_endOf_38 (by decide) ?_
      exact g_iret C hr hlocks hP hD hS rfl () rfl ⟨by decide, by decide⟩ (Nat.le_of_ble_eq_true rfl) (Nat.le_of_ble_eq_true rfl) dX12_endOf_42
    · replace c_3 : ¬ w23_3.toInt = x1.toInt := i_ne c_3
      refine lv_aload_n C.1 C.2.1 dX12_endOf_28 rfl (lv_at hl 0 rfl) ?_
      refine lv_iload_n C.1 C.2.1 dX12_endOf_29 rfl (lv_at hl 3 rfl) ?_
      refine lv_iload_n C.1 C.2.1 dX12_endOf_30 rfl (lv_at hl 2 rfl) ?_
      refine g_Vi (As := [.int w23_3, .int x2]) (rest := []) C hP hD hS hA (T_X12_isBlank l D K Z Y ad t hok (w23_3) (show (1 : Int) ≤ (w23_3 : Int32).toInt ∧ (w23_3 : Int32).toInt ≤ 16 from ⟨by omega, by omega⟩) (x2) (show (10 : Int) ≤ (x2 : Int32).toInt ∧ (x2 : Int32).toInt ≤ 15 from ⟨by omega, by omega⟩)) hE hZ (uwV m_31_20 m_31_21 m_31_22 m_1_5 m_31_23) (hdV 2 (by decide +kernel) rfl) ⟨Nat.le_of_ble_eq_true rfl, Nat.le_of_ble_eq_true rfl⟩ rfl rfl (ci := 11) (q0 := 0) rfl rfl rfl hl.1 (Nat.le_of_ble_eq_true rfl) dX12_endOf_31 ⟨Nat.le_of_ble_eq_true rfl, Nat.le_of_ble_eq_true rfl⟩ (fun r_5 t_4 H locs hw hP hD hS => ?_)
      obtain ⟨h_7, h_8, p_9⟩ := hw
      replace p_9 : r_5.toInt = 0 → (t.2.2.1 19 ((t.1 0 67) : Int32).toNatClampNeg).toInt + w23_3.toInt ≤ (t.2.2.1 20 ((t.1 0 67) : Int32).toNatClampNeg).toInt := p_9
      refine lv_if_ne (tgt := 41) C.1 C.2.1 dX12_endOf_34 (by decide) (fun c_10 => ?_) (fun c_10 => ?_)
      · replace c_10 : ¬ r_5.toInt = 0 := i_ne c_10
        refine lv_iload_n C.1 C.2.1 dX12_endOf_41 rfl (lv_at hl 3 rfl) ?_
        exact g_iret C hr hlocks hP hD hS rfl () rfl ⟨by omega, by omega⟩ (Nat.le_of_ble_eq_true rfl) (Nat.le_of_ble_eq_true rfl) dX12_endOf_42
      · replace c_10 : r_5.toInt = 0 := i_eq c_10
        refine lv_iconst (v := 0) C.1 C.2.1 dX12_endOf_37 (by decide) ?_
        refine lv_goto (tgt := 42) C.1 C.2.1 dX12_endOf_38 (by decide) ?_
        exact g_iret C hr hlocks hP hD hS rfl () rfl ⟨by decide, by decide⟩ (Nat.le_of_ble_eq_true rfl) (Nat.le_of_ble_eq_true rfl) dX12_endOf_42
  have L_2 : ∀ (fuel_2 : Nat) (w2_3 : Int32) (H : Heap) (locs : List Loc) (ls : Array Slot), (1 : Int) ≤ w2_3.toInt ∧ w2_3.toInt ≤ 16 → (x1.toInt ≤ w2_3.toInt) → (w2_3.toInt ≤ x2.toInt + 1 ∨ w2_3.toInt = x1.toInt) → (16 : Int) - w2_3.toInt < (fuel_2 : Int) → va_P D vwCl (WM K ad t) H → va_D A (WM K ad t) → va_S A s.heap H locs → lv_has ls 4 [(0, .ref (ad 0)), (1, .int x1), (2, .int x2), (3, .int w2_3)] → W p l e (rmD 9 0 0) s m [.ref (ad 0), .int x1, .int x2].toArray below meth c H locs 0 0 (MQ below (QI D K (fun (r : Int32) (u : Unit) => (0 : Int) ≤ r.toInt ∧ r.toInt ≤ 16) (fun (_ : Unit) => WM K ad t) A) [.ref (ad 0), .int x1, .int x2].toArray s 0 0 A) (F0 m 2 ls []) := by
    intro fuel_2
    induction fuel_2 with
    | zero =>
      intro w2_3 H locs ls hw2_3 hi2_0 hi2_1 hm2_2 hP hD hS hl
      have h_11 : (0 : Int) ≤ (t.1 0 67).toInt ∧ (t.1 0 67).toInt ≤ 1281 := hok.1 0 67
      exact absurd hm2_2 (by omega)
    | succ fuel_2 ih_2 =>
      intro w2_3 H locs ls hw2_3 hi2_0 hi2_1 hm2_2 hP hD hS hl
      have hm2_2 : (16 : Int) - w2_3.toInt < (fuel_2 : Int) + 1 := by omega
      have h_12 : (0 : Int) ≤ (t.1 0 67).toInt ∧ (t.1 0 67).toInt ≤ 1281 := hok.1 0 67
      refine lv_iload_n C.1 C.2.1 dX12_endOf_2 rfl (lv_at hl 3 rfl) ?_
      refine lv_iload_n C.1 C.2.1 dX12_endOf_3 rfl (lv_at hl 2 rfl) ?_
      refine lv_icmp_gt (tgt := 23) C.1 C.2.1 dX12_endOf_4 (by decide) (fun c_13 => ?_) (fun c_13 => ?_)
      · replace c_13 : x2.toInt < w2_3.toInt := i_lt c_13
        exact L_23 w2_3 _ _ _ ⟨by omega, by omega⟩ (show x1.toInt ≤ w2_3.toInt from by omega) (show w2_3.toInt ≤ x2.toInt + 1 ∨ w2_3.toInt = x1.toInt from by omega) hP hD hS (lv_sub hl [0, 1, 2, 3] rfl)
      · replace c_13 : w2_3.toInt ≤ x2.toInt := i_nlt c_13
        refine lv_aload_n C.1 C.2.1 dX12_endOf_7 rfl (lv_at hl 0 rfl) ?_
        refine lv_iload_n C.1 C.2.1 dX12_endOf_8 rfl (lv_at hl 3 rfl) ?_
        refine g_Vi (As := [.int w2_3]) (rest := []) C hP hD hS hA (T_X12_letterAt l D K Z Y ad t hok (w2_3) (show (1 : Int) ≤ (w2_3 : Int32).toInt ∧ (w2_3 : Int32).toInt ≤ 100 from ⟨by omega, by omega⟩)) hE hZ (uwV m_31_8 m_31_9 m_31_10 m_1_5 m_31_11) (hdV 1 (by decide +kernel) rfl) ⟨Nat.le_of_ble_eq_true rfl, Nat.le_of_ble_eq_true rfl⟩ rfl rfl (ci := 11) (q0 := 0) rfl rfl rfl hl.1 (Nat.le_of_ble_eq_true rfl) dX12_endOf_9 ⟨Nat.le_of_ble_eq_true rfl, Nat.le_of_ble_eq_true rfl⟩ (fun r_15 t_14 H locs hw hP hD hS => ?_)
        obtain ⟨h_17, h_18, p_19, p_20, p_21, p_22⟩ := hw
        replace p_19 : r_15 = fLet t w2_3 := p_19
        replace p_20 : r_15.toInt = (fLet t w2_3).toInt := p_20
        replace p_21 : ¬ r_15.toInt = 32 → (t.2.2.1 19 ((t.1 0 67) : Int32).toNatClampNeg).toInt + w2_3.toInt ≤ (t.2.2.1 20 ((t.1 0 67) : Int32).toNatClampNeg).toInt := p_21
        replace p_22 : 81 ≤ w2_3.toInt → r_15.toInt = 32 := p_22
        refine lv_bipush (v := 32) C.1 C.2.1 dX12_endOf_12 (by decide) ?_
        refine lv_icmp_eq (tgt := 23) C.1 C.2.1 dX12_endOf_14 (by decide) (fun c_23 => ?_) (fun c_23 => ?_)
        · replace c_23 : r_15.toInt = 32 := i_eq c_23
          exact L_23 w2_3 _ _ _ ⟨by omega, by omega⟩ (show x1.toInt ≤ w2_3.toInt from by omega) (show w2_3.toInt ≤ x2.toInt + 1 ∨ w2_3.toInt = x1.toInt from by omega) hP hD hS (lv_sub hl [0, 1, 2, 3] rfl)
        · replace c_23 : ¬ r_15.toInt = 32 := i_ne c_23
          obtain ⟨v_24, e_25⟩ : ∃ z, z = w2_3 + 1 := ⟨_, rfl⟩
          have h_26 : v_24.toInt = w2_3.toInt + 1 := by rw [e_25]; exact ti_iadd (by show (_ : Int) ≤ w2_3.toInt + 1; omega) (by show w2_3.toInt + 1 < (_ : Int); omega)
          refine lv_iinc (v := v_24) (lv' := [(3, .int v_24), (0, .ref (ad 0)), (1, .int x1), (2, .int x2)]) C.1 C.2.1 dX12_endOf_17 hl (k := 3) rfl e_25.symm (by decide) rfl (fun ls hl => ?_)
          have hl : lv_has ls 4 [(0, .ref (ad 0)), (1, .int x1), (2, .int x2), (3, .int v_24)] := lv_sub hl [1, 2, 3, 0] rfl
          refine lv_goto (tgt := 2) C.1 C.2.1 dX12_endOf_20 (by decide) ?_
          exact ih_2 v_24 _ _ _ ⟨by omega, by omega⟩ (show x1.toInt ≤ v_24.toInt from by omega) (show v_24.toInt ≤ x2.toInt + 1 ∨ v_24.toInt = x1.toInt from by omega) (show (16 : Int) - v_24.toInt < (fuel_2 : Int) from by omega) hP hD hS (lv_sub hl [0, 1, 2, 3] rfl)
  refine lv_iload_n C.1 C.2.1 dX12_endOf_0 rfl (lv_at hl 1 rfl) ?_
  refine lv_istore_n (lv' := [(3, .int x1), (0, .ref (ad 0)), (1, .int x1), (2, .int x2)]) C.1 C.2.1 dX12_endOf_1 rfl hl (by decide) rfl (fun ls hl => ?_)
  have hl : lv_has ls 4 [(0, .ref (ad 0)), (1, .int x1), (2, .int x2), (3, .int x1)] := lv_sub hl [1, 2, 3, 0] rfl
  exact L_2 16 x1 _ _ _ ⟨by omega, by omega⟩ (show x1.toInt ≤ x1.toInt from by omega) (show x1.toInt ≤ x2.toInt + 1 ∨ x1.toInt = x1.toInt from by omega) (show (16 : Int) - x1.toInt < ((16 : Nat) : Int) from by omega) hP hD hS (lv_sub hl [0, 1, 2, 3] rfl)

theorem dX12_operation_0 : decode cX12_operation 0 = .ok (.iconst 0, 1) := by decide +kernel
theorem dX12_operation_1 : decode cX12_operation 1 = .ok (.istore_n 3, 1) := by decide +kernel
theorem dX12_operation_10 : decode cX12_operation 10 = .ok (.iconst 1, 1) := by decide +kernel
theorem dX12_operation_11 : decode cX12_operation 11 = .ok (.istore 4, 2) := by decide +kernel
theorem dX12_operation_13 : decode cX12_operation 13 = .ok (.iconst 0, 1) := by decide +kernel
theorem dX12_operation_14 : decode cX12_operation 14 = .ok (.istore 5, 2) := by decide +kernel
theorem dX12_operation_16 : decode cX12_operation 16 = .ok (.iload 5, 2) := by decide +kernel
theorem dX12_operation_18 : decode cX12_operation 18 = .ok (.iconst 4, 1) := by decide +kernel
theorem dX12_operation_19 : decode cX12_operation 19 = .ok (.if_icmp .ge 51, 3) := by decide +kernel
theorem dX12_operation_2 : decode cX12_operation 2 = .ok (.iload_n 3, 1) := by decide +kernel
theorem dX12_operation_22 : decode cX12_operation 22 = .ok (.iload 4, 2) := by decide +kernel
theorem dX12_operation_24 : decode cX12_operation 24 = .ok (.ifCond .eq 37, 3) := by decide +kernel
theorem dX12_operation_27 : decode cX12_operation 27 = .ok (.iload_n 3, 1) := by decide +kernel
theorem dX12_operation_28 : decode cX12_operation 28 = .ok (.iload 5, 2) := by decide +kernel
theorem dX12_operation_3 : decode cX12_operation 3 = .ok (.getstatic 563, 3) := by decide +kernel
theorem dX12_operation_30 : decode cX12_operation 30 = .ok (.invokestatic 566, 3) := by decide +kernel
theorem dX12_operation_33 : decode cX12_operation 33 = .ok (.iload_n 1, 1) := by decide +kernel
theorem dX12_operation_34 : decode cX12_operation 34 = .ok (.iload 5, 2) := by decide +kernel
theorem dX12_operation_36 : decode cX12_operation 36 = .ok (.iadd, 1) := by decide +kernel
theorem dX12_operation_37 : decode cX12_operation 37 = .ok (.iload_n 2, 1) := by decide +kernel
theorem dX12_operation_38 : decode cX12_operation 38 = .ok (.if_icmp .ge 14, 3) := by decide +kernel
theorem dX12_operation_41 : decode cX12_operation 41 = .ok (.aload_n 0, 1) := by decide +kernel
theorem dX12_operation_42 : decode cX12_operation 42 = .ok (.iload_n 1, 1) := by decide +kernel
theorem dX12_operation_43 : decode cX12_operation 43 = .ok (.iload 5, 2) := by decide +kernel
theorem dX12_operation_45 : decode cX12_operation 45 = .ok (.iadd, 1) := by decide +kernel
theorem dX12_operation_46 : decode cX12_operation 46 = .ok (.invokevirtual 446, 3) := by decide +kernel
theorem dX12_operation_49 : decode cX12_operation 49 = .ok (.goto 5, 3) := by decide +kernel
theorem dX12_operation_52 : decode cX12_operation 52 = .ok (.bipush 32, 2) := by decide +kernel
theorem dX12_operation_54 : decode cX12_operation 54 = .ok (.if_icmp .ne 7, 3) := by decide +kernel
theorem dX12_operation_57 : decode cX12_operation 57 = .ok (.iconst 1, 1) := by decide +kernel
theorem dX12_operation_58 : decode cX12_operation 58 = .ok (.goto 4, 3) := by decide +kernel
theorem dX12_operation_6 : decode cX12_operation 6 = .ok (.arraylength, 1) := by decide +kernel
theorem dX12_operation_61 : decode cX12_operation 61 = .ok (.iconst 0, 1) := by decide +kernel
theorem dX12_operation_62 : decode cX12_operation 62 = .ok (.istore 4, 2) := by decide +kernel
theorem dX12_operation_64 : decode cX12_operation 64 = .ok (.iinc 5 1, 3) := by decide +kernel
theorem dX12_operation_67 : decode cX12_operation 67 = .ok (.goto (-51), 3) := by decide +kernel
theorem dX12_operation_7 : decode cX12_operation 7 = .ok (.if_icmp .ge 80, 3) := by decide +kernel
theorem dX12_operation_70 : decode cX12_operation 70 = .ok (.iload 4, 2) := by decide +kernel
theorem dX12_operation_72 : decode cX12_operation 72 = .ok (.ifCond .eq 9, 3) := by decide +kernel
theorem dX12_operation_75 : decode cX12_operation 75 = .ok (.getstatic 563, 3) := by decide +kernel
theorem dX12_operation_78 : decode cX12_operation 78 = .ok (.iload_n 3, 1) := by decide +kernel
theorem dX12_operation_79 : decode cX12_operation 79 = .ok (.iaload, 1) := by decide +kernel
theorem dX12_operation_80 : decode cX12_operation 80 = .ok (.ireturn, 1) := by decide +kernel
theorem dX12_operation_81 : decode cX12_operation 81 = .ok (.iinc 3 1, 3) := by decide +kernel
theorem dX12_operation_84 : decode cX12_operation 84 = .ok (.goto (-82), 3) := by decide +kernel
theorem dX12_operation_87 : decode cX12_operation 87 = .ok (.iconst (-1), 1) := by decide +kernel
theorem dX12_operation_88 : decode cX12_operation 88 = .ok (.ireturn, 1) := by decide +kernel
set_option maxHeartbeats 4000000 in
set_option maxRecDepth 100000 in
theorem T_X12_operation (l : Launch) (D : va_G) (K : Nat → ClassId) (Z Y : Nat → Nat) (ad : Nat → Nat) (t : tSt) (hok : okM t) (x1 : Int32) (hx1 : (12 : Int) ≤ x1.toInt ∧ x1.toInt ≤ 12) (x2 : Int32) (hx2 : (0 : Int) ≤ x2.toInt ∧ x2.toInt ≤ 16) (hs0 : 12 ≤ x1.toInt) (hs1 : x1.toInt ≤ 12) : tMet l yX12_operation cX12_operation 6 (some .int) (rmD 8 0 0) D K Z Y [.ref (ad 0), .int x1, .int x2] (WM K ad t) (QI D K (fun (r : Int32) (u : Unit) => (-1 : Int) ≤ r.toInt ∧ r.toInt ≤ 6000) (fun (_ : Unit) => WM K ad t)) 0 0 := by
  refine t_met RX12 ⟨rfl, by decide +kernel⟩ (Nat.le_of_ble_eq_true rfl) ?_
  intro p e s m below meth c A ls C hE hZ hr hlocks hA hP hD hS hl
  have hl : lv_has ls 6 [(0, .ref (ad 0)), (1, .int x1), (2, .int x2)] := hl
  have h_1 : (0 : Int) ≤ (t.1 0 67).toInt ∧ (t.1 0 67).toInt ≤ 1281 := hok.1 0 67
  have L_2 : ∀ (fuel_2 : Nat) (w2_3 : Int32) (H : Heap) (locs : List Loc) (ls : Array Slot), (0 : Int) ≤ w2_3.toInt ∧ w2_3.toInt ≤ 256 → (256 : Int) - w2_3.toInt < (fuel_2 : Int) → va_P D vwCl (WM K ad t) H → va_D A (WM K ad t) → va_S A s.heap H locs → lv_has ls 6 [(0, .ref (ad 0)), (1, .int x1), (2, .int x2), (3, .int w2_3)] → W p l e (rmD 8 0 0) s m [.ref (ad 0), .int x1, .int x2].toArray below meth c H locs 0 0 (MQ below (QI D K (fun (r : Int32) (u : Unit) => (-1 : Int) ≤ r.toInt ∧ r.toInt ≤ 6000) (fun (_ : Unit) => WM K ad t) A) [.ref (ad 0), .int x1, .int x2].toArray s 0 0 A) (F0 m 2 ls []) := by
    intro fuel_2
    induction fuel_2 with
    | zero =>
      intro w2_3 H locs ls hw2_3 hm2_2 hP hD hS hl
      have h_2 : (0 : Int) ≤ (t.1 0 67).toInt ∧ (t.1 0 67).toInt ≤ 1281 := hok.1 0 67
      exact absurd hm2_2 (by omega)
    | succ fuel_2 ih_2 =>
      intro w2_3 H locs ls hw2_3 hm2_2 hP hD hS hl
      have hm2_2 : (256 : Int) - w2_3.toInt < (fuel_2 : Int) + 1 := by omega
      have h_3 : (0 : Int) ≤ (t.1 0 67).toInt ∧ (t.1 0 67).toInt ≤ 1281 := hok.1 0 67
      have L_16 : ∀ (fuel_16 : Nat) (w16_3 : Int32) (w16_4 : Int32) (w16_5 : Int32) (H : Heap) (locs : List Loc) (ls : Array Slot), (0 : Int) ≤ w16_3.toInt ∧ w16_3.toInt ≤ 255 → (0 : Int) ≤ w16_4.toInt ∧ w16_4.toInt ≤ 1 → (0 : Int) ≤ w16_5.toInt ∧ w16_5.toInt ≤ 4 → (w16_3.toInt ≤ 156) → (256 : Int) - w16_3.toInt < (fuel_2 : Int) + 1 → (4 : Int) - w16_5.toInt < (fuel_16 : Int) → va_P D vwCl (WM K ad t) H → va_D A (WM K ad t) → va_S A s.heap H locs → lv_has ls 6 [(0, .ref (ad 0)), (1, .int x1), (2, .int x2), (3, .int w16_3), (4, .int w16_4), (5, .int w16_5)] → W p l e (rmD 8 0 0) s m [.ref (ad 0), .int x1, .int x2].toArray below meth c H locs 0 0 (MQ below (QI D K (fun (r : Int32) (u : Unit) => (-1 : Int) ≤ r.toInt ∧ r.toInt ≤ 6000) (fun (_ : Unit) => WM K ad t) A) [.ref (ad 0), .int x1, .int x2].toArray s 0 0 A) (F0 m 16 ls []) := by
        intro fuel_16
        induction fuel_16 with
        | zero =>
          intro w16_3 w16_4 w16_5 H locs ls hw16_3 hw16_4 hw16_5 hi16_0 hm16_2 hm16_16 hP hD hS hl
          have h_4 : (0 : Int) ≤ (t.1 0 67).toInt ∧ (t.1 0 67).toInt ≤ 1281 := hok.1 0 67
          exact absurd hm16_16 (by omega)
        | succ fuel_16 ih_16 =>
          intro w16_3 w16_4 w16_5 H locs ls hw16_3 hw16_4 hw16_5 hi16_0 hm16_2 hm16_16 hP hD hS hl
          have hm16_16 : (4 : Int) - w16_5.toInt < (fuel_16 : Int) + 1 := by omega
          have h_5 : (0 : Int) ≤ (t.1 0 67).toInt ∧ (t.1 0 67).toInt ≤ 1281 := hok.1 0 67
          have L_62 : ∀ (w62_3 : Int32) (w62_4 : Int32) (w62_5 : Int32) (k62_0 : Int32) (H : Heap) (locs : List Loc) (ls : Array Slot), (0 : Int) ≤ w62_3.toInt ∧ w62_3.toInt ≤ 255 → (0 : Int) ≤ w62_4.toInt ∧ w62_4.toInt ≤ 1 → (0 : Int) ≤ w62_5.toInt ∧ w62_5.toInt ≤ 3 → (0 : Int) ≤ k62_0.toInt ∧ k62_0.toInt ≤ 1 → (w62_3.toInt ≤ 156) → (256 : Int) - w62_3.toInt < (fuel_2 : Int) + 1 → (4 : Int) - w62_5.toInt < (fuel_16 : Int) + 1 → va_P D vwCl (WM K ad t) H → va_D A (WM K ad t) → va_S A s.heap H locs → lv_has ls 6 [(0, .ref (ad 0)), (1, .int x1), (2, .int x2), (3, .int w62_3), (4, .int w62_4), (5, .int w62_5)] → W p l e (rmD 8 0 0) s m [.ref (ad 0), .int x1, .int x2].toArray below meth c H locs 0 0 (MQ below (QI D K (fun (r : Int32) (u : Unit) => (-1 : Int) ≤ r.toInt ∧ r.toInt ≤ 6000) (fun (_ : Unit) => WM K ad t) A) [.ref (ad 0), .int x1, .int x2].toArray s 0 0 A) (F0 m 62 ls [.int k62_0]) := by
            intro w62_3 w62_4 w62_5 k62_0 H locs ls hw62_3 hw62_4 hw62_5 hk62_0 hi62_0 hm62_2 hm62_16 hP hD hS hl
            have h_6 : (0 : Int) ≤ (t.1 0 67).toInt ∧ (t.1 0 67).toInt ≤ 1281 := hok.1 0 67
            refine lv_istore (lv' := [(4, .int k62_0), (0, .ref (ad 0)), (1, .int x1), (2, .int x2), (3, .int w62_3), (5, .int w62_5)]) C.1 C.2.1 dX12_operation_62 hl (by decide) rfl (fun ls hl => ?_)
            have hl : lv_has ls 6 [(0, .ref (ad 0)), (1, .int x1), (2, .int x2), (3, .int w62_3), (4, .int k62_0), (5, .int w62_5)] := lv_sub hl [1, 2, 3, 4, 0, 5] rfl
            obtain ⟨v_7, e_8⟩ : ∃ z, z = w62_5 + 1 := ⟨_, rfl⟩
            have h_9 : v_7.toInt = w62_5.toInt + 1 := by rw [e_8]; exact ti_iadd (by show (_ : Int) ≤ w62_5.toInt + 1; omega) (by show w62_5.toInt + 1 < (_ : Int); omega)
            refine lv_iinc (v := v_7) (lv' := [(5, .int v_7), (0, .ref (ad 0)), (1, .int x1), (2, .int x2), (3, .int w62_3), (4, .int k62_0)]) C.1 C.2.1 dX12_operation_64 hl (k := 5) rfl e_8.symm (by decide) rfl (fun ls hl => ?_)
            have hl : lv_has ls 6 [(0, .ref (ad 0)), (1, .int x1), (2, .int x2), (3, .int w62_3), (4, .int k62_0), (5, .int v_7)] := lv_sub hl [1, 2, 3, 4, 5, 0] rfl
            refine lv_goto (tgt := 16) C.1 C.2.1 dX12_operation_67 (by decide) ?_
            exact ih_16 w62_3 k62_0 v_7 _ _ _ ⟨by omega, by omega⟩ ⟨by omega, by omega⟩ ⟨by omega, by omega⟩ (show w62_3.toInt ≤ 156 from by omega) (show (256 : Int) - w62_3.toInt < (fuel_2 : Int) + 1 from by omega) (show (4 : Int) - v_7.toInt < (fuel_16 : Int) from by omega) hP hD hS (lv_sub hl [0, 1, 2, 3, 4, 5] rfl)
          have L_61 : ∀ (w61_3 : Int32) (w61_4 : Int32) (w61_5 : Int32) (H : Heap) (locs : List Loc) (ls : Array Slot), (0 : Int) ≤ w61_3.toInt ∧ w61_3.toInt ≤ 255 → (0 : Int) ≤ w61_4.toInt ∧ w61_4.toInt ≤ 1 → (0 : Int) ≤ w61_5.toInt ∧ w61_5.toInt ≤ 3 → (w61_3.toInt ≤ 156) → (256 : Int) - w61_3.toInt < (fuel_2 : Int) + 1 → (4 : Int) - w61_5.toInt < (fuel_16 : Int) + 1 → va_P D vwCl (WM K ad t) H → va_D A (WM K ad t) → va_S A s.heap H locs → lv_has ls 6 [(0, .ref (ad 0)), (1, .int x1), (2, .int x2), (3, .int w61_3), (4, .int w61_4), (5, .int w61_5)] → W p l e (rmD 8 0 0) s m [.ref (ad 0), .int x1, .int x2].toArray below meth c H locs 0 0 (MQ below (QI D K (fun (r : Int32) (u : Unit) => (-1 : Int) ≤ r.toInt ∧ r.toInt ≤ 6000) (fun (_ : Unit) => WM K ad t) A) [.ref (ad 0), .int x1, .int x2].toArray s 0 0 A) (F0 m 61 ls []) := by
            intro w61_3 w61_4 w61_5 H locs ls hw61_3 hw61_4 hw61_5 hi61_0 hm61_2 hm61_16 hP hD hS hl
            have h_10 : (0 : Int) ≤ (t.1 0 67).toInt ∧ (t.1 0 67).toInt ≤ 1281 := hok.1 0 67
            refine lv_iconst (v := 0) C.1 C.2.1 dX12_operation_61 (by decide) ?_
            exact L_62 w61_3 w61_4 w61_5 0 _ _ _ ⟨by omega, by omega⟩ ⟨by omega, by omega⟩ ⟨by omega, by omega⟩ ⟨by decide, by decide⟩ (show w61_3.toInt ≤ 156 from by omega) (show (256 : Int) - w61_3.toInt < (fuel_2 : Int) + 1 from by omega) (show (4 : Int) - w61_5.toInt < (fuel_16 : Int) + 1 from by omega) hP hD hS (lv_sub hl [0, 1, 2, 3, 4, 5] rfl)
          have L_54 : ∀ (w54_3 : Int32) (w54_4 : Int32) (w54_5 : Int32) (k54_0 : Int32) (k54_1 : Int32) (H : Heap) (locs : List Loc) (ls : Array Slot), (0 : Int) ≤ w54_3.toInt ∧ w54_3.toInt ≤ 255 → (1 : Int) ≤ w54_4.toInt ∧ w54_4.toInt ≤ 1 → (0 : Int) ≤ w54_5.toInt ∧ w54_5.toInt ≤ 3 → (0 : Int) ≤ k54_0.toInt ∧ k54_0.toInt ≤ 255 → (0 : Int) ≤ k54_1.toInt ∧ k54_1.toInt ≤ 255 → (w54_3.toInt ≤ 156) → (256 : Int) - w54_3.toInt < (fuel_2 : Int) + 1 → (4 : Int) - w54_5.toInt < (fuel_16 : Int) + 1 → va_P D vwCl (WM K ad t) H → va_D A (WM K ad t) → va_S A s.heap H locs → lv_has ls 6 [(0, .ref (ad 0)), (1, .int x1), (2, .int x2), (3, .int w54_3), (4, .int w54_4), (5, .int w54_5)] → W p l e (rmD 8 0 0) s m [.ref (ad 0), .int x1, .int x2].toArray below meth c H locs 0 0 (MQ below (QI D K (fun (r : Int32) (u : Unit) => (-1 : Int) ≤ r.toInt ∧ r.toInt ≤ 6000) (fun (_ : Unit) => WM K ad t) A) [.ref (ad 0), .int x1, .int x2].toArray s 0 0 A) (F0 m 54 ls [.int k54_1, .int k54_0]) := by
            intro w54_3 w54_4 w54_5 k54_0 k54_1 H locs ls hw54_3 hw54_4 hw54_5 hk54_0 hk54_1 hi54_0 hm54_2 hm54_16 hP hD hS hl
            have h_11 : (0 : Int) ≤ (t.1 0 67).toInt ∧ (t.1 0 67).toInt ≤ 1281 := hok.1 0 67
            refine lv_icmp_ne (tgt := 61) C.1 C.2.1 dX12_operation_54 (by decide) (fun c_12 => ?_) (fun c_12 => ?_)
            · replace c_12 : ¬ k54_0.toInt = k54_1.toInt := i_ne c_12
              exact L_61 w54_3 w54_4 w54_5 _ _ _ ⟨by omega, by omega⟩ ⟨by omega, by omega⟩ ⟨by omega, by omega⟩ (show w54_3.toInt ≤ 156 from by omega) (show (256 : Int) - w54_3.toInt < (fuel_2 : Int) + 1 from by omega) (show (4 : Int) - w54_5.toInt < (fuel_16 : Int) + 1 from by omega) hP hD hS (lv_sub hl [0, 1, 2, 3, 4, 5] rfl)
            · replace c_12 : k54_0.toInt = k54_1.toInt := i_eq c_12
              refine lv_iconst (v := 1) C.1 C.2.1 dX12_operation_57 (by decide) ?_
              refine lv_goto (tgt := 62) C.1 C.2.1 dX12_operation_58 (by decide) ?_
              exact L_62 w54_3 w54_4 w54_5 1 _ _ _ ⟨by omega, by omega⟩ ⟨by omega, by omega⟩ ⟨by omega, by omega⟩ ⟨by decide, by decide⟩ (show w54_3.toInt ≤ 156 from by omega) (show (256 : Int) - w54_3.toInt < (fuel_2 : Int) + 1 from by omega) (show (4 : Int) - w54_5.toInt < (fuel_16 : Int) + 1 from by omega) hP hD hS (lv_sub hl [0, 1, 2, 3, 4, 5] rfl)
          refine lv_iload C.1 C.2.1 dX12_operation_16 (lv_at hl 5 rfl) ?_
          refine lv_iconst (v := 4) C.1 C.2.1 dX12_operation_18 (by decide) ?_
          refine lv_icmp_ge (tgt := 70) C.1 C.2.1 dX12_operation_19 (by decide) (fun c_13 => ?_) (fun c_13 => ?_)
          · replace c_13 : 4 ≤ w16_5.toInt := i_le c_13
            refine lv_iload C.1 C.2.1 dX12_operation_70 (lv_at hl 4 rfl) ?_
            refine lv_if_eq (tgt := 81) C.1 C.2.1 dX12_operation_72 (by decide) (fun c_14 => ?_) (fun c_14 => ?_)
            · replace c_14 : w16_4.toInt = 0 := i_eq c_14
              obtain ⟨v_15, e_16⟩ : ∃ z, z = w16_3 + 1 := ⟨_, rfl⟩
              have h_17 : v_15.toInt = w16_3.toInt + 1 := by rw [e_16]; exact ti_iadd (by show (_ : Int) ≤ w16_3.toInt + 1; omega) (by show w16_3.toInt + 1 < (_ : Int); omega)
              refine lv_iinc (v := v_15) (lv' := [(3, .int v_15), (0, .ref (ad 0)), (1, .int x1), (2, .int x2), (4, .int w16_4), (5, .int w16_5)]) C.1 C.2.1 dX12_operation_81 hl (k := 3) rfl e_16.symm (by decide) rfl (fun ls hl => ?_)
              have hl : lv_has ls 6 [(0, .ref (ad 0)), (1, .int x1), (2, .int x2), (3, .int v_15), (4, .int w16_4), (5, .int w16_5)] := lv_sub hl [1, 2, 3, 0, 4, 5] rfl
              refine lv_goto (tgt := 2) C.1 C.2.1 dX12_operation_84 (by decide) ?_
              exact ih_2 v_15 _ _ _ ⟨by omega, by omega⟩ (show (256 : Int) - v_15.toInt < (fuel_2 : Int) from by omega) hP hD hS (lv_sub hl [0, 1, 2, 3] rfl)
            · replace c_14 : ¬ w16_4.toInt = 0 := i_ne c_14
              refine va_gets C.1 C.2.1 hZ.2.2.2.1 hS C.2.2.2.1 (C.2.2.2.2.1 _ m_33_6) (fun _ h => h) dX12_operation_75 ?_
              refine lv_iload_n C.1 C.2.1 dX12_operation_78 rfl (lv_at hl 3 rfl) ?_
              obtain ⟨v_18, e_19⟩ : ∃ z, z = cCod.getD (w16_3 : Int32).toNatClampNeg 0 := ⟨_, rfl⟩
              have h_20 : (0 : Int) ≤ v_18.toInt ∧ v_18.toInt ≤ 6000 := by rw [e_19]; exact cCod_r _
              refine va_ti C.1 C.2.1 hZ.2.2.2.2.1 hS (vp_in_iff.mpr ⟨by omega, by omega⟩) (congrArg Value.int e_19.symm) dX12_operation_79 ?_
              exact g_iret C hr hlocks hP hD hS rfl () rfl ⟨by omega, by omega⟩ (Nat.le_of_ble_eq_true rfl) (Nat.le_of_ble_eq_true rfl) dX12_operation_80
          · replace c_13 : w16_5.toInt < 4 := i_nle c_13
            refine lv_iload C.1 C.2.1 dX12_operation_22 (lv_at hl 4 rfl) ?_
            refine lv_if_eq (tgt := 61) C.1 C.2.1 dX12_operation_24 (by decide) (fun c_21 => ?_) (fun c_21 => ?_)
            · replace c_21 : w16_4.toInt = 0 := i_eq c_21
              exact L_61 w16_3 w16_4 w16_5 _ _ _ ⟨by omega, by omega⟩ ⟨by omega, by omega⟩ ⟨by omega, by omega⟩ (show w16_3.toInt ≤ 156 from by omega) (show (256 : Int) - w16_3.toInt < (fuel_2 : Int) + 1 from by omega) (show (4 : Int) - w16_5.toInt < (fuel_16 : Int) + 1 from by omega) hP hD hS (lv_sub hl [0, 1, 2, 3, 4, 5] rfl)
            · replace c_21 : ¬ w16_4.toInt = 0 := i_ne c_21
              refine lv_iload_n C.1 C.2.1 dX12_operation_27 rfl (lv_at hl 3 rfl) ?_
              refine lv_iload C.1 C.2.1 dX12_operation_28 (lv_at hl 5 rfl) ?_
              refine g_Si (As := [.int w16_3, .int w16_5]) (rest := []) C hP hD hS hA (T_X12_nameAt l D K Z Y ad t hok (w16_3) (show (0 : Int) ≤ (w16_3 : Int32).toInt ∧ (w16_3 : Int32).toInt ≤ 156 from ⟨by omega, by omega⟩) (w16_5) (show (0 : Int) ≤ (w16_5 : Int32).toInt ∧ (w16_5 : Int32).toInt ≤ 3 from ⟨by omega, by omega⟩)) hE hZ (uwS m_33_7 m_33_8 m_1_5 m_33_9) (hdS 2 (by decide +kernel) rfl) ⟨Nat.le_of_ble_eq_true rfl, Nat.le_of_ble_eq_true rfl⟩ rfl rfl rfl hl.1 (Nat.le_of_ble_eq_true rfl) dX12_operation_30 ⟨Nat.le_of_ble_eq_true rfl, Nat.le_of_ble_eq_true rfl⟩ (fun r_23 t_22 H locs hw hP hD hS => ?_)
              obtain ⟨h_25, h_26⟩ := hw
              refine lv_iload_n C.1 C.2.1 dX12_operation_33 rfl (lv_at hl 1 rfl) ?_
              refine lv_iload C.1 C.2.1 dX12_operation_34 (lv_at hl 5 rfl) ?_
              obtain ⟨v_27, e_28⟩ : ∃ z, z = (x1 : Int32) + (w16_5 : Int32) := ⟨_, rfl⟩
              have h_29 : v_27.toInt = x1.toInt + w16_5.toInt := by rw [e_28]; exact ti_iadd (by show (_ : Int) ≤ x1.toInt + w16_5.toInt; omega) (by show x1.toInt + w16_5.toInt < (_ : Int); omega)
              refine k_iadd (v := v_27) C e_28.symm dX12_operation_36 ?_
              refine lv_iload_n C.1 C.2.1 dX12_operation_37 rfl (lv_at hl 2 rfl) ?_
              refine lv_icmp_ge (tgt := 52) C.1 C.2.1 dX12_operation_38 (by decide) (fun c_30 => ?_) (fun c_30 => ?_)
              · replace c_30 : x2.toInt ≤ v_27.toInt := i_le c_30
                refine lv_bipush (v := 32) C.1 C.2.1 dX12_operation_52 (by decide) ?_
                exact L_54 w16_3 w16_4 w16_5 r_23 32 _ _ _ ⟨by omega, by omega⟩ ⟨by omega, by omega⟩ ⟨by omega, by omega⟩ ⟨by omega, by omega⟩ ⟨by decide, by decide⟩ (show w16_3.toInt ≤ 156 from by omega) (show (256 : Int) - w16_3.toInt < (fuel_2 : Int) + 1 from by omega) (show (4 : Int) - w16_5.toInt < (fuel_16 : Int) + 1 from by omega) hP hD hS (lv_sub hl [0, 1, 2, 3, 4, 5] rfl)
              · replace c_30 : v_27.toInt < x2.toInt := i_nle c_30
                refine lv_aload_n C.1 C.2.1 dX12_operation_41 rfl (lv_at hl 0 rfl) ?_
                refine lv_iload_n C.1 C.2.1 dX12_operation_42 rfl (lv_at hl 1 rfl) ?_
                refine lv_iload C.1 C.2.1 dX12_operation_43 (lv_at hl 5 rfl) ?_
                obtain ⟨v_31, e_32⟩ : ∃ z, z = (x1 : Int32) + (w16_5 : Int32) := ⟨_, rfl⟩
                have h_33 : v_31.toInt = x1.toInt + w16_5.toInt := by rw [e_32]; exact ti_iadd (by show (_ : Int) ≤ x1.toInt + w16_5.toInt; omega) (by show x1.toInt + w16_5.toInt < (_ : Int); omega)
                refine k_iadd (v := v_31) C e_32.symm dX12_operation_45 ?_
                refine g_Vi (As := [.int v_31]) (rest := [.int r_23]) C hP hD hS hA (T_X12_letterAt l D K Z Y ad t hok (v_31) (show (1 : Int) ≤ (v_31 : Int32).toInt ∧ (v_31 : Int32).toInt ≤ 100 from ⟨by omega, by omega⟩)) hE hZ (uwV m_31_8 m_31_9 m_31_10 m_1_5 m_31_11) (hdV 1 (by decide +kernel) rfl) ⟨Nat.le_of_ble_eq_true rfl, Nat.le_of_ble_eq_true rfl⟩ rfl rfl (ci := 11) (q0 := 0) rfl rfl rfl hl.1 (Nat.le_of_ble_eq_true rfl) dX12_operation_46 ⟨Nat.le_of_ble_eq_true rfl, Nat.le_of_ble_eq_true rfl⟩ (fun r_35 t_34 H locs hw hP hD hS => ?_)
                obtain ⟨h_37, h_38, p_39, p_40, p_41, p_42⟩ := hw
                replace p_39 : r_35 = fLet t v_31 := p_39
                replace p_40 : r_35.toInt = (fLet t v_31).toInt := p_40
                replace p_41 : ¬ r_35.toInt = 32 → (t.2.2.1 19 ((t.1 0 67) : Int32).toNatClampNeg).toInt + v_31.toInt ≤ (t.2.2.1 20 ((t.1 0 67) : Int32).toNatClampNeg).toInt := p_41
                replace p_42 : 81 ≤ v_31.toInt → r_35.toInt = 32 := p_42
                refine lv_goto (tgt := 54) C.1 C.2.1 dX12_operation_49 (by decide) ?_
                exact L_54 w16_3 w16_4 w16_5 r_23 r_35 _ _ _ ⟨by omega, by omega⟩ ⟨by omega, by omega⟩ ⟨by omega, by omega⟩ ⟨by omega, by omega⟩ ⟨by omega, by omega⟩ (show w16_3.toInt ≤ 156 from by omega) (show (256 : Int) - w16_3.toInt < (fuel_2 : Int) + 1 from by omega) (show (4 : Int) - w16_5.toInt < (fuel_16 : Int) + 1 from by omega) hP hD hS (lv_sub hl [0, 1, 2, 3, 4, 5] rfl)
      refine lv_iload_n C.1 C.2.1 dX12_operation_2 rfl (lv_at hl 3 rfl) ?_
      refine va_gets C.1 C.2.1 hZ.2.2.2.1 hS C.2.2.2.1 (C.2.2.2.2.1 _ m_33_6) (fun _ h => h) dX12_operation_3 ?_
      refine va_tlen (v := 157) C.1 C.2.1 hZ.2.2.2.2.1 hS (by decide) dX12_operation_6 ?_
      refine lv_icmp_ge (tgt := 87) C.1 C.2.1 dX12_operation_7 (by decide) (fun c_43 => ?_) (fun c_43 => ?_)
      · replace c_43 : 157 ≤ w2_3.toInt := i_le c_43
        refine lv_iconst (v := (-1)) C.1 C.2.1 dX12_operation_87 (by decide) ?_
        exact g_iret C hr hlocks hP hD hS rfl () rfl ⟨by decide, by decide⟩ (Nat.le_of_ble_eq_true rfl) (Nat.le_of_ble_eq_true rfl) dX12_operation_88
      · replace c_43 : w2_3.toInt < 157 := i_nle c_43
        refine lv_iconst (v := 1) C.1 C.2.1 dX12_operation_10 (by decide) ?_
        refine lv_istore (lv' := [(4, .int 1), (0, .ref (ad 0)), (1, .int x1), (2, .int x2), (3, .int w2_3)]) C.1 C.2.1 dX12_operation_11 hl (by decide) rfl (fun ls hl => ?_)
        have hl : lv_has ls 6 [(0, .ref (ad 0)), (1, .int x1), (2, .int x2), (3, .int w2_3), (4, .int 1)] := lv_sub hl [1, 2, 3, 4, 0] rfl
        refine lv_iconst (v := 0) C.1 C.2.1 dX12_operation_13 (by decide) ?_
        refine lv_istore (lv' := [(5, .int 0), (0, .ref (ad 0)), (1, .int x1), (2, .int x2), (3, .int w2_3), (4, .int 1)]) C.1 C.2.1 dX12_operation_14 hl (by decide) rfl (fun ls hl => ?_)
        have hl : lv_has ls 6 [(0, .ref (ad 0)), (1, .int x1), (2, .int x2), (3, .int w2_3), (4, .int 1), (5, .int 0)] := lv_sub hl [1, 2, 3, 4, 5, 0] rfl
        exact L_16 5 w2_3 1 0 _ _ _ ⟨by omega, by omega⟩ ⟨by decide, by decide⟩ ⟨by decide, by decide⟩ (show w2_3.toInt ≤ 156 from by omega) (show (256 : Int) - w2_3.toInt < (fuel_2 : Int) + 1 from by omega) (show (4 : Int) - 0 < ((5 : Nat) : Int) from by omega) hP hD hS (lv_sub hl [0, 1, 2, 3, 4, 5] rfl)
  refine lv_iconst (v := 0) C.1 C.2.1 dX12_operation_0 (by decide) ?_
  refine lv_istore_n (lv' := [(3, .int 0), (0, .ref (ad 0)), (1, .int x1), (2, .int x2)]) C.1 C.2.1 dX12_operation_1 rfl hl (by decide) rfl (fun ls hl => ?_)
  have hl : lv_has ls 6 [(0, .ref (ad 0)), (1, .int x1), (2, .int x2), (3, .int 0)] := lv_sub hl [1, 2, 3, 0] rfl
  exact L_2 257 0 _ _ _ ⟨by decide, by decide⟩ (show (256 : Int) - 0 < ((257 : Nat) : Int) from by omega) hP hD hS (lv_sub hl [0, 1, 2, 3] rfl)

theorem dX12_sayCardWord_0 : decode cX12_sayCardWord 0 = .ok (.iload_n 1, 1) := by decide +kernel
theorem dX12_sayCardWord_1 : decode cX12_sayCardWord 1 = .ok (.ldc 159, 2) := by decide +kernel
theorem dX12_sayCardWord_10 : decode cX12_sayCardWord 10 = .ok (.i2l, 1) := by decide +kernel
theorem dX12_sayCardWord_11 : decode cX12_sayCardWord 11 = .ok (.bipush 9, 2) := by decide +kernel
theorem dX12_sayCardWord_13 : decode cX12_sayCardWord 13 = .ok (.invokevirtual 199, 3) := by decide +kernel
theorem dX12_sayCardWord_16 : decode cX12_sayCardWord 16 = .ok (.iload_n 2, 1) := by decide +kernel
theorem dX12_sayCardWord_17 : decode cX12_sayCardWord 17 = .ok (.bipush 10, 2) := by decide +kernel
theorem dX12_sayCardWord_19 : decode cX12_sayCardWord 19 = .ok (.irem, 1) := by decide +kernel
theorem dX12_sayCardWord_20 : decode cX12_sayCardWord 20 = .ok (.istore_n 3, 1) := by decide +kernel
theorem dX12_sayCardWord_21 : decode cX12_sayCardWord 21 = .ok (.iload_n 1, 1) := by decide +kernel
theorem dX12_sayCardWord_22 : decode cX12_sayCardWord 22 = .ok (.ldc 158, 2) := by decide +kernel
theorem dX12_sayCardWord_24 : decode cX12_sayCardWord 24 = .ok (.iand, 1) := by decide +kernel
theorem dX12_sayCardWord_25 : decode cX12_sayCardWord 25 = .ok (.ifCond .ne 14, 3) := by decide +kernel
theorem dX12_sayCardWord_28 : decode cX12_sayCardWord 28 = .ok (.aload_n 0, 1) := by decide +kernel
theorem dX12_sayCardWord_29 : decode cX12_sayCardWord 29 = .ok (.bipush 48, 2) := by decide +kernel
theorem dX12_sayCardWord_3 : decode cX12_sayCardWord 3 = .ok (.iand, 1) := by decide +kernel
theorem dX12_sayCardWord_31 : decode cX12_sayCardWord 31 = .ok (.iload_n 3, 1) := by decide +kernel
theorem dX12_sayCardWord_32 : decode cX12_sayCardWord 32 = .ok (.iadd, 1) := by decide +kernel
theorem dX12_sayCardWord_33 : decode cX12_sayCardWord 33 = .ok (.invokevirtual 189, 3) := by decide +kernel
theorem dX12_sayCardWord_36 : decode cX12_sayCardWord 36 = .ok (.goto 22, 3) := by decide +kernel
theorem dX12_sayCardWord_39 : decode cX12_sayCardWord 39 = .ok (.aload_n 0, 1) := by decide +kernel
theorem dX12_sayCardWord_4 : decode cX12_sayCardWord 4 = .ok (.istore_n 2, 1) := by decide +kernel
theorem dX12_sayCardWord_40 : decode cX12_sayCardWord 40 = .ok (.iload_n 3, 1) := by decide +kernel
theorem dX12_sayCardWord_41 : decode cX12_sayCardWord 41 = .ok (.ifCond .ne 8, 3) := by decide +kernel
theorem dX12_sayCardWord_44 : decode cX12_sayCardWord 44 = .ok (.bipush 126, 2) := by decide +kernel
theorem dX12_sayCardWord_46 : decode cX12_sayCardWord 46 = .ok (.goto 9, 3) := by decide +kernel
theorem dX12_sayCardWord_49 : decode cX12_sayCardWord 49 = .ok (.bipush 74, 2) := by decide +kernel
theorem dX12_sayCardWord_5 : decode cX12_sayCardWord 5 = .ok (.aload_n 0, 1) := by decide +kernel
theorem dX12_sayCardWord_51 : decode cX12_sayCardWord 51 = .ok (.iload_n 3, 1) := by decide +kernel
theorem dX12_sayCardWord_52 : decode cX12_sayCardWord 52 = .ok (.iadd, 1) := by decide +kernel
theorem dX12_sayCardWord_53 : decode cX12_sayCardWord 53 = .ok (.iconst 1, 1) := by decide +kernel
theorem dX12_sayCardWord_54 : decode cX12_sayCardWord 54 = .ok (.isub, 1) := by decide +kernel
theorem dX12_sayCardWord_55 : decode cX12_sayCardWord 55 = .ok (.invokevirtual 189, 3) := by decide +kernel
theorem dX12_sayCardWord_58 : decode cX12_sayCardWord 58 = .ok (.return_, 1) := by decide +kernel
theorem dX12_sayCardWord_6 : decode cX12_sayCardWord 6 = .ok (.iload_n 2, 1) := by decide +kernel
theorem dX12_sayCardWord_7 : decode cX12_sayCardWord 7 = .ok (.bipush 10, 2) := by decide +kernel
theorem dX12_sayCardWord_9 : decode cX12_sayCardWord 9 = .ok (.idiv, 1) := by decide +kernel
set_option maxHeartbeats 4000000 in
set_option maxRecDepth 100000 in
theorem T_X12_sayCardWord (l : Launch) (D : va_G) (K : Nat → ClassId) (Z Y : Nat → Nat) (ad : Nat → Nat) (t : tSt) (hok : okM t) (x1 : Int32) (hs0 : (t.1 0 30).toInt ≤ 110) : tMet l yX12_sayCardWord cX12_sayCardWord 4 none (rmD 2 0 0) D K Z Y [.ref (ad 0), .int x1] (WM K ad t) (QV D K (fun (u : tSt) => okM u ∧ frA [(0, 30)] [] [14] [] t u ∧ ((u.1 0 30).toInt = (t.1 0 30).toInt + 10)) (fun (u : tSt) => WM K ad u)) 0 0 := by
  refine t_met RX12 ⟨rfl, by decide +kernel⟩ (Nat.le_of_ble_eq_true rfl) ?_
  intro p e s m below meth c A ls C hE hZ hr hlocks hA hP hD hS hl
  have hl : lv_has ls 4 [(0, .ref (ad 0)), (1, .int x1)] := hl
  have hokt := hok
  have hfr : frA [(0, 30)] [] [14] [] t t := frA_rf
  have h_1 : (0 : Int) ≤ (t.1 0 30).toInt ∧ (t.1 0 30).toInt ≤ 120 := hok.1 0 30
  refine lv_iload_n C.1 C.2.1 dX12_sayCardWord_0 rfl (lv_at hl 1 rfl) ?_
  refine lv_ldc (v := 1073741823) C.1 C.2.1 C.2.2.2.1 (C.2.2.2.2.1 _ m_36_12) dX12_sayCardWord_1 ?_
  obtain ⟨v_2, e_3⟩ : ∃ z, z = (x1 : Int32) &&& (1073741823 : Int32) := ⟨_, rfl⟩
  have h_4 : v_2.toInt = x1.toInt % 2 ^ 30 := by rw [e_3]; exact Jvm.Kit.i32_mask _ _ (k := 30) (by decide) (by decide)
  refine k_iand (v := v_2) C e_3.symm dX12_sayCardWord_3 ?_
  refine lv_istore_n (lv' := [(2, .int v_2), (0, .ref (ad 0)), (1, .int x1)]) C.1 C.2.1 dX12_sayCardWord_4 rfl hl (by decide) rfl (fun ls hl => ?_)
  have hl : lv_has ls 4 [(0, .ref (ad 0)), (1, .int x1), (2, .int v_2)] := lv_sub hl [1, 2, 0] rfl
  refine lv_aload_n C.1 C.2.1 dX12_sayCardWord_5 rfl (lv_at hl 0 rfl) ?_
  refine lv_iload_n C.1 C.2.1 dX12_sayCardWord_6 rfl (lv_at hl 2 rfl) ?_
  refine lv_bipush (v := 10) C.1 C.2.1 dX12_sayCardWord_7 (by decide) ?_
  obtain ⟨v_5, e_6⟩ : ∃ z, z = (v_2 : Int32) / (10 : Int32) := ⟨_, rfl⟩
  have h_7 : v_5.toInt = v_2.toInt / 10 := by rw [e_6]; exact z_divp (k := 10) (by decide) (by decide) (by show (0 : Int) ≤ v_2.toInt; omega)
  refine k_idiv (v := v_5) C (by decide) e_6.symm dX12_sayCardWord_9 ?_
  obtain ⟨v_8, e_9⟩ : ∃ z, z = (v_5 : Int32).toInt64 := ⟨_, rfl⟩
  have h_10 : v_8.toInt = v_5.toInt := by rw [e_9]; exact Jvm.Kit.i64_of_i32 _
  refine lv_i2l (v := v_8) C.1 C.2.1 dX12_sayCardWord_10 e_9.symm ?_
  refine lv_bipush (v := 9) C.1 C.2.1 dX12_sayCardWord_11 (by decide) ?_
  have h_11 : (9 : Int32).toInt = 9 := rfl
  refine g_Vv (As := [.long v_8, .int 9]) (rest := []) C hP hD hS hA (T_X12_sayDigits l D K Z Y ad t hok (v_8) 9 (show (1 : Int) ≤ (9 : Int32).toInt ∧ (9 : Int32).toInt ≤ 10 from ⟨by decide, by decide⟩) (show (t.1 0 30).toInt + (9 : Int32).toInt ≤ 120 from by omega) (show 1 ≤ (9 : Int32).toInt from by omega) (show (9 : Int32).toInt ≤ 10 from by omega)) hE hZ (uwV m_42_9 m_42_10 m_42_11 m_1_5 m_42_12) (hdV 2 (by decide +kernel) rfl) ⟨Nat.le_of_ble_eq_true rfl, Nat.le_of_ble_eq_true rfl⟩ rfl rfl (ci := 11) (q0 := 0) rfl rfl rfl hl.1 (Nat.le_of_ble_eq_true rfl) dX12_sayCardWord_13 ⟨Nat.le_of_ble_eq_true rfl, Nat.le_of_ble_eq_true rfl⟩ (fun t_12 H locs hw hP hD hS => ?_)
  obtain ⟨hok, f_14, p_15⟩ := hw
  have hfr : frA [(0, 30)] [] [14] [] t t_12 := frA_tr hfr f_14 rfl
  have h_16 : (0 : Int) ≤ (t_12.1 0 30).toInt ∧ (t_12.1 0 30).toInt ≤ 120 := hok.1 0 30
  replace p_15 : (t_12.1 0 30).toInt = (t.1 0 30).toInt + (9 : Int32).toInt := p_15
  refine lv_iload_n C.1 C.2.1 dX12_sayCardWord_16 rfl (lv_at hl 2 rfl) ?_
  refine lv_bipush (v := 10) C.1 C.2.1 dX12_sayCardWord_17 (by decide) ?_
  obtain ⟨v_17, e_18⟩ : ∃ z, z = (v_2 : Int32) - (v_2 : Int32) / (10 : Int32) * (10 : Int32) := ⟨_, rfl⟩
  have h_19 : v_17.toInt = v_2.toInt % 10 := by rw [e_18]; exact z_remp (k := 10) (by decide) (by show (0 : Int) ≤ v_2.toInt; omega)
  refine k_irem (v := v_17) C (by decide) e_18.symm dX12_sayCardWord_19 ?_
  refine lv_istore_n (lv' := [(3, .int v_17), (0, .ref (ad 0)), (1, .int x1), (2, .int v_2)]) C.1 C.2.1 dX12_sayCardWord_20 rfl hl (by decide) rfl (fun ls hl => ?_)
  have hl : lv_has ls 4 [(0, .ref (ad 0)), (1, .int x1), (2, .int v_2), (3, .int v_17)] := lv_sub hl [1, 2, 3, 0] rfl
  refine lv_iload_n C.1 C.2.1 dX12_sayCardWord_21 rfl (lv_at hl 1 rfl) ?_
  refine lv_ldc (v := 1073741824) C.1 C.2.1 C.2.2.2.1 (C.2.2.2.2.1 _ m_34_19) dX12_sayCardWord_22 ?_
  obtain ⟨v_20, e_21⟩ : ∃ z, z = (x1 : Int32) &&& (1073741824 : Int32) := ⟨_, rfl⟩
  have h_22 : (0 : Int) ≤ v_20.toInt ∧ v_20.toInt ≤ 1073741824 := by rw [e_21]; exact z_and _ (k := 1073741824) (by decide) (by decide)
  refine k_iand (v := v_20) C e_21.symm dX12_sayCardWord_24 ?_
  refine lv_if_ne (tgt := 39) C.1 C.2.1 dX12_sayCardWord_25 (by decide) (fun c_23 => ?_) (fun c_23 => ?_)
  · replace c_23 : ¬ v_20.toInt = 0 := i_ne c_23
    refine lv_aload_n C.1 C.2.1 dX12_sayCardWord_39 rfl (lv_at hl 0 rfl) ?_
    refine lv_iload_n C.1 C.2.1 dX12_sayCardWord_40 rfl (lv_at hl 3 rfl) ?_
    refine lv_if_ne (tgt := 49) C.1 C.2.1 dX12_sayCardWord_41 (by decide) (fun c_24 => ?_) (fun c_24 => ?_)
    · replace c_24 : ¬ v_17.toInt = 0 := i_ne c_24
      refine lv_bipush (v := 74) C.1 C.2.1 dX12_sayCardWord_49 (by decide) ?_
      refine lv_iload_n C.1 C.2.1 dX12_sayCardWord_51 rfl (lv_at hl 3 rfl) ?_
      obtain ⟨v_25, e_26⟩ : ∃ z, z = (74 : Int32) + (v_17 : Int32) := ⟨_, rfl⟩
      have h_27 : v_25.toInt = 74 + v_17.toInt := by rw [e_26]; exact ti_iadd (by show (_ : Int) ≤ 74 + v_17.toInt; omega) (by show 74 + v_17.toInt < (_ : Int); omega)
      refine k_iadd (v := v_25) C e_26.symm dX12_sayCardWord_52 ?_
      refine lv_iconst (v := 1) C.1 C.2.1 dX12_sayCardWord_53 (by decide) ?_
      obtain ⟨v_28, e_29⟩ : ∃ z, z = (v_25 : Int32) - (1 : Int32) := ⟨_, rfl⟩
      have h_30 : v_28.toInt = v_25.toInt - 1 := by rw [e_29]; exact ti_isub (by show (_ : Int) ≤ v_25.toInt - 1; omega) (by show v_25.toInt - 1 < (_ : Int); omega)
      refine k_isub (v := v_28) C e_29.symm dX12_sayCardWord_54 ?_
      refine g_Vv (As := [.int v_28]) (rest := []) C hP hD hS hA (T_X12_say l D K Z Y ad t_12 hok (v_28) (show (t_12.1 0 30).toInt ≤ 119 from by omega)) hE hZ (uwV m_42_13 m_42_14 m_42_15 m_1_5 m_42_16) (hdV 1 (by decide +kernel) rfl) ⟨Nat.le_of_ble_eq_true rfl, Nat.le_of_ble_eq_true rfl⟩ rfl rfl (ci := 11) (q0 := 0) rfl rfl rfl hl.1 (Nat.le_of_ble_eq_true rfl) dX12_sayCardWord_55 ⟨Nat.le_of_ble_eq_true rfl, Nat.le_of_ble_eq_true rfl⟩ (fun t_31 H locs hw hP hD hS => ?_)
      obtain ⟨hok, f_33, p_34⟩ := hw
      have hfr : frA [(0, 30)] [] [14] [] t t_31 := frA_tr hfr f_33 rfl
      have h_35 : (0 : Int) ≤ (t_31.1 0 30).toInt ∧ (t_31.1 0 30).toInt ≤ 120 := hok.1 0 30
      replace p_34 : (t_31.1 0 30).toInt = (t_12.1 0 30).toInt + 1 := p_34
      exact g_vret C hr hlocks hP hD hS t_31 rfl ⟨hok, hfr, (show (t_31.1 0 30).toInt = (t.1 0 30).toInt + 10 from by omega)⟩ (Nat.le_of_ble_eq_true rfl) (Nat.le_of_ble_eq_true rfl) dX12_sayCardWord_58
    · replace c_24 : v_17.toInt = 0 := i_eq c_24
      refine lv_bipush (v := 126) C.1 C.2.1 dX12_sayCardWord_44 (by decide) ?_
      refine lv_goto (tgt := 55) C.1 C.2.1 dX12_sayCardWord_46 (by decide) ?_
      refine g_Vv (As := [.int 126]) (rest := []) C hP hD hS hA (T_X12_say l D K Z Y ad t_12 hok 126 (show (t_12.1 0 30).toInt ≤ 119 from by omega)) hE hZ (uwV m_42_13 m_42_14 m_42_15 m_1_5 m_42_16) (hdV 1 (by decide +kernel) rfl) ⟨Nat.le_of_ble_eq_true rfl, Nat.le_of_ble_eq_true rfl⟩ rfl rfl (ci := 11) (q0 := 0) rfl rfl rfl hl.1 (Nat.le_of_ble_eq_true rfl) dX12_sayCardWord_55 ⟨Nat.le_of_ble_eq_true rfl, Nat.le_of_ble_eq_true rfl⟩ (fun t_36 H locs hw hP hD hS => ?_)
      obtain ⟨hok, f_38, p_39⟩ := hw
      have hfr : frA [(0, 30)] [] [14] [] t t_36 := frA_tr hfr f_38 rfl
      have h_40 : (0 : Int) ≤ (t_36.1 0 30).toInt ∧ (t_36.1 0 30).toInt ≤ 120 := hok.1 0 30
      replace p_39 : (t_36.1 0 30).toInt = (t_12.1 0 30).toInt + 1 := p_39
      exact g_vret C hr hlocks hP hD hS t_36 rfl ⟨hok, hfr, (show (t_36.1 0 30).toInt = (t.1 0 30).toInt + 10 from by omega)⟩ (Nat.le_of_ble_eq_true rfl) (Nat.le_of_ble_eq_true rfl) dX12_sayCardWord_58
  · replace c_23 : v_20.toInt = 0 := i_eq c_23
    refine lv_aload_n C.1 C.2.1 dX12_sayCardWord_28 rfl (lv_at hl 0 rfl) ?_
    refine lv_bipush (v := 48) C.1 C.2.1 dX12_sayCardWord_29 (by decide) ?_
    refine lv_iload_n C.1 C.2.1 dX12_sayCardWord_31 rfl (lv_at hl 3 rfl) ?_
    obtain ⟨v_41, e_42⟩ : ∃ z, z = (48 : Int32) + (v_17 : Int32) := ⟨_, rfl⟩
    have h_43 : v_41.toInt = 48 + v_17.toInt := by rw [e_42]; exact ti_iadd (by show (_ : Int) ≤ 48 + v_17.toInt; omega) (by show 48 + v_17.toInt < (_ : Int); omega)
    refine k_iadd (v := v_41) C e_42.symm dX12_sayCardWord_32 ?_
    refine g_Vv (As := [.int v_41]) (rest := []) C hP hD hS hA (T_X12_say l D K Z Y ad t_12 hok (v_41) (show (t_12.1 0 30).toInt ≤ 119 from by omega)) hE hZ (uwV m_42_13 m_42_14 m_42_15 m_1_5 m_42_16) (hdV 1 (by decide +kernel) rfl) ⟨Nat.le_of_ble_eq_true rfl, Nat.le_of_ble_eq_true rfl⟩ rfl rfl (ci := 11) (q0 := 0) rfl rfl rfl hl.1 (Nat.le_of_ble_eq_true rfl) dX12_sayCardWord_33 ⟨Nat.le_of_ble_eq_true rfl, Nat.le_of_ble_eq_true rfl⟩ (fun t_44 H locs hw hP hD hS => ?_)
    obtain ⟨hok, f_46, p_47⟩ := hw
    have hfr : frA [(0, 30)] [] [14] [] t t_44 := frA_tr hfr f_46 rfl
    have h_48 : (0 : Int) ≤ (t_44.1 0 30).toInt ∧ (t_44.1 0 30).toInt ≤ 120 := hok.1 0 30
    replace p_47 : (t_44.1 0 30).toInt = (t_12.1 0 30).toInt + 1 := p_47
    refine lv_goto (tgt := 58) C.1 C.2.1 dX12_sayCardWord_36 (by decide) ?_
    exact g_vret C hr hlocks hP hD hS t_44 rfl ⟨hok, hfr, (show (t_44.1 0 30).toInt = (t.1 0 30).toInt + 10 from by omega)⟩ (Nat.le_of_ble_eq_true rfl) (Nat.le_of_ble_eq_true rfl) dX12_sayCardWord_58

theorem dX12_sayName_0 : decode cX12_sayName 0 = .ok (.iload_n 1, 1) := by decide +kernel
theorem dX12_sayName_1 : decode cX12_sayName 1 = .ok (.bipush 63, 2) := by decide +kernel
theorem dX12_sayName_10 : decode cX12_sayName 10 = .ok (.iload_n 2, 1) := by decide +kernel
theorem dX12_sayName_100 : decode cX12_sayName 100 = .ok (.iload 5, 2) := by decide +kernel
theorem dX12_sayName_102 : decode cX12_sayName 102 = .ok (.iconst 4, 1) := by decide +kernel
theorem dX12_sayName_103 : decode cX12_sayName 103 = .ok (.if_icmp .ge 32, 3) := by decide +kernel
theorem dX12_sayName_106 : decode cX12_sayName 106 = .ok (.iload 4, 2) := by decide +kernel
theorem dX12_sayName_108 : decode cX12_sayName 108 = .ok (.iload 5, 2) := by decide +kernel
theorem dX12_sayName_11 : decode cX12_sayName 11 = .ok (.bipush 6, 2) := by decide +kernel
theorem dX12_sayName_110 : decode cX12_sayName 110 = .ok (.invokestatic 566, 3) := by decide +kernel
theorem dX12_sayName_113 : decode cX12_sayName 113 = .ok (.bipush 32, 2) := by decide +kernel
theorem dX12_sayName_115 : decode cX12_sayName 115 = .ok (.if_icmp .eq 14, 3) := by decide +kernel
theorem dX12_sayName_118 : decode cX12_sayName 118 = .ok (.aload_n 0, 1) := by decide +kernel
theorem dX12_sayName_119 : decode cX12_sayName 119 = .ok (.iload 4, 2) := by decide +kernel
theorem dX12_sayName_121 : decode cX12_sayName 121 = .ok (.iload 5, 2) := by decide +kernel
theorem dX12_sayName_123 : decode cX12_sayName 123 = .ok (.invokestatic 566, 3) := by decide +kernel
theorem dX12_sayName_126 : decode cX12_sayName 126 = .ok (.invokevirtual 189, 3) := by decide +kernel
theorem dX12_sayName_129 : decode cX12_sayName 129 = .ok (.iinc 5 1, 3) := by decide +kernel
theorem dX12_sayName_13 : decode cX12_sayName 13 = .ok (.if_icmp .eq 15, 3) := by decide +kernel
theorem dX12_sayName_132 : decode cX12_sayName 132 = .ok (.goto (-32), 3) := by decide +kernel
theorem dX12_sayName_135 : decode cX12_sayName 135 = .ok (.return_, 1) := by decide +kernel
theorem dX12_sayName_136 : decode cX12_sayName 136 = .ok (.iinc 4 1, 3) := by decide +kernel
theorem dX12_sayName_139 : decode cX12_sayName 139 = .ok (.goto (-102), 3) := by decide +kernel
theorem dX12_sayName_142 : decode cX12_sayName 142 = .ok (.aload_n 0, 1) := by decide +kernel
theorem dX12_sayName_143 : decode cX12_sayName 143 = .ok (.bipush 63, 2) := by decide +kernel
theorem dX12_sayName_145 : decode cX12_sayName 145 = .ok (.invokevirtual 189, 3) := by decide +kernel
theorem dX12_sayName_148 : decode cX12_sayName 148 = .ok (.return_, 1) := by decide +kernel
theorem dX12_sayName_16 : decode cX12_sayName 16 = .ok (.iload_n 2, 1) := by decide +kernel
theorem dX12_sayName_17 : decode cX12_sayName 17 = .ok (.bipush 38, 2) := by decide +kernel
theorem dX12_sayName_19 : decode cX12_sayName 19 = .ok (.if_icmp .le 13, 3) := by decide +kernel
theorem dX12_sayName_22 : decode cX12_sayName 22 = .ok (.iload_n 2, 1) := by decide +kernel
theorem dX12_sayName_23 : decode cX12_sayName 23 = .ok (.bipush 56, 2) := by decide +kernel
theorem dX12_sayName_25 : decode cX12_sayName 25 = .ok (.if_icmp .ge 7, 3) := by decide +kernel
theorem dX12_sayName_28 : decode cX12_sayName 28 = .ok (.iconst 1, 1) := by decide +kernel
theorem dX12_sayName_29 : decode cX12_sayName 29 = .ok (.goto 4, 3) := by decide +kernel
theorem dX12_sayName_3 : decode cX12_sayName 3 = .ok (.iand, 1) := by decide +kernel
theorem dX12_sayName_32 : decode cX12_sayName 32 = .ok (.iconst 0, 1) := by decide +kernel
theorem dX12_sayName_33 : decode cX12_sayName 33 = .ok (.istore_n 3, 1) := by decide +kernel
theorem dX12_sayName_34 : decode cX12_sayName 34 = .ok (.iconst 0, 1) := by decide +kernel
theorem dX12_sayName_35 : decode cX12_sayName 35 = .ok (.istore 4, 2) := by decide +kernel
theorem dX12_sayName_37 : decode cX12_sayName 37 = .ok (.iload 4, 2) := by decide +kernel
theorem dX12_sayName_39 : decode cX12_sayName 39 = .ok (.getstatic 563, 3) := by decide +kernel
theorem dX12_sayName_4 : decode cX12_sayName 4 = .ok (.istore_n 2, 1) := by decide +kernel
theorem dX12_sayName_42 : decode cX12_sayName 42 = .ok (.arraylength, 1) := by decide +kernel
theorem dX12_sayName_43 : decode cX12_sayName 43 = .ok (.if_icmp .ge 99, 3) := by decide +kernel
theorem dX12_sayName_46 : decode cX12_sayName 46 = .ok (.getstatic 563, 3) := by decide +kernel
theorem dX12_sayName_49 : decode cX12_sayName 49 = .ok (.iload 4, 2) := by decide +kernel
theorem dX12_sayName_5 : decode cX12_sayName 5 = .ok (.iload_n 2, 1) := by decide +kernel
theorem dX12_sayName_51 : decode cX12_sayName 51 = .ok (.iaload, 1) := by decide +kernel
theorem dX12_sayName_52 : decode cX12_sayName 52 = .ok (.sipush 5000, 3) := by decide +kernel
theorem dX12_sayName_55 : decode cX12_sayName 55 = .ok (.if_icmp .ge 81, 3) := by decide +kernel
theorem dX12_sayName_58 : decode cX12_sayName 58 = .ok (.getstatic 563, 3) := by decide +kernel
theorem dX12_sayName_6 : decode cX12_sayName 6 = .ok (.iconst 5, 1) := by decide +kernel
theorem dX12_sayName_61 : decode cX12_sayName 61 = .ok (.iload 4, 2) := by decide +kernel
theorem dX12_sayName_63 : decode cX12_sayName 63 = .ok (.iaload, 1) := by decide +kernel
theorem dX12_sayName_64 : decode cX12_sayName 64 = .ok (.bipush 6, 2) := by decide +kernel
theorem dX12_sayName_66 : decode cX12_sayName 66 = .ok (.ishr, 1) := by decide +kernel
theorem dX12_sayName_67 : decode cX12_sayName 67 = .ok (.iload_n 2, 1) := by decide +kernel
theorem dX12_sayName_68 : decode cX12_sayName 68 = .ok (.if_icmp .ne 68, 3) := by decide +kernel
theorem dX12_sayName_7 : decode cX12_sayName 7 = .ok (.if_icmp .eq 21, 3) := by decide +kernel
theorem dX12_sayName_71 : decode cX12_sayName 71 = .ok (.iload_n 3, 1) := by decide +kernel
theorem dX12_sayName_72 : decode cX12_sayName 72 = .ok (.ifCond .eq 25, 3) := by decide +kernel
theorem dX12_sayName_75 : decode cX12_sayName 75 = .ok (.getstatic 563, 3) := by decide +kernel
theorem dX12_sayName_78 : decode cX12_sayName 78 = .ok (.iload 4, 2) := by decide +kernel
theorem dX12_sayName_80 : decode cX12_sayName 80 = .ok (.iaload, 1) := by decide +kernel
theorem dX12_sayName_81 : decode cX12_sayName 81 = .ok (.bipush 63, 2) := by decide +kernel
theorem dX12_sayName_83 : decode cX12_sayName 83 = .ok (.iand, 1) := by decide +kernel
theorem dX12_sayName_84 : decode cX12_sayName 84 = .ok (.iload_n 1, 1) := by decide +kernel
theorem dX12_sayName_85 : decode cX12_sayName 85 = .ok (.bipush 6, 2) := by decide +kernel
theorem dX12_sayName_87 : decode cX12_sayName 87 = .ok (.ishr, 1) := by decide +kernel
theorem dX12_sayName_88 : decode cX12_sayName 88 = .ok (.bipush 63, 2) := by decide +kernel
theorem dX12_sayName_90 : decode cX12_sayName 90 = .ok (.iand, 1) := by decide +kernel
theorem dX12_sayName_91 : decode cX12_sayName 91 = .ok (.if_icmp .eq 6, 3) := by decide +kernel
theorem dX12_sayName_94 : decode cX12_sayName 94 = .ok (.goto 42, 3) := by decide +kernel
theorem dX12_sayName_97 : decode cX12_sayName 97 = .ok (.iconst 0, 1) := by decide +kernel
theorem dX12_sayName_98 : decode cX12_sayName 98 = .ok (.istore 5, 2) := by decide +kernel
set_option maxHeartbeats 4000000 in
set_option maxRecDepth 100000 in
theorem T_X12_sayName (l : Launch) (D : va_G) (K : Nat → ClassId) (Z Y : Nat → Nat) (ad : Nat → Nat) (t : tSt) (hok : okM t) (x1 : Int32) (hs0 : (t.1 0 30).toInt ≤ 110) : tMet l yX12_sayName cX12_sayName 6 none (rmD 5 0 0) D K Z Y [.ref (ad 0), .int x1] (WM K ad t) (QV D K (fun (u : tSt) => okM u ∧ frA [(0, 30)] [] [14] [] t u ∧ ((t.1 0 30).toInt ≤ (u.1 0 30).toInt) ∧ ((u.1 0 30).toInt ≤ (t.1 0 30).toInt + 4)) (fun (u : tSt) => WM K ad u)) 0 0 := by
  refine t_met RX12 ⟨rfl, by decide +kernel⟩ (Nat.le_of_ble_eq_true rfl) ?_
  intro p e s m below meth c A ls C hE hZ hr hlocks hA hP hD hS hl
  have hl : lv_has ls 6 [(0, .ref (ad 0)), (1, .int x1)] := hl
  have hokt := hok
  have hfr : frA [(0, 30)] [] [14] [] t t := frA_rf
  have h_1 : (0 : Int) ≤ (t.1 0 30).toInt ∧ (t.1 0 30).toInt ≤ 120 := hok.1 0 30
  have L_100 : ∀ (fuel_100 : Nat) (t1 : tSt) (w100_2 : Int32) (w100_3 : Int32) (w100_4 : Int32) (w100_5 : Int32) (H : Heap) (locs : List Loc) (ls : Array Slot), okM t1 → frA [(0, 30)] [] [14] [] t t1 → (0 : Int) ≤ w100_2.toInt ∧ w100_2.toInt ≤ 63 → (0 : Int) ≤ w100_3.toInt ∧ w100_3.toInt ≤ 1 → (0 : Int) ≤ w100_4.toInt ∧ w100_4.toInt ≤ 255 → (0 : Int) ≤ w100_5.toInt ∧ w100_5.toInt ≤ 4 → ((t.1 0 30).toInt ≤ (t1.1 0 30).toInt) → ((t1.1 0 30).toInt ≤ (t.1 0 30).toInt + w100_5.toInt) → (w100_4.toInt ≤ 156) → (4 : Int) - w100_5.toInt < (fuel_100 : Int) → va_P D vwCl (WM K ad t1) H → va_D A (WM K ad t1) → va_S A s.heap H locs → lv_has ls 6 [(0, .ref (ad 0)), (1, .int x1), (2, .int w100_2), (3, .int w100_3), (4, .int w100_4), (5, .int w100_5)] → W p l e (rmD 5 0 0) s m [.ref (ad 0), .int x1].toArray below meth c H locs 0 0 (MQ below (QV D K (fun (u : tSt) => okM u ∧ frA [(0, 30)] [] [14] [] t u ∧ ((t.1 0 30).toInt ≤ (u.1 0 30).toInt) ∧ ((u.1 0 30).toInt ≤ (t.1 0 30).toInt + 4)) (fun (u : tSt) => WM K ad u) A) [.ref (ad 0), .int x1].toArray s 0 0 A) (F0 m 100 ls []) := by
    intro fuel_100
    induction fuel_100 with
    | zero =>
      intro t1 w100_2 w100_3 w100_4 w100_5 H locs ls hok hfr hw100_2 hw100_3 hw100_4 hw100_5 hi100_0 hi100_1 hi100_2 hm100_100 hP hD hS hl
      have h_2 : (0 : Int) ≤ (t1.1 0 30).toInt ∧ (t1.1 0 30).toInt ≤ 120 := hok.1 0 30
      exact absurd hm100_100 (by omega)
    | succ fuel_100 ih_100 =>
      intro t1 w100_2 w100_3 w100_4 w100_5 H locs ls hok hfr hw100_2 hw100_3 hw100_4 hw100_5 hi100_0 hi100_1 hi100_2 hm100_100 hP hD hS hl
      have hm100_100 : (4 : Int) - w100_5.toInt < (fuel_100 : Int) + 1 := by omega
      have h_3 : (0 : Int) ≤ (t1.1 0 30).toInt ∧ (t1.1 0 30).toInt ≤ 120 := hok.1 0 30
      have L_129 : ∀ (t1 : tSt) (w129_2 : Int32) (w129_3 : Int32) (w129_4 : Int32) (w129_5 : Int32) (H : Heap) (locs : List Loc) (ls : Array Slot), okM t1 → frA [(0, 30)] [] [14] [] t t1 → (0 : Int) ≤ w129_2.toInt ∧ w129_2.toInt ≤ 63 → (0 : Int) ≤ w129_3.toInt ∧ w129_3.toInt ≤ 1 → (0 : Int) ≤ w129_4.toInt ∧ w129_4.toInt ≤ 255 → (0 : Int) ≤ w129_5.toInt ∧ w129_5.toInt ≤ 3 → ((t.1 0 30).toInt ≤ (t1.1 0 30).toInt) → ((t1.1 0 30).toInt ≤ (t.1 0 30).toInt + w129_5.toInt + 1) → (w129_4.toInt ≤ 156) → (4 : Int) - w129_5.toInt < (fuel_100 : Int) + 1 → va_P D vwCl (WM K ad t1) H → va_D A (WM K ad t1) → va_S A s.heap H locs → lv_has ls 6 [(0, .ref (ad 0)), (1, .int x1), (2, .int w129_2), (3, .int w129_3), (4, .int w129_4), (5, .int w129_5)] → W p l e (rmD 5 0 0) s m [.ref (ad 0), .int x1].toArray below meth c H locs 0 0 (MQ below (QV D K (fun (u : tSt) => okM u ∧ frA [(0, 30)] [] [14] [] t u ∧ ((t.1 0 30).toInt ≤ (u.1 0 30).toInt) ∧ ((u.1 0 30).toInt ≤ (t.1 0 30).toInt + 4)) (fun (u : tSt) => WM K ad u) A) [.ref (ad 0), .int x1].toArray s 0 0 A) (F0 m 129 ls []) := by
        intro t1 w129_2 w129_3 w129_4 w129_5 H locs ls hok hfr hw129_2 hw129_3 hw129_4 hw129_5 hi129_0 hi129_1 hi129_2 hm129_100 hP hD hS hl
        have h_4 : (0 : Int) ≤ (t1.1 0 30).toInt ∧ (t1.1 0 30).toInt ≤ 120 := hok.1 0 30
        obtain ⟨v_5, e_6⟩ : ∃ z, z = w129_5 + 1 := ⟨_, rfl⟩
        have h_7 : v_5.toInt = w129_5.toInt + 1 := by rw [e_6]; exact ti_iadd (by show (_ : Int) ≤ w129_5.toInt + 1; omega) (by show w129_5.toInt + 1 < (_ : Int); omega)
        refine lv_iinc (v := v_5) (lv' := [(5, .int v_5), (0, .ref (ad 0)), (1, .int x1), (2, .int w129_2), (3, .int w129_3), (4, .int w129_4)]) C.1 C.2.1 dX12_sayName_129 hl (k := 5) rfl e_6.symm (by decide) rfl (fun ls hl => ?_)
        have hl : lv_has ls 6 [(0, .ref (ad 0)), (1, .int x1), (2, .int w129_2), (3, .int w129_3), (4, .int w129_4), (5, .int v_5)] := lv_sub hl [1, 2, 3, 4, 5, 0] rfl
        refine lv_goto (tgt := 100) C.1 C.2.1 dX12_sayName_132 (by decide) ?_
        exact ih_100 t1 w129_2 w129_3 w129_4 v_5 _ _ _ hok hfr ⟨by omega, by omega⟩ ⟨by omega, by omega⟩ ⟨by omega, by omega⟩ ⟨by omega, by omega⟩ (show (t.1 0 30).toInt ≤ (t1.1 0 30).toInt from by omega) (show (t1.1 0 30).toInt ≤ (t.1 0 30).toInt + v_5.toInt from by omega) (show w129_4.toInt ≤ 156 from by omega) (show (4 : Int) - v_5.toInt < (fuel_100 : Int) from by omega) hP hD hS (lv_sub hl [0, 1, 2, 3, 4, 5] rfl)
      refine lv_iload C.1 C.2.1 dX12_sayName_100 (lv_at hl 5 rfl) ?_
      refine lv_iconst (v := 4) C.1 C.2.1 dX12_sayName_102 (by decide) ?_
      refine lv_icmp_ge (tgt := 135) C.1 C.2.1 dX12_sayName_103 (by decide) (fun c_8 => ?_) (fun c_8 => ?_)
      · replace c_8 : 4 ≤ w100_5.toInt := i_le c_8
        exact g_vret C hr hlocks hP hD hS t1 rfl ⟨hok, hfr, (show (t.1 0 30).toInt ≤ (t1.1 0 30).toInt from by omega), (show (t1.1 0 30).toInt ≤ (t.1 0 30).toInt + 4 from by omega)⟩ (Nat.le_of_ble_eq_true rfl) (Nat.le_of_ble_eq_true rfl) dX12_sayName_135
      · replace c_8 : w100_5.toInt < 4 := i_nle c_8
        refine lv_iload C.1 C.2.1 dX12_sayName_106 (lv_at hl 4 rfl) ?_
        refine lv_iload C.1 C.2.1 dX12_sayName_108 (lv_at hl 5 rfl) ?_
        refine g_Si (As := [.int w100_4, .int w100_5]) (rest := []) C hP hD hS hA (T_X12_nameAt l D K Z Y ad t1 hok (w100_4) (show (0 : Int) ≤ (w100_4 : Int32).toInt ∧ (w100_4 : Int32).toInt ≤ 156 from ⟨by omega, by omega⟩) (w100_5) (show (0 : Int) ≤ (w100_5 : Int32).toInt ∧ (w100_5 : Int32).toInt ≤ 3 from ⟨by omega, by omega⟩)) hE hZ (uwS m_33_7 m_33_8 m_1_5 m_33_9) (hdS 2 (by decide +kernel) rfl) ⟨Nat.le_of_ble_eq_true rfl, Nat.le_of_ble_eq_true rfl⟩ rfl rfl rfl hl.1 (Nat.le_of_ble_eq_true rfl) dX12_sayName_110 ⟨Nat.le_of_ble_eq_true rfl, Nat.le_of_ble_eq_true rfl⟩ (fun r_10 t_9 H locs hw hP hD hS => ?_)
        obtain ⟨h_12, h_13⟩ := hw
        refine lv_bipush (v := 32) C.1 C.2.1 dX12_sayName_113 (by decide) ?_
        refine lv_icmp_eq (tgt := 129) C.1 C.2.1 dX12_sayName_115 (by decide) (fun c_14 => ?_) (fun c_14 => ?_)
        · replace c_14 : r_10.toInt = 32 := i_eq c_14
          exact L_129 t1 w100_2 w100_3 w100_4 w100_5 _ _ _ hok hfr ⟨by omega, by omega⟩ ⟨by omega, by omega⟩ ⟨by omega, by omega⟩ ⟨by omega, by omega⟩ (show (t.1 0 30).toInt ≤ (t1.1 0 30).toInt from by omega) (show (t1.1 0 30).toInt ≤ (t.1 0 30).toInt + w100_5.toInt + 1 from by omega) (show w100_4.toInt ≤ 156 from by omega) (show (4 : Int) - w100_5.toInt < (fuel_100 : Int) + 1 from by omega) hP hD hS (lv_sub hl [0, 1, 2, 3, 4, 5] rfl)
        · replace c_14 : ¬ r_10.toInt = 32 := i_ne c_14
          refine lv_aload_n C.1 C.2.1 dX12_sayName_118 rfl (lv_at hl 0 rfl) ?_
          refine lv_iload C.1 C.2.1 dX12_sayName_119 (lv_at hl 4 rfl) ?_
          refine lv_iload C.1 C.2.1 dX12_sayName_121 (lv_at hl 5 rfl) ?_
          refine g_Si (As := [.int w100_4, .int w100_5]) (rest := [.ref (ad 0)]) C hP hD hS hA (T_X12_nameAt l D K Z Y ad t1 hok (w100_4) (show (0 : Int) ≤ (w100_4 : Int32).toInt ∧ (w100_4 : Int32).toInt ≤ 156 from ⟨by omega, by omega⟩) (w100_5) (show (0 : Int) ≤ (w100_5 : Int32).toInt ∧ (w100_5 : Int32).toInt ≤ 3 from ⟨by omega, by omega⟩)) hE hZ (uwS m_33_7 m_33_8 m_1_5 m_33_9) (hdS 2 (by decide +kernel) rfl) ⟨Nat.le_of_ble_eq_true rfl, Nat.le_of_ble_eq_true rfl⟩ rfl rfl rfl hl.1 (Nat.le_of_ble_eq_true rfl) dX12_sayName_123 ⟨Nat.le_of_ble_eq_true rfl, Nat.le_of_ble_eq_true rfl⟩ (fun r_16 t_15 H locs hw hP hD hS => ?_)
          obtain ⟨h_18, h_19⟩ := hw
          refine g_Vv (As := [.int r_16]) (rest := []) C hP hD hS hA (T_X12_say l D K Z Y ad t1 hok (r_16) (show (t1.1 0 30).toInt ≤ 119 from by omega)) hE hZ (uwV m_42_13 m_42_14 m_42_15 m_1_5 m_42_16) (hdV 1 (by decide +kernel) rfl) ⟨Nat.le_of_ble_eq_true rfl, Nat.le_of_ble_eq_true rfl⟩ rfl rfl (ci := 11) (q0 := 0) rfl rfl rfl hl.1 (Nat.le_of_ble_eq_true rfl) dX12_sayName_126 ⟨Nat.le_of_ble_eq_true rfl, Nat.le_of_ble_eq_true rfl⟩ (fun t_20 H locs hw hP hD hS => ?_)
          obtain ⟨hok, f_22, p_23⟩ := hw
          have hfr : frA [(0, 30)] [] [14] [] t t_20 := frA_tr hfr f_22 rfl
          have h_24 : (0 : Int) ≤ (t_20.1 0 30).toInt ∧ (t_20.1 0 30).toInt ≤ 120 := hok.1 0 30
          replace p_23 : (t_20.1 0 30).toInt = (t1.1 0 30).toInt + 1 := p_23
          exact L_129 t_20 w100_2 w100_3 w100_4 w100_5 _ _ _ hok hfr ⟨by omega, by omega⟩ ⟨by omega, by omega⟩ ⟨by omega, by omega⟩ ⟨by omega, by omega⟩ (show (t.1 0 30).toInt ≤ (t_20.1 0 30).toInt from by omega) (show (t_20.1 0 30).toInt ≤ (t.1 0 30).toInt + w100_5.toInt + 1 from by omega) (show w100_4.toInt ≤ 156 from by omega) (show (4 : Int) - w100_5.toInt < (fuel_100 : Int) + 1 from by omega) hP hD hS (lv_sub hl [0, 1, 2, 3, 4, 5] rfl)
  have L_97 : ∀ (t1 : tSt) (w97_2 : Int32) (w97_3 : Int32) (w97_4 : Int32) (H : Heap) (locs : List Loc) (ls : Array Slot), okM t1 → frA [(0, 30)] [] [14] [] t t1 → (0 : Int) ≤ w97_2.toInt ∧ w97_2.toInt ≤ 63 → (0 : Int) ≤ w97_3.toInt ∧ w97_3.toInt ≤ 1 → (0 : Int) ≤ w97_4.toInt ∧ w97_4.toInt ≤ 156 → ((t1.1 0 30).toInt = (t.1 0 30).toInt) → va_P D vwCl (WM K ad t1) H → va_D A (WM K ad t1) → va_S A s.heap H locs → lv_has ls 6 [(0, .ref (ad 0)), (1, .int x1), (2, .int w97_2), (3, .int w97_3), (4, .int w97_4)] → W p l e (rmD 5 0 0) s m [.ref (ad 0), .int x1].toArray below meth c H locs 0 0 (MQ below (QV D K (fun (u : tSt) => okM u ∧ frA [(0, 30)] [] [14] [] t u ∧ ((t.1 0 30).toInt ≤ (u.1 0 30).toInt) ∧ ((u.1 0 30).toInt ≤ (t.1 0 30).toInt + 4)) (fun (u : tSt) => WM K ad u) A) [.ref (ad 0), .int x1].toArray s 0 0 A) (F0 m 97 ls []) := by
    intro t1 w97_2 w97_3 w97_4 H locs ls hok hfr hw97_2 hw97_3 hw97_4 hi97_0 hP hD hS hl
    have h_25 : (0 : Int) ≤ (t1.1 0 30).toInt ∧ (t1.1 0 30).toInt ≤ 120 := hok.1 0 30
    refine lv_iconst (v := 0) C.1 C.2.1 dX12_sayName_97 (by decide) ?_
    refine lv_istore (lv' := [(5, .int 0), (0, .ref (ad 0)), (1, .int x1), (2, .int w97_2), (3, .int w97_3), (4, .int w97_4)]) C.1 C.2.1 dX12_sayName_98 hl (by decide) rfl (fun ls hl => ?_)
    have hl : lv_has ls 6 [(0, .ref (ad 0)), (1, .int x1), (2, .int w97_2), (3, .int w97_3), (4, .int w97_4), (5, .int 0)] := lv_sub hl [1, 2, 3, 4, 5, 0] rfl
    exact L_100 5 t1 w97_2 w97_3 w97_4 0 _ _ _ hok hfr ⟨by omega, by omega⟩ ⟨by omega, by omega⟩ ⟨by omega, by omega⟩ ⟨by decide, by decide⟩ (show (t.1 0 30).toInt ≤ (t1.1 0 30).toInt from by omega) (show (t1.1 0 30).toInt ≤ (t.1 0 30).toInt + 0 from by omega) (show w97_4.toInt ≤ 156 from by omega) (show (4 : Int) - 0 < ((5 : Nat) : Int) from by omega) hP hD hS (lv_sub hl [0, 1, 2, 3, 4, 5] rfl)
  have L_37 : ∀ (fuel_37 : Nat) (t1 : tSt) (w37_2 : Int32) (w37_3 : Int32) (w37_4 : Int32) (H : Heap) (locs : List Loc) (ls : Array Slot), okM t1 → frA [(0, 30)] [] [14] [] t t1 → (0 : Int) ≤ w37_2.toInt ∧ w37_2.toInt ≤ 63 → (0 : Int) ≤ w37_3.toInt ∧ w37_3.toInt ≤ 1 → (0 : Int) ≤ w37_4.toInt ∧ w37_4.toInt ≤ 255 → ((t1.1 0 30).toInt = (t.1 0 30).toInt) → (255 : Int) - w37_4.toInt < (fuel_37 : Int) → va_P D vwCl (WM K ad t1) H → va_D A (WM K ad t1) → va_S A s.heap H locs → lv_has ls 6 [(0, .ref (ad 0)), (1, .int x1), (2, .int w37_2), (3, .int w37_3), (4, .int w37_4)] → W p l e (rmD 5 0 0) s m [.ref (ad 0), .int x1].toArray below meth c H locs 0 0 (MQ below (QV D K (fun (u : tSt) => okM u ∧ frA [(0, 30)] [] [14] [] t u ∧ ((t.1 0 30).toInt ≤ (u.1 0 30).toInt) ∧ ((u.1 0 30).toInt ≤ (t.1 0 30).toInt + 4)) (fun (u : tSt) => WM K ad u) A) [.ref (ad 0), .int x1].toArray s 0 0 A) (F0 m 37 ls []) := by
    intro fuel_37
    induction fuel_37 with
    | zero =>
      intro t1 w37_2 w37_3 w37_4 H locs ls hok hfr hw37_2 hw37_3 hw37_4 hi37_0 hm37_37 hP hD hS hl
      have h_26 : (0 : Int) ≤ (t1.1 0 30).toInt ∧ (t1.1 0 30).toInt ≤ 120 := hok.1 0 30
      exact absurd hm37_37 (by omega)
    | succ fuel_37 ih_37 =>
      intro t1 w37_2 w37_3 w37_4 H locs ls hok hfr hw37_2 hw37_3 hw37_4 hi37_0 hm37_37 hP hD hS hl
      have hm37_37 : (255 : Int) - w37_4.toInt < (fuel_37 : Int) + 1 := by omega
      have h_27 : (0 : Int) ≤ (t1.1 0 30).toInt ∧ (t1.1 0 30).toInt ≤ 120 := hok.1 0 30
      have L_136 : ∀ (t1 : tSt) (w136_2 : Int32) (w136_3 : Int32) (w136_4 : Int32) (H : Heap) (locs : List Loc) (ls : Array Slot), okM t1 → frA [(0, 30)] [] [14] [] t t1 → (0 : Int) ≤ w136_2.toInt ∧ w136_2.toInt ≤ 63 → (0 : Int) ≤ w136_3.toInt ∧ w136_3.toInt ≤ 1 → (0 : Int) ≤ w136_4.toInt ∧ w136_4.toInt ≤ 156 → ((t1.1 0 30).toInt = (t.1 0 30).toInt) → (255 : Int) - w136_4.toInt < (fuel_37 : Int) + 1 → va_P D vwCl (WM K ad t1) H → va_D A (WM K ad t1) → va_S A s.heap H locs → lv_has ls 6 [(0, .ref (ad 0)), (1, .int x1), (2, .int w136_2), (3, .int w136_3), (4, .int w136_4)] → W p l e (rmD 5 0 0) s m [.ref (ad 0), .int x1].toArray below meth c H locs 0 0 (MQ below (QV D K (fun (u : tSt) => okM u ∧ frA [(0, 30)] [] [14] [] t u ∧ ((t.1 0 30).toInt ≤ (u.1 0 30).toInt) ∧ ((u.1 0 30).toInt ≤ (t.1 0 30).toInt + 4)) (fun (u : tSt) => WM K ad u) A) [.ref (ad 0), .int x1].toArray s 0 0 A) (F0 m 136 ls []) := by
        intro t1 w136_2 w136_3 w136_4 H locs ls hok hfr hw136_2 hw136_3 hw136_4 hi136_0 hm136_37 hP hD hS hl
        have h_28 : (0 : Int) ≤ (t1.1 0 30).toInt ∧ (t1.1 0 30).toInt ≤ 120 := hok.1 0 30
        obtain ⟨v_29, e_30⟩ : ∃ z, z = w136_4 + 1 := ⟨_, rfl⟩
        have h_31 : v_29.toInt = w136_4.toInt + 1 := by rw [e_30]; exact ti_iadd (by show (_ : Int) ≤ w136_4.toInt + 1; omega) (by show w136_4.toInt + 1 < (_ : Int); omega)
        refine lv_iinc (v := v_29) (lv' := [(4, .int v_29), (0, .ref (ad 0)), (1, .int x1), (2, .int w136_2), (3, .int w136_3)]) C.1 C.2.1 dX12_sayName_136 hl (k := 4) rfl e_30.symm (by decide) rfl (fun ls hl => ?_)
        have hl : lv_has ls 6 [(0, .ref (ad 0)), (1, .int x1), (2, .int w136_2), (3, .int w136_3), (4, .int v_29)] := lv_sub hl [1, 2, 3, 4, 0] rfl
        refine lv_goto (tgt := 37) C.1 C.2.1 dX12_sayName_139 (by decide) ?_
        exact ih_37 t1 w136_2 w136_3 v_29 _ _ _ hok hfr ⟨by omega, by omega⟩ ⟨by omega, by omega⟩ ⟨by omega, by omega⟩ (show (t1.1 0 30).toInt = (t.1 0 30).toInt from by omega) (show (255 : Int) - v_29.toInt < (fuel_37 : Int) from by omega) hP hD hS (lv_sub hl [0, 1, 2, 3, 4] rfl)
      refine lv_iload C.1 C.2.1 dX12_sayName_37 (lv_at hl 4 rfl) ?_
      refine va_gets C.1 C.2.1 hZ.2.2.2.1 hS C.2.2.2.1 (C.2.2.2.2.1 _ m_33_6) (fun _ h => h) dX12_sayName_39 ?_
      refine va_tlen (v := 157) C.1 C.2.1 hZ.2.2.2.2.1 hS (by decide) dX12_sayName_42 ?_
      refine lv_icmp_ge (tgt := 142) C.1 C.2.1 dX12_sayName_43 (by decide) (fun c_32 => ?_) (fun c_32 => ?_)
      · replace c_32 : 157 ≤ w37_4.toInt := i_le c_32
        refine lv_aload_n C.1 C.2.1 dX12_sayName_142 rfl (lv_at hl 0 rfl) ?_
        refine lv_bipush (v := 63) C.1 C.2.1 dX12_sayName_143 (by decide) ?_
        refine g_Vv (As := [.int 63]) (rest := []) C hP hD hS hA (T_X12_say l D K Z Y ad t1 hok 63 (show (t1.1 0 30).toInt ≤ 119 from by omega)) hE hZ (uwV m_42_13 m_42_14 m_42_15 m_1_5 m_42_16) (hdV 1 (by decide +kernel) rfl) ⟨Nat.le_of_ble_eq_true rfl, Nat.le_of_ble_eq_true rfl⟩ rfl rfl (ci := 11) (q0 := 0) rfl rfl rfl hl.1 (Nat.le_of_ble_eq_true rfl) dX12_sayName_145 ⟨Nat.le_of_ble_eq_true rfl, Nat.le_of_ble_eq_true rfl⟩ (fun t_33 H locs hw hP hD hS => ?_)
        obtain ⟨hok, f_35, p_36⟩ := hw
        have hfr : frA [(0, 30)] [] [14] [] t t_33 := frA_tr hfr f_35 rfl
        have h_37 : (0 : Int) ≤ (t_33.1 0 30).toInt ∧ (t_33.1 0 30).toInt ≤ 120 := hok.1 0 30
        replace p_36 : (t_33.1 0 30).toInt = (t1.1 0 30).toInt + 1 := p_36
        exact g_vret C hr hlocks hP hD hS t_33 rfl ⟨hok, hfr, (show (t.1 0 30).toInt ≤ (t_33.1 0 30).toInt from by omega), (show (t_33.1 0 30).toInt ≤ (t.1 0 30).toInt + 4 from by omega)⟩ (Nat.le_of_ble_eq_true rfl) (Nat.le_of_ble_eq_true rfl) dX12_sayName_148
      · replace c_32 : w37_4.toInt < 157 := i_nle c_32
        refine va_gets C.1 C.2.1 hZ.2.2.2.1 hS C.2.2.2.1 (C.2.2.2.2.1 _ m_33_6) (fun _ h => h) dX12_sayName_46 ?_
        refine lv_iload C.1 C.2.1 dX12_sayName_49 (lv_at hl 4 rfl) ?_
        obtain ⟨v_38, e_39⟩ : ∃ z, z = cCod.getD (w37_4 : Int32).toNatClampNeg 0 := ⟨_, rfl⟩
        have h_40 : (0 : Int) ≤ v_38.toInt ∧ v_38.toInt ≤ 6000 := by rw [e_39]; exact cCod_r _
        refine va_ti C.1 C.2.1 hZ.2.2.2.2.1 hS (vp_in_iff.mpr ⟨by omega, by omega⟩) (congrArg Value.int e_39.symm) dX12_sayName_51 ?_
        refine lv_sipush (v := 5000) C.1 C.2.1 dX12_sayName_52 (by decide) ?_
        refine lv_icmp_ge (tgt := 136) C.1 C.2.1 dX12_sayName_55 (by decide) (fun c_41 => ?_) (fun c_41 => ?_)
        · replace c_41 : 5000 ≤ v_38.toInt := i_le c_41
          exact L_136 t1 w37_2 w37_3 w37_4 _ _ _ hok hfr ⟨by omega, by omega⟩ ⟨by omega, by omega⟩ ⟨by omega, by omega⟩ (show (t1.1 0 30).toInt = (t.1 0 30).toInt from by omega) (show (255 : Int) - w37_4.toInt < (fuel_37 : Int) + 1 from by omega) hP hD hS (lv_sub hl [0, 1, 2, 3, 4] rfl)
        · replace c_41 : v_38.toInt < 5000 := i_nle c_41
          refine va_gets C.1 C.2.1 hZ.2.2.2.1 hS C.2.2.2.1 (C.2.2.2.2.1 _ m_33_6) (fun _ h => h) dX12_sayName_58 ?_
          refine lv_iload C.1 C.2.1 dX12_sayName_61 (lv_at hl 4 rfl) ?_
          obtain ⟨v_42, e_43⟩ : ∃ z, z = cCod.getD (w37_4 : Int32).toNatClampNeg 0 := ⟨_, rfl⟩
          have h_44 : (0 : Int) ≤ v_42.toInt ∧ v_42.toInt ≤ 6000 := by rw [e_43]; exact cCod_r _
          refine va_ti C.1 C.2.1 hZ.2.2.2.2.1 hS (vp_in_iff.mpr ⟨by omega, by omega⟩) (congrArg Value.int e_43.symm) dX12_sayName_63 ?_
          refine lv_bipush (v := 6) C.1 C.2.1 dX12_sayName_64 (by decide) ?_
          obtain ⟨v_45, e_46⟩ : ∃ z, z = (v_42 : Int32) >>> ((6 : Int32) &&& 31) := ⟨_, rfl⟩
          have h_47 : v_45.toInt = v_42.toInt / 2 ^ 6 := by rw [e_46]; exact Jvm.Kit.i32_shr _ _ (k := 6) (by decide)
          refine k_ishr (v := v_45) C e_46.symm dX12_sayName_66 ?_
          refine lv_iload_n C.1 C.2.1 dX12_sayName_67 rfl (lv_at hl 2 rfl) ?_
          refine lv_icmp_ne (tgt := 136) C.1 C.2.1 dX12_sayName_68 (by decide) (fun c_48 => ?_) (fun c_48 => ?_)
          · replace c_48 : ¬ v_45.toInt = w37_2.toInt := i_ne c_48
            exact L_136 t1 w37_2 w37_3 w37_4 _ _ _ hok hfr ⟨by omega, by omega⟩ ⟨by omega, by omega⟩ ⟨by omega, by omega⟩ (show (t1.1 0 30).toInt = (t.1 0 30).toInt from by omega) (show (255 : Int) - w37_4.toInt < (fuel_37 : Int) + 1 from by omega) hP hD hS (lv_sub hl [0, 1, 2, 3, 4] rfl)
          · replace c_48 : v_45.toInt = w37_2.toInt := i_eq c_48
            refine lv_iload_n C.1 C.2.1 dX12_sayName_71 rfl (lv_at hl 3 rfl) ?_
            refine lv_if_eq (tgt := 97) C.1 C.2.1 dX12_sayName_72 (by decide) (fun c_49 => ?_) (fun c_49 => ?_)
            · replace c_49 : w37_3.toInt = 0 := i_eq c_49
              exact L_97 t1 w37_2 w37_3 w37_4 _ _ _ hok hfr ⟨by omega, by omega⟩ ⟨by omega, by omega⟩ ⟨by omega, by omega⟩ (show (t1.1 0 30).toInt = (t.1 0 30).toInt from by omega) hP hD hS (lv_sub hl [0, 1, 2, 3, 4] rfl)
            · replace c_49 : ¬ w37_3.toInt = 0 := i_ne c_49
              refine va_gets C.1 C.2.1 hZ.2.2.2.1 hS C.2.2.2.1 (C.2.2.2.2.1 _ m_33_6) (fun _ h => h) dX12_sayName_75 ?_
              refine lv_iload C.1 C.2.1 dX12_sayName_78 (lv_at hl 4 rfl) ?_
              obtain ⟨v_50, e_51⟩ : ∃ z, z = cCod.getD (w37_4 : Int32).toNatClampNeg 0 := ⟨_, rfl⟩
              have h_52 : (0 : Int) ≤ v_50.toInt ∧ v_50.toInt ≤ 6000 := by rw [e_51]; exact cCod_r _
              refine va_ti C.1 C.2.1 hZ.2.2.2.2.1 hS (vp_in_iff.mpr ⟨by omega, by omega⟩) (congrArg Value.int e_51.symm) dX12_sayName_80 ?_
              refine lv_bipush (v := 63) C.1 C.2.1 dX12_sayName_81 (by decide) ?_
              obtain ⟨v_53, e_54⟩ : ∃ z, z = (v_50 : Int32) &&& (63 : Int32) := ⟨_, rfl⟩
              have h_55 : v_53.toInt = v_50.toInt % 2 ^ 6 := by rw [e_54]; exact Jvm.Kit.i32_mask _ _ (k := 6) (by decide) (by decide)
              refine k_iand (v := v_53) C e_54.symm dX12_sayName_83 ?_
              refine lv_iload_n C.1 C.2.1 dX12_sayName_84 rfl (lv_at hl 1 rfl) ?_
              refine lv_bipush (v := 6) C.1 C.2.1 dX12_sayName_85 (by decide) ?_
              obtain ⟨v_56, e_57⟩ : ∃ z, z = (x1 : Int32) >>> ((6 : Int32) &&& 31) := ⟨_, rfl⟩
              have h_58 : v_56.toInt = x1.toInt / 2 ^ 6 := by rw [e_57]; exact Jvm.Kit.i32_shr _ _ (k := 6) (by decide)
              refine k_ishr (v := v_56) C e_57.symm dX12_sayName_87 ?_
              refine lv_bipush (v := 63) C.1 C.2.1 dX12_sayName_88 (by decide) ?_
              obtain ⟨v_59, e_60⟩ : ∃ z, z = (v_56 : Int32) &&& (63 : Int32) := ⟨_, rfl⟩
              have h_61 : v_59.toInt = v_56.toInt % 2 ^ 6 := by rw [e_60]; exact Jvm.Kit.i32_mask _ _ (k := 6) (by decide) (by decide)
              refine k_iand (v := v_59) C e_60.symm dX12_sayName_90 ?_
              refine lv_icmp_eq (tgt := 97) C.1 C.2.1 dX12_sayName_91 (by decide) (fun c_62 => ?_) (fun c_62 => ?_)
              · replace c_62 : v_53.toInt = v_59.toInt := i_eq c_62
                exact L_97 t1 w37_2 w37_3 w37_4 _ _ _ hok hfr ⟨by omega, by omega⟩ ⟨by omega, by omega⟩ ⟨by omega, by omega⟩ (show (t1.1 0 30).toInt = (t.1 0 30).toInt from by omega) hP hD hS (lv_sub hl [0, 1, 2, 3, 4] rfl)
              · replace c_62 : ¬ v_53.toInt = v_59.toInt := i_ne c_62
                refine lv_goto (tgt := 136) C.1 C.2.1 dX12_sayName_94 (by decide) ?_
                exact L_136 t1 w37_2 w37_3 w37_4 _ _ _ hok hfr ⟨by omega, by omega⟩ ⟨by omega, by omega⟩ ⟨by omega, by omega⟩ (show (t1.1 0 30).toInt = (t.1 0 30).toInt from by omega) (show (255 : Int) - w37_4.toInt < (fuel_37 : Int) + 1 from by omega) hP hD hS (lv_sub hl [0, 1, 2, 3, 4] rfl)
  have L_33 : ∀ (t1 : tSt) (w33_2 : Int32) (k33_0 : Int32) (H : Heap) (locs : List Loc) (ls : Array Slot), okM t1 → frA [(0, 30)] [] [14] [] t t1 → (0 : Int) ≤ w33_2.toInt ∧ w33_2.toInt ≤ 63 → (0 : Int) ≤ k33_0.toInt ∧ k33_0.toInt ≤ 1 → ((t1.1 0 30).toInt = (t.1 0 30).toInt) → va_P D vwCl (WM K ad t1) H → va_D A (WM K ad t1) → va_S A s.heap H locs → lv_has ls 6 [(0, .ref (ad 0)), (1, .int x1), (2, .int w33_2)] → W p l e (rmD 5 0 0) s m [.ref (ad 0), .int x1].toArray below meth c H locs 0 0 (MQ below (QV D K (fun (u : tSt) => okM u ∧ frA [(0, 30)] [] [14] [] t u ∧ ((t.1 0 30).toInt ≤ (u.1 0 30).toInt) ∧ ((u.1 0 30).toInt ≤ (t.1 0 30).toInt + 4)) (fun (u : tSt) => WM K ad u) A) [.ref (ad 0), .int x1].toArray s 0 0 A) (F0 m 33 ls [.int k33_0]) := by
    intro t1 w33_2 k33_0 H locs ls hok hfr hw33_2 hk33_0 hi33_0 hP hD hS hl
    have h_63 : (0 : Int) ≤ (t1.1 0 30).toInt ∧ (t1.1 0 30).toInt ≤ 120 := hok.1 0 30
    refine lv_istore_n (lv' := [(3, .int k33_0), (0, .ref (ad 0)), (1, .int x1), (2, .int w33_2)]) C.1 C.2.1 dX12_sayName_33 rfl hl (by decide) rfl (fun ls hl => ?_)
    have hl : lv_has ls 6 [(0, .ref (ad 0)), (1, .int x1), (2, .int w33_2), (3, .int k33_0)] := lv_sub hl [1, 2, 3, 0] rfl
    refine lv_iconst (v := 0) C.1 C.2.1 dX12_sayName_34 (by decide) ?_
    refine lv_istore (lv' := [(4, .int 0), (0, .ref (ad 0)), (1, .int x1), (2, .int w33_2), (3, .int k33_0)]) C.1 C.2.1 dX12_sayName_35 hl (by decide) rfl (fun ls hl => ?_)
    have hl : lv_has ls 6 [(0, .ref (ad 0)), (1, .int x1), (2, .int w33_2), (3, .int k33_0), (4, .int 0)] := lv_sub hl [1, 2, 3, 4, 0] rfl
    exact L_37 256 t1 w33_2 k33_0 0 _ _ _ hok hfr ⟨by omega, by omega⟩ ⟨by omega, by omega⟩ ⟨by decide, by decide⟩ (show (t1.1 0 30).toInt = (t.1 0 30).toInt from by omega) (show (255 : Int) - 0 < ((256 : Nat) : Int) from by omega) hP hD hS (lv_sub hl [0, 1, 2, 3, 4] rfl)
  have L_32 : ∀ (t1 : tSt) (w32_2 : Int32) (H : Heap) (locs : List Loc) (ls : Array Slot), okM t1 → frA [(0, 30)] [] [14] [] t t1 → (0 : Int) ≤ w32_2.toInt ∧ w32_2.toInt ≤ 63 → ((t1.1 0 30).toInt = (t.1 0 30).toInt) → va_P D vwCl (WM K ad t1) H → va_D A (WM K ad t1) → va_S A s.heap H locs → lv_has ls 6 [(0, .ref (ad 0)), (1, .int x1), (2, .int w32_2)] → W p l e (rmD 5 0 0) s m [.ref (ad 0), .int x1].toArray below meth c H locs 0 0 (MQ below (QV D K (fun (u : tSt) => okM u ∧ frA [(0, 30)] [] [14] [] t u ∧ ((t.1 0 30).toInt ≤ (u.1 0 30).toInt) ∧ ((u.1 0 30).toInt ≤ (t.1 0 30).toInt + 4)) (fun (u : tSt) => WM K ad u) A) [.ref (ad 0), .int x1].toArray s 0 0 A) (F0 m 32 ls []) := by
    intro t1 w32_2 H locs ls hok hfr hw32_2 hi32_0 hP hD hS hl
    have h_64 : (0 : Int) ≤ (t1.1 0 30).toInt ∧ (t1.1 0 30).toInt ≤ 120 := hok.1 0 30
    refine lv_iconst (v := 0) C.1 C.2.1 dX12_sayName_32 (by decide) ?_
    exact L_33 t1 w32_2 0 _ _ _ hok hfr ⟨by omega, by omega⟩ ⟨by decide, by decide⟩ (show (t1.1 0 30).toInt = (t.1 0 30).toInt from by omega) hP hD hS (lv_sub hl [0, 1, 2] rfl)
  have L_28 : ∀ (t1 : tSt) (w28_2 : Int32) (H : Heap) (locs : List Loc) (ls : Array Slot), okM t1 → frA [(0, 30)] [] [14] [] t t1 → (5 : Int) ≤ w28_2.toInt ∧ w28_2.toInt ≤ 55 → ((t1.1 0 30).toInt = (t.1 0 30).toInt) → va_P D vwCl (WM K ad t1) H → va_D A (WM K ad t1) → va_S A s.heap H locs → lv_has ls 6 [(0, .ref (ad 0)), (1, .int x1), (2, .int w28_2)] → W p l e (rmD 5 0 0) s m [.ref (ad 0), .int x1].toArray below meth c H locs 0 0 (MQ below (QV D K (fun (u : tSt) => okM u ∧ frA [(0, 30)] [] [14] [] t u ∧ ((t.1 0 30).toInt ≤ (u.1 0 30).toInt) ∧ ((u.1 0 30).toInt ≤ (t.1 0 30).toInt + 4)) (fun (u : tSt) => WM K ad u) A) [.ref (ad 0), .int x1].toArray s 0 0 A) (F0 m 28 ls []) := by
    intro t1 w28_2 H locs ls hok hfr hw28_2 hi28_0 hP hD hS hl
    have h_65 : (0 : Int) ≤ (t1.1 0 30).toInt ∧ (t1.1 0 30).toInt ≤ 120 := hok.1 0 30
    refine lv_iconst (v := 1) C.1 C.2.1 dX12_sayName_28 (by decide) ?_
    refine lv_goto (tgt := 33) C.1 C.2.1 dX12_sayName_29 (by decide) ?_
    exact L_33 t1 w28_2 1 _ _ _ hok hfr ⟨by omega, by omega⟩ ⟨by decide, by decide⟩ (show (t1.1 0 30).toInt = (t.1 0 30).toInt from by omega) hP hD hS (lv_sub hl [0, 1, 2] rfl)
  refine lv_iload_n C.1 C.2.1 dX12_sayName_0 rfl (lv_at hl 1 rfl) ?_
  refine lv_bipush (v := 63) C.1 C.2.1 dX12_sayName_1 (by decide) ?_
  obtain ⟨v_66, e_67⟩ : ∃ z, z = (x1 : Int32) &&& (63 : Int32) := ⟨_, rfl⟩
  have h_68 : v_66.toInt = x1.toInt % 2 ^ 6 := by rw [e_67]; exact Jvm.Kit.i32_mask _ _ (k := 6) (by decide) (by decide)
  refine k_iand (v := v_66) C e_67.symm dX12_sayName_3 ?_
  refine lv_istore_n (lv' := [(2, .int v_66), (0, .ref (ad 0)), (1, .int x1)]) C.1 C.2.1 dX12_sayName_4 rfl hl (by decide) rfl (fun ls hl => ?_)
  have hl : lv_has ls 6 [(0, .ref (ad 0)), (1, .int x1), (2, .int v_66)] := lv_sub hl [1, 2, 0] rfl
  refine lv_iload_n C.1 C.2.1 dX12_sayName_5 rfl (lv_at hl 2 rfl) ?_
  refine lv_iconst (v := 5) C.1 C.2.1 dX12_sayName_6 (by decide) ?_
  refine lv_icmp_eq (tgt := 28) C.1 C.2.1 dX12_sayName_7 (by decide) (fun c_69 => ?_) (fun c_69 => ?_)
  · replace c_69 : v_66.toInt = 5 := i_eq c_69
    exact L_28 t v_66 _ _ _ hok hfr ⟨by omega, by omega⟩ (show (t.1 0 30).toInt = (t.1 0 30).toInt from by omega) hP hD hS (lv_sub hl [0, 1, 2] rfl)
  · replace c_69 : ¬ v_66.toInt = 5 := i_ne c_69
    refine lv_iload_n C.1 C.2.1 dX12_sayName_10 rfl (lv_at hl 2 rfl) ?_
    refine lv_bipush (v := 6) C.1 C.2.1 dX12_sayName_11 (by decide) ?_
    refine lv_icmp_eq (tgt := 28) C.1 C.2.1 dX12_sayName_13 (by decide) (fun c_70 => ?_) (fun c_70 => ?_)
    · replace c_70 : v_66.toInt = 6 := i_eq c_70
      exact L_28 t v_66 _ _ _ hok hfr ⟨by omega, by omega⟩ (show (t.1 0 30).toInt = (t.1 0 30).toInt from by omega) hP hD hS (lv_sub hl [0, 1, 2] rfl)
    · replace c_70 : ¬ v_66.toInt = 6 := i_ne c_70
      refine lv_iload_n C.1 C.2.1 dX12_sayName_16 rfl (lv_at hl 2 rfl) ?_
      refine lv_bipush (v := 38) C.1 C.2.1 dX12_sayName_17 (by decide) ?_
      refine lv_icmp_le (tgt := 32) C.1 C.2.1 dX12_sayName_19 (by decide) (fun c_71 => ?_) (fun c_71 => ?_)
      · replace c_71 : v_66.toInt ≤ 38 := i_le c_71
        exact L_32 t v_66 _ _ _ hok hfr ⟨by omega, by omega⟩ (show (t.1 0 30).toInt = (t.1 0 30).toInt from by omega) hP hD hS (lv_sub hl [0, 1, 2] rfl)
      · replace c_71 : 38 < v_66.toInt := i_nle c_71
        refine lv_iload_n C.1 C.2.1 dX12_sayName_22 rfl (lv_at hl 2 rfl) ?_
        refine lv_bipush (v := 56) C.1 C.2.1 dX12_sayName_23 (by decide) ?_
        refine lv_icmp_ge (tgt := 32) C.1 C.2.1 dX12_sayName_25 (by decide) (fun c_72 => ?_) (fun c_72 => ?_)
        · replace c_72 : 56 ≤ v_66.toInt := i_le c_72
          exact L_32 t v_66 _ _ _ hok hfr ⟨by omega, by omega⟩ (show (t.1 0 30).toInt = (t.1 0 30).toInt from by omega) hP hD hS (lv_sub hl [0, 1, 2] rfl)
        · replace c_72 : v_66.toInt < 56 := i_nle c_72
          exact L_28 t v_66 _ _ _ hok hfr ⟨by omega, by omega⟩ (show (t.1 0 30).toInt = (t.1 0 30).toInt from by omega) hP hD hS (lv_sub hl [0, 1, 2] rfl)
