theorem dX12_sizeOf_0 : decode cX12_sizeOf 0 = .ok (.iload_n 0, 1) := by decide +kernel
theorem dX12_sizeOf_1 : decode cX12_sizeOf 1 = .ok (.bipush 16, 2) := by decide +kernel
theorem dX12_sizeOf_11 : decode cX12_sizeOf 11 = .ok (.iload_n 0, 1) := by decide +kernel
theorem dX12_sizeOf_12 : decode cX12_sizeOf 12 = .ok (.bipush 16, 2) := by decide +kernel
theorem dX12_sizeOf_14 : decode cX12_sizeOf 14 = .ok (.if_icmp .eq 9, 3) := by decide +kernel
theorem dX12_sizeOf_17 : decode cX12_sizeOf 17 = .ok (.iload_n 0, 1) := by decide +kernel
theorem dX12_sizeOf_18 : decode cX12_sizeOf 18 = .ok (.bipush 17, 2) := by decide +kernel
theorem dX12_sizeOf_20 : decode cX12_sizeOf 20 = .ok (.if_icmp .ne 8, 3) := by decide +kernel
theorem dX12_sizeOf_23 : decode cX12_sizeOf 23 = .ok (.bipush 16, 2) := by decide +kernel
theorem dX12_sizeOf_25 : decode cX12_sizeOf 25 = .ok (.goto 16, 3) := by decide +kernel
theorem dX12_sizeOf_28 : decode cX12_sizeOf 28 = .ok (.iload_n 0, 1) := by decide +kernel
theorem dX12_sizeOf_29 : decode cX12_sizeOf 29 = .ok (.bipush 18, 2) := by decide +kernel
theorem dX12_sizeOf_3 : decode cX12_sizeOf 3 = .ok (.if_icmp .ge 8, 3) := by decide +kernel
theorem dX12_sizeOf_31 : decode cX12_sizeOf 31 = .ok (.if_icmp .ne 8, 3) := by decide +kernel
theorem dX12_sizeOf_34 : decode cX12_sizeOf 34 = .ok (.bipush 24, 2) := by decide +kernel
theorem dX12_sizeOf_36 : decode cX12_sizeOf 36 = .ok (.goto 5, 3) := by decide +kernel
theorem dX12_sizeOf_39 : decode cX12_sizeOf 39 = .ok (.bipush 14, 2) := by decide +kernel
theorem dX12_sizeOf_41 : decode cX12_sizeOf 41 = .ok (.ireturn, 1) := by decide +kernel
theorem dX12_sizeOf_6 : decode cX12_sizeOf 6 = .ok (.bipush 100, 2) := by decide +kernel
theorem dX12_sizeOf_8 : decode cX12_sizeOf 8 = .ok (.goto 33, 3) := by decide +kernel
set_option maxHeartbeats 4000000 in
set_option maxRecDepth 100000 in
theorem T_X12_sizeOf (l : Launch) (D : va_G) (K : Nat → ClassId) (Z Y : Nat → Nat) (ad : Nat → Nat) (t : tSt) (hok : okM t) (x0 : Int32) (hx0 : (-1 : Int) ≤ x0.toInt ∧ x0.toInt ≤ 19) : tMet l yX12_sizeOf cX12_sizeOf 1 (some .int) (rmD 0 0 0) D K Z Y [.int x0] (WM K ad t) (QI D K (fun (r : Int32) (u : Unit) => (14 : Int) ≤ r.toInt ∧ r.toInt ≤ 100 ∧ (x0.toInt < 16 → r.toInt = 100) ∧ (x0.toInt = 16 ∨ x0.toInt = 17 → r.toInt = 16) ∧ (x0.toInt = 18 → r.toInt = 24) ∧ (x0.toInt = 19 → r.toInt = 14)) (fun (_ : Unit) => WM K ad t)) 0 0 := by
  refine t_met RX12 ⟨rfl, by decide +kernel⟩ (Nat.le_of_ble_eq_true rfl) ?_
  intro p e s m below meth c A ls C hE hZ hr hlocks hA hP hD hS hl
  have hl : lv_has ls 1 [(0, .int x0)] := hl
  refine lv_iload_n C.1 C.2.1 dX12_sizeOf_0 rfl (lv_at hl 0 rfl) ?_
  refine lv_bipush (v := 16) C.1 C.2.1 dX12_sizeOf_1 (by decide) ?_
  refine lv_icmp_ge (tgt := 11) C.1 C.2.1 dX12_sizeOf_3 (by decide) (fun c_1 => ?_) (fun c_1 => ?_)
  · replace c_1 : 16 ≤ x0.toInt := i_le c_1
    refine lv_iload_n C.1 C.2.1 dX12_sizeOf_11 rfl (lv_at hl 0 rfl) ?_
    refine lv_bipush (v := 16) C.1 C.2.1 dX12_sizeOf_12 (by decide) ?_
    refine lv_icmp_eq (tgt := 23) C.1 C.2.1 dX12_sizeOf_14 (by decide) (fun c_2 => ?_) (fun c_2 => ?_)
    · replace c_2 : x0.toInt = 16 := i_eq c_2
      refine lv_bipush (v := 16) C.1 C.2.1 dX12_sizeOf_23 (by decide) ?_
      refine lv_goto (tgt := 41) C.1 C.2.1 dX12_sizeOf_25 (by decide) ?_
      exact g_iret C hr hlocks hP hD hS rfl () rfl ⟨by decide, by decide, (show x0.toInt < 16 → 16 = 100 from by omega), (show x0.toInt = 16 ∨ x0.toInt = 17 → 16 = 16 from by omega), (show x0.toInt = 18 → 16 = 24 from by omega), (show x0.toInt = 19 → 16 = 14 from by omega)⟩ (Nat.le_of_ble_eq_true rfl) (Nat.le_of_ble_eq_true rfl) dX12_sizeOf_41
    · replace c_2 : ¬ x0.toInt = 16 := i_ne c_2
      refine lv_iload_n C.1 C.2.1 dX12_sizeOf_17 rfl (lv_at hl 0 rfl) ?_
      refine lv_bipush (v := 17) C.1 C.2.1 dX12_sizeOf_18 (by decide) ?_
      refine lv_icmp_ne (tgt := 28) C.1 C.2.1 dX12_sizeOf_20 (by decide) (fun c_3 => ?_) (fun c_3 => ?_)
      · replace c_3 : ¬ x0.toInt = 17 := i_ne c_3
        refine lv_iload_n C.1 C.2.1 dX12_sizeOf_28 rfl (lv_at hl 0 rfl) ?_
        refine lv_bipush (v := 18) C.1 C.2.1 dX12_sizeOf_29 (by decide) ?_
        refine lv_icmp_ne (tgt := 39) C.1 C.2.1 dX12_sizeOf_31 (by decide) (fun c_4 => ?_) (fun c_4 => ?_)
        · replace c_4 : ¬ x0.toInt = 18 := i_ne c_4
          refine lv_bipush (v := 14) C.1 C.2.1 dX12_sizeOf_39 (by decide) ?_
          exact g_iret C hr hlocks hP hD hS rfl () rfl ⟨by decide, by decide, (show x0.toInt < 16 → 14 = 100 from by omega), (show x0.toInt = 16 ∨ x0.toInt = 17 → 14 = 16 from by omega), (show x0.toInt = 18 → 14 = 24 from by omega), (show x0.toInt = 19 → 14 = 14 from by omega)⟩ (Nat.le_of_ble_eq_true rfl) (Nat.le_of_ble_eq_true rfl) dX12_sizeOf_41
        · replace c_4 : x0.toInt = 18 := i_eq c_4
          refine lv_bipush (v := 24) C.1 C.2.1 dX12_sizeOf_34 (by decide) ?_
          refine lv_goto (tgt := 41) C.1 C.2.1 dX12_sizeOf_36 (by decide) ?_
          exact g_iret C hr hlocks hP hD hS rfl () rfl ⟨by decide, by decide, (show x0.toInt < 16 → 24 = 100 from by omega), (show x0.toInt = 16 ∨ x0.toInt = 17 → 24 = 16 from by omega), (show x0.toInt = 18 → 24 = 24 from by omega), (show x0.toInt = 19 → 24 = 14 from by omega)⟩ (Nat.le_of_ble_eq_true rfl) (Nat.le_of_ble_eq_true rfl) dX12_sizeOf_41
      · replace c_3 : x0.toInt = 17 := i_eq c_3
        refine lv_bipush (v := 16) C.1 C.2.1 dX12_sizeOf_23 (by decide) ?_
        refine lv_goto (tgt := 41) C.1 C.2.1 dX12_sizeOf_25 (by decide) ?_
        exact g_iret C hr hlocks hP hD hS rfl () rfl ⟨by decide, by decide, (show x0.toInt < 16 → 16 = 100 from by omega), (show x0.toInt = 16 ∨ x0.toInt = 17 → 16 = 16 from by omega), (show x0.toInt = 18 → 16 = 24 from by omega), (show x0.toInt = 19 → 16 = 14 from by omega)⟩ (Nat.le_of_ble_eq_true rfl) (Nat.le_of_ble_eq_true rfl) dX12_sizeOf_41
  · replace c_1 : x0.toInt < 16 := i_nle c_1
    refine lv_bipush (v := 100) C.1 C.2.1 dX12_sizeOf_6 (by decide) ?_
    refine lv_goto (tgt := 41) C.1 C.2.1 dX12_sizeOf_8 (by decide) ?_
    exact g_iret C hr hlocks hP hD hS rfl () rfl ⟨by decide, by decide, (show x0.toInt < 16 → 100 = 100 from by omega), (show x0.toInt = 16 ∨ x0.toInt = 17 → 100 = 16 from by omega), (show x0.toInt = 18 → 100 = 24 from by omega), (show x0.toInt = 19 → 100 = 14 from by omega)⟩ (Nat.le_of_ble_eq_true rfl) (Nat.le_of_ble_eq_true rfl) dX12_sizeOf_41


set_option maxHeartbeats 4000000 in
set_option maxRecDepth 100000 in
theorem T_X12_addCard_1 (l : Launch) (D : va_G) (K : Nat → ClassId) (Z Y : Nat → Nat) (ad : Nat → Nat) (t : tSt) (hok : okM t) (x2 : Int32) (hx2 : (0 : Int) ≤ x2.toInt ∧ x2.toInt ≤ 1280) (x3 : Int32) (hx3 : (0 : Int) ≤ x3.toInt ∧ x3.toInt ≤ 1280) (hs0 : (t.1 0 36).toInt ≤ 1690) (hs1 : x2.toInt ≤ x3.toInt) (hs2 : lastLe (t.1 0 36) (t.2.2.1 17) (33280 - (x3.toInt - x2.toInt))) : tMet l yX12_addCard cX12_addCard 7 none (rmD 0 0 0) D K Z Y [.ref (ad 0), .ref (ad 36), .int x2, .int x3] (WM K ad t) (QV D K (fun (u : tSt) => okM u ∧ frA [(0, 36)] [] [15, 16, 17] [] t u ∧ ((u.1 0 36).toInt = (t.1 0 36).toInt + 1) ∧ (∀ b : Int, lastLe (t.1 0 36) (t.2.2.1 17) b → lastLe (u.1 0 36) (u.2.2.1 17) (b + (x3.toInt - x2.toInt)))) (fun (u : tSt) => WM K ad u)) 0 0 := by
  refine t_met RX12 ⟨rfl, by decide +kernel⟩ (Nat.le_of_ble_eq_true rfl) ?_
  intro p e s m below meth c A ls C hE hZ hr hlocks hA hP hD hS hl
  have hl : lv_has ls 7 [(0, .ref (ad 0)), (1, .ref (ad 36)), (2, .int x2), (3, .int x3)] := hl
  have hokt := hok
  have hfr : frA [(0, 36)] [] [15, 16, 17] [] t t := frA_rf
  have h_1 : (0 : Int) ≤ (t.1 0 35).toInt ∧ (t.1 0 35).toInt ≤ 1700 := hok.1 0 35
  have h_2 : (0 : Int) ≤ (t.1 0 36).toInt ∧ (t.1 0 36).toInt ≤ 1700 := hok.1 0 36
  have L_56 : ∀ (fuel_56 : Nat) (t1 : tSt) (w56_4 : Int32) (w56_5 : Int32) (w56_6 : Int32) (H : Heap) (locs : List Loc) (ls : Array Slot), okM t1 → frA [(0, 36)] [] [15, 16, 17] [] t t1 → (0 : Int) ≤ w56_4.toInt ∧ w56_4.toInt ≤ 33300 → (-1280 : Int) ≤ w56_5.toInt ∧ w56_5.toInt ≤ 1280 → (0 : Int) ≤ w56_6.toInt ∧ w56_6.toInt ≤ 3999 → (∀ b : Int, lastLe (t.1 0 36) (t.2.2.1 17) b → w56_4.toInt ≤ b) → (w56_4.toInt ≤ 33280 - (x3.toInt - x2.toInt)) → (0 ≤ w56_4.toInt) → (w56_5.toInt ≤ 80) → (w56_5.toInt ≤ x3.toInt - x2.toInt) → (0 ≤ w56_5.toInt) → ((t1.1 0 36).toInt = (t.1 0 36).toInt) → ((t1.2.2.1 16 ((t1.1 0 36) : Int32).toNatClampNeg).toInt = w56_4.toInt) → (3999 : Int) - w56_6.toInt < (fuel_56 : Int) → va_P D vwCl (WM K ad t1) H → va_D A (WM K ad t1) → va_S A s.heap H locs → lv_has ls 7 [(0, .ref (ad 0)), (1, .ref (ad 36)), (2, .int x2), (3, .int x3), (4, .int w56_4), (5, .int w56_5), (6, .int w56_6)] → W p l e (rmD 0 0 0) s m [.ref (ad 0), .ref (ad 36), .int x2, .int x3].toArray below meth c H locs 0 0 (MQ below (QV D K (fun (u : tSt) => okM u ∧ frA [(0, 36)] [] [15, 16, 17] [] t u ∧ ((u.1 0 36).toInt = (t.1 0 36).toInt + 1) ∧ (∀ b : Int, lastLe (t.1 0 36) (t.2.2.1 17) b → lastLe (u.1 0 36) (u.2.2.1 17) (b + (x3.toInt - x2.toInt)))) (fun (u : tSt) => WM K ad u) A) [.ref (ad 0), .ref (ad 36), .int x2, .int x3].toArray s 0 0 A) (F0 m 56 ls []) := by
    intro fuel_56
    induction fuel_56 with
    | zero =>
      intro t1 w56_4 w56_5 w56_6 H locs ls hok hfr hw56_4 hw56_5 hw56_6 hi56_0 hi56_1 hi56_2 hi56_3 hi56_4 hi56_5 hi56_6 hi56_7 hm56_56 hP hD hS hl
      have h_3 : (t1.1 0 35).toInt = (t.1 0 35).toInt := ti_eq (hfr.1 0 35 rfl)
      have h_4 : (0 : Int) ≤ (t1.1 0 35).toInt ∧ (t1.1 0 35).toInt ≤ 1700 := hok.1 0 35
      have h_5 : (0 : Int) ≤ (t1.1 0 36).toInt ∧ (t1.1 0 36).toInt ≤ 1700 := hok.1 0 36
      exact absurd hm56_56 (by omega)
    | succ fuel_56 ih_56 =>
      intro t1 w56_4 w56_5 w56_6 H locs ls hok hfr hw56_4 hw56_5 hw56_6 hi56_0 hi56_1 hi56_2 hi56_3 hi56_4 hi56_5 hi56_6 hi56_7 hm56_56 hP hD hS hl
      have hm56_56 : (3999 : Int) - w56_6.toInt < (fuel_56 : Int) + 1 := by omega
      have h_6 : (t1.1 0 35).toInt = (t.1 0 35).toInt := ti_eq (hfr.1 0 35 rfl)
      have h_7 : (0 : Int) ≤ (t1.1 0 35).toInt ∧ (t1.1 0 35).toInt ≤ 1700 := hok.1 0 35
      have h_8 : (0 : Int) ≤ (t1.1 0 36).toInt ∧ (t1.1 0 36).toInt ≤ 1700 := hok.1 0 36
      refine lv_iload C.1 C.2.1 dX12_addCard_56 (lv_at hl 6 rfl) ?_
      refine lv_iload C.1 C.2.1 dX12_addCard_58 (lv_at hl 5 rfl) ?_
      refine lv_icmp_ge (tgt := 85) C.1 C.2.1 dX12_addCard_60 (by decide) (fun c_9 => ?_) (fun c_9 => ?_)
      · replace c_9 : w56_5.toInt ≤ w56_6.toInt := i_le c_9
        refine lv_aload_n C.1 C.2.1 dX12_addCard_85 rfl (lv_at hl 0 rfl) ?_
        refine k_get (v := .ref (ad 17)) C hP 0 rfl rfl inlX12 34 (by decide) m_8_1 rfl dX12_addCard_86 ?_
        refine lv_aload_n C.1 C.2.1 dX12_addCard_89 rfl (lv_at hl 0 rfl) ?_
        refine k_get (v := .int (t1.1 0 36)) C hP 0 rfl rfl inlX12 36 (by decide) m_44_16 rfl dX12_addCard_90 ?_
        refine lv_iload C.1 C.2.1 dX12_addCard_93 (lv_at hl 4 rfl) ?_
        refine lv_iload C.1 C.2.1 dX12_addCard_95 (lv_at hl 5 rfl) ?_
        obtain ⟨v_10, e_11⟩ : ∃ z, z = (w56_4 : Int32) + (w56_5 : Int32) := ⟨_, rfl⟩
        have h_12 : v_10.toInt = w56_4.toInt + w56_5.toInt := by rw [e_11]; exact ti_iadd (by show (_ : Int) ≤ w56_4.toInt + w56_5.toInt; omega) (by show w56_4.toInt + w56_5.toInt < (_ : Int); omega)
        refine k_iadd (v := v_10) C e_11.symm dX12_addCard_97 ?_
        refine k_ist (ws' := WM K ad (uB t1 17 ((t1.1 0 36) : Int32).toNatClampNeg v_10)) (x' := v_10) C hP hD hS 17 rfl (vp_in_iff.mpr ⟨by omega, by omega⟩) rfl rfl rfl dX12_addCard_98 (fun H locs hP hD hS => ?_)
        have hok : okM (uB t1 17 ((t1.1 0 36) : Int32).toNatClampNeg v_10) := ⟨hok.1, okB_B hok.2.1 17 _ v_10 (show (0 : Int) ≤ (v_10 : Int32).toInt ∧ (v_10 : Int32).toInt ≤ 33300 from ⟨by omega, by omega⟩), hok.2.2.1, (iM2_g hok.2.2.2.1 (by have := clamp_eq (x := (t1.1 0 36)) (by omega); omega)), hok.2.2.2.2.1, hok.2.2.2.2.2.1, hok.2.2.2.2.2.2.1, trivial⟩
        have hfr : frA [(0, 36)] [] [15, 16, 17] [] t (uB t1 17 ((t1.1 0 36) : Int32).toNatClampNeg v_10) := frA_B hfr 17 _ _ rfl
        have hct : ((uB t1 17 ((t1.1 0 36) : Int32).toNatClampNeg v_10).2.2.1 17 ((t1.1 0 36) : Int32).toNatClampNeg).toInt = (v_10 : Int32).toInt := by show (upd _ _ _ _).toInt = _; rw [pk_us]
        have hcc : (t1.1 0 35).toInt ≤ (t1.1 0 36).toInt := hok.2.2.2.2.2.1
        refine lv_aload_n C.1 C.2.1 dX12_addCard_99 rfl (lv_at hl 0 rfl) ?_
        refine lv_dup C.1 C.2.1 dX12_addCard_100 rfl ?_
        refine k_get (v := .int (t1.1 0 36)) C hP 0 rfl rfl inlX12 36 (by decide) m_44_16 rfl dX12_addCard_101 ?_
        refine lv_iconst (v := 1) C.1 C.2.1 dX12_addCard_104 (by decide) ?_
        obtain ⟨v_13, e_14⟩ : ∃ z, z = ((t1.1 0 36) : Int32) + (1 : Int32) := ⟨_, rfl⟩
        have h_15 : v_13.toInt = (t1.1 0 36).toInt + 1 := by rw [e_14]; exact ti_iadd (by show (_ : Int) ≤ (t1.1 0 36).toInt + 1; omega) (by show (t1.1 0 36).toInt + 1 < (_ : Int); omega)
        refine k_iadd (v := v_13) C e_14.symm dX12_addCard_105 ?_
        refine k_put (ws' := WM K ad (uI (uB t1 17 ((t1.1 0 36) : Int32).toNatClampNeg v_10) 0 36 v_13)) (v := .int v_13) C hP hD hS 0 rfl rfl inlX12 tyX12_ok nmX12 36 (by decide) m_44_16 rfl rfl rfl rfl rfl dX12_addCard_106 (fun H locs hP hD hS => ?_)
        have hok : okM (uI (uB t1 17 ((t1.1 0 36) : Int32).toNatClampNeg v_10) 0 36 v_13) := ⟨okI_I hok.1 0 36 v_13 (show (0 : Int) ≤ (v_13 : Int32).toInt ∧ (v_13 : Int32).toInt ≤ 1700 from ⟨by omega, by omega⟩), hok.2.1, hok.2.2.1, (iM2_up (n := (t1.1 0 36)) (m := v_13) hok.2.2.2.1 (by omega) (by omega) (show (t1.2.2.1 16 ((t1.1 0 36) : Int32).toNatClampNeg).toInt ≤ ((uB t1 17 ((t1.1 0 36) : Int32).toNatClampNeg v_10).2.2.1 17 ((t1.1 0 36) : Int32).toNatClampNeg).toInt ∧ ((uB t1 17 ((t1.1 0 36) : Int32).toNatClampNeg v_10).2.2.1 17 ((t1.1 0 36) : Int32).toNatClampNeg).toInt ≤ (t1.2.2.1 16 ((t1.1 0 36) : Int32).toNatClampNeg).toInt + 80 from by omega)), hok.2.2.2.2.1, ((show (t1.1 0 35).toInt ≤ (v_13 : Int32).toInt from by omega)), hok.2.2.2.2.2.2.1, trivial⟩
        have hfr : frA [(0, 36)] [] [15, 16, 17] [] t (uI (uB t1 17 ((t1.1 0 36) : Int32).toNatClampNeg v_10) 0 36 v_13) := frA_I hfr 0 36 _ rfl
        exact g_vret C hr hlocks hP hD hS (uI (uB t1 17 ((t1.1 0 36) : Int32).toNatClampNeg v_10) 0 36 v_13) rfl ⟨hok, hfr, (show v_13.toInt = (t.1 0 36).toInt + 1 from by omega), (show ∀ b : Int, lastLe (t.1 0 36) (t.2.2.1 17) b → lastLe v_13 ((uI (uB t1 17 ((t1.1 0 36) : Int32).toNatClampNeg v_10) 0 36 v_13).2.2.1 17) (b + (x3.toInt - x2.toInt)) from by intro b hb; have hb2 := hi56_0 b hb; refine ⟨fun q => by omega, fun v h1 h2 => ?_⟩; have hv : v = (t1.1 0 36) := Int32.toInt_inj.mp (by omega); rw [hv]; show (upd _ _ _ _).toInt ≤ _; rw [pk_us]; omega)⟩ (Nat.le_of_ble_eq_true rfl) (Nat.le_of_ble_eq_true rfl) dX12_addCard_109
      · replace c_9 : w56_6.toInt < w56_5.toInt := i_nle c_9
        refine lv_aload_n C.1 C.2.1 dX12_addCard_63 rfl (lv_at hl 0 rfl) ?_
        refine k_get (v := .ref (ad 15)) C hP 0 rfl rfl inlX12 32 (by decide) m_7_23 rfl dX12_addCard_64 ?_
        refine lv_iload C.1 C.2.1 dX12_addCard_67 (lv_at hl 4 rfl) ?_
        refine lv_iload C.1 C.2.1 dX12_addCard_69 (lv_at hl 6 rfl) ?_
        obtain ⟨v_16, e_17⟩ : ∃ z, z = (w56_4 : Int32) + (w56_6 : Int32) := ⟨_, rfl⟩
        have h_18 : v_16.toInt = w56_4.toInt + w56_6.toInt := by rw [e_17]; exact ti_iadd (by show (_ : Int) ≤ w56_4.toInt + w56_6.toInt; omega) (by show w56_4.toInt + w56_6.toInt < (_ : Int); omega)
        refine k_iadd (v := v_16) C e_17.symm dX12_addCard_71 ?_
        refine lv_aload_n C.1 C.2.1 dX12_addCard_72 rfl (lv_at hl 1 rfl) ?_
        refine lv_iload_n C.1 C.2.1 dX12_addCard_73 rfl (lv_at hl 2 rfl) ?_
        refine lv_iload C.1 C.2.1 dX12_addCard_74 (lv_at hl 6 rfl) ?_
        obtain ⟨v_19, e_20⟩ : ∃ z, z = (x2 : Int32) + (w56_6 : Int32) := ⟨_, rfl⟩
        have h_21 : v_19.toInt = x2.toInt + w56_6.toInt := by rw [e_20]; exact ti_iadd (by show (_ : Int) ≤ x2.toInt + w56_6.toInt; omega) (by show x2.toInt + w56_6.toInt < (_ : Int); omega)
        refine k_iadd (v := v_19) C e_20.symm dX12_addCard_76 ?_
        obtain ⟨v_22, e_23⟩ : ∃ z, z = (t1.2.2.1 36 (v_19 : Int32).toNatClampNeg) := ⟨_, rfl⟩
        have h_24 : (-3999 : Int) ≤ v_22.toInt ∧ v_22.toInt ≤ 127 := by rw [e_23]; exact hok.2.1 36 _
        refine k_bld (v := v_22) C hP 36 rfl (vp_in_iff.mpr ⟨by omega, by omega⟩) e_23.symm dX12_addCard_77 ?_
        obtain ⟨v_25, e_26⟩ : ∃ z, z = vp_nar .byte v_22 := ⟨_, rfl⟩
        have h_27 : (-128 : Int) ≤ v_25.toInt ∧ v_25.toInt ≤ 127 := by rw [e_26]; exact nar_byte _
        refine k_bst (ws' := WM K ad (uB t1 15 (v_16 : Int32).toNatClampNeg v_25)) (x' := v_25) C hP hD hS 15 rfl (vp_in_iff.mpr ⟨by omega, by omega⟩) rfl e_26.symm rfl dX12_addCard_78 (fun H locs hP hD hS => ?_)
        have hok : okM (uB t1 15 (v_16 : Int32).toNatClampNeg v_25) := ⟨hok.1, okB_B hok.2.1 15 _ v_25 (show (-3999 : Int) ≤ (v_25 : Int32).toInt ∧ (v_25 : Int32).toInt ≤ 127 from ⟨by omega, by omega⟩), hok.2.2.1, hok.2.2.2.1, hok.2.2.2.2.1, hok.2.2.2.2.2.1, hok.2.2.2.2.2.2.1, trivial⟩
        have hfr : frA [(0, 36)] [] [15, 16, 17] [] t (uB t1 15 (v_16 : Int32).toNatClampNeg v_25) := frA_B hfr 15 _ _ rfl
        obtain ⟨v_28, e_29⟩ : ∃ z, z = w56_6 + 1 := ⟨_, rfl⟩
        have h_30 : v_28.toInt = w56_6.toInt + 1 := by rw [e_29]; exact ti_iadd (by show (_ : Int) ≤ w56_6.toInt + 1; omega) (by show w56_6.toInt + 1 < (_ : Int); omega)
        refine lv_iinc (v := v_28) (lv' := [(6, .int v_28), (0, .ref (ad 0)), (1, .ref (ad 36)), (2, .int x2), (3, .int x3), (4, .int w56_4), (5, .int w56_5)]) C.1 C.2.1 dX12_addCard_79 hl (k := 6) rfl e_29.symm (by decide) rfl (fun ls hl => ?_)
        have hl : lv_has ls 7 [(0, .ref (ad 0)), (1, .ref (ad 36)), (2, .int x2), (3, .int x3), (4, .int w56_4), (5, .int w56_5), (6, .int v_28)] := lv_sub hl [1, 2, 3, 4, 5, 6, 0] rfl
        refine lv_goto (tgt := 56) C.1 C.2.1 dX12_addCard_82 (by decide) ?_
        exact ih_56 (uB t1 15 (v_16 : Int32).toNatClampNeg v_25) w56_4 w56_5 v_28 _ _ _ hok hfr ⟨by omega, by omega⟩ ⟨by omega, by omega⟩ ⟨by omega, by omega⟩ (show ∀ b : Int, lastLe (t.1 0 36) (t.2.2.1 17) b → w56_4.toInt ≤ b from by first | exact hi56_0 | exact fun b hb => hb.1 (by omega) | exact fun b hb => hb.2 _ (by omega) (by omega)) (show w56_4.toInt ≤ 33280 - (x3.toInt - x2.toInt) from by omega) (show 0 ≤ w56_4.toInt from by omega) (show w56_5.toInt ≤ 80 from by omega) (show w56_5.toInt ≤ x3.toInt - x2.toInt from by omega) (show 0 ≤ w56_5.toInt from by omega) (show (t1.1 0 36).toInt = (t.1 0 36).toInt from by omega) (show (t1.2.2.1 16 ((t1.1 0 36) : Int32).toNatClampNeg).toInt = w56_4.toInt from by omega) (show (3999 : Int) - v_28.toInt < (fuel_56 : Int) from by omega) hP hD hS (lv_sub hl [0, 1, 2, 3, 4, 5, 6] rfl)
  refine lv_aload_n C.1 C.2.1 dX12_addCard_0 rfl (lv_at hl 0 rfl) ?_
  refine k_get (v := .int (t.1 0 36)) C hP 0 rfl rfl inlX12 36 (by decide) m_44_16 rfl dX12_addCard_1 ?_
  refine lv_if_ne (tgt := 11) C.1 C.2.1 dX12_addCard_4 (by decide) (fun c_31 => ?_) (fun c_31 => ?_)
  · replace c_31 : ¬ (t.1 0 36).toInt = 0 := i_ne c_31
    refine lv_aload_n C.1 C.2.1 dX12_addCard_11 rfl (lv_at hl 0 rfl) ?_
    refine k_get (v := .ref (ad 17)) C hP 0 rfl rfl inlX12 34 (by decide) m_8_1 rfl dX12_addCard_12 ?_
    refine lv_aload_n C.1 C.2.1 dX12_addCard_15 rfl (lv_at hl 0 rfl) ?_
    refine k_get (v := .int (t.1 0 36)) C hP 0 rfl rfl inlX12 36 (by decide) m_44_16 rfl dX12_addCard_16 ?_
    refine lv_iconst (v := 1) C.1 C.2.1 dX12_addCard_19 (by decide) ?_
    obtain ⟨v_32, e_33⟩ : ∃ z, z = ((t.1 0 36) : Int32) - (1 : Int32) := ⟨_, rfl⟩
    have h_34 : v_32.toInt = (t.1 0 36).toInt - 1 := by rw [e_33]; exact ti_isub (by show (_ : Int) ≤ (t.1 0 36).toInt - 1; omega) (by show (t.1 0 36).toInt - 1 < (_ : Int); omega)
    refine k_isub (v := v_32) C e_33.symm dX12_addCard_20 ?_
    have h_35 : (0 : Int) ≤ (t.2.2.1 17 (v_32 : Int32).toNatClampNeg).toInt ∧ (t.2.2.1 17 (v_32 : Int32).toNatClampNeg).toInt ≤ 33300 := hok.2.1 17 _
    refine k_ild (v := (t.2.2.1 17 (v_32 : Int32).toNatClampNeg)) C hP 17 rfl (vp_in_iff.mpr ⟨by omega, by omega⟩) rfl dX12_addCard_21 ?_
    have hl0 : (t.2.2.1 17 (v_32 : Int32).toNatClampNeg).toInt ≤ 33280 - (x3.toInt - x2.toInt) := hs2.2 v_32 (by omega) (by omega)
    refine lv_istore (lv' := [(4, .int (t.2.2.1 17 (v_32 : Int32).toNatClampNeg)), (0, .ref (ad 0)), (1, .ref (ad 36)), (2, .int x2), (3, .int x3)]) C.1 C.2.1 dX12_addCard_22 hl (by decide) rfl (fun ls hl => ?_)
    have hl : lv_has ls 7 [(0, .ref (ad 0)), (1, .ref (ad 36)), (2, .int x2), (3, .int x3), (4, .int (t.2.2.1 17 (v_32 : Int32).toNatClampNeg))] := lv_sub hl [1, 2, 3, 4, 0] rfl
    refine lv_iload_n C.1 C.2.1 dX12_addCard_24 rfl (lv_at hl 3 rfl) ?_
    refine lv_iload_n C.1 C.2.1 dX12_addCard_25 rfl (lv_at hl 2 rfl) ?_
    obtain ⟨v_36, e_37⟩ : ∃ z, z = (x3 : Int32) - (x2 : Int32) := ⟨_, rfl⟩
    have h_38 : v_36.toInt = x3.toInt - x2.toInt := by rw [e_37]; exact ti_isub (by show (_ : Int) ≤ x3.toInt - x2.toInt; omega) (by show x3.toInt - x2.toInt < (_ : Int); omega)
    refine k_isub (v := v_36) C e_37.symm dX12_addCard_26 ?_
    refine lv_bipush (v := 80) C.1 C.2.1 dX12_addCard_27 (by decide) ?_
    refine lv_icmp_le (tgt := 37) C.1 C.2.1 dX12_addCard_29 (by decide) (fun c_39 => ?_) (fun c_39 => ?_)
    · replace c_39 : v_36.toInt ≤ 80 := i_le c_39
      refine lv_iload_n C.1 C.2.1 dX12_addCard_37 rfl (lv_at hl 3 rfl) ?_
      refine lv_iload_n C.1 C.2.1 dX12_addCard_38 rfl (lv_at hl 2 rfl) ?_
      obtain ⟨v_40, e_41⟩ : ∃ z, z = (x3 : Int32) - (x2 : Int32) := ⟨_, rfl⟩
      have h_42 : v_40.toInt = x3.toInt - x2.toInt := by rw [e_41]; exact ti_isub (by show (_ : Int) ≤ x3.toInt - x2.toInt; omega) (by show x3.toInt - x2.toInt < (_ : Int); omega)
      refine k_isub (v := v_40) C e_41.symm dX12_addCard_39 ?_
      refine lv_istore (lv' := [(5, .int v_40), (0, .ref (ad 0)), (1, .ref (ad 36)), (2, .int x2), (3, .int x3), (4, .int (t.2.2.1 17 (v_32 : Int32).toNatClampNeg))]) C.1 C.2.1 dX12_addCard_40 hl (by decide) rfl (fun ls hl => ?_)
      have hl : lv_has ls 7 [(0, .ref (ad 0)), (1, .ref (ad 36)), (2, .int x2), (3, .int x3), (4, .int (t.2.2.1 17 (v_32 : Int32).toNatClampNeg)), (5, .int v_40)] := lv_sub hl [1, 2, 3, 4, 5, 0] rfl
      refine lv_aload_n C.1 C.2.1 dX12_addCard_42 rfl (lv_at hl 0 rfl) ?_
      refine k_get (v := .ref (ad 16)) C hP 0 rfl rfl inlX12 33 (by decide) m_8_0 rfl dX12_addCard_43 ?_
      refine lv_aload_n C.1 C.2.1 dX12_addCard_46 rfl (lv_at hl 0 rfl) ?_
      refine k_get (v := .int (t.1 0 36)) C hP 0 rfl rfl inlX12 36 (by decide) m_44_16 rfl dX12_addCard_47 ?_
      refine lv_iload C.1 C.2.1 dX12_addCard_50 (lv_at hl 4 rfl) ?_
      refine k_ist (ws' := WM K ad (uB t 16 ((t.1 0 36) : Int32).toNatClampNeg (t.2.2.1 17 (v_32 : Int32).toNatClampNeg))) (x' := (t.2.2.1 17 (v_32 : Int32).toNatClampNeg)) C hP hD hS 16 rfl (vp_in_iff.mpr ⟨by omega, by omega⟩) rfl rfl rfl dX12_addCard_52 (fun H locs hP hD hS => ?_)
      have hok : okM (uB t 16 ((t.1 0 36) : Int32).toNatClampNeg (t.2.2.1 17 (v_32 : Int32).toNatClampNeg)) := ⟨hok.1, okB_B hok.2.1 16 _ (t.2.2.1 17 (v_32 : Int32).toNatClampNeg) (show (0 : Int) ≤ ((t.2.2.1 17 (v_32 : Int32).toNatClampNeg) : Int32).toInt ∧ ((t.2.2.1 17 (v_32 : Int32).toNatClampNeg) : Int32).toInt ≤ 33300 from ⟨by omega, by omega⟩), hok.2.2.1, (iM2_f hok.2.2.2.1 (by have := clamp_eq (x := (t.1 0 36)) (by omega); omega)), hok.2.2.2.2.1, hok.2.2.2.2.2.1, hok.2.2.2.2.2.2.1, trivial⟩
      have hfr : frA [(0, 36)] [] [15, 16, 17] [] t (uB t 16 ((t.1 0 36) : Int32).toNatClampNeg (t.2.2.1 17 (v_32 : Int32).toNatClampNeg)) := frA_B hfr 16 _ _ rfl
      have hz00 : (0 : Int32).toInt = 0 := rfl
      have hcf : ((uB t 16 ((t.1 0 36) : Int32).toNatClampNeg (t.2.2.1 17 (v_32 : Int32).toNatClampNeg)).2.2.1 16 ((t.1 0 36) : Int32).toNatClampNeg).toInt = ((t.2.2.1 17 (v_32 : Int32).toNatClampNeg) : Int32).toInt := by show (upd _ _ _ _).toInt = _; rw [pk_us]
      refine lv_iconst (v := 0) C.1 C.2.1 dX12_addCard_53 (by decide) ?_
      refine lv_istore (lv' := [(6, .int 0), (0, .ref (ad 0)), (1, .ref (ad 36)), (2, .int x2), (3, .int x3), (4, .int (t.2.2.1 17 (v_32 : Int32).toNatClampNeg)), (5, .int v_40)]) C.1 C.2.1 dX12_addCard_54 hl (by decide) rfl (fun ls hl => ?_)
      have hl : lv_has ls 7 [(0, .ref (ad 0)), (1, .ref (ad 36)), (2, .int x2), (3, .int x3), (4, .int (t.2.2.1 17 (v_32 : Int32).toNatClampNeg)), (5, .int v_40), (6, .int 0)] := lv_sub hl [1, 2, 3, 4, 5, 6, 0] rfl
      exact L_56 4000 (uB t 16 ((t.1 0 36) : Int32).toNatClampNeg (t.2.2.1 17 (v_32 : Int32).toNatClampNeg)) (t.2.2.1 17 (v_32 : Int32).toNatClampNeg) v_40 0 _ _ _ hok hfr ⟨by omega, by omega⟩ ⟨by omega, by omega⟩ ⟨by decide, by decide⟩ (show ∀ b : Int, lastLe (t.1 0 36) (t.2.2.1 17) b → (t.2.2.1 17 (v_32 : Int32).toNatClampNeg).toInt ≤ b from by first | exact hi56_0 | exact fun b hb => hb.1 (by omega) | exact fun b hb => hb.2 _ (by omega) (by omega)) (show (t.2.2.1 17 (v_32 : Int32).toNatClampNeg).toInt ≤ 33280 - (x3.toInt - x2.toInt) from by omega) (show 0 ≤ (t.2.2.1 17 (v_32 : Int32).toNatClampNeg).toInt from by omega) (show v_40.toInt ≤ 80 from by omega) (show v_40.toInt ≤ x3.toInt - x2.toInt from by omega) (show 0 ≤ v_40.toInt from by omega) (show (t.1 0 36).toInt = (t.1 0 36).toInt from by omega) (show ((uB t 16 ((t.1 0 36) : Int32).toNatClampNeg (t.2.2.1 17 (v_32 : Int32).toNatClampNeg)).2.2.1 16 ((t.1 0 36) : Int32).toNatClampNeg).toInt = (t.2.2.1 17 (v_32 : Int32).toNatClampNeg).toInt from by omega) (show (3999 : Int) - 0 < ((4000 : Nat) : Int) from by omega) hP hD hS (lv_sub hl [0, 1, 2, 3, 4, 5, 6] rfl)
    · replace c_39 : 80 < v_36.toInt := i_nle c_39
      refine lv_bipush (v := 80) C.1 C.2.1 dX12_addCard_32 (by decide) ?_
      refine lv_goto (tgt := 40) C.1 C.2.1 dX12_addCard_34 (by decide) ?_
      refine lv_istore (lv' := [(5, .int 80), (0, .ref (ad 0)), (1, .ref (ad 36)), (2, .int x2), (3, .int x3), (4, .int (t.2.2.1 17 (v_32 : Int32).toNatClampNeg))]) C.1 C.2.1 dX12_addCard_40 hl (by decide) rfl (fun ls hl => ?_)
      have hl : lv_has ls 7 [(0, .ref (ad 0)), (1, .ref (ad 36)), (2, .int x2), (3, .int x3), (4, .int (t.2.2.1 17 (v_32 : Int32).toNatClampNeg)), (5, .int 80)] := lv_sub hl [1, 2, 3, 4, 5, 0] rfl
      refine lv_aload_n C.1 C.2.1 dX12_addCard_42 rfl (lv_at hl 0 rfl) ?_
      refine k_get (v := .ref (ad 16)) C hP 0 rfl rfl inlX12 33 (by decide) m_8_0 rfl dX12_addCard_43 ?_
      refine lv_aload_n C.1 C.2.1 dX12_addCard_46 rfl (lv_at hl 0 rfl) ?_
      refine k_get (v := .int (t.1 0 36)) C hP 0 rfl rfl inlX12 36 (by decide) m_44_16 rfl dX12_addCard_47 ?_
      refine lv_iload C.1 C.2.1 dX12_addCard_50 (lv_at hl 4 rfl) ?_
      refine k_ist (ws' := WM K ad (uB t 16 ((t.1 0 36) : Int32).toNatClampNeg (t.2.2.1 17 (v_32 : Int32).toNatClampNeg))) (x' := (t.2.2.1 17 (v_32 : Int32).toNatClampNeg)) C hP hD hS 16 rfl (vp_in_iff.mpr ⟨by omega, by omega⟩) rfl rfl rfl dX12_addCard_52 (fun H locs hP hD hS => ?_)
      have hok : okM (uB t 16 ((t.1 0 36) : Int32).toNatClampNeg (t.2.2.1 17 (v_32 : Int32).toNatClampNeg)) := ⟨hok.1, okB_B hok.2.1 16 _ (t.2.2.1 17 (v_32 : Int32).toNatClampNeg) (show (0 : Int) ≤ ((t.2.2.1 17 (v_32 : Int32).toNatClampNeg) : Int32).toInt ∧ ((t.2.2.1 17 (v_32 : Int32).toNatClampNeg) : Int32).toInt ≤ 33300 from ⟨by omega, by omega⟩), hok.2.2.1, (iM2_f hok.2.2.2.1 (by have := clamp_eq (x := (t.1 0 36)) (by omega); omega)), hok.2.2.2.2.1, hok.2.2.2.2.2.1, hok.2.2.2.2.2.2.1, trivial⟩
      have hfr : frA [(0, 36)] [] [15, 16, 17] [] t (uB t 16 ((t.1 0 36) : Int32).toNatClampNeg (t.2.2.1 17 (v_32 : Int32).toNatClampNeg)) := frA_B hfr 16 _ _ rfl
      have hz00 : (0 : Int32).toInt = 0 := rfl
      have hcf : ((uB t 16 ((t.1 0 36) : Int32).toNatClampNeg (t.2.2.1 17 (v_32 : Int32).toNatClampNeg)).2.2.1 16 ((t.1 0 36) : Int32).toNatClampNeg).toInt = ((t.2.2.1 17 (v_32 : Int32).toNatClampNeg) : Int32).toInt := by show (upd _ _ _ _).toInt = _; rw [pk_us]
      refine lv_iconst (v := 0) C.1 C.2.1 dX12_addCard_53 (by decide) ?_
      refine lv_istore (lv' := [(6, .int 0), (0, .ref (ad 0)), (1, .ref (ad 36)), (2, .int x2), (3, .int x3), (4, .int (t.2.2.1 17 (v_32 : Int32).toNatClampNeg)), (5, .int 80)]) C.1 C.2.1 dX12_addCard_54 hl (by decide) rfl (fun ls hl => ?_)
      have hl : lv_has ls 7 [(0, .ref (ad 0)), (1, .ref (ad 36)), (2, .int x2), (3, .int x3), (4, .int (t.2.2.1 17 (v_32 : Int32).toNatClampNeg)), (5, .int 80), (6, .int 0)] := lv_sub hl [1, 2, 3, 4, 5, 6, 0] rfl
      exact L_56 4000 (uB t 16 ((t.1 0 36) : Int32).toNatClampNeg (t.2.2.1 17 (v_32 : Int32).toNatClampNeg)) (t.2.2.1 17 (v_32 : Int32).toNatClampNeg) 80 0 _ _ _ hok hfr ⟨by omega, by omega⟩ ⟨by decide, by decide⟩ ⟨by decide, by decide⟩ (show ∀ b : Int, lastLe (t.1 0 36) (t.2.2.1 17) b → (t.2.2.1 17 (v_32 : Int32).toNatClampNeg).toInt ≤ b from by first | exact hi56_0 | exact fun b hb => hb.1 (by omega) | exact fun b hb => hb.2 _ (by omega) (by omega)) (show (t.2.2.1 17 (v_32 : Int32).toNatClampNeg).toInt ≤ 33280 - (x3.toInt - x2.toInt) from by omega) (show 0 ≤ (t.2.2.1 17 (v_32 : Int32).toNatClampNeg).toInt from by omega) (show 80 ≤ 80 from by omega) (show 80 ≤ x3.toInt - x2.toInt from by omega) (show 0 ≤ 80 from by omega) (show (t.1 0 36).toInt = (t.1 0 36).toInt from by omega) (show ((uB t 16 ((t.1 0 36) : Int32).toNatClampNeg (t.2.2.1 17 (v_32 : Int32).toNatClampNeg)).2.2.1 16 ((t.1 0 36) : Int32).toNatClampNeg).toInt = (t.2.2.1 17 (v_32 : Int32).toNatClampNeg).toInt from by omega) (show (3999 : Int) - 0 < ((4000 : Nat) : Int) from by omega) hP hD hS (lv_sub hl [0, 1, 2, 3, 4, 5, 6] rfl)
  · replace c_31 : (t.1 0 36).toInt = 0 := i_eq c_31
    refine lv_iconst (v := 0) C.1 C.2.1 dX12_addCard_7 (by decide) ?_
    refine lv_goto (tgt := 22) C.1 C.2.1 dX12_addCard_8 (by decide) ?_
    refine lv_istore (lv' := [(4, .int 0), (0, .ref (ad 0)), (1, .ref (ad 36)), (2, .int x2), (3, .int x3)]) C.1 C.2.1 dX12_addCard_22 hl (by decide) rfl (fun ls hl => ?_)
    have hl : lv_has ls 7 [(0, .ref (ad 0)), (1, .ref (ad 36)), (2, .int x2), (3, .int x3), (4, .int 0)] := lv_sub hl [1, 2, 3, 4, 0] rfl
    refine lv_iload_n C.1 C.2.1 dX12_addCard_24 rfl (lv_at hl 3 rfl) ?_
    refine lv_iload_n C.1 C.2.1 dX12_addCard_25 rfl (lv_at hl 2 rfl) ?_
    obtain ⟨v_43, e_44⟩ : ∃ z, z = (x3 : Int32) - (x2 : Int32) := ⟨_, rfl⟩
    have h_45 : v_43.toInt = x3.toInt - x2.toInt := by rw [e_44]; exact ti_isub (by show (_ : Int) ≤ x3.toInt - x2.toInt; omega) (by show x3.toInt - x2.toInt < (_ : Int); omega)
    refine k_isub (v := v_43) C e_44.symm dX12_addCard_26 ?_
    refine lv_bipush (v := 80) C.1 C.2.1 dX12_addCard_27 (by decide) ?_
    refine lv_icmp_le (tgt := 37) C.1 C.2.1 dX12_addCard_29 (by decide) (fun c_46 => ?_) (fun c_46 => ?_)
    · replace c_46 : v_43.toInt ≤ 80 := i_le c_46
      refine lv_iload_n C.1 C.2.1 dX12_addCard_37 rfl (lv_at hl 3 rfl) ?_
      refine lv_iload_n C.1 C.2.1 dX12_addCard_38 rfl (lv_at hl 2 rfl) ?_
      obtain ⟨v_47, e_48⟩ : ∃ z, z = (x3 : Int32) - (x2 : Int32) := ⟨_, rfl⟩
      have h_49 : v_47.toInt = x3.toInt - x2.toInt := by rw [e_48]; exact ti_isub (by show (_ : Int) ≤ x3.toInt - x2.toInt; omega) (by show x3.toInt - x2.toInt < (_ : Int); omega)
      refine k_isub (v := v_47) C e_48.symm dX12_addCard_39 ?_
      refine lv_istore (lv' := [(5, .int v_47), (0, .ref (ad 0)), (1, .ref (ad 36)), (2, .int x2), (3, .int x3), (4, .int 0)]) C.1 C.2.1 dX12_addCard_40 hl (by decide) rfl (fun ls hl => ?_)
      have hl : lv_has ls 7 [(0, .ref (ad 0)), (1, .ref (ad 36)), (2, .int x2), (3, .int x3), (4, .int 0), (5, .int v_47)] := lv_sub hl [1, 2, 3, 4, 5, 0] rfl
      refine lv_aload_n C.1 C.2.1 dX12_addCard_42 rfl (lv_at hl 0 rfl) ?_
      refine k_get (v := .ref (ad 16)) C hP 0 rfl rfl inlX12 33 (by decide) m_8_0 rfl dX12_addCard_43 ?_
      refine lv_aload_n C.1 C.2.1 dX12_addCard_46 rfl (lv_at hl 0 rfl) ?_
      refine k_get (v := .int (t.1 0 36)) C hP 0 rfl rfl inlX12 36 (by decide) m_44_16 rfl dX12_addCard_47 ?_
      refine lv_iload C.1 C.2.1 dX12_addCard_50 (lv_at hl 4 rfl) ?_
      refine k_ist (ws' := WM K ad (uB t 16 ((t.1 0 36) : Int32).toNatClampNeg 0)) (x' := 0) C hP hD hS 16 rfl (vp_in_iff.mpr ⟨by omega, by omega⟩) rfl rfl rfl dX12_addCard_52 (fun H locs hP hD hS => ?_)
      have hok : okM (uB t 16 ((t.1 0 36) : Int32).toNatClampNeg 0) := ⟨hok.1, okB_B hok.2.1 16 _ 0 (show (0 : Int) ≤ (0 : Int32).toInt ∧ (0 : Int32).toInt ≤ 33300 from ⟨by decide, by decide⟩), hok.2.2.1, (iM2_f hok.2.2.2.1 (by have := clamp_eq (x := (t.1 0 36)) (by omega); omega)), hok.2.2.2.2.1, hok.2.2.2.2.2.1, hok.2.2.2.2.2.2.1, trivial⟩
      have hfr : frA [(0, 36)] [] [15, 16, 17] [] t (uB t 16 ((t.1 0 36) : Int32).toNatClampNeg 0) := frA_B hfr 16 _ _ rfl
      have hz00 : (0 : Int32).toInt = 0 := rfl
      have hcf : ((uB t 16 ((t.1 0 36) : Int32).toNatClampNeg 0).2.2.1 16 ((t.1 0 36) : Int32).toNatClampNeg).toInt = (0 : Int32).toInt := by show (upd _ _ _ _).toInt = _; rw [pk_us]
      refine lv_iconst (v := 0) C.1 C.2.1 dX12_addCard_53 (by decide) ?_
      refine lv_istore (lv' := [(6, .int 0), (0, .ref (ad 0)), (1, .ref (ad 36)), (2, .int x2), (3, .int x3), (4, .int 0), (5, .int v_47)]) C.1 C.2.1 dX12_addCard_54 hl (by decide) rfl (fun ls hl => ?_)
      have hl : lv_has ls 7 [(0, .ref (ad 0)), (1, .ref (ad 36)), (2, .int x2), (3, .int x3), (4, .int 0), (5, .int v_47), (6, .int 0)] := lv_sub hl [1, 2, 3, 4, 5, 6, 0] rfl
      exact L_56 4000 (uB t 16 ((t.1 0 36) : Int32).toNatClampNeg 0) 0 v_47 0 _ _ _ hok hfr ⟨by decide, by decide⟩ ⟨by omega, by omega⟩ ⟨by decide, by decide⟩ (show ∀ b : Int, lastLe (t.1 0 36) (t.2.2.1 17) b → 0 ≤ b from by first | exact hi56_0 | exact fun b hb => hb.1 (by omega) | exact fun b hb => hb.2 _ (by omega) (by omega)) (show 0 ≤ 33280 - (x3.toInt - x2.toInt) from by omega) (show 0 ≤ 0 from by omega) (show v_47.toInt ≤ 80 from by omega) (show v_47.toInt ≤ x3.toInt - x2.toInt from by omega) (show 0 ≤ v_47.toInt from by omega) (show (t.1 0 36).toInt = (t.1 0 36).toInt from by omega) (show ((uB t 16 ((t.1 0 36) : Int32).toNatClampNeg 0).2.2.1 16 ((t.1 0 36) : Int32).toNatClampNeg).toInt = 0 from by omega) (show (3999 : Int) - 0 < ((4000 : Nat) : Int) from by omega) hP hD hS (lv_sub hl [0, 1, 2, 3, 4, 5, 6] rfl)
    · replace c_46 : 80 < v_43.toInt := i_nle c_46
      refine lv_bipush (v := 80) C.1 C.2.1 dX12_addCard_32 (by decide) ?_
      refine lv_goto (tgt := 40) C.1 C.2.1 dX12_addCard_34 (by decide) ?_
      refine lv_istore (lv' := [(5, .int 80), (0, .ref (ad 0)), (1, .ref (ad 36)), (2, .int x2), (3, .int x3), (4, .int 0)]) C.1 C.2.1 dX12_addCard_40 hl (by decide) rfl (fun ls hl => ?_)
      have hl : lv_has ls 7 [(0, .ref (ad 0)), (1, .ref (ad 36)), (2, .int x2), (3, .int x3), (4, .int 0), (5, .int 80)] := lv_sub hl [1, 2, 3, 4, 5, 0] rfl
      refine lv_aload_n C.1 C.2.1 dX12_addCard_42 rfl (lv_at hl 0 rfl) ?_
      refine k_get (v := .ref (ad 16)) C hP 0 rfl rfl inlX12 33 (by decide) m_8_0 rfl dX12_addCard_43 ?_
      refine lv_aload_n C.1 C.2.1 dX12_addCard_46 rfl (lv_at hl 0 rfl) ?_
      refine k_get (v := .int (t.1 0 36)) C hP 0 rfl rfl inlX12 36 (by decide) m_44_16 rfl dX12_addCard_47 ?_
      refine lv_iload C.1 C.2.1 dX12_addCard_50 (lv_at hl 4 rfl) ?_
      refine k_ist (ws' := WM K ad (uB t 16 ((t.1 0 36) : Int32).toNatClampNeg 0)) (x' := 0) C hP hD hS 16 rfl (vp_in_iff.mpr ⟨by omega, by omega⟩) rfl rfl rfl dX12_addCard_52 (fun H locs hP hD hS => ?_)
      have hok : okM (uB t 16 ((t.1 0 36) : Int32).toNatClampNeg 0) := ⟨hok.1, okB_B hok.2.1 16 _ 0 (show (0 : Int) ≤ (0 : Int32).toInt ∧ (0 : Int32).toInt ≤ 33300 from ⟨by decide, by decide⟩), hok.2.2.1, (iM2_f hok.2.2.2.1 (by have := clamp_eq (x := (t.1 0 36)) (by omega); omega)), hok.2.2.2.2.1, hok.2.2.2.2.2.1, hok.2.2.2.2.2.2.1, trivial⟩
      have hfr : frA [(0, 36)] [] [15, 16, 17] [] t (uB t 16 ((t.1 0 36) : Int32).toNatClampNeg 0) := frA_B hfr 16 _ _ rfl
      have hz00 : (0 : Int32).toInt = 0 := rfl
      have hcf : ((uB t 16 ((t.1 0 36) : Int32).toNatClampNeg 0).2.2.1 16 ((t.1 0 36) : Int32).toNatClampNeg).toInt = (0 : Int32).toInt := by show (upd _ _ _ _).toInt = _; rw [pk_us]
      refine lv_iconst (v := 0) C.1 C.2.1 dX12_addCard_53 (by decide) ?_
      refine lv_istore (lv' := [(6, .int 0), (0, .ref (ad 0)), (1, .ref (ad 36)), (2, .int x2), (3, .int x3), (4, .int 0), (5, .int 80)]) C.1 C.2.1 dX12_addCard_54 hl (by decide) rfl (fun ls hl => ?_)
      have hl : lv_has ls 7 [(0, .ref (ad 0)), (1, .ref (ad 36)), (2, .int x2), (3, .int x3), (4, .int 0), (5, .int 80), (6, .int 0)] := lv_sub hl [1, 2, 3, 4, 5, 6, 0] rfl
      exact L_56 4000 (uB t 16 ((t.1 0 36) : Int32).toNatClampNeg 0) 0 80 0 _ _ _ hok hfr ⟨by decide, by decide⟩ ⟨by decide, by decide⟩ ⟨by decide, by decide⟩ (show ∀ b : Int, lastLe (t.1 0 36) (t.2.2.1 17) b → 0 ≤ b from by first | exact hi56_0 | exact fun b hb => hb.1 (by omega) | exact fun b hb => hb.2 _ (by omega) (by omega)) (show 0 ≤ 33280 - (x3.toInt - x2.toInt) from by omega) (show 0 ≤ 0 from by omega) (show 80 ≤ 80 from by omega) (show 80 ≤ x3.toInt - x2.toInt from by omega) (show 0 ≤ 80 from by omega) (show (t.1 0 36).toInt = (t.1 0 36).toInt from by omega) (show ((uB t 16 ((t.1 0 36) : Int32).toNatClampNeg 0).2.2.1 16 ((t.1 0 36) : Int32).toNatClampNeg).toInt = 0 from by omega) (show (3999 : Int) - 0 < ((4000 : Nat) : Int) from by omega) hP hD hS (lv_sub hl [0, 1, 2, 3, 4, 5, 6] rfl)

theorem dX12_toColumn_0 : decode cX12_toColumn 0 = .ok (.aload_n 0, 1) := by decide +kernel
theorem dX12_toColumn_1 : decode cX12_toColumn 1 = .ok (.getfield 186, 3) := by decide +kernel
theorem dX12_toColumn_10 : decode cX12_toColumn 10 = .ok (.aload_n 0, 1) := by decide +kernel
theorem dX12_toColumn_11 : decode cX12_toColumn 11 = .ok (.bipush 32, 2) := by decide +kernel
theorem dX12_toColumn_13 : decode cX12_toColumn 13 = .ok (.invokevirtual 189, 3) := by decide +kernel
theorem dX12_toColumn_16 : decode cX12_toColumn 16 = .ok (.goto (-16), 3) := by decide +kernel
theorem dX12_toColumn_19 : decode cX12_toColumn 19 = .ok (.return_, 1) := by decide +kernel
theorem dX12_toColumn_4 : decode cX12_toColumn 4 = .ok (.iload_n 1, 1) := by decide +kernel
theorem dX12_toColumn_5 : decode cX12_toColumn 5 = .ok (.iconst 1, 1) := by decide +kernel
theorem dX12_toColumn_6 : decode cX12_toColumn 6 = .ok (.isub, 1) := by decide +kernel
theorem dX12_toColumn_7 : decode cX12_toColumn 7 = .ok (.if_icmp .ge 12, 3) := by decide +kernel
set_option maxHeartbeats 4000000 in
set_option maxRecDepth 100000 in
theorem T_X12_toColumn (l : Launch) (D : va_G) (K : Nat → ClassId) (Z Y : Nat → Nat) (ad : Nat → Nat) (t : tSt) (hok : okM t) (x1 : Int32) (hx1 : (2 : Int) ≤ x1.toInt ∧ x1.toInt ≤ 63) (hs0 : x1.toInt ≤ 121) : tMet l yX12_toColumn cX12_toColumn 2 none (rmD 1 0 0) D K Z Y [.ref (ad 0), .int x1] (WM K ad t) (QV D K (fun (u : tSt) => okM u ∧ frA [(0, 30)] [] [14] [] t u ∧ ((t.1 0 30).toInt ≤ (u.1 0 30).toInt) ∧ ((u.1 0 30).toInt ≤ (t.1 0 30).toInt ∨ (u.1 0 30).toInt ≤ x1.toInt - 1)) (fun (u : tSt) => WM K ad u)) 0 0 := by
  refine t_met RX12 ⟨rfl, by decide +kernel⟩ (Nat.le_of_ble_eq_true rfl) ?_
  intro p e s m below meth c A ls C hE hZ hr hlocks hA hP hD hS hl
  have hl : lv_has ls 2 [(0, .ref (ad 0)), (1, .int x1)] := hl
  have hokt := hok
  have hfr : frA [(0, 30)] [] [14] [] t t := frA_rf
  have h_1 : (0 : Int) ≤ (t.1 0 30).toInt ∧ (t.1 0 30).toInt ≤ 120 := hok.1 0 30
  have L_0 : ∀ (fuel_0 : Nat) (t1 : tSt) (H : Heap) (locs : List Loc) (ls : Array Slot), okM t1 → frA [(0, 30)] [] [14] [] t t1 → ((t1.1 0 30).toInt ≤ (t.1 0 30).toInt ∨ (t1.1 0 30).toInt ≤ x1.toInt - 1) → ((t.1 0 30).toInt ≤ (t1.1 0 30).toInt) → (121 - (t1.1 0 30).toInt) < (fuel_0 : Int) → va_P D vwCl (WM K ad t1) H → va_D A (WM K ad t1) → va_S A s.heap H locs → lv_has ls 2 [(0, .ref (ad 0)), (1, .int x1)] → W p l e (rmD 1 0 0) s m [.ref (ad 0), .int x1].toArray below meth c H locs 0 0 (MQ below (QV D K (fun (u : tSt) => okM u ∧ frA [(0, 30)] [] [14] [] t u ∧ ((t.1 0 30).toInt ≤ (u.1 0 30).toInt) ∧ ((u.1 0 30).toInt ≤ (t.1 0 30).toInt ∨ (u.1 0 30).toInt ≤ x1.toInt - 1)) (fun (u : tSt) => WM K ad u) A) [.ref (ad 0), .int x1].toArray s 0 0 A) (F0 m 0 ls []) := by
    intro fuel_0
    induction fuel_0 with
    | zero =>
      intro t1 H locs ls hok hfr hi0_0 hi0_1 hm0_0 hP hD hS hl
      have h_2 : (0 : Int) ≤ (t1.1 0 30).toInt ∧ (t1.1 0 30).toInt ≤ 120 := hok.1 0 30
      exact absurd hm0_0 (by omega)
    | succ fuel_0 ih_0 =>
      intro t1 H locs ls hok hfr hi0_0 hi0_1 hm0_0 hP hD hS hl
      have hm0_0 : (121 - (t1.1 0 30).toInt) < (fuel_0 : Int) + 1 := by omega
      have h_3 : (0 : Int) ≤ (t1.1 0 30).toInt ∧ (t1.1 0 30).toInt ≤ 120 := hok.1 0 30
      refine lv_aload_n C.1 C.2.1 dX12_toColumn_0 rfl (lv_at hl 0 rfl) ?_
      refine k_get (v := .int (t1.1 0 30)) C hP 0 rfl rfl inlX12 30 (by decide) m_42_8 rfl dX12_toColumn_1 ?_
      refine lv_iload_n C.1 C.2.1 dX12_toColumn_4 rfl (lv_at hl 1 rfl) ?_
      refine lv_iconst (v := 1) C.1 C.2.1 dX12_toColumn_5 (by decide) ?_
      obtain ⟨v_4, e_5⟩ : ∃ z, z = (x1 : Int32) - (1 : Int32) := ⟨_, rfl⟩
      have h_6 : v_4.toInt = x1.toInt - 1 := by rw [e_5]; exact ti_isub (by show (_ : Int) ≤ x1.toInt - 1; omega) (by show x1.toInt - 1 < (_ : Int); omega)
      refine k_isub (v := v_4) C e_5.symm dX12_toColumn_6 ?_
      refine lv_icmp_ge (tgt := 19) C.1 C.2.1 dX12_toColumn_7 (by decide) (fun c_7 => ?_) (fun c_7 => ?_)
      · replace c_7 : v_4.toInt ≤ (t1.1 0 30).toInt := i_le c_7
        exact g_vret C hr hlocks hP hD hS t1 rfl ⟨hok, hfr, (show (t.1 0 30).toInt ≤ (t1.1 0 30).toInt from by omega), (show (t1.1 0 30).toInt ≤ (t.1 0 30).toInt ∨ (t1.1 0 30).toInt ≤ x1.toInt - 1 from by omega)⟩ (Nat.le_of_ble_eq_true rfl) (Nat.le_of_ble_eq_true rfl) dX12_toColumn_19
      · replace c_7 : (t1.1 0 30).toInt < v_4.toInt := i_nle c_7
        refine lv_aload_n C.1 C.2.1 dX12_toColumn_10 rfl (lv_at hl 0 rfl) ?_
        refine lv_bipush (v := 32) C.1 C.2.1 dX12_toColumn_11 (by decide) ?_
        refine g_Vv (As := [.int 32]) (rest := []) C hP hD hS hA (T_X12_say l D K Z Y ad t1 hok 32 (show (t1.1 0 30).toInt ≤ 119 from by omega)) hE hZ (uwV m_42_13 m_42_14 m_42_15 m_1_5 m_42_16) (hdV 1 (by decide +kernel) rfl) ⟨Nat.le_of_ble_eq_true rfl, Nat.le_of_ble_eq_true rfl⟩ rfl rfl (ci := 11) (q0 := 0) rfl rfl rfl hl.1 (Nat.le_of_ble_eq_true rfl) dX12_toColumn_13 ⟨Nat.le_of_ble_eq_true rfl, Nat.le_of_ble_eq_true rfl⟩ (fun t_8 H locs hw hP hD hS => ?_)
        obtain ⟨hok, f_10, p_11⟩ := hw
        have hfr : frA [(0, 30)] [] [14] [] t t_8 := frA_tr hfr f_10 rfl
        have h_12 : (0 : Int) ≤ (t_8.1 0 30).toInt ∧ (t_8.1 0 30).toInt ≤ 120 := hok.1 0 30
        replace p_11 : (t_8.1 0 30).toInt = (t1.1 0 30).toInt + 1 := p_11
        refine lv_goto (tgt := 0) C.1 C.2.1 dX12_toColumn_16 (by decide) ?_
        exact ih_0 t_8 _ _ _ hok hfr (show (t_8.1 0 30).toInt ≤ (t.1 0 30).toInt ∨ (t_8.1 0 30).toInt ≤ x1.toInt - 1 from by omega) (show (t.1 0 30).toInt ≤ (t_8.1 0 30).toInt from by omega) (show (121 - (t_8.1 0 30).toInt) < (fuel_0 : Int) from by omega) hP hD hS (lv_sub hl [0, 1] rfl)
  exact L_0 200 t _ _ _ hok hfr (show (t.1 0 30).toInt ≤ (t.1 0 30).toInt ∨ (t.1 0 30).toInt ≤ x1.toInt - 1 from by omega) (show (t.1 0 30).toInt ≤ (t.1 0 30).toInt from by omega) (show (121 - (t.1 0 30).toInt) < ((200 : Nat) : Int) from by omega) hP hD hS (lv_sub hl [0, 1] rfl)

theorem dX12_isHere_0 : decode cX12_isHere 0 = .ok (.iload_n 1, 1) := by decide +kernel
theorem dX12_isHere_1 : decode cX12_isHere 1 = .ok (.aload_n 0, 1) := by decide +kernel
theorem dX12_isHere_11 : decode cX12_isHere 11 = .ok (.goto 4, 3) := by decide +kernel
theorem dX12_isHere_14 : decode cX12_isHere 14 = .ok (.iconst 0, 1) := by decide +kernel
theorem dX12_isHere_15 : decode cX12_isHere 15 = .ok (.if_icmp .lt 14, 3) := by decide +kernel
theorem dX12_isHere_18 : decode cX12_isHere 18 = .ok (.iload_n 1, 1) := by decide +kernel
theorem dX12_isHere_19 : decode cX12_isHere 19 = .ok (.sipush 3999, 3) := by decide +kernel
theorem dX12_isHere_2 : decode cX12_isHere 2 = .ok (.getfield 241, 3) := by decide +kernel
theorem dX12_isHere_22 : decode cX12_isHere 22 = .ok (.if_icmp .gt 7, 3) := by decide +kernel
theorem dX12_isHere_25 : decode cX12_isHere 25 = .ok (.iconst 1, 1) := by decide +kernel
theorem dX12_isHere_26 : decode cX12_isHere 26 = .ok (.goto 4, 3) := by decide +kernel
theorem dX12_isHere_29 : decode cX12_isHere 29 = .ok (.iconst 0, 1) := by decide +kernel
theorem dX12_isHere_30 : decode cX12_isHere 30 = .ok (.ireturn, 1) := by decide +kernel
theorem dX12_isHere_5 : decode cX12_isHere 5 = .ok (.ifCond .eq 9, 3) := by decide +kernel
theorem dX12_isHere_8 : decode cX12_isHere 8 = .ok (.sipush (-3999), 3) := by decide +kernel
set_option maxHeartbeats 4000000 in
set_option maxRecDepth 100000 in
theorem T_X12_isHere (l : Launch) (D : va_G) (K : Nat → ClassId) (Z Y : Nat → Nat) (ad : Nat → Nat) (t : tSt) (hok : okM t) (x1 : Int32) : tMet l yX12_isHere cX12_isHere 2 (some .boolean) (rmD 0 0 0) D K Z Y [.ref (ad 0), .int x1] (WM K ad t) (QI D K (fun (r : Int32) (u : Unit) => (0 : Int) ≤ r.toInt ∧ r.toInt ≤ 1 ∧ (r.toInt = 1 → -3999 ≤ x1.toInt ∧ x1.toInt ≤ 3999) ∧ (r.toInt = 1 → (t.1 0 10).toInt = 0 → 0 ≤ x1.toInt)) (fun (_ : Unit) => WM K ad t)) 0 0 := by
  refine t_met RX12 ⟨rfl, by decide +kernel⟩ (Nat.le_of_ble_eq_true rfl) ?_
  intro p e s m below meth c A ls C hE hZ hr hlocks hA hP hD hS hl
  have hl : lv_has ls 2 [(0, .ref (ad 0)), (1, .int x1)] := hl
  have h_1 : (0 : Int) ≤ (t.1 0 10).toInt ∧ (t.1 0 10).toInt ≤ 1 := hok.1 0 10
  refine lv_iload_n C.1 C.2.1 dX12_isHere_0 rfl (lv_at hl 1 rfl) ?_
  refine lv_aload_n C.1 C.2.1 dX12_isHere_1 rfl (lv_at hl 0 rfl) ?_
  refine k_get (v := .int (t.1 0 10)) C hP 0 rfl rfl inlX12 10 (by decide) m_30_0 rfl dX12_isHere_2 ?_
  refine lv_if_eq (tgt := 14) C.1 C.2.1 dX12_isHere_5 (by decide) (fun c_2 => ?_) (fun c_2 => ?_)
  · replace c_2 : (t.1 0 10).toInt = 0 := i_eq c_2
    refine lv_iconst (v := 0) C.1 C.2.1 dX12_isHere_14 (by decide) ?_
    refine lv_icmp_lt (tgt := 29) C.1 C.2.1 dX12_isHere_15 (by decide) (fun c_3 => ?_) (fun c_3 => ?_)
    · replace c_3 : x1.toInt < 0 := i_lt c_3
      refine lv_iconst (v := 0) C.1 C.2.1 dX12_isHere_29 (by decide) ?_
      exact g_iret C hr hlocks hP hD hS (by decide) () rfl ⟨by decide, by decide, (show 0 = 1 → -3999 ≤ x1.toInt ∧ x1.toInt ≤ 3999 from by omega), (show 0 = 1 → (t.1 0 10).toInt = 0 → 0 ≤ x1.toInt from by omega)⟩ (Nat.le_of_ble_eq_true rfl) (Nat.le_of_ble_eq_true rfl) dX12_isHere_30
    · replace c_3 : 0 ≤ x1.toInt := i_nlt c_3
      refine lv_iload_n C.1 C.2.1 dX12_isHere_18 rfl (lv_at hl 1 rfl) ?_
      refine lv_sipush (v := 3999) C.1 C.2.1 dX12_isHere_19 (by decide) ?_
      refine lv_icmp_gt (tgt := 29) C.1 C.2.1 dX12_isHere_22 (by decide) (fun c_4 => ?_) (fun c_4 => ?_)
      · replace c_4 : 3999 < x1.toInt := i_lt c_4
        refine lv_iconst (v := 0) C.1 C.2.1 dX12_isHere_29 (by decide) ?_
        exact g_iret C hr hlocks hP hD hS (by decide) () rfl ⟨by decide, by decide, (show 0 = 1 → -3999 ≤ x1.toInt ∧ x1.toInt ≤ 3999 from by omega), (show 0 = 1 → (t.1 0 10).toInt = 0 → 0 ≤ x1.toInt from by omega)⟩ (Nat.le_of_ble_eq_true rfl) (Nat.le_of_ble_eq_true rfl) dX12_isHere_30
      · replace c_4 : x1.toInt ≤ 3999 := i_nlt c_4
        refine lv_iconst (v := 1) C.1 C.2.1 dX12_isHere_25 (by decide) ?_
        refine lv_goto (tgt := 30) C.1 C.2.1 dX12_isHere_26 (by decide) ?_
        exact g_iret C hr hlocks hP hD hS (by decide) () rfl ⟨by decide, by decide, (show 1 = 1 → -3999 ≤ x1.toInt ∧ x1.toInt ≤ 3999 from by omega), (show 1 = 1 → (t.1 0 10).toInt = 0 → 0 ≤ x1.toInt from by omega)⟩ (Nat.le_of_ble_eq_true rfl) (Nat.le_of_ble_eq_true rfl) dX12_isHere_30
  · replace c_2 : ¬ (t.1 0 10).toInt = 0 := i_ne c_2
    refine lv_sipush (v := (-3999)) C.1 C.2.1 dX12_isHere_8 (by decide) ?_
    refine lv_goto (tgt := 15) C.1 C.2.1 dX12_isHere_11 (by decide) ?_
    refine lv_icmp_lt (tgt := 29) C.1 C.2.1 dX12_isHere_15 (by decide) (fun c_5 => ?_) (fun c_5 => ?_)
    · replace c_5 : x1.toInt < (-3999) := i_lt c_5
      refine lv_iconst (v := 0) C.1 C.2.1 dX12_isHere_29 (by decide) ?_
      exact g_iret C hr hlocks hP hD hS (by decide) () rfl ⟨by decide, by decide, (show 0 = 1 → -3999 ≤ x1.toInt ∧ x1.toInt ≤ 3999 from by omega), (show 0 = 1 → (t.1 0 10).toInt = 0 → 0 ≤ x1.toInt from by omega)⟩ (Nat.le_of_ble_eq_true rfl) (Nat.le_of_ble_eq_true rfl) dX12_isHere_30
    · replace c_5 : (-3999) ≤ x1.toInt := i_nlt c_5
      refine lv_iload_n C.1 C.2.1 dX12_isHere_18 rfl (lv_at hl 1 rfl) ?_
      refine lv_sipush (v := 3999) C.1 C.2.1 dX12_isHere_19 (by decide) ?_
      refine lv_icmp_gt (tgt := 29) C.1 C.2.1 dX12_isHere_22 (by decide) (fun c_6 => ?_) (fun c_6 => ?_)
      · replace c_6 : 3999 < x1.toInt := i_lt c_6
        refine lv_iconst (v := 0) C.1 C.2.1 dX12_isHere_29 (by decide) ?_
        exact g_iret C hr hlocks hP hD hS (by decide) () rfl ⟨by decide, by decide, (show 0 = 1 → -3999 ≤ x1.toInt ∧ x1.toInt ≤ 3999 from by omega), (show 0 = 1 → (t.1 0 10).toInt = 0 → 0 ≤ x1.toInt from by omega)⟩ (Nat.le_of_ble_eq_true rfl) (Nat.le_of_ble_eq_true rfl) dX12_isHere_30
      · replace c_6 : x1.toInt ≤ 3999 := i_nlt c_6
        refine lv_iconst (v := 1) C.1 C.2.1 dX12_isHere_25 (by decide) ?_
        refine lv_goto (tgt := 30) C.1 C.2.1 dX12_isHere_26 (by decide) ?_
        exact g_iret C hr hlocks hP hD hS (by decide) () rfl ⟨by decide, by decide, (show 1 = 1 → -3999 ≤ x1.toInt ∧ x1.toInt ≤ 3999 from by omega), (show 1 = 1 → (t.1 0 10).toInt = 0 → 0 ≤ x1.toInt from by omega)⟩ (Nat.le_of_ble_eq_true rfl) (Nat.le_of_ble_eq_true rfl) dX12_isHere_30

theorem dX12_hasOption_0 : decode cX12_hasOption 0 = .ok (.aload_n 0, 1) := by decide +kernel
theorem dX12_hasOption_1 : decode cX12_hasOption 1 = .ok (.getfield 743, 3) := by decide +kernel
theorem dX12_hasOption_12 : decode cX12_hasOption 12 = .ok (.iconst 1, 1) := by decide +kernel
theorem dX12_hasOption_13 : decode cX12_hasOption 13 = .ok (.goto 4, 3) := by decide +kernel
theorem dX12_hasOption_16 : decode cX12_hasOption 16 = .ok (.iconst 0, 1) := by decide +kernel
theorem dX12_hasOption_17 : decode cX12_hasOption 17 = .ok (.ireturn, 1) := by decide +kernel
theorem dX12_hasOption_4 : decode cX12_hasOption 4 = .ok (.iload_n 1, 1) := by decide +kernel
theorem dX12_hasOption_5 : decode cX12_hasOption 5 = .ok (.ishr, 1) := by decide +kernel
theorem dX12_hasOption_6 : decode cX12_hasOption 6 = .ok (.iconst 1, 1) := by decide +kernel
theorem dX12_hasOption_7 : decode cX12_hasOption 7 = .ok (.iand, 1) := by decide +kernel
theorem dX12_hasOption_8 : decode cX12_hasOption 8 = .ok (.iconst 1, 1) := by decide +kernel
theorem dX12_hasOption_9 : decode cX12_hasOption 9 = .ok (.if_icmp .ne 7, 3) := by decide +kernel
set_option maxHeartbeats 4000000 in
set_option maxRecDepth 100000 in
theorem T_X12_hasOption (l : Launch) (D : va_G) (K : Nat → ClassId) (Z Y : Nat → Nat) (ad : Nat → Nat) (t : tSt) (hok : okM t) (x1 : Int32) (hx1 : (0 : Int) ≤ x1.toInt ∧ x1.toInt ≤ 4) : tMet l yX12_hasOption cX12_hasOption 2 (some .boolean) (rmD 0 0 0) D K Z Y [.ref (ad 0), .int x1] (WM K ad t) (QI D K (fun (r : Int32) (u : Unit) => (0 : Int) ≤ r.toInt ∧ r.toInt ≤ 1) (fun (_ : Unit) => WM K ad t)) 0 0 := by
  refine t_met RX12 ⟨rfl, by decide +kernel⟩ (Nat.le_of_ble_eq_true rfl) ?_
  intro p e s m below meth c A ls C hE hZ hr hlocks hA hP hD hS hl
  have hl : lv_has ls 2 [(0, .ref (ad 0)), (1, .int x1)] := hl
  refine lv_aload_n C.1 C.2.1 dX12_hasOption_0 rfl (lv_at hl 0 rfl) ?_
  refine k_get (v := .int (t.1 0 80)) C hP 0 rfl rfl inlX12 80 (by decide) m_79_0 rfl dX12_hasOption_1 ?_
  refine lv_iload_n C.1 C.2.1 dX12_hasOption_4 rfl (lv_at hl 1 rfl) ?_
  obtain ⟨v_1, e_2⟩ : ∃ z, z = ((t.1 0 80) : Int32) >>> ((x1 : Int32) &&& 31) := ⟨_, rfl⟩
  refine k_ishr (v := v_1) C e_2.symm dX12_hasOption_5 ?_
  refine lv_iconst (v := 1) C.1 C.2.1 dX12_hasOption_6 (by decide) ?_
  obtain ⟨v_4, e_5⟩ : ∃ z, z = (v_1 : Int32) &&& (1 : Int32) := ⟨_, rfl⟩
  have h_6 : v_4.toInt = v_1.toInt % 2 ^ 1 := by rw [e_5]; exact Jvm.Kit.i32_mask _ _ (k := 1) (by decide) (by decide)
  refine k_iand (v := v_4) C e_5.symm dX12_hasOption_7 ?_
  refine lv_iconst (v := 1) C.1 C.2.1 dX12_hasOption_8 (by decide) ?_
  refine lv_icmp_ne (tgt := 16) C.1 C.2.1 dX12_hasOption_9 (by decide) (fun c_7 => ?_) (fun c_7 => ?_)
  · replace c_7 : ¬ v_4.toInt = 1 := i_ne c_7
    refine lv_iconst (v := 0) C.1 C.2.1 dX12_hasOption_16 (by decide) ?_
    exact g_iret C hr hlocks hP hD hS (by decide) () rfl ⟨by decide, by decide⟩ (Nat.le_of_ble_eq_true rfl) (Nat.le_of_ble_eq_true rfl) dX12_hasOption_17
  · replace c_7 : v_4.toInt = 1 := i_eq c_7
    refine lv_iconst (v := 1) C.1 C.2.1 dX12_hasOption_12 (by decide) ?_
    refine lv_goto (tgt := 17) C.1 C.2.1 dX12_hasOption_13 (by decide) ?_
    exact g_iret C hr hlocks hP hD hS (by decide) () rfl ⟨by decide, by decide⟩ (Nat.le_of_ble_eq_true rfl) (Nat.le_of_ble_eq_true rfl) dX12_hasOption_17

theorem dX12_takeImage_0 : decode cX12_takeImage 0 = .ok (.iconst 0, 1) := by decide +kernel
theorem dX12_takeImage_1 : decode cX12_takeImage 1 = .ok (.istore_n 1, 1) := by decide +kernel
theorem dX12_takeImage_10 : decode cX12_takeImage 10 = .ok (.iload_n 1, 1) := by decide +kernel
theorem dX12_takeImage_11 : decode cX12_takeImage 11 = .ok (.aload_n 0, 1) := by decide +kernel
theorem dX12_takeImage_12 : decode cX12_takeImage 12 = .ok (.getfield 149, 3) := by decide +kernel
theorem dX12_takeImage_15 : decode cX12_takeImage 15 = .ok (.iload_n 1, 1) := by decide +kernel
theorem dX12_takeImage_16 : decode cX12_takeImage 16 = .ok (.iaload, 1) := by decide +kernel
theorem dX12_takeImage_17 : decode cX12_takeImage 17 = .ok (.invokevirtual 214, 3) := by decide +kernel
theorem dX12_takeImage_2 : decode cX12_takeImage 2 = .ok (.iload_n 1, 1) := by decide +kernel
theorem dX12_takeImage_20 : decode cX12_takeImage 20 = .ok (.iinc 1 1, 3) := by decide +kernel
theorem dX12_takeImage_23 : decode cX12_takeImage 23 = .ok (.goto (-21), 3) := by decide +kernel
theorem dX12_takeImage_26 : decode cX12_takeImage 26 = .ok (.aload_n 0, 1) := by decide +kernel
theorem dX12_takeImage_27 : decode cX12_takeImage 27 = .ok (.aload_n 0, 1) := by decide +kernel
theorem dX12_takeImage_28 : decode cX12_takeImage 28 = .ok (.getfield 826, 3) := by decide +kernel
theorem dX12_takeImage_3 : decode cX12_takeImage 3 = .ok (.sipush 3999, 3) := by decide +kernel
theorem dX12_takeImage_31 : decode cX12_takeImage 31 = .ok (.putfield 602, 3) := by decide +kernel
theorem dX12_takeImage_34 : decode cX12_takeImage 34 = .ok (.return_, 1) := by decide +kernel
theorem dX12_takeImage_6 : decode cX12_takeImage 6 = .ok (.if_icmp .gt 20, 3) := by decide +kernel
theorem dX12_takeImage_9 : decode cX12_takeImage 9 = .ok (.aload_n 0, 1) := by decide +kernel
set_option maxHeartbeats 4000000 in
set_option maxRecDepth 100000 in
theorem T_X12_takeImage (l : Launch) (D : va_G) (K : Nat → ClassId) (Z Y : Nat → Nat) (ad : Nat → Nat) (t : tSt) (hok : okM t)  : tMet l yX12_takeImage cX12_takeImage 2 none (rmD 1 0 0) D K Z Y [.ref (ad 0)] (WM K ad t) (QV D K (fun (u : tSt) => okM u ∧ frA [(0, 45)] [] [2] [] t u) (fun (u : tSt) => WM K ad u)) 0 0 := by
  refine t_met RX12 ⟨rfl, by decide +kernel⟩ (Nat.le_of_ble_eq_true rfl) ?_
  intro p e s m below meth c A ls C hE hZ hr hlocks hA hP hD hS hl
  have hl : lv_has ls 2 [(0, .ref (ad 0))] := hl
  have hokt := hok
  have hfr : frA [(0, 45)] [] [2] [] t t := frA_rf
  have L_2 : ∀ (fuel_2 : Nat) (t1 : tSt) (w2_1 : Int32) (H : Heap) (locs : List Loc) (ls : Array Slot), okM t1 → frA [(0, 45)] [] [2] [] t t1 → (0 : Int) ≤ w2_1.toInt ∧ w2_1.toInt ≤ 4000 → (4000 : Int) - w2_1.toInt < (fuel_2 : Int) → va_P D vwCl (WM K ad t1) H → va_D A (WM K ad t1) → va_S A s.heap H locs → lv_has ls 2 [(0, .ref (ad 0)), (1, .int w2_1)] → W p l e (rmD 1 0 0) s m [.ref (ad 0)].toArray below meth c H locs 0 0 (MQ below (QV D K (fun (u : tSt) => okM u ∧ frA [(0, 45)] [] [2] [] t u) (fun (u : tSt) => WM K ad u) A) [.ref (ad 0)].toArray s 0 0 A) (F0 m 2 ls []) := by
    intro fuel_2
    induction fuel_2 with
    | zero =>
      intro t1 w2_1 H locs ls hok hfr hw2_1 hm2_2 hP hD hS hl
      exact absurd hm2_2 (by omega)
    | succ fuel_2 ih_2 =>
      intro t1 w2_1 H locs ls hok hfr hw2_1 hm2_2 hP hD hS hl
      have hm2_2 : (4000 : Int) - w2_1.toInt < (fuel_2 : Int) + 1 := by omega
      refine lv_iload_n C.1 C.2.1 dX12_takeImage_2 rfl (lv_at hl 1 rfl) ?_
      refine lv_sipush (v := 3999) C.1 C.2.1 dX12_takeImage_3 (by decide) ?_
      refine lv_icmp_gt (tgt := 26) C.1 C.2.1 dX12_takeImage_6 (by decide) (fun c_1 => ?_) (fun c_1 => ?_)
      · replace c_1 : 3999 < w2_1.toInt := i_lt c_1
        refine lv_aload_n C.1 C.2.1 dX12_takeImage_26 rfl (lv_at hl 0 rfl) ?_
        refine lv_aload_n C.1 C.2.1 dX12_takeImage_27 rfl (lv_at hl 0 rfl) ?_
        have h_2 : (-3999 : Int) ≤ (t1.1 0 90).toInt ∧ (t1.1 0 90).toInt ≤ 3999 := hok.1 0 90
        refine k_get (v := .int (t1.1 0 90)) C hP 0 rfl rfl inlX12 90 (by decide) m_80_6 rfl dX12_takeImage_28 ?_
        refine k_put (ws' := WM K ad (uI t1 0 45 (t1.1 0 90))) (v := .int (t1.1 0 90)) C hP hD hS 0 rfl rfl inlX12 tyX12_ok nmX12 45 (by decide) m_29_0 rfl rfl rfl rfl rfl dX12_takeImage_31 (fun H locs hP hD hS => ?_)
        have hok : okM (uI t1 0 45 (t1.1 0 90)) := ⟨okI_I hok.1 0 45 (t1.1 0 90) (show (-3999 : Int) ≤ ((t1.1 0 90) : Int32).toInt ∧ ((t1.1 0 90) : Int32).toInt ≤ 3999 from ⟨by omega, by omega⟩), hok.2.1, hok.2.2.1, hok.2.2.2.1, hok.2.2.2.2.1, hok.2.2.2.2.2.1, hok.2.2.2.2.2.2.1, trivial⟩
        have hfr : frA [(0, 45)] [] [2] [] t (uI t1 0 45 (t1.1 0 90)) := frA_I hfr 0 45 _ rfl
        exact g_vret C hr hlocks hP hD hS (uI t1 0 45 (t1.1 0 90)) rfl ⟨hok, hfr⟩ (Nat.le_of_ble_eq_true rfl) (Nat.le_of_ble_eq_true rfl) dX12_takeImage_34
      · replace c_1 : w2_1.toInt ≤ 3999 := i_nlt c_1
        refine lv_aload_n C.1 C.2.1 dX12_takeImage_9 rfl (lv_at hl 0 rfl) ?_
        refine lv_iload_n C.1 C.2.1 dX12_takeImage_10 rfl (lv_at hl 1 rfl) ?_
        refine lv_aload_n C.1 C.2.1 dX12_takeImage_11 rfl (lv_at hl 0 rfl) ?_
        refine k_get (v := .ref (ad 43)) C hP 0 rfl rfl inlX12 89 (by decide) m_9_3 rfl dX12_takeImage_12 ?_
        refine lv_iload_n C.1 C.2.1 dX12_takeImage_15 rfl (lv_at hl 1 rfl) ?_
        obtain ⟨v_3, e_4⟩ : ∃ z, z = (t1.2.2.1 43 (w2_1 : Int32).toNatClampNeg) := ⟨_, rfl⟩
        refine k_ild (v := v_3) C hP 43 rfl (vp_in_iff.mpr ⟨by omega, by omega⟩) e_4.symm dX12_takeImage_16 ?_
        refine g_Vv (As := [.int w2_1, .int v_3]) (rest := []) C hP hD hS hA (T_X12_setMemory l D K Z Y ad t1 hok (w2_1) (show (-3999 : Int) ≤ (w2_1 : Int32).toInt ∧ (w2_1 : Int32).toInt ≤ 3999 from ⟨by omega, by omega⟩) (v_3)) hE hZ (uwV m_38_15 m_38_16 m_38_17 m_1_5 m_38_18) (hdV 2 (by decide +kernel) rfl) ⟨Nat.le_of_ble_eq_true rfl, Nat.le_of_ble_eq_true rfl⟩ rfl rfl (ci := 11) (q0 := 0) rfl rfl rfl hl.1 (Nat.le_of_ble_eq_true rfl) dX12_takeImage_17 ⟨Nat.le_of_ble_eq_true rfl, Nat.le_of_ble_eq_true rfl⟩ (fun t_5 H locs hw hP hD hS => ?_)
        obtain ⟨hok, f_7⟩ := hw
        have hfr : frA [(0, 45)] [] [2] [] t t_5 := frA_tr hfr f_7 rfl
        obtain ⟨v_8, e_9⟩ : ∃ z, z = w2_1 + 1 := ⟨_, rfl⟩
        have h_10 : v_8.toInt = w2_1.toInt + 1 := by rw [e_9]; exact ti_iadd (by show (_ : Int) ≤ w2_1.toInt + 1; omega) (by show w2_1.toInt + 1 < (_ : Int); omega)
        refine lv_iinc (v := v_8) (lv' := [(1, .int v_8), (0, .ref (ad 0))]) C.1 C.2.1 dX12_takeImage_20 hl (k := 1) rfl e_9.symm (by decide) rfl (fun ls hl => ?_)
        have hl : lv_has ls 2 [(0, .ref (ad 0)), (1, .int v_8)] := lv_sub hl [1, 0] rfl
        refine lv_goto (tgt := 2) C.1 C.2.1 dX12_takeImage_23 (by decide) ?_
        exact ih_2 t_5 v_8 _ _ _ hok hfr ⟨by omega, by omega⟩ (show (4000 : Int) - v_8.toInt < (fuel_2 : Int) from by omega) hP hD hS (lv_sub hl [0, 1] rfl)
  refine lv_iconst (v := 0) C.1 C.2.1 dX12_takeImage_0 (by decide) ?_
  refine lv_istore_n (lv' := [(1, .int 0), (0, .ref (ad 0))]) C.1 C.2.1 dX12_takeImage_1 rfl hl (by decide) rfl (fun ls hl => ?_)
  have hl : lv_has ls 2 [(0, .ref (ad 0)), (1, .int 0)] := lv_sub hl [1, 0] rfl
  exact L_2 4001 t 0 _ _ _ hok hfr ⟨by decide, by decide⟩ (show (4000 : Int) - 0 < ((4001 : Nat) : Int) from by omega) hP hD hS (lv_sub hl [0, 1] rfl)

theorem dX12_keepImage_0 : decode cX12_keepImage 0 = .ok (.iconst 0, 1) := by decide +kernel
theorem dX12_keepImage_1 : decode cX12_keepImage 1 = .ok (.istore_n 1, 1) := by decide +kernel
theorem dX12_keepImage_10 : decode cX12_keepImage 10 = .ok (.getfield 149, 3) := by decide +kernel
theorem dX12_keepImage_13 : decode cX12_keepImage 13 = .ok (.iload_n 1, 1) := by decide +kernel
theorem dX12_keepImage_14 : decode cX12_keepImage 14 = .ok (.aload_n 0, 1) := by decide +kernel
theorem dX12_keepImage_15 : decode cX12_keepImage 15 = .ok (.iload_n 1, 1) := by decide +kernel
theorem dX12_keepImage_16 : decode cX12_keepImage 16 = .ok (.invokevirtual 260, 3) := by decide +kernel
theorem dX12_keepImage_19 : decode cX12_keepImage 19 = .ok (.iastore, 1) := by decide +kernel
theorem dX12_keepImage_2 : decode cX12_keepImage 2 = .ok (.iload_n 1, 1) := by decide +kernel
theorem dX12_keepImage_20 : decode cX12_keepImage 20 = .ok (.iinc 1 1, 3) := by decide +kernel
theorem dX12_keepImage_23 : decode cX12_keepImage 23 = .ok (.goto (-21), 3) := by decide +kernel
theorem dX12_keepImage_26 : decode cX12_keepImage 26 = .ok (.aload_n 0, 1) := by decide +kernel
theorem dX12_keepImage_27 : decode cX12_keepImage 27 = .ok (.aload_n 0, 1) := by decide +kernel
theorem dX12_keepImage_28 : decode cX12_keepImage 28 = .ok (.getfield 602, 3) := by decide +kernel
theorem dX12_keepImage_3 : decode cX12_keepImage 3 = .ok (.sipush 3999, 3) := by decide +kernel
theorem dX12_keepImage_31 : decode cX12_keepImage 31 = .ok (.putfield 826, 3) := by decide +kernel
theorem dX12_keepImage_34 : decode cX12_keepImage 34 = .ok (.aload_n 0, 1) := by decide +kernel
theorem dX12_keepImage_35 : decode cX12_keepImage 35 = .ok (.iconst 1, 1) := by decide +kernel
theorem dX12_keepImage_36 : decode cX12_keepImage 36 = .ok (.putfield 770, 3) := by decide +kernel
theorem dX12_keepImage_39 : decode cX12_keepImage 39 = .ok (.return_, 1) := by decide +kernel
theorem dX12_keepImage_6 : decode cX12_keepImage 6 = .ok (.if_icmp .gt 20, 3) := by decide +kernel
theorem dX12_keepImage_9 : decode cX12_keepImage 9 = .ok (.aload_n 0, 1) := by decide +kernel
set_option maxHeartbeats 4000000 in
set_option maxRecDepth 100000 in
theorem T_X12_keepImage (l : Launch) (D : va_G) (K : Nat → ClassId) (Z Y : Nat → Nat) (ad : Nat → Nat) (t : tSt) (hok : okM t)  : tMet l yX12_keepImage cX12_keepImage 2 none (rmD 1 0 0) D K Z Y [.ref (ad 0)] (WM K ad t) (QV D K (fun (u : tSt) => okM u ∧ frA [(0, 88), (0, 90)] [] [43] [] t u) (fun (u : tSt) => WM K ad u)) 0 0 := by
  refine t_met RX12 ⟨rfl, by decide +kernel⟩ (Nat.le_of_ble_eq_true rfl) ?_
  intro p e s m below meth c A ls C hE hZ hr hlocks hA hP hD hS hl
  have hl : lv_has ls 2 [(0, .ref (ad 0))] := hl
  have hokt := hok
  have hfr : frA [(0, 88), (0, 90)] [] [43] [] t t := frA_rf
  have L_2 : ∀ (fuel_2 : Nat) (t1 : tSt) (w2_1 : Int32) (H : Heap) (locs : List Loc) (ls : Array Slot), okM t1 → frA [(0, 88), (0, 90)] [] [43] [] t t1 → (0 : Int) ≤ w2_1.toInt ∧ w2_1.toInt ≤ 4000 → (4000 : Int) - w2_1.toInt < (fuel_2 : Int) → va_P D vwCl (WM K ad t1) H → va_D A (WM K ad t1) → va_S A s.heap H locs → lv_has ls 2 [(0, .ref (ad 0)), (1, .int w2_1)] → W p l e (rmD 1 0 0) s m [.ref (ad 0)].toArray below meth c H locs 0 0 (MQ below (QV D K (fun (u : tSt) => okM u ∧ frA [(0, 88), (0, 90)] [] [43] [] t u) (fun (u : tSt) => WM K ad u) A) [.ref (ad 0)].toArray s 0 0 A) (F0 m 2 ls []) := by
    intro fuel_2
    induction fuel_2 with
    | zero =>
      intro t1 w2_1 H locs ls hok hfr hw2_1 hm2_2 hP hD hS hl
      exact absurd hm2_2 (by omega)
    | succ fuel_2 ih_2 =>
      intro t1 w2_1 H locs ls hok hfr hw2_1 hm2_2 hP hD hS hl
      have hm2_2 : (4000 : Int) - w2_1.toInt < (fuel_2 : Int) + 1 := by omega
      refine lv_iload_n C.1 C.2.1 dX12_keepImage_2 rfl (lv_at hl 1 rfl) ?_
      refine lv_sipush (v := 3999) C.1 C.2.1 dX12_keepImage_3 (by decide) ?_
      refine lv_icmp_gt (tgt := 26) C.1 C.2.1 dX12_keepImage_6 (by decide) (fun c_1 => ?_) (fun c_1 => ?_)
      · replace c_1 : 3999 < w2_1.toInt := i_lt c_1
        refine lv_aload_n C.1 C.2.1 dX12_keepImage_26 rfl (lv_at hl 0 rfl) ?_
        refine lv_aload_n C.1 C.2.1 dX12_keepImage_27 rfl (lv_at hl 0 rfl) ?_
        have h_2 : (-3999 : Int) ≤ (t1.1 0 45).toInt ∧ (t1.1 0 45).toInt ≤ 3999 := hok.1 0 45
        refine k_get (v := .int (t1.1 0 45)) C hP 0 rfl rfl inlX12 45 (by decide) m_29_0 rfl dX12_keepImage_28 ?_
        refine k_put (ws' := WM K ad (uI t1 0 90 (t1.1 0 45))) (v := .int (t1.1 0 45)) C hP hD hS 0 rfl rfl inlX12 tyX12_ok nmX12 90 (by decide) m_80_6 rfl rfl rfl rfl rfl dX12_keepImage_31 (fun H locs hP hD hS => ?_)
        have hok : okM (uI t1 0 90 (t1.1 0 45)) := ⟨okI_I hok.1 0 90 (t1.1 0 45) (show (-3999 : Int) ≤ ((t1.1 0 45) : Int32).toInt ∧ ((t1.1 0 45) : Int32).toInt ≤ 3999 from ⟨by omega, by omega⟩), hok.2.1, hok.2.2.1, hok.2.2.2.1, hok.2.2.2.2.1, hok.2.2.2.2.2.1, hok.2.2.2.2.2.2.1, trivial⟩
        have hfr : frA [(0, 88), (0, 90)] [] [43] [] t (uI t1 0 90 (t1.1 0 45)) := frA_I hfr 0 90 _ rfl
        refine lv_aload_n C.1 C.2.1 dX12_keepImage_34 rfl (lv_at hl 0 rfl) ?_
        refine lv_iconst (v := 1) C.1 C.2.1 dX12_keepImage_35 (by decide) ?_
        refine k_put (ws' := WM K ad (uI (uI t1 0 90 (t1.1 0 45)) 0 88 1)) (v := .int 1) C hP hD hS 0 rfl rfl inlX12 tyX12_ok nmX12 88 (by decide) m_78_15 rfl (by decide) (by decide) rfl rfl dX12_keepImage_36 (fun H locs hP hD hS => ?_)
        have hok : okM (uI (uI t1 0 90 (t1.1 0 45)) 0 88 1) := ⟨okI_I hok.1 0 88 1 (show (0 : Int) ≤ (1 : Int32).toInt ∧ (1 : Int32).toInt ≤ 1 from ⟨by decide, by decide⟩), hok.2.1, hok.2.2.1, hok.2.2.2.1, hok.2.2.2.2.1, hok.2.2.2.2.2.1, hok.2.2.2.2.2.2.1, trivial⟩
        have hfr : frA [(0, 88), (0, 90)] [] [43] [] t (uI (uI t1 0 90 (t1.1 0 45)) 0 88 1) := frA_I hfr 0 88 _ rfl
        exact g_vret C hr hlocks hP hD hS (uI (uI t1 0 90 (t1.1 0 45)) 0 88 1) rfl ⟨hok, hfr⟩ (Nat.le_of_ble_eq_true rfl) (Nat.le_of_ble_eq_true rfl) dX12_keepImage_39
      · replace c_1 : w2_1.toInt ≤ 3999 := i_nlt c_1
        refine lv_aload_n C.1 C.2.1 dX12_keepImage_9 rfl (lv_at hl 0 rfl) ?_
        refine k_get (v := .ref (ad 43)) C hP 0 rfl rfl inlX12 89 (by decide) m_9_3 rfl dX12_keepImage_10 ?_
        refine lv_iload_n C.1 C.2.1 dX12_keepImage_13 rfl (lv_at hl 1 rfl) ?_
        refine lv_aload_n C.1 C.2.1 dX12_keepImage_14 rfl (lv_at hl 0 rfl) ?_
        refine lv_iload_n C.1 C.2.1 dX12_keepImage_15 rfl (lv_at hl 1 rfl) ?_
        refine g_Vi (As := [.int w2_1]) (rest := [.int w2_1, .ref (ad 43)]) C hP hD hS hA (T_X12_memoryAt l D K Z Y ad t1 hok (w2_1) (show (-3999 : Int) ≤ (w2_1 : Int32).toInt ∧ (w2_1 : Int32).toInt ≤ 3999 from ⟨by omega, by omega⟩)) hE hZ (uwV m_38_19 m_38_20 m_38_21 m_1_5 m_38_22) (hdV 1 (by decide +kernel) rfl) ⟨Nat.le_of_ble_eq_true rfl, Nat.le_of_ble_eq_true rfl⟩ rfl rfl (ci := 11) (q0 := 0) rfl rfl rfl hl.1 (Nat.le_of_ble_eq_true rfl) dX12_keepImage_16 ⟨Nat.le_of_ble_eq_true rfl, Nat.le_of_ble_eq_true rfl⟩ (fun r_4 t_3 H locs hw hP hD hS => ?_)
        obtain ⟨h_6, h_7⟩ := hw
        refine k_ist (ws' := WM K ad (uB t1 43 (w2_1 : Int32).toNatClampNeg r_4)) (x' := r_4) C hP hD hS 43 rfl (vp_in_iff.mpr ⟨by omega, by omega⟩) rfl rfl rfl dX12_keepImage_19 (fun H locs hP hD hS => ?_)
        have hok : okM (uB t1 43 (w2_1 : Int32).toNatClampNeg r_4) := ⟨hok.1, okB_B hok.2.1 43 _ r_4 (show (-2147483648 : Int) ≤ (r_4 : Int32).toInt ∧ (r_4 : Int32).toInt ≤ 2147483647 from (i_rng _)), hok.2.2.1, hok.2.2.2.1, hok.2.2.2.2.1, hok.2.2.2.2.2.1, hok.2.2.2.2.2.2.1, trivial⟩
        have hfr : frA [(0, 88), (0, 90)] [] [43] [] t (uB t1 43 (w2_1 : Int32).toNatClampNeg r_4) := frA_B hfr 43 _ _ rfl
        obtain ⟨v_8, e_9⟩ : ∃ z, z = w2_1 + 1 := ⟨_, rfl⟩
        have h_10 : v_8.toInt = w2_1.toInt + 1 := by rw [e_9]; exact ti_iadd (by show (_ : Int) ≤ w2_1.toInt + 1; omega) (by show w2_1.toInt + 1 < (_ : Int); omega)
        refine lv_iinc (v := v_8) (lv' := [(1, .int v_8), (0, .ref (ad 0))]) C.1 C.2.1 dX12_keepImage_20 hl (k := 1) rfl e_9.symm (by decide) rfl (fun ls hl => ?_)
        have hl : lv_has ls 2 [(0, .ref (ad 0)), (1, .int v_8)] := lv_sub hl [1, 0] rfl
        refine lv_goto (tgt := 2) C.1 C.2.1 dX12_keepImage_23 (by decide) ?_
        exact ih_2 (uB t1 43 (w2_1 : Int32).toNatClampNeg r_4) v_8 _ _ _ hok hfr ⟨by omega, by omega⟩ (show (4000 : Int) - v_8.toInt < (fuel_2 : Int) from by omega) hP hD hS (lv_sub hl [0, 1] rfl)
  refine lv_iconst (v := 0) C.1 C.2.1 dX12_keepImage_0 (by decide) ?_
  refine lv_istore_n (lv' := [(1, .int 0), (0, .ref (ad 0))]) C.1 C.2.1 dX12_keepImage_1 rfl hl (by decide) rfl (fun ls hl => ?_)
  have hl : lv_has ls 2 [(0, .ref (ad 0)), (1, .int 0)] := lv_sub hl [1, 0] rfl
  exact L_2 4001 t 0 _ _ _ hok hfr ⟨by decide, by decide⟩ (show (4000 : Int) - 0 < ((4001 : Nat) : Int) from by omega) hP hD hS (lv_sub hl [0, 1] rfl)

theorem dX12_saySign_0 : decode cX12_saySign 0 = .ok (.aload_n 0, 1) := by decide +kernel
theorem dX12_saySign_1 : decode cX12_saySign 1 = .ok (.iload_n 1, 1) := by decide +kernel
theorem dX12_saySign_10 : decode cX12_saySign 10 = .ok (.goto 5, 3) := by decide +kernel
theorem dX12_saySign_13 : decode cX12_saySign 13 = .ok (.bipush 45, 2) := by decide +kernel
theorem dX12_saySign_15 : decode cX12_saySign 15 = .ok (.invokevirtual 189, 3) := by decide +kernel
theorem dX12_saySign_18 : decode cX12_saySign 18 = .ok (.return_, 1) := by decide +kernel
theorem dX12_saySign_2 : decode cX12_saySign 2 = .ok (.ldc 158, 2) := by decide +kernel
theorem dX12_saySign_4 : decode cX12_saySign 4 = .ok (.iand, 1) := by decide +kernel
theorem dX12_saySign_5 : decode cX12_saySign 5 = .ok (.ifCond .ne 8, 3) := by decide +kernel
theorem dX12_saySign_8 : decode cX12_saySign 8 = .ok (.bipush 43, 2) := by decide +kernel
set_option maxHeartbeats 4000000 in
set_option maxRecDepth 100000 in
theorem T_X12_saySign (l : Launch) (D : va_G) (K : Nat → ClassId) (Z Y : Nat → Nat) (ad : Nat → Nat) (t : tSt) (hok : okM t) (x1 : Int32) (hs0 : (t.1 0 30).toInt ≤ 119) : tMet l yX12_saySign cX12_saySign 2 none (rmD 1 0 0) D K Z Y [.ref (ad 0), .int x1] (WM K ad t) (QV D K (fun (u : tSt) => okM u ∧ frA [(0, 30)] [] [14] [] t u ∧ ((u.1 0 30).toInt = (t.1 0 30).toInt + 1)) (fun (u : tSt) => WM K ad u)) 0 0 := by
  refine t_met RX12 ⟨rfl, by decide +kernel⟩ (Nat.le_of_ble_eq_true rfl) ?_
  intro p e s m below meth c A ls C hE hZ hr hlocks hA hP hD hS hl
  have hl : lv_has ls 2 [(0, .ref (ad 0)), (1, .int x1)] := hl
  have hokt := hok
  have hfr : frA [(0, 30)] [] [14] [] t t := frA_rf
  have h_1 : (0 : Int) ≤ (t.1 0 30).toInt ∧ (t.1 0 30).toInt ≤ 120 := hok.1 0 30
  refine lv_aload_n C.1 C.2.1 dX12_saySign_0 rfl (lv_at hl 0 rfl) ?_
  refine lv_iload_n C.1 C.2.1 dX12_saySign_1 rfl (lv_at hl 1 rfl) ?_
  refine lv_ldc (v := 1073741824) C.1 C.2.1 C.2.2.2.1 (C.2.2.2.2.1 _ m_34_19) dX12_saySign_2 ?_
  obtain ⟨v_2, e_3⟩ : ∃ z, z = (x1 : Int32) &&& (1073741824 : Int32) := ⟨_, rfl⟩
  have h_4 : (0 : Int) ≤ v_2.toInt ∧ v_2.toInt ≤ 1073741824 := by rw [e_3]; exact z_and _ (k := 1073741824) (by decide) (by decide)
  refine k_iand (v := v_2) C e_3.symm dX12_saySign_4 ?_
  refine lv_if_ne (tgt := 13) C.1 C.2.1 dX12_saySign_5 (by decide) (fun c_5 => ?_) (fun c_5 => ?_)
  · replace c_5 : ¬ v_2.toInt = 0 := i_ne c_5
    refine lv_bipush (v := 45) C.1 C.2.1 dX12_saySign_13 (by decide) ?_
    refine g_Vv (As := [.int 45]) (rest := []) C hP hD hS hA (T_X12_say l D K Z Y ad t hok 45 (show (t.1 0 30).toInt ≤ 119 from by omega)) hE hZ (uwV m_42_13 m_42_14 m_42_15 m_1_5 m_42_16) (hdV 1 (by decide +kernel) rfl) ⟨Nat.le_of_ble_eq_true rfl, Nat.le_of_ble_eq_true rfl⟩ rfl rfl (ci := 11) (q0 := 0) rfl rfl rfl hl.1 (Nat.le_of_ble_eq_true rfl) dX12_saySign_15 ⟨Nat.le_of_ble_eq_true rfl, Nat.le_of_ble_eq_true rfl⟩ (fun t_6 H locs hw hP hD hS => ?_)
    obtain ⟨hok, f_8, p_9⟩ := hw
    have hfr : frA [(0, 30)] [] [14] [] t t_6 := frA_tr hfr f_8 rfl
    have h_10 : (0 : Int) ≤ (t_6.1 0 30).toInt ∧ (t_6.1 0 30).toInt ≤ 120 := hok.1 0 30
    replace p_9 : (t_6.1 0 30).toInt = (t.1 0 30).toInt + 1 := p_9
    exact g_vret C hr hlocks hP hD hS t_6 rfl ⟨hok, hfr, (show (t_6.1 0 30).toInt = (t.1 0 30).toInt + 1 from by omega)⟩ (Nat.le_of_ble_eq_true rfl) (Nat.le_of_ble_eq_true rfl) dX12_saySign_18
  · replace c_5 : v_2.toInt = 0 := i_eq c_5
    refine lv_bipush (v := 43) C.1 C.2.1 dX12_saySign_8 (by decide) ?_
    refine lv_goto (tgt := 15) C.1 C.2.1 dX12_saySign_10 (by decide) ?_
    refine g_Vv (As := [.int 43]) (rest := []) C hP hD hS hA (T_X12_say l D K Z Y ad t hok 43 (show (t.1 0 30).toInt ≤ 119 from by omega)) hE hZ (uwV m_42_13 m_42_14 m_42_15 m_1_5 m_42_16) (hdV 1 (by decide +kernel) rfl) ⟨Nat.le_of_ble_eq_true rfl, Nat.le_of_ble_eq_true rfl⟩ rfl rfl (ci := 11) (q0 := 0) rfl rfl rfl hl.1 (Nat.le_of_ble_eq_true rfl) dX12_saySign_15 ⟨Nat.le_of_ble_eq_true rfl, Nat.le_of_ble_eq_true rfl⟩ (fun t_11 H locs hw hP hD hS => ?_)
    obtain ⟨hok, f_13, p_14⟩ := hw
    have hfr : frA [(0, 30)] [] [14] [] t t_11 := frA_tr hfr f_13 rfl
    have h_15 : (0 : Int) ≤ (t_11.1 0 30).toInt ∧ (t_11.1 0 30).toInt ≤ 120 := hok.1 0 30
    replace p_14 : (t_11.1 0 30).toInt = (t.1 0 30).toInt + 1 := p_14
    exact g_vret C hr hlocks hP hD hS t_11 rfl ⟨hok, hfr, (show (t_11.1 0 30).toInt = (t.1 0 30).toInt + 1 from by omega)⟩ (Nat.le_of_ble_eq_true rfl) (Nat.le_of_ble_eq_true rfl) dX12_saySign_18

theorem dX12_isOperation_0 : decode cX12_isOperation 0 = .ok (.aload_n 0, 1) := by decide +kernel
theorem dX12_isOperation_1 : decode cX12_isOperation 1 = .ok (.getfield 292, 3) := by decide +kernel
theorem dX12_isOperation_10 : decode cX12_isOperation 10 = .ok (.bipush 6, 2) := by decide +kernel
theorem dX12_isOperation_101 : decode cX12_isOperation 101 = .ok (.aload_n 0, 1) := by decide +kernel
theorem dX12_isOperation_102 : decode cX12_isOperation 102 = .ok (.getfield 289, 3) := by decide +kernel
theorem dX12_isOperation_105 : decode cX12_isOperation 105 = .ok (.bipush 10, 2) := by decide +kernel
theorem dX12_isOperation_107 : decode cX12_isOperation 107 = .ok (.if_icmp .ge 7, 3) := by decide +kernel
theorem dX12_isOperation_110 : decode cX12_isOperation 110 = .ok (.iconst 1, 1) := by decide +kernel
theorem dX12_isOperation_111 : decode cX12_isOperation 111 = .ok (.goto 4, 3) := by decide +kernel
theorem dX12_isOperation_114 : decode cX12_isOperation 114 = .ok (.iconst 0, 1) := by decide +kernel
theorem dX12_isOperation_115 : decode cX12_isOperation 115 = .ok (.ireturn, 1) := by decide +kernel
theorem dX12_isOperation_116 : decode cX12_isOperation 116 = .ok (.aload_n 0, 1) := by decide +kernel
theorem dX12_isOperation_117 : decode cX12_isOperation 117 = .ok (.getfield 282, 3) := by decide +kernel
theorem dX12_isOperation_12 : decode cX12_isOperation 12 = .ok (.if_icmp .le 5, 3) := by decide +kernel
theorem dX12_isOperation_120 : decode cX12_isOperation 120 = .ok (.bipush 48, 2) := by decide +kernel
theorem dX12_isOperation_122 : decode cX12_isOperation 122 = .ok (.if_icmp .lt 20, 3) := by decide +kernel
theorem dX12_isOperation_125 : decode cX12_isOperation 125 = .ok (.aload_n 0, 1) := by decide +kernel
theorem dX12_isOperation_126 : decode cX12_isOperation 126 = .ok (.getfield 282, 3) := by decide +kernel
theorem dX12_isOperation_129 : decode cX12_isOperation 129 = .ok (.bipush 55, 2) := by decide +kernel
theorem dX12_isOperation_131 : decode cX12_isOperation 131 = .ok (.if_icmp .gt 11, 3) := by decide +kernel
theorem dX12_isOperation_134 : decode cX12_isOperation 134 = .ok (.aload_n 0, 1) := by decide +kernel
theorem dX12_isOperation_135 : decode cX12_isOperation 135 = .ok (.getfield 289, 3) := by decide +kernel
theorem dX12_isOperation_138 : decode cX12_isOperation 138 = .ok (.iconst 4, 1) := by decide +kernel
theorem dX12_isOperation_139 : decode cX12_isOperation 139 = .ok (.if_icmp .ge 7, 3) := by decide +kernel
theorem dX12_isOperation_142 : decode cX12_isOperation 142 = .ok (.iconst 1, 1) := by decide +kernel
theorem dX12_isOperation_143 : decode cX12_isOperation 143 = .ok (.goto 4, 3) := by decide +kernel
theorem dX12_isOperation_146 : decode cX12_isOperation 146 = .ok (.iconst 0, 1) := by decide +kernel
theorem dX12_isOperation_147 : decode cX12_isOperation 147 = .ok (.ireturn, 1) := by decide +kernel
theorem dX12_isOperation_15 : decode cX12_isOperation 15 = .ok (.iconst 0, 1) := by decide +kernel
theorem dX12_isOperation_16 : decode cX12_isOperation 16 = .ok (.ireturn, 1) := by decide +kernel
theorem dX12_isOperation_17 : decode cX12_isOperation 17 = .ok (.aload_n 0, 1) := by decide +kernel
theorem dX12_isOperation_18 : decode cX12_isOperation 18 = .ok (.getfield 282, 3) := by decide +kernel
theorem dX12_isOperation_21 : decode cX12_isOperation 21 = .ok (.iconst 5, 1) := by decide +kernel
theorem dX12_isOperation_22 : decode cX12_isOperation 22 = .ok (.if_icmp .ne 28, 3) := by decide +kernel
theorem dX12_isOperation_25 : decode cX12_isOperation 25 = .ok (.aload_n 0, 1) := by decide +kernel
theorem dX12_isOperation_26 : decode cX12_isOperation 26 = .ok (.getfield 289, 3) := by decide +kernel
theorem dX12_isOperation_29 : decode cX12_isOperation 29 = .ok (.aload_n 0, 1) := by decide +kernel
theorem dX12_isOperation_30 : decode cX12_isOperation 30 = .ok (.getfield 241, 3) := by decide +kernel
theorem dX12_isOperation_33 : decode cX12_isOperation 33 = .ok (.ifCond .eq 7, 3) := by decide +kernel
theorem dX12_isOperation_36 : decode cX12_isOperation 36 = .ok (.iconst 4, 1) := by decide +kernel
theorem dX12_isOperation_37 : decode cX12_isOperation 37 = .ok (.goto 4, 3) := by decide +kernel
theorem dX12_isOperation_4 : decode cX12_isOperation 4 = .ok (.bipush 12, 2) := by decide +kernel
theorem dX12_isOperation_40 : decode cX12_isOperation 40 = .ok (.iconst 3, 1) := by decide +kernel
theorem dX12_isOperation_41 : decode cX12_isOperation 41 = .ok (.if_icmp .ge 7, 3) := by decide +kernel
theorem dX12_isOperation_44 : decode cX12_isOperation 44 = .ok (.iconst 1, 1) := by decide +kernel
theorem dX12_isOperation_45 : decode cX12_isOperation 45 = .ok (.goto 4, 3) := by decide +kernel
theorem dX12_isOperation_48 : decode cX12_isOperation 48 = .ok (.iconst 0, 1) := by decide +kernel
theorem dX12_isOperation_49 : decode cX12_isOperation 49 = .ok (.ireturn, 1) := by decide +kernel
theorem dX12_isOperation_50 : decode cX12_isOperation 50 = .ok (.aload_n 0, 1) := by decide +kernel
theorem dX12_isOperation_51 : decode cX12_isOperation 51 = .ok (.getfield 282, 3) := by decide +kernel
theorem dX12_isOperation_54 : decode cX12_isOperation 54 = .ok (.bipush 6, 2) := by decide +kernel
theorem dX12_isOperation_56 : decode cX12_isOperation 56 = .ok (.if_icmp .eq 21, 3) := by decide +kernel
theorem dX12_isOperation_59 : decode cX12_isOperation 59 = .ok (.aload_n 0, 1) := by decide +kernel
theorem dX12_isOperation_6 : decode cX12_isOperation 6 = .ok (.ishr, 1) := by decide +kernel
theorem dX12_isOperation_60 : decode cX12_isOperation 60 = .ok (.getfield 282, 3) := by decide +kernel
theorem dX12_isOperation_63 : decode cX12_isOperation 63 = .ok (.bipush 39, 2) := by decide +kernel
theorem dX12_isOperation_65 : decode cX12_isOperation 65 = .ok (.if_icmp .le 27, 3) := by decide +kernel
theorem dX12_isOperation_68 : decode cX12_isOperation 68 = .ok (.aload_n 0, 1) := by decide +kernel
theorem dX12_isOperation_69 : decode cX12_isOperation 69 = .ok (.getfield 282, 3) := by decide +kernel
theorem dX12_isOperation_7 : decode cX12_isOperation 7 = .ok (.bipush 63, 2) := by decide +kernel
theorem dX12_isOperation_72 : decode cX12_isOperation 72 = .ok (.bipush 48, 2) := by decide +kernel
theorem dX12_isOperation_74 : decode cX12_isOperation 74 = .ok (.if_icmp .ge 18, 3) := by decide +kernel
theorem dX12_isOperation_77 : decode cX12_isOperation 77 = .ok (.aload_n 0, 1) := by decide +kernel
theorem dX12_isOperation_78 : decode cX12_isOperation 78 = .ok (.getfield 289, 3) := by decide +kernel
theorem dX12_isOperation_81 : decode cX12_isOperation 81 = .ok (.bipush 6, 2) := by decide +kernel
theorem dX12_isOperation_83 : decode cX12_isOperation 83 = .ok (.if_icmp .ge 7, 3) := by decide +kernel
theorem dX12_isOperation_86 : decode cX12_isOperation 86 = .ok (.iconst 1, 1) := by decide +kernel
theorem dX12_isOperation_87 : decode cX12_isOperation 87 = .ok (.goto 4, 3) := by decide +kernel
theorem dX12_isOperation_9 : decode cX12_isOperation 9 = .ok (.iand, 1) := by decide +kernel
theorem dX12_isOperation_90 : decode cX12_isOperation 90 = .ok (.iconst 0, 1) := by decide +kernel
theorem dX12_isOperation_91 : decode cX12_isOperation 91 = .ok (.ireturn, 1) := by decide +kernel
theorem dX12_isOperation_92 : decode cX12_isOperation 92 = .ok (.aload_n 0, 1) := by decide +kernel
theorem dX12_isOperation_93 : decode cX12_isOperation 93 = .ok (.getfield 282, 3) := by decide +kernel
theorem dX12_isOperation_96 : decode cX12_isOperation 96 = .ok (.bipush 39, 2) := by decide +kernel
theorem dX12_isOperation_98 : decode cX12_isOperation 98 = .ok (.if_icmp .ne 18, 3) := by decide +kernel
set_option maxHeartbeats 4000000 in
set_option maxRecDepth 100000 in
theorem T_X12_isOperation (l : Launch) (D : va_G) (K : Nat → ClassId) (Z Y : Nat → Nat) (ad : Nat → Nat) (t : tSt) (hok : okM t)  : tMet l yX12_isOperation cX12_isOperation 1 (some .boolean) (rmD 0 0 0) D K Z Y [.ref (ad 0)] (WM K ad t) (QI D K (fun (r : Int32) (u : Unit) => (0 : Int) ≤ r.toInt ∧ r.toInt ≤ 1 ∧ (r.toInt = 1 → (t.1 0 15).toInt / 4096 % 64 ≤ 6)) (fun (_ : Unit) => WM K ad t)) 0 0 := by
  refine t_met RX12 ⟨rfl, by decide +kernel⟩ (Nat.le_of_ble_eq_true rfl) ?_
  intro p e s m below meth c A ls C hE hZ hr hlocks hA hP hD hS hl
  have hl : lv_has ls 1 [(0, .ref (ad 0))] := hl
  refine lv_aload_n C.1 C.2.1 dX12_isOperation_0 rfl (lv_at hl 0 rfl) ?_
  refine k_get (v := .int (t.1 0 15)) C hP 0 rfl rfl inlX12 15 (by decide) m_57_2 rfl dX12_isOperation_1 ?_
  refine lv_bipush (v := 12) C.1 C.2.1 dX12_isOperation_4 (by decide) ?_
  obtain ⟨v_1, e_2⟩ : ∃ z, z = ((t.1 0 15) : Int32) >>> ((12 : Int32) &&& 31) := ⟨_, rfl⟩
  have h_3 : v_1.toInt = (t.1 0 15).toInt / 2 ^ 12 := by rw [e_2]; exact Jvm.Kit.i32_shr _ _ (k := 12) (by decide)
  refine k_ishr (v := v_1) C e_2.symm dX12_isOperation_6 ?_
  refine lv_bipush (v := 63) C.1 C.2.1 dX12_isOperation_7 (by decide) ?_
  obtain ⟨v_4, e_5⟩ : ∃ z, z = (v_1 : Int32) &&& (63 : Int32) := ⟨_, rfl⟩
  have h_6 : v_4.toInt = v_1.toInt % 2 ^ 6 := by rw [e_5]; exact Jvm.Kit.i32_mask _ _ (k := 6) (by decide) (by decide)
  refine k_iand (v := v_4) C e_5.symm dX12_isOperation_9 ?_
  refine lv_bipush (v := 6) C.1 C.2.1 dX12_isOperation_10 (by decide) ?_
  refine lv_icmp_le (tgt := 17) C.1 C.2.1 dX12_isOperation_12 (by decide) (fun c_7 => ?_) (fun c_7 => ?_)
  · replace c_7 : v_4.toInt ≤ 6 := i_le c_7
    refine lv_aload_n C.1 C.2.1 dX12_isOperation_17 rfl (lv_at hl 0 rfl) ?_
    have h_8 : (0 : Int) ≤ (t.1 0 16).toInt ∧ (t.1 0 16).toInt ≤ 63 := hok.1 0 16
    refine k_get (v := .int (t.1 0 16)) C hP 0 rfl rfl inlX12 16 (by decide) m_57_3 rfl dX12_isOperation_18 ?_
    refine lv_iconst (v := 5) C.1 C.2.1 dX12_isOperation_21 (by decide) ?_
    refine lv_icmp_ne (tgt := 50) C.1 C.2.1 dX12_isOperation_22 (by decide) (fun c_9 => ?_) (fun c_9 => ?_)
    · replace c_9 : ¬ (t.1 0 16).toInt = 5 := i_ne c_9
      refine lv_aload_n C.1 C.2.1 dX12_isOperation_50 rfl (lv_at hl 0 rfl) ?_
      refine k_get (v := .int (t.1 0 16)) C hP 0 rfl rfl inlX12 16 (by decide) m_57_3 rfl dX12_isOperation_51 ?_
      refine lv_bipush (v := 6) C.1 C.2.1 dX12_isOperation_54 (by decide) ?_
      refine lv_icmp_eq (tgt := 77) C.1 C.2.1 dX12_isOperation_56 (by decide) (fun c_10 => ?_) (fun c_10 => ?_)
      · replace c_10 : (t.1 0 16).toInt = 6 := i_eq c_10
        refine lv_aload_n C.1 C.2.1 dX12_isOperation_77 rfl (lv_at hl 0 rfl) ?_
        have h_11 : (0 : Int) ≤ (t.1 0 17).toInt ∧ (t.1 0 17).toInt ≤ 63 := hok.1 0 17
        refine k_get (v := .int (t.1 0 17)) C hP 0 rfl rfl inlX12 17 (by decide) m_57_4 rfl dX12_isOperation_78 ?_
        refine lv_bipush (v := 6) C.1 C.2.1 dX12_isOperation_81 (by decide) ?_
        refine lv_icmp_ge (tgt := 90) C.1 C.2.1 dX12_isOperation_83 (by decide) (fun c_12 => ?_) (fun c_12 => ?_)
        · replace c_12 : 6 ≤ (t.1 0 17).toInt := i_le c_12
          refine lv_iconst (v := 0) C.1 C.2.1 dX12_isOperation_90 (by decide) ?_
          exact g_iret C hr hlocks hP hD hS (by decide) () rfl ⟨by decide, by decide, (show 0 = 1 → (t.1 0 15).toInt / 4096 % 64 ≤ 6 from by omega)⟩ (Nat.le_of_ble_eq_true rfl) (Nat.le_of_ble_eq_true rfl) dX12_isOperation_91
        · replace c_12 : (t.1 0 17).toInt < 6 := i_nle c_12
          refine lv_iconst (v := 1) C.1 C.2.1 dX12_isOperation_86 (by decide) ?_
          refine lv_goto (tgt := 91) C.1 C.2.1 dX12_isOperation_87 (by decide) ?_
          exact g_iret C hr hlocks hP hD hS (by decide) () rfl ⟨by decide, by decide, (show 1 = 1 → (t.1 0 15).toInt / 4096 % 64 ≤ 6 from by omega)⟩ (Nat.le_of_ble_eq_true rfl) (Nat.le_of_ble_eq_true rfl) dX12_isOperation_91
      · replace c_10 : ¬ (t.1 0 16).toInt = 6 := i_ne c_10
        refine lv_aload_n C.1 C.2.1 dX12_isOperation_59 rfl (lv_at hl 0 rfl) ?_
        refine k_get (v := .int (t.1 0 16)) C hP 0 rfl rfl inlX12 16 (by decide) m_57_3 rfl dX12_isOperation_60 ?_
        refine lv_bipush (v := 39) C.1 C.2.1 dX12_isOperation_63 (by decide) ?_
        refine lv_icmp_le (tgt := 92) C.1 C.2.1 dX12_isOperation_65 (by decide) (fun c_13 => ?_) (fun c_13 => ?_)
        · replace c_13 : (t.1 0 16).toInt ≤ 39 := i_le c_13
          refine lv_aload_n C.1 C.2.1 dX12_isOperation_92 rfl (lv_at hl 0 rfl) ?_
          refine k_get (v := .int (t.1 0 16)) C hP 0 rfl rfl inlX12 16 (by decide) m_57_3 rfl dX12_isOperation_93 ?_
          refine lv_bipush (v := 39) C.1 C.2.1 dX12_isOperation_96 (by decide) ?_
          refine lv_icmp_ne (tgt := 116) C.1 C.2.1 dX12_isOperation_98 (by decide) (fun c_14 => ?_) (fun c_14 => ?_)
          · replace c_14 : ¬ (t.1 0 16).toInt = 39 := i_ne c_14
            refine lv_aload_n C.1 C.2.1 dX12_isOperation_116 rfl (lv_at hl 0 rfl) ?_
            refine k_get (v := .int (t.1 0 16)) C hP 0 rfl rfl inlX12 16 (by decide) m_57_3 rfl dX12_isOperation_117 ?_
            refine lv_bipush (v := 48) C.1 C.2.1 dX12_isOperation_120 (by decide) ?_
            refine lv_icmp_lt (tgt := 142) C.1 C.2.1 dX12_isOperation_122 (by decide) (fun c_15 => ?_) (fun c_15 => False.elim (by have c_15 : 48 ≤ (t.1 0 16).toInt := i_nlt c_15; omega))
            replace c_15 : (t.1 0 16).toInt < 48 := i_lt c_15
            refine lv_iconst (v := 1) C.1 C.2.1 dX12_isOperation_142 (by decide) ?_
            refine lv_goto (tgt := 147) C.1 C.2.1 dX12_isOperation_143 (by decide) ?_
            exact g_iret C hr hlocks hP hD hS (by decide) () rfl ⟨by decide, by decide, (show 1 = 1 → (t.1 0 15).toInt / 4096 % 64 ≤ 6 from by omega)⟩ (Nat.le_of_ble_eq_true rfl) (Nat.le_of_ble_eq_true rfl) dX12_isOperation_147
          · replace c_14 : (t.1 0 16).toInt = 39 := i_eq c_14
            refine lv_aload_n C.1 C.2.1 dX12_isOperation_101 rfl (lv_at hl 0 rfl) ?_
            have h_16 : (0 : Int) ≤ (t.1 0 17).toInt ∧ (t.1 0 17).toInt ≤ 63 := hok.1 0 17
            refine k_get (v := .int (t.1 0 17)) C hP 0 rfl rfl inlX12 17 (by decide) m_57_4 rfl dX12_isOperation_102 ?_
            refine lv_bipush (v := 10) C.1 C.2.1 dX12_isOperation_105 (by decide) ?_
            refine lv_icmp_ge (tgt := 114) C.1 C.2.1 dX12_isOperation_107 (by decide) (fun c_17 => ?_) (fun c_17 => ?_)
            · replace c_17 : 10 ≤ (t.1 0 17).toInt := i_le c_17
              refine lv_iconst (v := 0) C.1 C.2.1 dX12_isOperation_114 (by decide) ?_
              exact g_iret C hr hlocks hP hD hS (by decide) () rfl ⟨by decide, by decide, (show 0 = 1 → (t.1 0 15).toInt / 4096 % 64 ≤ 6 from by omega)⟩ (Nat.le_of_ble_eq_true rfl) (Nat.le_of_ble_eq_true rfl) dX12_isOperation_115
            · replace c_17 : (t.1 0 17).toInt < 10 := i_nle c_17
              refine lv_iconst (v := 1) C.1 C.2.1 dX12_isOperation_110 (by decide) ?_
              refine lv_goto (tgt := 115) C.1 C.2.1 dX12_isOperation_111 (by decide) ?_
              exact g_iret C hr hlocks hP hD hS (by decide) () rfl ⟨by decide, by decide, (show 1 = 1 → (t.1 0 15).toInt / 4096 % 64 ≤ 6 from by omega)⟩ (Nat.le_of_ble_eq_true rfl) (Nat.le_of_ble_eq_true rfl) dX12_isOperation_115
        · replace c_13 : 39 < (t.1 0 16).toInt := i_nle c_13
          refine lv_aload_n C.1 C.2.1 dX12_isOperation_68 rfl (lv_at hl 0 rfl) ?_
          refine k_get (v := .int (t.1 0 16)) C hP 0 rfl rfl inlX12 16 (by decide) m_57_3 rfl dX12_isOperation_69 ?_
          refine lv_bipush (v := 48) C.1 C.2.1 dX12_isOperation_72 (by decide) ?_
          refine lv_icmp_ge (tgt := 92) C.1 C.2.1 dX12_isOperation_74 (by decide) (fun c_18 => ?_) (fun c_18 => ?_)
          · replace c_18 : 48 ≤ (t.1 0 16).toInt := i_le c_18
            refine lv_aload_n C.1 C.2.1 dX12_isOperation_92 rfl (lv_at hl 0 rfl) ?_
            refine k_get (v := .int (t.1 0 16)) C hP 0 rfl rfl inlX12 16 (by decide) m_57_3 rfl dX12_isOperation_93 ?_
            refine lv_bipush (v := 39) C.1 C.2.1 dX12_isOperation_96 (by decide) ?_
            refine lv_icmp_ne (tgt := 116) C.1 C.2.1 dX12_isOperation_98 (by decide) (fun c_19 => ?_) (fun c_19 => False.elim (by have c_19 : (t.1 0 16).toInt = 39 := i_eq c_19; omega))
            replace c_19 : ¬ (t.1 0 16).toInt = 39 := i_ne c_19
            refine lv_aload_n C.1 C.2.1 dX12_isOperation_116 rfl (lv_at hl 0 rfl) ?_
            refine k_get (v := .int (t.1 0 16)) C hP 0 rfl rfl inlX12 16 (by decide) m_57_3 rfl dX12_isOperation_117 ?_
            refine lv_bipush (v := 48) C.1 C.2.1 dX12_isOperation_120 (by decide) ?_
            refine lv_icmp_lt (tgt := 142) C.1 C.2.1 dX12_isOperation_122 (by decide) (fun c_20 => False.elim (by have c_20 : (t.1 0 16).toInt < 48 := i_lt c_20; omega)) (fun c_20 => ?_)
            replace c_20 : 48 ≤ (t.1 0 16).toInt := i_nlt c_20
            refine lv_aload_n C.1 C.2.1 dX12_isOperation_125 rfl (lv_at hl 0 rfl) ?_
            refine k_get (v := .int (t.1 0 16)) C hP 0 rfl rfl inlX12 16 (by decide) m_57_3 rfl dX12_isOperation_126 ?_
            refine lv_bipush (v := 55) C.1 C.2.1 dX12_isOperation_129 (by decide) ?_
            refine lv_icmp_gt (tgt := 142) C.1 C.2.1 dX12_isOperation_131 (by decide) (fun c_21 => ?_) (fun c_21 => ?_)
            · replace c_21 : 55 < (t.1 0 16).toInt := i_lt c_21
              refine lv_iconst (v := 1) C.1 C.2.1 dX12_isOperation_142 (by decide) ?_
              refine lv_goto (tgt := 147) C.1 C.2.1 dX12_isOperation_143 (by decide) ?_
              exact g_iret C hr hlocks hP hD hS (by decide) () rfl ⟨by decide, by decide, (show 1 = 1 → (t.1 0 15).toInt / 4096 % 64 ≤ 6 from by omega)⟩ (Nat.le_of_ble_eq_true rfl) (Nat.le_of_ble_eq_true rfl) dX12_isOperation_147
            · replace c_21 : (t.1 0 16).toInt ≤ 55 := i_nlt c_21
              refine lv_aload_n C.1 C.2.1 dX12_isOperation_134 rfl (lv_at hl 0 rfl) ?_
              have h_22 : (0 : Int) ≤ (t.1 0 17).toInt ∧ (t.1 0 17).toInt ≤ 63 := hok.1 0 17
              refine k_get (v := .int (t.1 0 17)) C hP 0 rfl rfl inlX12 17 (by decide) m_57_4 rfl dX12_isOperation_135 ?_
              refine lv_iconst (v := 4) C.1 C.2.1 dX12_isOperation_138 (by decide) ?_
              refine lv_icmp_ge (tgt := 146) C.1 C.2.1 dX12_isOperation_139 (by decide) (fun c_23 => ?_) (fun c_23 => ?_)
              · replace c_23 : 4 ≤ (t.1 0 17).toInt := i_le c_23
                refine lv_iconst (v := 0) C.1 C.2.1 dX12_isOperation_146 (by decide) ?_
                exact g_iret C hr hlocks hP hD hS (by decide) () rfl ⟨by decide, by decide, (show 0 = 1 → (t.1 0 15).toInt / 4096 % 64 ≤ 6 from by omega)⟩ (Nat.le_of_ble_eq_true rfl) (Nat.le_of_ble_eq_true rfl) dX12_isOperation_147
              · replace c_23 : (t.1 0 17).toInt < 4 := i_nle c_23
                refine lv_iconst (v := 1) C.1 C.2.1 dX12_isOperation_142 (by decide) ?_
                refine lv_goto (tgt := 147) C.1 C.2.1 dX12_isOperation_143 (by decide) ?_
                exact g_iret C hr hlocks hP hD hS (by decide) () rfl ⟨by decide, by decide, (show 1 = 1 → (t.1 0 15).toInt / 4096 % 64 ≤ 6 from by omega)⟩ (Nat.le_of_ble_eq_true rfl) (Nat.le_of_ble_eq_true rfl) dX12_isOperation_147
          · replace c_18 : (t.1 0 16).toInt < 48 := i_nle c_18
            refine lv_aload_n C.1 C.2.1 dX12_isOperation_77 rfl (lv_at hl 0 rfl) ?_
            have h_24 : (0 : Int) ≤ (t.1 0 17).toInt ∧ (t.1 0 17).toInt ≤ 63 := hok.1 0 17
            refine k_get (v := .int (t.1 0 17)) C hP 0 rfl rfl inlX12 17 (by decide) m_57_4 rfl dX12_isOperation_78 ?_
            refine lv_bipush (v := 6) C.1 C.2.1 dX12_isOperation_81 (by decide) ?_
            refine lv_icmp_ge (tgt := 90) C.1 C.2.1 dX12_isOperation_83 (by decide) (fun c_25 => ?_) (fun c_25 => ?_)
            · replace c_25 : 6 ≤ (t.1 0 17).toInt := i_le c_25
              refine lv_iconst (v := 0) C.1 C.2.1 dX12_isOperation_90 (by decide) ?_
              exact g_iret C hr hlocks hP hD hS (by decide) () rfl ⟨by decide, by decide, (show 0 = 1 → (t.1 0 15).toInt / 4096 % 64 ≤ 6 from by omega)⟩ (Nat.le_of_ble_eq_true rfl) (Nat.le_of_ble_eq_true rfl) dX12_isOperation_91
            · replace c_25 : (t.1 0 17).toInt < 6 := i_nle c_25
              refine lv_iconst (v := 1) C.1 C.2.1 dX12_isOperation_86 (by decide) ?_
              refine lv_goto (tgt := 91) C.1 C.2.1 dX12_isOperation_87 (by decide) ?_
              exact g_iret C hr hlocks hP hD hS (by decide) () rfl ⟨by decide, by decide, (show 1 = 1 → (t.1 0 15).toInt / 4096 % 64 ≤ 6 from by omega)⟩ (Nat.le_of_ble_eq_true rfl) (Nat.le_of_ble_eq_true rfl) dX12_isOperation_91
    · replace c_9 : (t.1 0 16).toInt = 5 := i_eq c_9
      refine lv_aload_n C.1 C.2.1 dX12_isOperation_25 rfl (lv_at hl 0 rfl) ?_
      have h_26 : (0 : Int) ≤ (t.1 0 17).toInt ∧ (t.1 0 17).toInt ≤ 63 := hok.1 0 17
      refine k_get (v := .int (t.1 0 17)) C hP 0 rfl rfl inlX12 17 (by decide) m_57_4 rfl dX12_isOperation_26 ?_
      refine lv_aload_n C.1 C.2.1 dX12_isOperation_29 rfl (lv_at hl 0 rfl) ?_
      have h_27 : (0 : Int) ≤ (t.1 0 10).toInt ∧ (t.1 0 10).toInt ≤ 1 := hok.1 0 10
      refine k_get (v := .int (t.1 0 10)) C hP 0 rfl rfl inlX12 10 (by decide) m_30_0 rfl dX12_isOperation_30 ?_
      refine lv_if_eq (tgt := 40) C.1 C.2.1 dX12_isOperation_33 (by decide) (fun c_28 => ?_) (fun c_28 => ?_)
      · replace c_28 : (t.1 0 10).toInt = 0 := i_eq c_28
        refine lv_iconst (v := 3) C.1 C.2.1 dX12_isOperation_40 (by decide) ?_
        refine lv_icmp_ge (tgt := 48) C.1 C.2.1 dX12_isOperation_41 (by decide) (fun c_29 => ?_) (fun c_29 => ?_)
        · replace c_29 : 3 ≤ (t.1 0 17).toInt := i_le c_29
          refine lv_iconst (v := 0) C.1 C.2.1 dX12_isOperation_48 (by decide) ?_
          exact g_iret C hr hlocks hP hD hS (by decide) () rfl ⟨by decide, by decide, (show 0 = 1 → (t.1 0 15).toInt / 4096 % 64 ≤ 6 from by omega)⟩ (Nat.le_of_ble_eq_true rfl) (Nat.le_of_ble_eq_true rfl) dX12_isOperation_49
        · replace c_29 : (t.1 0 17).toInt < 3 := i_nle c_29
          refine lv_iconst (v := 1) C.1 C.2.1 dX12_isOperation_44 (by decide) ?_
          refine lv_goto (tgt := 49) C.1 C.2.1 dX12_isOperation_45 (by decide) ?_
          exact g_iret C hr hlocks hP hD hS (by decide) () rfl ⟨by decide, by decide, (show 1 = 1 → (t.1 0 15).toInt / 4096 % 64 ≤ 6 from by omega)⟩ (Nat.le_of_ble_eq_true rfl) (Nat.le_of_ble_eq_true rfl) dX12_isOperation_49
      · replace c_28 : ¬ (t.1 0 10).toInt = 0 := i_ne c_28
        refine lv_iconst (v := 4) C.1 C.2.1 dX12_isOperation_36 (by decide) ?_
        refine lv_goto (tgt := 41) C.1 C.2.1 dX12_isOperation_37 (by decide) ?_
        refine lv_icmp_ge (tgt := 48) C.1 C.2.1 dX12_isOperation_41 (by decide) (fun c_30 => ?_) (fun c_30 => ?_)
        · replace c_30 : 4 ≤ (t.1 0 17).toInt := i_le c_30
          refine lv_iconst (v := 0) C.1 C.2.1 dX12_isOperation_48 (by decide) ?_
          exact g_iret C hr hlocks hP hD hS (by decide) () rfl ⟨by decide, by decide, (show 0 = 1 → (t.1 0 15).toInt / 4096 % 64 ≤ 6 from by omega)⟩ (Nat.le_of_ble_eq_true rfl) (Nat.le_of_ble_eq_true rfl) dX12_isOperation_49
        · replace c_30 : (t.1 0 17).toInt < 4 := i_nle c_30
          refine lv_iconst (v := 1) C.1 C.2.1 dX12_isOperation_44 (by decide) ?_
          refine lv_goto (tgt := 49) C.1 C.2.1 dX12_isOperation_45 (by decide) ?_
          exact g_iret C hr hlocks hP hD hS (by decide) () rfl ⟨by decide, by decide, (show 1 = 1 → (t.1 0 15).toInt / 4096 % 64 ≤ 6 from by omega)⟩ (Nat.le_of_ble_eq_true rfl) (Nat.le_of_ble_eq_true rfl) dX12_isOperation_49
  · replace c_7 : 6 < v_4.toInt := i_nle c_7
    refine lv_iconst (v := 0) C.1 C.2.1 dX12_isOperation_15 (by decide) ?_
    exact g_iret C hr hlocks hP hD hS (by decide) () rfl ⟨by decide, by decide, (show 0 = 1 → (t.1 0 15).toInt / 4096 % 64 ≤ 6 from by omega)⟩ (Nat.le_of_ble_eq_true rfl) (Nat.le_of_ble_eq_true rfl) dX12_isOperation_16

theorem dX12_print_0 : decode cX12_print 0 = .ok (.iload_n 1, 1) := by decide +kernel
theorem dX12_print_1 : decode cX12_print 1 = .ok (.bipush 17, 2) := by decide +kernel
theorem dX12_print_100 : decode cX12_print 100 = .ok (.isub, 1) := by decide +kernel
theorem dX12_print_101 : decode cX12_print 101 = .ok (.baload, 1) := by decide +kernel
theorem dX12_print_102 : decode cX12_print 102 = .ok (.bipush 32, 2) := by decide +kernel
theorem dX12_print_104 : decode cX12_print 104 = .ok (.if_icmp .ne 16, 3) := by decide +kernel
theorem dX12_print_107 : decode cX12_print 107 = .ok (.aload_n 0, 1) := by decide +kernel
theorem dX12_print_108 : decode cX12_print 108 = .ok (.dup, 1) := by decide +kernel
theorem dX12_print_109 : decode cX12_print 109 = .ok (.getfield 186, 3) := by decide +kernel
theorem dX12_print_112 : decode cX12_print 112 = .ok (.iconst 1, 1) := by decide +kernel
theorem dX12_print_113 : decode cX12_print 113 = .ok (.isub, 1) := by decide +kernel
theorem dX12_print_114 : decode cX12_print 114 = .ok (.putfield 186, 3) := by decide +kernel
theorem dX12_print_117 : decode cX12_print 117 = .ok (.goto (-33), 3) := by decide +kernel
theorem dX12_print_12 : decode cX12_print 12 = .ok (.iload_n 1, 1) := by decide +kernel
theorem dX12_print_120 : decode cX12_print 120 = .ok (.aload_n 0, 1) := by decide +kernel
theorem dX12_print_121 : decode cX12_print 121 = .ok (.getfield 58, 3) := by decide +kernel
theorem dX12_print_124 : decode cX12_print 124 = .ok (.iload_n 2, 1) := by decide +kernel
theorem dX12_print_125 : decode cX12_print 125 = .ok (.iaload, 1) := by decide +kernel
theorem dX12_print_126 : decode cX12_print 126 = .ok (.sipush 300, 3) := by decide +kernel
theorem dX12_print_129 : decode cX12_print 129 = .ok (.if_icmp .ne 4, 3) := by decide +kernel
theorem dX12_print_13 : decode cX12_print 13 = .ok (.bipush 18, 2) := by decide +kernel
theorem dX12_print_132 : decode cX12_print 132 = .ok (.return_, 1) := by decide +kernel
theorem dX12_print_133 : decode cX12_print 133 = .ok (.sipush 300, 3) := by decide +kernel
theorem dX12_print_136 : decode cX12_print 136 = .ok (.iload_n 2, 1) := by decide +kernel
theorem dX12_print_137 : decode cX12_print 137 = .ok (.imul, 1) := by decide +kernel
theorem dX12_print_138 : decode cX12_print 138 = .ok (.aload_n 0, 1) := by decide +kernel
theorem dX12_print_139 : decode cX12_print 139 = .ok (.getfield 58, 3) := by decide +kernel
theorem dX12_print_142 : decode cX12_print 142 = .ok (.iload_n 2, 1) := by decide +kernel
theorem dX12_print_143 : decode cX12_print 143 = .ok (.iaload, 1) := by decide +kernel
theorem dX12_print_144 : decode cX12_print 144 = .ok (.iadd, 1) := by decide +kernel
theorem dX12_print_145 : decode cX12_print 145 = .ok (.istore_n 3, 1) := by decide +kernel
theorem dX12_print_146 : decode cX12_print 146 = .ok (.iconst 0, 1) := by decide +kernel
theorem dX12_print_147 : decode cX12_print 147 = .ok (.istore 4, 2) := by decide +kernel
theorem dX12_print_149 : decode cX12_print 149 = .ok (.iload 4, 2) := by decide +kernel
theorem dX12_print_15 : decode cX12_print 15 = .ok (.if_icmp .ne 69, 3) := by decide +kernel
theorem dX12_print_151 : decode cX12_print 151 = .ok (.aload_n 0, 1) := by decide +kernel
theorem dX12_print_152 : decode cX12_print 152 = .ok (.getfield 186, 3) := by decide +kernel
theorem dX12_print_155 : decode cX12_print 155 = .ok (.if_icmp .ge 28, 3) := by decide +kernel
theorem dX12_print_158 : decode cX12_print 158 = .ok (.aload_n 0, 1) := by decide +kernel
theorem dX12_print_159 : decode cX12_print 159 = .ok (.getfield 52, 3) := by decide +kernel
theorem dX12_print_162 : decode cX12_print 162 = .ok (.bipush 120, 2) := by decide +kernel
theorem dX12_print_164 : decode cX12_print 164 = .ok (.iload_n 3, 1) := by decide +kernel
theorem dX12_print_165 : decode cX12_print 165 = .ok (.imul, 1) := by decide +kernel
theorem dX12_print_166 : decode cX12_print 166 = .ok (.iload 4, 2) := by decide +kernel
theorem dX12_print_168 : decode cX12_print 168 = .ok (.iadd, 1) := by decide +kernel
theorem dX12_print_169 : decode cX12_print 169 = .ok (.aload_n 0, 1) := by decide +kernel
theorem dX12_print_170 : decode cX12_print 170 = .ok (.getfield 61, 3) := by decide +kernel
theorem dX12_print_173 : decode cX12_print 173 = .ok (.iload 4, 2) := by decide +kernel
theorem dX12_print_175 : decode cX12_print 175 = .ok (.baload, 1) := by decide +kernel
theorem dX12_print_176 : decode cX12_print 176 = .ok (.bastore, 1) := by decide +kernel
theorem dX12_print_177 : decode cX12_print 177 = .ok (.iinc 4 1, 3) := by decide +kernel
theorem dX12_print_18 : decode cX12_print 18 = .ok (.aload_n 0, 1) := by decide +kernel
theorem dX12_print_180 : decode cX12_print 180 = .ok (.goto (-31), 3) := by decide +kernel
theorem dX12_print_183 : decode cX12_print 183 = .ok (.aload_n 0, 1) := by decide +kernel
theorem dX12_print_184 : decode cX12_print 184 = .ok (.getfield 55, 3) := by decide +kernel
theorem dX12_print_187 : decode cX12_print 187 = .ok (.iload_n 3, 1) := by decide +kernel
theorem dX12_print_188 : decode cX12_print 188 = .ok (.aload_n 0, 1) := by decide +kernel
theorem dX12_print_189 : decode cX12_print 189 = .ok (.getfield 186, 3) := by decide +kernel
theorem dX12_print_19 : decode cX12_print 19 = .ok (.aload_n 0, 1) := by decide +kernel
theorem dX12_print_192 : decode cX12_print 192 = .ok (.iastore, 1) := by decide +kernel
theorem dX12_print_193 : decode cX12_print 193 = .ok (.aload_n 0, 1) := by decide +kernel
theorem dX12_print_194 : decode cX12_print 194 = .ok (.getfield 58, 3) := by decide +kernel
theorem dX12_print_197 : decode cX12_print 197 = .ok (.iload_n 2, 1) := by decide +kernel
theorem dX12_print_198 : decode cX12_print 198 = .ok (.dup2, 1) := by decide +kernel
theorem dX12_print_199 : decode cX12_print 199 = .ok (.iaload, 1) := by decide +kernel
theorem dX12_print_20 : decode cX12_print 20 = .ok (.getfield 186, 3) := by decide +kernel
theorem dX12_print_200 : decode cX12_print 200 = .ok (.iconst 1, 1) := by decide +kernel
theorem dX12_print_201 : decode cX12_print 201 = .ok (.iadd, 1) := by decide +kernel
theorem dX12_print_202 : decode cX12_print 202 = .ok (.iastore, 1) := by decide +kernel
theorem dX12_print_203 : decode cX12_print 203 = .ok (.return_, 1) := by decide +kernel
theorem dX12_print_23 : decode cX12_print 23 = .ok (.bipush 75, 2) := by decide +kernel
theorem dX12_print_25 : decode cX12_print 25 = .ok (.if_icmp .le 8, 3) := by decide +kernel
theorem dX12_print_28 : decode cX12_print 28 = .ok (.bipush 75, 2) := by decide +kernel
theorem dX12_print_3 : decode cX12_print 3 = .ok (.isub, 1) := by decide +kernel
theorem dX12_print_30 : decode cX12_print 30 = .ok (.goto 7, 3) := by decide +kernel
theorem dX12_print_33 : decode cX12_print 33 = .ok (.aload_n 0, 1) := by decide +kernel
theorem dX12_print_34 : decode cX12_print 34 = .ok (.getfield 186, 3) := by decide +kernel
theorem dX12_print_37 : decode cX12_print 37 = .ok (.putfield 186, 3) := by decide +kernel
theorem dX12_print_4 : decode cX12_print 4 = .ok (.istore_n 2, 1) := by decide +kernel
theorem dX12_print_40 : decode cX12_print 40 = .ok (.iconst 0, 1) := by decide +kernel
theorem dX12_print_41 : decode cX12_print 41 = .ok (.istore_n 3, 1) := by decide +kernel
theorem dX12_print_42 : decode cX12_print 42 = .ok (.iload_n 3, 1) := by decide +kernel
theorem dX12_print_43 : decode cX12_print 43 = .ok (.aload_n 0, 1) := by decide +kernel
theorem dX12_print_44 : decode cX12_print 44 = .ok (.getfield 186, 3) := by decide +kernel
theorem dX12_print_47 : decode cX12_print 47 = .ok (.if_icmp .ge 37, 3) := by decide +kernel
theorem dX12_print_5 : decode cX12_print 5 = .ok (.aload_n 0, 1) := by decide +kernel
theorem dX12_print_50 : decode cX12_print 50 = .ok (.aload_n 0, 1) := by decide +kernel
theorem dX12_print_51 : decode cX12_print 51 = .ok (.getfield 61, 3) := by decide +kernel
theorem dX12_print_54 : decode cX12_print 54 = .ok (.iload_n 3, 1) := by decide +kernel
theorem dX12_print_55 : decode cX12_print 55 = .ok (.aload_n 0, 1) := by decide +kernel
theorem dX12_print_56 : decode cX12_print 56 = .ok (.getfield 61, 3) := by decide +kernel
theorem dX12_print_59 : decode cX12_print 59 = .ok (.iload_n 3, 1) := by decide +kernel
theorem dX12_print_6 : decode cX12_print 6 = .ok (.getfield 207, 3) := by decide +kernel
theorem dX12_print_60 : decode cX12_print 60 = .ok (.baload, 1) := by decide +kernel
theorem dX12_print_61 : decode cX12_print 61 = .ok (.bipush 63, 2) := by decide +kernel
theorem dX12_print_63 : decode cX12_print 63 = .ok (.if_icmp .ne 8, 3) := by decide +kernel
theorem dX12_print_66 : decode cX12_print 66 = .ok (.bipush 32, 2) := by decide +kernel
theorem dX12_print_68 : decode cX12_print 68 = .ok (.goto 9, 3) := by decide +kernel
theorem dX12_print_71 : decode cX12_print 71 = .ok (.aload_n 0, 1) := by decide +kernel
theorem dX12_print_72 : decode cX12_print 72 = .ok (.getfield 61, 3) := by decide +kernel
theorem dX12_print_75 : decode cX12_print 75 = .ok (.iload_n 3, 1) := by decide +kernel
theorem dX12_print_76 : decode cX12_print 76 = .ok (.baload, 1) := by decide +kernel
theorem dX12_print_77 : decode cX12_print 77 = .ok (.bastore, 1) := by decide +kernel
theorem dX12_print_78 : decode cX12_print 78 = .ok (.iinc 3 1, 3) := by decide +kernel
theorem dX12_print_81 : decode cX12_print 81 = .ok (.goto (-39), 3) := by decide +kernel
theorem dX12_print_84 : decode cX12_print 84 = .ok (.aload_n 0, 1) := by decide +kernel
theorem dX12_print_85 : decode cX12_print 85 = .ok (.getfield 186, 3) := by decide +kernel
theorem dX12_print_88 : decode cX12_print 88 = .ok (.ifCond .le 32, 3) := by decide +kernel
theorem dX12_print_9 : decode cX12_print 9 = .ok (.ifCond .eq 75, 3) := by decide +kernel
theorem dX12_print_91 : decode cX12_print 91 = .ok (.aload_n 0, 1) := by decide +kernel
theorem dX12_print_92 : decode cX12_print 92 = .ok (.getfield 61, 3) := by decide +kernel
theorem dX12_print_95 : decode cX12_print 95 = .ok (.aload_n 0, 1) := by decide +kernel
theorem dX12_print_96 : decode cX12_print 96 = .ok (.getfield 186, 3) := by decide +kernel
theorem dX12_print_99 : decode cX12_print 99 = .ok (.iconst 1, 1) := by decide +kernel
set_option maxHeartbeats 4000000 in
set_option maxRecDepth 100000 in
theorem T_X12_print (l : Launch) (D : va_G) (K : Nat → ClassId) (Z Y : Nat → Nat) (ad : Nat → Nat) (t : tSt) (hok : okM t) (x1 : Int32) (hx1 : (17 : Int) ≤ x1.toInt ∧ x1.toInt ≤ 19) : tMet l yX12_print cX12_print 5 none (rmD 0 0 0) D K Z Y [.ref (ad 0), .int x1] (WM K ad t) (QV D K (fun (u : tSt) => okM u ∧ frA [(0, 30)] [] [11, 12, 13, 14] [] t u) (fun (u : tSt) => WM K ad u)) 0 0 := by
  refine t_met RX12 ⟨rfl, by decide +kernel⟩ (Nat.le_of_ble_eq_true rfl) ?_
  intro p e s m below meth c A ls C hE hZ hr hlocks hA hP hD hS hl
  have hl : lv_has ls 5 [(0, .ref (ad 0)), (1, .int x1)] := hl
  have hokt := hok
  have hfr : frA [(0, 30)] [] [11, 12, 13, 14] [] t t := frA_rf
  have h_1 : (0 : Int) ≤ (t.1 0 30).toInt ∧ (t.1 0 30).toInt ≤ 120 := hok.1 0 30
  have L_149 : ∀ (fuel_149 : Nat) (t1 : tSt) (w149_2 : Int32) (w149_3 : Int32) (w149_4 : Int32) (H : Heap) (locs : List Loc) (ls : Array Slot), okM t1 → frA [(0, 30)] [] [11, 12, 13, 14] [] t t1 → (0 : Int) ≤ w149_2.toInt ∧ w149_2.toInt ≤ 2 → (0 : Int) ≤ w149_3.toInt ∧ w149_3.toInt ≤ 900 → (0 : Int) ≤ w149_4.toInt ∧ w149_4.toInt ≤ 120 → (w149_3.toInt = 300 * w149_2.toInt + (t1.2.2.1 13 (w149_2 : Int32).toNatClampNeg).toInt) → ((t1.2.2.1 13 (w149_2 : Int32).toNatClampNeg).toInt ≤ 299) → (120 : Int) - w149_4.toInt < (fuel_149 : Int) → va_P D vwCl (WM K ad t1) H → va_D A (WM K ad t1) → va_S A s.heap H locs → lv_has ls 5 [(0, .ref (ad 0)), (1, .int x1), (2, .int w149_2), (3, .int w149_3), (4, .int w149_4)] → W p l e (rmD 0 0 0) s m [.ref (ad 0), .int x1].toArray below meth c H locs 0 0 (MQ below (QV D K (fun (u : tSt) => okM u ∧ frA [(0, 30)] [] [11, 12, 13, 14] [] t u) (fun (u : tSt) => WM K ad u) A) [.ref (ad 0), .int x1].toArray s 0 0 A) (F0 m 149 ls []) := by
    intro fuel_149
    induction fuel_149 with
    | zero =>
      intro t1 w149_2 w149_3 w149_4 H locs ls hok hfr hw149_2 hw149_3 hw149_4 hi149_0 hi149_1 hm149_149 hP hD hS hl
      have h_2 : (0 : Int) ≤ (t1.1 0 30).toInt ∧ (t1.1 0 30).toInt ≤ 120 := hok.1 0 30
      exact absurd hm149_149 (by omega)
    | succ fuel_149 ih_149 =>
      intro t1 w149_2 w149_3 w149_4 H locs ls hok hfr hw149_2 hw149_3 hw149_4 hi149_0 hi149_1 hm149_149 hP hD hS hl
      have hm149_149 : (120 : Int) - w149_4.toInt < (fuel_149 : Int) + 1 := by omega
      have h_3 : (0 : Int) ≤ (t1.1 0 30).toInt ∧ (t1.1 0 30).toInt ≤ 120 := hok.1 0 30
      refine lv_iload C.1 C.2.1 dX12_print_149 (lv_at hl 4 rfl) ?_
      refine lv_aload_n C.1 C.2.1 dX12_print_151 rfl (lv_at hl 0 rfl) ?_
      refine k_get (v := .int (t1.1 0 30)) C hP 0 rfl rfl inlX12 30 (by decide) m_42_8 rfl dX12_print_152 ?_
      refine lv_icmp_ge (tgt := 183) C.1 C.2.1 dX12_print_155 (by decide) (fun c_4 => ?_) (fun c_4 => ?_)
      · replace c_4 : (t1.1 0 30).toInt ≤ w149_4.toInt := i_le c_4
        refine lv_aload_n C.1 C.2.1 dX12_print_183 rfl (lv_at hl 0 rfl) ?_
        refine k_get (v := .ref (ad 12)) C hP 0 rfl rfl inlX12 27 (by decide) m_7_19 rfl dX12_print_184 ?_
        refine lv_iload_n C.1 C.2.1 dX12_print_187 rfl (lv_at hl 3 rfl) ?_
        refine lv_aload_n C.1 C.2.1 dX12_print_188 rfl (lv_at hl 0 rfl) ?_
        refine k_get (v := .int (t1.1 0 30)) C hP 0 rfl rfl inlX12 30 (by decide) m_42_8 rfl dX12_print_189 ?_
        refine k_ist (ws' := WM K ad (uB t1 12 (w149_3 : Int32).toNatClampNeg (t1.1 0 30))) (x' := (t1.1 0 30)) C hP hD hS 12 rfl (vp_in_iff.mpr ⟨by omega, by omega⟩) rfl rfl rfl dX12_print_192 (fun H locs hP hD hS => ?_)
        have hok : okM (uB t1 12 (w149_3 : Int32).toNatClampNeg (t1.1 0 30)) := ⟨hok.1, okB_B hok.2.1 12 _ (t1.1 0 30) (show (0 : Int) ≤ ((t1.1 0 30) : Int32).toInt ∧ ((t1.1 0 30) : Int32).toInt ≤ 120 from ⟨by omega, by omega⟩), hok.2.2.1, hok.2.2.2.1, hok.2.2.2.2.1, hok.2.2.2.2.2.1, hok.2.2.2.2.2.2.1, trivial⟩
        have hfr : frA [(0, 30)] [] [11, 12, 13, 14] [] t (uB t1 12 (w149_3 : Int32).toNatClampNeg (t1.1 0 30)) := frA_B hfr 12 _ _ rfl
        refine lv_aload_n C.1 C.2.1 dX12_print_193 rfl (lv_at hl 0 rfl) ?_
        refine k_get (v := .ref (ad 13)) C hP 0 rfl rfl inlX12 28 (by decide) m_7_20 rfl dX12_print_194 ?_
        refine lv_iload_n C.1 C.2.1 dX12_print_197 rfl (lv_at hl 2 rfl) ?_
        refine lv_dup2_11 C.1 C.2.1 dX12_print_198 rfl rfl ?_
        have e_5 : (uB t1 12 (w149_3 : Int32).toNatClampNeg (t1.1 0 30)).2.2.1 13 = t1.2.2.1 13 := (uB_ne rfl)
        have h_6 : (0 : Int) ≤ (t1.2.2.1 13 (w149_2 : Int32).toNatClampNeg).toInt ∧ (t1.2.2.1 13 (w149_2 : Int32).toNatClampNeg).toInt ≤ 300 := by rw [← e_5]; exact hok.2.1 13 _
        refine k_ild (v := (t1.2.2.1 13 (w149_2 : Int32).toNatClampNeg)) C hP 13 rfl (vp_in_iff.mpr ⟨by omega, by omega⟩) (congrFun e_5 _) dX12_print_199 ?_
        refine lv_iconst (v := 1) C.1 C.2.1 dX12_print_200 (by decide) ?_
        obtain ⟨v_7, e_8⟩ : ∃ z, z = ((t1.2.2.1 13 (w149_2 : Int32).toNatClampNeg) : Int32) + (1 : Int32) := ⟨_, rfl⟩
        have h_9 : v_7.toInt = (t1.2.2.1 13 (w149_2 : Int32).toNatClampNeg).toInt + 1 := by rw [e_8]; exact ti_iadd (by show (_ : Int) ≤ (t1.2.2.1 13 (w149_2 : Int32).toNatClampNeg).toInt + 1; omega) (by show (t1.2.2.1 13 (w149_2 : Int32).toNatClampNeg).toInt + 1 < (_ : Int); omega)
        refine k_iadd (v := v_7) C e_8.symm dX12_print_201 ?_
        obtain ⟨t_10, e_11⟩ : ∃ z, z = (uB t1 12 (w149_3 : Int32).toNatClampNeg (t1.1 0 30)) := ⟨_, rfl⟩
        rw [← e_11] at hP hD hok hfr
        have h_12 : (t_10.1 0 30).toInt = ((t1.1 0 30) : Int32).toInt := by rw [e_11]; rfl
        have e_13 : t_10.2.2.1 13 = t1.2.2.1 13 := by rw [e_11]; exact (uB_ne rfl)
        refine k_ist (ws' := WM K ad (uB t_10 13 (w149_2 : Int32).toNatClampNeg v_7)) (x' := v_7) C hP hD hS 13 rfl (vp_in_iff.mpr ⟨by omega, by omega⟩) rfl rfl rfl dX12_print_202 (fun H locs hP hD hS => ?_)
        have hok : okM (uB t_10 13 (w149_2 : Int32).toNatClampNeg v_7) := ⟨hok.1, okB_B hok.2.1 13 _ v_7 (show (0 : Int) ≤ (v_7 : Int32).toInt ∧ (v_7 : Int32).toInt ≤ 300 from ⟨by omega, by omega⟩), hok.2.2.1, hok.2.2.2.1, hok.2.2.2.2.1, hok.2.2.2.2.2.1, hok.2.2.2.2.2.2.1, trivial⟩
        have hfr : frA [(0, 30)] [] [11, 12, 13, 14] [] t (uB t_10 13 (w149_2 : Int32).toNatClampNeg v_7) := frA_B hfr 13 _ _ rfl
        exact g_vret C hr hlocks hP hD hS (uB t_10 13 (w149_2 : Int32).toNatClampNeg v_7) rfl ⟨hok, hfr⟩ (Nat.le_of_ble_eq_true rfl) (Nat.le_of_ble_eq_true rfl) dX12_print_203
      · replace c_4 : w149_4.toInt < (t1.1 0 30).toInt := i_nle c_4
        refine lv_aload_n C.1 C.2.1 dX12_print_158 rfl (lv_at hl 0 rfl) ?_
        refine k_get (v := .ref (ad 11)) C hP 0 rfl rfl inlX12 26 (by decide) m_7_18 rfl dX12_print_159 ?_
        refine lv_bipush (v := 120) C.1 C.2.1 dX12_print_162 (by decide) ?_
        refine lv_iload_n C.1 C.2.1 dX12_print_164 rfl (lv_at hl 3 rfl) ?_
        obtain ⟨v_14, e_15⟩ : ∃ z, z = (120 : Int32) * (w149_3 : Int32) := ⟨_, rfl⟩
        have h_16 : v_14.toInt = 120 * w149_3.toInt := by rw [e_15]; exact ti_mull (k := 120) (by decide) (by omega) (by omega)
        refine k_imul (v := v_14) C e_15.symm dX12_print_165 ?_
        refine lv_iload C.1 C.2.1 dX12_print_166 (lv_at hl 4 rfl) ?_
        obtain ⟨v_17, e_18⟩ : ∃ z, z = (v_14 : Int32) + (w149_4 : Int32) := ⟨_, rfl⟩
        have h_19 : v_17.toInt = v_14.toInt + w149_4.toInt := by rw [e_18]; exact ti_iadd (by show (_ : Int) ≤ v_14.toInt + w149_4.toInt; omega) (by show v_14.toInt + w149_4.toInt < (_ : Int); omega)
        refine k_iadd (v := v_17) C e_18.symm dX12_print_168 ?_
        refine lv_aload_n C.1 C.2.1 dX12_print_169 rfl (lv_at hl 0 rfl) ?_
        refine k_get (v := .ref (ad 14)) C hP 0 rfl rfl inlX12 29 (by decide) m_7_21 rfl dX12_print_170 ?_
        refine lv_iload C.1 C.2.1 dX12_print_173 (lv_at hl 4 rfl) ?_
        obtain ⟨v_20, e_21⟩ : ∃ z, z = (t1.2.2.1 14 (w149_4 : Int32).toNatClampNeg) := ⟨_, rfl⟩
        have h_22 : (-3999 : Int) ≤ v_20.toInt ∧ v_20.toInt ≤ 127 := by rw [e_21]; exact hok.2.1 14 _
        refine k_bld (v := v_20) C hP 14 rfl (vp_in_iff.mpr ⟨by omega, by omega⟩) e_21.symm dX12_print_175 ?_
        obtain ⟨v_23, e_24⟩ : ∃ z, z = vp_nar .byte v_20 := ⟨_, rfl⟩
        have h_25 : (-128 : Int) ≤ v_23.toInt ∧ v_23.toInt ≤ 127 := by rw [e_24]; exact nar_byte _
        refine k_bst (ws' := WM K ad (uB t1 11 (v_17 : Int32).toNatClampNeg v_23)) (x' := v_23) C hP hD hS 11 rfl (vp_in_iff.mpr ⟨by omega, by omega⟩) rfl e_24.symm rfl dX12_print_176 (fun H locs hP hD hS => ?_)
        have hok : okM (uB t1 11 (v_17 : Int32).toNatClampNeg v_23) := ⟨hok.1, okB_B hok.2.1 11 _ v_23 (show (-3999 : Int) ≤ (v_23 : Int32).toInt ∧ (v_23 : Int32).toInt ≤ 127 from ⟨by omega, by omega⟩), hok.2.2.1, hok.2.2.2.1, hok.2.2.2.2.1, hok.2.2.2.2.2.1, hok.2.2.2.2.2.2.1, trivial⟩
        have hfr : frA [(0, 30)] [] [11, 12, 13, 14] [] t (uB t1 11 (v_17 : Int32).toNatClampNeg v_23) := frA_B hfr 11 _ _ rfl
        obtain ⟨v_26, e_27⟩ : ∃ z, z = w149_4 + 1 := ⟨_, rfl⟩
        have h_28 : v_26.toInt = w149_4.toInt + 1 := by rw [e_27]; exact ti_iadd (by show (_ : Int) ≤ w149_4.toInt + 1; omega) (by show w149_4.toInt + 1 < (_ : Int); omega)
        refine lv_iinc (v := v_26) (lv' := [(4, .int v_26), (0, .ref (ad 0)), (1, .int x1), (2, .int w149_2), (3, .int w149_3)]) C.1 C.2.1 dX12_print_177 hl (k := 4) rfl e_27.symm (by decide) rfl (fun ls hl => ?_)
        have hl : lv_has ls 5 [(0, .ref (ad 0)), (1, .int x1), (2, .int w149_2), (3, .int w149_3), (4, .int v_26)] := lv_sub hl [1, 2, 3, 4, 0] rfl
        refine lv_goto (tgt := 149) C.1 C.2.1 dX12_print_180 (by decide) ?_
        exact ih_149 (uB t1 11 (v_17 : Int32).toNatClampNeg v_23) w149_2 w149_3 v_26 _ _ _ hok hfr ⟨by omega, by omega⟩ ⟨by omega, by omega⟩ ⟨by omega, by omega⟩ (show w149_3.toInt = 300 * w149_2.toInt + (t1.2.2.1 13 (w149_2 : Int32).toNatClampNeg).toInt from by omega) (show (t1.2.2.1 13 (w149_2 : Int32).toNatClampNeg).toInt ≤ 299 from by omega) (show (120 : Int) - v_26.toInt < (fuel_149 : Int) from by omega) hP hD hS (lv_sub hl [0, 1, 2, 3, 4] rfl)
  have L_120 : ∀ (t1 : tSt) (w120_2 : Int32) (H : Heap) (locs : List Loc) (ls : Array Slot), okM t1 → frA [(0, 30)] [] [11, 12, 13, 14] [] t t1 → (0 : Int) ≤ w120_2.toInt ∧ w120_2.toInt ≤ 2 → va_P D vwCl (WM K ad t1) H → va_D A (WM K ad t1) → va_S A s.heap H locs → lv_has ls 5 [(0, .ref (ad 0)), (1, .int x1), (2, .int w120_2)] → W p l e (rmD 0 0 0) s m [.ref (ad 0), .int x1].toArray below meth c H locs 0 0 (MQ below (QV D K (fun (u : tSt) => okM u ∧ frA [(0, 30)] [] [11, 12, 13, 14] [] t u) (fun (u : tSt) => WM K ad u) A) [.ref (ad 0), .int x1].toArray s 0 0 A) (F0 m 120 ls []) := by
    intro t1 w120_2 H locs ls hok hfr hw120_2 hP hD hS hl
    have h_29 : (0 : Int) ≤ (t1.1 0 30).toInt ∧ (t1.1 0 30).toInt ≤ 120 := hok.1 0 30
    refine lv_aload_n C.1 C.2.1 dX12_print_120 rfl (lv_at hl 0 rfl) ?_
    refine k_get (v := .ref (ad 13)) C hP 0 rfl rfl inlX12 28 (by decide) m_7_20 rfl dX12_print_121 ?_
    refine lv_iload_n C.1 C.2.1 dX12_print_124 rfl (lv_at hl 2 rfl) ?_
    have h_30 : (0 : Int) ≤ (t1.2.2.1 13 (w120_2 : Int32).toNatClampNeg).toInt ∧ (t1.2.2.1 13 (w120_2 : Int32).toNatClampNeg).toInt ≤ 300 := hok.2.1 13 _
    refine k_ild (v := (t1.2.2.1 13 (w120_2 : Int32).toNatClampNeg)) C hP 13 rfl (vp_in_iff.mpr ⟨by omega, by omega⟩) rfl dX12_print_125 ?_
    refine lv_sipush (v := 300) C.1 C.2.1 dX12_print_126 (by decide) ?_
    refine lv_icmp_ne (tgt := 133) C.1 C.2.1 dX12_print_129 (by decide) (fun c_31 => ?_) (fun c_31 => ?_)
    · replace c_31 : ¬ (t1.2.2.1 13 (w120_2 : Int32).toNatClampNeg).toInt = 300 := i_ne c_31
      refine lv_sipush (v := 300) C.1 C.2.1 dX12_print_133 (by decide) ?_
      refine lv_iload_n C.1 C.2.1 dX12_print_136 rfl (lv_at hl 2 rfl) ?_
      obtain ⟨v_32, e_33⟩ : ∃ z, z = (300 : Int32) * (w120_2 : Int32) := ⟨_, rfl⟩
      have h_34 : v_32.toInt = 300 * w120_2.toInt := by rw [e_33]; exact ti_mull (k := 300) (by decide) (by omega) (by omega)
      refine k_imul (v := v_32) C e_33.symm dX12_print_137 ?_
      refine lv_aload_n C.1 C.2.1 dX12_print_138 rfl (lv_at hl 0 rfl) ?_
      refine k_get (v := .ref (ad 13)) C hP 0 rfl rfl inlX12 28 (by decide) m_7_20 rfl dX12_print_139 ?_
      refine lv_iload_n C.1 C.2.1 dX12_print_142 rfl (lv_at hl 2 rfl) ?_
      have h_35 : (0 : Int) ≤ (t1.2.2.1 13 (w120_2 : Int32).toNatClampNeg).toInt ∧ (t1.2.2.1 13 (w120_2 : Int32).toNatClampNeg).toInt ≤ 300 := hok.2.1 13 _
      refine k_ild (v := (t1.2.2.1 13 (w120_2 : Int32).toNatClampNeg)) C hP 13 rfl (vp_in_iff.mpr ⟨by omega, by omega⟩) rfl dX12_print_143 ?_
      obtain ⟨v_36, e_37⟩ : ∃ z, z = (v_32 : Int32) + ((t1.2.2.1 13 (w120_2 : Int32).toNatClampNeg) : Int32) := ⟨_, rfl⟩
      have h_38 : v_36.toInt = v_32.toInt + (t1.2.2.1 13 (w120_2 : Int32).toNatClampNeg).toInt := by rw [e_37]; exact ti_iadd (by show (_ : Int) ≤ v_32.toInt + (t1.2.2.1 13 (w120_2 : Int32).toNatClampNeg).toInt; omega) (by show v_32.toInt + (t1.2.2.1 13 (w120_2 : Int32).toNatClampNeg).toInt < (_ : Int); omega)
      refine k_iadd (v := v_36) C e_37.symm dX12_print_144 ?_
      refine lv_istore_n (lv' := [(3, .int v_36), (0, .ref (ad 0)), (1, .int x1), (2, .int w120_2)]) C.1 C.2.1 dX12_print_145 rfl hl (by decide) rfl (fun ls hl => ?_)
      have hl : lv_has ls 5 [(0, .ref (ad 0)), (1, .int x1), (2, .int w120_2), (3, .int v_36)] := lv_sub hl [1, 2, 3, 0] rfl
      refine lv_iconst (v := 0) C.1 C.2.1 dX12_print_146 (by decide) ?_
      refine lv_istore (lv' := [(4, .int 0), (0, .ref (ad 0)), (1, .int x1), (2, .int w120_2), (3, .int v_36)]) C.1 C.2.1 dX12_print_147 hl (by decide) rfl (fun ls hl => ?_)
      have hl : lv_has ls 5 [(0, .ref (ad 0)), (1, .int x1), (2, .int w120_2), (3, .int v_36), (4, .int 0)] := lv_sub hl [1, 2, 3, 4, 0] rfl
      exact L_149 121 t1 w120_2 v_36 0 _ _ _ hok hfr ⟨by omega, by omega⟩ ⟨by omega, by omega⟩ ⟨by decide, by decide⟩ (show v_36.toInt = 300 * w120_2.toInt + (t1.2.2.1 13 (w120_2 : Int32).toNatClampNeg).toInt from by omega) (show (t1.2.2.1 13 (w120_2 : Int32).toNatClampNeg).toInt ≤ 299 from by omega) (show (120 : Int) - 0 < ((121 : Nat) : Int) from by omega) hP hD hS (lv_sub hl [0, 1, 2, 3, 4] rfl)
    · replace c_31 : (t1.2.2.1 13 (w120_2 : Int32).toNatClampNeg).toInt = 300 := i_eq c_31
      exact g_vret C hr hlocks hP hD hS t1 rfl ⟨hok, hfr⟩ (Nat.le_of_ble_eq_true rfl) (Nat.le_of_ble_eq_true rfl) dX12_print_132
  have L_84 : ∀ (fuel_84 : Nat) (t1 : tSt) (w84_2 : Int32) (H : Heap) (locs : List Loc) (ls : Array Slot), okM t1 → frA [(0, 30)] [] [11, 12, 13, 14] [] t t1 → (0 : Int) ≤ w84_2.toInt ∧ w84_2.toInt ≤ 2 → ((t1.1 0 30).toInt) < (fuel_84 : Int) → va_P D vwCl (WM K ad t1) H → va_D A (WM K ad t1) → va_S A s.heap H locs → lv_has ls 5 [(0, .ref (ad 0)), (1, .int x1), (2, .int w84_2)] → W p l e (rmD 0 0 0) s m [.ref (ad 0), .int x1].toArray below meth c H locs 0 0 (MQ below (QV D K (fun (u : tSt) => okM u ∧ frA [(0, 30)] [] [11, 12, 13, 14] [] t u) (fun (u : tSt) => WM K ad u) A) [.ref (ad 0), .int x1].toArray s 0 0 A) (F0 m 84 ls []) := by
    intro fuel_84
    induction fuel_84 with
    | zero =>
      intro t1 w84_2 H locs ls hok hfr hw84_2 hm84_84 hP hD hS hl
      have h_39 : (0 : Int) ≤ (t1.1 0 30).toInt ∧ (t1.1 0 30).toInt ≤ 120 := hok.1 0 30
      exact absurd hm84_84 (by omega)
    | succ fuel_84 ih_84 =>
      intro t1 w84_2 H locs ls hok hfr hw84_2 hm84_84 hP hD hS hl
      have hm84_84 : ((t1.1 0 30).toInt) < (fuel_84 : Int) + 1 := by omega
      have h_40 : (0 : Int) ≤ (t1.1 0 30).toInt ∧ (t1.1 0 30).toInt ≤ 120 := hok.1 0 30
      refine lv_aload_n C.1 C.2.1 dX12_print_84 rfl (lv_at hl 0 rfl) ?_
      refine k_get (v := .int (t1.1 0 30)) C hP 0 rfl rfl inlX12 30 (by decide) m_42_8 rfl dX12_print_85 ?_
      refine lv_if_le (tgt := 120) C.1 C.2.1 dX12_print_88 (by decide) (fun c_41 => ?_) (fun c_41 => ?_)
      · replace c_41 : (t1.1 0 30).toInt ≤ 0 := i_le c_41
        exact L_120 t1 w84_2 _ _ _ hok hfr ⟨by omega, by omega⟩ hP hD hS (lv_sub hl [0, 1, 2] rfl)
      · replace c_41 : 0 < (t1.1 0 30).toInt := i_nle c_41
        refine lv_aload_n C.1 C.2.1 dX12_print_91 rfl (lv_at hl 0 rfl) ?_
        refine k_get (v := .ref (ad 14)) C hP 0 rfl rfl inlX12 29 (by decide) m_7_21 rfl dX12_print_92 ?_
        refine lv_aload_n C.1 C.2.1 dX12_print_95 rfl (lv_at hl 0 rfl) ?_
        refine k_get (v := .int (t1.1 0 30)) C hP 0 rfl rfl inlX12 30 (by decide) m_42_8 rfl dX12_print_96 ?_
        refine lv_iconst (v := 1) C.1 C.2.1 dX12_print_99 (by decide) ?_
        obtain ⟨v_42, e_43⟩ : ∃ z, z = ((t1.1 0 30) : Int32) - (1 : Int32) := ⟨_, rfl⟩
        have h_44 : v_42.toInt = (t1.1 0 30).toInt - 1 := by rw [e_43]; exact ti_isub (by show (_ : Int) ≤ (t1.1 0 30).toInt - 1; omega) (by show (t1.1 0 30).toInt - 1 < (_ : Int); omega)
        refine k_isub (v := v_42) C e_43.symm dX12_print_100 ?_
        obtain ⟨v_45, e_46⟩ : ∃ z, z = (t1.2.2.1 14 (v_42 : Int32).toNatClampNeg) := ⟨_, rfl⟩
        have h_47 : (-3999 : Int) ≤ v_45.toInt ∧ v_45.toInt ≤ 127 := by rw [e_46]; exact hok.2.1 14 _
        refine k_bld (v := v_45) C hP 14 rfl (vp_in_iff.mpr ⟨by omega, by omega⟩) e_46.symm dX12_print_101 ?_
        refine lv_bipush (v := 32) C.1 C.2.1 dX12_print_102 (by decide) ?_
        refine lv_icmp_ne (tgt := 120) C.1 C.2.1 dX12_print_104 (by decide) (fun c_48 => ?_) (fun c_48 => ?_)
        · replace c_48 : ¬ v_45.toInt = 32 := i_ne c_48
          exact L_120 t1 w84_2 _ _ _ hok hfr ⟨by omega, by omega⟩ hP hD hS (lv_sub hl [0, 1, 2] rfl)
        · replace c_48 : v_45.toInt = 32 := i_eq c_48
          refine lv_aload_n C.1 C.2.1 dX12_print_107 rfl (lv_at hl 0 rfl) ?_
          refine lv_dup C.1 C.2.1 dX12_print_108 rfl ?_
          refine k_get (v := .int (t1.1 0 30)) C hP 0 rfl rfl inlX12 30 (by decide) m_42_8 rfl dX12_print_109 ?_
          refine lv_iconst (v := 1) C.1 C.2.1 dX12_print_112 (by decide) ?_
          obtain ⟨v_49, e_50⟩ : ∃ z, z = ((t1.1 0 30) : Int32) - (1 : Int32) := ⟨_, rfl⟩
          have h_51 : v_49.toInt = (t1.1 0 30).toInt - 1 := by rw [e_50]; exact ti_isub (by show (_ : Int) ≤ (t1.1 0 30).toInt - 1; omega) (by show (t1.1 0 30).toInt - 1 < (_ : Int); omega)
          refine k_isub (v := v_49) C e_50.symm dX12_print_113 ?_
          refine k_put (ws' := WM K ad (uI t1 0 30 v_49)) (v := .int v_49) C hP hD hS 0 rfl rfl inlX12 tyX12_ok nmX12 30 (by decide) m_42_8 rfl rfl rfl rfl rfl dX12_print_114 (fun H locs hP hD hS => ?_)
          have hok : okM (uI t1 0 30 v_49) := ⟨okI_I hok.1 0 30 v_49 (show (0 : Int) ≤ (v_49 : Int32).toInt ∧ (v_49 : Int32).toInt ≤ 120 from ⟨by omega, by omega⟩), hok.2.1, hok.2.2.1, hok.2.2.2.1, hok.2.2.2.2.1, hok.2.2.2.2.2.1, hok.2.2.2.2.2.2.1, trivial⟩
          have hfr : frA [(0, 30)] [] [11, 12, 13, 14] [] t (uI t1 0 30 v_49) := frA_I hfr 0 30 _ rfl
          refine lv_goto (tgt := 84) C.1 C.2.1 dX12_print_117 (by decide) ?_
          exact ih_84 (uI t1 0 30 v_49) w84_2 _ _ _ hok hfr ⟨by omega, by omega⟩ (show (v_49.toInt) < (fuel_84 : Int) from by omega) hP hD hS (lv_sub hl [0, 1, 2] rfl)
  have L_42 : ∀ (fuel_42 : Nat) (t1 : tSt) (w42_2 : Int32) (w42_3 : Int32) (H : Heap) (locs : List Loc) (ls : Array Slot), okM t1 → frA [(0, 30)] [] [11, 12, 13, 14] [] t t1 → (18 : Int) ≤ x1.toInt ∧ x1.toInt ≤ 18 → (0 : Int) ≤ w42_2.toInt ∧ w42_2.toInt ≤ 2 → (0 : Int) ≤ w42_3.toInt ∧ w42_3.toInt ≤ 79 → (0 : Int) ≤ (t1.1 0 30).toInt ∧ (t1.1 0 30).toInt ≤ 75 → (1 : Int) ≤ (t1.1 0 31).toInt ∧ (t1.1 0 31).toInt ≤ 1 → (79 : Int) - w42_3.toInt < (fuel_42 : Int) → va_P D vwCl (WM K ad t1) H → va_D A (WM K ad t1) → va_S A s.heap H locs → lv_has ls 5 [(0, .ref (ad 0)), (1, .int x1), (2, .int w42_2), (3, .int w42_3)] → W p l e (rmD 0 0 0) s m [.ref (ad 0), .int x1].toArray below meth c H locs 0 0 (MQ below (QV D K (fun (u : tSt) => okM u ∧ frA [(0, 30)] [] [11, 12, 13, 14] [] t u) (fun (u : tSt) => WM K ad u) A) [.ref (ad 0), .int x1].toArray s 0 0 A) (F0 m 42 ls []) := by
    intro fuel_42
    induction fuel_42 with
    | zero =>
      intro t1 w42_2 w42_3 H locs ls hok hfr hx42_1 hw42_2 hw42_3 hf42_30 hf42_31 hm42_42 hP hD hS hl
      exact absurd hm42_42 (by omega)
    | succ fuel_42 ih_42 =>
      intro t1 w42_2 w42_3 H locs ls hok hfr hx42_1 hw42_2 hw42_3 hf42_30 hf42_31 hm42_42 hP hD hS hl
      have hm42_42 : (79 : Int) - w42_3.toInt < (fuel_42 : Int) + 1 := by omega
      have L_77 : ∀ (t1 : tSt) (w77_2 : Int32) (w77_3 : Int32) (k77_1 : Int32) (k77_2 : Int32) (H : Heap) (locs : List Loc) (ls : Array Slot), okM t1 → frA [(0, 30)] [] [11, 12, 13, 14] [] t t1 → (18 : Int) ≤ x1.toInt ∧ x1.toInt ≤ 18 → (0 : Int) ≤ w77_2.toInt ∧ w77_2.toInt ≤ 2 → (0 : Int) ≤ w77_3.toInt ∧ w77_3.toInt ≤ 74 → (0 : Int) ≤ k77_1.toInt ∧ k77_1.toInt ≤ 74 → (-3999 : Int) ≤ k77_2.toInt ∧ k77_2.toInt ≤ 127 → (1 : Int) ≤ (t1.1 0 30).toInt ∧ (t1.1 0 30).toInt ≤ 75 → (1 : Int) ≤ (t1.1 0 31).toInt ∧ (t1.1 0 31).toInt ≤ 1 → (79 : Int) - w77_3.toInt < (fuel_42 : Int) + 1 → va_P D vwCl (WM K ad t1) H → va_D A (WM K ad t1) → va_S A s.heap H locs → lv_has ls 5 [(0, .ref (ad 0)), (1, .int x1), (2, .int w77_2), (3, .int w77_3)] → W p l e (rmD 0 0 0) s m [.ref (ad 0), .int x1].toArray below meth c H locs 0 0 (MQ below (QV D K (fun (u : tSt) => okM u ∧ frA [(0, 30)] [] [11, 12, 13, 14] [] t u) (fun (u : tSt) => WM K ad u) A) [.ref (ad 0), .int x1].toArray s 0 0 A) (F0 m 77 ls [.int k77_2, .int k77_1, .ref (ad 14)]) := by
        intro t1 w77_2 w77_3 k77_1 k77_2 H locs ls hok hfr hx77_1 hw77_2 hw77_3 hk77_1 hk77_2 hf77_30 hf77_31 hm77_42 hP hD hS hl
        obtain ⟨v_52, e_53⟩ : ∃ z, z = vp_nar .byte k77_2 := ⟨_, rfl⟩
        have h_54 : (-128 : Int) ≤ v_52.toInt ∧ v_52.toInt ≤ 127 := by rw [e_53]; exact nar_byte _
        refine k_bst (ws' := WM K ad (uB t1 14 (k77_1 : Int32).toNatClampNeg v_52)) (x' := v_52) C hP hD hS 14 rfl (vp_in_iff.mpr ⟨by omega, by omega⟩) rfl e_53.symm rfl dX12_print_77 (fun H locs hP hD hS => ?_)
        have hok : okM (uB t1 14 (k77_1 : Int32).toNatClampNeg v_52) := ⟨hok.1, okB_B hok.2.1 14 _ v_52 (show (-3999 : Int) ≤ (v_52 : Int32).toInt ∧ (v_52 : Int32).toInt ≤ 127 from ⟨by omega, by omega⟩), hok.2.2.1, hok.2.2.2.1, hok.2.2.2.2.1, hok.2.2.2.2.2.1, hok.2.2.2.2.2.2.1, trivial⟩
        have hfr : frA [(0, 30)] [] [11, 12, 13, 14] [] t (uB t1 14 (k77_1 : Int32).toNatClampNeg v_52) := frA_B hfr 14 _ _ rfl
        obtain ⟨v_55, e_56⟩ : ∃ z, z = w77_3 + 1 := ⟨_, rfl⟩
        have h_57 : v_55.toInt = w77_3.toInt + 1 := by rw [e_56]; exact ti_iadd (by show (_ : Int) ≤ w77_3.toInt + 1; omega) (by show w77_3.toInt + 1 < (_ : Int); omega)
        refine lv_iinc (v := v_55) (lv' := [(3, .int v_55), (0, .ref (ad 0)), (1, .int x1), (2, .int w77_2)]) C.1 C.2.1 dX12_print_78 hl (k := 3) rfl e_56.symm (by decide) rfl (fun ls hl => ?_)
        have hl : lv_has ls 5 [(0, .ref (ad 0)), (1, .int x1), (2, .int w77_2), (3, .int v_55)] := lv_sub hl [1, 2, 3, 0] rfl
        refine lv_goto (tgt := 42) C.1 C.2.1 dX12_print_81 (by decide) ?_
        exact ih_42 (uB t1 14 (k77_1 : Int32).toNatClampNeg v_52) w77_2 v_55 _ _ _ hok hfr ⟨by omega, by omega⟩ ⟨by omega, by omega⟩ ⟨by omega, by omega⟩ (show (0 : Int) ≤ ((t1.1 0 30) : Int32).toInt ∧ ((t1.1 0 30) : Int32).toInt ≤ 75 from ⟨by omega, by omega⟩) (show (1 : Int) ≤ ((t1.1 0 31) : Int32).toInt ∧ ((t1.1 0 31) : Int32).toInt ≤ 1 from ⟨by omega, by omega⟩) (show (79 : Int) - v_55.toInt < (fuel_42 : Int) from by omega) hP hD hS (lv_sub hl [0, 1, 2, 3] rfl)
      refine lv_iload_n C.1 C.2.1 dX12_print_42 rfl (lv_at hl 3 rfl) ?_
      refine lv_aload_n C.1 C.2.1 dX12_print_43 rfl (lv_at hl 0 rfl) ?_
      refine k_get (v := .int (t1.1 0 30)) C hP 0 rfl rfl inlX12 30 (by decide) m_42_8 rfl dX12_print_44 ?_
      refine lv_icmp_ge (tgt := 84) C.1 C.2.1 dX12_print_47 (by decide) (fun c_58 => ?_) (fun c_58 => ?_)
      · replace c_58 : (t1.1 0 30).toInt ≤ w42_3.toInt := i_le c_58
        exact L_84 1000 t1 w42_2 _ _ _ hok hfr ⟨by omega, by omega⟩ (show ((t1.1 0 30).toInt) < ((1000 : Nat) : Int) from by omega) hP hD hS (lv_sub hl [0, 1, 2] rfl)
      · replace c_58 : w42_3.toInt < (t1.1 0 30).toInt := i_nle c_58
        refine lv_aload_n C.1 C.2.1 dX12_print_50 rfl (lv_at hl 0 rfl) ?_
        refine k_get (v := .ref (ad 14)) C hP 0 rfl rfl inlX12 29 (by decide) m_7_21 rfl dX12_print_51 ?_
        refine lv_iload_n C.1 C.2.1 dX12_print_54 rfl (lv_at hl 3 rfl) ?_
        refine lv_aload_n C.1 C.2.1 dX12_print_55 rfl (lv_at hl 0 rfl) ?_
        refine k_get (v := .ref (ad 14)) C hP 0 rfl rfl inlX12 29 (by decide) m_7_21 rfl dX12_print_56 ?_
        refine lv_iload_n C.1 C.2.1 dX12_print_59 rfl (lv_at hl 3 rfl) ?_
        obtain ⟨v_59, e_60⟩ : ∃ z, z = (t1.2.2.1 14 (w42_3 : Int32).toNatClampNeg) := ⟨_, rfl⟩
        have h_61 : (-3999 : Int) ≤ v_59.toInt ∧ v_59.toInt ≤ 127 := by rw [e_60]; exact hok.2.1 14 _
        refine k_bld (v := v_59) C hP 14 rfl (vp_in_iff.mpr ⟨by omega, by omega⟩) e_60.symm dX12_print_60 ?_
        refine lv_bipush (v := 63) C.1 C.2.1 dX12_print_61 (by decide) ?_
        refine lv_icmp_ne (tgt := 71) C.1 C.2.1 dX12_print_63 (by decide) (fun c_62 => ?_) (fun c_62 => ?_)
        · replace c_62 : ¬ v_59.toInt = 63 := i_ne c_62
          refine lv_aload_n C.1 C.2.1 dX12_print_71 rfl (lv_at hl 0 rfl) ?_
          refine k_get (v := .ref (ad 14)) C hP 0 rfl rfl inlX12 29 (by decide) m_7_21 rfl dX12_print_72 ?_
          refine lv_iload_n C.1 C.2.1 dX12_print_75 rfl (lv_at hl 3 rfl) ?_
          obtain ⟨v_63, e_64⟩ : ∃ z, z = (t1.2.2.1 14 (w42_3 : Int32).toNatClampNeg) := ⟨_, rfl⟩
          have h_65 : (-3999 : Int) ≤ v_63.toInt ∧ v_63.toInt ≤ 127 := by rw [e_64]; exact hok.2.1 14 _
          refine k_bld (v := v_63) C hP 14 rfl (vp_in_iff.mpr ⟨by omega, by omega⟩) e_64.symm dX12_print_76 ?_
          exact L_77 t1 w42_2 w42_3 w42_3 v_63 _ _ _ hok hfr ⟨by omega, by omega⟩ ⟨by omega, by omega⟩ ⟨by omega, by omega⟩ ⟨by omega, by omega⟩ ⟨by omega, by omega⟩ (show (1 : Int) ≤ ((t1.1 0 30) : Int32).toInt ∧ ((t1.1 0 30) : Int32).toInt ≤ 75 from ⟨by omega, by omega⟩) (show (1 : Int) ≤ ((t1.1 0 31) : Int32).toInt ∧ ((t1.1 0 31) : Int32).toInt ≤ 1 from ⟨by omega, by omega⟩) (show (79 : Int) - w42_3.toInt < (fuel_42 : Int) + 1 from by omega) hP hD hS (lv_sub hl [0, 1, 2, 3] rfl)
        · replace c_62 : v_59.toInt = 63 := i_eq c_62
          refine lv_bipush (v := 32) C.1 C.2.1 dX12_print_66 (by decide) ?_
          refine lv_goto (tgt := 77) C.1 C.2.1 dX12_print_68 (by decide) ?_
          exact L_77 t1 w42_2 w42_3 w42_3 32 _ _ _ hok hfr ⟨by omega, by omega⟩ ⟨by omega, by omega⟩ ⟨by omega, by omega⟩ ⟨by omega, by omega⟩ ⟨by decide, by decide⟩ (show (1 : Int) ≤ ((t1.1 0 30) : Int32).toInt ∧ ((t1.1 0 30) : Int32).toInt ≤ 75 from ⟨by omega, by omega⟩) (show (1 : Int) ≤ ((t1.1 0 31) : Int32).toInt ∧ ((t1.1 0 31) : Int32).toInt ≤ 1 from ⟨by omega, by omega⟩) (show (79 : Int) - w42_3.toInt < (fuel_42 : Int) + 1 from by omega) hP hD hS (lv_sub hl [0, 1, 2, 3] rfl)
  have L_37 : ∀ (t1 : tSt) (w37_2 : Int32) (k37_1 : Int32) (H : Heap) (locs : List Loc) (ls : Array Slot), okM t1 → frA [(0, 30)] [] [11, 12, 13, 14] [] t t1 → (18 : Int) ≤ x1.toInt ∧ x1.toInt ≤ 18 → (0 : Int) ≤ w37_2.toInt ∧ w37_2.toInt ≤ 2 → (0 : Int) ≤ k37_1.toInt ∧ k37_1.toInt ≤ 75 → (1 : Int) ≤ (t1.1 0 31).toInt ∧ (t1.1 0 31).toInt ≤ 1 → va_P D vwCl (WM K ad t1) H → va_D A (WM K ad t1) → va_S A s.heap H locs → lv_has ls 5 [(0, .ref (ad 0)), (1, .int x1), (2, .int w37_2)] → W p l e (rmD 0 0 0) s m [.ref (ad 0), .int x1].toArray below meth c H locs 0 0 (MQ below (QV D K (fun (u : tSt) => okM u ∧ frA [(0, 30)] [] [11, 12, 13, 14] [] t u) (fun (u : tSt) => WM K ad u) A) [.ref (ad 0), .int x1].toArray s 0 0 A) (F0 m 37 ls [.int k37_1, .ref (ad 0)]) := by
    intro t1 w37_2 k37_1 H locs ls hok hfr hx37_1 hw37_2 hk37_1 hf37_31 hP hD hS hl
    have h_66 : (0 : Int) ≤ (t1.1 0 30).toInt ∧ (t1.1 0 30).toInt ≤ 120 := hok.1 0 30
    refine k_put (ws' := WM K ad (uI t1 0 30 k37_1)) (v := .int k37_1) C hP hD hS 0 rfl rfl inlX12 tyX12_ok nmX12 30 (by decide) m_42_8 rfl rfl rfl rfl rfl dX12_print_37 (fun H locs hP hD hS => ?_)
    have hok : okM (uI t1 0 30 k37_1) := ⟨okI_I hok.1 0 30 k37_1 (show (0 : Int) ≤ (k37_1 : Int32).toInt ∧ (k37_1 : Int32).toInt ≤ 120 from ⟨by omega, by omega⟩), hok.2.1, hok.2.2.1, hok.2.2.2.1, hok.2.2.2.2.1, hok.2.2.2.2.2.1, hok.2.2.2.2.2.2.1, trivial⟩
    have hfr : frA [(0, 30)] [] [11, 12, 13, 14] [] t (uI t1 0 30 k37_1) := frA_I hfr 0 30 _ rfl
    refine lv_iconst (v := 0) C.1 C.2.1 dX12_print_40 (by decide) ?_
    refine lv_istore_n (lv' := [(3, .int 0), (0, .ref (ad 0)), (1, .int x1), (2, .int w37_2)]) C.1 C.2.1 dX12_print_41 rfl hl (by decide) rfl (fun ls hl => ?_)
    have hl : lv_has ls 5 [(0, .ref (ad 0)), (1, .int x1), (2, .int w37_2), (3, .int 0)] := lv_sub hl [1, 2, 3, 0] rfl
    exact L_42 80 (uI t1 0 30 k37_1) w37_2 0 _ _ _ hok hfr ⟨by omega, by omega⟩ ⟨by omega, by omega⟩ ⟨by decide, by decide⟩ (show (0 : Int) ≤ (k37_1 : Int32).toInt ∧ (k37_1 : Int32).toInt ≤ 75 from ⟨by omega, by omega⟩) (show (1 : Int) ≤ ((t1.1 0 31) : Int32).toInt ∧ ((t1.1 0 31) : Int32).toInt ≤ 1 from ⟨by omega, by omega⟩) (show (79 : Int) - 0 < ((80 : Nat) : Int) from by omega) hP hD hS (lv_sub hl [0, 1, 2, 3] rfl)
  refine lv_iload_n C.1 C.2.1 dX12_print_0 rfl (lv_at hl 1 rfl) ?_
  refine lv_bipush (v := 17) C.1 C.2.1 dX12_print_1 (by decide) ?_
  obtain ⟨v_67, e_68⟩ : ∃ z, z = (x1 : Int32) - (17 : Int32) := ⟨_, rfl⟩
  have h_69 : v_67.toInt = x1.toInt - 17 := by rw [e_68]; exact ti_isub (by show (_ : Int) ≤ x1.toInt - 17; omega) (by show x1.toInt - 17 < (_ : Int); omega)
  refine k_isub (v := v_67) C e_68.symm dX12_print_3 ?_
  refine lv_istore_n (lv' := [(2, .int v_67), (0, .ref (ad 0)), (1, .int x1)]) C.1 C.2.1 dX12_print_4 rfl hl (by decide) rfl (fun ls hl => ?_)
  have hl : lv_has ls 5 [(0, .ref (ad 0)), (1, .int x1), (2, .int v_67)] := lv_sub hl [1, 2, 0] rfl
  refine lv_aload_n C.1 C.2.1 dX12_print_5 rfl (lv_at hl 0 rfl) ?_
  have h_70 : (0 : Int) ≤ (t.1 0 31).toInt ∧ (t.1 0 31).toInt ≤ 1 := hok.1 0 31
  refine k_get (v := .int (t.1 0 31)) C hP 0 rfl rfl inlX12 31 (by decide) m_43_1 rfl dX12_print_6 ?_
  refine lv_if_eq (tgt := 84) C.1 C.2.1 dX12_print_9 (by decide) (fun c_71 => ?_) (fun c_71 => ?_)
  · replace c_71 : (t.1 0 31).toInt = 0 := i_eq c_71
    exact L_84 1000 t v_67 _ _ _ hok hfr ⟨by omega, by omega⟩ (show ((t.1 0 30).toInt) < ((1000 : Nat) : Int) from by omega) hP hD hS (lv_sub hl [0, 1, 2] rfl)
  · replace c_71 : ¬ (t.1 0 31).toInt = 0 := i_ne c_71
    refine lv_iload_n C.1 C.2.1 dX12_print_12 rfl (lv_at hl 1 rfl) ?_
    refine lv_bipush (v := 18) C.1 C.2.1 dX12_print_13 (by decide) ?_
    refine lv_icmp_ne (tgt := 84) C.1 C.2.1 dX12_print_15 (by decide) (fun c_72 => ?_) (fun c_72 => ?_)
    · replace c_72 : ¬ x1.toInt = 18 := i_ne c_72
      exact L_84 1000 t v_67 _ _ _ hok hfr ⟨by omega, by omega⟩ (show ((t.1 0 30).toInt) < ((1000 : Nat) : Int) from by omega) hP hD hS (lv_sub hl [0, 1, 2] rfl)
    · replace c_72 : x1.toInt = 18 := i_eq c_72
      refine lv_aload_n C.1 C.2.1 dX12_print_18 rfl (lv_at hl 0 rfl) ?_
      refine lv_aload_n C.1 C.2.1 dX12_print_19 rfl (lv_at hl 0 rfl) ?_
      refine k_get (v := .int (t.1 0 30)) C hP 0 rfl rfl inlX12 30 (by decide) m_42_8 rfl dX12_print_20 ?_
      refine lv_bipush (v := 75) C.1 C.2.1 dX12_print_23 (by decide) ?_
      refine lv_icmp_le (tgt := 33) C.1 C.2.1 dX12_print_25 (by decide) (fun c_73 => ?_) (fun c_73 => ?_)
      · replace c_73 : (t.1 0 30).toInt ≤ 75 := i_le c_73
        refine lv_aload_n C.1 C.2.1 dX12_print_33 rfl (lv_at hl 0 rfl) ?_
        refine k_get (v := .int (t.1 0 30)) C hP 0 rfl rfl inlX12 30 (by decide) m_42_8 rfl dX12_print_34 ?_
        exact L_37 t v_67 (t.1 0 30) _ _ _ hok hfr ⟨by omega, by omega⟩ ⟨by omega, by omega⟩ ⟨by omega, by omega⟩ (show (1 : Int) ≤ ((t.1 0 31) : Int32).toInt ∧ ((t.1 0 31) : Int32).toInt ≤ 1 from ⟨by omega, by omega⟩) hP hD hS (lv_sub hl [0, 1, 2] rfl)
      · replace c_73 : 75 < (t.1 0 30).toInt := i_nle c_73
        refine lv_bipush (v := 75) C.1 C.2.1 dX12_print_28 (by decide) ?_
        refine lv_goto (tgt := 37) C.1 C.2.1 dX12_print_30 (by decide) ?_
        exact L_37 t v_67 75 _ _ _ hok hfr ⟨by omega, by omega⟩ ⟨by omega, by omega⟩ ⟨by decide, by decide⟩ (show (1 : Int) ≤ ((t.1 0 31) : Int32).toInt ∧ ((t.1 0 31) : Int32).toInt ≤ 1 from ⟨by omega, by omega⟩) hP hD hS (lv_sub hl [0, 1, 2] rfl)

theorem dX12_endOfJob_0 : decode cX12_endOfJob 0 = .ok (.iload_n 0, 1) := by decide +kernel
theorem dX12_endOfJob_1 : decode cX12_endOfJob 1 = .ok (.tableswitch 47 0 3 #[31, 35, 39, 43], 31) := by decide +kernel
theorem dX12_endOfJob_32 : decode cX12_endOfJob 32 = .ok (.ldc_w 829, 3) := by decide +kernel
theorem dX12_endOfJob_35 : decode cX12_endOfJob 35 = .ok (.areturn, 1) := by decide +kernel
theorem dX12_endOfJob_36 : decode cX12_endOfJob 36 = .ok (.ldc_w 831, 3) := by decide +kernel
theorem dX12_endOfJob_39 : decode cX12_endOfJob 39 = .ok (.areturn, 1) := by decide +kernel
theorem dX12_endOfJob_40 : decode cX12_endOfJob 40 = .ok (.ldc_w 833, 3) := by decide +kernel
theorem dX12_endOfJob_43 : decode cX12_endOfJob 43 = .ok (.areturn, 1) := by decide +kernel
theorem dX12_endOfJob_44 : decode cX12_endOfJob 44 = .ok (.ldc_w 835, 3) := by decide +kernel
theorem dX12_endOfJob_47 : decode cX12_endOfJob 47 = .ok (.areturn, 1) := by decide +kernel
theorem dX12_endOfJob_48 : decode cX12_endOfJob 48 = .ok (.ldc_w 837, 3) := by decide +kernel
theorem dX12_endOfJob_51 : decode cX12_endOfJob 51 = .ok (.areturn, 1) := by decide +kernel
set_option maxHeartbeats 4000000 in
set_option maxRecDepth 100000 in
theorem T_X12_endOfJob (l : Launch) (D : va_G) (K : Nat → ClassId) (Z Y : Nat → Nat) (ad : Nat → Nat) (t : tSt) (hok : okM t) (x0 : Int32) (hx0 : (0 : Int) ≤ x0.toInt ∧ x0.toInt ≤ 4) : tMet l yX12_endOfJob cX12_endOfJob 1 (some (.object "java/lang/String")) (rmD 0 0 0) D K Z Y [.int x0] (WM K ad t) (QR D K (fun (u : Nat) => sS u) (fun u => Z u) (fun (_ : Nat) => WM K ad t)) 0 0 := by
  refine t_met RX12 ⟨rfl, by decide +kernel⟩ (Nat.le_of_ble_eq_true rfl) ?_
  intro p e s m below meth c A ls C hE hZ hr hlocks hA hP hD hS hl
  have hl : lv_has ls 1 [(0, .int x0)] := hl
  refine lv_iload_n C.1 C.2.1 dX12_endOfJob_0 rfl (lv_at hl 0 rfl) ?_
  by_cases c_1 : x0 = 0
  · refine lv_tableIn (tgt := 32) (off := 31) C.1 C.2.1 dX12_endOfJob_1 (by rw [c_1]; decide) (by rw [c_1]; decide) (by rw [c_1]; decide) (by decide) ?_
    replace c_1 : x0.toInt = 0 := i_eq c_1
    refine va_ldcwS C.1 C.2.1 C.2.2.2.1 (hE.2 35 (by decide)) dX12_endOfJob_32 ?_
    exact g_rret C hr hlocks hP hD hS (Or.inl ⟨_, rfl⟩) 35 rfl rfl (show sS 35 from ⟨by decide, by decide, by decide⟩) (Nat.le_of_ble_eq_true rfl) (Nat.le_of_ble_eq_true rfl) dX12_endOfJob_35
  replace c_1 : ¬ x0.toInt = 0 := i_ne c_1
  by_cases c_2 : x0 = 1
  · refine lv_tableIn (tgt := 36) (off := 35) C.1 C.2.1 dX12_endOfJob_1 (by rw [c_2]; decide) (by rw [c_2]; decide) (by rw [c_2]; decide) (by decide) ?_
    replace c_2 : x0.toInt = 1 := i_eq c_2
    refine va_ldcwS C.1 C.2.1 C.2.2.2.1 (hE.2 36 (by decide)) dX12_endOfJob_36 ?_
    exact g_rret C hr hlocks hP hD hS (Or.inl ⟨_, rfl⟩) 36 rfl rfl (show sS 36 from ⟨by decide, by decide, by decide⟩) (Nat.le_of_ble_eq_true rfl) (Nat.le_of_ble_eq_true rfl) dX12_endOfJob_39
  replace c_2 : ¬ x0.toInt = 1 := i_ne c_2
  by_cases c_3 : x0 = 2
  · refine lv_tableIn (tgt := 40) (off := 39) C.1 C.2.1 dX12_endOfJob_1 (by rw [c_3]; decide) (by rw [c_3]; decide) (by rw [c_3]; decide) (by decide) ?_
    replace c_3 : x0.toInt = 2 := i_eq c_3
    refine va_ldcwS C.1 C.2.1 C.2.2.2.1 (hE.2 37 (by decide)) dX12_endOfJob_40 ?_
    exact g_rret C hr hlocks hP hD hS (Or.inl ⟨_, rfl⟩) 37 rfl rfl (show sS 37 from ⟨by decide, by decide, by decide⟩) (Nat.le_of_ble_eq_true rfl) (Nat.le_of_ble_eq_true rfl) dX12_endOfJob_43
  replace c_3 : ¬ x0.toInt = 2 := i_ne c_3
  by_cases c_4 : x0 = 3
  · refine lv_tableIn (tgt := 44) (off := 43) C.1 C.2.1 dX12_endOfJob_1 (by rw [c_4]; decide) (by rw [c_4]; decide) (by rw [c_4]; decide) (by decide) ?_
    replace c_4 : x0.toInt = 3 := i_eq c_4
    refine va_ldcwS C.1 C.2.1 C.2.2.2.1 (hE.2 38 (by decide)) dX12_endOfJob_44 ?_
    exact g_rret C hr hlocks hP hD hS (Or.inl ⟨_, rfl⟩) 38 rfl rfl (show sS 38 from ⟨by decide, by decide, by decide⟩) (Nat.le_of_ble_eq_true rfl) (Nat.le_of_ble_eq_true rfl) dX12_endOfJob_47
  replace c_4 : ¬ x0.toInt = 3 := i_ne c_4
  refine lv_tableOut (tgt := 48) C.1 C.2.1 dX12_endOfJob_1 (by omega) (by decide) ?_
  refine va_ldcwS C.1 C.2.1 C.2.2.2.1 (hE.2 39 (by decide)) dX12_endOfJob_48 ?_
  exact g_rret C hr hlocks hP hD hS (Or.inl ⟨_, rfl⟩) 39 rfl rfl (show sS 39 from ⟨by decide, by decide, by decide⟩) (Nat.le_of_ble_eq_true rfl) (Nat.le_of_ble_eq_true rfl) dX12_endOfJob_51

theorem dX12_cost_0 : decode cX12_cost 0 = .ok (.aload_n 0, 1) := by decide +kernel
theorem dX12_cost_1 : decode cX12_cost 1 = .ok (.getfield 282, 3) := by decide +kernel
theorem dX12_cost_10 : decode cX12_cost 10 = .ok (.getfield 282, 3) := by decide +kernel
theorem dX12_cost_101 : decode cX12_cost 101 = .ok (.i2l, 1) := by decide +kernel
theorem dX12_cost_102 : decode cX12_cost 102 = .ok (.lmul, 1) := by decide +kernel
theorem dX12_cost_103 : decode cX12_cost 103 = .ok (.ladd, 1) := by decide +kernel
theorem dX12_cost_104 : decode cX12_cost 104 = .ok (.lreturn, 1) := by decide +kernel
theorem dX12_cost_105 : decode cX12_cost 105 = .ok (.aload_n 0, 1) := by decide +kernel
theorem dX12_cost_106 : decode cX12_cost 106 = .ok (.getfield 282, 3) := by decide +kernel
theorem dX12_cost_109 : decode cX12_cost 109 = .ok (.bipush 34, 2) := by decide +kernel
theorem dX12_cost_111 : decode cX12_cost 111 = .ok (.if_icmp .ge 7, 3) := by decide +kernel
theorem dX12_cost_114 : decode cX12_cost 114 = .ok (.ldc2_w 285, 3) := by decide +kernel
theorem dX12_cost_117 : decode cX12_cost 117 = .ok (.lreturn, 1) := by decide +kernel
theorem dX12_cost_118 : decode cX12_cost 118 = .ok (.aload_n 0, 1) := by decide +kernel
theorem dX12_cost_119 : decode cX12_cost 119 = .ok (.getfield 282, 3) := by decide +kernel
theorem dX12_cost_122 : decode cX12_cost 122 = .ok (.bipush 55, 2) := by decide +kernel
theorem dX12_cost_124 : decode cX12_cost 124 = .ok (.if_icmp .le 7, 3) := by decide +kernel
theorem dX12_cost_127 : decode cX12_cost 127 = .ok (.ldc2_w 285, 3) := by decide +kernel
theorem dX12_cost_13 : decode cX12_cost 13 = .ok (.iconst 3, 1) := by decide +kernel
theorem dX12_cost_130 : decode cX12_cost 130 = .ok (.lreturn, 1) := by decide +kernel
theorem dX12_cost_131 : decode cX12_cost 131 = .ok (.aload_n 0, 1) := by decide +kernel
theorem dX12_cost_132 : decode cX12_cost 132 = .ok (.getfield 282, 3) := by decide +kernel
theorem dX12_cost_135 : decode cX12_cost 135 = .ok (.bipush 34, 2) := by decide +kernel
theorem dX12_cost_137 : decode cX12_cost 137 = .ok (.if_icmp .le 55, 3) := by decide +kernel
theorem dX12_cost_14 : decode cX12_cost 14 = .ok (.if_icmp .ge 7, 3) := by decide +kernel
theorem dX12_cost_140 : decode cX12_cost 140 = .ok (.aload_n 0, 1) := by decide +kernel
theorem dX12_cost_141 : decode cX12_cost 141 = .ok (.getfield 282, 3) := by decide +kernel
theorem dX12_cost_144 : decode cX12_cost 144 = .ok (.bipush 38, 2) := by decide +kernel
theorem dX12_cost_146 : decode cX12_cost 146 = .ok (.if_icmp .ge 46, 3) := by decide +kernel
theorem dX12_cost_149 : decode cX12_cost 149 = .ok (.aload_n 0, 1) := by decide +kernel
theorem dX12_cost_150 : decode cX12_cost 150 = .ok (.getfield 289, 3) := by decide +kernel
theorem dX12_cost_153 : decode cX12_cost 153 = .ok (.bipush 20, 2) := by decide +kernel
theorem dX12_cost_155 : decode cX12_cost 155 = .ok (.if_icmp .ge 37, 3) := by decide +kernel
theorem dX12_cost_158 : decode cX12_cost 158 = .ok (.aload_n 0, 1) := by decide +kernel
theorem dX12_cost_159 : decode cX12_cost 159 = .ok (.getfield 27, 3) := by decide +kernel
theorem dX12_cost_162 : decode cX12_cost 162 = .ok (.aload_n 0, 1) := by decide +kernel
theorem dX12_cost_163 : decode cX12_cost 163 = .ok (.getfield 289, 3) := by decide +kernel
theorem dX12_cost_166 : decode cX12_cost 166 = .ok (.laload, 1) := by decide +kernel
theorem dX12_cost_167 : decode cX12_cost 167 = .ok (.aload_n 0, 1) := by decide +kernel
theorem dX12_cost_168 : decode cX12_cost 168 = .ok (.getfield 272, 3) := by decide +kernel
theorem dX12_cost_17 : decode cX12_cost 17 = .ok (.ldc2_w 285, 3) := by decide +kernel
theorem dX12_cost_171 : decode cX12_cost 171 = .ok (.lcmp, 1) := by decide +kernel
theorem dX12_cost_172 : decode cX12_cost 172 = .ok (.ifCond .le 20, 3) := by decide +kernel
theorem dX12_cost_175 : decode cX12_cost 175 = .ok (.aload_n 0, 1) := by decide +kernel
theorem dX12_cost_176 : decode cX12_cost 176 = .ok (.getfield 27, 3) := by decide +kernel
theorem dX12_cost_179 : decode cX12_cost 179 = .ok (.aload_n 0, 1) := by decide +kernel
theorem dX12_cost_180 : decode cX12_cost 180 = .ok (.getfield 289, 3) := by decide +kernel
theorem dX12_cost_183 : decode cX12_cost 183 = .ok (.laload, 1) := by decide +kernel
theorem dX12_cost_184 : decode cX12_cost 184 = .ok (.aload_n 0, 1) := by decide +kernel
theorem dX12_cost_185 : decode cX12_cost 185 = .ok (.getfield 272, 3) := by decide +kernel
theorem dX12_cost_188 : decode cX12_cost 188 = .ok (.lsub, 1) := by decide +kernel
theorem dX12_cost_189 : decode cX12_cost 189 = .ok (.goto 4, 3) := by decide +kernel
theorem dX12_cost_192 : decode cX12_cost 192 = .ok (.lconst 0, 1) := by decide +kernel
theorem dX12_cost_193 : decode cX12_cost 193 = .ok (.lstore_n 1, 1) := by decide +kernel
theorem dX12_cost_194 : decode cX12_cost 194 = .ok (.lconst 1, 1) := by decide +kernel
theorem dX12_cost_195 : decode cX12_cost 195 = .ok (.lload_n 1, 1) := by decide +kernel
theorem dX12_cost_196 : decode cX12_cost 196 = .ok (.ladd, 1) := by decide +kernel
theorem dX12_cost_197 : decode cX12_cost 197 = .ok (.lreturn, 1) := by decide +kernel
theorem dX12_cost_20 : decode cX12_cost 20 = .ok (.lreturn, 1) := by decide +kernel
theorem dX12_cost_21 : decode cX12_cost 21 = .ok (.aload_n 0, 1) := by decide +kernel
theorem dX12_cost_22 : decode cX12_cost 22 = .ok (.getfield 282, 3) := by decide +kernel
theorem dX12_cost_25 : decode cX12_cost 25 = .ok (.iconst 3, 1) := by decide +kernel
theorem dX12_cost_26 : decode cX12_cost 26 = .ok (.if_icmp .ne 7, 3) := by decide +kernel
theorem dX12_cost_29 : decode cX12_cost 29 = .ok (.ldc2_w 192, 3) := by decide +kernel
theorem dX12_cost_32 : decode cX12_cost 32 = .ok (.lreturn, 1) := by decide +kernel
theorem dX12_cost_33 : decode cX12_cost 33 = .ok (.aload_n 0, 1) := by decide +kernel
theorem dX12_cost_34 : decode cX12_cost 34 = .ok (.getfield 282, 3) := by decide +kernel
theorem dX12_cost_37 : decode cX12_cost 37 = .ok (.iconst 4, 1) := by decide +kernel
theorem dX12_cost_38 : decode cX12_cost 38 = .ok (.if_icmp .ne 7, 3) := by decide +kernel
theorem dX12_cost_4 : decode cX12_cost 4 = .ok (.ifCond .ne 5, 3) := by decide +kernel
theorem dX12_cost_41 : decode cX12_cost 41 = .ok (.ldc2_w 287, 3) := by decide +kernel
theorem dX12_cost_44 : decode cX12_cost 44 = .ok (.lreturn, 1) := by decide +kernel
theorem dX12_cost_45 : decode cX12_cost 45 = .ok (.aload_n 0, 1) := by decide +kernel
theorem dX12_cost_46 : decode cX12_cost 46 = .ok (.getfield 282, 3) := by decide +kernel
theorem dX12_cost_49 : decode cX12_cost 49 = .ok (.iconst 5, 1) := by decide +kernel
theorem dX12_cost_50 : decode cX12_cost 50 = .ok (.if_icmp .ne 21, 3) := by decide +kernel
theorem dX12_cost_53 : decode cX12_cost 53 = .ok (.aload_n 0, 1) := by decide +kernel
theorem dX12_cost_54 : decode cX12_cost 54 = .ok (.getfield 289, 3) := by decide +kernel
theorem dX12_cost_57 : decode cX12_cost 57 = .ok (.iconst 3, 1) := by decide +kernel
theorem dX12_cost_58 : decode cX12_cost 58 = .ok (.if_icmp .ge 9, 3) := by decide +kernel
theorem dX12_cost_61 : decode cX12_cost 61 = .ok (.ldc2_w 192, 3) := by decide +kernel
theorem dX12_cost_64 : decode cX12_cost 64 = .ok (.goto 6, 3) := by decide +kernel
theorem dX12_cost_67 : decode cX12_cost 67 = .ok (.ldc2_w 285, 3) := by decide +kernel
theorem dX12_cost_7 : decode cX12_cost 7 = .ok (.lconst 1, 1) := by decide +kernel
theorem dX12_cost_70 : decode cX12_cost 70 = .ok (.lreturn, 1) := by decide +kernel
theorem dX12_cost_71 : decode cX12_cost 71 = .ok (.aload_n 0, 1) := by decide +kernel
theorem dX12_cost_72 : decode cX12_cost 72 = .ok (.getfield 282, 3) := by decide +kernel
theorem dX12_cost_75 : decode cX12_cost 75 = .ok (.bipush 6, 2) := by decide +kernel
theorem dX12_cost_77 : decode cX12_cost 77 = .ok (.if_icmp .ne 7, 3) := by decide +kernel
theorem dX12_cost_8 : decode cX12_cost 8 = .ok (.lreturn, 1) := by decide +kernel
theorem dX12_cost_80 : decode cX12_cost 80 = .ok (.ldc2_w 285, 3) := by decide +kernel
theorem dX12_cost_83 : decode cX12_cost 83 = .ok (.lreturn, 1) := by decide +kernel
theorem dX12_cost_84 : decode cX12_cost 84 = .ok (.aload_n 0, 1) := by decide +kernel
theorem dX12_cost_85 : decode cX12_cost 85 = .ok (.getfield 282, 3) := by decide +kernel
theorem dX12_cost_88 : decode cX12_cost 88 = .ok (.bipush 7, 2) := by decide +kernel
theorem dX12_cost_9 : decode cX12_cost 9 = .ok (.aload_n 0, 1) := by decide +kernel
theorem dX12_cost_90 : decode cX12_cost 90 = .ok (.if_icmp .ne 15, 3) := by decide +kernel
theorem dX12_cost_93 : decode cX12_cost 93 = .ok (.lconst 1, 1) := by decide +kernel
theorem dX12_cost_94 : decode cX12_cost 94 = .ok (.ldc2_w 285, 3) := by decide +kernel
theorem dX12_cost_97 : decode cX12_cost 97 = .ok (.aload_n 0, 1) := by decide +kernel
theorem dX12_cost_98 : decode cX12_cost 98 = .ok (.getfield 289, 3) := by decide +kernel
set_option maxHeartbeats 4000000 in
set_option maxRecDepth 100000 in
theorem T_X12_cost (l : Launch) (D : va_G) (K : Nat → ClassId) (Z Y : Nat → Nat) (ad : Nat → Nat) (t : tSt) (hok : okM t)  : tMet l yX12_cost cX12_cost 3 (some .long) (rmD 0 0 0) D K Z Y [.ref (ad 0)] (WM K ad t) (QL D K (fun (r : Int64) (u : Unit) => (r.toInt = (cO (t.1 0 16) (t.1 0 17) (t.2.2.2 4 ((t.1 0 17) : Int32).toNatClampNeg) (t.2.1 0 8)).toInt) ∧ ((t.1 0 12).toInt = 1 → 1 ≤ r.toInt ∧ r.toInt ≤ 2147490000) ∧ ((t.1 0 12).toInt = 1 → 35 ≤ (t.1 0 16).toInt → (t.1 0 16).toInt ≤ 37 → (t.1 0 17).toInt ≤ 19 → (t.2.2.2 4 ((t.1 0 17) : Int32).toNatClampNeg).toInt + 1 ≤ (t.2.1 0 8).toInt + r.toInt)) (fun (_ : Unit) => WM K ad t)) 0 0 := by
  refine t_met RX12 ⟨rfl, by decide +kernel⟩ (Nat.le_of_ble_eq_true rfl) ?_
  intro p e s m below meth c A ls C hE hZ hr hlocks hA hP hD hS hl
  have hl : lv_has ls 3 [(0, .ref (ad 0))] := hl
  have h_1 : (0 : Int) ≤ (t.1 0 12).toInt ∧ (t.1 0 12).toInt ≤ 1 := hok.1 0 12
  have h_2 : (0 : Int) ≤ (t.1 0 16).toInt ∧ (t.1 0 16).toInt ≤ 63 := hok.1 0 16
  have h_3 : (0 : Int) ≤ (t.1 0 17).toInt ∧ (t.1 0 17).toInt ≤ 63 := hok.1 0 17
  refine lv_aload_n C.1 C.2.1 dX12_cost_0 rfl (lv_at hl 0 rfl) ?_
  refine k_get (v := .int (t.1 0 16)) C hP 0 rfl rfl inlX12 16 (by decide) m_57_3 rfl dX12_cost_1 ?_
  refine lv_if_ne (tgt := 9) C.1 C.2.1 dX12_cost_4 (by decide) (fun c_4 => ?_) (fun c_4 => ?_)
  · replace c_4 : ¬ (t.1 0 16).toInt = 0 := i_ne c_4
    refine lv_aload_n C.1 C.2.1 dX12_cost_9 rfl (lv_at hl 0 rfl) ?_
    refine k_get (v := .int (t.1 0 16)) C hP 0 rfl rfl inlX12 16 (by decide) m_57_3 rfl dX12_cost_10 ?_
    refine lv_iconst (v := 3) C.1 C.2.1 dX12_cost_13 (by decide) ?_
    refine lv_icmp_ge (tgt := 21) C.1 C.2.1 dX12_cost_14 (by decide) (fun c_5 => ?_) (fun c_5 => ?_)
    · replace c_5 : 3 ≤ (t.1 0 16).toInt := i_le c_5
      refine lv_aload_n C.1 C.2.1 dX12_cost_21 rfl (lv_at hl 0 rfl) ?_
      refine k_get (v := .int (t.1 0 16)) C hP 0 rfl rfl inlX12 16 (by decide) m_57_3 rfl dX12_cost_22 ?_
      refine lv_iconst (v := 3) C.1 C.2.1 dX12_cost_25 (by decide) ?_
      refine lv_icmp_ne (tgt := 33) C.1 C.2.1 dX12_cost_26 (by decide) (fun c_6 => ?_) (fun c_6 => ?_)
      · replace c_6 : ¬ (t.1 0 16).toInt = 3 := i_ne c_6
        refine lv_aload_n C.1 C.2.1 dX12_cost_33 rfl (lv_at hl 0 rfl) ?_
        refine k_get (v := .int (t.1 0 16)) C hP 0 rfl rfl inlX12 16 (by decide) m_57_3 rfl dX12_cost_34 ?_
        refine lv_iconst (v := 4) C.1 C.2.1 dX12_cost_37 (by decide) ?_
        refine lv_icmp_ne (tgt := 45) C.1 C.2.1 dX12_cost_38 (by decide) (fun c_7 => ?_) (fun c_7 => ?_)
        · replace c_7 : ¬ (t.1 0 16).toInt = 4 := i_ne c_7
          refine lv_aload_n C.1 C.2.1 dX12_cost_45 rfl (lv_at hl 0 rfl) ?_
          refine k_get (v := .int (t.1 0 16)) C hP 0 rfl rfl inlX12 16 (by decide) m_57_3 rfl dX12_cost_46 ?_
          refine lv_iconst (v := 5) C.1 C.2.1 dX12_cost_49 (by decide) ?_
          refine lv_icmp_ne (tgt := 71) C.1 C.2.1 dX12_cost_50 (by decide) (fun c_8 => ?_) (fun c_8 => ?_)
          · replace c_8 : ¬ (t.1 0 16).toInt = 5 := i_ne c_8
            refine lv_aload_n C.1 C.2.1 dX12_cost_71 rfl (lv_at hl 0 rfl) ?_
            refine k_get (v := .int (t.1 0 16)) C hP 0 rfl rfl inlX12 16 (by decide) m_57_3 rfl dX12_cost_72 ?_
            refine lv_bipush (v := 6) C.1 C.2.1 dX12_cost_75 (by decide) ?_
            refine lv_icmp_ne (tgt := 84) C.1 C.2.1 dX12_cost_77 (by decide) (fun c_9 => ?_) (fun c_9 => ?_)
            · replace c_9 : ¬ (t.1 0 16).toInt = 6 := i_ne c_9
              refine lv_aload_n C.1 C.2.1 dX12_cost_84 rfl (lv_at hl 0 rfl) ?_
              refine k_get (v := .int (t.1 0 16)) C hP 0 rfl rfl inlX12 16 (by decide) m_57_3 rfl dX12_cost_85 ?_
              refine lv_bipush (v := 7) C.1 C.2.1 dX12_cost_88 (by decide) ?_
              refine lv_icmp_ne (tgt := 105) C.1 C.2.1 dX12_cost_90 (by decide) (fun c_10 => ?_) (fun c_10 => ?_)
              · replace c_10 : ¬ (t.1 0 16).toInt = 7 := i_ne c_10
                refine lv_aload_n C.1 C.2.1 dX12_cost_105 rfl (lv_at hl 0 rfl) ?_
                refine k_get (v := .int (t.1 0 16)) C hP 0 rfl rfl inlX12 16 (by decide) m_57_3 rfl dX12_cost_106 ?_
                refine lv_bipush (v := 34) C.1 C.2.1 dX12_cost_109 (by decide) ?_
                refine lv_icmp_ge (tgt := 118) C.1 C.2.1 dX12_cost_111 (by decide) (fun c_11 => ?_) (fun c_11 => ?_)
                · replace c_11 : 34 ≤ (t.1 0 16).toInt := i_le c_11
                  refine lv_aload_n C.1 C.2.1 dX12_cost_118 rfl (lv_at hl 0 rfl) ?_
                  refine k_get (v := .int (t.1 0 16)) C hP 0 rfl rfl inlX12 16 (by decide) m_57_3 rfl dX12_cost_119 ?_
                  refine lv_bipush (v := 55) C.1 C.2.1 dX12_cost_122 (by decide) ?_
                  refine lv_icmp_le (tgt := 131) C.1 C.2.1 dX12_cost_124 (by decide) (fun c_12 => ?_) (fun c_12 => ?_)
                  · replace c_12 : (t.1 0 16).toInt ≤ 55 := i_le c_12
                    refine lv_aload_n C.1 C.2.1 dX12_cost_131 rfl (lv_at hl 0 rfl) ?_
                    refine k_get (v := .int (t.1 0 16)) C hP 0 rfl rfl inlX12 16 (by decide) m_57_3 rfl dX12_cost_132 ?_
                    refine lv_bipush (v := 34) C.1 C.2.1 dX12_cost_135 (by decide) ?_
                    refine lv_icmp_le (tgt := 192) C.1 C.2.1 dX12_cost_137 (by decide) (fun c_13 => ?_) (fun c_13 => ?_)
                    · replace c_13 : (t.1 0 16).toInt ≤ 34 := i_le c_13
                      refine lv_lconst (v := 0) C.1 C.2.1 dX12_cost_192 (by decide) ?_
                      refine lv_lstore_n (lv' := [(1, .long 0), (0, .ref (ad 0))]) C.1 C.2.1 dX12_cost_193 rfl hl (by decide) rfl (fun ls hl => ?_)
                      have hl : lv_has ls 3 [(0, .ref (ad 0)), (1, .long 0)] := lv_sub hl [1, 0] rfl
                      refine lv_lconst (v := 1) C.1 C.2.1 dX12_cost_194 (by decide) ?_
                      refine lv_lload_n C.1 C.2.1 dX12_cost_195 rfl (lv_at hl 1 rfl) ?_
                      obtain ⟨v_14, e_15⟩ : ∃ z, z = (1 : Int64) + (0 : Int64) := ⟨_, rfl⟩
                      have h_16 : v_14.toInt = 1 + 0 := by rw [e_15]; exact Jvm.Kit.i64_add (by show (_ : Int) ≤ 1 + 0; omega) (by show 1 + 0 < (_ : Int); omega)
                      refine k_ladd (v := v_14) C e_15.symm dX12_cost_196 ?_
                      exact g_lret C hr hlocks hP hD hS () rfl ⟨(show v_14.toInt = (cO (t.1 0 16) (t.1 0 17) (t.2.2.2 4 ((t.1 0 17) : Int32).toNatClampNeg) (t.2.1 0 8)).toInt from by subst_vars; unfold cO; (repeat' split) <;> first | rfl | (exfalso; omega)), (show (t.1 0 12).toInt = 1 → 1 ≤ v_14.toInt ∧ v_14.toInt ≤ 2147490000 from by omega), (show (t.1 0 12).toInt = 1 → 35 ≤ (t.1 0 16).toInt → (t.1 0 16).toInt ≤ 37 → (t.1 0 17).toInt ≤ 19 → (t.2.2.2 4 ((t.1 0 17) : Int32).toNatClampNeg).toInt + 1 ≤ (t.2.1 0 8).toInt + v_14.toInt from by omega)⟩ (Nat.le_of_ble_eq_true rfl) (Nat.le_of_ble_eq_true rfl) dX12_cost_197
                    · replace c_13 : 34 < (t.1 0 16).toInt := i_nle c_13
                      refine lv_aload_n C.1 C.2.1 dX12_cost_140 rfl (lv_at hl 0 rfl) ?_
                      refine k_get (v := .int (t.1 0 16)) C hP 0 rfl rfl inlX12 16 (by decide) m_57_3 rfl dX12_cost_141 ?_
                      refine lv_bipush (v := 38) C.1 C.2.1 dX12_cost_144 (by decide) ?_
                      refine lv_icmp_ge (tgt := 192) C.1 C.2.1 dX12_cost_146 (by decide) (fun c_17 => ?_) (fun c_17 => ?_)
                      · replace c_17 : 38 ≤ (t.1 0 16).toInt := i_le c_17
                        refine lv_lconst (v := 0) C.1 C.2.1 dX12_cost_192 (by decide) ?_
                        refine lv_lstore_n (lv' := [(1, .long 0), (0, .ref (ad 0))]) C.1 C.2.1 dX12_cost_193 rfl hl (by decide) rfl (fun ls hl => ?_)
                        have hl : lv_has ls 3 [(0, .ref (ad 0)), (1, .long 0)] := lv_sub hl [1, 0] rfl
                        refine lv_lconst (v := 1) C.1 C.2.1 dX12_cost_194 (by decide) ?_
                        refine lv_lload_n C.1 C.2.1 dX12_cost_195 rfl (lv_at hl 1 rfl) ?_
                        obtain ⟨v_18, e_19⟩ : ∃ z, z = (1 : Int64) + (0 : Int64) := ⟨_, rfl⟩
                        have h_20 : v_18.toInt = 1 + 0 := by rw [e_19]; exact Jvm.Kit.i64_add (by show (_ : Int) ≤ 1 + 0; omega) (by show 1 + 0 < (_ : Int); omega)
                        refine k_ladd (v := v_18) C e_19.symm dX12_cost_196 ?_
                        exact g_lret C hr hlocks hP hD hS () rfl ⟨(show v_18.toInt = (cO (t.1 0 16) (t.1 0 17) (t.2.2.2 4 ((t.1 0 17) : Int32).toNatClampNeg) (t.2.1 0 8)).toInt from by subst_vars; unfold cO; (repeat' split) <;> first | rfl | (exfalso; omega)), (show (t.1 0 12).toInt = 1 → 1 ≤ v_18.toInt ∧ v_18.toInt ≤ 2147490000 from by omega), (show (t.1 0 12).toInt = 1 → 35 ≤ (t.1 0 16).toInt → (t.1 0 16).toInt ≤ 37 → (t.1 0 17).toInt ≤ 19 → (t.2.2.2 4 ((t.1 0 17) : Int32).toNatClampNeg).toInt + 1 ≤ (t.2.1 0 8).toInt + v_18.toInt from by omega)⟩ (Nat.le_of_ble_eq_true rfl) (Nat.le_of_ble_eq_true rfl) dX12_cost_197
                      · replace c_17 : (t.1 0 16).toInt < 38 := i_nle c_17
                        refine lv_aload_n C.1 C.2.1 dX12_cost_149 rfl (lv_at hl 0 rfl) ?_
                        refine k_get (v := .int (t.1 0 17)) C hP 0 rfl rfl inlX12 17 (by decide) m_57_4 rfl dX12_cost_150 ?_
                        refine lv_bipush (v := 20) C.1 C.2.1 dX12_cost_153 (by decide) ?_
                        refine lv_icmp_ge (tgt := 192) C.1 C.2.1 dX12_cost_155 (by decide) (fun c_21 => ?_) (fun c_21 => ?_)
                        · replace c_21 : 20 ≤ (t.1 0 17).toInt := i_le c_21
                          refine lv_lconst (v := 0) C.1 C.2.1 dX12_cost_192 (by decide) ?_
                          refine lv_lstore_n (lv' := [(1, .long 0), (0, .ref (ad 0))]) C.1 C.2.1 dX12_cost_193 rfl hl (by decide) rfl (fun ls hl => ?_)
                          have hl : lv_has ls 3 [(0, .ref (ad 0)), (1, .long 0)] := lv_sub hl [1, 0] rfl
                          refine lv_lconst (v := 1) C.1 C.2.1 dX12_cost_194 (by decide) ?_
                          refine lv_lload_n C.1 C.2.1 dX12_cost_195 rfl (lv_at hl 1 rfl) ?_
                          obtain ⟨v_22, e_23⟩ : ∃ z, z = (1 : Int64) + (0 : Int64) := ⟨_, rfl⟩
                          have h_24 : v_22.toInt = 1 + 0 := by rw [e_23]; exact Jvm.Kit.i64_add (by show (_ : Int) ≤ 1 + 0; omega) (by show 1 + 0 < (_ : Int); omega)
                          refine k_ladd (v := v_22) C e_23.symm dX12_cost_196 ?_
                          exact g_lret C hr hlocks hP hD hS () rfl ⟨(show v_22.toInt = (cO (t.1 0 16) (t.1 0 17) (t.2.2.2 4 ((t.1 0 17) : Int32).toNatClampNeg) (t.2.1 0 8)).toInt from by subst_vars; unfold cO; (repeat' split) <;> first | rfl | (exfalso; omega)), (show (t.1 0 12).toInt = 1 → 1 ≤ v_22.toInt ∧ v_22.toInt ≤ 2147490000 from by omega), (show (t.1 0 12).toInt = 1 → 35 ≤ (t.1 0 16).toInt → (t.1 0 16).toInt ≤ 37 → (t.1 0 17).toInt ≤ 19 → (t.2.2.2 4 ((t.1 0 17) : Int32).toNatClampNeg).toInt + 1 ≤ (t.2.1 0 8).toInt + v_22.toInt from by omega)⟩ (Nat.le_of_ble_eq_true rfl) (Nat.le_of_ble_eq_true rfl) dX12_cost_197
                        · replace c_21 : (t.1 0 17).toInt < 20 := i_nle c_21
                          have hjm := jM_at hok.2.2.2.2.2.2.1 (t.1 0 17) (by omega) (by omega)
                          refine lv_aload_n C.1 C.2.1 dX12_cost_158 rfl (lv_at hl 0 rfl) ?_
                          refine k_get (v := .ref (ad 4)) C hP 0 rfl rfl inlX12 19 (by decide) m_7_9 rfl dX12_cost_159 ?_
                          refine lv_aload_n C.1 C.2.1 dX12_cost_162 rfl (lv_at hl 0 rfl) ?_
                          refine k_get (v := .int (t.1 0 17)) C hP 0 rfl rfl inlX12 17 (by decide) m_57_4 rfl dX12_cost_163 ?_
                          refine k_lld (v := (t.2.2.2 4 ((t.1 0 17) : Int32).toNatClampNeg)) C hP 4 rfl (vp_in_iff.mpr ⟨by omega, by omega⟩) rfl dX12_cost_166 ?_
                          refine lv_aload_n C.1 C.2.1 dX12_cost_167 rfl (lv_at hl 0 rfl) ?_
                          refine k_get (v := .long (t.2.1 0 8)) C hP 0 rfl rfl inlX12 8 (by decide) m_29_23 rfl dX12_cost_168 ?_
                          obtain ⟨v_25, e_26⟩ : ∃ z, z = lg_cmp ((t.2.2.2 4 ((t.1 0 17) : Int32).toNatClampNeg) : Int64) (t.2.1 0 8) := ⟨_, rfl⟩
                          have h_27 : (-1 : Int) ≤ v_25.toInt ∧ v_25.toInt ≤ 1 := by rw [e_26]; exact cmp_rng _ _
                          have h_28 : (v_25.toInt < 0 ↔ (t.2.2.2 4 ((t.1 0 17) : Int32).toNatClampNeg).toInt < (t.2.1 0 8).toInt) ∧ (v_25.toInt = 0 ↔ (t.2.2.2 4 ((t.1 0 17) : Int32).toNatClampNeg).toInt = (t.2.1 0 8).toInt) := by rw [e_26]; exact cmp_iff _ _
                          refine k_lcmp (v := v_25) C e_26.symm dX12_cost_171 ?_
                          refine lv_if_le (tgt := 192) C.1 C.2.1 dX12_cost_172 (by decide) (fun c_29 => ?_) (fun c_29 => ?_)
                          · replace c_29 : v_25.toInt ≤ 0 := i_le c_29
                            refine lv_lconst (v := 0) C.1 C.2.1 dX12_cost_192 (by decide) ?_
                            refine lv_lstore_n (lv' := [(1, .long 0), (0, .ref (ad 0))]) C.1 C.2.1 dX12_cost_193 rfl hl (by decide) rfl (fun ls hl => ?_)
                            have hl : lv_has ls 3 [(0, .ref (ad 0)), (1, .long 0)] := lv_sub hl [1, 0] rfl
                            refine lv_lconst (v := 1) C.1 C.2.1 dX12_cost_194 (by decide) ?_
                            refine lv_lload_n C.1 C.2.1 dX12_cost_195 rfl (lv_at hl 1 rfl) ?_
                            obtain ⟨v_30, e_31⟩ : ∃ z, z = (1 : Int64) + (0 : Int64) := ⟨_, rfl⟩
                            have h_32 : v_30.toInt = 1 + 0 := by rw [e_31]; exact Jvm.Kit.i64_add (by show (_ : Int) ≤ 1 + 0; omega) (by show 1 + 0 < (_ : Int); omega)
                            refine k_ladd (v := v_30) C e_31.symm dX12_cost_196 ?_
                            exact g_lret C hr hlocks hP hD hS () rfl ⟨(show v_30.toInt = (cO (t.1 0 16) (t.1 0 17) (t.2.2.2 4 ((t.1 0 17) : Int32).toNatClampNeg) (t.2.1 0 8)).toInt from by subst_vars; unfold cO; (repeat' split) <;> first | rfl | (exfalso; omega)), (show (t.1 0 12).toInt = 1 → 1 ≤ v_30.toInt ∧ v_30.toInt ≤ 2147490000 from by omega), (show (t.1 0 12).toInt = 1 → 35 ≤ (t.1 0 16).toInt → (t.1 0 16).toInt ≤ 37 → (t.1 0 17).toInt ≤ 19 → (t.2.2.2 4 ((t.1 0 17) : Int32).toNatClampNeg).toInt + 1 ≤ (t.2.1 0 8).toInt + v_30.toInt from by omega)⟩ (Nat.le_of_ble_eq_true rfl) (Nat.le_of_ble_eq_true rfl) dX12_cost_197
                          · replace c_29 : 0 < v_25.toInt := i_nle c_29
                            refine lv_aload_n C.1 C.2.1 dX12_cost_175 rfl (lv_at hl 0 rfl) ?_
                            refine k_get (v := .ref (ad 4)) C hP 0 rfl rfl inlX12 19 (by decide) m_7_9 rfl dX12_cost_176 ?_
                            refine lv_aload_n C.1 C.2.1 dX12_cost_179 rfl (lv_at hl 0 rfl) ?_
                            refine k_get (v := .int (t.1 0 17)) C hP 0 rfl rfl inlX12 17 (by decide) m_57_4 rfl dX12_cost_180 ?_
                            refine k_lld (v := (t.2.2.2 4 ((t.1 0 17) : Int32).toNatClampNeg)) C hP 4 rfl (vp_in_iff.mpr ⟨by omega, by omega⟩) rfl dX12_cost_183 ?_
                            refine lv_aload_n C.1 C.2.1 dX12_cost_184 rfl (lv_at hl 0 rfl) ?_
                            refine k_get (v := .long (t.2.1 0 8)) C hP 0 rfl rfl inlX12 8 (by decide) m_29_23 rfl dX12_cost_185 ?_
                            obtain ⟨v_33, e_34⟩ : ∃ z, z = ((t.2.2.2 4 ((t.1 0 17) : Int32).toNatClampNeg) : Int64) - ((t.2.1 0 8) : Int64) := ⟨_, rfl⟩
                            have h_35 : -9223372036854775808 ≤ (t.2.2.2 4 ((t.1 0 17) : Int32).toNatClampNeg).toInt - (t.2.1 0 8).toInt → (t.2.2.2 4 ((t.1 0 17) : Int32).toNatClampNeg).toInt - (t.2.1 0 8).toInt < 9223372036854775808 → v_33.toInt = (t.2.2.2 4 ((t.1 0 17) : Int32).toNatClampNeg).toInt - (t.2.1 0 8).toInt := by rw [e_34]; exact fun h1 h2 => Jvm.Kit.i64_sub h1 h2
                            refine k_lsub (v := v_33) C e_34.symm dX12_cost_188 ?_
                            refine lv_goto (tgt := 193) C.1 C.2.1 dX12_cost_189 (by decide) ?_
                            refine lv_lstore_n (lv' := [(1, .long v_33), (0, .ref (ad 0))]) C.1 C.2.1 dX12_cost_193 rfl hl (by decide) rfl (fun ls hl => ?_)
                            have hl : lv_has ls 3 [(0, .ref (ad 0)), (1, .long v_33)] := lv_sub hl [1, 0] rfl
                            refine lv_lconst (v := 1) C.1 C.2.1 dX12_cost_194 (by decide) ?_
                            refine lv_lload_n C.1 C.2.1 dX12_cost_195 rfl (lv_at hl 1 rfl) ?_
                            obtain ⟨v_36, e_37⟩ : ∃ z, z = (1 : Int64) + (v_33 : Int64) := ⟨_, rfl⟩
                            have h_38 : -9223372036854775808 ≤ 1 + v_33.toInt → 1 + v_33.toInt < 9223372036854775808 → v_36.toInt = 1 + v_33.toInt := by rw [e_37]; exact fun h1 h2 => Jvm.Kit.i64_add h1 h2
                            refine k_ladd (v := v_36) C e_37.symm dX12_cost_196 ?_
                            exact g_lret C hr hlocks hP hD hS () rfl ⟨(show v_36.toInt = (cO (t.1 0 16) (t.1 0 17) (t.2.2.2 4 ((t.1 0 17) : Int32).toNatClampNeg) (t.2.1 0 8)).toInt from by subst_vars; unfold cO; (repeat' split) <;> first | rfl | (exfalso; omega)), (show (t.1 0 12).toInt = 1 → 1 ≤ v_36.toInt ∧ v_36.toInt ≤ 2147490000 from by omega), (show (t.1 0 12).toInt = 1 → 35 ≤ (t.1 0 16).toInt → (t.1 0 16).toInt ≤ 37 → (t.1 0 17).toInt ≤ 19 → (t.2.2.2 4 ((t.1 0 17) : Int32).toNatClampNeg).toInt + 1 ≤ (t.2.1 0 8).toInt + v_36.toInt from by omega)⟩ (Nat.le_of_ble_eq_true rfl) (Nat.le_of_ble_eq_true rfl) dX12_cost_197
                  · replace c_12 : 55 < (t.1 0 16).toInt := i_nle c_12
                    refine lv_ldc2 (v := 2) C.1 C.2.1 C.2.2.2.1 (C.2.2.2.2.1 _ m_57_19) dX12_cost_127 ?_
                    exact g_lret C hr hlocks hP hD hS () rfl ⟨(show 2 = (cO (t.1 0 16) (t.1 0 17) (t.2.2.2 4 ((t.1 0 17) : Int32).toNatClampNeg) (t.2.1 0 8)).toInt from by subst_vars; unfold cO; (repeat' split) <;> first | rfl | (exfalso; omega)), (show (t.1 0 12).toInt = 1 → 1 ≤ 2 ∧ 2 ≤ 2147490000 from by omega), (show (t.1 0 12).toInt = 1 → 35 ≤ (t.1 0 16).toInt → (t.1 0 16).toInt ≤ 37 → (t.1 0 17).toInt ≤ 19 → (t.2.2.2 4 ((t.1 0 17) : Int32).toNatClampNeg).toInt + 1 ≤ (t.2.1 0 8).toInt + 2 from by omega)⟩ (Nat.le_of_ble_eq_true rfl) (Nat.le_of_ble_eq_true rfl) dX12_cost_130
                · replace c_11 : (t.1 0 16).toInt < 34 := i_nle c_11
                  refine lv_ldc2 (v := 2) C.1 C.2.1 C.2.2.2.1 (C.2.2.2.2.1 _ m_57_19) dX12_cost_114 ?_
                  exact g_lret C hr hlocks hP hD hS () rfl ⟨(show 2 = (cO (t.1 0 16) (t.1 0 17) (t.2.2.2 4 ((t.1 0 17) : Int32).toNatClampNeg) (t.2.1 0 8)).toInt from by subst_vars; unfold cO; (repeat' split) <;> first | rfl | (exfalso; omega)), (show (t.1 0 12).toInt = 1 → 1 ≤ 2 ∧ 2 ≤ 2147490000 from by omega), (show (t.1 0 12).toInt = 1 → 35 ≤ (t.1 0 16).toInt → (t.1 0 16).toInt ≤ 37 → (t.1 0 17).toInt ≤ 19 → (t.2.2.2 4 ((t.1 0 17) : Int32).toNatClampNeg).toInt + 1 ≤ (t.2.1 0 8).toInt + 2 from by omega)⟩ (Nat.le_of_ble_eq_true rfl) (Nat.le_of_ble_eq_true rfl) dX12_cost_117
              · replace c_10 : (t.1 0 16).toInt = 7 := i_eq c_10
                refine lv_lconst (v := 1) C.1 C.2.1 dX12_cost_93 (by decide) ?_
                refine lv_ldc2 (v := 2) C.1 C.2.1 C.2.2.2.1 (C.2.2.2.2.1 _ m_57_19) dX12_cost_94 ?_
                refine lv_aload_n C.1 C.2.1 dX12_cost_97 rfl (lv_at hl 0 rfl) ?_
                refine k_get (v := .int (t.1 0 17)) C hP 0 rfl rfl inlX12 17 (by decide) m_57_4 rfl dX12_cost_98 ?_
                obtain ⟨v_39, e_40⟩ : ∃ z, z = ((t.1 0 17) : Int32).toInt64 := ⟨_, rfl⟩
                have h_41 : v_39.toInt = (t.1 0 17).toInt := by rw [e_40]; exact Jvm.Kit.i64_of_i32 _
                refine lv_i2l (v := v_39) C.1 C.2.1 dX12_cost_101 e_40.symm ?_
                obtain ⟨v_42, e_43⟩ : ∃ z, z = (2 : Int64) * (v_39 : Int64) := ⟨_, rfl⟩
                have h_44 : v_42.toInt = 2 * v_39.toInt := by rw [e_43]; exact tl_mull (k := 2) (by decide) (by omega) (by omega)
                refine k_lmul (v := v_42) C e_43.symm dX12_cost_102 ?_
                obtain ⟨v_45, e_46⟩ : ∃ z, z = (1 : Int64) + (v_42 : Int64) := ⟨_, rfl⟩
                have h_47 : v_45.toInt = 1 + v_42.toInt := by rw [e_46]; exact Jvm.Kit.i64_add (by show (_ : Int) ≤ 1 + v_42.toInt; omega) (by show 1 + v_42.toInt < (_ : Int); omega)
                refine k_ladd (v := v_45) C e_46.symm dX12_cost_103 ?_
                exact g_lret C hr hlocks hP hD hS () rfl ⟨(show v_45.toInt = (cO (t.1 0 16) (t.1 0 17) (t.2.2.2 4 ((t.1 0 17) : Int32).toNatClampNeg) (t.2.1 0 8)).toInt from by subst_vars; unfold cO; (repeat' split) <;> first | rfl | (exfalso; omega)), (show (t.1 0 12).toInt = 1 → 1 ≤ v_45.toInt ∧ v_45.toInt ≤ 2147490000 from by omega), (show (t.1 0 12).toInt = 1 → 35 ≤ (t.1 0 16).toInt → (t.1 0 16).toInt ≤ 37 → (t.1 0 17).toInt ≤ 19 → (t.2.2.2 4 ((t.1 0 17) : Int32).toNatClampNeg).toInt + 1 ≤ (t.2.1 0 8).toInt + v_45.toInt from by omega)⟩ (Nat.le_of_ble_eq_true rfl) (Nat.le_of_ble_eq_true rfl) dX12_cost_104
            · replace c_9 : (t.1 0 16).toInt = 6 := i_eq c_9
              refine lv_ldc2 (v := 2) C.1 C.2.1 C.2.2.2.1 (C.2.2.2.2.1 _ m_57_19) dX12_cost_80 ?_
              exact g_lret C hr hlocks hP hD hS () rfl ⟨(show 2 = (cO (t.1 0 16) (t.1 0 17) (t.2.2.2 4 ((t.1 0 17) : Int32).toNatClampNeg) (t.2.1 0 8)).toInt from by subst_vars; unfold cO; (repeat' split) <;> first | rfl | (exfalso; omega)), (show (t.1 0 12).toInt = 1 → 1 ≤ 2 ∧ 2 ≤ 2147490000 from by omega), (show (t.1 0 12).toInt = 1 → 35 ≤ (t.1 0 16).toInt → (t.1 0 16).toInt ≤ 37 → (t.1 0 17).toInt ≤ 19 → (t.2.2.2 4 ((t.1 0 17) : Int32).toNatClampNeg).toInt + 1 ≤ (t.2.1 0 8).toInt + 2 from by omega)⟩ (Nat.le_of_ble_eq_true rfl) (Nat.le_of_ble_eq_true rfl) dX12_cost_83
          · replace c_8 : (t.1 0 16).toInt = 5 := i_eq c_8
            refine lv_aload_n C.1 C.2.1 dX12_cost_53 rfl (lv_at hl 0 rfl) ?_
            refine k_get (v := .int (t.1 0 17)) C hP 0 rfl rfl inlX12 17 (by decide) m_57_4 rfl dX12_cost_54 ?_
            refine lv_iconst (v := 3) C.1 C.2.1 dX12_cost_57 (by decide) ?_
            refine lv_icmp_ge (tgt := 67) C.1 C.2.1 dX12_cost_58 (by decide) (fun c_48 => ?_) (fun c_48 => ?_)
            · replace c_48 : 3 ≤ (t.1 0 17).toInt := i_le c_48
              refine lv_ldc2 (v := 2) C.1 C.2.1 C.2.2.2.1 (C.2.2.2.2.1 _ m_57_19) dX12_cost_67 ?_
              exact g_lret C hr hlocks hP hD hS () rfl ⟨(show 2 = (cO (t.1 0 16) (t.1 0 17) (t.2.2.2 4 ((t.1 0 17) : Int32).toNatClampNeg) (t.2.1 0 8)).toInt from by subst_vars; unfold cO; (repeat' split) <;> first | rfl | (exfalso; omega)), (show (t.1 0 12).toInt = 1 → 1 ≤ 2 ∧ 2 ≤ 2147490000 from by omega), (show (t.1 0 12).toInt = 1 → 35 ≤ (t.1 0 16).toInt → (t.1 0 16).toInt ≤ 37 → (t.1 0 17).toInt ≤ 19 → (t.2.2.2 4 ((t.1 0 17) : Int32).toNatClampNeg).toInt + 1 ≤ (t.2.1 0 8).toInt + 2 from by omega)⟩ (Nat.le_of_ble_eq_true rfl) (Nat.le_of_ble_eq_true rfl) dX12_cost_70
            · replace c_48 : (t.1 0 17).toInt < 3 := i_nle c_48
              refine lv_ldc2 (v := 10) C.1 C.2.1 C.2.2.2.1 (C.2.2.2.2.1 _ m_36_4) dX12_cost_61 ?_
              refine lv_goto (tgt := 70) C.1 C.2.1 dX12_cost_64 (by decide) ?_
              exact g_lret C hr hlocks hP hD hS () rfl ⟨(show 10 = (cO (t.1 0 16) (t.1 0 17) (t.2.2.2 4 ((t.1 0 17) : Int32).toNatClampNeg) (t.2.1 0 8)).toInt from by subst_vars; unfold cO; (repeat' split) <;> first | rfl | (exfalso; omega)), (show (t.1 0 12).toInt = 1 → 1 ≤ 10 ∧ 10 ≤ 2147490000 from by omega), (show (t.1 0 12).toInt = 1 → 35 ≤ (t.1 0 16).toInt → (t.1 0 16).toInt ≤ 37 → (t.1 0 17).toInt ≤ 19 → (t.2.2.2 4 ((t.1 0 17) : Int32).toNatClampNeg).toInt + 1 ≤ (t.2.1 0 8).toInt + 10 from by omega)⟩ (Nat.le_of_ble_eq_true rfl) (Nat.le_of_ble_eq_true rfl) dX12_cost_70
        · replace c_7 : (t.1 0 16).toInt = 4 := i_eq c_7
          refine lv_ldc2 (v := 12) C.1 C.2.1 C.2.2.2.1 (C.2.2.2.2.1 _ m_57_20) dX12_cost_41 ?_
          exact g_lret C hr hlocks hP hD hS () rfl ⟨(show 12 = (cO (t.1 0 16) (t.1 0 17) (t.2.2.2 4 ((t.1 0 17) : Int32).toNatClampNeg) (t.2.1 0 8)).toInt from by subst_vars; unfold cO; (repeat' split) <;> first | rfl | (exfalso; omega)), (show (t.1 0 12).toInt = 1 → 1 ≤ 12 ∧ 12 ≤ 2147490000 from by omega), (show (t.1 0 12).toInt = 1 → 35 ≤ (t.1 0 16).toInt → (t.1 0 16).toInt ≤ 37 → (t.1 0 17).toInt ≤ 19 → (t.2.2.2 4 ((t.1 0 17) : Int32).toNatClampNeg).toInt + 1 ≤ (t.2.1 0 8).toInt + 12 from by omega)⟩ (Nat.le_of_ble_eq_true rfl) (Nat.le_of_ble_eq_true rfl) dX12_cost_44
      · replace c_6 : (t.1 0 16).toInt = 3 := i_eq c_6
        refine lv_ldc2 (v := 10) C.1 C.2.1 C.2.2.2.1 (C.2.2.2.2.1 _ m_36_4) dX12_cost_29 ?_
        exact g_lret C hr hlocks hP hD hS () rfl ⟨(show 10 = (cO (t.1 0 16) (t.1 0 17) (t.2.2.2 4 ((t.1 0 17) : Int32).toNatClampNeg) (t.2.1 0 8)).toInt from by subst_vars; unfold cO; (repeat' split) <;> first | rfl | (exfalso; omega)), (show (t.1 0 12).toInt = 1 → 1 ≤ 10 ∧ 10 ≤ 2147490000 from by omega), (show (t.1 0 12).toInt = 1 → 35 ≤ (t.1 0 16).toInt → (t.1 0 16).toInt ≤ 37 → (t.1 0 17).toInt ≤ 19 → (t.2.2.2 4 ((t.1 0 17) : Int32).toNatClampNeg).toInt + 1 ≤ (t.2.1 0 8).toInt + 10 from by omega)⟩ (Nat.le_of_ble_eq_true rfl) (Nat.le_of_ble_eq_true rfl) dX12_cost_32
    · replace c_5 : (t.1 0 16).toInt < 3 := i_nle c_5
      refine lv_ldc2 (v := 2) C.1 C.2.1 C.2.2.2.1 (C.2.2.2.2.1 _ m_57_19) dX12_cost_17 ?_
      exact g_lret C hr hlocks hP hD hS () rfl ⟨(show 2 = (cO (t.1 0 16) (t.1 0 17) (t.2.2.2 4 ((t.1 0 17) : Int32).toNatClampNeg) (t.2.1 0 8)).toInt from by subst_vars; unfold cO; (repeat' split) <;> first | rfl | (exfalso; omega)), (show (t.1 0 12).toInt = 1 → 1 ≤ 2 ∧ 2 ≤ 2147490000 from by omega), (show (t.1 0 12).toInt = 1 → 35 ≤ (t.1 0 16).toInt → (t.1 0 16).toInt ≤ 37 → (t.1 0 17).toInt ≤ 19 → (t.2.2.2 4 ((t.1 0 17) : Int32).toNatClampNeg).toInt + 1 ≤ (t.2.1 0 8).toInt + 2 from by omega)⟩ (Nat.le_of_ble_eq_true rfl) (Nat.le_of_ble_eq_true rfl) dX12_cost_20
  · replace c_4 : (t.1 0 16).toInt = 0 := i_eq c_4
    refine lv_lconst (v := 1) C.1 C.2.1 dX12_cost_7 (by decide) ?_
    exact g_lret C hr hlocks hP hD hS () rfl ⟨(show 1 = (cO (t.1 0 16) (t.1 0 17) (t.2.2.2 4 ((t.1 0 17) : Int32).toNatClampNeg) (t.2.1 0 8)).toInt from by subst_vars; unfold cO; (repeat' split) <;> first | rfl | (exfalso; omega)), (show (t.1 0 12).toInt = 1 → 1 ≤ 1 ∧ 1 ≤ 2147490000 from by omega), (show (t.1 0 12).toInt = 1 → 35 ≤ (t.1 0 16).toInt → (t.1 0 16).toInt ≤ 37 → (t.1 0 17).toInt ≤ 19 → (t.2.2.2 4 ((t.1 0 17) : Int32).toNatClampNeg).toInt + 1 ≤ (t.2.1 0 8).toInt + 1 from by omega)⟩ (Nat.le_of_ble_eq_true rfl) (Nat.le_of_ble_eq_true rfl) dX12_cost_8

theorem dX12_sayAll_0 : decode cX12_sayAll 0 = .ok (.iconst 0, 1) := by decide +kernel
theorem dX12_sayAll_1 : decode cX12_sayAll 1 = .ok (.istore_n 2, 1) := by decide +kernel
theorem dX12_sayAll_10 : decode cX12_sayAll 10 = .ok (.aload_n 0, 1) := by decide +kernel
theorem dX12_sayAll_11 : decode cX12_sayAll 11 = .ok (.aload_n 1, 1) := by decide +kernel
theorem dX12_sayAll_12 : decode cX12_sayAll 12 = .ok (.iload_n 2, 1) := by decide +kernel
theorem dX12_sayAll_13 : decode cX12_sayAll 13 = .ok (.invokevirtual 172, 3) := by decide +kernel
theorem dX12_sayAll_16 : decode cX12_sayAll 16 = .ok (.invokevirtual 189, 3) := by decide +kernel
theorem dX12_sayAll_19 : decode cX12_sayAll 19 = .ok (.iinc 2 1, 3) := by decide +kernel
theorem dX12_sayAll_2 : decode cX12_sayAll 2 = .ok (.iload_n 2, 1) := by decide +kernel
theorem dX12_sayAll_22 : decode cX12_sayAll 22 = .ok (.goto (-20), 3) := by decide +kernel
theorem dX12_sayAll_25 : decode cX12_sayAll 25 = .ok (.return_, 1) := by decide +kernel
theorem dX12_sayAll_3 : decode cX12_sayAll 3 = .ok (.aload_n 1, 1) := by decide +kernel
theorem dX12_sayAll_4 : decode cX12_sayAll 4 = .ok (.invokevirtual 203, 3) := by decide +kernel
theorem dX12_sayAll_7 : decode cX12_sayAll 7 = .ok (.if_icmp .ge 18, 3) := by decide +kernel
set_option maxHeartbeats 4000000 in
set_option maxRecDepth 100000 in
theorem T_X12_sayAll (l : Launch) (D : va_G) (K : Nat → ClassId) (Z Y : Nat → Nat) (ad : Nat → Nat) (t : tSt) (hok : okM t) (i1 : Nat) (hi1 : sS i1) (hs0 : (t.1 0 30).toInt ≤ 115) : tMet l yX12_sayAll cX12_sayAll 3 none (rmD 4 0 0) D K Z Y [.ref (ad 0), .ref (Z i1)] (WM K ad t) (QV D K (fun (u : tSt) => okM u ∧ frA [(0, 30)] [] [14] [] t u ∧ ((u.1 0 30).toInt = (t.1 0 30).toInt + (sL i1))) (fun (u : tSt) => WM K ad u)) 0 0 := by
  refine t_met RX12 ⟨rfl, by decide +kernel⟩ (Nat.le_of_ble_eq_true rfl) ?_
  intro p e s m below meth c A ls C hE hZ hr hlocks hA hP hD hS hl
  have hl : lv_has ls 3 [(0, .ref (ad 0)), (1, .ref (Z i1))] := hl
  have hokt := hok
  have hfr : frA [(0, 30)] [] [14] [] t t := frA_rf
  have h_1 : (0 : Int) ≤ (t.1 0 30).toInt ∧ (t.1 0 30).toInt ≤ 120 := hok.1 0 30
  have L_2 : ∀ (fuel_2 : Nat) (t1 : tSt) (w2_2 : Int32) (H : Heap) (locs : List Loc) (ls : Array Slot), okM t1 → frA [(0, 30)] [] [14] [] t t1 → (0 : Int) ≤ w2_2.toInt ∧ w2_2.toInt ≤ 400 → ((t1.1 0 30).toInt = (t.1 0 30).toInt + w2_2.toInt) → (w2_2.toInt ≤ (sL i1)) → (400 : Int) - w2_2.toInt < (fuel_2 : Int) → va_P D vwCl (WM K ad t1) H → va_D A (WM K ad t1) → va_S A s.heap H locs → lv_has ls 3 [(0, .ref (ad 0)), (1, .ref (Z i1)), (2, .int w2_2)] → W p l e (rmD 4 0 0) s m [.ref (ad 0), .ref (Z i1)].toArray below meth c H locs 0 0 (MQ below (QV D K (fun (u : tSt) => okM u ∧ frA [(0, 30)] [] [14] [] t u ∧ ((u.1 0 30).toInt = (t.1 0 30).toInt + (sL i1))) (fun (u : tSt) => WM K ad u) A) [.ref (ad 0), .ref (Z i1)].toArray s 0 0 A) (F0 m 2 ls []) := by
    intro fuel_2
    induction fuel_2 with
    | zero =>
      intro t1 w2_2 H locs ls hok hfr hw2_2 hi2_0 hi2_1 hm2_2 hP hD hS hl
      have h_2 : (0 : Int) ≤ (t1.1 0 30).toInt ∧ (t1.1 0 30).toInt ≤ 120 := hok.1 0 30
      exact absurd hm2_2 (by omega)
    | succ fuel_2 ih_2 =>
      intro t1 w2_2 H locs ls hok hfr hw2_2 hi2_0 hi2_1 hm2_2 hP hD hS hl
      have hm2_2 : (400 : Int) - w2_2.toInt < (fuel_2 : Int) + 1 := by omega
      have h_3 : (0 : Int) ≤ (t1.1 0 30).toInt ∧ (t1.1 0 30).toInt ≤ 120 := hok.1 0 30
      refine lv_iload_n C.1 C.2.1 dX12_sayAll_2 rfl (lv_at hl 2 rfl) ?_
      refine lv_aload_n C.1 C.2.1 dX12_sayAll_3 rfl (lv_at hl 1 rfl) ?_
      refine g_Ti (As := []) (rest := [.int w2_2]) C hP hD hS hA (TJ_length l D K Z Y (WM K ad t1) i1 (sS_lt hi1)) hE hZ (uwV m_79_5 m_14_22 m_14_23 m_14_8 m_15_0) (hdV 0 (by decide +kernel) rfl) ⟨Nat.le_of_ble_eq_true rfl, Nat.le_of_ble_eq_true rfl⟩ rfl rfl (i0 := i1) (sS_lt hi1) rfl rfl hl.1 (Nat.le_of_ble_eq_true rfl) dX12_sayAll_4 ⟨Nat.le_of_ble_eq_true rfl, Nat.le_of_ble_eq_true rfl⟩ (fun r_4 u_r_4 H locs hw hP hD hS => ?_)
      have h_5 : r_4.toInt = sL i1 := hw
      have h_6 := sS_len hi1
      refine lv_icmp_ge (tgt := 25) C.1 C.2.1 dX12_sayAll_7 (by decide) (fun c_7 => ?_) (fun c_7 => ?_)
      · replace c_7 : r_4.toInt ≤ w2_2.toInt := i_le c_7
        exact g_vret C hr hlocks hP hD hS t1 rfl ⟨hok, hfr, (show (t1.1 0 30).toInt = (t.1 0 30).toInt + (sL i1) from by omega)⟩ (Nat.le_of_ble_eq_true rfl) (Nat.le_of_ble_eq_true rfl) dX12_sayAll_25
      · replace c_7 : w2_2.toInt < r_4.toInt := i_nle c_7
        refine lv_aload_n C.1 C.2.1 dX12_sayAll_10 rfl (lv_at hl 0 rfl) ?_
        refine lv_aload_n C.1 C.2.1 dX12_sayAll_11 rfl (lv_at hl 1 rfl) ?_
        refine lv_iload_n C.1 C.2.1 dX12_sayAll_12 rfl (lv_at hl 2 rfl) ?_
        refine g_Ti (As := [.int w2_2]) (rest := [.ref (ad 0)]) C hP hD hS hA (TJ_charAt l D K Z Y (WM K ad t1) i1 (sS_lt hi1) w2_2 (show 0 ≤ w2_2.toInt ∧ w2_2.toInt < sL i1 from by omega)) hE hZ (uwV m_31_19 m_17_21 m_17_22 m_14_8 m_17_23) (hdV 1 (by decide +kernel) rfl) ⟨Nat.le_of_ble_eq_true rfl, Nat.le_of_ble_eq_true rfl⟩ rfl rfl (i0 := i1) (sS_lt hi1) rfl rfl hl.1 (Nat.le_of_ble_eq_true rfl) dX12_sayAll_13 ⟨Nat.le_of_ble_eq_true rfl, Nat.le_of_ble_eq_true rfl⟩ (fun r_8 u_r_8 H locs hw hP hD hS => ?_)
        have er_8 : r_8 = (sByt i1).getD (w2_2 : Int32).toNatClampNeg 0 := hw
        have h_9 : (32 : Int) ≤ r_8.toInt ∧ r_8.toInt ≤ 126 := by rw [er_8]; exact sByt_rr (sS_lt hi1) (by omega) (by omega)
        refine g_Vv (As := [.int r_8]) (rest := []) C hP hD hS hA (T_X12_say l D K Z Y ad t1 hok (r_8) (show (t1.1 0 30).toInt ≤ 119 from by omega)) hE hZ (uwV m_42_13 m_42_14 m_42_15 m_1_5 m_42_16) (hdV 1 (by decide +kernel) rfl) ⟨Nat.le_of_ble_eq_true rfl, Nat.le_of_ble_eq_true rfl⟩ rfl rfl (ci := 11) (q0 := 0) rfl rfl rfl hl.1 (Nat.le_of_ble_eq_true rfl) dX12_sayAll_16 ⟨Nat.le_of_ble_eq_true rfl, Nat.le_of_ble_eq_true rfl⟩ (fun t_10 H locs hw hP hD hS => ?_)
        obtain ⟨hok, f_12, p_13⟩ := hw
        have hfr : frA [(0, 30)] [] [14] [] t t_10 := frA_tr hfr f_12 rfl
        have h_14 : (0 : Int) ≤ (t_10.1 0 30).toInt ∧ (t_10.1 0 30).toInt ≤ 120 := hok.1 0 30
        replace p_13 : (t_10.1 0 30).toInt = (t1.1 0 30).toInt + 1 := p_13
        obtain ⟨v_15, e_16⟩ : ∃ z, z = w2_2 + 1 := ⟨_, rfl⟩
        have h_17 : v_15.toInt = w2_2.toInt + 1 := by rw [e_16]; exact ti_iadd (by show (_ : Int) ≤ w2_2.toInt + 1; omega) (by show w2_2.toInt + 1 < (_ : Int); omega)
        refine lv_iinc (v := v_15) (lv' := [(2, .int v_15), (0, .ref (ad 0)), (1, .ref (Z i1))]) C.1 C.2.1 dX12_sayAll_19 hl (k := 2) rfl e_16.symm (by decide) rfl (fun ls hl => ?_)
        have hl : lv_has ls 3 [(0, .ref (ad 0)), (1, .ref (Z i1)), (2, .int v_15)] := lv_sub hl [1, 2, 0] rfl
        refine lv_goto (tgt := 2) C.1 C.2.1 dX12_sayAll_22 (by decide) ?_
        exact ih_2 t_10 v_15 _ _ _ hok hfr ⟨by omega, by omega⟩ (show (t_10.1 0 30).toInt = (t.1 0 30).toInt + v_15.toInt from by omega) (show v_15.toInt ≤ (sL i1) from by omega) (show (400 : Int) - v_15.toInt < (fuel_2 : Int) from by omega) hP hD hS (lv_sub hl [0, 1, 2] rfl)
  have hsl := sS_len hi1
  refine lv_iconst (v := 0) C.1 C.2.1 dX12_sayAll_0 (by decide) ?_
  refine lv_istore_n (lv' := [(2, .int 0), (0, .ref (ad 0)), (1, .ref (Z i1))]) C.1 C.2.1 dX12_sayAll_1 rfl hl (by decide) rfl (fun ls hl => ?_)
  have hl : lv_has ls 3 [(0, .ref (ad 0)), (1, .ref (Z i1)), (2, .int 0)] := lv_sub hl [1, 2, 0] rfl
  exact L_2 401 t 0 _ _ _ hok hfr ⟨by decide, by decide⟩ (show (t.1 0 30).toInt = (t.1 0 30).toInt + 0 from by omega) (show 0 ≤ (sL i1) from by omega) (show (400 : Int) - 0 < ((401 : Nat) : Int) from by omega) hP hD hS (lv_sub hl [0, 1, 2] rfl)

theorem dX12_nameAt_0 : decode cX12_nameAt 0 = .ok (.ldc_w 561, 3) := by decide +kernel
theorem dX12_nameAt_11 : decode cX12_nameAt 11 = .ok (.ireturn, 1) := by decide +kernel
theorem dX12_nameAt_3 : decode cX12_nameAt 3 = .ok (.iconst 4, 1) := by decide +kernel
theorem dX12_nameAt_4 : decode cX12_nameAt 4 = .ok (.iload_n 0, 1) := by decide +kernel
theorem dX12_nameAt_5 : decode cX12_nameAt 5 = .ok (.imul, 1) := by decide +kernel
theorem dX12_nameAt_6 : decode cX12_nameAt 6 = .ok (.iload_n 1, 1) := by decide +kernel
theorem dX12_nameAt_7 : decode cX12_nameAt 7 = .ok (.iadd, 1) := by decide +kernel
theorem dX12_nameAt_8 : decode cX12_nameAt 8 = .ok (.invokevirtual 172, 3) := by decide +kernel
set_option maxHeartbeats 4000000 in
set_option maxRecDepth 100000 in
theorem T_X12_nameAt (l : Launch) (D : va_G) (K : Nat → ClassId) (Z Y : Nat → Nat) (ad : Nat → Nat) (t : tSt) (hok : okM t) (x0 : Int32) (hx0 : (0 : Int) ≤ x0.toInt ∧ x0.toInt ≤ 156) (x1 : Int32) (hx1 : (0 : Int) ≤ x1.toInt ∧ x1.toInt ≤ 3) : tMet l yX12_nameAt cX12_nameAt 2 (some .int) (rmD 4 0 0) D K Z Y [.int x0, .int x1] (WM K ad t) (QI D K (fun (r : Int32) (u : Unit) => (0 : Int) ≤ r.toInt ∧ r.toInt ≤ 255) (fun (_ : Unit) => WM K ad t)) 0 0 := by
  refine t_met RX12 ⟨rfl, by decide +kernel⟩ (Nat.le_of_ble_eq_true rfl) ?_
  intro p e s m below meth c A ls C hE hZ hr hlocks hA hP hD hS hl
  have hl : lv_has ls 2 [(0, .int x0), (1, .int x1)] := hl
  refine va_ldcwS C.1 C.2.1 C.2.2.2.1 (hE.2 24 (by decide)) dX12_nameAt_0 ?_
  refine lv_iconst (v := 4) C.1 C.2.1 dX12_nameAt_3 (by decide) ?_
  refine lv_iload_n C.1 C.2.1 dX12_nameAt_4 rfl (lv_at hl 0 rfl) ?_
  obtain ⟨v_1, e_2⟩ : ∃ z, z = (4 : Int32) * (x0 : Int32) := ⟨_, rfl⟩
  have h_3 : v_1.toInt = 4 * x0.toInt := by rw [e_2]; exact ti_mull (k := 4) (by decide) (by omega) (by omega)
  refine k_imul (v := v_1) C e_2.symm dX12_nameAt_5 ?_
  refine lv_iload_n C.1 C.2.1 dX12_nameAt_6 rfl (lv_at hl 1 rfl) ?_
  obtain ⟨v_4, e_5⟩ : ∃ z, z = (v_1 : Int32) + (x1 : Int32) := ⟨_, rfl⟩
  have h_6 : v_4.toInt = v_1.toInt + x1.toInt := by rw [e_5]; exact ti_iadd (by show (_ : Int) ≤ v_1.toInt + x1.toInt; omega) (by show v_1.toInt + x1.toInt < (_ : Int); omega)
  refine k_iadd (v := v_4) C e_5.symm dX12_nameAt_7 ?_
  refine g_Ti (As := [.int v_4]) (rest := []) C hP hD hS hA (TJ_charAt l D K Z Y (WM K ad t) 24 (by decide) v_4 (show 0 ≤ v_4.toInt ∧ v_4.toInt < sL 24 from by have hsl : sL 24 = 628 := rfl; omega)) hE hZ (uwV m_31_19 m_17_21 m_17_22 m_14_8 m_17_23) (hdV 1 (by decide +kernel) rfl) ⟨Nat.le_of_ble_eq_true rfl, Nat.le_of_ble_eq_true rfl⟩ rfl rfl (i0 := 24) (by decide) rfl rfl hl.1 (Nat.le_of_ble_eq_true rfl) dX12_nameAt_8 ⟨Nat.le_of_ble_eq_true rfl, Nat.le_of_ble_eq_true rfl⟩ (fun r_7 u_r_7 H locs hw hP hD hS => ?_)
  have er_7 : r_7 = (sByt 24).getD (v_4 : Int32).toNatClampNeg 0 := hw
  have h_8 : (32 : Int) ≤ r_7.toInt ∧ r_7.toInt ≤ 126 := by rw [er_7]; exact sByt_r 24 (by decide) (by omega) (by have hsl : sL 24 = 628 := rfl; omega)
  exact g_iret C hr hlocks hP hD hS rfl () rfl ⟨by omega, by omega⟩ (Nat.le_of_ble_eq_true rfl) (Nat.le_of_ble_eq_true rfl) dX12_nameAt_11

theorem dX12_interrupt_0 : decode cX12_interrupt 0 = .ok (.iconst 0, 1) := by decide +kernel
theorem dX12_interrupt_1 : decode cX12_interrupt 1 = .ok (.istore_n 2, 1) := by decide +kernel
theorem dX12_interrupt_10 : decode cX12_interrupt 10 = .ok (.bipush 9, 2) := by decide +kernel
theorem dX12_interrupt_12 : decode cX12_interrupt 12 = .ok (.isub, 1) := by decide +kernel
theorem dX12_interrupt_13 : decode cX12_interrupt 13 = .ok (.aload_n 0, 1) := by decide +kernel
theorem dX12_interrupt_14 : decode cX12_interrupt 14 = .ok (.getfield 17, 3) := by decide +kernel
theorem dX12_interrupt_17 : decode cX12_interrupt 17 = .ok (.iload_n 2, 1) := by decide +kernel
theorem dX12_interrupt_18 : decode cX12_interrupt 18 = .ok (.iaload, 1) := by decide +kernel
theorem dX12_interrupt_19 : decode cX12_interrupt 19 = .ok (.invokevirtual 214, 3) := by decide +kernel
theorem dX12_interrupt_2 : decode cX12_interrupt 2 = .ok (.iload_n 2, 1) := by decide +kernel
theorem dX12_interrupt_22 : decode cX12_interrupt 22 = .ok (.iinc 2 1, 3) := by decide +kernel
theorem dX12_interrupt_25 : decode cX12_interrupt 25 = .ok (.goto (-23), 3) := by decide +kernel
theorem dX12_interrupt_28 : decode cX12_interrupt 28 = .ok (.aload_n 0, 1) := by decide +kernel
theorem dX12_interrupt_29 : decode cX12_interrupt 29 = .ok (.getfield 20, 3) := by decide +kernel
theorem dX12_interrupt_3 : decode cX12_interrupt 3 = .ok (.bipush 8, 2) := by decide +kernel
theorem dX12_interrupt_32 : decode cX12_interrupt 32 = .ok (.aload_n 0, 1) := by decide +kernel
theorem dX12_interrupt_33 : decode cX12_interrupt 33 = .ok (.getfield 314, 3) := by decide +kernel
theorem dX12_interrupt_36 : decode cX12_interrupt 36 = .ok (.ifCond .eq 8, 3) := by decide +kernel
theorem dX12_interrupt_39 : decode cX12_interrupt 39 = .ok (.bipush 8, 2) := by decide +kernel
theorem dX12_interrupt_41 : decode cX12_interrupt 41 = .ok (.goto 4, 3) := by decide +kernel
theorem dX12_interrupt_44 : decode cX12_interrupt 44 = .ok (.iconst 0, 1) := by decide +kernel
theorem dX12_interrupt_45 : decode cX12_interrupt 45 = .ok (.iadd, 1) := by decide +kernel
theorem dX12_interrupt_46 : decode cX12_interrupt 46 = .ok (.istore_n 2, 1) := by decide +kernel
theorem dX12_interrupt_47 : decode cX12_interrupt 47 = .ok (.aload_n 0, 1) := by decide +kernel
theorem dX12_interrupt_48 : decode cX12_interrupt 48 = .ok (.iconst (-1), 1) := by decide +kernel
theorem dX12_interrupt_49 : decode cX12_interrupt 49 = .ok (.aload_n 0, 1) := by decide +kernel
theorem dX12_interrupt_5 : decode cX12_interrupt 5 = .ok (.if_icmp .ge 23, 3) := by decide +kernel
theorem dX12_interrupt_50 : decode cX12_interrupt 50 = .ok (.getfield 17, 3) := by decide +kernel
theorem dX12_interrupt_53 : decode cX12_interrupt 53 = .ok (.bipush 8, 2) := by decide +kernel
theorem dX12_interrupt_55 : decode cX12_interrupt 55 = .ok (.iaload, 1) := by decide +kernel
theorem dX12_interrupt_56 : decode cX12_interrupt 56 = .ok (.sipush 4095, 3) := by decide +kernel
theorem dX12_interrupt_59 : decode cX12_interrupt 59 = .ok (.iand, 1) := by decide +kernel
theorem dX12_interrupt_60 : decode cX12_interrupt 60 = .ok (.bipush 18, 2) := by decide +kernel
theorem dX12_interrupt_62 : decode cX12_interrupt 62 = .ok (.ishl, 1) := by decide +kernel
theorem dX12_interrupt_63 : decode cX12_interrupt 63 = .ok (.iload_n 2, 1) := by decide +kernel
theorem dX12_interrupt_64 : decode cX12_interrupt 64 = .ok (.bipush 12, 2) := by decide +kernel
theorem dX12_interrupt_66 : decode cX12_interrupt 66 = .ok (.ishl, 1) := by decide +kernel
theorem dX12_interrupt_67 : decode cX12_interrupt 67 = .ok (.ior, 1) := by decide +kernel
theorem dX12_interrupt_68 : decode cX12_interrupt 68 = .ok (.aload_n 0, 1) := by decide +kernel
theorem dX12_interrupt_69 : decode cX12_interrupt 69 = .ok (.getfield 378, 3) := by decide +kernel
theorem dX12_interrupt_72 : decode cX12_interrupt 72 = .ok (.ior, 1) := by decide +kernel
theorem dX12_interrupt_73 : decode cX12_interrupt 73 = .ok (.invokevirtual 214, 3) := by decide +kernel
theorem dX12_interrupt_76 : decode cX12_interrupt 76 = .ok (.aload_n 0, 1) := by decide +kernel
theorem dX12_interrupt_77 : decode cX12_interrupt 77 = .ok (.bipush (-11), 2) := by decide +kernel
theorem dX12_interrupt_79 : decode cX12_interrupt 79 = .ok (.iload_n 1, 1) := by decide +kernel
theorem dX12_interrupt_8 : decode cX12_interrupt 8 = .ok (.aload_n 0, 1) := by decide +kernel
theorem dX12_interrupt_80 : decode cX12_interrupt 80 = .ok (.invokevirtual 214, 3) := by decide +kernel
theorem dX12_interrupt_83 : decode cX12_interrupt 83 = .ok (.aload_n 0, 1) := by decide +kernel
theorem dX12_interrupt_84 : decode cX12_interrupt 84 = .ok (.iconst 1, 1) := by decide +kernel
theorem dX12_interrupt_85 : decode cX12_interrupt 85 = .ok (.putfield 241, 3) := by decide +kernel
theorem dX12_interrupt_88 : decode cX12_interrupt 88 = .ok (.aload_n 0, 1) := by decide +kernel
theorem dX12_interrupt_89 : decode cX12_interrupt 89 = .ok (.bipush (-12), 2) := by decide +kernel
theorem dX12_interrupt_9 : decode cX12_interrupt 9 = .ok (.iload_n 2, 1) := by decide +kernel
theorem dX12_interrupt_91 : decode cX12_interrupt 91 = .ok (.putfield 378, 3) := by decide +kernel
theorem dX12_interrupt_94 : decode cX12_interrupt 94 = .ok (.return_, 1) := by decide +kernel
set_option maxHeartbeats 4000000 in
set_option maxRecDepth 100000 in
theorem T_X12_interrupt (l : Launch) (D : va_G) (K : Nat → ClassId) (Z Y : Nat → Nat) (ad : Nat → Nat) (t : tSt) (hok : okM t) (x1 : Int32) (hx1 : (0 : Int) ≤ x1.toInt ∧ x1.toInt ≤ 9) : tMet l yX12_interrupt cX12_interrupt 3 none (rmD 1 0 0) D K Z Y [.ref (ad 0), .int x1] (WM K ad t) (QV D K (fun (u : tSt) => okM u ∧ frA [(0, 7), (0, 10)] [] [2] [] t u ∧ ((u.1 0 10).toInt = 1)) (fun (u : tSt) => WM K ad u)) 0 0 := by
  refine t_met RX12 ⟨rfl, by decide +kernel⟩ (Nat.le_of_ble_eq_true rfl) ?_
  intro p e s m below meth c A ls C hE hZ hr hlocks hA hP hD hS hl
  have hl : lv_has ls 3 [(0, .ref (ad 0)), (1, .int x1)] := hl
  have hokt := hok
  have hfr : frA [(0, 7), (0, 10)] [] [2] [] t t := frA_rf
  have h_1 : (0 : Int) ≤ (t.1 0 10).toInt ∧ (t.1 0 10).toInt ≤ 1 := hok.1 0 10
  have L_45 : ∀ (t1 : tSt) (w45_2 : Int32) (k45_0 : Int32) (k45_1 : Int32) (H : Heap) (locs : List Loc) (ls : Array Slot), okM t1 → frA [(0, 7), (0, 10)] [] [2] [] t t1 → (8 : Int) ≤ w45_2.toInt ∧ w45_2.toInt ≤ 8 → (0 : Int) ≤ k45_0.toInt ∧ k45_0.toInt ≤ 7 → (0 : Int) ≤ k45_1.toInt ∧ k45_1.toInt ≤ 8 → va_P D vwCl (WM K ad t1) H → va_D A (WM K ad t1) → va_S A s.heap H locs → lv_has ls 3 [(0, .ref (ad 0)), (1, .int x1), (2, .int w45_2)] → W p l e (rmD 1 0 0) s m [.ref (ad 0), .int x1].toArray below meth c H locs 0 0 (MQ below (QV D K (fun (u : tSt) => okM u ∧ frA [(0, 7), (0, 10)] [] [2] [] t u ∧ ((u.1 0 10).toInt = 1)) (fun (u : tSt) => WM K ad u) A) [.ref (ad 0), .int x1].toArray s 0 0 A) (F0 m 45 ls [.int k45_1, .int k45_0]) := by
    intro t1 w45_2 k45_0 k45_1 H locs ls hok hfr hw45_2 hk45_0 hk45_1 hP hD hS hl
    have h_2 : (0 : Int) ≤ (t1.1 0 10).toInt ∧ (t1.1 0 10).toInt ≤ 1 := hok.1 0 10
    obtain ⟨v_3, e_4⟩ : ∃ z, z = (k45_0 : Int32) + (k45_1 : Int32) := ⟨_, rfl⟩
    have h_5 : v_3.toInt = k45_0.toInt + k45_1.toInt := by rw [e_4]; exact ti_iadd (by show (_ : Int) ≤ k45_0.toInt + k45_1.toInt; omega) (by show k45_0.toInt + k45_1.toInt < (_ : Int); omega)
    refine k_iadd (v := v_3) C e_4.symm dX12_interrupt_45 ?_
    refine lv_istore_n (lv' := [(2, .int v_3), (0, .ref (ad 0)), (1, .int x1)]) C.1 C.2.1 dX12_interrupt_46 rfl hl (by decide) rfl (fun ls hl => ?_)
    have hl : lv_has ls 3 [(0, .ref (ad 0)), (1, .int x1), (2, .int v_3)] := lv_sub hl [1, 2, 0] rfl
    refine lv_aload_n C.1 C.2.1 dX12_interrupt_47 rfl (lv_at hl 0 rfl) ?_
    refine lv_iconst (v := (-1)) C.1 C.2.1 dX12_interrupt_48 (by decide) ?_
    refine lv_aload_n C.1 C.2.1 dX12_interrupt_49 rfl (lv_at hl 0 rfl) ?_
    refine k_get (v := .ref (ad 3)) C hP 0 rfl rfl inlX12 4 (by decide) m_7_6 rfl dX12_interrupt_50 ?_
    refine lv_bipush (v := 8) C.1 C.2.1 dX12_interrupt_53 (by decide) ?_
    obtain ⟨v_6, e_7⟩ : ∃ z, z = (t1.2.2.1 3 (8 : Int32).toNatClampNeg) := ⟨_, rfl⟩
    refine k_ild (v := v_6) C hP 3 rfl (vin (by decide)) e_7.symm dX12_interrupt_55 ?_
    refine lv_sipush (v := 4095) C.1 C.2.1 dX12_interrupt_56 (by decide) ?_
    obtain ⟨v_8, e_9⟩ : ∃ z, z = (v_6 : Int32) &&& (4095 : Int32) := ⟨_, rfl⟩
    have h_10 : v_8.toInt = v_6.toInt % 2 ^ 12 := by rw [e_9]; exact Jvm.Kit.i32_mask _ _ (k := 12) (by decide) (by decide)
    refine k_iand (v := v_8) C e_9.symm dX12_interrupt_59 ?_
    refine lv_bipush (v := 18) C.1 C.2.1 dX12_interrupt_60 (by decide) ?_
    obtain ⟨v_11, e_12⟩ : ∃ z, z = (v_8 : Int32) <<< ((18 : Int32) &&& 31) := ⟨_, rfl⟩
    have h_13 : v_11.toInt = v_8.toInt * 2 ^ 18 := by rw [e_12]; exact Jvm.Kit.i32_shl _ _ (k := 18) (by decide) (by omega) (by omega)
    refine k_ishl (v := v_11) C e_12.symm dX12_interrupt_62 ?_
    refine lv_iload_n C.1 C.2.1 dX12_interrupt_63 rfl (lv_at hl 2 rfl) ?_
    refine lv_bipush (v := 12) C.1 C.2.1 dX12_interrupt_64 (by decide) ?_
    obtain ⟨v_14, e_15⟩ : ∃ z, z = (v_3 : Int32) <<< ((12 : Int32) &&& 31) := ⟨_, rfl⟩
    have h_16 : v_14.toInt = v_3.toInt * 2 ^ 12 := by rw [e_15]; exact Jvm.Kit.i32_shl _ _ (k := 12) (by decide) (by omega) (by omega)
    refine k_ishl (v := v_14) C e_15.symm dX12_interrupt_66 ?_
    obtain ⟨v_17, e_18⟩ : ∃ z, z = (v_11 : Int32) ||| (v_14 : Int32) := ⟨_, rfl⟩
    have h_19 : (0 : Int) ≤ v_17.toInt ∧ v_17.toInt ≤ 1073741823 := by rw [e_18]; exact z_or (k := 30) (by decide) (by show (0 : Int) ≤ v_11.toInt; omega) (by show v_11.toInt < (_ : Int); omega) (by show (0 : Int) ≤ v_14.toInt; omega) (by show v_14.toInt < (_ : Int); omega)
    refine k_ior (v := v_17) C e_18.symm dX12_interrupt_67 ?_
    refine lv_aload_n C.1 C.2.1 dX12_interrupt_68 rfl (lv_at hl 0 rfl) ?_
    refine k_get (v := .int (t1.1 0 7)) C hP 0 rfl rfl inlX12 7 (by decide) m_29_22 rfl dX12_interrupt_69 ?_
    obtain ⟨v_20, e_21⟩ : ∃ z, z = (v_17 : Int32) ||| ((t1.1 0 7) : Int32) := ⟨_, rfl⟩
    refine k_ior (v := v_20) C e_21.symm dX12_interrupt_72 ?_
    refine g_Vv (As := [.int (-1), .int v_20]) (rest := []) C hP hD hS hA (T_X12_setMemory l D K Z Y ad t1 hok (-1) (show (-3999 : Int) ≤ ((-1) : Int32).toInt ∧ ((-1) : Int32).toInt ≤ 3999 from ⟨by decide, by decide⟩) (v_20)) hE hZ (uwV m_38_15 m_38_16 m_38_17 m_1_5 m_38_18) (hdV 2 (by decide +kernel) rfl) ⟨Nat.le_of_ble_eq_true rfl, Nat.le_of_ble_eq_true rfl⟩ rfl rfl (ci := 11) (q0 := 0) rfl rfl rfl hl.1 (Nat.le_of_ble_eq_true rfl) dX12_interrupt_73 ⟨Nat.le_of_ble_eq_true rfl, Nat.le_of_ble_eq_true rfl⟩ (fun t_23 H locs hw hP hD hS => ?_)
    obtain ⟨hok, f_25⟩ := hw
    have hfr : frA [(0, 7), (0, 10)] [] [2] [] t t_23 := frA_tr hfr f_25 rfl
    have h_26 : (t_23.1 0 7).toInt = (t1.1 0 7).toInt := ti_eq (f_25.1 0 7 rfl)
    have h_27 : (t_23.1 0 10).toInt = (t1.1 0 10).toInt := ti_eq (f_25.1 0 10 rfl)
    have h_28 : (0 : Int) ≤ (t_23.1 0 10).toInt ∧ (t_23.1 0 10).toInt ≤ 1 := hok.1 0 10
    refine lv_aload_n C.1 C.2.1 dX12_interrupt_76 rfl (lv_at hl 0 rfl) ?_
    refine lv_bipush (v := (-11)) C.1 C.2.1 dX12_interrupt_77 (by decide) ?_
    refine lv_iload_n C.1 C.2.1 dX12_interrupt_79 rfl (lv_at hl 1 rfl) ?_
    refine g_Vv (As := [.int (-11), .int x1]) (rest := []) C hP hD hS hA (T_X12_setMemory l D K Z Y ad t_23 hok (-11) (show (-3999 : Int) ≤ ((-11) : Int32).toInt ∧ ((-11) : Int32).toInt ≤ 3999 from ⟨by decide, by decide⟩) (x1)) hE hZ (uwV m_38_15 m_38_16 m_38_17 m_1_5 m_38_18) (hdV 2 (by decide +kernel) rfl) ⟨Nat.le_of_ble_eq_true rfl, Nat.le_of_ble_eq_true rfl⟩ rfl rfl (ci := 11) (q0 := 0) rfl rfl rfl hl.1 (Nat.le_of_ble_eq_true rfl) dX12_interrupt_80 ⟨Nat.le_of_ble_eq_true rfl, Nat.le_of_ble_eq_true rfl⟩ (fun t_29 H locs hw hP hD hS => ?_)
    obtain ⟨hok, f_31⟩ := hw
    have hfr : frA [(0, 7), (0, 10)] [] [2] [] t t_29 := frA_tr hfr f_31 rfl
    have h_32 : (t_29.1 0 7).toInt = (t_23.1 0 7).toInt := ti_eq (f_31.1 0 7 rfl)
    have h_33 : (t_29.1 0 10).toInt = (t_23.1 0 10).toInt := ti_eq (f_31.1 0 10 rfl)
    have h_34 : (0 : Int) ≤ (t_29.1 0 10).toInt ∧ (t_29.1 0 10).toInt ≤ 1 := hok.1 0 10
    refine lv_aload_n C.1 C.2.1 dX12_interrupt_83 rfl (lv_at hl 0 rfl) ?_
    refine lv_iconst (v := 1) C.1 C.2.1 dX12_interrupt_84 (by decide) ?_
    refine k_put (ws' := WM K ad (uI t_29 0 10 1)) (v := .int 1) C hP hD hS 0 rfl rfl inlX12 tyX12_ok nmX12 10 (by decide) m_30_0 rfl (by decide) (by decide) rfl rfl dX12_interrupt_85 (fun H locs hP hD hS => ?_)
    have hok : okM (uI t_29 0 10 1) := ⟨okI_I hok.1 0 10 1 (show (0 : Int) ≤ (1 : Int32).toInt ∧ (1 : Int32).toInt ≤ 1 from ⟨by decide, by decide⟩), hok.2.1, hok.2.2.1, hok.2.2.2.1, hok.2.2.2.2.1, hok.2.2.2.2.2.1, hok.2.2.2.2.2.2.1, trivial⟩
    have hfr : frA [(0, 7), (0, 10)] [] [2] [] t (uI t_29 0 10 1) := frA_I hfr 0 10 _ rfl
    refine lv_aload_n C.1 C.2.1 dX12_interrupt_88 rfl (lv_at hl 0 rfl) ?_
    refine lv_bipush (v := (-12)) C.1 C.2.1 dX12_interrupt_89 (by decide) ?_
    refine k_put (ws' := WM K ad (uI (uI t_29 0 10 1) 0 7 (-12))) (v := .int (-12)) C hP hD hS 0 rfl rfl inlX12 tyX12_ok nmX12 7 (by decide) m_29_22 rfl rfl rfl rfl rfl dX12_interrupt_91 (fun H locs hP hD hS => ?_)
    have hok : okM (uI (uI t_29 0 10 1) 0 7 (-12)) := ⟨okI_I hok.1 0 7 (-12) (show (-2147483648 : Int) ≤ ((-12) : Int32).toInt ∧ ((-12) : Int32).toInt ≤ 2147483647 from (i_rng _)), hok.2.1, hok.2.2.1, hok.2.2.2.1, hok.2.2.2.2.1, hok.2.2.2.2.2.1, hok.2.2.2.2.2.2.1, trivial⟩
    have hfr : frA [(0, 7), (0, 10)] [] [2] [] t (uI (uI t_29 0 10 1) 0 7 (-12)) := frA_I hfr 0 7 _ rfl
    exact g_vret C hr hlocks hP hD hS (uI (uI t_29 0 10 1) 0 7 (-12)) rfl ⟨hok, hfr, (show 1 = 1 from by omega)⟩ (Nat.le_of_ble_eq_true rfl) (Nat.le_of_ble_eq_true rfl) dX12_interrupt_94
  have L_2 : ∀ (fuel_2 : Nat) (t1 : tSt) (w2_2 : Int32) (H : Heap) (locs : List Loc) (ls : Array Slot), okM t1 → frA [(0, 7), (0, 10)] [] [2] [] t t1 → (0 : Int) ≤ w2_2.toInt ∧ w2_2.toInt ≤ 8 → (8 : Int) - w2_2.toInt < (fuel_2 : Int) → va_P D vwCl (WM K ad t1) H → va_D A (WM K ad t1) → va_S A s.heap H locs → lv_has ls 3 [(0, .ref (ad 0)), (1, .int x1), (2, .int w2_2)] → W p l e (rmD 1 0 0) s m [.ref (ad 0), .int x1].toArray below meth c H locs 0 0 (MQ below (QV D K (fun (u : tSt) => okM u ∧ frA [(0, 7), (0, 10)] [] [2] [] t u ∧ ((u.1 0 10).toInt = 1)) (fun (u : tSt) => WM K ad u) A) [.ref (ad 0), .int x1].toArray s 0 0 A) (F0 m 2 ls []) := by
    intro fuel_2
    induction fuel_2 with
    | zero =>
      intro t1 w2_2 H locs ls hok hfr hw2_2 hm2_2 hP hD hS hl
      have h_35 : (0 : Int) ≤ (t1.1 0 10).toInt ∧ (t1.1 0 10).toInt ≤ 1 := hok.1 0 10
      exact absurd hm2_2 (by omega)
    | succ fuel_2 ih_2 =>
      intro t1 w2_2 H locs ls hok hfr hw2_2 hm2_2 hP hD hS hl
      have hm2_2 : (8 : Int) - w2_2.toInt < (fuel_2 : Int) + 1 := by omega
      have h_36 : (0 : Int) ≤ (t1.1 0 10).toInt ∧ (t1.1 0 10).toInt ≤ 1 := hok.1 0 10
      refine lv_iload_n C.1 C.2.1 dX12_interrupt_2 rfl (lv_at hl 2 rfl) ?_
      refine lv_bipush (v := 8) C.1 C.2.1 dX12_interrupt_3 (by decide) ?_
      refine lv_icmp_ge (tgt := 28) C.1 C.2.1 dX12_interrupt_5 (by decide) (fun c_37 => ?_) (fun c_37 => ?_)
      · replace c_37 : 8 ≤ w2_2.toInt := i_le c_37
        refine lv_aload_n C.1 C.2.1 dX12_interrupt_28 rfl (lv_at hl 0 rfl) ?_
        have h_38 : (0 : Int) ≤ (t1.1 0 6).toInt ∧ (t1.1 0 6).toInt ≤ 7 := hok.1 0 6
        refine k_get (v := .int (t1.1 0 6)) C hP 0 rfl rfl inlX12 6 (by decide) m_7_7 rfl dX12_interrupt_29 ?_
        refine lv_aload_n C.1 C.2.1 dX12_interrupt_32 rfl (lv_at hl 0 rfl) ?_
        have h_39 : (0 : Int) ≤ (t1.1 0 5).toInt ∧ (t1.1 0 5).toInt ≤ 1 := hok.1 0 5
        refine k_get (v := .int (t1.1 0 5)) C hP 0 rfl rfl inlX12 5 (by decide) m_29_21 rfl dX12_interrupt_33 ?_
        refine lv_if_eq (tgt := 44) C.1 C.2.1 dX12_interrupt_36 (by decide) (fun c_40 => ?_) (fun c_40 => ?_)
        · replace c_40 : (t1.1 0 5).toInt = 0 := i_eq c_40
          refine lv_iconst (v := 0) C.1 C.2.1 dX12_interrupt_44 (by decide) ?_
          exact L_45 t1 w2_2 (t1.1 0 6) 0 _ _ _ hok hfr ⟨by omega, by omega⟩ ⟨by omega, by omega⟩ ⟨by decide, by decide⟩ hP hD hS (lv_sub hl [0, 1, 2] rfl)
        · replace c_40 : ¬ (t1.1 0 5).toInt = 0 := i_ne c_40
          refine lv_bipush (v := 8) C.1 C.2.1 dX12_interrupt_39 (by decide) ?_
          refine lv_goto (tgt := 45) C.1 C.2.1 dX12_interrupt_41 (by decide) ?_
          exact L_45 t1 w2_2 (t1.1 0 6) 8 _ _ _ hok hfr ⟨by omega, by omega⟩ ⟨by omega, by omega⟩ ⟨by decide, by decide⟩ hP hD hS (lv_sub hl [0, 1, 2] rfl)
      · replace c_37 : w2_2.toInt < 8 := i_nle c_37
        refine lv_aload_n C.1 C.2.1 dX12_interrupt_8 rfl (lv_at hl 0 rfl) ?_
        refine lv_iload_n C.1 C.2.1 dX12_interrupt_9 rfl (lv_at hl 2 rfl) ?_
        refine lv_bipush (v := 9) C.1 C.2.1 dX12_interrupt_10 (by decide) ?_
        obtain ⟨v_41, e_42⟩ : ∃ z, z = (w2_2 : Int32) - (9 : Int32) := ⟨_, rfl⟩
        have h_43 : v_41.toInt = w2_2.toInt - 9 := by rw [e_42]; exact ti_isub (by show (_ : Int) ≤ w2_2.toInt - 9; omega) (by show w2_2.toInt - 9 < (_ : Int); omega)
        refine k_isub (v := v_41) C e_42.symm dX12_interrupt_12 ?_
        refine lv_aload_n C.1 C.2.1 dX12_interrupt_13 rfl (lv_at hl 0 rfl) ?_
        refine k_get (v := .ref (ad 3)) C hP 0 rfl rfl inlX12 4 (by decide) m_7_6 rfl dX12_interrupt_14 ?_
        refine lv_iload_n C.1 C.2.1 dX12_interrupt_17 rfl (lv_at hl 2 rfl) ?_
        obtain ⟨v_44, e_45⟩ : ∃ z, z = (t1.2.2.1 3 (w2_2 : Int32).toNatClampNeg) := ⟨_, rfl⟩
        refine k_ild (v := v_44) C hP 3 rfl (vp_in_iff.mpr ⟨by omega, by omega⟩) e_45.symm dX12_interrupt_18 ?_
        refine g_Vv (As := [.int v_41, .int v_44]) (rest := []) C hP hD hS hA (T_X12_setMemory l D K Z Y ad t1 hok (v_41) (show (-3999 : Int) ≤ (v_41 : Int32).toInt ∧ (v_41 : Int32).toInt ≤ 3999 from ⟨by omega, by omega⟩) (v_44)) hE hZ (uwV m_38_15 m_38_16 m_38_17 m_1_5 m_38_18) (hdV 2 (by decide +kernel) rfl) ⟨Nat.le_of_ble_eq_true rfl, Nat.le_of_ble_eq_true rfl⟩ rfl rfl (ci := 11) (q0 := 0) rfl rfl rfl hl.1 (Nat.le_of_ble_eq_true rfl) dX12_interrupt_19 ⟨Nat.le_of_ble_eq_true rfl, Nat.le_of_ble_eq_true rfl⟩ (fun t_46 H locs hw hP hD hS => ?_)
        obtain ⟨hok, f_48⟩ := hw
        have hfr : frA [(0, 7), (0, 10)] [] [2] [] t t_46 := frA_tr hfr f_48 rfl
        have h_49 : (t_46.1 0 10).toInt = (t1.1 0 10).toInt := ti_eq (f_48.1 0 10 rfl)
        have h_50 : (0 : Int) ≤ (t_46.1 0 10).toInt ∧ (t_46.1 0 10).toInt ≤ 1 := hok.1 0 10
        obtain ⟨v_51, e_52⟩ : ∃ z, z = w2_2 + 1 := ⟨_, rfl⟩
        have h_53 : v_51.toInt = w2_2.toInt + 1 := by rw [e_52]; exact ti_iadd (by show (_ : Int) ≤ w2_2.toInt + 1; omega) (by show w2_2.toInt + 1 < (_ : Int); omega)
        refine lv_iinc (v := v_51) (lv' := [(2, .int v_51), (0, .ref (ad 0)), (1, .int x1)]) C.1 C.2.1 dX12_interrupt_22 hl (k := 2) rfl e_52.symm (by decide) rfl (fun ls hl => ?_)
        have hl : lv_has ls 3 [(0, .ref (ad 0)), (1, .int x1), (2, .int v_51)] := lv_sub hl [1, 2, 0] rfl
        refine lv_goto (tgt := 2) C.1 C.2.1 dX12_interrupt_25 (by decide) ?_
        exact ih_2 t_46 v_51 _ _ _ hok hfr ⟨by omega, by omega⟩ (show (8 : Int) - v_51.toInt < (fuel_2 : Int) from by omega) hP hD hS (lv_sub hl [0, 1, 2] rfl)
  refine lv_iconst (v := 0) C.1 C.2.1 dX12_interrupt_0 (by decide) ?_
  refine lv_istore_n (lv' := [(2, .int 0), (0, .ref (ad 0)), (1, .int x1)]) C.1 C.2.1 dX12_interrupt_1 rfl hl (by decide) rfl (fun ls hl => ?_)
  have hl : lv_has ls 3 [(0, .ref (ad 0)), (1, .int x1), (2, .int 0)] := lv_sub hl [1, 2, 0] rfl
  exact L_2 9 t 0 _ _ _ hok hfr ⟨by decide, by decide⟩ (show (8 : Int) - 0 < ((9 : Nat) : Int) from by omega) hP hD hS (lv_sub hl [0, 1, 2] rfl)

theorem dX12_areHere_0 : decode cX12_areHere 0 = .ok (.iload_n 2, 1) := by decide +kernel
theorem dX12_areHere_1 : decode cX12_areHere 1 = .ok (.iconst 1, 1) := by decide +kernel
theorem dX12_areHere_10 : decode cX12_areHere 10 = .ok (.ifCond .eq 19, 3) := by decide +kernel
theorem dX12_areHere_13 : decode cX12_areHere 13 = .ok (.aload_n 0, 1) := by decide +kernel
theorem dX12_areHere_14 : decode cX12_areHere 14 = .ok (.iload_n 1, 1) := by decide +kernel
theorem dX12_areHere_15 : decode cX12_areHere 15 = .ok (.iload_n 2, 1) := by decide +kernel
theorem dX12_areHere_16 : decode cX12_areHere 16 = .ok (.iadd, 1) := by decide +kernel
theorem dX12_areHere_17 : decode cX12_areHere 17 = .ok (.iconst 1, 1) := by decide +kernel
theorem dX12_areHere_18 : decode cX12_areHere 18 = .ok (.isub, 1) := by decide +kernel
theorem dX12_areHere_19 : decode cX12_areHere 19 = .ok (.invokevirtual 295, 3) := by decide +kernel
theorem dX12_areHere_2 : decode cX12_areHere 2 = .ok (.if_icmp .lt 23, 3) := by decide +kernel
theorem dX12_areHere_22 : decode cX12_areHere 22 = .ok (.ifCond .eq 7, 3) := by decide +kernel
theorem dX12_areHere_25 : decode cX12_areHere 25 = .ok (.iconst 1, 1) := by decide +kernel
theorem dX12_areHere_26 : decode cX12_areHere 26 = .ok (.goto 4, 3) := by decide +kernel
theorem dX12_areHere_29 : decode cX12_areHere 29 = .ok (.iconst 0, 1) := by decide +kernel
theorem dX12_areHere_30 : decode cX12_areHere 30 = .ok (.ireturn, 1) := by decide +kernel
theorem dX12_areHere_5 : decode cX12_areHere 5 = .ok (.aload_n 0, 1) := by decide +kernel
theorem dX12_areHere_6 : decode cX12_areHere 6 = .ok (.iload_n 1, 1) := by decide +kernel
theorem dX12_areHere_7 : decode cX12_areHere 7 = .ok (.invokevirtual 295, 3) := by decide +kernel
set_option maxHeartbeats 4000000 in
set_option maxRecDepth 100000 in
theorem T_X12_areHere (l : Launch) (D : va_G) (K : Nat → ClassId) (Z Y : Nat → Nat) (ad : Nat → Nat) (t : tSt) (hok : okM t) (x1 : Int32) (x2 : Int32) (hx2 : (0 : Int) ≤ x2.toInt ∧ x2.toInt ≤ 100) : tMet l yX12_areHere cX12_areHere 3 (some .boolean) (rmD 1 0 0) D K Z Y [.ref (ad 0), .int x1, .int x2] (WM K ad t) (QI D K (fun (r : Int32) (u : Unit) => (0 : Int) ≤ r.toInt ∧ r.toInt ≤ 1 ∧ (r.toInt = 1 → x2.toInt < 1 ∨ (-3999 ≤ x1.toInt ∧ x1.toInt + x2.toInt ≤ 4000))) (fun (_ : Unit) => WM K ad t)) 0 0 := by
  refine t_met RX12 ⟨rfl, by decide +kernel⟩ (Nat.le_of_ble_eq_true rfl) ?_
  intro p e s m below meth c A ls C hE hZ hr hlocks hA hP hD hS hl
  have hl : lv_has ls 3 [(0, .ref (ad 0)), (1, .int x1), (2, .int x2)] := hl
  have h_1 : (0 : Int) ≤ (t.1 0 10).toInt ∧ (t.1 0 10).toInt ≤ 1 := hok.1 0 10
  refine lv_iload_n C.1 C.2.1 dX12_areHere_0 rfl (lv_at hl 2 rfl) ?_
  refine lv_iconst (v := 1) C.1 C.2.1 dX12_areHere_1 (by decide) ?_
  refine lv_icmp_lt (tgt := 25) C.1 C.2.1 dX12_areHere_2 (by decide) (fun c_2 => ?_) (fun c_2 => ?_)
  · replace c_2 : x2.toInt < 1 := i_lt c_2
    refine lv_iconst (v := 1) C.1 C.2.1 dX12_areHere_25 (by decide) ?_
    refine lv_goto (tgt := 30) C.1 C.2.1 dX12_areHere_26 (by decide) ?_
    exact g_iret C hr hlocks hP hD hS (by decide) () rfl ⟨by decide, by decide, (show 1 = 1 → x2.toInt < 1 ∨ (-3999 ≤ x1.toInt ∧ x1.toInt + x2.toInt ≤ 4000) from by omega)⟩ (Nat.le_of_ble_eq_true rfl) (Nat.le_of_ble_eq_true rfl) dX12_areHere_30
  · replace c_2 : 1 ≤ x2.toInt := i_nlt c_2
    refine lv_aload_n C.1 C.2.1 dX12_areHere_5 rfl (lv_at hl 0 rfl) ?_
    refine lv_iload_n C.1 C.2.1 dX12_areHere_6 rfl (lv_at hl 1 rfl) ?_
    refine g_Vi (As := [.int x1]) (rest := []) C hP hD hS hA (T_X12_isHere l D K Z Y ad t hok (x1)) hE hZ (uwV m_57_7 m_57_8 m_57_9 m_1_5 m_57_10) (hdV 1 (by decide +kernel) rfl) ⟨Nat.le_of_ble_eq_true rfl, Nat.le_of_ble_eq_true rfl⟩ rfl rfl (ci := 11) (q0 := 0) rfl rfl rfl hl.1 (Nat.le_of_ble_eq_true rfl) dX12_areHere_7 ⟨Nat.le_of_ble_eq_true rfl, Nat.le_of_ble_eq_true rfl⟩ (fun r_4 t_3 H locs hw hP hD hS => ?_)
    obtain ⟨h_6, h_7, p_8, p_9⟩ := hw
    replace p_8 : r_4.toInt = 1 → -3999 ≤ x1.toInt ∧ x1.toInt ≤ 3999 := p_8
    replace p_9 : r_4.toInt = 1 → (t.1 0 10).toInt = 0 → 0 ≤ x1.toInt := p_9
    refine lv_if_eq (tgt := 29) C.1 C.2.1 dX12_areHere_10 (by decide) (fun c_10 => ?_) (fun c_10 => ?_)
    · replace c_10 : r_4.toInt = 0 := i_eq c_10
      refine lv_iconst (v := 0) C.1 C.2.1 dX12_areHere_29 (by decide) ?_
      exact g_iret C hr hlocks hP hD hS (by decide) () rfl ⟨by decide, by decide, (show 0 = 1 → x2.toInt < 1 ∨ (-3999 ≤ x1.toInt ∧ x1.toInt + x2.toInt ≤ 4000) from by omega)⟩ (Nat.le_of_ble_eq_true rfl) (Nat.le_of_ble_eq_true rfl) dX12_areHere_30
    · replace c_10 : ¬ r_4.toInt = 0 := i_ne c_10
      refine lv_aload_n C.1 C.2.1 dX12_areHere_13 rfl (lv_at hl 0 rfl) ?_
      refine lv_iload_n C.1 C.2.1 dX12_areHere_14 rfl (lv_at hl 1 rfl) ?_
      refine lv_iload_n C.1 C.2.1 dX12_areHere_15 rfl (lv_at hl 2 rfl) ?_
      obtain ⟨v_11, e_12⟩ : ∃ z, z = (x1 : Int32) + (x2 : Int32) := ⟨_, rfl⟩
      have h_13 : v_11.toInt = x1.toInt + x2.toInt := by rw [e_12]; exact ti_iadd (by show (_ : Int) ≤ x1.toInt + x2.toInt; omega) (by show x1.toInt + x2.toInt < (_ : Int); omega)
      refine k_iadd (v := v_11) C e_12.symm dX12_areHere_16 ?_
      refine lv_iconst (v := 1) C.1 C.2.1 dX12_areHere_17 (by decide) ?_
      obtain ⟨v_14, e_15⟩ : ∃ z, z = (v_11 : Int32) - (1 : Int32) := ⟨_, rfl⟩
      have h_16 : v_14.toInt = v_11.toInt - 1 := by rw [e_15]; exact ti_isub (by show (_ : Int) ≤ v_11.toInt - 1; omega) (by show v_11.toInt - 1 < (_ : Int); omega)
      refine k_isub (v := v_14) C e_15.symm dX12_areHere_18 ?_
      refine g_Vi (As := [.int v_14]) (rest := []) C hP hD hS hA (T_X12_isHere l D K Z Y ad t hok (v_14)) hE hZ (uwV m_57_7 m_57_8 m_57_9 m_1_5 m_57_10) (hdV 1 (by decide +kernel) rfl) ⟨Nat.le_of_ble_eq_true rfl, Nat.le_of_ble_eq_true rfl⟩ rfl rfl (ci := 11) (q0 := 0) rfl rfl rfl hl.1 (Nat.le_of_ble_eq_true rfl) dX12_areHere_19 ⟨Nat.le_of_ble_eq_true rfl, Nat.le_of_ble_eq_true rfl⟩ (fun r_18 t_17 H locs hw hP hD hS => ?_)
      obtain ⟨h_20, h_21, p_22, p_23⟩ := hw
      replace p_22 : r_18.toInt = 1 → -3999 ≤ v_14.toInt ∧ v_14.toInt ≤ 3999 := p_22
      replace p_23 : r_18.toInt = 1 → (t.1 0 10).toInt = 0 → 0 ≤ v_14.toInt := p_23
      refine lv_if_eq (tgt := 29) C.1 C.2.1 dX12_areHere_22 (by decide) (fun c_24 => ?_) (fun c_24 => ?_)
      · replace c_24 : r_18.toInt = 0 := i_eq c_24
        refine lv_iconst (v := 0) C.1 C.2.1 dX12_areHere_29 (by decide) ?_
        exact g_iret C hr hlocks hP hD hS (by decide) () rfl ⟨by decide, by decide, (show 0 = 1 → x2.toInt < 1 ∨ (-3999 ≤ x1.toInt ∧ x1.toInt + x2.toInt ≤ 4000) from by omega)⟩ (Nat.le_of_ble_eq_true rfl) (Nat.le_of_ble_eq_true rfl) dX12_areHere_30
      · replace c_24 : ¬ r_18.toInt = 0 := i_ne c_24
        refine lv_iconst (v := 1) C.1 C.2.1 dX12_areHere_25 (by decide) ?_
        refine lv_goto (tgt := 30) C.1 C.2.1 dX12_areHere_26 (by decide) ?_
        exact g_iret C hr hlocks hP hD hS (by decide) () rfl ⟨by decide, by decide, (show 1 = 1 → x2.toInt < 1 ∨ (-3999 ≤ x1.toInt ∧ x1.toInt + x2.toInt ≤ 4000) from by omega)⟩ (Nat.le_of_ble_eq_true rfl) (Nat.le_of_ble_eq_true rfl) dX12_areHere_30

theorem dX12_hasField_0 : decode cX12_hasField 0 = .ok (.aload_n 0, 1) := by decide +kernel
theorem dX12_hasField_1 : decode cX12_hasField 1 = .ok (.getfield 282, 3) := by decide +kernel
theorem dX12_hasField_11 : decode cX12_hasField 11 = .ok (.iconst 5, 1) := by decide +kernel
theorem dX12_hasField_12 : decode cX12_hasField 12 = .ok (.if_icmp .lt 30, 3) := by decide +kernel
theorem dX12_hasField_15 : decode cX12_hasField 15 = .ok (.aload_n 0, 1) := by decide +kernel
theorem dX12_hasField_16 : decode cX12_hasField 16 = .ok (.getfield 282, 3) := by decide +kernel
theorem dX12_hasField_19 : decode cX12_hasField 19 = .ok (.bipush 7, 2) := by decide +kernel
theorem dX12_hasField_21 : decode cX12_hasField 21 = .ok (.if_icmp .le 12, 3) := by decide +kernel
theorem dX12_hasField_24 : decode cX12_hasField 24 = .ok (.aload_n 0, 1) := by decide +kernel
theorem dX12_hasField_25 : decode cX12_hasField 25 = .ok (.getfield 282, 3) := by decide +kernel
theorem dX12_hasField_28 : decode cX12_hasField 28 = .ok (.bipush 34, 2) := by decide +kernel
theorem dX12_hasField_30 : decode cX12_hasField 30 = .ok (.if_icmp .lt 12, 3) := by decide +kernel
theorem dX12_hasField_33 : decode cX12_hasField 33 = .ok (.aload_n 0, 1) := by decide +kernel
theorem dX12_hasField_34 : decode cX12_hasField 34 = .ok (.getfield 282, 3) := by decide +kernel
theorem dX12_hasField_37 : decode cX12_hasField 37 = .ok (.bipush 55, 2) := by decide +kernel
theorem dX12_hasField_39 : decode cX12_hasField 39 = .ok (.if_icmp .le 7, 3) := by decide +kernel
theorem dX12_hasField_4 : decode cX12_hasField 4 = .ok (.ifCond .le 11, 3) := by decide +kernel
theorem dX12_hasField_42 : decode cX12_hasField 42 = .ok (.iconst 1, 1) := by decide +kernel
theorem dX12_hasField_43 : decode cX12_hasField 43 = .ok (.goto 4, 3) := by decide +kernel
theorem dX12_hasField_46 : decode cX12_hasField 46 = .ok (.iconst 0, 1) := by decide +kernel
theorem dX12_hasField_47 : decode cX12_hasField 47 = .ok (.ireturn, 1) := by decide +kernel
theorem dX12_hasField_7 : decode cX12_hasField 7 = .ok (.aload_n 0, 1) := by decide +kernel
theorem dX12_hasField_8 : decode cX12_hasField 8 = .ok (.getfield 282, 3) := by decide +kernel
set_option maxHeartbeats 4000000 in
set_option maxRecDepth 100000 in
theorem T_X12_hasField (l : Launch) (D : va_G) (K : Nat → ClassId) (Z Y : Nat → Nat) (ad : Nat → Nat) (t : tSt) (hok : okM t)  : tMet l yX12_hasField cX12_hasField 1 (some .boolean) (rmD 0 0 0) D K Z Y [.ref (ad 0)] (WM K ad t) (QI D K (fun (r : Int32) (u : Unit) => (0 : Int) ≤ r.toInt ∧ r.toInt ≤ 1) (fun (_ : Unit) => WM K ad t)) 0 0 := by
  refine t_met RX12 ⟨rfl, by decide +kernel⟩ (Nat.le_of_ble_eq_true rfl) ?_
  intro p e s m below meth c A ls C hE hZ hr hlocks hA hP hD hS hl
  have hl : lv_has ls 1 [(0, .ref (ad 0))] := hl
  have L_33 : ∀  (H : Heap) (locs : List Loc) (ls : Array Slot), va_P D vwCl (WM K ad t) H → va_D A (WM K ad t) → va_S A s.heap H locs → lv_has ls 1 [(0, .ref (ad 0))] → W p l e (rmD 0 0 0) s m [.ref (ad 0)].toArray below meth c H locs 0 0 (MQ below (QI D K (fun (r : Int32) (u : Unit) => (0 : Int) ≤ r.toInt ∧ r.toInt ≤ 1) (fun (_ : Unit) => WM K ad t) A) [.ref (ad 0)].toArray s 0 0 A) (F0 m 33 ls []) := by
    intro  H locs ls  hP hD hS hl
    refine lv_aload_n C.1 C.2.1 dX12_hasField_33 rfl (lv_at hl 0 rfl) ?_
    have h_1 : (0 : Int) ≤ (t.1 0 16).toInt ∧ (t.1 0 16).toInt ≤ 63 := hok.1 0 16
    refine k_get (v := .int (t.1 0 16)) C hP 0 rfl rfl inlX12 16 (by decide) m_57_3 rfl dX12_hasField_34 ?_
    refine lv_bipush (v := 55) C.1 C.2.1 dX12_hasField_37 (by decide) ?_
    refine lv_icmp_le (tgt := 46) C.1 C.2.1 dX12_hasField_39 (by decide) (fun c_2 => ?_) (fun c_2 => ?_)
    · replace c_2 : (t.1 0 16).toInt ≤ 55 := i_le c_2
      refine lv_iconst (v := 0) C.1 C.2.1 dX12_hasField_46 (by decide) ?_
      exact g_iret C hr hlocks hP hD hS (by decide) () rfl ⟨by decide, by decide⟩ (Nat.le_of_ble_eq_true rfl) (Nat.le_of_ble_eq_true rfl) dX12_hasField_47
    · replace c_2 : 55 < (t.1 0 16).toInt := i_nle c_2
      refine lv_iconst (v := 1) C.1 C.2.1 dX12_hasField_42 (by decide) ?_
      refine lv_goto (tgt := 47) C.1 C.2.1 dX12_hasField_43 (by decide) ?_
      exact g_iret C hr hlocks hP hD hS (by decide) () rfl ⟨by decide, by decide⟩ (Nat.le_of_ble_eq_true rfl) (Nat.le_of_ble_eq_true rfl) dX12_hasField_47
  have L_15 : ∀  (H : Heap) (locs : List Loc) (ls : Array Slot), va_P D vwCl (WM K ad t) H → va_D A (WM K ad t) → va_S A s.heap H locs → lv_has ls 1 [(0, .ref (ad 0))] → W p l e (rmD 0 0 0) s m [.ref (ad 0)].toArray below meth c H locs 0 0 (MQ below (QI D K (fun (r : Int32) (u : Unit) => (0 : Int) ≤ r.toInt ∧ r.toInt ≤ 1) (fun (_ : Unit) => WM K ad t) A) [.ref (ad 0)].toArray s 0 0 A) (F0 m 15 ls []) := by
    intro  H locs ls  hP hD hS hl
    refine lv_aload_n C.1 C.2.1 dX12_hasField_15 rfl (lv_at hl 0 rfl) ?_
    have h_3 : (0 : Int) ≤ (t.1 0 16).toInt ∧ (t.1 0 16).toInt ≤ 63 := hok.1 0 16
    refine k_get (v := .int (t.1 0 16)) C hP 0 rfl rfl inlX12 16 (by decide) m_57_3 rfl dX12_hasField_16 ?_
    refine lv_bipush (v := 7) C.1 C.2.1 dX12_hasField_19 (by decide) ?_
    refine lv_icmp_le (tgt := 33) C.1 C.2.1 dX12_hasField_21 (by decide) (fun c_4 => ?_) (fun c_4 => ?_)
    · replace c_4 : (t.1 0 16).toInt ≤ 7 := i_le c_4
      exact L_33  _ _ _  hP hD hS (lv_sub hl [0] rfl)
    · replace c_4 : 7 < (t.1 0 16).toInt := i_nle c_4
      refine lv_aload_n C.1 C.2.1 dX12_hasField_24 rfl (lv_at hl 0 rfl) ?_
      refine k_get (v := .int (t.1 0 16)) C hP 0 rfl rfl inlX12 16 (by decide) m_57_3 rfl dX12_hasField_25 ?_
      refine lv_bipush (v := 34) C.1 C.2.1 dX12_hasField_28 (by decide) ?_
      refine lv_icmp_lt (tgt := 42) C.1 C.2.1 dX12_hasField_30 (by decide) (fun c_5 => ?_) (fun c_5 => ?_)
      · replace c_5 : (t.1 0 16).toInt < 34 := i_lt c_5
        refine lv_iconst (v := 1) C.1 C.2.1 dX12_hasField_42 (by decide) ?_
        refine lv_goto (tgt := 47) C.1 C.2.1 dX12_hasField_43 (by decide) ?_
        exact g_iret C hr hlocks hP hD hS (by decide) () rfl ⟨by decide, by decide⟩ (Nat.le_of_ble_eq_true rfl) (Nat.le_of_ble_eq_true rfl) dX12_hasField_47
      · replace c_5 : 34 ≤ (t.1 0 16).toInt := i_nlt c_5
        exact L_33  _ _ _  hP hD hS (lv_sub hl [0] rfl)
  refine lv_aload_n C.1 C.2.1 dX12_hasField_0 rfl (lv_at hl 0 rfl) ?_
  have h_6 : (0 : Int) ≤ (t.1 0 16).toInt ∧ (t.1 0 16).toInt ≤ 63 := hok.1 0 16
  refine k_get (v := .int (t.1 0 16)) C hP 0 rfl rfl inlX12 16 (by decide) m_57_3 rfl dX12_hasField_1 ?_
  refine lv_if_le (tgt := 15) C.1 C.2.1 dX12_hasField_4 (by decide) (fun c_7 => ?_) (fun c_7 => ?_)
  · replace c_7 : (t.1 0 16).toInt ≤ 0 := i_le c_7
    exact L_15  _ _ _  hP hD hS (lv_sub hl [0] rfl)
  · replace c_7 : 0 < (t.1 0 16).toInt := i_nle c_7
    refine lv_aload_n C.1 C.2.1 dX12_hasField_7 rfl (lv_at hl 0 rfl) ?_
    refine k_get (v := .int (t.1 0 16)) C hP 0 rfl rfl inlX12 16 (by decide) m_57_3 rfl dX12_hasField_8 ?_
    refine lv_iconst (v := 5) C.1 C.2.1 dX12_hasField_11 (by decide) ?_
    refine lv_icmp_lt (tgt := 42) C.1 C.2.1 dX12_hasField_12 (by decide) (fun c_8 => ?_) (fun c_8 => ?_)
    · replace c_8 : (t.1 0 16).toInt < 5 := i_lt c_8
      refine lv_iconst (v := 1) C.1 C.2.1 dX12_hasField_42 (by decide) ?_
      refine lv_goto (tgt := 47) C.1 C.2.1 dX12_hasField_43 (by decide) ?_
      exact g_iret C hr hlocks hP hD hS (by decide) () rfl ⟨by decide, by decide⟩ (Nat.le_of_ble_eq_true rfl) (Nat.le_of_ble_eq_true rfl) dX12_hasField_47
    · replace c_8 : 5 ≤ (t.1 0 16).toInt := i_nlt c_8
      exact L_15  _ _ _  hP hD hS (lv_sub hl [0] rfl)

theorem dX12_isField_0 : decode cX12_isField 0 = .ok (.iload_n 0, 1) := by decide +kernel
theorem dX12_isField_1 : decode cX12_isField 1 = .ok (.ifCond .lt 26, 3) := by decide +kernel
theorem dX12_isField_11 : decode cX12_isField 11 = .ok (.irem, 1) := by decide +kernel
theorem dX12_isField_12 : decode cX12_isField 12 = .ok (.if_icmp .gt 15, 3) := by decide +kernel
theorem dX12_isField_15 : decode cX12_isField 15 = .ok (.iload_n 0, 1) := by decide +kernel
theorem dX12_isField_16 : decode cX12_isField 16 = .ok (.bipush 8, 2) := by decide +kernel
theorem dX12_isField_18 : decode cX12_isField 18 = .ok (.irem, 1) := by decide +kernel
theorem dX12_isField_19 : decode cX12_isField 19 = .ok (.iconst 5, 1) := by decide +kernel
theorem dX12_isField_20 : decode cX12_isField 20 = .ok (.if_icmp .gt 7, 3) := by decide +kernel
theorem dX12_isField_23 : decode cX12_isField 23 = .ok (.iconst 1, 1) := by decide +kernel
theorem dX12_isField_24 : decode cX12_isField 24 = .ok (.goto 4, 3) := by decide +kernel
theorem dX12_isField_27 : decode cX12_isField 27 = .ok (.iconst 0, 1) := by decide +kernel
theorem dX12_isField_28 : decode cX12_isField 28 = .ok (.ireturn, 1) := by decide +kernel
theorem dX12_isField_4 : decode cX12_isField 4 = .ok (.iload_n 0, 1) := by decide +kernel
theorem dX12_isField_5 : decode cX12_isField 5 = .ok (.bipush 8, 2) := by decide +kernel
theorem dX12_isField_7 : decode cX12_isField 7 = .ok (.idiv, 1) := by decide +kernel
theorem dX12_isField_8 : decode cX12_isField 8 = .ok (.iload_n 0, 1) := by decide +kernel
theorem dX12_isField_9 : decode cX12_isField 9 = .ok (.bipush 8, 2) := by decide +kernel
set_option maxHeartbeats 4000000 in
set_option maxRecDepth 100000 in
theorem T_X12_isField (l : Launch) (D : va_G) (K : Nat → ClassId) (Z Y : Nat → Nat) (ad : Nat → Nat) (t : tSt) (hok : okM t) (x0 : Int32) : tMet l yX12_isField cX12_isField 1 (some .boolean) (rmD 0 0 0) D K Z Y [.int x0] (WM K ad t) (QI D K (fun (r : Int32) (u : Unit) => (0 : Int) ≤ r.toInt ∧ r.toInt ≤ 1) (fun (_ : Unit) => WM K ad t)) 0 0 := by
  refine t_met RX12 ⟨rfl, by decide +kernel⟩ (Nat.le_of_ble_eq_true rfl) ?_
  intro p e s m below meth c A ls C hE hZ hr hlocks hA hP hD hS hl
  have hl : lv_has ls 1 [(0, .int x0)] := hl
  refine lv_iload_n C.1 C.2.1 dX12_isField_0 rfl (lv_at hl 0 rfl) ?_
  refine lv_if_lt (tgt := 27) C.1 C.2.1 dX12_isField_1 (by decide) (fun c_1 => ?_) (fun c_1 => ?_)
  · replace c_1 : x0.toInt < 0 := i_lt c_1
    refine lv_iconst (v := 0) C.1 C.2.1 dX12_isField_27 (by decide) ?_
    exact g_iret C hr hlocks hP hD hS (by decide) () rfl ⟨by decide, by decide⟩ (Nat.le_of_ble_eq_true rfl) (Nat.le_of_ble_eq_true rfl) dX12_isField_28
  · replace c_1 : 0 ≤ x0.toInt := i_nlt c_1
    refine lv_iload_n C.1 C.2.1 dX12_isField_4 rfl (lv_at hl 0 rfl) ?_
    refine lv_bipush (v := 8) C.1 C.2.1 dX12_isField_5 (by decide) ?_
    obtain ⟨v_2, e_3⟩ : ∃ z, z = (x0 : Int32) / (8 : Int32) := ⟨_, rfl⟩
    have h_4 : v_2.toInt = x0.toInt / 8 := by rw [e_3]; exact z_divp (k := 8) (by decide) (by decide) (by show (0 : Int) ≤ x0.toInt; omega)
    refine k_idiv (v := v_2) C (by decide) e_3.symm dX12_isField_7 ?_
    refine lv_iload_n C.1 C.2.1 dX12_isField_8 rfl (lv_at hl 0 rfl) ?_
    refine lv_bipush (v := 8) C.1 C.2.1 dX12_isField_9 (by decide) ?_
    obtain ⟨v_5, e_6⟩ : ∃ z, z = (x0 : Int32) - (x0 : Int32) / (8 : Int32) * (8 : Int32) := ⟨_, rfl⟩
    have h_7 : v_5.toInt = x0.toInt % 8 := by rw [e_6]; exact z_remp (k := 8) (by decide) (by show (0 : Int) ≤ x0.toInt; omega)
    refine k_irem (v := v_5) C (by decide) e_6.symm dX12_isField_11 ?_
    refine lv_icmp_gt (tgt := 27) C.1 C.2.1 dX12_isField_12 (by decide) (fun c_8 => ?_) (fun c_8 => ?_)
    · replace c_8 : v_5.toInt < v_2.toInt := i_lt c_8
      refine lv_iconst (v := 0) C.1 C.2.1 dX12_isField_27 (by decide) ?_
      exact g_iret C hr hlocks hP hD hS (by decide) () rfl ⟨by decide, by decide⟩ (Nat.le_of_ble_eq_true rfl) (Nat.le_of_ble_eq_true rfl) dX12_isField_28
    · replace c_8 : v_2.toInt ≤ v_5.toInt := i_nlt c_8
      refine lv_iload_n C.1 C.2.1 dX12_isField_15 rfl (lv_at hl 0 rfl) ?_
      refine lv_bipush (v := 8) C.1 C.2.1 dX12_isField_16 (by decide) ?_
      obtain ⟨v_9, e_10⟩ : ∃ z, z = (x0 : Int32) - (x0 : Int32) / (8 : Int32) * (8 : Int32) := ⟨_, rfl⟩
      have h_11 : v_9.toInt = x0.toInt % 8 := by rw [e_10]; exact z_remp (k := 8) (by decide) (by show (0 : Int) ≤ x0.toInt; omega)
      refine k_irem (v := v_9) C (by decide) e_10.symm dX12_isField_18 ?_
      refine lv_iconst (v := 5) C.1 C.2.1 dX12_isField_19 (by decide) ?_
      refine lv_icmp_gt (tgt := 27) C.1 C.2.1 dX12_isField_20 (by decide) (fun c_12 => ?_) (fun c_12 => ?_)
      · replace c_12 : 5 < v_9.toInt := i_lt c_12
        refine lv_iconst (v := 0) C.1 C.2.1 dX12_isField_27 (by decide) ?_
        exact g_iret C hr hlocks hP hD hS (by decide) () rfl ⟨by decide, by decide⟩ (Nat.le_of_ble_eq_true rfl) (Nat.le_of_ble_eq_true rfl) dX12_isField_28
      · replace c_12 : v_9.toInt ≤ 5 := i_nlt c_12
        refine lv_iconst (v := 1) C.1 C.2.1 dX12_isField_23 (by decide) ?_
        refine lv_goto (tgt := 28) C.1 C.2.1 dX12_isField_24 (by decide) ?_
        exact g_iret C hr hlocks hP hD hS (by decide) () rfl ⟨by decide, by decide⟩ (Nat.le_of_ble_eq_true rfl) (Nat.le_of_ble_eq_true rfl) dX12_isField_28

theorem dX12_putWord_0 : decode cX12_putWord 0 = .ok (.aload_n 0, 1) := by decide +kernel
theorem dX12_putWord_1 : decode cX12_putWord 1 = .ok (.getfield 494, 3) := by decide +kernel
theorem dX12_putWord_10 : decode cX12_putWord 10 = .ok (.aload_n 0, 1) := by decide +kernel
theorem dX12_putWord_11 : decode cX12_putWord 11 = .ok (.bipush 6, 2) := by decide +kernel
theorem dX12_putWord_13 : decode cX12_putWord 13 = .ok (.invokevirtual 478, 3) := by decide +kernel
theorem dX12_putWord_16 : decode cX12_putWord 16 = .ok (.return_, 1) := by decide +kernel
theorem dX12_putWord_17 : decode cX12_putWord 17 = .ok (.aload_n 0, 1) := by decide +kernel
theorem dX12_putWord_18 : decode cX12_putWord 18 = .ok (.aload_n 0, 1) := by decide +kernel
theorem dX12_putWord_19 : decode cX12_putWord 19 = .ok (.getfield 494, 3) := by decide +kernel
theorem dX12_putWord_22 : decode cX12_putWord 22 = .ok (.iload_n 1, 1) := by decide +kernel
theorem dX12_putWord_23 : decode cX12_putWord 23 = .ok (.invokevirtual 214, 3) := by decide +kernel
theorem dX12_putWord_26 : decode cX12_putWord 26 = .ok (.aload_n 0, 1) := by decide +kernel
theorem dX12_putWord_27 : decode cX12_putWord 27 = .ok (.getfield 83, 3) := by decide +kernel
theorem dX12_putWord_30 : decode cX12_putWord 30 = .ok (.aload_n 0, 1) := by decide +kernel
theorem dX12_putWord_31 : decode cX12_putWord 31 = .ok (.getfield 494, 3) := by decide +kernel
theorem dX12_putWord_34 : decode cX12_putWord 34 = .ok (.sipush (-3999), 3) := by decide +kernel
theorem dX12_putWord_37 : decode cX12_putWord 37 = .ok (.isub, 1) := by decide +kernel
theorem dX12_putWord_38 : decode cX12_putWord 38 = .ok (.iconst 1, 1) := by decide +kernel
theorem dX12_putWord_39 : decode cX12_putWord 39 = .ok (.bastore, 1) := by decide +kernel
theorem dX12_putWord_4 : decode cX12_putWord 4 = .ok (.sipush 3999, 3) := by decide +kernel
theorem dX12_putWord_40 : decode cX12_putWord 40 = .ok (.aload_n 0, 1) := by decide +kernel
theorem dX12_putWord_41 : decode cX12_putWord 41 = .ok (.getfield 86, 3) := by decide +kernel
theorem dX12_putWord_44 : decode cX12_putWord 44 = .ok (.aload_n 0, 1) := by decide +kernel
theorem dX12_putWord_45 : decode cX12_putWord 45 = .ok (.getfield 443, 3) := by decide +kernel
theorem dX12_putWord_48 : decode cX12_putWord 48 = .ok (.iaload, 1) := by decide +kernel
theorem dX12_putWord_49 : decode cX12_putWord 49 = .ok (.sipush 10000, 3) := by decide +kernel
theorem dX12_putWord_52 : decode cX12_putWord 52 = .ok (.if_icmp .ne 16, 3) := by decide +kernel
theorem dX12_putWord_55 : decode cX12_putWord 55 = .ok (.aload_n 0, 1) := by decide +kernel
theorem dX12_putWord_56 : decode cX12_putWord 56 = .ok (.getfield 86, 3) := by decide +kernel
theorem dX12_putWord_59 : decode cX12_putWord 59 = .ok (.aload_n 0, 1) := by decide +kernel
theorem dX12_putWord_60 : decode cX12_putWord 60 = .ok (.getfield 443, 3) := by decide +kernel
theorem dX12_putWord_63 : decode cX12_putWord 63 = .ok (.aload_n 0, 1) := by decide +kernel
theorem dX12_putWord_64 : decode cX12_putWord 64 = .ok (.getfield 494, 3) := by decide +kernel
theorem dX12_putWord_67 : decode cX12_putWord 67 = .ok (.iastore, 1) := by decide +kernel
theorem dX12_putWord_68 : decode cX12_putWord 68 = .ok (.aload_n 0, 1) := by decide +kernel
theorem dX12_putWord_69 : decode cX12_putWord 69 = .ok (.dup, 1) := by decide +kernel
theorem dX12_putWord_7 : decode cX12_putWord 7 = .ok (.if_icmp .le 10, 3) := by decide +kernel
theorem dX12_putWord_70 : decode cX12_putWord 70 = .ok (.getfield 494, 3) := by decide +kernel
theorem dX12_putWord_73 : decode cX12_putWord 73 = .ok (.iconst 1, 1) := by decide +kernel
theorem dX12_putWord_74 : decode cX12_putWord 74 = .ok (.iadd, 1) := by decide +kernel
theorem dX12_putWord_75 : decode cX12_putWord 75 = .ok (.putfield 494, 3) := by decide +kernel
theorem dX12_putWord_78 : decode cX12_putWord 78 = .ok (.aload_n 0, 1) := by decide +kernel
theorem dX12_putWord_79 : decode cX12_putWord 79 = .ok (.dup, 1) := by decide +kernel
theorem dX12_putWord_80 : decode cX12_putWord 80 = .ok (.getfield 569, 3) := by decide +kernel
theorem dX12_putWord_83 : decode cX12_putWord 83 = .ok (.iconst 1, 1) := by decide +kernel
theorem dX12_putWord_84 : decode cX12_putWord 84 = .ok (.iadd, 1) := by decide +kernel
theorem dX12_putWord_85 : decode cX12_putWord 85 = .ok (.putfield 569, 3) := by decide +kernel
theorem dX12_putWord_88 : decode cX12_putWord 88 = .ok (.return_, 1) := by decide +kernel
set_option maxHeartbeats 4000000 in
set_option maxRecDepth 100000 in
theorem T_X12_putWord (l : Launch) (D : va_G) (K : Nat → ClassId) (Z Y : Nat → Nat) (ad : Nat → Nat) (t : tSt) (hok : okM t) (x1 : Int32) : tMet l yX12_putWord cX12_putWord 2 none (rmD 1 0 0) D K Z Y [.ref (ad 0), .int x1] (WM K ad t) (QV D K (fun (u : tSt) => okM u ∧ frA [(0, 47), (0, 48), (0, 70)] [] [2, 21, 22] [] t u ∧ ((u.1 0 70).toInt = 0 → (t.1 0 47).toInt ≤ 3999) ∧ ((u.1 0 70).toInt = 0 → (t.1 0 70).toInt = 0)) (fun (u : tSt) => WM K ad u)) 0 0 := by
  refine t_met RX12 ⟨rfl, by decide +kernel⟩ (Nat.le_of_ble_eq_true rfl) ?_
  intro p e s m below meth c A ls C hE hZ hr hlocks hA hP hD hS hl
  have hl : lv_has ls 2 [(0, .ref (ad 0)), (1, .int x1)] := hl
  have hokt := hok
  have hfr : frA [(0, 47), (0, 48), (0, 70)] [] [2, 21, 22] [] t t := frA_rf
  have h_1 : (-3999 : Int) ≤ (t.1 0 47).toInt ∧ (t.1 0 47).toInt ≤ 4000 := hok.1 0 47
  have h_2 : (0 : Int) ≤ (t.1 0 70).toInt ∧ (t.1 0 70).toInt ≤ 8 := hok.1 0 70
  have L_68 : ∀ (t1 : tSt) (H : Heap) (locs : List Loc) (ls : Array Slot), okM t1 → frA [(0, 47), (0, 48), (0, 70)] [] [2, 21, 22] [] t t1 → (-3999 : Int) ≤ (t1.1 0 47).toInt ∧ (t1.1 0 47).toInt ≤ 3999 → ((t1.1 0 47).toInt ≤ 3999) → ((t1.1 0 70).toInt = (t.1 0 70).toInt) → ((t1.1 0 47).toInt = (t.1 0 47).toInt) → va_P D vwCl (WM K ad t1) H → va_D A (WM K ad t1) → va_S A s.heap H locs → lv_has ls 2 [(0, .ref (ad 0)), (1, .int x1)] → W p l e (rmD 1 0 0) s m [.ref (ad 0), .int x1].toArray below meth c H locs 0 0 (MQ below (QV D K (fun (u : tSt) => okM u ∧ frA [(0, 47), (0, 48), (0, 70)] [] [2, 21, 22] [] t u ∧ ((u.1 0 70).toInt = 0 → (t.1 0 47).toInt ≤ 3999) ∧ ((u.1 0 70).toInt = 0 → (t.1 0 70).toInt = 0)) (fun (u : tSt) => WM K ad u) A) [.ref (ad 0), .int x1].toArray s 0 0 A) (F0 m 68 ls []) := by
    intro t1 H locs ls hok hfr hf68_47 hi68_0 hi68_1 hi68_2 hP hD hS hl
    have h_3 : (0 : Int) ≤ (t1.1 0 70).toInt ∧ (t1.1 0 70).toInt ≤ 8 := hok.1 0 70
    refine lv_aload_n C.1 C.2.1 dX12_putWord_68 rfl (lv_at hl 0 rfl) ?_
    refine lv_dup C.1 C.2.1 dX12_putWord_69 rfl ?_
    refine k_get (v := .int (t1.1 0 47)) C hP 0 rfl rfl inlX12 47 (by decide) m_30_16 rfl dX12_putWord_70 ?_
    refine lv_iconst (v := 1) C.1 C.2.1 dX12_putWord_73 (by decide) ?_
    obtain ⟨v_4, e_5⟩ : ∃ z, z = ((t1.1 0 47) : Int32) + (1 : Int32) := ⟨_, rfl⟩
    have h_6 : v_4.toInt = (t1.1 0 47).toInt + 1 := by rw [e_5]; exact ti_iadd (by show (_ : Int) ≤ (t1.1 0 47).toInt + 1; omega) (by show (t1.1 0 47).toInt + 1 < (_ : Int); omega)
    refine k_iadd (v := v_4) C e_5.symm dX12_putWord_74 ?_
    refine k_put (ws' := WM K ad (uI t1 0 47 v_4)) (v := .int v_4) C hP hD hS 0 rfl rfl inlX12 tyX12_ok nmX12 47 (by decide) m_30_16 rfl rfl rfl rfl rfl dX12_putWord_75 (fun H locs hP hD hS => ?_)
    have hok : okM (uI t1 0 47 v_4) := ⟨okI_I hok.1 0 47 v_4 (show (-3999 : Int) ≤ (v_4 : Int32).toInt ∧ (v_4 : Int32).toInt ≤ 4000 from ⟨by omega, by omega⟩), hok.2.1, hok.2.2.1, hok.2.2.2.1, hok.2.2.2.2.1, hok.2.2.2.2.2.1, hok.2.2.2.2.2.2.1, trivial⟩
    have hfr : frA [(0, 47), (0, 48), (0, 70)] [] [2, 21, 22] [] t (uI t1 0 47 v_4) := frA_I hfr 0 47 _ rfl
    refine lv_aload_n C.1 C.2.1 dX12_putWord_78 rfl (lv_at hl 0 rfl) ?_
    refine lv_dup C.1 C.2.1 dX12_putWord_79 rfl ?_
    refine k_get (v := .int (t1.1 0 48)) C hP 0 rfl rfl inlX12 48 (by decide) m_29_1 rfl dX12_putWord_80 ?_
    refine lv_iconst (v := 1) C.1 C.2.1 dX12_putWord_83 (by decide) ?_
    obtain ⟨v_7, e_8⟩ : ∃ z, z = ((t1.1 0 48) : Int32) + (1 : Int32) := ⟨_, rfl⟩
    refine k_iadd (v := v_7) C e_8.symm dX12_putWord_84 ?_
    refine k_put (ws' := WM K ad (uI (uI t1 0 47 v_4) 0 48 v_7)) (v := .int v_7) C hP hD hS 0 rfl rfl inlX12 tyX12_ok nmX12 48 (by decide) m_29_1 rfl rfl rfl rfl rfl dX12_putWord_85 (fun H locs hP hD hS => ?_)
    have hok : okM (uI (uI t1 0 47 v_4) 0 48 v_7) := ⟨okI_I hok.1 0 48 v_7 (show (-2147483648 : Int) ≤ (v_7 : Int32).toInt ∧ (v_7 : Int32).toInt ≤ 2147483647 from (i_rng _)), hok.2.1, hok.2.2.1, hok.2.2.2.1, hok.2.2.2.2.1, hok.2.2.2.2.2.1, hok.2.2.2.2.2.2.1, trivial⟩
    have hfr : frA [(0, 47), (0, 48), (0, 70)] [] [2, 21, 22] [] t (uI (uI t1 0 47 v_4) 0 48 v_7) := frA_I hfr 0 48 _ rfl
    exact g_vret C hr hlocks hP hD hS (uI (uI t1 0 47 v_4) 0 48 v_7) rfl ⟨hok, hfr, (show (t1.1 0 70).toInt = 0 → (t.1 0 47).toInt ≤ 3999 from by omega), (show (t1.1 0 70).toInt = 0 → (t.1 0 70).toInt = 0 from by omega)⟩ (Nat.le_of_ble_eq_true rfl) (Nat.le_of_ble_eq_true rfl) dX12_putWord_88
  refine lv_aload_n C.1 C.2.1 dX12_putWord_0 rfl (lv_at hl 0 rfl) ?_
  refine k_get (v := .int (t.1 0 47)) C hP 0 rfl rfl inlX12 47 (by decide) m_30_16 rfl dX12_putWord_1 ?_
  refine lv_sipush (v := 3999) C.1 C.2.1 dX12_putWord_4 (by decide) ?_
  refine lv_icmp_le (tgt := 17) C.1 C.2.1 dX12_putWord_7 (by decide) (fun c_10 => ?_) (fun c_10 => ?_)
  · replace c_10 : (t.1 0 47).toInt ≤ 3999 := i_le c_10
    refine lv_aload_n C.1 C.2.1 dX12_putWord_17 rfl (lv_at hl 0 rfl) ?_
    refine lv_aload_n C.1 C.2.1 dX12_putWord_18 rfl (lv_at hl 0 rfl) ?_
    refine k_get (v := .int (t.1 0 47)) C hP 0 rfl rfl inlX12 47 (by decide) m_30_16 rfl dX12_putWord_19 ?_
    refine lv_iload_n C.1 C.2.1 dX12_putWord_22 rfl (lv_at hl 1 rfl) ?_
    refine g_Vv (As := [.int (t.1 0 47), .int x1]) (rest := []) C hP hD hS hA (T_X12_setMemory l D K Z Y ad t hok ((t.1 0 47)) (show (-3999 : Int) ≤ ((t.1 0 47) : Int32).toInt ∧ ((t.1 0 47) : Int32).toInt ≤ 3999 from ⟨by omega, by omega⟩) (x1)) hE hZ (uwV m_38_15 m_38_16 m_38_17 m_1_5 m_38_18) (hdV 2 (by decide +kernel) rfl) ⟨Nat.le_of_ble_eq_true rfl, Nat.le_of_ble_eq_true rfl⟩ rfl rfl (ci := 11) (q0 := 0) rfl rfl rfl hl.1 (Nat.le_of_ble_eq_true rfl) dX12_putWord_23 ⟨Nat.le_of_ble_eq_true rfl, Nat.le_of_ble_eq_true rfl⟩ (fun t_11 H locs hw hP hD hS => ?_)
    obtain ⟨hok, f_13⟩ := hw
    have hfr : frA [(0, 47), (0, 48), (0, 70)] [] [2, 21, 22] [] t t_11 := frA_tr hfr f_13 rfl
    have h_14 : (t_11.1 0 47).toInt = (t.1 0 47).toInt := ti_eq (f_13.1 0 47 rfl)
    have h_15 : (t_11.1 0 70).toInt = (t.1 0 70).toInt := ti_eq (f_13.1 0 70 rfl)
    have e_16 : t_11.2.2.1 22 = t.2.2.1 22 := f_13.2.2.1 22 rfl
    have h_17 : (0 : Int) ≤ (t_11.1 0 70).toInt ∧ (t_11.1 0 70).toInt ≤ 8 := hok.1 0 70
    refine lv_aload_n C.1 C.2.1 dX12_putWord_26 rfl (lv_at hl 0 rfl) ?_
    refine k_get (v := .ref (ad 21)) C hP 0 rfl rfl inlX12 49 (by decide) m_8_5 rfl dX12_putWord_27 ?_
    refine lv_aload_n C.1 C.2.1 dX12_putWord_30 rfl (lv_at hl 0 rfl) ?_
    refine k_get (v := .int (t_11.1 0 47)) C hP 0 rfl rfl inlX12 47 (by decide) m_30_16 rfl dX12_putWord_31 ?_
    refine lv_sipush (v := (-3999)) C.1 C.2.1 dX12_putWord_34 (by decide) ?_
    obtain ⟨v_18, e_19⟩ : ∃ z, z = ((t_11.1 0 47) : Int32) - ((-3999) : Int32) := ⟨_, rfl⟩
    have h_20 : v_18.toInt = (t_11.1 0 47).toInt - (-3999) := by rw [e_19]; exact ti_isub (by show (_ : Int) ≤ (t_11.1 0 47).toInt - (-3999); omega) (by show (t_11.1 0 47).toInt - (-3999) < (_ : Int); omega)
    refine k_isub (v := v_18) C e_19.symm dX12_putWord_37 ?_
    refine lv_iconst (v := 1) C.1 C.2.1 dX12_putWord_38 (by decide) ?_
    obtain ⟨v_21, e_22⟩ : ∃ z, z = vp_nar .boolean 1 := ⟨_, rfl⟩
    have h_23 : (0 : Int) ≤ v_21.toInt ∧ v_21.toInt ≤ 1 := by rw [e_22]; exact nar_boolean _
    refine k_zst (ws' := WM K ad (uB t_11 21 (v_18 : Int32).toNatClampNeg v_21)) (x' := v_21) C hP hD hS 21 rfl (vp_in_iff.mpr ⟨by omega, by omega⟩) rfl e_22.symm rfl dX12_putWord_39 (fun H locs hP hD hS => ?_)
    have hok : okM (uB t_11 21 (v_18 : Int32).toNatClampNeg v_21) := ⟨hok.1, okB_B hok.2.1 21 _ v_21 (show (0 : Int) ≤ (v_21 : Int32).toInt ∧ (v_21 : Int32).toInt ≤ 1 from ⟨by omega, by omega⟩), hok.2.2.1, hok.2.2.2.1, hok.2.2.2.2.1, hok.2.2.2.2.2.1, hok.2.2.2.2.2.2.1, trivial⟩
    have hfr : frA [(0, 47), (0, 48), (0, 70)] [] [2, 21, 22] [] t (uB t_11 21 (v_18 : Int32).toNatClampNeg v_21) := frA_B hfr 21 _ _ rfl
    refine lv_aload_n C.1 C.2.1 dX12_putWord_40 rfl (lv_at hl 0 rfl) ?_
    refine k_get (v := .ref (ad 22)) C hP 0 rfl rfl inlX12 50 (by decide) m_8_6 rfl dX12_putWord_41 ?_
    refine lv_aload_n C.1 C.2.1 dX12_putWord_44 rfl (lv_at hl 0 rfl) ?_
    have h_24 : (0 : Int) ≤ (t_11.1 0 67).toInt ∧ (t_11.1 0 67).toInt ≤ 1281 := hok.1 0 67
    refine k_get (v := .int (t_11.1 0 67)) C hP 0 rfl rfl inlX12 67 (by decide) m_29_11 rfl dX12_putWord_45 ?_
    have e_25 : (uB t_11 21 (v_18 : Int32).toNatClampNeg v_21).2.2.1 22 = t.2.2.1 22 := (uB_ne rfl).trans e_16
    have h_26 : (-3999 : Int) ≤ (t.2.2.1 22 ((t_11.1 0 67) : Int32).toNatClampNeg).toInt ∧ (t.2.2.1 22 ((t_11.1 0 67) : Int32).toNatClampNeg).toInt ≤ 10000 := by rw [← e_25]; exact hok.2.1 22 _
    refine k_ild (v := (t.2.2.1 22 ((t_11.1 0 67) : Int32).toNatClampNeg)) C hP 22 rfl (vp_in_iff.mpr ⟨by omega, by omega⟩) (congrFun e_25 _) dX12_putWord_48 ?_
    refine lv_sipush (v := 10000) C.1 C.2.1 dX12_putWord_49 (by decide) ?_
    refine lv_icmp_ne (tgt := 68) C.1 C.2.1 dX12_putWord_52 (by decide) (fun c_27 => ?_) (fun c_27 => ?_)
    · replace c_27 : ¬ (t.2.2.1 22 ((t_11.1 0 67) : Int32).toNatClampNeg).toInt = 10000 := i_ne c_27
      exact L_68 (uB t_11 21 (v_18 : Int32).toNatClampNeg v_21) _ _ _ hok hfr (show (-3999 : Int) ≤ ((t_11.1 0 47) : Int32).toInt ∧ ((t_11.1 0 47) : Int32).toInt ≤ 3999 from ⟨by omega, by omega⟩) (show (t_11.1 0 47).toInt ≤ 3999 from by omega) (show (t_11.1 0 70).toInt = (t.1 0 70).toInt from by omega) (show (t_11.1 0 47).toInt = (t.1 0 47).toInt from by omega) hP hD hS (lv_sub hl [0, 1] rfl)
    · replace c_27 : (t.2.2.1 22 ((t_11.1 0 67) : Int32).toNatClampNeg).toInt = 10000 := i_eq c_27
      refine lv_aload_n C.1 C.2.1 dX12_putWord_55 rfl (lv_at hl 0 rfl) ?_
      refine k_get (v := .ref (ad 22)) C hP 0 rfl rfl inlX12 50 (by decide) m_8_6 rfl dX12_putWord_56 ?_
      refine lv_aload_n C.1 C.2.1 dX12_putWord_59 rfl (lv_at hl 0 rfl) ?_
      refine k_get (v := .int (t_11.1 0 67)) C hP 0 rfl rfl inlX12 67 (by decide) m_29_11 rfl dX12_putWord_60 ?_
      refine lv_aload_n C.1 C.2.1 dX12_putWord_63 rfl (lv_at hl 0 rfl) ?_
      refine k_get (v := .int (t_11.1 0 47)) C hP 0 rfl rfl inlX12 47 (by decide) m_30_16 rfl dX12_putWord_64 ?_
      obtain ⟨t_28, e_29⟩ : ∃ z, z = (uB t_11 21 (v_18 : Int32).toNatClampNeg v_21) := ⟨_, rfl⟩
      rw [← e_29] at hP hD hok hfr
      have h_30 : (t_28.1 0 47).toInt = ((t_11.1 0 47) : Int32).toInt := by rw [e_29]; rfl
      have h_31 : (t_28.1 0 67).toInt = ((t_11.1 0 67) : Int32).toInt := by rw [e_29]; rfl
      have h_32 : (t_28.1 0 70).toInt = (t_11.1 0 70).toInt := by rw [e_29]; rfl
      have e_33 : t_28.2.2.1 22 = t.2.2.1 22 := by rw [e_29]; exact (uB_ne rfl).trans e_16
      refine k_ist (ws' := WM K ad (uB t_28 22 ((t_11.1 0 67) : Int32).toNatClampNeg (t_11.1 0 47))) (x' := (t_11.1 0 47)) C hP hD hS 22 rfl (vp_in_iff.mpr ⟨by omega, by omega⟩) rfl rfl rfl dX12_putWord_67 (fun H locs hP hD hS => ?_)
      have hok : okM (uB t_28 22 ((t_11.1 0 67) : Int32).toNatClampNeg (t_11.1 0 47)) := ⟨hok.1, okB_B hok.2.1 22 _ (t_11.1 0 47) (show (-3999 : Int) ≤ ((t_11.1 0 47) : Int32).toInt ∧ ((t_11.1 0 47) : Int32).toInt ≤ 10000 from ⟨by omega, by omega⟩), hok.2.2.1, hok.2.2.2.1, (iM3_u hok.2.2.2.2.1 _ (Or.inr (by omega))), hok.2.2.2.2.2.1, hok.2.2.2.2.2.2.1, trivial⟩
      have hfr : frA [(0, 47), (0, 48), (0, 70)] [] [2, 21, 22] [] t (uB t_28 22 ((t_11.1 0 67) : Int32).toNatClampNeg (t_11.1 0 47)) := frA_B hfr 22 _ _ rfl
      have h_34 : (0 : Int) ≤ (t_28.1 0 70).toInt ∧ (t_28.1 0 70).toInt ≤ 8 := hok.1 0 70
      exact L_68 (uB t_28 22 ((t_11.1 0 67) : Int32).toNatClampNeg (t_11.1 0 47)) _ _ _ hok hfr (show (-3999 : Int) ≤ ((t_28.1 0 47) : Int32).toInt ∧ ((t_28.1 0 47) : Int32).toInt ≤ 3999 from ⟨by omega, by omega⟩) (show (t_28.1 0 47).toInt ≤ 3999 from by omega) (show (t_28.1 0 70).toInt = (t.1 0 70).toInt from by omega) (show (t_28.1 0 47).toInt = (t.1 0 47).toInt from by omega) hP hD hS (lv_sub hl [0, 1] rfl)
  · replace c_10 : 3999 < (t.1 0 47).toInt := i_nle c_10
    refine lv_aload_n C.1 C.2.1 dX12_putWord_10 rfl (lv_at hl 0 rfl) ?_
    refine lv_bipush (v := 6) C.1 C.2.1 dX12_putWord_11 (by decide) ?_
    have h_35 : (6 : Int32).toInt = 6 := rfl
    refine g_Vv (As := [.int 6]) (rest := []) C hP hD hS hA (T_X12_fail l D K Z Y ad t hok 6 (show (1 : Int) ≤ (6 : Int32).toInt ∧ (6 : Int32).toInt ≤ 8 from ⟨by decide, by decide⟩) (show 1 ≤ (6 : Int32).toInt from by omega)) hE hZ (uwV m_32_22 m_32_23 m_33_0 m_1_5 m_33_1) (hdV 1 (by decide +kernel) rfl) ⟨Nat.le_of_ble_eq_true rfl, Nat.le_of_ble_eq_true rfl⟩ rfl rfl (ci := 11) (q0 := 0) rfl rfl rfl hl.1 (Nat.le_of_ble_eq_true rfl) dX12_putWord_13 ⟨Nat.le_of_ble_eq_true rfl, Nat.le_of_ble_eq_true rfl⟩ (fun t_36 H locs hw hP hD hS => ?_)
    obtain ⟨hok, f_38, p_39⟩ := hw
    have hfr : frA [(0, 47), (0, 48), (0, 70)] [] [2, 21, 22] [] t t_36 := frA_tr hfr f_38 rfl
    have h_40 : (t_36.1 0 47).toInt = (t.1 0 47).toInt := ti_eq (f_38.1 0 47 rfl)
    have e_41 : t_36.2.2.1 22 = t.2.2.1 22 := f_38.2.2.1 22 rfl
    have h_42 : (0 : Int) ≤ (t_36.1 0 70).toInt ∧ (t_36.1 0 70).toInt ≤ 8 := hok.1 0 70
    replace p_39 : 1 ≤ (t_36.1 0 70).toInt := p_39
    exact g_vret C hr hlocks hP hD hS t_36 rfl ⟨hok, hfr, (show (t_36.1 0 70).toInt = 0 → (t.1 0 47).toInt ≤ 3999 from by omega), (show (t_36.1 0 70).toInt = 0 → (t.1 0 70).toInt = 0 from by omega)⟩ (Nat.le_of_ble_eq_true rfl) (Nat.le_of_ble_eq_true rfl) dX12_putWord_16

theorem dX12_fieldOf_0 : decode cX12_fieldOf 0 = .ok (.iload_n 1, 1) := by decide +kernel
theorem dX12_fieldOf_1 : decode cX12_fieldOf 1 = .ok (.bipush 8, 2) := by decide +kernel
theorem dX12_fieldOf_10 : decode cX12_fieldOf 10 = .ok (.iload_n 2, 1) := by decide +kernel
theorem dX12_fieldOf_11 : decode cX12_fieldOf 11 = .ok (.ifCond .ne 7, 3) := by decide +kernel
theorem dX12_fieldOf_14 : decode cX12_fieldOf 14 = .ok (.iconst 1, 1) := by decide +kernel
theorem dX12_fieldOf_15 : decode cX12_fieldOf 15 = .ok (.goto 4, 3) := by decide +kernel
theorem dX12_fieldOf_18 : decode cX12_fieldOf 18 = .ok (.iload_n 2, 1) := by decide +kernel
theorem dX12_fieldOf_19 : decode cX12_fieldOf 19 = .ok (.istore 4, 2) := by decide +kernel
theorem dX12_fieldOf_21 : decode cX12_fieldOf 21 = .ok (.iload_n 3, 1) := by decide +kernel
theorem dX12_fieldOf_22 : decode cX12_fieldOf 22 = .ok (.iload 4, 2) := by decide +kernel
theorem dX12_fieldOf_24 : decode cX12_fieldOf 24 = .ok (.if_icmp .ge 7, 3) := by decide +kernel
theorem dX12_fieldOf_27 : decode cX12_fieldOf 27 = .ok (.iconst 0, 1) := by decide +kernel
theorem dX12_fieldOf_28 : decode cX12_fieldOf 28 = .ok (.goto 9, 3) := by decide +kernel
theorem dX12_fieldOf_3 : decode cX12_fieldOf 3 = .ok (.idiv, 1) := by decide +kernel
theorem dX12_fieldOf_31 : decode cX12_fieldOf 31 = .ok (.iload_n 3, 1) := by decide +kernel
theorem dX12_fieldOf_32 : decode cX12_fieldOf 32 = .ok (.iload 4, 2) := by decide +kernel
theorem dX12_fieldOf_34 : decode cX12_fieldOf 34 = .ok (.isub, 1) := by decide +kernel
theorem dX12_fieldOf_35 : decode cX12_fieldOf 35 = .ok (.iconst 1, 1) := by decide +kernel
theorem dX12_fieldOf_36 : decode cX12_fieldOf 36 = .ok (.iadd, 1) := by decide +kernel
theorem dX12_fieldOf_37 : decode cX12_fieldOf 37 = .ok (.istore 5, 2) := by decide +kernel
theorem dX12_fieldOf_39 : decode cX12_fieldOf 39 = .ok (.iload 5, 2) := by decide +kernel
theorem dX12_fieldOf_4 : decode cX12_fieldOf 4 = .ok (.istore_n 2, 1) := by decide +kernel
theorem dX12_fieldOf_41 : decode cX12_fieldOf 41 = .ok (.ifCond .ne 7, 3) := by decide +kernel
theorem dX12_fieldOf_44 : decode cX12_fieldOf 44 = .ok (.iconst 0, 1) := by decide +kernel
theorem dX12_fieldOf_45 : decode cX12_fieldOf 45 = .ok (.goto 25, 3) := by decide +kernel
theorem dX12_fieldOf_48 : decode cX12_fieldOf 48 = .ok (.iload_n 0, 1) := by decide +kernel
theorem dX12_fieldOf_49 : decode cX12_fieldOf 49 = .ok (.ldc 159, 2) := by decide +kernel
theorem dX12_fieldOf_5 : decode cX12_fieldOf 5 = .ok (.iload_n 1, 1) := by decide +kernel
theorem dX12_fieldOf_51 : decode cX12_fieldOf 51 = .ok (.iand, 1) := by decide +kernel
theorem dX12_fieldOf_52 : decode cX12_fieldOf 52 = .ok (.bipush 6, 2) := by decide +kernel
theorem dX12_fieldOf_54 : decode cX12_fieldOf 54 = .ok (.iconst 5, 1) := by decide +kernel
theorem dX12_fieldOf_55 : decode cX12_fieldOf 55 = .ok (.iload_n 3, 1) := by decide +kernel
theorem dX12_fieldOf_56 : decode cX12_fieldOf 56 = .ok (.isub, 1) := by decide +kernel
theorem dX12_fieldOf_57 : decode cX12_fieldOf 57 = .ok (.imul, 1) := by decide +kernel
theorem dX12_fieldOf_58 : decode cX12_fieldOf 58 = .ok (.ishr, 1) := by decide +kernel
theorem dX12_fieldOf_59 : decode cX12_fieldOf 59 = .ok (.lconst 1, 1) := by decide +kernel
theorem dX12_fieldOf_6 : decode cX12_fieldOf 6 = .ok (.bipush 8, 2) := by decide +kernel
theorem dX12_fieldOf_60 : decode cX12_fieldOf 60 = .ok (.bipush 6, 2) := by decide +kernel
theorem dX12_fieldOf_62 : decode cX12_fieldOf 62 = .ok (.iload 5, 2) := by decide +kernel
theorem dX12_fieldOf_64 : decode cX12_fieldOf 64 = .ok (.imul, 1) := by decide +kernel
theorem dX12_fieldOf_65 : decode cX12_fieldOf 65 = .ok (.lshl, 1) := by decide +kernel
theorem dX12_fieldOf_66 : decode cX12_fieldOf 66 = .ok (.lconst 1, 1) := by decide +kernel
theorem dX12_fieldOf_67 : decode cX12_fieldOf 67 = .ok (.lsub, 1) := by decide +kernel
theorem dX12_fieldOf_68 : decode cX12_fieldOf 68 = .ok (.l2i, 1) := by decide +kernel
theorem dX12_fieldOf_69 : decode cX12_fieldOf 69 = .ok (.iand, 1) := by decide +kernel
theorem dX12_fieldOf_70 : decode cX12_fieldOf 70 = .ok (.istore 6, 2) := by decide +kernel
theorem dX12_fieldOf_72 : decode cX12_fieldOf 72 = .ok (.iload_n 2, 1) := by decide +kernel
theorem dX12_fieldOf_73 : decode cX12_fieldOf 73 = .ok (.ifCond .ne 13, 3) := by decide +kernel
theorem dX12_fieldOf_76 : decode cX12_fieldOf 76 = .ok (.iload_n 0, 1) := by decide +kernel
theorem dX12_fieldOf_77 : decode cX12_fieldOf 77 = .ok (.ldc 158, 2) := by decide +kernel
theorem dX12_fieldOf_79 : decode cX12_fieldOf 79 = .ok (.iand, 1) := by decide +kernel
theorem dX12_fieldOf_8 : decode cX12_fieldOf 8 = .ok (.irem, 1) := by decide +kernel
theorem dX12_fieldOf_80 : decode cX12_fieldOf 80 = .ok (.iload 6, 2) := by decide +kernel
theorem dX12_fieldOf_82 : decode cX12_fieldOf 82 = .ok (.ior, 1) := by decide +kernel
theorem dX12_fieldOf_83 : decode cX12_fieldOf 83 = .ok (.goto 5, 3) := by decide +kernel
theorem dX12_fieldOf_86 : decode cX12_fieldOf 86 = .ok (.iload 6, 2) := by decide +kernel
theorem dX12_fieldOf_88 : decode cX12_fieldOf 88 = .ok (.ireturn, 1) := by decide +kernel
theorem dX12_fieldOf_9 : decode cX12_fieldOf 9 = .ok (.istore_n 3, 1) := by decide +kernel
set_option maxHeartbeats 4000000 in
set_option maxRecDepth 100000 in
theorem T_X12_fieldOf (l : Launch) (D : va_G) (K : Nat → ClassId) (Z Y : Nat → Nat) (ad : Nat → Nat) (t : tSt) (hok : okM t) (x0 : Int32) (x1 : Int32) (hx1 : (0 : Int) ≤ x1.toInt ∧ x1.toInt ≤ 63) : tMet l yX12_fieldOf cX12_fieldOf 7 (some .int) (rmD 0 0 0) D K Z Y [.int x0, .int x1] (WM K ad t) (QI D K (fun (r : Int32) (u : Unit) => (0 : Int) ≤ r.toInt ∧ r.toInt ≤ 2147483647) (fun (_ : Unit) => WM K ad t)) 0 0 := by
  refine t_met RX12 ⟨rfl, by decide +kernel⟩ (Nat.le_of_ble_eq_true rfl) ?_
  intro p e s m below meth c A ls C hE hZ hr hlocks hA hP hD hS hl
  have hl : lv_has ls 7 [(0, .int x0), (1, .int x1)] := hl
  have L_70 : ∀ (w70_2 : Int32) (w70_3 : Int32) (w70_4 : Int32) (w70_5 : Int32) (k70_0 : Int32) (H : Heap) (locs : List Loc) (ls : Array Slot), (0 : Int) ≤ w70_2.toInt ∧ w70_2.toInt ≤ 7 → (0 : Int) ≤ w70_3.toInt ∧ w70_3.toInt ≤ 7 → (1 : Int) ≤ w70_4.toInt ∧ w70_4.toInt ≤ 7 → (-5 : Int) ≤ w70_5.toInt ∧ w70_5.toInt ≤ 7 → (0 : Int) ≤ k70_0.toInt ∧ k70_0.toInt ≤ 1073741823 → va_P D vwCl (WM K ad t) H → va_D A (WM K ad t) → va_S A s.heap H locs → lv_has ls 7 [(0, .int x0), (1, .int x1), (2, .int w70_2), (3, .int w70_3), (4, .int w70_4), (5, .int w70_5)] → W p l e (rmD 0 0 0) s m [.int x0, .int x1].toArray below meth c H locs 0 0 (MQ below (QI D K (fun (r : Int32) (u : Unit) => (0 : Int) ≤ r.toInt ∧ r.toInt ≤ 2147483647) (fun (_ : Unit) => WM K ad t) A) [.int x0, .int x1].toArray s 0 0 A) (F0 m 70 ls [.int k70_0]) := by
    intro w70_2 w70_3 w70_4 w70_5 k70_0 H locs ls hw70_2 hw70_3 hw70_4 hw70_5 hk70_0 hP hD hS hl
    refine lv_istore (lv' := [(6, .int k70_0), (0, .int x0), (1, .int x1), (2, .int w70_2), (3, .int w70_3), (4, .int w70_4), (5, .int w70_5)]) C.1 C.2.1 dX12_fieldOf_70 hl (by decide) rfl (fun ls hl => ?_)
    have hl : lv_has ls 7 [(0, .int x0), (1, .int x1), (2, .int w70_2), (3, .int w70_3), (4, .int w70_4), (5, .int w70_5), (6, .int k70_0)] := lv_sub hl [1, 2, 3, 4, 5, 6, 0] rfl
    refine lv_iload_n C.1 C.2.1 dX12_fieldOf_72 rfl (lv_at hl 2 rfl) ?_
    refine lv_if_ne (tgt := 86) C.1 C.2.1 dX12_fieldOf_73 (by decide) (fun c_1 => ?_) (fun c_1 => ?_)
    · replace c_1 : ¬ w70_2.toInt = 0 := i_ne c_1
      refine lv_iload C.1 C.2.1 dX12_fieldOf_86 (lv_at hl 6 rfl) ?_
      exact g_iret C hr hlocks hP hD hS rfl () rfl ⟨by omega, by omega⟩ (Nat.le_of_ble_eq_true rfl) (Nat.le_of_ble_eq_true rfl) dX12_fieldOf_88
    · replace c_1 : w70_2.toInt = 0 := i_eq c_1
      refine lv_iload_n C.1 C.2.1 dX12_fieldOf_76 rfl (lv_at hl 0 rfl) ?_
      refine lv_ldc (v := 1073741824) C.1 C.2.1 C.2.2.2.1 (C.2.2.2.2.1 _ m_34_19) dX12_fieldOf_77 ?_
      obtain ⟨v_2, e_3⟩ : ∃ z, z = (x0 : Int32) &&& (1073741824 : Int32) := ⟨_, rfl⟩
      have h_4 : (0 : Int) ≤ v_2.toInt ∧ v_2.toInt ≤ 1073741824 := by rw [e_3]; exact z_and _ (k := 1073741824) (by decide) (by decide)
      refine k_iand (v := v_2) C e_3.symm dX12_fieldOf_79 ?_
      refine lv_iload C.1 C.2.1 dX12_fieldOf_80 (lv_at hl 6 rfl) ?_
      obtain ⟨v_5, e_6⟩ : ∃ z, z = (v_2 : Int32) ||| (k70_0 : Int32) := ⟨_, rfl⟩
      have h_7 : (0 : Int) ≤ v_5.toInt ∧ v_5.toInt ≤ 2147483647 := by rw [e_6]; exact z_or (k := 31) (by decide) (by show (0 : Int) ≤ v_2.toInt; omega) (by show v_2.toInt < (_ : Int); omega) (by show (0 : Int) ≤ k70_0.toInt; omega) (by show k70_0.toInt < (_ : Int); omega)
      refine k_ior (v := v_5) C e_6.symm dX12_fieldOf_82 ?_
      refine lv_goto (tgt := 88) C.1 C.2.1 dX12_fieldOf_83 (by decide) ?_
      exact g_iret C hr hlocks hP hD hS rfl () rfl ⟨by omega, by omega⟩ (Nat.le_of_ble_eq_true rfl) (Nat.le_of_ble_eq_true rfl) dX12_fieldOf_88
  have L_37 : ∀ (w37_2 : Int32) (w37_3 : Int32) (w37_4 : Int32) (k37_0 : Int32) (H : Heap) (locs : List Loc) (ls : Array Slot), (0 : Int) ≤ w37_2.toInt ∧ w37_2.toInt ≤ 7 → (0 : Int) ≤ w37_3.toInt ∧ w37_3.toInt ≤ 7 → (1 : Int) ≤ w37_4.toInt ∧ w37_4.toInt ≤ 7 → (-5 : Int) ≤ k37_0.toInt ∧ k37_0.toInt ≤ 7 → va_P D vwCl (WM K ad t) H → va_D A (WM K ad t) → va_S A s.heap H locs → lv_has ls 7 [(0, .int x0), (1, .int x1), (2, .int w37_2), (3, .int w37_3), (4, .int w37_4)] → W p l e (rmD 0 0 0) s m [.int x0, .int x1].toArray below meth c H locs 0 0 (MQ below (QI D K (fun (r : Int32) (u : Unit) => (0 : Int) ≤ r.toInt ∧ r.toInt ≤ 2147483647) (fun (_ : Unit) => WM K ad t) A) [.int x0, .int x1].toArray s 0 0 A) (F0 m 37 ls [.int k37_0]) := by
    intro w37_2 w37_3 w37_4 k37_0 H locs ls hw37_2 hw37_3 hw37_4 hk37_0 hP hD hS hl
    refine lv_istore (lv' := [(5, .int k37_0), (0, .int x0), (1, .int x1), (2, .int w37_2), (3, .int w37_3), (4, .int w37_4)]) C.1 C.2.1 dX12_fieldOf_37 hl (by decide) rfl (fun ls hl => ?_)
    have hl : lv_has ls 7 [(0, .int x0), (1, .int x1), (2, .int w37_2), (3, .int w37_3), (4, .int w37_4), (5, .int k37_0)] := lv_sub hl [1, 2, 3, 4, 5, 0] rfl
    refine lv_iload C.1 C.2.1 dX12_fieldOf_39 (lv_at hl 5 rfl) ?_
    refine lv_if_ne (tgt := 48) C.1 C.2.1 dX12_fieldOf_41 (by decide) (fun c_8 => ?_) (fun c_8 => ?_)
    · replace c_8 : ¬ k37_0.toInt = 0 := i_ne c_8
      refine lv_iload_n C.1 C.2.1 dX12_fieldOf_48 rfl (lv_at hl 0 rfl) ?_
      refine lv_ldc (v := 1073741823) C.1 C.2.1 C.2.2.2.1 (C.2.2.2.2.1 _ m_36_12) dX12_fieldOf_49 ?_
      obtain ⟨v_9, e_10⟩ : ∃ z, z = (x0 : Int32) &&& (1073741823 : Int32) := ⟨_, rfl⟩
      have h_11 : v_9.toInt = x0.toInt % 2 ^ 30 := by rw [e_10]; exact Jvm.Kit.i32_mask _ _ (k := 30) (by decide) (by decide)
      refine k_iand (v := v_9) C e_10.symm dX12_fieldOf_51 ?_
      refine lv_bipush (v := 6) C.1 C.2.1 dX12_fieldOf_52 (by decide) ?_
      refine lv_iconst (v := 5) C.1 C.2.1 dX12_fieldOf_54 (by decide) ?_
      refine lv_iload_n C.1 C.2.1 dX12_fieldOf_55 rfl (lv_at hl 3 rfl) ?_
      obtain ⟨v_12, e_13⟩ : ∃ z, z = (5 : Int32) - (w37_3 : Int32) := ⟨_, rfl⟩
      have h_14 : v_12.toInt = 5 - w37_3.toInt := by rw [e_13]; exact ti_isub (by show (_ : Int) ≤ 5 - w37_3.toInt; omega) (by show 5 - w37_3.toInt < (_ : Int); omega)
      refine k_isub (v := v_12) C e_13.symm dX12_fieldOf_56 ?_
      obtain ⟨v_15, e_16⟩ : ∃ z, z = (6 : Int32) * (v_12 : Int32) := ⟨_, rfl⟩
      have h_17 : v_15.toInt = 6 * v_12.toInt := by rw [e_16]; exact ti_mull (k := 6) (by decide) (by omega) (by omega)
      refine k_imul (v := v_15) C e_16.symm dX12_fieldOf_57 ?_
      obtain ⟨v_18, e_19⟩ : ∃ z, z = (v_9 : Int32) >>> ((v_15 : Int32) &&& 31) := ⟨_, rfl⟩
      have h_20 : (0 : Int) ≤ v_18.toInt ∧ v_18.toInt ≤ v_9.toInt := by rw [e_19]; exact z_shr (by show (0 : Int) ≤ v_9.toInt; omega)
      refine k_ishr (v := v_18) C e_19.symm dX12_fieldOf_58 ?_
      refine lv_lconst (v := 1) C.1 C.2.1 dX12_fieldOf_59 (by decide) ?_
      refine lv_bipush (v := 6) C.1 C.2.1 dX12_fieldOf_60 (by decide) ?_
      refine lv_iload C.1 C.2.1 dX12_fieldOf_62 (lv_at hl 5 rfl) ?_
      obtain ⟨v_21, e_22⟩ : ∃ z, z = (6 : Int32) * (k37_0 : Int32) := ⟨_, rfl⟩
      have h_23 : v_21.toInt = 6 * k37_0.toInt := by rw [e_22]; exact ti_mull (k := 6) (by decide) (by omega) (by omega)
      refine k_imul (v := v_21) C e_22.symm dX12_fieldOf_64 ?_
      obtain ⟨v_24, e_25⟩ : ∃ z, z = (1 : Int64) <<< ((v_21 : Int32).toInt64 &&& 63) := ⟨_, rfl⟩
      refine lv_lshl (v := v_24) C.1 C.2.1 dX12_fieldOf_65 e_25.symm ?_
      refine lv_lconst (v := 1) C.1 C.2.1 dX12_fieldOf_66 (by decide) ?_
      obtain ⟨v_26, e_27⟩ : ∃ z, z = (v_24 : Int64) - (1 : Int64) := ⟨_, rfl⟩
      refine k_lsub (v := v_26) C e_27.symm dX12_fieldOf_67 ?_
      obtain ⟨v_28, e_29⟩ : ∃ z, z = (v_26).toInt32 := ⟨_, rfl⟩
      refine lv_l2i (v := v_28) C.1 C.2.1 dX12_fieldOf_68 e_29.symm ?_
      obtain ⟨v_30, e_31⟩ : ∃ z, z = (v_18 : Int32) &&& (v_28 : Int32) := ⟨_, rfl⟩
      have h_32 : (0 : Int) ≤ v_30.toInt ∧ v_30.toInt ≤ v_18.toInt := by rw [e_31]; exact z_andl (by show (0 : Int) ≤ v_18.toInt; omega)
      refine k_iand (v := v_30) C e_31.symm dX12_fieldOf_69 ?_
      exact L_70 w37_2 w37_3 w37_4 k37_0 v_30 _ _ _ ⟨by omega, by omega⟩ ⟨by omega, by omega⟩ ⟨by omega, by omega⟩ ⟨by omega, by omega⟩ ⟨by omega, by omega⟩ hP hD hS (lv_sub hl [0, 1, 2, 3, 4, 5] rfl)
    · replace c_8 : k37_0.toInt = 0 := i_eq c_8
      refine lv_iconst (v := 0) C.1 C.2.1 dX12_fieldOf_44 (by decide) ?_
      refine lv_goto (tgt := 70) C.1 C.2.1 dX12_fieldOf_45 (by decide) ?_
      exact L_70 w37_2 w37_3 w37_4 k37_0 0 _ _ _ ⟨by omega, by omega⟩ ⟨by omega, by omega⟩ ⟨by omega, by omega⟩ ⟨by omega, by omega⟩ ⟨by decide, by decide⟩ hP hD hS (lv_sub hl [0, 1, 2, 3, 4, 5] rfl)
  have L_19 : ∀ (w19_2 : Int32) (w19_3 : Int32) (k19_0 : Int32) (H : Heap) (locs : List Loc) (ls : Array Slot), (0 : Int) ≤ w19_2.toInt ∧ w19_2.toInt ≤ 7 → (0 : Int) ≤ w19_3.toInt ∧ w19_3.toInt ≤ 7 → (1 : Int) ≤ k19_0.toInt ∧ k19_0.toInt ≤ 7 → va_P D vwCl (WM K ad t) H → va_D A (WM K ad t) → va_S A s.heap H locs → lv_has ls 7 [(0, .int x0), (1, .int x1), (2, .int w19_2), (3, .int w19_3)] → W p l e (rmD 0 0 0) s m [.int x0, .int x1].toArray below meth c H locs 0 0 (MQ below (QI D K (fun (r : Int32) (u : Unit) => (0 : Int) ≤ r.toInt ∧ r.toInt ≤ 2147483647) (fun (_ : Unit) => WM K ad t) A) [.int x0, .int x1].toArray s 0 0 A) (F0 m 19 ls [.int k19_0]) := by
    intro w19_2 w19_3 k19_0 H locs ls hw19_2 hw19_3 hk19_0 hP hD hS hl
    refine lv_istore (lv' := [(4, .int k19_0), (0, .int x0), (1, .int x1), (2, .int w19_2), (3, .int w19_3)]) C.1 C.2.1 dX12_fieldOf_19 hl (by decide) rfl (fun ls hl => ?_)
    have hl : lv_has ls 7 [(0, .int x0), (1, .int x1), (2, .int w19_2), (3, .int w19_3), (4, .int k19_0)] := lv_sub hl [1, 2, 3, 4, 0] rfl
    refine lv_iload_n C.1 C.2.1 dX12_fieldOf_21 rfl (lv_at hl 3 rfl) ?_
    refine lv_iload C.1 C.2.1 dX12_fieldOf_22 (lv_at hl 4 rfl) ?_
    refine lv_icmp_ge (tgt := 31) C.1 C.2.1 dX12_fieldOf_24 (by decide) (fun c_33 => ?_) (fun c_33 => ?_)
    · replace c_33 : k19_0.toInt ≤ w19_3.toInt := i_le c_33
      refine lv_iload_n C.1 C.2.1 dX12_fieldOf_31 rfl (lv_at hl 3 rfl) ?_
      refine lv_iload C.1 C.2.1 dX12_fieldOf_32 (lv_at hl 4 rfl) ?_
      obtain ⟨v_34, e_35⟩ : ∃ z, z = (w19_3 : Int32) - (k19_0 : Int32) := ⟨_, rfl⟩
      have h_36 : v_34.toInt = w19_3.toInt - k19_0.toInt := by rw [e_35]; exact ti_isub (by show (_ : Int) ≤ w19_3.toInt - k19_0.toInt; omega) (by show w19_3.toInt - k19_0.toInt < (_ : Int); omega)
      refine k_isub (v := v_34) C e_35.symm dX12_fieldOf_34 ?_
      refine lv_iconst (v := 1) C.1 C.2.1 dX12_fieldOf_35 (by decide) ?_
      obtain ⟨v_37, e_38⟩ : ∃ z, z = (v_34 : Int32) + (1 : Int32) := ⟨_, rfl⟩
      have h_39 : v_37.toInt = v_34.toInt + 1 := by rw [e_38]; exact ti_iadd (by show (_ : Int) ≤ v_34.toInt + 1; omega) (by show v_34.toInt + 1 < (_ : Int); omega)
      refine k_iadd (v := v_37) C e_38.symm dX12_fieldOf_36 ?_
      exact L_37 w19_2 w19_3 k19_0 v_37 _ _ _ ⟨by omega, by omega⟩ ⟨by omega, by omega⟩ ⟨by omega, by omega⟩ ⟨by omega, by omega⟩ hP hD hS (lv_sub hl [0, 1, 2, 3, 4] rfl)
    · replace c_33 : w19_3.toInt < k19_0.toInt := i_nle c_33
      refine lv_iconst (v := 0) C.1 C.2.1 dX12_fieldOf_27 (by decide) ?_
      refine lv_goto (tgt := 37) C.1 C.2.1 dX12_fieldOf_28 (by decide) ?_
      exact L_37 w19_2 w19_3 k19_0 0 _ _ _ ⟨by omega, by omega⟩ ⟨by omega, by omega⟩ ⟨by omega, by omega⟩ ⟨by decide, by decide⟩ hP hD hS (lv_sub hl [0, 1, 2, 3, 4] rfl)
  refine lv_iload_n C.1 C.2.1 dX12_fieldOf_0 rfl (lv_at hl 1 rfl) ?_
  refine lv_bipush (v := 8) C.1 C.2.1 dX12_fieldOf_1 (by decide) ?_
  obtain ⟨v_40, e_41⟩ : ∃ z, z = (x1 : Int32) / (8 : Int32) := ⟨_, rfl⟩
  have h_42 : v_40.toInt = x1.toInt / 8 := by rw [e_41]; exact z_divp (k := 8) (by decide) (by decide) (by show (0 : Int) ≤ x1.toInt; omega)
  refine k_idiv (v := v_40) C (by decide) e_41.symm dX12_fieldOf_3 ?_
  refine lv_istore_n (lv' := [(2, .int v_40), (0, .int x0), (1, .int x1)]) C.1 C.2.1 dX12_fieldOf_4 rfl hl (by decide) rfl (fun ls hl => ?_)
  have hl : lv_has ls 7 [(0, .int x0), (1, .int x1), (2, .int v_40)] := lv_sub hl [1, 2, 0] rfl
  refine lv_iload_n C.1 C.2.1 dX12_fieldOf_5 rfl (lv_at hl 1 rfl) ?_
  refine lv_bipush (v := 8) C.1 C.2.1 dX12_fieldOf_6 (by decide) ?_
  obtain ⟨v_43, e_44⟩ : ∃ z, z = (x1 : Int32) - (x1 : Int32) / (8 : Int32) * (8 : Int32) := ⟨_, rfl⟩
  have h_45 : v_43.toInt = x1.toInt % 8 := by rw [e_44]; exact z_remp (k := 8) (by decide) (by show (0 : Int) ≤ x1.toInt; omega)
  refine k_irem (v := v_43) C (by decide) e_44.symm dX12_fieldOf_8 ?_
  refine lv_istore_n (lv' := [(3, .int v_43), (0, .int x0), (1, .int x1), (2, .int v_40)]) C.1 C.2.1 dX12_fieldOf_9 rfl hl (by decide) rfl (fun ls hl => ?_)
  have hl : lv_has ls 7 [(0, .int x0), (1, .int x1), (2, .int v_40), (3, .int v_43)] := lv_sub hl [1, 2, 3, 0] rfl
  refine lv_iload_n C.1 C.2.1 dX12_fieldOf_10 rfl (lv_at hl 2 rfl) ?_
  refine lv_if_ne (tgt := 18) C.1 C.2.1 dX12_fieldOf_11 (by decide) (fun c_46 => ?_) (fun c_46 => ?_)
  · replace c_46 : ¬ v_40.toInt = 0 := i_ne c_46
    refine lv_iload_n C.1 C.2.1 dX12_fieldOf_18 rfl (lv_at hl 2 rfl) ?_
    exact L_19 v_40 v_43 v_40 _ _ _ ⟨by omega, by omega⟩ ⟨by omega, by omega⟩ ⟨by omega, by omega⟩ hP hD hS (lv_sub hl [0, 1, 2, 3] rfl)
  · replace c_46 : v_40.toInt = 0 := i_eq c_46
    refine lv_iconst (v := 1) C.1 C.2.1 dX12_fieldOf_14 (by decide) ?_
    refine lv_goto (tgt := 19) C.1 C.2.1 dX12_fieldOf_15 (by decide) ?_
    exact L_19 v_40 v_43 1 _ _ _ ⟨by omega, by omega⟩ ⟨by omega, by omega⟩ ⟨by decide, by decide⟩ hP hD hS (lv_sub hl [0, 1, 2, 3] rfl)
