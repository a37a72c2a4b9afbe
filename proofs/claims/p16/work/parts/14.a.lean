theorem dX12_end_0 : decode cX12_end 0 = .ok (.aload_n 0, 1) := by decide +kernel
theorem dX12_end_1 : decode cX12_end 1 = .ok (.iconst 0, 1) := by decide +kernel
theorem dX12_end_10 : decode cX12_end 10 = .ok (.aload_n 0, 1) := by decide +kernel
theorem dX12_end_11 : decode cX12_end 11 = .ok (.getfield 176, 3) := by decide +kernel
theorem dX12_end_14 : decode cX12_end 14 = .ok (.if_icmp .le 5, 3) := by decide +kernel
theorem dX12_end_17 : decode cX12_end 17 = .ok (.iconst 0, 1) := by decide +kernel
theorem dX12_end_18 : decode cX12_end 18 = .ok (.ireturn, 1) := by decide +kernel
theorem dX12_end_19 : decode cX12_end 19 = .ok (.aload_n 0, 1) := by decide +kernel
theorem dX12_end_2 : decode cX12_end 2 = .ok (.putfield 155, 3) := by decide +kernel
theorem dX12_end_20 : decode cX12_end 20 = .ok (.iload_n 1, 1) := by decide +kernel
theorem dX12_end_21 : decode cX12_end 21 = .ok (.putfield 176, 3) := by decide +kernel
theorem dX12_end_24 : decode cX12_end 24 = .ok (.iconst 1, 1) := by decide +kernel
theorem dX12_end_25 : decode cX12_end 25 = .ok (.ireturn, 1) := by decide +kernel
theorem dX12_end_5 : decode cX12_end 5 = .ok (.iload_n 1, 1) := by decide +kernel
theorem dX12_end_6 : decode cX12_end 6 = .ok (.ifCond .lt 11, 3) := by decide +kernel
theorem dX12_end_9 : decode cX12_end 9 = .ok (.iload_n 1, 1) := by decide +kernel
set_option maxHeartbeats 4000000 in
set_option maxRecDepth 100000 in
theorem T_X12_end (l : Launch) (D : va_G) (K : Nat → ClassId) (Z Y : Nat → Nat) (ad : Nat → Nat) (t : tSt) (hok : okM t) (x1 : Int32) : tMet l yX12_end cX12_end 2 (some .boolean) (rmD 0 0 0) D K Z Y [.ref (ad 0), .int x1] (WM K ad t) (QI D K (fun (r : Int32) (u : tSt) => okM u ∧ frA [(0, 0), (0, 2)] [] [] [] t u ∧ (0 : Int) ≤ r.toInt ∧ r.toInt ≤ 1 ∧ (r.toInt = 1 ∧ (u.1 0 2).toInt = x1.toInt ∧ 0 ≤ x1.toInt ∧ x1.toInt ≤ (t.1 0 2).toInt ∨ r.toInt = 0 ∧ (u.1 0 2).toInt = (t.1 0 2).toInt ∧ (x1.toInt < 0 ∨ x1.toInt > (t.1 0 2).toInt))) (fun (u : tSt) => WM K ad u)) 0 0 := by
  refine t_met RX12 ⟨rfl, by decide +kernel⟩ (Nat.le_of_ble_eq_true rfl) ?_
  intro p e s m below meth c A ls C hE hZ hr hlocks hA hP hD hS hl
  have hl : lv_has ls 2 [(0, .ref (ad 0)), (1, .int x1)] := hl
  have hokt := hok
  have hfr : frA [(0, 0), (0, 2)] [] [] [] t t := frA_rf
  have h_1 : (0 : Int) ≤ (t.1 0 2).toInt ∧ (t.1 0 2).toInt ≤ 1280 := hok.1 0 2
  refine lv_aload_n C.1 C.2.1 dX12_end_0 rfl (lv_at hl 0 rfl) ?_
  refine lv_iconst (v := 0) C.1 C.2.1 dX12_end_1 (by decide) ?_
  refine k_put (ws' := WM K ad (uI t 0 0 0)) (v := .int 0) C hP hD hS 0 rfl rfl inlX12 tyX12_ok nmX12 0 (by decide) m_9_18 rfl rfl rfl rfl rfl dX12_end_2 (fun H locs hP hD hS => ?_)
  have hok : okM (uI t 0 0 0) := ⟨okI_I hok.1 0 0 0 (show (0 : Int) ≤ (0 : Int32).toInt ∧ (0 : Int32).toInt ≤ 1 from ⟨by decide, by decide⟩), hok.2.1, hok.2.2.1, hok.2.2.2.1, hok.2.2.2.2.1, hok.2.2.2.2.2.1, hok.2.2.2.2.2.2.1, trivial⟩
  have hfr : frA [(0, 0), (0, 2)] [] [] [] t (uI t 0 0 0) := frA_I hfr 0 0 _ rfl
  refine lv_iload_n C.1 C.2.1 dX12_end_5 rfl (lv_at hl 1 rfl) ?_
  refine lv_if_lt (tgt := 17) C.1 C.2.1 dX12_end_6 (by decide) (fun c_2 => ?_) (fun c_2 => ?_)
  · replace c_2 : x1.toInt < 0 := i_lt c_2
    refine lv_iconst (v := 0) C.1 C.2.1 dX12_end_17 (by decide) ?_
    exact g_iret C hr hlocks hP hD hS (by decide) (uI t 0 0 0) rfl ⟨hok, hfr, by decide, by decide, (show 0 = 1 ∧ (t.1 0 2).toInt = x1.toInt ∧ 0 ≤ x1.toInt ∧ x1.toInt ≤ (t.1 0 2).toInt ∨ 0 = 0 ∧ (t.1 0 2).toInt = (t.1 0 2).toInt ∧ (x1.toInt < 0 ∨ x1.toInt > (t.1 0 2).toInt) from by omega)⟩ (Nat.le_of_ble_eq_true rfl) (Nat.le_of_ble_eq_true rfl) dX12_end_18
  · replace c_2 : 0 ≤ x1.toInt := i_nlt c_2
    refine lv_iload_n C.1 C.2.1 dX12_end_9 rfl (lv_at hl 1 rfl) ?_
    refine lv_aload_n C.1 C.2.1 dX12_end_10 rfl (lv_at hl 0 rfl) ?_
    refine k_get (v := .int (t.1 0 2)) C hP 0 rfl rfl inlX12 2 (by decide) m_9_19 rfl dX12_end_11 ?_
    refine lv_icmp_le (tgt := 19) C.1 C.2.1 dX12_end_14 (by decide) (fun c_3 => ?_) (fun c_3 => ?_)
    · replace c_3 : x1.toInt ≤ (t.1 0 2).toInt := i_le c_3
      refine lv_aload_n C.1 C.2.1 dX12_end_19 rfl (lv_at hl 0 rfl) ?_
      refine lv_iload_n C.1 C.2.1 dX12_end_20 rfl (lv_at hl 1 rfl) ?_
      refine k_put (ws' := WM K ad (uI (uI t 0 0 0) 0 2 x1)) (v := .int x1) C hP hD hS 0 rfl rfl inlX12 tyX12_ok nmX12 2 (by decide) m_9_19 rfl rfl rfl rfl rfl dX12_end_21 (fun H locs hP hD hS => ?_)
      have hok : okM (uI (uI t 0 0 0) 0 2 x1) := ⟨okI_I hok.1 0 2 x1 (show (0 : Int) ≤ (x1 : Int32).toInt ∧ (x1 : Int32).toInt ≤ 1280 from ⟨by omega, by omega⟩), hok.2.1, hok.2.2.1, hok.2.2.2.1, hok.2.2.2.2.1, hok.2.2.2.2.2.1, hok.2.2.2.2.2.2.1, trivial⟩
      have hfr : frA [(0, 0), (0, 2)] [] [] [] t (uI (uI t 0 0 0) 0 2 x1) := frA_I hfr 0 2 _ rfl
      refine lv_iconst (v := 1) C.1 C.2.1 dX12_end_24 (by decide) ?_
      exact g_iret C hr hlocks hP hD hS (by decide) (uI (uI t 0 0 0) 0 2 x1) rfl ⟨hok, hfr, by decide, by decide, (show 1 = 1 ∧ x1.toInt = x1.toInt ∧ 0 ≤ x1.toInt ∧ x1.toInt ≤ (t.1 0 2).toInt ∨ 1 = 0 ∧ x1.toInt = (t.1 0 2).toInt ∧ (x1.toInt < 0 ∨ x1.toInt > (t.1 0 2).toInt) from by omega)⟩ (Nat.le_of_ble_eq_true rfl) (Nat.le_of_ble_eq_true rfl) dX12_end_25
    · replace c_3 : (t.1 0 2).toInt < x1.toInt := i_nle c_3
      refine lv_iconst (v := 0) C.1 C.2.1 dX12_end_17 (by decide) ?_
      exact g_iret C hr hlocks hP hD hS (by decide) (uI t 0 0 0) rfl ⟨hok, hfr, by decide, by decide, (show 0 = 1 ∧ (t.1 0 2).toInt = x1.toInt ∧ 0 ≤ x1.toInt ∧ x1.toInt ≤ (t.1 0 2).toInt ∨ 0 = 0 ∧ (t.1 0 2).toInt = (t.1 0 2).toInt ∧ (x1.toInt < 0 ∨ x1.toInt > (t.1 0 2).toInt) from by omega)⟩ (Nat.le_of_ble_eq_true rfl) (Nat.le_of_ble_eq_true rfl) dX12_end_18

theorem dX12_error_0 : decode cX12_error 0 = .ok (.aload_n 0, 1) := by decide +kernel
theorem dX12_error_1 : decode cX12_error 1 = .ok (.iconst 0, 1) := by decide +kernel
theorem dX12_error_2 : decode cX12_error 2 = .ok (.putfield 155, 3) := by decide +kernel
theorem dX12_error_5 : decode cX12_error 5 = .ok (.aload_n 0, 1) := by decide +kernel
theorem dX12_error_6 : decode cX12_error 6 = .ok (.getfield 648, 3) := by decide +kernel
theorem dX12_error_9 : decode cX12_error 9 = .ok (.ireturn, 1) := by decide +kernel
set_option maxHeartbeats 4000000 in
set_option maxRecDepth 100000 in
theorem T_X12_error (l : Launch) (D : va_G) (K : Nat → ClassId) (Z Y : Nat → Nat) (ad : Nat → Nat) (t : tSt) (hok : okM t)  : tMet l yX12_error cX12_error 1 (some .int) (rmD 0 0 0) D K Z Y [.ref (ad 0)] (WM K ad t) (QI D K (fun (r : Int32) (u : tSt) => okM u ∧ frA [(0, 0)] [] [] [] t u ∧ (0 : Int) ≤ r.toInt ∧ r.toInt ≤ 8) (fun (u : tSt) => WM K ad u)) 0 0 := by
  refine t_met RX12 ⟨rfl, by decide +kernel⟩ (Nat.le_of_ble_eq_true rfl) ?_
  intro p e s m below meth c A ls C hE hZ hr hlocks hA hP hD hS hl
  have hl : lv_has ls 1 [(0, .ref (ad 0))] := hl
  have hokt := hok
  have hfr : frA [(0, 0)] [] [] [] t t := frA_rf
  refine lv_aload_n C.1 C.2.1 dX12_error_0 rfl (lv_at hl 0 rfl) ?_
  refine lv_iconst (v := 0) C.1 C.2.1 dX12_error_1 (by decide) ?_
  refine k_put (ws' := WM K ad (uI t 0 0 0)) (v := .int 0) C hP hD hS 0 rfl rfl inlX12 tyX12_ok nmX12 0 (by decide) m_9_18 rfl rfl rfl rfl rfl dX12_error_2 (fun H locs hP hD hS => ?_)
  have hok : okM (uI t 0 0 0) := ⟨okI_I hok.1 0 0 0 (show (0 : Int) ≤ (0 : Int32).toInt ∧ (0 : Int32).toInt ≤ 1 from ⟨by decide, by decide⟩), hok.2.1, hok.2.2.1, hok.2.2.2.1, hok.2.2.2.2.1, hok.2.2.2.2.2.1, hok.2.2.2.2.2.2.1, trivial⟩
  have hfr : frA [(0, 0)] [] [] [] t (uI t 0 0 0) := frA_I hfr 0 0 _ rfl
  refine lv_aload_n C.1 C.2.1 dX12_error_5 rfl (lv_at hl 0 rfl) ?_
  have h_1 : (0 : Int) ≤ (t.1 0 43).toInt ∧ (t.1 0 43).toInt ≤ 8 := hok.1 0 43
  refine k_get (v := .int (t.1 0 43)) C hP 0 rfl rfl inlX12 43 (by decide) m_29_14 rfl dX12_error_6 ?_
  exact g_iret C hr hlocks hP hD hS rfl (uI t 0 0 0) rfl ⟨hok, hfr, by omega, by omega⟩ (Nat.le_of_ble_eq_true rfl) (Nat.le_of_ble_eq_true rfl) dX12_error_9

theorem dX12_account_0 : decode cX12_account 0 = .ok (.aload_n 0, 1) := by decide +kernel
theorem dX12_account_1 : decode cX12_account 1 = .ok (.iconst 0, 1) := by decide +kernel
theorem dX12_account_10 : decode cX12_account 10 = .ok (.aload_n 0, 1) := by decide +kernel
theorem dX12_account_11 : decode cX12_account 11 = .ok (.getfield 849, 3) := by decide +kernel
theorem dX12_account_14 : decode cX12_account 14 = .ok (.if_icmp .ge 12, 3) := by decide +kernel
theorem dX12_account_17 : decode cX12_account 17 = .ok (.iload_n 2, 1) := by decide +kernel
theorem dX12_account_18 : decode cX12_account 18 = .ok (.ifCond .lt 8, 3) := by decide +kernel
theorem dX12_account_2 : decode cX12_account 2 = .ok (.putfield 155, 3) := by decide +kernel
theorem dX12_account_21 : decode cX12_account 21 = .ok (.iload_n 2, 1) := by decide +kernel
theorem dX12_account_22 : decode cX12_account 22 = .ok (.iconst 3, 1) := by decide +kernel
theorem dX12_account_23 : decode cX12_account 23 = .ok (.if_icmp .le 5, 3) := by decide +kernel
theorem dX12_account_26 : decode cX12_account 26 = .ok (.iconst (-1), 1) := by decide +kernel
theorem dX12_account_27 : decode cX12_account 27 = .ok (.ireturn, 1) := by decide +kernel
theorem dX12_account_28 : decode cX12_account 28 = .ok (.iload_n 2, 1) := by decide +kernel
theorem dX12_account_29 : decode cX12_account 29 = .ok (.ifCond .ne 12, 3) := by decide +kernel
theorem dX12_account_32 : decode cX12_account 32 = .ok (.aload_n 0, 1) := by decide +kernel
theorem dX12_account_33 : decode cX12_account 33 = .ok (.getfield 137, 3) := by decide +kernel
theorem dX12_account_36 : decode cX12_account 36 = .ok (.iload_n 1, 1) := by decide +kernel
theorem dX12_account_37 : decode cX12_account 37 = .ok (.iaload, 1) := by decide +kernel
theorem dX12_account_38 : decode cX12_account 38 = .ok (.goto 37, 3) := by decide +kernel
theorem dX12_account_41 : decode cX12_account 41 = .ok (.iload_n 2, 1) := by decide +kernel
theorem dX12_account_42 : decode cX12_account 42 = .ok (.iconst 1, 1) := by decide +kernel
theorem dX12_account_43 : decode cX12_account 43 = .ok (.if_icmp .ne 12, 3) := by decide +kernel
theorem dX12_account_46 : decode cX12_account 46 = .ok (.aload_n 0, 1) := by decide +kernel
theorem dX12_account_47 : decode cX12_account 47 = .ok (.getfield 140, 3) := by decide +kernel
theorem dX12_account_5 : decode cX12_account 5 = .ok (.iload_n 1, 1) := by decide +kernel
theorem dX12_account_50 : decode cX12_account 50 = .ok (.iload_n 1, 1) := by decide +kernel
theorem dX12_account_51 : decode cX12_account 51 = .ok (.iaload, 1) := by decide +kernel
theorem dX12_account_52 : decode cX12_account 52 = .ok (.goto 23, 3) := by decide +kernel
theorem dX12_account_55 : decode cX12_account 55 = .ok (.iload_n 2, 1) := by decide +kernel
theorem dX12_account_56 : decode cX12_account 56 = .ok (.iconst 2, 1) := by decide +kernel
theorem dX12_account_57 : decode cX12_account 57 = .ok (.if_icmp .ne 12, 3) := by decide +kernel
theorem dX12_account_6 : decode cX12_account 6 = .ok (.ifCond .lt 20, 3) := by decide +kernel
theorem dX12_account_60 : decode cX12_account 60 = .ok (.aload_n 0, 1) := by decide +kernel
theorem dX12_account_61 : decode cX12_account 61 = .ok (.getfield 143, 3) := by decide +kernel
theorem dX12_account_64 : decode cX12_account 64 = .ok (.iload_n 1, 1) := by decide +kernel
theorem dX12_account_65 : decode cX12_account 65 = .ok (.iaload, 1) := by decide +kernel
theorem dX12_account_66 : decode cX12_account 66 = .ok (.goto 9, 3) := by decide +kernel
theorem dX12_account_69 : decode cX12_account 69 = .ok (.aload_n 0, 1) := by decide +kernel
theorem dX12_account_70 : decode cX12_account 70 = .ok (.getfield 146, 3) := by decide +kernel
theorem dX12_account_73 : decode cX12_account 73 = .ok (.iload_n 1, 1) := by decide +kernel
theorem dX12_account_74 : decode cX12_account 74 = .ok (.iaload, 1) := by decide +kernel
theorem dX12_account_75 : decode cX12_account 75 = .ok (.ireturn, 1) := by decide +kernel
theorem dX12_account_9 : decode cX12_account 9 = .ok (.iload_n 1, 1) := by decide +kernel
set_option maxHeartbeats 4000000 in
set_option maxRecDepth 100000 in
theorem T_X12_account (l : Launch) (D : va_G) (K : Nat → ClassId) (Z Y : Nat → Nat) (ad : Nat → Nat) (t : tSt) (hok : okM t) (x1 : Int32) (x2 : Int32) : tMet l yX12_account cX12_account 3 (some .int) (rmD 0 0 0) D K Z Y [.ref (ad 0), .int x1, .int x2] (WM K ad t) (QI D K (fun (r : Int32) (u : tSt) => okM u ∧ frA [(0, 0)] [] [] [] t u ∧ (-2147483648 : Int) ≤ r.toInt ∧ r.toInt ≤ 2147483647) (fun (u : tSt) => WM K ad u)) 0 0 := by
  refine t_met RX12 ⟨rfl, by decide +kernel⟩ (Nat.le_of_ble_eq_true rfl) ?_
  intro p e s m below meth c A ls C hE hZ hr hlocks hA hP hD hS hl
  have hl : lv_has ls 3 [(0, .ref (ad 0)), (1, .int x1), (2, .int x2)] := hl
  have hokt := hok
  have hfr : frA [(0, 0)] [] [] [] t t := frA_rf
  refine lv_aload_n C.1 C.2.1 dX12_account_0 rfl (lv_at hl 0 rfl) ?_
  refine lv_iconst (v := 0) C.1 C.2.1 dX12_account_1 (by decide) ?_
  refine k_put (ws' := WM K ad (uI t 0 0 0)) (v := .int 0) C hP hD hS 0 rfl rfl inlX12 tyX12_ok nmX12 0 (by decide) m_9_18 rfl rfl rfl rfl rfl dX12_account_2 (fun H locs hP hD hS => ?_)
  have hok : okM (uI t 0 0 0) := ⟨okI_I hok.1 0 0 0 (show (0 : Int) ≤ (0 : Int32).toInt ∧ (0 : Int32).toInt ≤ 1 from ⟨by decide, by decide⟩), hok.2.1, hok.2.2.1, hok.2.2.2.1, hok.2.2.2.2.1, hok.2.2.2.2.2.1, hok.2.2.2.2.2.2.1, trivial⟩
  have hfr : frA [(0, 0)] [] [] [] t (uI t 0 0 0) := frA_I hfr 0 0 _ rfl
  refine lv_iload_n C.1 C.2.1 dX12_account_5 rfl (lv_at hl 1 rfl) ?_
  refine lv_if_lt (tgt := 26) C.1 C.2.1 dX12_account_6 (by decide) (fun c_1 => ?_) (fun c_1 => ?_)
  · replace c_1 : x1.toInt < 0 := i_lt c_1
    refine lv_iconst (v := (-1)) C.1 C.2.1 dX12_account_26 (by decide) ?_
    exact g_iret C hr hlocks hP hD hS rfl (uI t 0 0 0) rfl ⟨hok, hfr, (i_rng _).1, (i_rng _).2⟩ (Nat.le_of_ble_eq_true rfl) (Nat.le_of_ble_eq_true rfl) dX12_account_27
  · replace c_1 : 0 ≤ x1.toInt := i_nlt c_1
    refine lv_iload_n C.1 C.2.1 dX12_account_9 rfl (lv_at hl 1 rfl) ?_
    refine lv_aload_n C.1 C.2.1 dX12_account_10 rfl (lv_at hl 0 rfl) ?_
    have h_2 : (0 : Int) ≤ (t.1 0 82).toInt ∧ (t.1 0 82).toInt ≤ 427 := hok.1 0 82
    refine k_get (v := .int (t.1 0 82)) C hP 0 rfl rfl inlX12 82 (by decide) m_81_19 rfl dX12_account_11 ?_
    refine lv_icmp_ge (tgt := 26) C.1 C.2.1 dX12_account_14 (by decide) (fun c_3 => ?_) (fun c_3 => ?_)
    · replace c_3 : (t.1 0 82).toInt ≤ x1.toInt := i_le c_3
      refine lv_iconst (v := (-1)) C.1 C.2.1 dX12_account_26 (by decide) ?_
      exact g_iret C hr hlocks hP hD hS rfl (uI t 0 0 0) rfl ⟨hok, hfr, (i_rng _).1, (i_rng _).2⟩ (Nat.le_of_ble_eq_true rfl) (Nat.le_of_ble_eq_true rfl) dX12_account_27
    · replace c_3 : x1.toInt < (t.1 0 82).toInt := i_nle c_3
      refine lv_iload_n C.1 C.2.1 dX12_account_17 rfl (lv_at hl 2 rfl) ?_
      refine lv_if_lt (tgt := 26) C.1 C.2.1 dX12_account_18 (by decide) (fun c_4 => ?_) (fun c_4 => ?_)
      · replace c_4 : x2.toInt < 0 := i_lt c_4
        refine lv_iconst (v := (-1)) C.1 C.2.1 dX12_account_26 (by decide) ?_
        exact g_iret C hr hlocks hP hD hS rfl (uI t 0 0 0) rfl ⟨hok, hfr, (i_rng _).1, (i_rng _).2⟩ (Nat.le_of_ble_eq_true rfl) (Nat.le_of_ble_eq_true rfl) dX12_account_27
      · replace c_4 : 0 ≤ x2.toInt := i_nlt c_4
        refine lv_iload_n C.1 C.2.1 dX12_account_21 rfl (lv_at hl 2 rfl) ?_
        refine lv_iconst (v := 3) C.1 C.2.1 dX12_account_22 (by decide) ?_
        refine lv_icmp_le (tgt := 28) C.1 C.2.1 dX12_account_23 (by decide) (fun c_5 => ?_) (fun c_5 => ?_)
        · replace c_5 : x2.toInt ≤ 3 := i_le c_5
          refine lv_iload_n C.1 C.2.1 dX12_account_28 rfl (lv_at hl 2 rfl) ?_
          refine lv_if_ne (tgt := 41) C.1 C.2.1 dX12_account_29 (by decide) (fun c_6 => ?_) (fun c_6 => ?_)
          · replace c_6 : ¬ x2.toInt = 0 := i_ne c_6
            refine lv_iload_n C.1 C.2.1 dX12_account_41 rfl (lv_at hl 2 rfl) ?_
            refine lv_iconst (v := 1) C.1 C.2.1 dX12_account_42 (by decide) ?_
            refine lv_icmp_ne (tgt := 55) C.1 C.2.1 dX12_account_43 (by decide) (fun c_7 => ?_) (fun c_7 => ?_)
            · replace c_7 : ¬ x2.toInt = 1 := i_ne c_7
              refine lv_iload_n C.1 C.2.1 dX12_account_55 rfl (lv_at hl 2 rfl) ?_
              refine lv_iconst (v := 2) C.1 C.2.1 dX12_account_56 (by decide) ?_
              refine lv_icmp_ne (tgt := 69) C.1 C.2.1 dX12_account_57 (by decide) (fun c_8 => ?_) (fun c_8 => ?_)
              · replace c_8 : ¬ x2.toInt = 2 := i_ne c_8
                refine lv_aload_n C.1 C.2.1 dX12_account_69 rfl (lv_at hl 0 rfl) ?_
                refine k_get (v := .ref (ad 42)) C hP 0 rfl rfl inlX12 87 (by decide) m_9_2 rfl dX12_account_70 ?_
                refine lv_iload_n C.1 C.2.1 dX12_account_73 rfl (lv_at hl 1 rfl) ?_
                obtain ⟨v_9, e_10⟩ : ∃ z, z = (t.2.2.1 42 (x1 : Int32).toNatClampNeg) := ⟨_, rfl⟩
                refine k_ild (v := v_9) C hP 42 rfl (vp_in_iff.mpr ⟨by omega, by omega⟩) e_10.symm dX12_account_74 ?_
                exact g_iret C hr hlocks hP hD hS rfl (uI t 0 0 0) rfl ⟨hok, hfr, (i_rng _).1, (i_rng _).2⟩ (Nat.le_of_ble_eq_true rfl) (Nat.le_of_ble_eq_true rfl) dX12_account_75
              · replace c_8 : x2.toInt = 2 := i_eq c_8
                refine lv_aload_n C.1 C.2.1 dX12_account_60 rfl (lv_at hl 0 rfl) ?_
                refine k_get (v := .ref (ad 41)) C hP 0 rfl rfl inlX12 86 (by decide) m_9_1 rfl dX12_account_61 ?_
                refine lv_iload_n C.1 C.2.1 dX12_account_64 rfl (lv_at hl 1 rfl) ?_
                obtain ⟨v_11, e_12⟩ : ∃ z, z = (t.2.2.1 41 (x1 : Int32).toNatClampNeg) := ⟨_, rfl⟩
                refine k_ild (v := v_11) C hP 41 rfl (vp_in_iff.mpr ⟨by omega, by omega⟩) e_12.symm dX12_account_65 ?_
                refine lv_goto (tgt := 75) C.1 C.2.1 dX12_account_66 (by decide) ?_
                exact g_iret C hr hlocks hP hD hS rfl (uI t 0 0 0) rfl ⟨hok, hfr, (i_rng _).1, (i_rng _).2⟩ (Nat.le_of_ble_eq_true rfl) (Nat.le_of_ble_eq_true rfl) dX12_account_75
            · replace c_7 : x2.toInt = 1 := i_eq c_7
              refine lv_aload_n C.1 C.2.1 dX12_account_46 rfl (lv_at hl 0 rfl) ?_
              refine k_get (v := .ref (ad 40)) C hP 0 rfl rfl inlX12 85 (by decide) m_9_0 rfl dX12_account_47 ?_
              refine lv_iload_n C.1 C.2.1 dX12_account_50 rfl (lv_at hl 1 rfl) ?_
              obtain ⟨v_13, e_14⟩ : ∃ z, z = (t.2.2.1 40 (x1 : Int32).toNatClampNeg) := ⟨_, rfl⟩
              have h_15 : (-1 : Int) ≤ v_13.toInt ∧ v_13.toInt ≤ 9 := by rw [e_14]; exact hok.2.1 40 _
              refine k_ild (v := v_13) C hP 40 rfl (vp_in_iff.mpr ⟨by omega, by omega⟩) e_14.symm dX12_account_51 ?_
              refine lv_goto (tgt := 75) C.1 C.2.1 dX12_account_52 (by decide) ?_
              exact g_iret C hr hlocks hP hD hS rfl (uI t 0 0 0) rfl ⟨hok, hfr, (i_rng _).1, (i_rng _).2⟩ (Nat.le_of_ble_eq_true rfl) (Nat.le_of_ble_eq_true rfl) dX12_account_75
          · replace c_6 : x2.toInt = 0 := i_eq c_6
            refine lv_aload_n C.1 C.2.1 dX12_account_32 rfl (lv_at hl 0 rfl) ?_
            refine k_get (v := .ref (ad 39)) C hP 0 rfl rfl inlX12 84 (by decide) m_8_23 rfl dX12_account_33 ?_
            refine lv_iload_n C.1 C.2.1 dX12_account_36 rfl (lv_at hl 1 rfl) ?_
            obtain ⟨v_16, e_17⟩ : ∃ z, z = (t.2.2.1 39 (x1 : Int32).toNatClampNeg) := ⟨_, rfl⟩
            have h_18 : (0 : Int) ≤ v_16.toInt ∧ v_16.toInt ≤ 4 := by rw [e_17]; exact hok.2.1 39 _
            refine k_ild (v := v_16) C hP 39 rfl (vp_in_iff.mpr ⟨by omega, by omega⟩) e_17.symm dX12_account_37 ?_
            refine lv_goto (tgt := 75) C.1 C.2.1 dX12_account_38 (by decide) ?_
            exact g_iret C hr hlocks hP hD hS rfl (uI t 0 0 0) rfl ⟨hok, hfr, (i_rng _).1, (i_rng _).2⟩ (Nat.le_of_ble_eq_true rfl) (Nat.le_of_ble_eq_true rfl) dX12_account_75
        · replace c_5 : 3 < x2.toInt := i_nle c_5
          refine lv_iconst (v := (-1)) C.1 C.2.1 dX12_account_26 (by decide) ?_
          exact g_iret C hr hlocks hP hD hS rfl (uI t 0 0 0) rfl ⟨hok, hfr, (i_rng _).1, (i_rng _).2⟩ (Nat.le_of_ble_eq_true rfl) (Nat.le_of_ble_eq_true rfl) dX12_account_27

theorem dX12_state_0 : decode cX12_state 0 = .ok (.aload_n 0, 1) := by decide +kernel
theorem dX12_state_1 : decode cX12_state 1 = .ok (.iconst 0, 1) := by decide +kernel
theorem dX12_state_2 : decode cX12_state 2 = .ok (.putfield 155, 3) := by decide +kernel
theorem dX12_state_5 : decode cX12_state 5 = .ok (.aload_n 0, 1) := by decide +kernel
theorem dX12_state_6 : decode cX12_state 6 = .ok (.getfield 24, 3) := by decide +kernel
theorem dX12_state_9 : decode cX12_state 9 = .ok (.ireturn, 1) := by decide +kernel
set_option maxHeartbeats 4000000 in
set_option maxRecDepth 100000 in
theorem T_X12_state (l : Launch) (D : va_G) (K : Nat → ClassId) (Z Y : Nat → Nat) (ad : Nat → Nat) (t : tSt) (hok : okM t)  : tMet l yX12_state cX12_state 1 (some .int) (rmD 0 0 0) D K Z Y [.ref (ad 0)] (WM K ad t) (QI D K (fun (r : Int32) (u : tSt) => okM u ∧ frA [(0, 0)] [] [] [] t u ∧ (0 : Int) ≤ r.toInt ∧ r.toInt ≤ 10) (fun (u : tSt) => WM K ad u)) 0 0 := by
  refine t_met RX12 ⟨rfl, by decide +kernel⟩ (Nat.le_of_ble_eq_true rfl) ?_
  intro p e s m below meth c A ls C hE hZ hr hlocks hA hP hD hS hl
  have hl : lv_has ls 1 [(0, .ref (ad 0))] := hl
  have hokt := hok
  have hfr : frA [(0, 0)] [] [] [] t t := frA_rf
  refine lv_aload_n C.1 C.2.1 dX12_state_0 rfl (lv_at hl 0 rfl) ?_
  refine lv_iconst (v := 0) C.1 C.2.1 dX12_state_1 (by decide) ?_
  refine k_put (ws' := WM K ad (uI t 0 0 0)) (v := .int 0) C hP hD hS 0 rfl rfl inlX12 tyX12_ok nmX12 0 (by decide) m_9_18 rfl rfl rfl rfl rfl dX12_state_2 (fun H locs hP hD hS => ?_)
  have hok : okM (uI t 0 0 0) := ⟨okI_I hok.1 0 0 0 (show (0 : Int) ≤ (0 : Int32).toInt ∧ (0 : Int32).toInt ≤ 1 from ⟨by decide, by decide⟩), hok.2.1, hok.2.2.1, hok.2.2.2.1, hok.2.2.2.2.1, hok.2.2.2.2.2.1, hok.2.2.2.2.2.2.1, trivial⟩
  have hfr : frA [(0, 0)] [] [] [] t (uI t 0 0 0) := frA_I hfr 0 0 _ rfl
  refine lv_aload_n C.1 C.2.1 dX12_state_5 rfl (lv_at hl 0 rfl) ?_
  have h_1 : (0 : Int) ≤ (t.1 0 9).toInt ∧ (t.1 0 9).toInt ≤ 10 := hok.1 0 9
  refine k_get (v := .int (t.1 0 9)) C hP 0 rfl rfl inlX12 9 (by decide) m_7_8 rfl dX12_state_6 ?_
  exact g_iret C hr hlocks hP hD hS rfl (uI t 0 0 0) rfl ⟨hok, hfr, by omega, by omega⟩ (Nat.le_of_ble_eq_true rfl) (Nat.le_of_ble_eq_true rfl) dX12_state_9

theorem dX12_time_0 : decode cX12_time 0 = .ok (.aload_n 0, 1) := by decide +kernel
theorem dX12_time_1 : decode cX12_time 1 = .ok (.iconst 0, 1) := by decide +kernel
theorem dX12_time_2 : decode cX12_time 2 = .ok (.putfield 155, 3) := by decide +kernel
theorem dX12_time_5 : decode cX12_time 5 = .ok (.aload_n 0, 1) := by decide +kernel
theorem dX12_time_6 : decode cX12_time 6 = .ok (.getfield 272, 3) := by decide +kernel
theorem dX12_time_9 : decode cX12_time 9 = .ok (.lreturn, 1) := by decide +kernel
set_option maxHeartbeats 4000000 in
set_option maxRecDepth 100000 in
theorem T_X12_time (l : Launch) (D : va_G) (K : Nat → ClassId) (Z Y : Nat → Nat) (ad : Nat → Nat) (t : tSt) (hok : okM t)  : tMet l yX12_time cX12_time 1 (some .long) (rmD 0 0 0) D K Z Y [.ref (ad 0)] (WM K ad t) (QL D K (fun (r : Int64) (u : tSt) => okM u ∧ frA [(0, 0)] [] [] [] t u) (fun (u : tSt) => WM K ad u)) 0 0 := by
  refine t_met RX12 ⟨rfl, by decide +kernel⟩ (Nat.le_of_ble_eq_true rfl) ?_
  intro p e s m below meth c A ls C hE hZ hr hlocks hA hP hD hS hl
  have hl : lv_has ls 1 [(0, .ref (ad 0))] := hl
  have hokt := hok
  have hfr : frA [(0, 0)] [] [] [] t t := frA_rf
  refine lv_aload_n C.1 C.2.1 dX12_time_0 rfl (lv_at hl 0 rfl) ?_
  refine lv_iconst (v := 0) C.1 C.2.1 dX12_time_1 (by decide) ?_
  refine k_put (ws' := WM K ad (uI t 0 0 0)) (v := .int 0) C hP hD hS 0 rfl rfl inlX12 tyX12_ok nmX12 0 (by decide) m_9_18 rfl rfl rfl rfl rfl dX12_time_2 (fun H locs hP hD hS => ?_)
  have hok : okM (uI t 0 0 0) := ⟨okI_I hok.1 0 0 0 (show (0 : Int) ≤ (0 : Int32).toInt ∧ (0 : Int32).toInt ≤ 1 from ⟨by decide, by decide⟩), hok.2.1, hok.2.2.1, hok.2.2.2.1, hok.2.2.2.2.1, hok.2.2.2.2.2.1, hok.2.2.2.2.2.2.1, trivial⟩
  have hfr : frA [(0, 0)] [] [] [] t (uI t 0 0 0) := frA_I hfr 0 0 _ rfl
  refine lv_aload_n C.1 C.2.1 dX12_time_5 rfl (lv_at hl 0 rfl) ?_
  refine k_get (v := .long (t.2.1 0 8)) C hP 0 rfl rfl inlX12 8 (by decide) m_29_23 rfl dX12_time_6 ?_
  exact g_lret C hr hlocks hP hD hS (uI t 0 0 0) rfl ⟨hok, hfr⟩ (Nat.le_of_ble_eq_true rfl) (Nat.le_of_ble_eq_true rfl) dX12_time_9

theorem dX12_letter_0 : decode cX12_letter 0 = .ok (.aload_n 0, 1) := by decide +kernel
theorem dX12_letter_1 : decode cX12_letter 1 = .ok (.iconst 0, 1) := by decide +kernel
theorem dX12_letter_11 : decode cX12_letter 11 = .ok (.iload_n 1, 1) := by decide +kernel
theorem dX12_letter_12 : decode cX12_letter 12 = .ok (.bipush 19, 2) := by decide +kernel
theorem dX12_letter_14 : decode cX12_letter 14 = .ok (.if_icmp .gt 11, 3) := by decide +kernel
theorem dX12_letter_17 : decode cX12_letter 17 = .ok (.iload_n 2, 1) := by decide +kernel
theorem dX12_letter_18 : decode cX12_letter 18 = .ok (.ifCond .lt 7, 3) := by decide +kernel
theorem dX12_letter_2 : decode cX12_letter 2 = .ok (.putfield 155, 3) := by decide +kernel
theorem dX12_letter_21 : decode cX12_letter 21 = .ok (.iload_n 3, 1) := by decide +kernel
theorem dX12_letter_22 : decode cX12_letter 22 = .ok (.ifCond .ge 5, 3) := by decide +kernel
theorem dX12_letter_25 : decode cX12_letter 25 = .ok (.iconst (-1), 1) := by decide +kernel
theorem dX12_letter_26 : decode cX12_letter 26 = .ok (.ireturn, 1) := by decide +kernel
theorem dX12_letter_27 : decode cX12_letter 27 = .ok (.iload_n 2, 1) := by decide +kernel
theorem dX12_letter_28 : decode cX12_letter 28 = .ok (.aload_n 0, 1) := by decide +kernel
theorem dX12_letter_29 : decode cX12_letter 29 = .ok (.getfield 58, 3) := by decide +kernel
theorem dX12_letter_32 : decode cX12_letter 32 = .ok (.iload_n 1, 1) := by decide +kernel
theorem dX12_letter_33 : decode cX12_letter 33 = .ok (.bipush 17, 2) := by decide +kernel
theorem dX12_letter_35 : decode cX12_letter 35 = .ok (.isub, 1) := by decide +kernel
theorem dX12_letter_36 : decode cX12_letter 36 = .ok (.iaload, 1) := by decide +kernel
theorem dX12_letter_37 : decode cX12_letter 37 = .ok (.if_icmp .lt 5, 3) := by decide +kernel
theorem dX12_letter_40 : decode cX12_letter 40 = .ok (.iconst (-1), 1) := by decide +kernel
theorem dX12_letter_41 : decode cX12_letter 41 = .ok (.ireturn, 1) := by decide +kernel
theorem dX12_letter_42 : decode cX12_letter 42 = .ok (.sipush 300, 3) := by decide +kernel
theorem dX12_letter_45 : decode cX12_letter 45 = .ok (.iload_n 1, 1) := by decide +kernel
theorem dX12_letter_46 : decode cX12_letter 46 = .ok (.bipush 17, 2) := by decide +kernel
theorem dX12_letter_48 : decode cX12_letter 48 = .ok (.isub, 1) := by decide +kernel
theorem dX12_letter_49 : decode cX12_letter 49 = .ok (.imul, 1) := by decide +kernel
theorem dX12_letter_5 : decode cX12_letter 5 = .ok (.iload_n 1, 1) := by decide +kernel
theorem dX12_letter_50 : decode cX12_letter 50 = .ok (.iload_n 2, 1) := by decide +kernel
theorem dX12_letter_51 : decode cX12_letter 51 = .ok (.iadd, 1) := by decide +kernel
theorem dX12_letter_52 : decode cX12_letter 52 = .ok (.istore 4, 2) := by decide +kernel
theorem dX12_letter_54 : decode cX12_letter 54 = .ok (.iload_n 3, 1) := by decide +kernel
theorem dX12_letter_55 : decode cX12_letter 55 = .ok (.aload_n 0, 1) := by decide +kernel
theorem dX12_letter_56 : decode cX12_letter 56 = .ok (.getfield 55, 3) := by decide +kernel
theorem dX12_letter_59 : decode cX12_letter 59 = .ok (.iload 4, 2) := by decide +kernel
theorem dX12_letter_6 : decode cX12_letter 6 = .ok (.bipush 17, 2) := by decide +kernel
theorem dX12_letter_61 : decode cX12_letter 61 = .ok (.iaload, 1) := by decide +kernel
theorem dX12_letter_62 : decode cX12_letter 62 = .ok (.if_icmp .ge 18, 3) := by decide +kernel
theorem dX12_letter_65 : decode cX12_letter 65 = .ok (.aload_n 0, 1) := by decide +kernel
theorem dX12_letter_66 : decode cX12_letter 66 = .ok (.getfield 52, 3) := by decide +kernel
theorem dX12_letter_69 : decode cX12_letter 69 = .ok (.bipush 120, 2) := by decide +kernel
theorem dX12_letter_71 : decode cX12_letter 71 = .ok (.iload 4, 2) := by decide +kernel
theorem dX12_letter_73 : decode cX12_letter 73 = .ok (.imul, 1) := by decide +kernel
theorem dX12_letter_74 : decode cX12_letter 74 = .ok (.iload_n 3, 1) := by decide +kernel
theorem dX12_letter_75 : decode cX12_letter 75 = .ok (.iadd, 1) := by decide +kernel
theorem dX12_letter_76 : decode cX12_letter 76 = .ok (.baload, 1) := by decide +kernel
theorem dX12_letter_77 : decode cX12_letter 77 = .ok (.goto 4, 3) := by decide +kernel
theorem dX12_letter_8 : decode cX12_letter 8 = .ok (.if_icmp .lt 17, 3) := by decide +kernel
theorem dX12_letter_80 : decode cX12_letter 80 = .ok (.iconst (-1), 1) := by decide +kernel
theorem dX12_letter_81 : decode cX12_letter 81 = .ok (.ireturn, 1) := by decide +kernel
set_option maxHeartbeats 4000000 in
set_option maxRecDepth 100000 in
theorem T_X12_letter (l : Launch) (D : va_G) (K : Nat → ClassId) (Z Y : Nat → Nat) (ad : Nat → Nat) (t : tSt) (hok : okM t) (x1 : Int32) (x2 : Int32) (x3 : Int32) : tMet l yX12_letter cX12_letter 5 (some .int) (rmD 0 0 0) D K Z Y [.ref (ad 0), .int x1, .int x2, .int x3] (WM K ad t) (QI D K (fun (r : Int32) (u : tSt) => okM u ∧ frA [(0, 0)] [] [] [] t u ∧ (-3999 : Int) ≤ r.toInt ∧ r.toInt ≤ 127) (fun (u : tSt) => WM K ad u)) 0 0 := by
  refine t_met RX12 ⟨rfl, by decide +kernel⟩ (Nat.le_of_ble_eq_true rfl) ?_
  intro p e s m below meth c A ls C hE hZ hr hlocks hA hP hD hS hl
  have hl : lv_has ls 5 [(0, .ref (ad 0)), (1, .int x1), (2, .int x2), (3, .int x3)] := hl
  have hokt := hok
  have hfr : frA [(0, 0)] [] [] [] t t := frA_rf
  refine lv_aload_n C.1 C.2.1 dX12_letter_0 rfl (lv_at hl 0 rfl) ?_
  refine lv_iconst (v := 0) C.1 C.2.1 dX12_letter_1 (by decide) ?_
  refine k_put (ws' := WM K ad (uI t 0 0 0)) (v := .int 0) C hP hD hS 0 rfl rfl inlX12 tyX12_ok nmX12 0 (by decide) m_9_18 rfl rfl rfl rfl rfl dX12_letter_2 (fun H locs hP hD hS => ?_)
  have hok : okM (uI t 0 0 0) := ⟨okI_I hok.1 0 0 0 (show (0 : Int) ≤ (0 : Int32).toInt ∧ (0 : Int32).toInt ≤ 1 from ⟨by decide, by decide⟩), hok.2.1, hok.2.2.1, hok.2.2.2.1, hok.2.2.2.2.1, hok.2.2.2.2.2.1, hok.2.2.2.2.2.2.1, trivial⟩
  have hfr : frA [(0, 0)] [] [] [] t (uI t 0 0 0) := frA_I hfr 0 0 _ rfl
  refine lv_iload_n C.1 C.2.1 dX12_letter_5 rfl (lv_at hl 1 rfl) ?_
  refine lv_bipush (v := 17) C.1 C.2.1 dX12_letter_6 (by decide) ?_
  refine lv_icmp_lt (tgt := 25) C.1 C.2.1 dX12_letter_8 (by decide) (fun c_1 => ?_) (fun c_1 => ?_)
  · replace c_1 : x1.toInt < 17 := i_lt c_1
    refine lv_iconst (v := (-1)) C.1 C.2.1 dX12_letter_25 (by decide) ?_
    exact g_iret C hr hlocks hP hD hS rfl (uI t 0 0 0) rfl ⟨hok, hfr, by decide, by decide⟩ (Nat.le_of_ble_eq_true rfl) (Nat.le_of_ble_eq_true rfl) dX12_letter_26
  · replace c_1 : 17 ≤ x1.toInt := i_nlt c_1
    refine lv_iload_n C.1 C.2.1 dX12_letter_11 rfl (lv_at hl 1 rfl) ?_
    refine lv_bipush (v := 19) C.1 C.2.1 dX12_letter_12 (by decide) ?_
    refine lv_icmp_gt (tgt := 25) C.1 C.2.1 dX12_letter_14 (by decide) (fun c_2 => ?_) (fun c_2 => ?_)
    · replace c_2 : 19 < x1.toInt := i_lt c_2
      refine lv_iconst (v := (-1)) C.1 C.2.1 dX12_letter_25 (by decide) ?_
      exact g_iret C hr hlocks hP hD hS rfl (uI t 0 0 0) rfl ⟨hok, hfr, by decide, by decide⟩ (Nat.le_of_ble_eq_true rfl) (Nat.le_of_ble_eq_true rfl) dX12_letter_26
    · replace c_2 : x1.toInt ≤ 19 := i_nlt c_2
      refine lv_iload_n C.1 C.2.1 dX12_letter_17 rfl (lv_at hl 2 rfl) ?_
      refine lv_if_lt (tgt := 25) C.1 C.2.1 dX12_letter_18 (by decide) (fun c_3 => ?_) (fun c_3 => ?_)
      · replace c_3 : x2.toInt < 0 := i_lt c_3
        refine lv_iconst (v := (-1)) C.1 C.2.1 dX12_letter_25 (by decide) ?_
        exact g_iret C hr hlocks hP hD hS rfl (uI t 0 0 0) rfl ⟨hok, hfr, by decide, by decide⟩ (Nat.le_of_ble_eq_true rfl) (Nat.le_of_ble_eq_true rfl) dX12_letter_26
      · replace c_3 : 0 ≤ x2.toInt := i_nlt c_3
        refine lv_iload_n C.1 C.2.1 dX12_letter_21 rfl (lv_at hl 3 rfl) ?_
        refine lv_if_ge (tgt := 27) C.1 C.2.1 dX12_letter_22 (by decide) (fun c_4 => ?_) (fun c_4 => ?_)
        · replace c_4 : 0 ≤ x3.toInt := i_le c_4
          refine lv_iload_n C.1 C.2.1 dX12_letter_27 rfl (lv_at hl 2 rfl) ?_
          refine lv_aload_n C.1 C.2.1 dX12_letter_28 rfl (lv_at hl 0 rfl) ?_
          refine k_get (v := .ref (ad 13)) C hP 0 rfl rfl inlX12 28 (by decide) m_7_20 rfl dX12_letter_29 ?_
          refine lv_iload_n C.1 C.2.1 dX12_letter_32 rfl (lv_at hl 1 rfl) ?_
          refine lv_bipush (v := 17) C.1 C.2.1 dX12_letter_33 (by decide) ?_
          obtain ⟨v_5, e_6⟩ : ∃ z, z = (x1 : Int32) - (17 : Int32) := ⟨_, rfl⟩
          have h_7 : v_5.toInt = x1.toInt - 17 := by rw [e_6]; exact ti_isub (by show (_ : Int) ≤ x1.toInt - 17; omega) (by show x1.toInt - 17 < (_ : Int); omega)
          refine k_isub (v := v_5) C e_6.symm dX12_letter_35 ?_
          obtain ⟨v_8, e_9⟩ : ∃ z, z = (t.2.2.1 13 (v_5 : Int32).toNatClampNeg) := ⟨_, rfl⟩
          have h_10 : (0 : Int) ≤ v_8.toInt ∧ v_8.toInt ≤ 300 := by rw [e_9]; exact hok.2.1 13 _
          refine k_ild (v := v_8) C hP 13 rfl (vp_in_iff.mpr ⟨by omega, by omega⟩) e_9.symm dX12_letter_36 ?_
          refine lv_icmp_lt (tgt := 42) C.1 C.2.1 dX12_letter_37 (by decide) (fun c_11 => ?_) (fun c_11 => ?_)
          · replace c_11 : x2.toInt < v_8.toInt := i_lt c_11
            refine lv_sipush (v := 300) C.1 C.2.1 dX12_letter_42 (by decide) ?_
            refine lv_iload_n C.1 C.2.1 dX12_letter_45 rfl (lv_at hl 1 rfl) ?_
            refine lv_bipush (v := 17) C.1 C.2.1 dX12_letter_46 (by decide) ?_
            obtain ⟨v_12, e_13⟩ : ∃ z, z = (x1 : Int32) - (17 : Int32) := ⟨_, rfl⟩
            have h_14 : v_12.toInt = x1.toInt - 17 := by rw [e_13]; exact ti_isub (by show (_ : Int) ≤ x1.toInt - 17; omega) (by show x1.toInt - 17 < (_ : Int); omega)
            refine k_isub (v := v_12) C e_13.symm dX12_letter_48 ?_
            obtain ⟨v_15, e_16⟩ : ∃ z, z = (300 : Int32) * (v_12 : Int32) := ⟨_, rfl⟩
            have h_17 : v_15.toInt = 300 * v_12.toInt := by rw [e_16]; exact ti_mull (k := 300) (by decide) (by omega) (by omega)
            refine k_imul (v := v_15) C e_16.symm dX12_letter_49 ?_
            refine lv_iload_n C.1 C.2.1 dX12_letter_50 rfl (lv_at hl 2 rfl) ?_
            obtain ⟨v_18, e_19⟩ : ∃ z, z = (v_15 : Int32) + (x2 : Int32) := ⟨_, rfl⟩
            have h_20 : v_18.toInt = v_15.toInt + x2.toInt := by rw [e_19]; exact ti_iadd (by show (_ : Int) ≤ v_15.toInt + x2.toInt; omega) (by show v_15.toInt + x2.toInt < (_ : Int); omega)
            refine k_iadd (v := v_18) C e_19.symm dX12_letter_51 ?_
            refine lv_istore (lv' := [(4, .int v_18), (0, .ref (ad 0)), (1, .int x1), (2, .int x2), (3, .int x3)]) C.1 C.2.1 dX12_letter_52 hl (by decide) rfl (fun ls hl => ?_)
            have hl : lv_has ls 5 [(0, .ref (ad 0)), (1, .int x1), (2, .int x2), (3, .int x3), (4, .int v_18)] := lv_sub hl [1, 2, 3, 4, 0] rfl
            refine lv_iload_n C.1 C.2.1 dX12_letter_54 rfl (lv_at hl 3 rfl) ?_
            refine lv_aload_n C.1 C.2.1 dX12_letter_55 rfl (lv_at hl 0 rfl) ?_
            refine k_get (v := .ref (ad 12)) C hP 0 rfl rfl inlX12 27 (by decide) m_7_19 rfl dX12_letter_56 ?_
            refine lv_iload C.1 C.2.1 dX12_letter_59 (lv_at hl 4 rfl) ?_
            obtain ⟨v_21, e_22⟩ : ∃ z, z = (t.2.2.1 12 (v_18 : Int32).toNatClampNeg) := ⟨_, rfl⟩
            have h_23 : (0 : Int) ≤ v_21.toInt ∧ v_21.toInt ≤ 120 := by rw [e_22]; exact hok.2.1 12 _
            refine k_ild (v := v_21) C hP 12 rfl (vp_in_iff.mpr ⟨by omega, by omega⟩) e_22.symm dX12_letter_61 ?_
            refine lv_icmp_ge (tgt := 80) C.1 C.2.1 dX12_letter_62 (by decide) (fun c_24 => ?_) (fun c_24 => ?_)
            · replace c_24 : v_21.toInt ≤ x3.toInt := i_le c_24
              refine lv_iconst (v := (-1)) C.1 C.2.1 dX12_letter_80 (by decide) ?_
              exact g_iret C hr hlocks hP hD hS rfl (uI t 0 0 0) rfl ⟨hok, hfr, by decide, by decide⟩ (Nat.le_of_ble_eq_true rfl) (Nat.le_of_ble_eq_true rfl) dX12_letter_81
            · replace c_24 : x3.toInt < v_21.toInt := i_nle c_24
              refine lv_aload_n C.1 C.2.1 dX12_letter_65 rfl (lv_at hl 0 rfl) ?_
              refine k_get (v := .ref (ad 11)) C hP 0 rfl rfl inlX12 26 (by decide) m_7_18 rfl dX12_letter_66 ?_
              refine lv_bipush (v := 120) C.1 C.2.1 dX12_letter_69 (by decide) ?_
              refine lv_iload C.1 C.2.1 dX12_letter_71 (lv_at hl 4 rfl) ?_
              obtain ⟨v_25, e_26⟩ : ∃ z, z = (120 : Int32) * (v_18 : Int32) := ⟨_, rfl⟩
              have h_27 : v_25.toInt = 120 * v_18.toInt := by rw [e_26]; exact ti_mull (k := 120) (by decide) (by omega) (by omega)
              refine k_imul (v := v_25) C e_26.symm dX12_letter_73 ?_
              refine lv_iload_n C.1 C.2.1 dX12_letter_74 rfl (lv_at hl 3 rfl) ?_
              obtain ⟨v_28, e_29⟩ : ∃ z, z = (v_25 : Int32) + (x3 : Int32) := ⟨_, rfl⟩
              have h_30 : v_28.toInt = v_25.toInt + x3.toInt := by rw [e_29]; exact ti_iadd (by show (_ : Int) ≤ v_25.toInt + x3.toInt; omega) (by show v_25.toInt + x3.toInt < (_ : Int); omega)
              refine k_iadd (v := v_28) C e_29.symm dX12_letter_75 ?_
              obtain ⟨v_31, e_32⟩ : ∃ z, z = (t.2.2.1 11 (v_28 : Int32).toNatClampNeg) := ⟨_, rfl⟩
              have h_33 : (-3999 : Int) ≤ v_31.toInt ∧ v_31.toInt ≤ 127 := by rw [e_32]; exact hok.2.1 11 _
              refine k_bld (v := v_31) C hP 11 rfl (vp_in_iff.mpr ⟨by omega, by omega⟩) e_32.symm dX12_letter_76 ?_
              refine lv_goto (tgt := 81) C.1 C.2.1 dX12_letter_77 (by decide) ?_
              exact g_iret C hr hlocks hP hD hS rfl (uI t 0 0 0) rfl ⟨hok, hfr, by omega, by omega⟩ (Nat.le_of_ble_eq_true rfl) (Nat.le_of_ble_eq_true rfl) dX12_letter_81
          · replace c_11 : v_8.toInt ≤ x2.toInt := i_nlt c_11
            refine lv_iconst (v := (-1)) C.1 C.2.1 dX12_letter_40 (by decide) ?_
            exact g_iret C hr hlocks hP hD hS rfl (uI t 0 0 0) rfl ⟨hok, hfr, by decide, by decide⟩ (Nat.le_of_ble_eq_true rfl) (Nat.le_of_ble_eq_true rfl) dX12_letter_41
        · replace c_4 : x3.toInt < 0 := i_nle c_4
          refine lv_iconst (v := (-1)) C.1 C.2.1 dX12_letter_25 (by decide) ?_
          exact g_iret C hr hlocks hP hD hS rfl (uI t 0 0 0) rfl ⟨hok, hfr, by decide, by decide⟩ (Nat.le_of_ble_eq_true rfl) (Nat.le_of_ble_eq_true rfl) dX12_letter_26

theorem dX12_tear_0 : decode cX12_tear 0 = .ok (.aload_n 0, 1) := by decide +kernel
theorem dX12_tear_1 : decode cX12_tear 1 = .ok (.iconst 0, 1) := by decide +kernel
theorem dX12_tear_12 : decode cX12_tear 12 = .ok (.aload_n 0, 1) := by decide +kernel
theorem dX12_tear_13 : decode cX12_tear 13 = .ok (.getfield 58, 3) := by decide +kernel
theorem dX12_tear_16 : decode cX12_tear 16 = .ok (.iload_n 1, 1) := by decide +kernel
theorem dX12_tear_17 : decode cX12_tear 17 = .ok (.iconst 0, 1) := by decide +kernel
theorem dX12_tear_18 : decode cX12_tear 18 = .ok (.iastore, 1) := by decide +kernel
theorem dX12_tear_19 : decode cX12_tear 19 = .ok (.iinc 1 1, 3) := by decide +kernel
theorem dX12_tear_2 : decode cX12_tear 2 = .ok (.putfield 155, 3) := by decide +kernel
theorem dX12_tear_22 : decode cX12_tear 22 = .ok (.goto (-15), 3) := by decide +kernel
theorem dX12_tear_25 : decode cX12_tear 25 = .ok (.return_, 1) := by decide +kernel
theorem dX12_tear_5 : decode cX12_tear 5 = .ok (.iconst 0, 1) := by decide +kernel
theorem dX12_tear_6 : decode cX12_tear 6 = .ok (.istore_n 1, 1) := by decide +kernel
theorem dX12_tear_7 : decode cX12_tear 7 = .ok (.iload_n 1, 1) := by decide +kernel
theorem dX12_tear_8 : decode cX12_tear 8 = .ok (.iconst 3, 1) := by decide +kernel
theorem dX12_tear_9 : decode cX12_tear 9 = .ok (.if_icmp .ge 16, 3) := by decide +kernel
set_option maxHeartbeats 4000000 in
set_option maxRecDepth 100000 in
theorem T_X12_tear (l : Launch) (D : va_G) (K : Nat → ClassId) (Z Y : Nat → Nat) (ad : Nat → Nat) (t : tSt) (hok : okM t)  : tMet l yX12_tear cX12_tear 2 none (rmD 0 0 0) D K Z Y [.ref (ad 0)] (WM K ad t) (QV D K (fun (u : tSt) => okM u ∧ frA [(0, 0)] [] [13] [] t u) (fun (u : tSt) => WM K ad u)) 0 0 := by
  refine t_met RX12 ⟨rfl, by decide +kernel⟩ (Nat.le_of_ble_eq_true rfl) ?_
  intro p e s m below meth c A ls C hE hZ hr hlocks hA hP hD hS hl
  have hl : lv_has ls 2 [(0, .ref (ad 0))] := hl
  have hokt := hok
  have hfr : frA [(0, 0)] [] [13] [] t t := frA_rf
  have L_7 : ∀ (fuel_7 : Nat) (t1 : tSt) (w7_1 : Int32) (H : Heap) (locs : List Loc) (ls : Array Slot), okM t1 → frA [(0, 0)] [] [13] [] t t1 → (0 : Int) ≤ w7_1.toInt ∧ w7_1.toInt ≤ 3 → (0 : Int) ≤ (t1.1 0 0).toInt ∧ (t1.1 0 0).toInt ≤ 0 → (3 : Int) - w7_1.toInt < (fuel_7 : Int) → va_P D vwCl (WM K ad t1) H → va_D A (WM K ad t1) → va_S A s.heap H locs → lv_has ls 2 [(0, .ref (ad 0)), (1, .int w7_1)] → W p l e (rmD 0 0 0) s m [.ref (ad 0)].toArray below meth c H locs 0 0 (MQ below (QV D K (fun (u : tSt) => okM u ∧ frA [(0, 0)] [] [13] [] t u) (fun (u : tSt) => WM K ad u) A) [.ref (ad 0)].toArray s 0 0 A) (F0 m 7 ls []) := by
    intro fuel_7
    induction fuel_7 with
    | zero =>
      intro t1 w7_1 H locs ls hok hfr hw7_1 hf7_0 hm7_7 hP hD hS hl
      exact absurd hm7_7 (by omega)
    | succ fuel_7 ih_7 =>
      intro t1 w7_1 H locs ls hok hfr hw7_1 hf7_0 hm7_7 hP hD hS hl
      have hm7_7 : (3 : Int) - w7_1.toInt < (fuel_7 : Int) + 1 := by omega
      refine lv_iload_n C.1 C.2.1 dX12_tear_7 rfl (lv_at hl 1 rfl) ?_
      refine lv_iconst (v := 3) C.1 C.2.1 dX12_tear_8 (by decide) ?_
      refine lv_icmp_ge (tgt := 25) C.1 C.2.1 dX12_tear_9 (by decide) (fun c_1 => ?_) (fun c_1 => ?_)
      · replace c_1 : 3 ≤ w7_1.toInt := i_le c_1
        exact g_vret C hr hlocks hP hD hS t1 rfl ⟨hok, hfr⟩ (Nat.le_of_ble_eq_true rfl) (Nat.le_of_ble_eq_true rfl) dX12_tear_25
      · replace c_1 : w7_1.toInt < 3 := i_nle c_1
        refine lv_aload_n C.1 C.2.1 dX12_tear_12 rfl (lv_at hl 0 rfl) ?_
        refine k_get (v := .ref (ad 13)) C hP 0 rfl rfl inlX12 28 (by decide) m_7_20 rfl dX12_tear_13 ?_
        refine lv_iload_n C.1 C.2.1 dX12_tear_16 rfl (lv_at hl 1 rfl) ?_
        refine lv_iconst (v := 0) C.1 C.2.1 dX12_tear_17 (by decide) ?_
        refine k_ist (ws' := WM K ad (uB t1 13 (w7_1 : Int32).toNatClampNeg 0)) (x' := 0) C hP hD hS 13 rfl (vp_in_iff.mpr ⟨by omega, by omega⟩) rfl rfl rfl dX12_tear_18 (fun H locs hP hD hS => ?_)
        have hok : okM (uB t1 13 (w7_1 : Int32).toNatClampNeg 0) := ⟨hok.1, okB_B hok.2.1 13 _ 0 (show (0 : Int) ≤ (0 : Int32).toInt ∧ (0 : Int32).toInt ≤ 300 from ⟨by decide, by decide⟩), hok.2.2.1, hok.2.2.2.1, hok.2.2.2.2.1, hok.2.2.2.2.2.1, hok.2.2.2.2.2.2.1, trivial⟩
        have hfr : frA [(0, 0)] [] [13] [] t (uB t1 13 (w7_1 : Int32).toNatClampNeg 0) := frA_B hfr 13 _ _ rfl
        obtain ⟨v_2, e_3⟩ : ∃ z, z = w7_1 + 1 := ⟨_, rfl⟩
        have h_4 : v_2.toInt = w7_1.toInt + 1 := by rw [e_3]; exact ti_iadd (by show (_ : Int) ≤ w7_1.toInt + 1; omega) (by show w7_1.toInt + 1 < (_ : Int); omega)
        refine lv_iinc (v := v_2) (lv' := [(1, .int v_2), (0, .ref (ad 0))]) C.1 C.2.1 dX12_tear_19 hl (k := 1) rfl e_3.symm (by decide) rfl (fun ls hl => ?_)
        have hl : lv_has ls 2 [(0, .ref (ad 0)), (1, .int v_2)] := lv_sub hl [1, 0] rfl
        refine lv_goto (tgt := 7) C.1 C.2.1 dX12_tear_22 (by decide) ?_
        exact ih_7 (uB t1 13 (w7_1 : Int32).toNatClampNeg 0) v_2 _ _ _ hok hfr ⟨by omega, by omega⟩ (show (0 : Int) ≤ ((t1.1 0 0) : Int32).toInt ∧ ((t1.1 0 0) : Int32).toInt ≤ 0 from ⟨by omega, by omega⟩) (show (3 : Int) - v_2.toInt < (fuel_7 : Int) from by omega) hP hD hS (lv_sub hl [0, 1] rfl)
  refine lv_aload_n C.1 C.2.1 dX12_tear_0 rfl (lv_at hl 0 rfl) ?_
  refine lv_iconst (v := 0) C.1 C.2.1 dX12_tear_1 (by decide) ?_
  refine k_put (ws' := WM K ad (uI t 0 0 0)) (v := .int 0) C hP hD hS 0 rfl rfl inlX12 tyX12_ok nmX12 0 (by decide) m_9_18 rfl rfl rfl rfl rfl dX12_tear_2 (fun H locs hP hD hS => ?_)
  have hok : okM (uI t 0 0 0) := ⟨okI_I hok.1 0 0 0 (show (0 : Int) ≤ (0 : Int32).toInt ∧ (0 : Int32).toInt ≤ 1 from ⟨by decide, by decide⟩), hok.2.1, hok.2.2.1, hok.2.2.2.1, hok.2.2.2.2.1, hok.2.2.2.2.2.1, hok.2.2.2.2.2.2.1, trivial⟩
  have hfr : frA [(0, 0)] [] [13] [] t (uI t 0 0 0) := frA_I hfr 0 0 _ rfl
  refine lv_iconst (v := 0) C.1 C.2.1 dX12_tear_5 (by decide) ?_
  refine lv_istore_n (lv' := [(1, .int 0), (0, .ref (ad 0))]) C.1 C.2.1 dX12_tear_6 rfl hl (by decide) rfl (fun ls hl => ?_)
  have hl : lv_has ls 2 [(0, .ref (ad 0)), (1, .int 0)] := lv_sub hl [1, 0] rfl
  exact L_7 4 (uI t 0 0 0) 0 _ _ _ hok hfr ⟨by decide, by decide⟩ (show (0 : Int) ≤ (0 : Int32).toInt ∧ (0 : Int32).toInt ≤ 0 from ⟨by decide, by decide⟩) (show (3 : Int) - 0 < ((4 : Nat) : Int) from by omega) hP hD hS (lv_sub hl [0, 1] rfl)

theorem dX12_lay_0 : decode cX12_lay 0 = .ok (.bipush 24, 2) := by decide +kernel
theorem dX12_lay_11 : decode cX12_lay 11 = .ok (.aload_n 0, 1) := by decide +kernel
theorem dX12_lay_12 : decode cX12_lay 12 = .ok (.getfield 176, 3) := by decide +kernel
theorem dX12_lay_15 : decode cX12_lay 15 = .ok (.iload_n 1, 1) := by decide +kernel
theorem dX12_lay_16 : decode cX12_lay 16 = .ok (.iload_n 2, 1) := by decide +kernel
theorem dX12_lay_17 : decode cX12_lay 17 = .ok (.ishr, 1) := by decide +kernel
theorem dX12_lay_18 : decode cX12_lay 18 = .ok (.i2b, 1) := by decide +kernel
theorem dX12_lay_19 : decode cX12_lay 19 = .ok (.bastore, 1) := by decide +kernel
theorem dX12_lay_2 : decode cX12_lay 2 = .ok (.istore_n 2, 1) := by decide +kernel
theorem dX12_lay_20 : decode cX12_lay 20 = .ok (.aload_n 0, 1) := by decide +kernel
theorem dX12_lay_21 : decode cX12_lay 21 = .ok (.dup, 1) := by decide +kernel
theorem dX12_lay_22 : decode cX12_lay 22 = .ok (.getfield 176, 3) := by decide +kernel
theorem dX12_lay_25 : decode cX12_lay 25 = .ok (.iconst 1, 1) := by decide +kernel
theorem dX12_lay_26 : decode cX12_lay 26 = .ok (.iadd, 1) := by decide +kernel
theorem dX12_lay_27 : decode cX12_lay 27 = .ok (.putfield 176, 3) := by decide +kernel
theorem dX12_lay_3 : decode cX12_lay 3 = .ok (.iload_n 2, 1) := by decide +kernel
theorem dX12_lay_30 : decode cX12_lay 30 = .ok (.iinc 2 (-8), 3) := by decide +kernel
theorem dX12_lay_33 : decode cX12_lay 33 = .ok (.goto (-30), 3) := by decide +kernel
theorem dX12_lay_36 : decode cX12_lay 36 = .ok (.return_, 1) := by decide +kernel
theorem dX12_lay_4 : decode cX12_lay 4 = .ok (.ifCond .lt 32, 3) := by decide +kernel
theorem dX12_lay_7 : decode cX12_lay 7 = .ok (.aload_n 0, 1) := by decide +kernel
theorem dX12_lay_8 : decode cX12_lay 8 = .ok (.getfield 9, 3) := by decide +kernel
set_option maxHeartbeats 4000000 in
set_option maxRecDepth 100000 in
theorem T_X12_lay (l : Launch) (D : va_G) (K : Nat → ClassId) (Z Y : Nat → Nat) (ad : Nat → Nat) (t : tSt) (hok : okM t) (x1 : Int32) (hs0 : (t.1 0 2).toInt ≤ 1276) : tMet l yX12_lay cX12_lay 3 none (rmD 0 0 0) D K Z Y [.ref (ad 0), .int x1] (WM K ad t) (QV D K (fun (u : tSt) => okM u ∧ frA [(0, 2)] [] [1] [] t u ∧ ((u.1 0 2).toInt = (t.1 0 2).toInt + 4)) (fun (u : tSt) => WM K ad u)) 0 0 := by
  refine t_met RX12 ⟨rfl, by decide +kernel⟩ (Nat.le_of_ble_eq_true rfl) ?_
  intro p e s m below meth c A ls C hE hZ hr hlocks hA hP hD hS hl
  have hl : lv_has ls 3 [(0, .ref (ad 0)), (1, .int x1)] := hl
  have hokt := hok
  have hfr : frA [(0, 2)] [] [1] [] t t := frA_rf
  have h_1 : (0 : Int) ≤ (t.1 0 2).toInt ∧ (t.1 0 2).toInt ≤ 1280 := hok.1 0 2
  have L_3 : ∀ (fuel_3 : Nat) (t1 : tSt) (w3_2 : Int32) (H : Heap) (locs : List Loc) (ls : Array Slot), okM t1 → frA [(0, 2)] [] [1] [] t t1 → (-3999 : Int) ≤ w3_2.toInt ∧ w3_2.toInt ≤ 24 → ((t1.1 0 2).toInt * 8 + w3_2.toInt = (t.1 0 2).toInt * 8 + 24) → (-8 ≤ w3_2.toInt) → w3_2.toInt - (-3999 : Int) < (fuel_3 : Int) → va_P D vwCl (WM K ad t1) H → va_D A (WM K ad t1) → va_S A s.heap H locs → lv_has ls 3 [(0, .ref (ad 0)), (1, .int x1), (2, .int w3_2)] → W p l e (rmD 0 0 0) s m [.ref (ad 0), .int x1].toArray below meth c H locs 0 0 (MQ below (QV D K (fun (u : tSt) => okM u ∧ frA [(0, 2)] [] [1] [] t u ∧ ((u.1 0 2).toInt = (t.1 0 2).toInt + 4)) (fun (u : tSt) => WM K ad u) A) [.ref (ad 0), .int x1].toArray s 0 0 A) (F0 m 3 ls []) := by
    intro fuel_3
    induction fuel_3 with
    | zero =>
      intro t1 w3_2 H locs ls hok hfr hw3_2 hi3_0 hi3_1 hm3_3 hP hD hS hl
      have h_2 : (0 : Int) ≤ (t1.1 0 2).toInt ∧ (t1.1 0 2).toInt ≤ 1280 := hok.1 0 2
      exact absurd hm3_3 (by omega)
    | succ fuel_3 ih_3 =>
      intro t1 w3_2 H locs ls hok hfr hw3_2 hi3_0 hi3_1 hm3_3 hP hD hS hl
      have hm3_3 : w3_2.toInt - (-3999 : Int) < (fuel_3 : Int) + 1 := by omega
      have h_3 : (0 : Int) ≤ (t1.1 0 2).toInt ∧ (t1.1 0 2).toInt ≤ 1280 := hok.1 0 2
      refine lv_iload_n C.1 C.2.1 dX12_lay_3 rfl (lv_at hl 2 rfl) ?_
      refine lv_if_lt (tgt := 36) C.1 C.2.1 dX12_lay_4 (by decide) (fun c_4 => ?_) (fun c_4 => ?_)
      · replace c_4 : w3_2.toInt < 0 := i_lt c_4
        exact g_vret C hr hlocks hP hD hS t1 rfl ⟨hok, hfr, (show (t1.1 0 2).toInt = (t.1 0 2).toInt + 4 from by omega)⟩ (Nat.le_of_ble_eq_true rfl) (Nat.le_of_ble_eq_true rfl) dX12_lay_36
      · replace c_4 : 0 ≤ w3_2.toInt := i_nlt c_4
        refine lv_aload_n C.1 C.2.1 dX12_lay_7 rfl (lv_at hl 0 rfl) ?_
        refine k_get (v := .ref (ad 1)) C hP 0 rfl rfl inlX12 1 (by decide) m_7_4 rfl dX12_lay_8 ?_
        refine lv_aload_n C.1 C.2.1 dX12_lay_11 rfl (lv_at hl 0 rfl) ?_
        refine k_get (v := .int (t1.1 0 2)) C hP 0 rfl rfl inlX12 2 (by decide) m_9_19 rfl dX12_lay_12 ?_
        refine lv_iload_n C.1 C.2.1 dX12_lay_15 rfl (lv_at hl 1 rfl) ?_
        refine lv_iload_n C.1 C.2.1 dX12_lay_16 rfl (lv_at hl 2 rfl) ?_
        obtain ⟨v_5, e_6⟩ : ∃ z, z = (x1 : Int32) >>> ((w3_2 : Int32) &&& 31) := ⟨_, rfl⟩
        refine k_ishr (v := v_5) C e_6.symm dX12_lay_17 ?_
        obtain ⟨v_8, e_9⟩ : ∃ z, z = (v_5 : Int32).toInt8.toInt32 := ⟨_, rfl⟩
        have h_10 : (-128 : Int) ≤ v_8.toInt ∧ v_8.toInt ≤ 127 := by rw [e_9]; exact nar_byte _
        refine lv_i2b (v := v_8) C.1 C.2.1 dX12_lay_18 e_9.symm ?_
        obtain ⟨v_11, e_12⟩ : ∃ z, z = vp_nar .byte v_8 := ⟨_, rfl⟩
        have h_13 : (-128 : Int) ≤ v_11.toInt ∧ v_11.toInt ≤ 127 := by rw [e_12]; exact nar_byte _
        refine k_bst (ws' := WM K ad (uB t1 1 ((t1.1 0 2) : Int32).toNatClampNeg v_11)) (x' := v_11) C hP hD hS 1 rfl (vp_in_iff.mpr ⟨by omega, by omega⟩) rfl e_12.symm rfl dX12_lay_19 (fun H locs hP hD hS => ?_)
        have hok : okM (uB t1 1 ((t1.1 0 2) : Int32).toNatClampNeg v_11) := ⟨hok.1, okB_B hok.2.1 1 _ v_11 (show (-3999 : Int) ≤ (v_11 : Int32).toInt ∧ (v_11 : Int32).toInt ≤ 127 from ⟨by omega, by omega⟩), hok.2.2.1, hok.2.2.2.1, hok.2.2.2.2.1, hok.2.2.2.2.2.1, hok.2.2.2.2.2.2.1, trivial⟩
        have hfr : frA [(0, 2)] [] [1] [] t (uB t1 1 ((t1.1 0 2) : Int32).toNatClampNeg v_11) := frA_B hfr 1 _ _ rfl
        refine lv_aload_n C.1 C.2.1 dX12_lay_20 rfl (lv_at hl 0 rfl) ?_
        refine lv_dup C.1 C.2.1 dX12_lay_21 rfl ?_
        refine k_get (v := .int (t1.1 0 2)) C hP 0 rfl rfl inlX12 2 (by decide) m_9_19 rfl dX12_lay_22 ?_
        refine lv_iconst (v := 1) C.1 C.2.1 dX12_lay_25 (by decide) ?_
        obtain ⟨v_14, e_15⟩ : ∃ z, z = ((t1.1 0 2) : Int32) + (1 : Int32) := ⟨_, rfl⟩
        have h_16 : v_14.toInt = (t1.1 0 2).toInt + 1 := by rw [e_15]; exact ti_iadd (by show (_ : Int) ≤ (t1.1 0 2).toInt + 1; omega) (by show (t1.1 0 2).toInt + 1 < (_ : Int); omega)
        refine k_iadd (v := v_14) C e_15.symm dX12_lay_26 ?_
        refine k_put (ws' := WM K ad (uI (uB t1 1 ((t1.1 0 2) : Int32).toNatClampNeg v_11) 0 2 v_14)) (v := .int v_14) C hP hD hS 0 rfl rfl inlX12 tyX12_ok nmX12 2 (by decide) m_9_19 rfl rfl rfl rfl rfl dX12_lay_27 (fun H locs hP hD hS => ?_)
        have hok : okM (uI (uB t1 1 ((t1.1 0 2) : Int32).toNatClampNeg v_11) 0 2 v_14) := ⟨okI_I hok.1 0 2 v_14 (show (0 : Int) ≤ (v_14 : Int32).toInt ∧ (v_14 : Int32).toInt ≤ 1280 from ⟨by omega, by omega⟩), hok.2.1, hok.2.2.1, hok.2.2.2.1, hok.2.2.2.2.1, hok.2.2.2.2.2.1, hok.2.2.2.2.2.2.1, trivial⟩
        have hfr : frA [(0, 2)] [] [1] [] t (uI (uB t1 1 ((t1.1 0 2) : Int32).toNatClampNeg v_11) 0 2 v_14) := frA_I hfr 0 2 _ rfl
        obtain ⟨v_17, e_18⟩ : ∃ z, z = w3_2 + (-8) := ⟨_, rfl⟩
        have h_19 : v_17.toInt = w3_2.toInt + (-8) := by rw [e_18]; exact ti_iadd (by show (_ : Int) ≤ w3_2.toInt + (-8); omega) (by show w3_2.toInt + (-8) < (_ : Int); omega)
        refine lv_iinc (v := v_17) (lv' := [(2, .int v_17), (0, .ref (ad 0)), (1, .int x1)]) C.1 C.2.1 dX12_lay_30 hl (k := 2) rfl e_18.symm (by decide) rfl (fun ls hl => ?_)
        have hl : lv_has ls 3 [(0, .ref (ad 0)), (1, .int x1), (2, .int v_17)] := lv_sub hl [1, 2, 0] rfl
        refine lv_goto (tgt := 3) C.1 C.2.1 dX12_lay_33 (by decide) ?_
        exact ih_3 (uI (uB t1 1 ((t1.1 0 2) : Int32).toNatClampNeg v_11) 0 2 v_14) v_17 _ _ _ hok hfr ⟨by omega, by omega⟩ (show v_14.toInt * 8 + v_17.toInt = (t.1 0 2).toInt * 8 + 24 from by omega) (show -8 ≤ v_17.toInt from by omega) (show v_17.toInt - (-3999 : Int) < (fuel_3 : Int) from by omega) hP hD hS (lv_sub hl [0, 1, 2] rfl)
  refine lv_bipush (v := 24) C.1 C.2.1 dX12_lay_0 (by decide) ?_
  refine lv_istore_n (lv' := [(2, .int 24), (0, .ref (ad 0)), (1, .int x1)]) C.1 C.2.1 dX12_lay_2 rfl hl (by decide) rfl (fun ls hl => ?_)
  have hl : lv_has ls 3 [(0, .ref (ad 0)), (1, .int x1), (2, .int 24)] := lv_sub hl [1, 2, 0] rfl
  exact L_3 4024 t 24 _ _ _ hok hfr ⟨by decide, by decide⟩ (show (t.1 0 2).toInt * 8 + 24 = (t.1 0 2).toInt * 8 + 24 from by omega) (show -8 ≤ 24 from by omega) (show 24 - (-3999 : Int) < ((4024 : Nat) : Int) from by omega) hP hD hS (lv_sub hl [0, 1, 2] rfl)

theorem dX12_copyText_0 : decode cX12_copyText 0 = .ok (.iconst 0, 1) := by decide +kernel
theorem dX12_copyText_1 : decode cX12_copyText 1 = .ok (.istore_n 3, 1) := by decide +kernel
theorem dX12_copyText_11 : decode cX12_copyText 11 = .ok (.iload_n 3, 1) := by decide +kernel
theorem dX12_copyText_12 : decode cX12_copyText 12 = .ok (.aload_n 1, 1) := by decide +kernel
theorem dX12_copyText_13 : decode cX12_copyText 13 = .ok (.iload_n 3, 1) := by decide +kernel
theorem dX12_copyText_14 : decode cX12_copyText 14 = .ok (.baload, 1) := by decide +kernel
theorem dX12_copyText_15 : decode cX12_copyText 15 = .ok (.bastore, 1) := by decide +kernel
theorem dX12_copyText_16 : decode cX12_copyText 16 = .ok (.iinc 3 1, 3) := by decide +kernel
theorem dX12_copyText_19 : decode cX12_copyText 19 = .ok (.goto (-17), 3) := by decide +kernel
theorem dX12_copyText_2 : decode cX12_copyText 2 = .ok (.iload_n 3, 1) := by decide +kernel
theorem dX12_copyText_22 : decode cX12_copyText 22 = .ok (.aload_n 0, 1) := by decide +kernel
theorem dX12_copyText_23 : decode cX12_copyText 23 = .ok (.iload_n 2, 1) := by decide +kernel
theorem dX12_copyText_24 : decode cX12_copyText 24 = .ok (.putfield 433, 3) := by decide +kernel
theorem dX12_copyText_27 : decode cX12_copyText 27 = .ok (.return_, 1) := by decide +kernel
theorem dX12_copyText_3 : decode cX12_copyText 3 = .ok (.iload_n 2, 1) := by decide +kernel
theorem dX12_copyText_4 : decode cX12_copyText 4 = .ok (.if_icmp .ge 18, 3) := by decide +kernel
theorem dX12_copyText_7 : decode cX12_copyText 7 = .ok (.aload_n 0, 1) := by decide +kernel
theorem dX12_copyText_8 : decode cX12_copyText 8 = .ok (.getfield 74, 3) := by decide +kernel
set_option maxHeartbeats 4000000 in
set_option maxRecDepth 100000 in
theorem T_X12_copyText (l : Launch) (D : va_G) (K : Nat → ClassId) (Z Y : Nat → Nat) (ad : Nat → Nat) (t : tSt) (hok : okM t) (x2 : Int32) (hx2 : (0 : Int) ≤ x2.toInt ∧ x2.toInt ≤ 1280) : tMet l yX12_copyText cX12_copyText 4 none (rmD 0 0 0) D K Z Y [.ref (ad 0), .ref (ad 1), .int x2] (WM K ad t) (QV D K (fun (u : tSt) => okM u ∧ frA [(0, 38)] [] [18] [] t u) (fun (u : tSt) => WM K ad u)) 0 0 := by
  refine t_met RX12 ⟨rfl, by decide +kernel⟩ (Nat.le_of_ble_eq_true rfl) ?_
  intro p e s m below meth c A ls C hE hZ hr hlocks hA hP hD hS hl
  have hl : lv_has ls 4 [(0, .ref (ad 0)), (1, .ref (ad 1)), (2, .int x2)] := hl
  have hokt := hok
  have hfr : frA [(0, 38)] [] [18] [] t t := frA_rf
  have L_2 : ∀ (fuel_2 : Nat) (t1 : tSt) (w2_3 : Int32) (H : Heap) (locs : List Loc) (ls : Array Slot), okM t1 → frA [(0, 38)] [] [18] [] t t1 → (0 : Int) ≤ w2_3.toInt ∧ w2_3.toInt ≤ 3999 → (3999 : Int) - w2_3.toInt < (fuel_2 : Int) → va_P D vwCl (WM K ad t1) H → va_D A (WM K ad t1) → va_S A s.heap H locs → lv_has ls 4 [(0, .ref (ad 0)), (1, .ref (ad 1)), (2, .int x2), (3, .int w2_3)] → W p l e (rmD 0 0 0) s m [.ref (ad 0), .ref (ad 1), .int x2].toArray below meth c H locs 0 0 (MQ below (QV D K (fun (u : tSt) => okM u ∧ frA [(0, 38)] [] [18] [] t u) (fun (u : tSt) => WM K ad u) A) [.ref (ad 0), .ref (ad 1), .int x2].toArray s 0 0 A) (F0 m 2 ls []) := by
    intro fuel_2
    induction fuel_2 with
    | zero =>
      intro t1 w2_3 H locs ls hok hfr hw2_3 hm2_2 hP hD hS hl
      exact absurd hm2_2 (by omega)
    | succ fuel_2 ih_2 =>
      intro t1 w2_3 H locs ls hok hfr hw2_3 hm2_2 hP hD hS hl
      have hm2_2 : (3999 : Int) - w2_3.toInt < (fuel_2 : Int) + 1 := by omega
      refine lv_iload_n C.1 C.2.1 dX12_copyText_2 rfl (lv_at hl 3 rfl) ?_
      refine lv_iload_n C.1 C.2.1 dX12_copyText_3 rfl (lv_at hl 2 rfl) ?_
      refine lv_icmp_ge (tgt := 22) C.1 C.2.1 dX12_copyText_4 (by decide) (fun c_1 => ?_) (fun c_1 => ?_)
      · replace c_1 : x2.toInt ≤ w2_3.toInt := i_le c_1
        refine lv_aload_n C.1 C.2.1 dX12_copyText_22 rfl (lv_at hl 0 rfl) ?_
        refine lv_iload_n C.1 C.2.1 dX12_copyText_23 rfl (lv_at hl 2 rfl) ?_
        refine k_put (ws' := WM K ad (uI t1 0 38 x2)) (v := .int x2) C hP hD hS 0 rfl rfl inlX12 tyX12_ok nmX12 38 (by decide) m_29_6 rfl rfl rfl rfl rfl dX12_copyText_24 (fun H locs hP hD hS => ?_)
        have hok : okM (uI t1 0 38 x2) := ⟨okI_I hok.1 0 38 x2 (show (0 : Int) ≤ (x2 : Int32).toInt ∧ (x2 : Int32).toInt ≤ 1280 from ⟨by omega, by omega⟩), hok.2.1, hok.2.2.1, hok.2.2.2.1, hok.2.2.2.2.1, hok.2.2.2.2.2.1, hok.2.2.2.2.2.2.1, trivial⟩
        have hfr : frA [(0, 38)] [] [18] [] t (uI t1 0 38 x2) := frA_I hfr 0 38 _ rfl
        exact g_vret C hr hlocks hP hD hS (uI t1 0 38 x2) rfl ⟨hok, hfr⟩ (Nat.le_of_ble_eq_true rfl) (Nat.le_of_ble_eq_true rfl) dX12_copyText_27
      · replace c_1 : w2_3.toInt < x2.toInt := i_nle c_1
        refine lv_aload_n C.1 C.2.1 dX12_copyText_7 rfl (lv_at hl 0 rfl) ?_
        refine k_get (v := .ref (ad 18)) C hP 0 rfl rfl inlX12 37 (by decide) m_8_2 rfl dX12_copyText_8 ?_
        refine lv_iload_n C.1 C.2.1 dX12_copyText_11 rfl (lv_at hl 3 rfl) ?_
        refine lv_aload_n C.1 C.2.1 dX12_copyText_12 rfl (lv_at hl 1 rfl) ?_
        refine lv_iload_n C.1 C.2.1 dX12_copyText_13 rfl (lv_at hl 3 rfl) ?_
        obtain ⟨v_2, e_3⟩ : ∃ z, z = (t1.2.2.1 1 (w2_3 : Int32).toNatClampNeg) := ⟨_, rfl⟩
        have h_4 : (-3999 : Int) ≤ v_2.toInt ∧ v_2.toInt ≤ 127 := by rw [e_3]; exact hok.2.1 1 _
        refine k_bld (v := v_2) C hP 1 rfl (vp_in_iff.mpr ⟨by omega, by omega⟩) e_3.symm dX12_copyText_14 ?_
        obtain ⟨v_5, e_6⟩ : ∃ z, z = vp_nar .byte v_2 := ⟨_, rfl⟩
        have h_7 : (-128 : Int) ≤ v_5.toInt ∧ v_5.toInt ≤ 127 := by rw [e_6]; exact nar_byte _
        refine k_bst (ws' := WM K ad (uB t1 18 (w2_3 : Int32).toNatClampNeg v_5)) (x' := v_5) C hP hD hS 18 rfl (vp_in_iff.mpr ⟨by omega, by omega⟩) rfl e_6.symm rfl dX12_copyText_15 (fun H locs hP hD hS => ?_)
        have hok : okM (uB t1 18 (w2_3 : Int32).toNatClampNeg v_5) := ⟨hok.1, okB_B hok.2.1 18 _ v_5 (show (-3999 : Int) ≤ (v_5 : Int32).toInt ∧ (v_5 : Int32).toInt ≤ 127 from ⟨by omega, by omega⟩), hok.2.2.1, hok.2.2.2.1, hok.2.2.2.2.1, hok.2.2.2.2.2.1, hok.2.2.2.2.2.2.1, trivial⟩
        have hfr : frA [(0, 38)] [] [18] [] t (uB t1 18 (w2_3 : Int32).toNatClampNeg v_5) := frA_B hfr 18 _ _ rfl
        obtain ⟨v_8, e_9⟩ : ∃ z, z = w2_3 + 1 := ⟨_, rfl⟩
        have h_10 : v_8.toInt = w2_3.toInt + 1 := by rw [e_9]; exact ti_iadd (by show (_ : Int) ≤ w2_3.toInt + 1; omega) (by show w2_3.toInt + 1 < (_ : Int); omega)
        refine lv_iinc (v := v_8) (lv' := [(3, .int v_8), (0, .ref (ad 0)), (1, .ref (ad 1)), (2, .int x2)]) C.1 C.2.1 dX12_copyText_16 hl (k := 3) rfl e_9.symm (by decide) rfl (fun ls hl => ?_)
        have hl : lv_has ls 4 [(0, .ref (ad 0)), (1, .ref (ad 1)), (2, .int x2), (3, .int v_8)] := lv_sub hl [1, 2, 3, 0] rfl
        refine lv_goto (tgt := 2) C.1 C.2.1 dX12_copyText_19 (by decide) ?_
        exact ih_2 (uB t1 18 (w2_3 : Int32).toNatClampNeg v_5) v_8 _ _ _ hok hfr ⟨by omega, by omega⟩ (show (3999 : Int) - v_8.toInt < (fuel_2 : Int) from by omega) hP hD hS (lv_sub hl [0, 1, 2, 3] rfl)
  refine lv_iconst (v := 0) C.1 C.2.1 dX12_copyText_0 (by decide) ?_
  refine lv_istore_n (lv' := [(3, .int 0), (0, .ref (ad 0)), (1, .ref (ad 1)), (2, .int x2)]) C.1 C.2.1 dX12_copyText_1 rfl hl (by decide) rfl (fun ls hl => ?_)
  have hl : lv_has ls 4 [(0, .ref (ad 0)), (1, .ref (ad 1)), (2, .int x2), (3, .int 0)] := lv_sub hl [1, 2, 3, 0] rfl
  exact L_2 4000 t 0 _ _ _ hok hfr ⟨by decide, by decide⟩ (show (3999 : Int) - 0 < ((4000 : Nat) : Int) from by omega) hP hD hS (lv_sub hl [0, 1, 2, 3] rfl)

theorem dX12_cardsLeft_0 : decode cX12_cardsLeft 0 = .ok (.aload_n 0, 1) := by decide +kernel
theorem dX12_cardsLeft_1 : decode cX12_cardsLeft 1 = .ok (.getfield 226, 3) := by decide +kernel
theorem dX12_cardsLeft_4 : decode cX12_cardsLeft 4 = .ok (.aload_n 0, 1) := by decide +kernel
theorem dX12_cardsLeft_5 : decode cX12_cardsLeft 5 = .ok (.getfield 229, 3) := by decide +kernel
theorem dX12_cardsLeft_8 : decode cX12_cardsLeft 8 = .ok (.isub, 1) := by decide +kernel
theorem dX12_cardsLeft_9 : decode cX12_cardsLeft 9 = .ok (.ireturn, 1) := by decide +kernel
set_option maxHeartbeats 4000000 in
set_option maxRecDepth 100000 in
theorem T_X12_cardsLeft (l : Launch) (D : va_G) (K : Nat → ClassId) (Z Y : Nat → Nat) (ad : Nat → Nat) (t : tSt) (hok : okM t)  : tMet l yX12_cardsLeft cX12_cardsLeft 1 (some .int) (rmD 0 0 0) D K Z Y [.ref (ad 0)] (WM K ad t) (QI D K (fun (r : Int32) (u : Unit) => (-3999 : Int) ≤ r.toInt ∧ r.toInt ≤ 2147483647 ∧ (r.toInt = (t.1 0 36).toInt - (t.1 0 35).toInt)) (fun (_ : Unit) => WM K ad t)) 0 0 := by
  refine t_met RX12 ⟨rfl, by decide +kernel⟩ (Nat.le_of_ble_eq_true rfl) ?_
  intro p e s m below meth c A ls C hE hZ hr hlocks hA hP hD hS hl
  have hl : lv_has ls 1 [(0, .ref (ad 0))] := hl
  have h_1 : (0 : Int) ≤ (t.1 0 35).toInt ∧ (t.1 0 35).toInt ≤ 1700 := hok.1 0 35
  have h_2 : (0 : Int) ≤ (t.1 0 36).toInt ∧ (t.1 0 36).toInt ≤ 1700 := hok.1 0 36
  refine lv_aload_n C.1 C.2.1 dX12_cardsLeft_0 rfl (lv_at hl 0 rfl) ?_
  refine k_get (v := .int (t.1 0 36)) C hP 0 rfl rfl inlX12 36 (by decide) m_44_16 rfl dX12_cardsLeft_1 ?_
  refine lv_aload_n C.1 C.2.1 dX12_cardsLeft_4 rfl (lv_at hl 0 rfl) ?_
  refine k_get (v := .int (t.1 0 35)) C hP 0 rfl rfl inlX12 35 (by decide) m_44_17 rfl dX12_cardsLeft_5 ?_
  obtain ⟨v_3, e_4⟩ : ∃ z, z = ((t.1 0 36) : Int32) - ((t.1 0 35) : Int32) := ⟨_, rfl⟩
  have h_5 : v_3.toInt = (t.1 0 36).toInt - (t.1 0 35).toInt := by rw [e_4]; exact ti_isub (by show (_ : Int) ≤ (t.1 0 36).toInt - (t.1 0 35).toInt; omega) (by show (t.1 0 36).toInt - (t.1 0 35).toInt < (_ : Int); omega)
  refine k_isub (v := v_3) C e_4.symm dX12_cardsLeft_8 ?_
  exact g_iret C hr hlocks hP hD hS rfl () rfl ⟨by omega, by omega, (show v_3.toInt = (t.1 0 36).toInt - (t.1 0 35).toInt from by omega)⟩ (Nat.le_of_ble_eq_true rfl) (Nat.le_of_ble_eq_true rfl) dX12_cardsLeft_9

theorem dX12_isAddress_0 : decode cX12_isAddress 0 = .ok (.iload_n 0, 1) := by decide +kernel
theorem dX12_isAddress_1 : decode cX12_isAddress 1 = .ok (.sipush (-3999), 3) := by decide +kernel
theorem dX12_isAddress_11 : decode cX12_isAddress 11 = .ok (.if_icmp .gt 7, 3) := by decide +kernel
theorem dX12_isAddress_14 : decode cX12_isAddress 14 = .ok (.iconst 1, 1) := by decide +kernel
theorem dX12_isAddress_15 : decode cX12_isAddress 15 = .ok (.goto 4, 3) := by decide +kernel
theorem dX12_isAddress_18 : decode cX12_isAddress 18 = .ok (.iconst 0, 1) := by decide +kernel
theorem dX12_isAddress_19 : decode cX12_isAddress 19 = .ok (.ireturn, 1) := by decide +kernel
theorem dX12_isAddress_4 : decode cX12_isAddress 4 = .ok (.if_icmp .lt 14, 3) := by decide +kernel
theorem dX12_isAddress_7 : decode cX12_isAddress 7 = .ok (.iload_n 0, 1) := by decide +kernel
theorem dX12_isAddress_8 : decode cX12_isAddress 8 = .ok (.sipush 3999, 3) := by decide +kernel
set_option maxHeartbeats 4000000 in
set_option maxRecDepth 100000 in
theorem T_X12_isAddress (l : Launch) (D : va_G) (K : Nat → ClassId) (Z Y : Nat → Nat) (ad : Nat → Nat) (t : tSt) (hok : okM t) (x0 : Int32) : tMet l yX12_isAddress cX12_isAddress 1 (some .boolean) (rmD 0 0 0) D K Z Y [.int x0] (WM K ad t) (QI D K (fun (r : Int32) (u : Unit) => (0 : Int) ≤ r.toInt ∧ r.toInt ≤ 1 ∧ (r.toInt = 1 → -3999 ≤ x0.toInt ∧ x0.toInt ≤ 3999)) (fun (_ : Unit) => WM K ad t)) 0 0 := by
  refine t_met RX12 ⟨rfl, by decide +kernel⟩ (Nat.le_of_ble_eq_true rfl) ?_
  intro p e s m below meth c A ls C hE hZ hr hlocks hA hP hD hS hl
  have hl : lv_has ls 1 [(0, .int x0)] := hl
  refine lv_iload_n C.1 C.2.1 dX12_isAddress_0 rfl (lv_at hl 0 rfl) ?_
  refine lv_sipush (v := (-3999)) C.1 C.2.1 dX12_isAddress_1 (by decide) ?_
  refine lv_icmp_lt (tgt := 18) C.1 C.2.1 dX12_isAddress_4 (by decide) (fun c_1 => ?_) (fun c_1 => ?_)
  · replace c_1 : x0.toInt < (-3999) := i_lt c_1
    refine lv_iconst (v := 0) C.1 C.2.1 dX12_isAddress_18 (by decide) ?_
    exact g_iret C hr hlocks hP hD hS (by decide) () rfl ⟨by decide, by decide, (show 0 = 1 → -3999 ≤ x0.toInt ∧ x0.toInt ≤ 3999 from by omega)⟩ (Nat.le_of_ble_eq_true rfl) (Nat.le_of_ble_eq_true rfl) dX12_isAddress_19
  · replace c_1 : (-3999) ≤ x0.toInt := i_nlt c_1
    refine lv_iload_n C.1 C.2.1 dX12_isAddress_7 rfl (lv_at hl 0 rfl) ?_
    refine lv_sipush (v := 3999) C.1 C.2.1 dX12_isAddress_8 (by decide) ?_
    refine lv_icmp_gt (tgt := 18) C.1 C.2.1 dX12_isAddress_11 (by decide) (fun c_2 => ?_) (fun c_2 => ?_)
    · replace c_2 : 3999 < x0.toInt := i_lt c_2
      refine lv_iconst (v := 0) C.1 C.2.1 dX12_isAddress_18 (by decide) ?_
      exact g_iret C hr hlocks hP hD hS (by decide) () rfl ⟨by decide, by decide, (show 0 = 1 → -3999 ≤ x0.toInt ∧ x0.toInt ≤ 3999 from by omega)⟩ (Nat.le_of_ble_eq_true rfl) (Nat.le_of_ble_eq_true rfl) dX12_isAddress_19
    · replace c_2 : x0.toInt ≤ 3999 := i_nlt c_2
      refine lv_iconst (v := 1) C.1 C.2.1 dX12_isAddress_14 (by decide) ?_
      refine lv_goto (tgt := 19) C.1 C.2.1 dX12_isAddress_15 (by decide) ?_
      exact g_iret C hr hlocks hP hD hS (by decide) () rfl ⟨by decide, by decide, (show 1 = 1 → -3999 ≤ x0.toInt ∧ x0.toInt ≤ 3999 from by omega)⟩ (Nat.le_of_ble_eq_true rfl) (Nat.le_of_ble_eq_true rfl) dX12_isAddress_19

theorem dX12_value_0 : decode cX12_value 0 = .ok (.iload_n 0, 1) := by decide +kernel
theorem dX12_value_1 : decode cX12_value 1 = .ok (.ldc 158, 2) := by decide +kernel
theorem dX12_value_11 : decode cX12_value 11 = .ok (.iload_n 0, 1) := by decide +kernel
theorem dX12_value_12 : decode cX12_value 12 = .ok (.ldc 159, 2) := by decide +kernel
theorem dX12_value_14 : decode cX12_value 14 = .ok (.iand, 1) := by decide +kernel
theorem dX12_value_15 : decode cX12_value 15 = .ok (.ineg, 1) := by decide +kernel
theorem dX12_value_16 : decode cX12_value 16 = .ok (.ireturn, 1) := by decide +kernel
theorem dX12_value_3 : decode cX12_value 3 = .ok (.iand, 1) := by decide +kernel
theorem dX12_value_4 : decode cX12_value 4 = .ok (.ifCond .ne 7, 3) := by decide +kernel
theorem dX12_value_7 : decode cX12_value 7 = .ok (.iload_n 0, 1) := by decide +kernel
theorem dX12_value_8 : decode cX12_value 8 = .ok (.goto 8, 3) := by decide +kernel
set_option maxHeartbeats 4000000 in
set_option maxRecDepth 100000 in
theorem T_X12_value (l : Launch) (D : va_G) (K : Nat → ClassId) (Z Y : Nat → Nat) (ad : Nat → Nat) (t : tSt) (hok : okM t) (x0 : Int32) : tMet l yX12_value cX12_value 1 (some .int) (rmD 0 0 0) D K Z Y [.int x0] (WM K ad t) (QI D K (fun (r : Int32) (u : Unit) => (-2147483648 : Int) ≤ r.toInt ∧ r.toInt ≤ 2147483647 ∧ (r.toInt = (vO x0).toInt)) (fun (_ : Unit) => WM K ad t)) 0 0 := by
  refine t_met RX12 ⟨rfl, by decide +kernel⟩ (Nat.le_of_ble_eq_true rfl) ?_
  intro p e s m below meth c A ls C hE hZ hr hlocks hA hP hD hS hl
  have hl : lv_has ls 1 [(0, .int x0)] := hl
  refine lv_iload_n C.1 C.2.1 dX12_value_0 rfl (lv_at hl 0 rfl) ?_
  refine lv_ldc (v := 1073741824) C.1 C.2.1 C.2.2.2.1 (C.2.2.2.2.1 _ m_34_19) dX12_value_1 ?_
  obtain ⟨v_1, e_2⟩ : ∃ z, z = (x0 : Int32) &&& (1073741824 : Int32) := ⟨_, rfl⟩
  have h_3 : (0 : Int) ≤ v_1.toInt ∧ v_1.toInt ≤ 1073741824 := by rw [e_2]; exact z_and _ (k := 1073741824) (by decide) (by decide)
  refine k_iand (v := v_1) C e_2.symm dX12_value_3 ?_
  refine lv_if_ne (tgt := 11) C.1 C.2.1 dX12_value_4 (by decide) (fun c_4 => ?_) (fun c_4 => ?_)
  · replace c_4 : ¬ v_1.toInt = 0 := i_ne c_4
    refine lv_iload_n C.1 C.2.1 dX12_value_11 rfl (lv_at hl 0 rfl) ?_
    refine lv_ldc (v := 1073741823) C.1 C.2.1 C.2.2.2.1 (C.2.2.2.2.1 _ m_36_12) dX12_value_12 ?_
    obtain ⟨v_5, e_6⟩ : ∃ z, z = (x0 : Int32) &&& (1073741823 : Int32) := ⟨_, rfl⟩
    have h_7 : v_5.toInt = x0.toInt % 2 ^ 30 := by rw [e_6]; exact Jvm.Kit.i32_mask _ _ (k := 30) (by decide) (by decide)
    refine k_iand (v := v_5) C e_6.symm dX12_value_14 ?_
    obtain ⟨v_8, e_9⟩ : ∃ z, z = -(v_5 : Int32) := ⟨_, rfl⟩
    have h_10 : v_8.toInt = -v_5.toInt := by rw [e_9]; exact Jvm.Kit.i32_neg (by show ¬ v_5.toInt = (_ : Int); omega)
    refine k_ineg (v := v_8) C e_9.symm dX12_value_15 ?_
    exact g_iret C hr hlocks hP hD hS rfl () rfl ⟨(i_rng _).1, (i_rng _).2, (show v_8.toInt = (vO x0).toInt from by subst_vars; first | exact (congrArg Int32.toInt (if_pos (by omega))).symm | exact (congrArg Int32.toInt (if_neg (by omega))).symm)⟩ (Nat.le_of_ble_eq_true rfl) (Nat.le_of_ble_eq_true rfl) dX12_value_16
  · replace c_4 : v_1.toInt = 0 := i_eq c_4
    refine lv_iload_n C.1 C.2.1 dX12_value_7 rfl (lv_at hl 0 rfl) ?_
    refine lv_goto (tgt := 16) C.1 C.2.1 dX12_value_8 (by decide) ?_
    exact g_iret C hr hlocks hP hD hS rfl () rfl ⟨(i_rng _).1, (i_rng _).2, (show x0.toInt = (vO x0).toInt from by subst_vars; first | exact (congrArg Int32.toInt (if_pos (by omega))).symm | exact (congrArg Int32.toInt (if_neg (by omega))).symm)⟩ (Nat.le_of_ble_eq_true rfl) (Nat.le_of_ble_eq_true rfl) dX12_value_16

theorem dX12_lineEnd_0 : decode cX12_lineEnd 0 = .ok (.iload_n 1, 1) := by decide +kernel
theorem dX12_lineEnd_1 : decode cX12_lineEnd 1 = .ok (.istore_n 3, 1) := by decide +kernel
theorem dX12_lineEnd_10 : decode cX12_lineEnd 10 = .ok (.bipush 10, 2) := by decide +kernel
theorem dX12_lineEnd_12 : decode cX12_lineEnd 12 = .ok (.if_icmp .eq 9, 3) := by decide +kernel
theorem dX12_lineEnd_15 : decode cX12_lineEnd 15 = .ok (.iinc 3 1, 3) := by decide +kernel
theorem dX12_lineEnd_18 : decode cX12_lineEnd 18 = .ok (.goto (-16), 3) := by decide +kernel
theorem dX12_lineEnd_2 : decode cX12_lineEnd 2 = .ok (.iload_n 3, 1) := by decide +kernel
theorem dX12_lineEnd_21 : decode cX12_lineEnd 21 = .ok (.iload_n 3, 1) := by decide +kernel
theorem dX12_lineEnd_22 : decode cX12_lineEnd 22 = .ok (.ireturn, 1) := by decide +kernel
theorem dX12_lineEnd_3 : decode cX12_lineEnd 3 = .ok (.iload_n 2, 1) := by decide +kernel
theorem dX12_lineEnd_4 : decode cX12_lineEnd 4 = .ok (.if_icmp .ge 17, 3) := by decide +kernel
theorem dX12_lineEnd_7 : decode cX12_lineEnd 7 = .ok (.aload_n 0, 1) := by decide +kernel
theorem dX12_lineEnd_8 : decode cX12_lineEnd 8 = .ok (.iload_n 3, 1) := by decide +kernel
theorem dX12_lineEnd_9 : decode cX12_lineEnd 9 = .ok (.baload, 1) := by decide +kernel
set_option maxHeartbeats 4000000 in
set_option maxRecDepth 100000 in
theorem T_X12_lineEnd (l : Launch) (D : va_G) (K : Nat → ClassId) (Z Y : Nat → Nat) (ad : Nat → Nat) (t : tSt) (hok : okM t) (x1 : Int32) (hx1 : (0 : Int) ≤ x1.toInt ∧ x1.toInt ≤ 1280) (x2 : Int32) (hx2 : (1 : Int) ≤ x2.toInt ∧ x2.toInt ≤ 1280) : tMet l yX12_lineEnd cX12_lineEnd 4 (some .int) (rmD 0 0 0) D K Z Y [.ref (ad 1), .int x1, .int x2] (WM K ad t) (QI D K (fun (r : Int32) (u : Unit) => (0 : Int) ≤ r.toInt ∧ r.toInt ≤ 1280 ∧ (x1.toInt ≤ r.toInt) ∧ (r.toInt ≤ x2.toInt ∨ r.toInt = x1.toInt) ∧ (leP (t.2.2.1 1) x1 x2 r)) (fun (_ : Unit) => WM K ad t)) 0 0 := by
  refine t_met RX12 ⟨rfl, by decide +kernel⟩ (Nat.le_of_ble_eq_true rfl) ?_
  intro p e s m below meth c A ls C hE hZ hr hlocks hA hP hD hS hl
  have hl : lv_has ls 4 [(0, .ref (ad 1)), (1, .int x1), (2, .int x2)] := hl
  have L_2 : ∀ (fuel_2 : Nat) (w2_3 : Int32) (H : Heap) (locs : List Loc) (ls : Array Slot), (0 : Int) ≤ w2_3.toInt ∧ w2_3.toInt ≤ 1280 → (x1.toInt ≤ w2_3.toInt) → (w2_3.toInt ≤ x2.toInt ∨ w2_3.toInt = x1.toInt) → (∀ j : Int32, x1.toInt ≤ j.toInt → j.toInt < w2_3.toInt → j.toInt < x2.toInt ∧ ¬ ((t.2.2.1 1) j.toNatClampNeg).toInt = 10) → (1280 : Int) - w2_3.toInt < (fuel_2 : Int) → va_P D vwCl (WM K ad t) H → va_D A (WM K ad t) → va_S A s.heap H locs → lv_has ls 4 [(0, .ref (ad 1)), (1, .int x1), (2, .int x2), (3, .int w2_3)] → W p l e (rmD 0 0 0) s m [.ref (ad 1), .int x1, .int x2].toArray below meth c H locs 0 0 (MQ below (QI D K (fun (r : Int32) (u : Unit) => (0 : Int) ≤ r.toInt ∧ r.toInt ≤ 1280 ∧ (x1.toInt ≤ r.toInt) ∧ (r.toInt ≤ x2.toInt ∨ r.toInt = x1.toInt) ∧ (leP (t.2.2.1 1) x1 x2 r)) (fun (_ : Unit) => WM K ad t) A) [.ref (ad 1), .int x1, .int x2].toArray s 0 0 A) (F0 m 2 ls []) := by
    intro fuel_2
    induction fuel_2 with
    | zero =>
      intro w2_3 H locs ls hw2_3 hi2_0 hi2_1 hi2_2 hm2_2 hP hD hS hl
      exact absurd hm2_2 (by omega)
    | succ fuel_2 ih_2 =>
      intro w2_3 H locs ls hw2_3 hi2_0 hi2_1 hi2_2 hm2_2 hP hD hS hl
      have hm2_2 : (1280 : Int) - w2_3.toInt < (fuel_2 : Int) + 1 := by omega
      refine lv_iload_n C.1 C.2.1 dX12_lineEnd_2 rfl (lv_at hl 3 rfl) ?_
      refine lv_iload_n C.1 C.2.1 dX12_lineEnd_3 rfl (lv_at hl 2 rfl) ?_
      refine lv_icmp_ge (tgt := 21) C.1 C.2.1 dX12_lineEnd_4 (by decide) (fun c_1 => ?_) (fun c_1 => ?_)
      · replace c_1 : x2.toInt ≤ w2_3.toInt := i_le c_1
        refine lv_iload_n C.1 C.2.1 dX12_lineEnd_21 rfl (lv_at hl 3 rfl) ?_
        exact g_iret C hr hlocks hP hD hS rfl () rfl ⟨by omega, by omega, (show x1.toInt ≤ w2_3.toInt from by omega), (show w2_3.toInt ≤ x2.toInt ∨ w2_3.toInt = x1.toInt from by omega), (show leP (t.2.2.1 1) x1 x2 w2_3 from by refine ⟨by omega, hi2_2, ?_⟩; first | exact Or.inl (by omega) | (subst_vars; exact Or.inr (by omega)))⟩ (Nat.le_of_ble_eq_true rfl) (Nat.le_of_ble_eq_true rfl) dX12_lineEnd_22
      · replace c_1 : w2_3.toInt < x2.toInt := i_nle c_1
        refine lv_aload_n C.1 C.2.1 dX12_lineEnd_7 rfl (lv_at hl 0 rfl) ?_
        refine lv_iload_n C.1 C.2.1 dX12_lineEnd_8 rfl (lv_at hl 3 rfl) ?_
        obtain ⟨v_2, e_3⟩ : ∃ z, z = (t.2.2.1 1 (w2_3 : Int32).toNatClampNeg) := ⟨_, rfl⟩
        have h_4 : (-3999 : Int) ≤ v_2.toInt ∧ v_2.toInt ≤ 127 := by rw [e_3]; exact hok.2.1 1 _
        refine k_bld (v := v_2) C hP 1 rfl (vp_in_iff.mpr ⟨by omega, by omega⟩) e_3.symm dX12_lineEnd_9 ?_
        refine lv_bipush (v := 10) C.1 C.2.1 dX12_lineEnd_10 (by decide) ?_
        refine lv_icmp_eq (tgt := 21) C.1 C.2.1 dX12_lineEnd_12 (by decide) (fun c_5 => ?_) (fun c_5 => ?_)
        · replace c_5 : v_2.toInt = 10 := i_eq c_5
          refine lv_iload_n C.1 C.2.1 dX12_lineEnd_21 rfl (lv_at hl 3 rfl) ?_
          exact g_iret C hr hlocks hP hD hS rfl () rfl ⟨by omega, by omega, (show x1.toInt ≤ w2_3.toInt from by omega), (show w2_3.toInt ≤ x2.toInt ∨ w2_3.toInt = x1.toInt from by omega), (show leP (t.2.2.1 1) x1 x2 w2_3 from by refine ⟨by omega, hi2_2, ?_⟩; first | exact Or.inl (by omega) | (subst_vars; exact Or.inr (by omega)))⟩ (Nat.le_of_ble_eq_true rfl) (Nat.le_of_ble_eq_true rfl) dX12_lineEnd_22
        · replace c_5 : ¬ v_2.toInt = 10 := i_ne c_5
          obtain ⟨v_6, e_7⟩ : ∃ z, z = w2_3 + 1 := ⟨_, rfl⟩
          have h_8 : v_6.toInt = w2_3.toInt + 1 := by rw [e_7]; exact ti_iadd (by show (_ : Int) ≤ w2_3.toInt + 1; omega) (by show w2_3.toInt + 1 < (_ : Int); omega)
          refine lv_iinc (v := v_6) (lv' := [(3, .int v_6), (0, .ref (ad 1)), (1, .int x1), (2, .int x2)]) C.1 C.2.1 dX12_lineEnd_15 hl (k := 3) rfl e_7.symm (by decide) rfl (fun ls hl => ?_)
          have hl : lv_has ls 4 [(0, .ref (ad 1)), (1, .int x1), (2, .int x2), (3, .int v_6)] := lv_sub hl [1, 2, 3, 0] rfl
          refine lv_goto (tgt := 2) C.1 C.2.1 dX12_lineEnd_18 (by decide) ?_
          exact ih_2 v_6 _ _ _ ⟨by omega, by omega⟩ (show x1.toInt ≤ v_6.toInt from by omega) (show v_6.toInt ≤ x2.toInt ∨ v_6.toInt = x1.toInt from by omega) (show ∀ j : Int32, x1.toInt ≤ j.toInt → j.toInt < v_6.toInt → j.toInt < x2.toInt ∧ ¬ ((t.2.2.1 1) j.toNatClampNeg).toInt = 10 from by intro j h1 h2; first | (exfalso; omega) | (rcases Int.lt_or_eq_of_le (show j.toInt ≤ w2_3.toInt from by omega) with h | h; exact hi2_2 j h1 h; have hcc : j = w2_3 := Int32.toInt_inj.mp h; subst hcc; subst_vars; exact ⟨by omega, by omega⟩)) (show (1280 : Int) - v_6.toInt < (fuel_2 : Int) from by omega) hP hD hS (lv_sub hl [0, 1, 2, 3] rfl)
  refine lv_iload_n C.1 C.2.1 dX12_lineEnd_0 rfl (lv_at hl 1 rfl) ?_
  refine lv_istore_n (lv' := [(3, .int x1), (0, .ref (ad 1)), (1, .int x1), (2, .int x2)]) C.1 C.2.1 dX12_lineEnd_1 rfl hl (by decide) rfl (fun ls hl => ?_)
  have hl : lv_has ls 4 [(0, .ref (ad 1)), (1, .int x1), (2, .int x2), (3, .int x1)] := lv_sub hl [1, 2, 3, 0] rfl
  exact L_2 1281 x1 _ _ _ ⟨by omega, by omega⟩ (show x1.toInt ≤ x1.toInt from by omega) (show x1.toInt ≤ x2.toInt ∨ x1.toInt = x1.toInt from by omega) (show ∀ j : Int32, x1.toInt ≤ j.toInt → j.toInt < x1.toInt → j.toInt < x2.toInt ∧ ¬ ((t.2.2.1 1) j.toNatClampNeg).toInt = 10 from by intro j h1 h2; first | (exfalso; omega) | (rcases Int.lt_or_eq_of_le (show j.toInt ≤ w2_3.toInt from by omega) with h | h; exact hi2_2 j h1 h; have hcc : j = w2_3 := Int32.toInt_inj.mp h; subst hcc; subst_vars; exact ⟨by omega, by omega⟩)) (show (1280 : Int) - x1.toInt < ((1281 : Nat) : Int) from by omega) hP hD hS (lv_sub hl [0, 1, 2, 3] rfl)

theorem dX12_gatherCards_0 : decode cX12_gatherCards 0 = .ok (.iconst 0, 1) := by decide +kernel
theorem dX12_gatherCards_1 : decode cX12_gatherCards 1 = .ok (.istore_n 1, 1) := by decide +kernel
theorem dX12_gatherCards_10 : decode cX12_gatherCards 10 = .ok (.iload_n 2, 1) := by decide +kernel
theorem dX12_gatherCards_100 : decode cX12_gatherCards 100 = .ok (.iinc 3 1, 3) := by decide +kernel
theorem dX12_gatherCards_103 : decode cX12_gatherCards 103 = .ok (.goto (-94), 3) := by decide +kernel
theorem dX12_gatherCards_106 : decode cX12_gatherCards 106 = .ok (.aload_n 0, 1) := by decide +kernel
theorem dX12_gatherCards_107 : decode cX12_gatherCards 107 = .ok (.iconst 0, 1) := by decide +kernel
theorem dX12_gatherCards_108 : decode cX12_gatherCards 108 = .ok (.putfield 229, 3) := by decide +kernel
theorem dX12_gatherCards_11 : decode cX12_gatherCards 11 = .ok (.if_icmp .ge 95, 3) := by decide +kernel
theorem dX12_gatherCards_111 : decode cX12_gatherCards 111 = .ok (.aload_n 0, 1) := by decide +kernel
theorem dX12_gatherCards_112 : decode cX12_gatherCards 112 = .ok (.iload_n 2, 1) := by decide +kernel
theorem dX12_gatherCards_113 : decode cX12_gatherCards 113 = .ok (.putfield 226, 3) := by decide +kernel
theorem dX12_gatherCards_116 : decode cX12_gatherCards 116 = .ok (.return_, 1) := by decide +kernel
theorem dX12_gatherCards_14 : decode cX12_gatherCards 14 = .ok (.aload_n 0, 1) := by decide +kernel
theorem dX12_gatherCards_15 : decode cX12_gatherCards 15 = .ok (.getfield 68, 3) := by decide +kernel
theorem dX12_gatherCards_18 : decode cX12_gatherCards 18 = .ok (.aload_n 0, 1) := by decide +kernel
theorem dX12_gatherCards_19 : decode cX12_gatherCards 19 = .ok (.getfield 229, 3) := by decide +kernel
theorem dX12_gatherCards_2 : decode cX12_gatherCards 2 = .ok (.aload_n 0, 1) := by decide +kernel
theorem dX12_gatherCards_22 : decode cX12_gatherCards 22 = .ok (.iload_n 3, 1) := by decide +kernel
theorem dX12_gatherCards_23 : decode cX12_gatherCards 23 = .ok (.iadd, 1) := by decide +kernel
theorem dX12_gatherCards_24 : decode cX12_gatherCards 24 = .ok (.iaload, 1) := by decide +kernel
theorem dX12_gatherCards_25 : decode cX12_gatherCards 25 = .ok (.istore 4, 2) := by decide +kernel
theorem dX12_gatherCards_27 : decode cX12_gatherCards 27 = .ok (.aload_n 0, 1) := by decide +kernel
theorem dX12_gatherCards_28 : decode cX12_gatherCards 28 = .ok (.getfield 71, 3) := by decide +kernel
theorem dX12_gatherCards_3 : decode cX12_gatherCards 3 = .ok (.invokevirtual 232, 3) := by decide +kernel
theorem dX12_gatherCards_31 : decode cX12_gatherCards 31 = .ok (.aload_n 0, 1) := by decide +kernel
theorem dX12_gatherCards_32 : decode cX12_gatherCards 32 = .ok (.getfield 229, 3) := by decide +kernel
theorem dX12_gatherCards_35 : decode cX12_gatherCards 35 = .ok (.iload_n 3, 1) := by decide +kernel
theorem dX12_gatherCards_36 : decode cX12_gatherCards 36 = .ok (.iadd, 1) := by decide +kernel
theorem dX12_gatherCards_37 : decode cX12_gatherCards 37 = .ok (.iaload, 1) := by decide +kernel
theorem dX12_gatherCards_38 : decode cX12_gatherCards 38 = .ok (.iload 4, 2) := by decide +kernel
theorem dX12_gatherCards_40 : decode cX12_gatherCards 40 = .ok (.isub, 1) := by decide +kernel
theorem dX12_gatherCards_41 : decode cX12_gatherCards 41 = .ok (.istore 5, 2) := by decide +kernel
theorem dX12_gatherCards_43 : decode cX12_gatherCards 43 = .ok (.iconst 0, 1) := by decide +kernel
theorem dX12_gatherCards_44 : decode cX12_gatherCards 44 = .ok (.istore 6, 2) := by decide +kernel
theorem dX12_gatherCards_46 : decode cX12_gatherCards 46 = .ok (.iload 6, 2) := by decide +kernel
theorem dX12_gatherCards_48 : decode cX12_gatherCards 48 = .ok (.iload 5, 2) := by decide +kernel
theorem dX12_gatherCards_50 : decode cX12_gatherCards 50 = .ok (.if_icmp .ge 28, 3) := by decide +kernel
theorem dX12_gatherCards_53 : decode cX12_gatherCards 53 = .ok (.aload_n 0, 1) := by decide +kernel
theorem dX12_gatherCards_54 : decode cX12_gatherCards 54 = .ok (.getfield 65, 3) := by decide +kernel
theorem dX12_gatherCards_57 : decode cX12_gatherCards 57 = .ok (.iload_n 1, 1) := by decide +kernel
theorem dX12_gatherCards_58 : decode cX12_gatherCards 58 = .ok (.iload 6, 2) := by decide +kernel
theorem dX12_gatherCards_6 : decode cX12_gatherCards 6 = .ok (.istore_n 2, 1) := by decide +kernel
theorem dX12_gatherCards_60 : decode cX12_gatherCards 60 = .ok (.iadd, 1) := by decide +kernel
theorem dX12_gatherCards_61 : decode cX12_gatherCards 61 = .ok (.aload_n 0, 1) := by decide +kernel
theorem dX12_gatherCards_62 : decode cX12_gatherCards 62 = .ok (.getfield 65, 3) := by decide +kernel
theorem dX12_gatherCards_65 : decode cX12_gatherCards 65 = .ok (.iload 4, 2) := by decide +kernel
theorem dX12_gatherCards_67 : decode cX12_gatherCards 67 = .ok (.iload 6, 2) := by decide +kernel
theorem dX12_gatherCards_69 : decode cX12_gatherCards 69 = .ok (.iadd, 1) := by decide +kernel
theorem dX12_gatherCards_7 : decode cX12_gatherCards 7 = .ok (.iconst 0, 1) := by decide +kernel
theorem dX12_gatherCards_70 : decode cX12_gatherCards 70 = .ok (.baload, 1) := by decide +kernel
theorem dX12_gatherCards_71 : decode cX12_gatherCards 71 = .ok (.bastore, 1) := by decide +kernel
theorem dX12_gatherCards_72 : decode cX12_gatherCards 72 = .ok (.iinc 6 1, 3) := by decide +kernel
theorem dX12_gatherCards_75 : decode cX12_gatherCards 75 = .ok (.goto (-29), 3) := by decide +kernel
theorem dX12_gatherCards_78 : decode cX12_gatherCards 78 = .ok (.aload_n 0, 1) := by decide +kernel
theorem dX12_gatherCards_79 : decode cX12_gatherCards 79 = .ok (.getfield 68, 3) := by decide +kernel
theorem dX12_gatherCards_8 : decode cX12_gatherCards 8 = .ok (.istore_n 3, 1) := by decide +kernel
theorem dX12_gatherCards_82 : decode cX12_gatherCards 82 = .ok (.iload_n 3, 1) := by decide +kernel
theorem dX12_gatherCards_83 : decode cX12_gatherCards 83 = .ok (.iload_n 1, 1) := by decide +kernel
theorem dX12_gatherCards_84 : decode cX12_gatherCards 84 = .ok (.iastore, 1) := by decide +kernel
theorem dX12_gatherCards_85 : decode cX12_gatherCards 85 = .ok (.aload_n 0, 1) := by decide +kernel
theorem dX12_gatherCards_86 : decode cX12_gatherCards 86 = .ok (.getfield 71, 3) := by decide +kernel
theorem dX12_gatherCards_89 : decode cX12_gatherCards 89 = .ok (.iload_n 3, 1) := by decide +kernel
theorem dX12_gatherCards_9 : decode cX12_gatherCards 9 = .ok (.iload_n 3, 1) := by decide +kernel
theorem dX12_gatherCards_90 : decode cX12_gatherCards 90 = .ok (.iload_n 1, 1) := by decide +kernel
theorem dX12_gatherCards_91 : decode cX12_gatherCards 91 = .ok (.iload 5, 2) := by decide +kernel
theorem dX12_gatherCards_93 : decode cX12_gatherCards 93 = .ok (.iadd, 1) := by decide +kernel
theorem dX12_gatherCards_94 : decode cX12_gatherCards 94 = .ok (.iastore, 1) := by decide +kernel
theorem dX12_gatherCards_95 : decode cX12_gatherCards 95 = .ok (.iload_n 1, 1) := by decide +kernel
theorem dX12_gatherCards_96 : decode cX12_gatherCards 96 = .ok (.iload 5, 2) := by decide +kernel
theorem dX12_gatherCards_98 : decode cX12_gatherCards 98 = .ok (.iadd, 1) := by decide +kernel
theorem dX12_gatherCards_99 : decode cX12_gatherCards 99 = .ok (.istore_n 1, 1) := by decide +kernel
set_option maxHeartbeats 4000000 in
set_option maxRecDepth 100000 in
theorem T_X12_gatherCards (l : Launch) (D : va_G) (K : Nat → ClassId) (Z Y : Nat → Nat) (ad : Nat → Nat) (t : tSt) (hok : okM t) (hs0 : (t.1 0 36).toInt - (t.1 0 35).toInt ≤ 400) : tMet l yX12_gatherCards cX12_gatherCards 7 none (rmD 1 0 0) D K Z Y [.ref (ad 0)] (WM K ad t) (QV D K (fun (u : tSt) => okM u ∧ frA [(0, 35), (0, 36)] [] [15, 16, 17] [] t u ∧ ((u.1 0 35).toInt = 0) ∧ ((u.1 0 36).toInt = (t.1 0 36).toInt - (t.1 0 35).toInt) ∧ (lastLe (u.1 0 36) (u.2.2.1 17) 32000)) (fun (u : tSt) => WM K ad u)) 0 0 := by
  refine t_met RX12 ⟨rfl, by decide +kernel⟩ (Nat.le_of_ble_eq_true rfl) ?_
  intro p e s m below meth c A ls C hE hZ hr hlocks hA hP hD hS hl
  have hl : lv_has ls 7 [(0, .ref (ad 0))] := hl
  have hok0 := hok
  have hok : okM_g t := ⟨hok.1, hok.2.1, hok.2.2.1, trivial, hok.2.2.2.2.1, hok.2.2.2.2.2.1, hok.2.2.2.2.2.2.1, trivial⟩
  have hokt := hok
  have hfr : frA [(0, 35), (0, 36)] [] [15, 16, 17] [] t t := frA_rf
  have h_1 : (0 : Int) ≤ (t.1 0 35).toInt ∧ (t.1 0 35).toInt ≤ 1700 := hok.1 0 35
  have h_2 : (0 : Int) ≤ (t.1 0 36).toInt ∧ (t.1 0 36).toInt ≤ 1700 := hok.1 0 36
  have L_9 : ∀ (fuel_9 : Nat) (t1 : tSt) (w9_1 : Int32) (w9_2 : Int32) (w9_3 : Int32) (H : Heap) (locs : List Loc) (ls : Array Slot), okM_g t1 → frA [(0, 35), (0, 36)] [] [15, 16, 17] [] t t1 → (-3999 : Int) ≤ w9_2.toInt ∧ w9_2.toInt ≤ 2147483647 → (w9_1.toInt ≤ 80 * w9_3.toInt) → (0 ≤ w9_1.toInt) → (0 ≤ w9_3.toInt) → (w9_3.toInt ≤ w9_2.toInt) → (w9_2.toInt = (t.1 0 36).toInt - (t.1 0 35).toInt) → ((t1.1 0 35).toInt = (t.1 0 35).toInt) → ((t1.1 0 36).toInt = (t.1 0 36).toInt) → (iR ((t.1 0 35).toInt + w9_3.toInt) (t.1 0 36).toInt (t1.2.2.1 16) (t1.2.2.1 17)) → (iR 0 w9_3.toInt (t1.2.2.1 16) (t1.2.2.1 17)) → (∀ v : Int32, 0 ≤ v.toInt → v.toInt + 1 = w9_3.toInt → ((t1.2.2.1 17) v.toNatClampNeg).toInt ≤ w9_1.toInt) → (w9_2.toInt - w9_3.toInt) < (fuel_9 : Int) → va_P D vwCl (WM K ad t1) H → va_D A (WM K ad t1) → va_S A s.heap H locs → lv_has ls 7 [(0, .ref (ad 0)), (1, .int w9_1), (2, .int w9_2), (3, .int w9_3)] → W p l e (rmD 1 0 0) s m [.ref (ad 0)].toArray below meth c H locs 0 0 (MQ below (QV D K (fun (u : tSt) => okM u ∧ frA [(0, 35), (0, 36)] [] [15, 16, 17] [] t u ∧ ((u.1 0 35).toInt = 0) ∧ ((u.1 0 36).toInt = (t.1 0 36).toInt - (t.1 0 35).toInt) ∧ (lastLe (u.1 0 36) (u.2.2.1 17) 32000)) (fun (u : tSt) => WM K ad u) A) [.ref (ad 0)].toArray s 0 0 A) (F0 m 9 ls []) := by
    intro fuel_9
    induction fuel_9 with
    | zero =>
      intro t1 w9_1 w9_2 w9_3 H locs ls hok hfr hw9_2 hi9_0 hi9_1 hi9_2 hi9_3 hi9_4 hi9_5 hi9_6 hi9_7 hi9_8 hi9_9 hm9_9 hP hD hS hl
      have h_3 : (0 : Int) ≤ (t1.1 0 35).toInt ∧ (t1.1 0 35).toInt ≤ 1700 := hok.1 0 35
      have h_4 : (0 : Int) ≤ (t1.1 0 36).toInt ∧ (t1.1 0 36).toInt ≤ 1700 := hok.1 0 36
      exact absurd hm9_9 (by omega)
    | succ fuel_9 ih_9 =>
      intro t1 w9_1 w9_2 w9_3 H locs ls hok hfr hw9_2 hi9_0 hi9_1 hi9_2 hi9_3 hi9_4 hi9_5 hi9_6 hi9_7 hi9_8 hi9_9 hm9_9 hP hD hS hl
      have hm9_9 : (w9_2.toInt - w9_3.toInt) < (fuel_9 : Int) + 1 := by omega
      have h_5 : (0 : Int) ≤ (t1.1 0 35).toInt ∧ (t1.1 0 35).toInt ≤ 1700 := hok.1 0 35
      have h_6 : (0 : Int) ≤ (t1.1 0 36).toInt ∧ (t1.1 0 36).toInt ≤ 1700 := hok.1 0 36
      have L_46 : ∀ (fuel_46 : Nat) (t1 : tSt) (w46_1 : Int32) (w46_2 : Int32) (w46_3 : Int32) (w46_4 : Int32) (w46_5 : Int32) (w46_6 : Int32) (H : Heap) (locs : List Loc) (ls : Array Slot), okM_g t1 → frA [(0, 35), (0, 36)] [] [15, 16, 17] [] t t1 → (-3999 : Int) ≤ w46_2.toInt ∧ w46_2.toInt ≤ 2147483647 → (0 : Int) ≤ w46_4.toInt ∧ w46_4.toInt ≤ 33300 → (-33300 : Int) ≤ w46_5.toInt ∧ w46_5.toInt ≤ 33300 → (0 : Int) ≤ w46_6.toInt ∧ w46_6.toInt ≤ 49152 → (w46_1.toInt ≤ 80 * w46_3.toInt) → (0 ≤ w46_1.toInt) → (0 ≤ w46_3.toInt) → (w46_3.toInt ≤ w46_2.toInt) → (w46_2.toInt = (t.1 0 36).toInt - (t.1 0 35).toInt) → ((t1.1 0 35).toInt = (t.1 0 35).toInt) → ((t1.1 0 36).toInt = (t.1 0 36).toInt) → (w46_3.toInt < w46_2.toInt) → (iR ((t.1 0 35).toInt + w46_3.toInt) (t.1 0 36).toInt (t1.2.2.1 16) (t1.2.2.1 17)) → (iR 0 w46_3.toInt (t1.2.2.1 16) (t1.2.2.1 17)) → (∀ v : Int32, 0 ≤ v.toInt → v.toInt + 1 = w46_3.toInt → ((t1.2.2.1 17) v.toNatClampNeg).toInt ≤ w46_1.toInt) → (0 ≤ w46_4.toInt) → (0 ≤ w46_5.toInt) → (w46_5.toInt ≤ 80) → (w46_4.toInt + w46_5.toInt ≤ 33300) → (0 ≤ w46_6.toInt) → (w46_6.toInt ≤ w46_5.toInt) → (w46_2.toInt - w46_3.toInt) < (fuel_9 : Int) + 1 → (w46_5.toInt - w46_6.toInt) < (fuel_46 : Int) → va_P D vwCl (WM K ad t1) H → va_D A (WM K ad t1) → va_S A s.heap H locs → lv_has ls 7 [(0, .ref (ad 0)), (1, .int w46_1), (2, .int w46_2), (3, .int w46_3), (4, .int w46_4), (5, .int w46_5), (6, .int w46_6)] → W p l e (rmD 1 0 0) s m [.ref (ad 0)].toArray below meth c H locs 0 0 (MQ below (QV D K (fun (u : tSt) => okM u ∧ frA [(0, 35), (0, 36)] [] [15, 16, 17] [] t u ∧ ((u.1 0 35).toInt = 0) ∧ ((u.1 0 36).toInt = (t.1 0 36).toInt - (t.1 0 35).toInt) ∧ (lastLe (u.1 0 36) (u.2.2.1 17) 32000)) (fun (u : tSt) => WM K ad u) A) [.ref (ad 0)].toArray s 0 0 A) (F0 m 46 ls []) := by
        intro fuel_46
        induction fuel_46 with
        | zero =>
          intro t1 w46_1 w46_2 w46_3 w46_4 w46_5 w46_6 H locs ls hok hfr hw46_2 hw46_4 hw46_5 hw46_6 hi46_0 hi46_1 hi46_2 hi46_3 hi46_4 hi46_5 hi46_6 hi46_7 hi46_8 hi46_9 hi46_10 hi46_11 hi46_12 hi46_13 hi46_14 hi46_15 hi46_16 hm46_9 hm46_46 hP hD hS hl
          have h_7 : (0 : Int) ≤ (t1.1 0 35).toInt ∧ (t1.1 0 35).toInt ≤ 1700 := hok.1 0 35
          have h_8 : (0 : Int) ≤ (t1.1 0 36).toInt ∧ (t1.1 0 36).toInt ≤ 1700 := hok.1 0 36
          exact absurd hm46_46 (by omega)
        | succ fuel_46 ih_46 =>
          intro t1 w46_1 w46_2 w46_3 w46_4 w46_5 w46_6 H locs ls hok hfr hw46_2 hw46_4 hw46_5 hw46_6 hi46_0 hi46_1 hi46_2 hi46_3 hi46_4 hi46_5 hi46_6 hi46_7 hi46_8 hi46_9 hi46_10 hi46_11 hi46_12 hi46_13 hi46_14 hi46_15 hi46_16 hm46_9 hm46_46 hP hD hS hl
          have hm46_46 : (w46_5.toInt - w46_6.toInt) < (fuel_46 : Int) + 1 := by omega
          have h_9 : (0 : Int) ≤ (t1.1 0 35).toInt ∧ (t1.1 0 35).toInt ≤ 1700 := hok.1 0 35
          have h_10 : (0 : Int) ≤ (t1.1 0 36).toInt ∧ (t1.1 0 36).toInt ≤ 1700 := hok.1 0 36
          refine lv_iload C.1 C.2.1 dX12_gatherCards_46 (lv_at hl 6 rfl) ?_
          refine lv_iload C.1 C.2.1 dX12_gatherCards_48 (lv_at hl 5 rfl) ?_
          refine lv_icmp_ge (tgt := 78) C.1 C.2.1 dX12_gatherCards_50 (by decide) (fun c_11 => ?_) (fun c_11 => ?_)
          · replace c_11 : w46_5.toInt ≤ w46_6.toInt := i_le c_11
            refine lv_aload_n C.1 C.2.1 dX12_gatherCards_78 rfl (lv_at hl 0 rfl) ?_
            refine k_get (v := .ref (ad 16)) C hP 0 rfl rfl inlX12 33 (by decide) m_8_0 rfl dX12_gatherCards_79 ?_
            refine lv_iload_n C.1 C.2.1 dX12_gatherCards_82 rfl (lv_at hl 3 rfl) ?_
            refine lv_iload_n C.1 C.2.1 dX12_gatherCards_83 rfl (lv_at hl 1 rfl) ?_
            refine k_ist (ws' := WM K ad (uB t1 16 (w46_3 : Int32).toNatClampNeg w46_1)) (x' := w46_1) C hP hD hS 16 rfl (vp_in_iff.mpr ⟨by omega, by omega⟩) rfl rfl rfl dX12_gatherCards_84 (fun H locs hP hD hS => ?_)
            have hok : okM_g (uB t1 16 (w46_3 : Int32).toNatClampNeg w46_1) := ⟨hok.1, okB_B hok.2.1 16 _ w46_1 (show (0 : Int) ≤ (w46_1 : Int32).toInt ∧ (w46_1 : Int32).toInt ≤ 33300 from ⟨by omega, by omega⟩), hok.2.2.1, trivial, hok.2.2.2.2.1, hok.2.2.2.2.2.1, hok.2.2.2.2.2.2.1, trivial⟩
            have hfr : frA [(0, 35), (0, 36)] [] [15, 16, 17] [] t (uB t1 16 (w46_3 : Int32).toNatClampNeg w46_1) := frA_B hfr 16 _ _ rfl
            refine lv_aload_n C.1 C.2.1 dX12_gatherCards_85 rfl (lv_at hl 0 rfl) ?_
            refine k_get (v := .ref (ad 17)) C hP 0 rfl rfl inlX12 34 (by decide) m_8_1 rfl dX12_gatherCards_86 ?_
            refine lv_iload_n C.1 C.2.1 dX12_gatherCards_89 rfl (lv_at hl 3 rfl) ?_
            refine lv_iload_n C.1 C.2.1 dX12_gatherCards_90 rfl (lv_at hl 1 rfl) ?_
            refine lv_iload C.1 C.2.1 dX12_gatherCards_91 (lv_at hl 5 rfl) ?_
            obtain ⟨v_12, e_13⟩ : ∃ z, z = (w46_1 : Int32) + (w46_5 : Int32) := ⟨_, rfl⟩
            have h_14 : v_12.toInt = w46_1.toInt + w46_5.toInt := by rw [e_13]; exact ti_iadd (by show (_ : Int) ≤ w46_1.toInt + w46_5.toInt; omega) (by show w46_1.toInt + w46_5.toInt < (_ : Int); omega)
            refine k_iadd (v := v_12) C e_13.symm dX12_gatherCards_93 ?_
            refine k_ist (ws' := WM K ad (uB (uB t1 16 (w46_3 : Int32).toNatClampNeg w46_1) 17 (w46_3 : Int32).toNatClampNeg v_12)) (x' := v_12) C hP hD hS 17 rfl (vp_in_iff.mpr ⟨by omega, by omega⟩) rfl rfl rfl dX12_gatherCards_94 (fun H locs hP hD hS => ?_)
            have hok : okM_g (uB (uB t1 16 (w46_3 : Int32).toNatClampNeg w46_1) 17 (w46_3 : Int32).toNatClampNeg v_12) := ⟨hok.1, okB_B hok.2.1 17 _ v_12 (show (0 : Int) ≤ (v_12 : Int32).toInt ∧ (v_12 : Int32).toInt ≤ 33300 from ⟨by omega, by omega⟩), hok.2.2.1, trivial, hok.2.2.2.2.1, hok.2.2.2.2.2.1, hok.2.2.2.2.2.2.1, trivial⟩
            have hfr : frA [(0, 35), (0, 36)] [] [15, 16, 17] [] t (uB (uB t1 16 (w46_3 : Int32).toNatClampNeg w46_1) 17 (w46_3 : Int32).toNatClampNeg v_12) := frA_B hfr 17 _ _ rfl
            refine lv_iload_n C.1 C.2.1 dX12_gatherCards_95 rfl (lv_at hl 1 rfl) ?_
            refine lv_iload C.1 C.2.1 dX12_gatherCards_96 (lv_at hl 5 rfl) ?_
            obtain ⟨v_15, e_16⟩ : ∃ z, z = (w46_1 : Int32) + (w46_5 : Int32) := ⟨_, rfl⟩
            have h_17 : v_15.toInt = w46_1.toInt + w46_5.toInt := by rw [e_16]; exact ti_iadd (by show (_ : Int) ≤ w46_1.toInt + w46_5.toInt; omega) (by show w46_1.toInt + w46_5.toInt < (_ : Int); omega)
            refine k_iadd (v := v_15) C e_16.symm dX12_gatherCards_98 ?_
            refine lv_istore_n (lv' := [(1, .int v_15), (0, .ref (ad 0)), (2, .int w46_2), (3, .int w46_3), (4, .int w46_4), (5, .int w46_5), (6, .int w46_6)]) C.1 C.2.1 dX12_gatherCards_99 rfl hl (by decide) rfl (fun ls hl => ?_)
            have hl : lv_has ls 7 [(0, .ref (ad 0)), (1, .int v_15), (2, .int w46_2), (3, .int w46_3), (4, .int w46_4), (5, .int w46_5), (6, .int w46_6)] := lv_sub hl [1, 0, 2, 3, 4, 5, 6] rfl
            obtain ⟨v_18, e_19⟩ : ∃ z, z = w46_3 + 1 := ⟨_, rfl⟩
            have h_20 : v_18.toInt = w46_3.toInt + 1 := by rw [e_19]; exact ti_iadd (by show (_ : Int) ≤ w46_3.toInt + 1; omega) (by show w46_3.toInt + 1 < (_ : Int); omega)
            refine lv_iinc (v := v_18) (lv' := [(3, .int v_18), (0, .ref (ad 0)), (1, .int v_15), (2, .int w46_2), (4, .int w46_4), (5, .int w46_5), (6, .int w46_6)]) C.1 C.2.1 dX12_gatherCards_100 hl (k := 3) rfl e_19.symm (by decide) rfl (fun ls hl => ?_)
            have hl : lv_has ls 7 [(0, .ref (ad 0)), (1, .int v_15), (2, .int w46_2), (3, .int v_18), (4, .int w46_4), (5, .int w46_5), (6, .int w46_6)] := lv_sub hl [1, 2, 3, 0, 4, 5, 6] rfl
            refine lv_goto (tgt := 9) C.1 C.2.1 dX12_gatherCards_103 (by decide) ?_
            exact ih_9 (uB (uB t1 16 (w46_3 : Int32).toNatClampNeg w46_1) 17 (w46_3 : Int32).toNatClampNeg v_12) v_15 w46_2 v_18 _ _ _ hok hfr ⟨by omega, (i_rng _).2⟩ (show v_15.toInt ≤ 80 * v_18.toInt from by omega) (show 0 ≤ v_15.toInt from by omega) (show 0 ≤ v_18.toInt from by omega) (show v_18.toInt ≤ w46_2.toInt from by omega) (show w46_2.toInt = (t.1 0 36).toInt - (t.1 0 35).toInt from by omega) (show (t1.1 0 35).toInt = (t.1 0 35).toInt from by omega) (show (t1.1 0 36).toInt = (t.1 0 36).toInt from by omega) (show iR ((t.1 0 35).toInt + v_18.toInt) (t.1 0 36).toInt ((uB (uB t1 16 (w46_3 : Int32).toNatClampNeg w46_1) 17 (w46_3 : Int32).toNatClampNeg v_12).2.2.1 16) ((uB (uB t1 16 (w46_3 : Int32).toNatClampNeg w46_1) 17 (w46_3 : Int32).toNatClampNeg v_12).2.2.1 17) from by first | exact fun c h1 h2 => hok0.2.2.2.1 c h2 | exact iR_hi hi46_8 w46_3 (by omega) (by omega) (by omega)) (show iR 0 v_18.toInt ((uB (uB t1 16 (w46_3 : Int32).toNatClampNeg w46_1) 17 (w46_3 : Int32).toNatClampNeg v_12).2.2.1 16) ((uB (uB t1 16 (w46_3 : Int32).toNatClampNeg w46_1) 17 (w46_3 : Int32).toNatClampNeg v_12).2.2.1 17) from by first | exact fun c h1 h2 => absurd h2 (by omega) | exact iR_lo w46_3 hi46_9 (by omega) (by omega) (by omega)) (show ∀ v : Int32, 0 ≤ v.toInt → v.toInt + 1 = v_18.toInt → (((uB (uB t1 16 (w46_3 : Int32).toNatClampNeg w46_1) 17 (w46_3 : Int32).toNatClampNeg v_12).2.2.1 17) v.toNatClampNeg).toInt ≤ v_15.toInt from by intro v h1 h2; first | (exfalso; omega) | (have hv : v = w46_3 := Int32.toInt_inj.mp (by omega); rw [hv]; show (upd _ _ _ _).toInt ≤ _; rw [pk_us]; omega)) (show (w46_2.toInt - v_18.toInt) < (fuel_9 : Int) from by omega) hP hD hS (lv_sub hl [0, 1, 2, 3] rfl)
          · replace c_11 : w46_6.toInt < w46_5.toInt := i_nle c_11
            refine lv_aload_n C.1 C.2.1 dX12_gatherCards_53 rfl (lv_at hl 0 rfl) ?_
            refine k_get (v := .ref (ad 15)) C hP 0 rfl rfl inlX12 32 (by decide) m_7_23 rfl dX12_gatherCards_54 ?_
            refine lv_iload_n C.1 C.2.1 dX12_gatherCards_57 rfl (lv_at hl 1 rfl) ?_
            refine lv_iload C.1 C.2.1 dX12_gatherCards_58 (lv_at hl 6 rfl) ?_
            obtain ⟨v_21, e_22⟩ : ∃ z, z = (w46_1 : Int32) + (w46_6 : Int32) := ⟨_, rfl⟩
            have h_23 : v_21.toInt = w46_1.toInt + w46_6.toInt := by rw [e_22]; exact ti_iadd (by show (_ : Int) ≤ w46_1.toInt + w46_6.toInt; omega) (by show w46_1.toInt + w46_6.toInt < (_ : Int); omega)
            refine k_iadd (v := v_21) C e_22.symm dX12_gatherCards_60 ?_
            refine lv_aload_n C.1 C.2.1 dX12_gatherCards_61 rfl (lv_at hl 0 rfl) ?_
            refine k_get (v := .ref (ad 15)) C hP 0 rfl rfl inlX12 32 (by decide) m_7_23 rfl dX12_gatherCards_62 ?_
            refine lv_iload C.1 C.2.1 dX12_gatherCards_65 (lv_at hl 4 rfl) ?_
            refine lv_iload C.1 C.2.1 dX12_gatherCards_67 (lv_at hl 6 rfl) ?_
            obtain ⟨v_24, e_25⟩ : ∃ z, z = (w46_4 : Int32) + (w46_6 : Int32) := ⟨_, rfl⟩
            have h_26 : v_24.toInt = w46_4.toInt + w46_6.toInt := by rw [e_25]; exact ti_iadd (by show (_ : Int) ≤ w46_4.toInt + w46_6.toInt; omega) (by show w46_4.toInt + w46_6.toInt < (_ : Int); omega)
            refine k_iadd (v := v_24) C e_25.symm dX12_gatherCards_69 ?_
            obtain ⟨v_27, e_28⟩ : ∃ z, z = (t1.2.2.1 15 (v_24 : Int32).toNatClampNeg) := ⟨_, rfl⟩
            have h_29 : (-3999 : Int) ≤ v_27.toInt ∧ v_27.toInt ≤ 127 := by rw [e_28]; exact hok.2.1 15 _
            refine k_bld (v := v_27) C hP 15 rfl (vp_in_iff.mpr ⟨by omega, by omega⟩) e_28.symm dX12_gatherCards_70 ?_
            obtain ⟨v_30, e_31⟩ : ∃ z, z = vp_nar .byte v_27 := ⟨_, rfl⟩
            have h_32 : (-128 : Int) ≤ v_30.toInt ∧ v_30.toInt ≤ 127 := by rw [e_31]; exact nar_byte _
            refine k_bst (ws' := WM K ad (uB t1 15 (v_21 : Int32).toNatClampNeg v_30)) (x' := v_30) C hP hD hS 15 rfl (vp_in_iff.mpr ⟨by omega, by omega⟩) rfl e_31.symm rfl dX12_gatherCards_71 (fun H locs hP hD hS => ?_)
            have hok : okM_g (uB t1 15 (v_21 : Int32).toNatClampNeg v_30) := ⟨hok.1, okB_B hok.2.1 15 _ v_30 (show (-3999 : Int) ≤ (v_30 : Int32).toInt ∧ (v_30 : Int32).toInt ≤ 127 from ⟨by omega, by omega⟩), hok.2.2.1, trivial, hok.2.2.2.2.1, hok.2.2.2.2.2.1, hok.2.2.2.2.2.2.1, trivial⟩
            have hfr : frA [(0, 35), (0, 36)] [] [15, 16, 17] [] t (uB t1 15 (v_21 : Int32).toNatClampNeg v_30) := frA_B hfr 15 _ _ rfl
            obtain ⟨v_33, e_34⟩ : ∃ z, z = w46_6 + 1 := ⟨_, rfl⟩
            have h_35 : v_33.toInt = w46_6.toInt + 1 := by rw [e_34]; exact ti_iadd (by show (_ : Int) ≤ w46_6.toInt + 1; omega) (by show w46_6.toInt + 1 < (_ : Int); omega)
            refine lv_iinc (v := v_33) (lv' := [(6, .int v_33), (0, .ref (ad 0)), (1, .int w46_1), (2, .int w46_2), (3, .int w46_3), (4, .int w46_4), (5, .int w46_5)]) C.1 C.2.1 dX12_gatherCards_72 hl (k := 6) rfl e_34.symm (by decide) rfl (fun ls hl => ?_)
            have hl : lv_has ls 7 [(0, .ref (ad 0)), (1, .int w46_1), (2, .int w46_2), (3, .int w46_3), (4, .int w46_4), (5, .int w46_5), (6, .int v_33)] := lv_sub hl [1, 2, 3, 4, 5, 6, 0] rfl
            refine lv_goto (tgt := 46) C.1 C.2.1 dX12_gatherCards_75 (by decide) ?_
            exact ih_46 (uB t1 15 (v_21 : Int32).toNatClampNeg v_30) w46_1 w46_2 w46_3 w46_4 w46_5 v_33 _ _ _ hok hfr ⟨by omega, (i_rng _).2⟩ ⟨by omega, by omega⟩ ⟨by omega, by omega⟩ ⟨by omega, by omega⟩ (show w46_1.toInt ≤ 80 * w46_3.toInt from by omega) (show 0 ≤ w46_1.toInt from by omega) (show 0 ≤ w46_3.toInt from by omega) (show w46_3.toInt ≤ w46_2.toInt from by omega) (show w46_2.toInt = (t.1 0 36).toInt - (t.1 0 35).toInt from by omega) (show (t1.1 0 35).toInt = (t.1 0 35).toInt from by omega) (show (t1.1 0 36).toInt = (t.1 0 36).toInt from by omega) (show w46_3.toInt < w46_2.toInt from by omega) (show iR ((t.1 0 35).toInt + w46_3.toInt) (t.1 0 36).toInt (t1.2.2.1 16) (t1.2.2.1 17) from by first | exact hi9_7 | exact hi46_8) (show iR 0 w46_3.toInt (t1.2.2.1 16) (t1.2.2.1 17) from by first | exact hi9_8 | exact hi46_9) (show ∀ v : Int32, 0 ≤ v.toInt → v.toInt + 1 = w46_3.toInt → ((t1.2.2.1 17) v.toNatClampNeg).toInt ≤ w46_1.toInt from by first | exact hi9_9 | exact hi46_10) (show 0 ≤ w46_4.toInt from by omega) (show 0 ≤ w46_5.toInt from by omega) (show w46_5.toInt ≤ 80 from by omega) (show w46_4.toInt + w46_5.toInt ≤ 33300 from by omega) (show 0 ≤ v_33.toInt from by omega) (show v_33.toInt ≤ w46_5.toInt from by omega) (show (w46_2.toInt - w46_3.toInt) < (fuel_9 : Int) + 1 from by omega) (show (w46_5.toInt - v_33.toInt) < (fuel_46 : Int) from by omega) hP hD hS (lv_sub hl [0, 1, 2, 3, 4, 5, 6] rfl)
      refine lv_iload_n C.1 C.2.1 dX12_gatherCards_9 rfl (lv_at hl 3 rfl) ?_
      refine lv_iload_n C.1 C.2.1 dX12_gatherCards_10 rfl (lv_at hl 2 rfl) ?_
      refine lv_icmp_ge (tgt := 106) C.1 C.2.1 dX12_gatherCards_11 (by decide) (fun c_36 => ?_) (fun c_36 => ?_)
      · replace c_36 : w9_2.toInt ≤ w9_3.toInt := i_le c_36
        refine lv_aload_n C.1 C.2.1 dX12_gatherCards_106 rfl (lv_at hl 0 rfl) ?_
        refine lv_iconst (v := 0) C.1 C.2.1 dX12_gatherCards_107 (by decide) ?_
        refine k_put (ws' := WM K ad (uI t1 0 35 0)) (v := .int 0) C hP hD hS 0 rfl rfl inlX12 tyX12_ok nmX12 35 (by decide) m_44_17 rfl rfl rfl rfl rfl dX12_gatherCards_108 (fun H locs hP hD hS => ?_)
        have hok : okM_g (uI t1 0 35 0) := ⟨okI_I hok.1 0 35 0 (show (0 : Int) ≤ (0 : Int32).toInt ∧ (0 : Int32).toInt ≤ 1700 from ⟨by decide, by decide⟩), hok.2.1, hok.2.2.1, trivial, hok.2.2.2.2.1, ((show (0 : Int32).toInt ≤ (t1.1 0 36).toInt from by have : (0 : Int32).toInt = 0 := rfl; omega)), hok.2.2.2.2.2.2.1, trivial⟩
        have hfr : frA [(0, 35), (0, 36)] [] [15, 16, 17] [] t (uI t1 0 35 0) := frA_I hfr 0 35 _ rfl
        refine lv_aload_n C.1 C.2.1 dX12_gatherCards_111 rfl (lv_at hl 0 rfl) ?_
        refine lv_iload_n C.1 C.2.1 dX12_gatherCards_112 rfl (lv_at hl 2 rfl) ?_
        refine k_put (ws' := WM K ad (uI (uI t1 0 35 0) 0 36 w9_2)) (v := .int w9_2) C hP hD hS 0 rfl rfl inlX12 tyX12_ok nmX12 36 (by decide) m_44_16 rfl rfl rfl rfl rfl dX12_gatherCards_113 (fun H locs hP hD hS => ?_)
        have hok : okM_g (uI (uI t1 0 35 0) 0 36 w9_2) := ⟨okI_I hok.1 0 36 w9_2 (show (0 : Int) ≤ (w9_2 : Int32).toInt ∧ (w9_2 : Int32).toInt ≤ 1700 from ⟨by omega, by omega⟩), hok.2.1, hok.2.2.1, trivial, hok.2.2.2.2.1, ((show (0 : Int32).toInt ≤ (w9_2 : Int32).toInt from by have : (0 : Int32).toInt = 0 := rfl; omega)), hok.2.2.2.2.2.2.1, trivial⟩
        have hfr : frA [(0, 35), (0, 36)] [] [15, 16, 17] [] t (uI (uI t1 0 35 0) 0 36 w9_2) := frA_I hfr 0 36 _ rfl
        have hok : okM (uI (uI t1 0 35 0) 0 36 w9_2) := ⟨hok.1, hok.2.1, hok.2.2.1, ((show iM2 w9_2 (t1.2.2.1 16) (t1.2.2.1 17) from fun c hc => hi9_8 c (by omega) (by omega))), hok.2.2.2.2.1, hok.2.2.2.2.2.1, hok.2.2.2.2.2.2.1, trivial⟩
        exact g_vret C hr hlocks hP hD hS (uI (uI t1 0 35 0) 0 36 w9_2) rfl ⟨hok, hfr, (show 0 = 0 from by omega), (show w9_2.toInt = (t.1 0 36).toInt - (t.1 0 35).toInt from by omega), (show lastLe w9_2 (t1.2.2.1 17) 32000 from by exact ⟨fun _ => by omega, fun v h1 h2 => by have := hi9_9 v h1 (by omega); omega⟩)⟩ (Nat.le_of_ble_eq_true rfl) (Nat.le_of_ble_eq_true rfl) dX12_gatherCards_116
      · replace c_36 : w9_3.toInt < w9_2.toInt := i_nle c_36
        refine lv_aload_n C.1 C.2.1 dX12_gatherCards_14 rfl (lv_at hl 0 rfl) ?_
        refine k_get (v := .ref (ad 16)) C hP 0 rfl rfl inlX12 33 (by decide) m_8_0 rfl dX12_gatherCards_15 ?_
        refine lv_aload_n C.1 C.2.1 dX12_gatherCards_18 rfl (lv_at hl 0 rfl) ?_
        refine k_get (v := .int (t1.1 0 35)) C hP 0 rfl rfl inlX12 35 (by decide) m_44_17 rfl dX12_gatherCards_19 ?_
        refine lv_iload_n C.1 C.2.1 dX12_gatherCards_22 rfl (lv_at hl 3 rfl) ?_
        obtain ⟨v_37, e_38⟩ : ∃ z, z = ((t1.1 0 35) : Int32) + (w9_3 : Int32) := ⟨_, rfl⟩
        have h_39 : v_37.toInt = (t1.1 0 35).toInt + w9_3.toInt := by rw [e_38]; exact ti_iadd (by show (_ : Int) ≤ (t1.1 0 35).toInt + w9_3.toInt; omega) (by show (t1.1 0 35).toInt + w9_3.toInt < (_ : Int); omega)
        refine k_iadd (v := v_37) C e_38.symm dX12_gatherCards_23 ?_
        have h_40 : (0 : Int) ≤ (t1.2.2.1 16 (v_37 : Int32).toNatClampNeg).toInt ∧ (t1.2.2.1 16 (v_37 : Int32).toNatClampNeg).toInt ≤ 33300 := hok.2.1 16 _
        refine k_ild (v := (t1.2.2.1 16 (v_37 : Int32).toNatClampNeg)) C hP 16 rfl (vp_in_iff.mpr ⟨by omega, by omega⟩) rfl dX12_gatherCards_24 ?_
        have hz24 : ∀ z : Int32, z.toInt = (v_37 : Int32).toInt → ((t1.2.2.1 16) z.toNatClampNeg).toInt = (t1.2.2.1 16 (v_37 : Int32).toNatClampNeg).toInt := fun z hz => by rw [Int32.toInt_inj.mp hz]
        refine lv_istore (lv' := [(4, .int (t1.2.2.1 16 (v_37 : Int32).toNatClampNeg)), (0, .ref (ad 0)), (1, .int w9_1), (2, .int w9_2), (3, .int w9_3)]) C.1 C.2.1 dX12_gatherCards_25 hl (by decide) rfl (fun ls hl => ?_)
        have hl : lv_has ls 7 [(0, .ref (ad 0)), (1, .int w9_1), (2, .int w9_2), (3, .int w9_3), (4, .int (t1.2.2.1 16 (v_37 : Int32).toNatClampNeg))] := lv_sub hl [1, 2, 3, 4, 0] rfl
        refine lv_aload_n C.1 C.2.1 dX12_gatherCards_27 rfl (lv_at hl 0 rfl) ?_
        refine k_get (v := .ref (ad 17)) C hP 0 rfl rfl inlX12 34 (by decide) m_8_1 rfl dX12_gatherCards_28 ?_
        refine lv_aload_n C.1 C.2.1 dX12_gatherCards_31 rfl (lv_at hl 0 rfl) ?_
        refine k_get (v := .int (t1.1 0 35)) C hP 0 rfl rfl inlX12 35 (by decide) m_44_17 rfl dX12_gatherCards_32 ?_
        refine lv_iload_n C.1 C.2.1 dX12_gatherCards_35 rfl (lv_at hl 3 rfl) ?_
        obtain ⟨v_41, e_42⟩ : ∃ z, z = ((t1.1 0 35) : Int32) + (w9_3 : Int32) := ⟨_, rfl⟩
        have h_43 : v_41.toInt = (t1.1 0 35).toInt + w9_3.toInt := by rw [e_42]; exact ti_iadd (by show (_ : Int) ≤ (t1.1 0 35).toInt + w9_3.toInt; omega) (by show (t1.1 0 35).toInt + w9_3.toInt < (_ : Int); omega)
        refine k_iadd (v := v_41) C e_42.symm dX12_gatherCards_36 ?_
        have h_44 : (0 : Int) ≤ (t1.2.2.1 17 (v_41 : Int32).toNatClampNeg).toInt ∧ (t1.2.2.1 17 (v_41 : Int32).toNatClampNeg).toInt ≤ 33300 := hok.2.1 17 _
        refine k_ild (v := (t1.2.2.1 17 (v_41 : Int32).toNatClampNeg)) C hP 17 rfl (vp_in_iff.mpr ⟨by omega, by omega⟩) rfl dX12_gatherCards_37 ?_
        have hz25 := hz24 v_41 (by omega)
        have hra : _ ∧ _ := iR_at hi9_7 v_41 (by omega) (by omega) (by omega)
        refine lv_iload C.1 C.2.1 dX12_gatherCards_38 (lv_at hl 4 rfl) ?_
        obtain ⟨v_45, e_46⟩ : ∃ z, z = ((t1.2.2.1 17 (v_41 : Int32).toNatClampNeg) : Int32) - ((t1.2.2.1 16 (v_37 : Int32).toNatClampNeg) : Int32) := ⟨_, rfl⟩
        have h_47 : v_45.toInt = (t1.2.2.1 17 (v_41 : Int32).toNatClampNeg).toInt - (t1.2.2.1 16 (v_37 : Int32).toNatClampNeg).toInt := by rw [e_46]; exact ti_isub (by show (_ : Int) ≤ (t1.2.2.1 17 (v_41 : Int32).toNatClampNeg).toInt - (t1.2.2.1 16 (v_37 : Int32).toNatClampNeg).toInt; omega) (by show (t1.2.2.1 17 (v_41 : Int32).toNatClampNeg).toInt - (t1.2.2.1 16 (v_37 : Int32).toNatClampNeg).toInt < (_ : Int); omega)
        refine k_isub (v := v_45) C e_46.symm dX12_gatherCards_40 ?_
        refine lv_istore (lv' := [(5, .int v_45), (0, .ref (ad 0)), (1, .int w9_1), (2, .int w9_2), (3, .int w9_3), (4, .int (t1.2.2.1 16 (v_37 : Int32).toNatClampNeg))]) C.1 C.2.1 dX12_gatherCards_41 hl (by decide) rfl (fun ls hl => ?_)
        have hl : lv_has ls 7 [(0, .ref (ad 0)), (1, .int w9_1), (2, .int w9_2), (3, .int w9_3), (4, .int (t1.2.2.1 16 (v_37 : Int32).toNatClampNeg)), (5, .int v_45)] := lv_sub hl [1, 2, 3, 4, 5, 0] rfl
        refine lv_iconst (v := 0) C.1 C.2.1 dX12_gatherCards_43 (by decide) ?_
        refine lv_istore (lv' := [(6, .int 0), (0, .ref (ad 0)), (1, .int w9_1), (2, .int w9_2), (3, .int w9_3), (4, .int (t1.2.2.1 16 (v_37 : Int32).toNatClampNeg)), (5, .int v_45)]) C.1 C.2.1 dX12_gatherCards_44 hl (by decide) rfl (fun ls hl => ?_)
        have hl : lv_has ls 7 [(0, .ref (ad 0)), (1, .int w9_1), (2, .int w9_2), (3, .int w9_3), (4, .int (t1.2.2.1 16 (v_37 : Int32).toNatClampNeg)), (5, .int v_45), (6, .int 0)] := lv_sub hl [1, 2, 3, 4, 5, 6, 0] rfl
        exact L_46 100 t1 w9_1 w9_2 w9_3 (t1.2.2.1 16 (v_37 : Int32).toNatClampNeg) v_45 0 _ _ _ hok hfr ⟨by omega, (i_rng _).2⟩ ⟨by omega, by omega⟩ ⟨by omega, by omega⟩ ⟨by decide, by decide⟩ (show w9_1.toInt ≤ 80 * w9_3.toInt from by omega) (show 0 ≤ w9_1.toInt from by omega) (show 0 ≤ w9_3.toInt from by omega) (show w9_3.toInt ≤ w9_2.toInt from by omega) (show w9_2.toInt = (t.1 0 36).toInt - (t.1 0 35).toInt from by omega) (show (t1.1 0 35).toInt = (t.1 0 35).toInt from by omega) (show (t1.1 0 36).toInt = (t.1 0 36).toInt from by omega) (show w9_3.toInt < w9_2.toInt from by omega) (show iR ((t.1 0 35).toInt + w9_3.toInt) (t.1 0 36).toInt (t1.2.2.1 16) (t1.2.2.1 17) from by first | exact hi9_7 | exact hi46_8) (show iR 0 w9_3.toInt (t1.2.2.1 16) (t1.2.2.1 17) from by first | exact hi9_8 | exact hi46_9) (show ∀ v : Int32, 0 ≤ v.toInt → v.toInt + 1 = w9_3.toInt → ((t1.2.2.1 17) v.toNatClampNeg).toInt ≤ w9_1.toInt from by first | exact hi9_9 | exact hi46_10) (show 0 ≤ (t1.2.2.1 16 (v_37 : Int32).toNatClampNeg).toInt from by omega) (show 0 ≤ v_45.toInt from by omega) (show v_45.toInt ≤ 80 from by omega) (show (t1.2.2.1 16 (v_37 : Int32).toNatClampNeg).toInt + v_45.toInt ≤ 33300 from by omega) (show 0 ≤ 0 from by omega) (show 0 ≤ v_45.toInt from by omega) (show (w9_2.toInt - w9_3.toInt) < (fuel_9 : Int) + 1 from by omega) (show (v_45.toInt - 0) < ((100 : Nat) : Int) from by omega) hP hD hS (lv_sub hl [0, 1, 2, 3, 4, 5, 6] rfl)
  have hcc : (t.1 0 35).toInt ≤ (t.1 0 36).toInt := hok.2.2.2.2.2.1
  refine lv_iconst (v := 0) C.1 C.2.1 dX12_gatherCards_0 (by decide) ?_
  refine lv_istore_n (lv' := [(1, .int 0), (0, .ref (ad 0))]) C.1 C.2.1 dX12_gatherCards_1 rfl hl (by decide) rfl (fun ls hl => ?_)
  have hl : lv_has ls 7 [(0, .ref (ad 0)), (1, .int 0)] := lv_sub hl [1, 0] rfl
  refine lv_aload_n C.1 C.2.1 dX12_gatherCards_2 rfl (lv_at hl 0 rfl) ?_
  refine g_Vi (As := []) (rest := []) C hP hD hS hA (T_X12_cardsLeft l D K Z Y ad t hok0 ) hE hZ (uwV m_44_12 m_44_13 m_44_14 m_1_5 m_44_15) (hdV 0 (by decide +kernel) rfl) ⟨Nat.le_of_ble_eq_true rfl, Nat.le_of_ble_eq_true rfl⟩ rfl rfl (ci := 11) (q0 := 0) rfl rfl rfl hl.1 (Nat.le_of_ble_eq_true rfl) dX12_gatherCards_3 ⟨Nat.le_of_ble_eq_true rfl, Nat.le_of_ble_eq_true rfl⟩ (fun r_49 t_48 H locs hw hP hD hS => ?_)
  obtain ⟨h_51, h_52, p_53⟩ := hw
  replace p_53 : r_49.toInt = (t.1 0 36).toInt - (t.1 0 35).toInt := p_53
  refine lv_istore_n (lv' := [(2, .int r_49), (0, .ref (ad 0)), (1, .int 0)]) C.1 C.2.1 dX12_gatherCards_6 rfl hl (by decide) rfl (fun ls hl => ?_)
  have hl : lv_has ls 7 [(0, .ref (ad 0)), (1, .int 0), (2, .int r_49)] := lv_sub hl [1, 2, 0] rfl
  refine lv_iconst (v := 0) C.1 C.2.1 dX12_gatherCards_7 (by decide) ?_
  refine lv_istore_n (lv' := [(3, .int 0), (0, .ref (ad 0)), (1, .int 0), (2, .int r_49)]) C.1 C.2.1 dX12_gatherCards_8 rfl hl (by decide) rfl (fun ls hl => ?_)
  have hl : lv_has ls 7 [(0, .ref (ad 0)), (1, .int 0), (2, .int r_49), (3, .int 0)] := lv_sub hl [1, 2, 3, 0] rfl
  exact L_9 2000 t 0 r_49 0 _ _ _ hok hfr ⟨by omega, (i_rng _).2⟩ (show 0 ≤ 80 * 0 from by omega) (show 0 ≤ 0 from by omega) (show 0 ≤ 0 from by omega) (show 0 ≤ r_49.toInt from by omega) (show r_49.toInt = (t.1 0 36).toInt - (t.1 0 35).toInt from by omega) (show (t.1 0 35).toInt = (t.1 0 35).toInt from by omega) (show (t.1 0 36).toInt = (t.1 0 36).toInt from by omega) (show iR ((t.1 0 35).toInt + 0) (t.1 0 36).toInt (t.2.2.1 16) (t.2.2.1 17) from by first | exact fun c h1 h2 => hok0.2.2.2.1 c h2 | exact iR_hi hi46_8 w46_3 (by omega) (by omega) (by omega)) (show iR 0 0 (t.2.2.1 16) (t.2.2.1 17) from by first | exact fun c h1 h2 => absurd h2 (by omega) | exact iR_lo w46_3 hi46_9 (by omega) (by omega) (by omega)) (show ∀ v : Int32, 0 ≤ v.toInt → v.toInt + 1 = 0 → ((t.2.2.1 17) v.toNatClampNeg).toInt ≤ 0 from by intro v h1 h2; first | (exfalso; omega) | (have hv : v = w46_3 := Int32.toInt_inj.mp (by omega); rw [hv]; show (upd _ _ _ _).toInt ≤ _; rw [pk_us]; omega)) (show (r_49.toInt - 0) < ((2000 : Nat) : Int) from by omega) hP hD hS (lv_sub hl [0, 1, 2, 3] rfl)

theorem dX12_byteOf_0 : decode cX12_byteOf 0 = .ok (.iload_n 0, 1) := by decide +kernel
theorem dX12_byteOf_1 : decode cX12_byteOf 1 = .ok (.sipush 255, 3) := by decide +kernel
theorem dX12_byteOf_12 : decode cX12_byteOf 12 = .ok (.iload_n 1, 1) := by decide +kernel
theorem dX12_byteOf_13 : decode cX12_byteOf 13 = .ok (.bipush 122, 2) := by decide +kernel
theorem dX12_byteOf_15 : decode cX12_byteOf 15 = .ok (.if_icmp .gt 8, 3) := by decide +kernel
theorem dX12_byteOf_18 : decode cX12_byteOf 18 = .ok (.iload_n 1, 1) := by decide +kernel
theorem dX12_byteOf_19 : decode cX12_byteOf 19 = .ok (.bipush 32, 2) := by decide +kernel
theorem dX12_byteOf_21 : decode cX12_byteOf 21 = .ok (.isub, 1) := by decide +kernel
theorem dX12_byteOf_22 : decode cX12_byteOf 22 = .ok (.istore_n 1, 1) := by decide +kernel
theorem dX12_byteOf_23 : decode cX12_byteOf 23 = .ok (.ldc 165, 2) := by decide +kernel
theorem dX12_byteOf_25 : decode cX12_byteOf 25 = .ok (.iload_n 1, 1) := by decide +kernel
theorem dX12_byteOf_26 : decode cX12_byteOf 26 = .ok (.invokevirtual 167, 3) := by decide +kernel
theorem dX12_byteOf_29 : decode cX12_byteOf 29 = .ok (.istore_n 2, 1) := by decide +kernel
theorem dX12_byteOf_30 : decode cX12_byteOf 30 = .ok (.iload_n 2, 1) := by decide +kernel
theorem dX12_byteOf_31 : decode cX12_byteOf 31 = .ok (.ifCond .ge 7, 3) := by decide +kernel
theorem dX12_byteOf_34 : decode cX12_byteOf 34 = .ok (.iconst 0, 1) := by decide +kernel
theorem dX12_byteOf_35 : decode cX12_byteOf 35 = .ok (.goto 4, 3) := by decide +kernel
theorem dX12_byteOf_38 : decode cX12_byteOf 38 = .ok (.iload_n 2, 1) := by decide +kernel
theorem dX12_byteOf_39 : decode cX12_byteOf 39 = .ok (.ireturn, 1) := by decide +kernel
theorem dX12_byteOf_4 : decode cX12_byteOf 4 = .ok (.iand, 1) := by decide +kernel
theorem dX12_byteOf_5 : decode cX12_byteOf 5 = .ok (.istore_n 1, 1) := by decide +kernel
theorem dX12_byteOf_6 : decode cX12_byteOf 6 = .ok (.iload_n 1, 1) := by decide +kernel
theorem dX12_byteOf_7 : decode cX12_byteOf 7 = .ok (.bipush 97, 2) := by decide +kernel
theorem dX12_byteOf_9 : decode cX12_byteOf 9 = .ok (.if_icmp .lt 14, 3) := by decide +kernel
set_option maxHeartbeats 4000000 in
set_option maxRecDepth 100000 in
theorem T_X12_byteOf (l : Launch) (D : va_G) (K : Nat → ClassId) (Z Y : Nat → Nat) (ad : Nat → Nat) (t : tSt) (hok : okM t) (x0 : Int32) (hx0 : (-3999 : Int) ≤ x0.toInt ∧ x0.toInt ≤ 255) : tMet l yX12_byteOf cX12_byteOf 3 (some .int) (rmD 5 0 0) D K Z Y [.int x0] (WM K ad t) (QI D K (fun (r : Int32) (u : Unit) => (0 : Int) ≤ r.toInt ∧ r.toInt ≤ 55 ∧ (r = bO x0)) (fun (_ : Unit) => WM K ad t)) 0 0 := by
  refine t_met RX12 ⟨rfl, by decide +kernel⟩ (Nat.le_of_ble_eq_true rfl) ?_
  intro p e s m below meth c A ls C hE hZ hr hlocks hA hP hD hS hl
  have hl : lv_has ls 3 [(0, .int x0)] := hl
  have L_23 : ∀ (w23_1 : Int32) (H : Heap) (locs : List Loc) (ls : Array Slot), (0 : Int) ≤ w23_1.toInt ∧ w23_1.toInt ≤ 255 → (w23_1 = bU x0) → va_P D vwCl (WM K ad t) H → va_D A (WM K ad t) → va_S A s.heap H locs → lv_has ls 3 [(0, .int x0), (1, .int w23_1)] → W p l e (rmD 5 0 0) s m [.int x0].toArray below meth c H locs 0 0 (MQ below (QI D K (fun (r : Int32) (u : Unit) => (0 : Int) ≤ r.toInt ∧ r.toInt ≤ 55 ∧ (r = bO x0)) (fun (_ : Unit) => WM K ad t) A) [.int x0].toArray s 0 0 A) (F0 m 23 ls []) := by
    intro w23_1 H locs ls hw23_1 hi23_0 hP hD hS hl
    refine va_ldcS C.1 C.2.1 C.2.2.2.1 (hE.2 23 (by decide)) dX12_byteOf_23 ?_
    refine lv_iload_n C.1 C.2.1 dX12_byteOf_25 rfl (lv_at hl 1 rfl) ?_
    refine g_Ti (As := [.int w23_1]) (rest := []) C hP hD hS hA (TJ_indexOf l D K Z Y (WM K ad t) 23 (by decide) (by decide) w23_1) hE hZ (uwV m_31_18 m_14_6 m_14_7 m_14_8 m_14_9) (hdV 1 (by decide +kernel) rfl) ⟨Nat.le_of_ble_eq_true rfl, Nat.le_of_ble_eq_true rfl⟩ rfl rfl (i0 := 23) (by decide) rfl rfl hl.1 (Nat.le_of_ble_eq_true rfl) dX12_byteOf_26 ⟨Nat.le_of_ble_eq_true rfl, Nat.le_of_ble_eq_true rfl⟩ (fun r_1 u_r_1 H locs hw hP hD hS => ?_)
    have er_1 : r_1 = sIx 23 (w23_1) := hw
    have h_2 : (-1 : Int) ≤ r_1.toInt ∧ r_1.toInt ≤ 55 := by rw [er_1]; exact sIx_r23 _
    refine lv_istore_n (lv' := [(2, .int r_1), (0, .int x0), (1, .int w23_1)]) C.1 C.2.1 dX12_byteOf_29 rfl hl (by decide) rfl (fun ls hl => ?_)
    have hl : lv_has ls 3 [(0, .int x0), (1, .int w23_1), (2, .int r_1)] := lv_sub hl [1, 2, 0] rfl
    refine lv_iload_n C.1 C.2.1 dX12_byteOf_30 rfl (lv_at hl 2 rfl) ?_
    refine lv_if_ge (tgt := 38) C.1 C.2.1 dX12_byteOf_31 (by decide) (fun c_3 => ?_) (fun c_3 => ?_)
    · replace c_3 : 0 ≤ r_1.toInt := i_le c_3
      refine lv_iload_n C.1 C.2.1 dX12_byteOf_38 rfl (lv_at hl 2 rfl) ?_
      exact g_iret C hr hlocks hP hD hS rfl () rfl ⟨by omega, by omega, (show r_1 = bO x0 from by subst_vars; first | exact (if_pos (by omega)).symm | exact (if_neg (by omega)).symm)⟩ (Nat.le_of_ble_eq_true rfl) (Nat.le_of_ble_eq_true rfl) dX12_byteOf_39
    · replace c_3 : r_1.toInt < 0 := i_nle c_3
      refine lv_iconst (v := 0) C.1 C.2.1 dX12_byteOf_34 (by decide) ?_
      refine lv_goto (tgt := 39) C.1 C.2.1 dX12_byteOf_35 (by decide) ?_
      exact g_iret C hr hlocks hP hD hS rfl () rfl ⟨by decide, by decide, (show 0 = bO x0 from by subst_vars; first | exact (if_pos (by omega)).symm | exact (if_neg (by omega)).symm)⟩ (Nat.le_of_ble_eq_true rfl) (Nat.le_of_ble_eq_true rfl) dX12_byteOf_39
  refine lv_iload_n C.1 C.2.1 dX12_byteOf_0 rfl (lv_at hl 0 rfl) ?_
  refine lv_sipush (v := 255) C.1 C.2.1 dX12_byteOf_1 (by decide) ?_
  obtain ⟨v_4, e_5⟩ : ∃ z, z = (x0 : Int32) &&& (255 : Int32) := ⟨_, rfl⟩
  have h_6 : v_4.toInt = x0.toInt % 2 ^ 8 := by rw [e_5]; exact Jvm.Kit.i32_mask _ _ (k := 8) (by decide) (by decide)
  refine k_iand (v := v_4) C e_5.symm dX12_byteOf_4 ?_
  refine lv_istore_n (lv' := [(1, .int v_4), (0, .int x0)]) C.1 C.2.1 dX12_byteOf_5 rfl hl (by decide) rfl (fun ls hl => ?_)
  have hl : lv_has ls 3 [(0, .int x0), (1, .int v_4)] := lv_sub hl [1, 0] rfl
  refine lv_iload_n C.1 C.2.1 dX12_byteOf_6 rfl (lv_at hl 1 rfl) ?_
  refine lv_bipush (v := 97) C.1 C.2.1 dX12_byteOf_7 (by decide) ?_
  refine lv_icmp_lt (tgt := 23) C.1 C.2.1 dX12_byteOf_9 (by decide) (fun c_7 => ?_) (fun c_7 => ?_)
  · replace c_7 : v_4.toInt < 97 := i_lt c_7
    exact L_23 v_4 _ _ _ ⟨by omega, by omega⟩ (show v_4 = bU x0 from by subst_vars; first | exact (if_pos (by omega)).symm | exact (if_neg (by omega)).symm) hP hD hS (lv_sub hl [0, 1] rfl)
  · replace c_7 : 97 ≤ v_4.toInt := i_nlt c_7
    refine lv_iload_n C.1 C.2.1 dX12_byteOf_12 rfl (lv_at hl 1 rfl) ?_
    refine lv_bipush (v := 122) C.1 C.2.1 dX12_byteOf_13 (by decide) ?_
    refine lv_icmp_gt (tgt := 23) C.1 C.2.1 dX12_byteOf_15 (by decide) (fun c_8 => ?_) (fun c_8 => ?_)
    · replace c_8 : 122 < v_4.toInt := i_lt c_8
      exact L_23 v_4 _ _ _ ⟨by omega, by omega⟩ (show v_4 = bU x0 from by subst_vars; first | exact (if_pos (by omega)).symm | exact (if_neg (by omega)).symm) hP hD hS (lv_sub hl [0, 1] rfl)
    · replace c_8 : v_4.toInt ≤ 122 := i_nlt c_8
      refine lv_iload_n C.1 C.2.1 dX12_byteOf_18 rfl (lv_at hl 1 rfl) ?_
      refine lv_bipush (v := 32) C.1 C.2.1 dX12_byteOf_19 (by decide) ?_
      obtain ⟨v_9, e_10⟩ : ∃ z, z = (v_4 : Int32) - (32 : Int32) := ⟨_, rfl⟩
      have h_11 : v_9.toInt = v_4.toInt - 32 := by rw [e_10]; exact ti_isub (by show (_ : Int) ≤ v_4.toInt - 32; omega) (by show v_4.toInt - 32 < (_ : Int); omega)
      refine k_isub (v := v_9) C e_10.symm dX12_byteOf_21 ?_
      refine lv_istore_n (lv' := [(1, .int v_9), (0, .int x0)]) C.1 C.2.1 dX12_byteOf_22 rfl hl (by decide) rfl (fun ls hl => ?_)
      have hl : lv_has ls 3 [(0, .int x0), (1, .int v_9)] := lv_sub hl [1, 0] rfl
      exact L_23 v_9 _ _ _ ⟨by omega, by omega⟩ (show v_9 = bU x0 from by subst_vars; first | exact (if_pos (by omega)).symm | exact (if_neg (by omega)).symm) hP hD hS (lv_sub hl [0, 1] rfl)

theorem dX12_memoryAt_0 : decode cX12_memoryAt 0 = .ok (.aload_n 0, 1) := by decide +kernel
theorem dX12_memoryAt_1 : decode cX12_memoryAt 1 = .ok (.getfield 13, 3) := by decide +kernel
theorem dX12_memoryAt_10 : decode cX12_memoryAt 10 = .ok (.ireturn, 1) := by decide +kernel
theorem dX12_memoryAt_4 : decode cX12_memoryAt 4 = .ok (.iload_n 1, 1) := by decide +kernel
theorem dX12_memoryAt_5 : decode cX12_memoryAt 5 = .ok (.sipush (-3999), 3) := by decide +kernel
theorem dX12_memoryAt_8 : decode cX12_memoryAt 8 = .ok (.isub, 1) := by decide +kernel
theorem dX12_memoryAt_9 : decode cX12_memoryAt 9 = .ok (.iaload, 1) := by decide +kernel
set_option maxHeartbeats 4000000 in
set_option maxRecDepth 100000 in
theorem T_X12_memoryAt (l : Launch) (D : va_G) (K : Nat → ClassId) (Z Y : Nat → Nat) (ad : Nat → Nat) (t : tSt) (hok : okM t) (x1 : Int32) (hx1 : (-3999 : Int) ≤ x1.toInt ∧ x1.toInt ≤ 3999) : tMet l yX12_memoryAt cX12_memoryAt 2 (some .int) (rmD 0 0 0) D K Z Y [.ref (ad 0), .int x1] (WM K ad t) (QI D K (fun (r : Int32) (u : Unit) => (-2147483648 : Int) ≤ r.toInt ∧ r.toInt ≤ 2147483647) (fun (_ : Unit) => WM K ad t)) 0 0 := by
  refine t_met RX12 ⟨rfl, by decide +kernel⟩ (Nat.le_of_ble_eq_true rfl) ?_
  intro p e s m below meth c A ls C hE hZ hr hlocks hA hP hD hS hl
  have hl : lv_has ls 2 [(0, .ref (ad 0)), (1, .int x1)] := hl
  refine lv_aload_n C.1 C.2.1 dX12_memoryAt_0 rfl (lv_at hl 0 rfl) ?_
  refine k_get (v := .ref (ad 2)) C hP 0 rfl rfl inlX12 3 (by decide) m_7_5 rfl dX12_memoryAt_1 ?_
  refine lv_iload_n C.1 C.2.1 dX12_memoryAt_4 rfl (lv_at hl 1 rfl) ?_
  refine lv_sipush (v := (-3999)) C.1 C.2.1 dX12_memoryAt_5 (by decide) ?_
  obtain ⟨v_1, e_2⟩ : ∃ z, z = (x1 : Int32) - ((-3999) : Int32) := ⟨_, rfl⟩
  have h_3 : v_1.toInt = x1.toInt - (-3999) := by rw [e_2]; exact ti_isub (by show (_ : Int) ≤ x1.toInt - (-3999); omega) (by show x1.toInt - (-3999) < (_ : Int); omega)
  refine k_isub (v := v_1) C e_2.symm dX12_memoryAt_8 ?_
  obtain ⟨v_4, e_5⟩ : ∃ z, z = (t.2.2.1 2 (v_1 : Int32).toNatClampNeg) := ⟨_, rfl⟩
  refine k_ild (v := v_4) C hP 2 rfl (vp_in_iff.mpr ⟨by omega, by omega⟩) e_5.symm dX12_memoryAt_9 ?_
  exact g_iret C hr hlocks hP hD hS rfl () rfl ⟨(i_rng _).1, (i_rng _).2⟩ (Nat.le_of_ble_eq_true rfl) (Nat.le_of_ble_eq_true rfl) dX12_memoryAt_10

theorem dX12_isGreat_0 : decode cX12_isGreat 0 = .ok (.iload_n 0, 1) := by decide +kernel
theorem dX12_isGreat_1 : decode cX12_isGreat 1 = .ok (.bipush 65, 2) := by decide +kernel
theorem dX12_isGreat_12 : decode cX12_isGreat 12 = .ok (.iconst 1, 1) := by decide +kernel
theorem dX12_isGreat_13 : decode cX12_isGreat 13 = .ok (.goto 4, 3) := by decide +kernel
theorem dX12_isGreat_16 : decode cX12_isGreat 16 = .ok (.iconst 0, 1) := by decide +kernel
theorem dX12_isGreat_17 : decode cX12_isGreat 17 = .ok (.ireturn, 1) := by decide +kernel
theorem dX12_isGreat_3 : decode cX12_isGreat 3 = .ok (.if_icmp .lt 13, 3) := by decide +kernel
theorem dX12_isGreat_6 : decode cX12_isGreat 6 = .ok (.iload_n 0, 1) := by decide +kernel
theorem dX12_isGreat_7 : decode cX12_isGreat 7 = .ok (.bipush 90, 2) := by decide +kernel
theorem dX12_isGreat_9 : decode cX12_isGreat 9 = .ok (.if_icmp .gt 7, 3) := by decide +kernel
set_option maxHeartbeats 4000000 in
set_option maxRecDepth 100000 in
theorem T_X12_isGreat (l : Launch) (D : va_G) (K : Nat → ClassId) (Z Y : Nat → Nat) (ad : Nat → Nat) (t : tSt) (hok : okM t) (x0 : Int32) (hx0 : (0 : Int) ≤ x0.toInt ∧ x0.toInt ≤ 255) : tMet l yX12_isGreat cX12_isGreat 1 (some .boolean) (rmD 0 0 0) D K Z Y [.int x0] (WM K ad t) (QI D K (fun (r : Int32) (u : Unit) => (0 : Int) ≤ r.toInt ∧ r.toInt ≤ 1 ∧ (r.toInt = 1 → 65 ≤ x0.toInt ∧ x0.toInt ≤ 90)) (fun (_ : Unit) => WM K ad t)) 0 0 := by
  refine t_met RX12 ⟨rfl, by decide +kernel⟩ (Nat.le_of_ble_eq_true rfl) ?_
  intro p e s m below meth c A ls C hE hZ hr hlocks hA hP hD hS hl
  have hl : lv_has ls 1 [(0, .int x0)] := hl
  refine lv_iload_n C.1 C.2.1 dX12_isGreat_0 rfl (lv_at hl 0 rfl) ?_
  refine lv_bipush (v := 65) C.1 C.2.1 dX12_isGreat_1 (by decide) ?_
  refine lv_icmp_lt (tgt := 16) C.1 C.2.1 dX12_isGreat_3 (by decide) (fun c_1 => ?_) (fun c_1 => ?_)
  · replace c_1 : x0.toInt < 65 := i_lt c_1
    refine lv_iconst (v := 0) C.1 C.2.1 dX12_isGreat_16 (by decide) ?_
    exact g_iret C hr hlocks hP hD hS (by decide) () rfl ⟨by decide, by decide, (show 0 = 1 → 65 ≤ x0.toInt ∧ x0.toInt ≤ 90 from by omega)⟩ (Nat.le_of_ble_eq_true rfl) (Nat.le_of_ble_eq_true rfl) dX12_isGreat_17
  · replace c_1 : 65 ≤ x0.toInt := i_nlt c_1
    refine lv_iload_n C.1 C.2.1 dX12_isGreat_6 rfl (lv_at hl 0 rfl) ?_
    refine lv_bipush (v := 90) C.1 C.2.1 dX12_isGreat_7 (by decide) ?_
    refine lv_icmp_gt (tgt := 16) C.1 C.2.1 dX12_isGreat_9 (by decide) (fun c_2 => ?_) (fun c_2 => ?_)
    · replace c_2 : 90 < x0.toInt := i_lt c_2
      refine lv_iconst (v := 0) C.1 C.2.1 dX12_isGreat_16 (by decide) ?_
      exact g_iret C hr hlocks hP hD hS (by decide) () rfl ⟨by decide, by decide, (show 0 = 1 → 65 ≤ x0.toInt ∧ x0.toInt ≤ 90 from by omega)⟩ (Nat.le_of_ble_eq_true rfl) (Nat.le_of_ble_eq_true rfl) dX12_isGreat_17
    · replace c_2 : x0.toInt ≤ 90 := i_nlt c_2
      refine lv_iconst (v := 1) C.1 C.2.1 dX12_isGreat_12 (by decide) ?_
      refine lv_goto (tgt := 17) C.1 C.2.1 dX12_isGreat_13 (by decide) ?_
      exact g_iret C hr hlocks hP hD hS (by decide) () rfl ⟨by decide, by decide, (show 1 = 1 → 65 ≤ x0.toInt ∧ x0.toInt ≤ 90 from by omega)⟩ (Nat.le_of_ble_eq_true rfl) (Nat.le_of_ble_eq_true rfl) dX12_isGreat_17

theorem dX12_addCard_0 : decode cX12_addCard 0 = .ok (.aload_n 0, 1) := by decide +kernel
theorem dX12_addCard_1 : decode cX12_addCard 1 = .ok (.getfield 226, 3) := by decide +kernel
theorem dX12_addCard_100 : decode cX12_addCard 100 = .ok (.dup, 1) := by decide +kernel
theorem dX12_addCard_101 : decode cX12_addCard 101 = .ok (.getfield 226, 3) := by decide +kernel
theorem dX12_addCard_104 : decode cX12_addCard 104 = .ok (.iconst 1, 1) := by decide +kernel
theorem dX12_addCard_105 : decode cX12_addCard 105 = .ok (.iadd, 1) := by decide +kernel
theorem dX12_addCard_106 : decode cX12_addCard 106 = .ok (.putfield 226, 3) := by decide +kernel
theorem dX12_addCard_109 : decode cX12_addCard 109 = .ok (.return_, 1) := by decide +kernel
theorem dX12_addCard_11 : decode cX12_addCard 11 = .ok (.aload_n 0, 1) := by decide +kernel
theorem dX12_addCard_12 : decode cX12_addCard 12 = .ok (.getfield 71, 3) := by decide +kernel
theorem dX12_addCard_15 : decode cX12_addCard 15 = .ok (.aload_n 0, 1) := by decide +kernel
theorem dX12_addCard_16 : decode cX12_addCard 16 = .ok (.getfield 226, 3) := by decide +kernel
theorem dX12_addCard_19 : decode cX12_addCard 19 = .ok (.iconst 1, 1) := by decide +kernel
theorem dX12_addCard_20 : decode cX12_addCard 20 = .ok (.isub, 1) := by decide +kernel
theorem dX12_addCard_21 : decode cX12_addCard 21 = .ok (.iaload, 1) := by decide +kernel
theorem dX12_addCard_22 : decode cX12_addCard 22 = .ok (.istore 4, 2) := by decide +kernel
theorem dX12_addCard_24 : decode cX12_addCard 24 = .ok (.iload_n 3, 1) := by decide +kernel
theorem dX12_addCard_25 : decode cX12_addCard 25 = .ok (.iload_n 2, 1) := by decide +kernel
theorem dX12_addCard_26 : decode cX12_addCard 26 = .ok (.isub, 1) := by decide +kernel
theorem dX12_addCard_27 : decode cX12_addCard 27 = .ok (.bipush 80, 2) := by decide +kernel
theorem dX12_addCard_29 : decode cX12_addCard 29 = .ok (.if_icmp .le 8, 3) := by decide +kernel
theorem dX12_addCard_32 : decode cX12_addCard 32 = .ok (.bipush 80, 2) := by decide +kernel
theorem dX12_addCard_34 : decode cX12_addCard 34 = .ok (.goto 6, 3) := by decide +kernel
theorem dX12_addCard_37 : decode cX12_addCard 37 = .ok (.iload_n 3, 1) := by decide +kernel
theorem dX12_addCard_38 : decode cX12_addCard 38 = .ok (.iload_n 2, 1) := by decide +kernel
theorem dX12_addCard_39 : decode cX12_addCard 39 = .ok (.isub, 1) := by decide +kernel
theorem dX12_addCard_4 : decode cX12_addCard 4 = .ok (.ifCond .ne 7, 3) := by decide +kernel
theorem dX12_addCard_40 : decode cX12_addCard 40 = .ok (.istore 5, 2) := by decide +kernel
theorem dX12_addCard_42 : decode cX12_addCard 42 = .ok (.aload_n 0, 1) := by decide +kernel
theorem dX12_addCard_43 : decode cX12_addCard 43 = .ok (.getfield 68, 3) := by decide +kernel
theorem dX12_addCard_46 : decode cX12_addCard 46 = .ok (.aload_n 0, 1) := by decide +kernel
theorem dX12_addCard_47 : decode cX12_addCard 47 = .ok (.getfield 226, 3) := by decide +kernel
theorem dX12_addCard_50 : decode cX12_addCard 50 = .ok (.iload 4, 2) := by decide +kernel
theorem dX12_addCard_52 : decode cX12_addCard 52 = .ok (.iastore, 1) := by decide +kernel
theorem dX12_addCard_53 : decode cX12_addCard 53 = .ok (.iconst 0, 1) := by decide +kernel
theorem dX12_addCard_54 : decode cX12_addCard 54 = .ok (.istore 6, 2) := by decide +kernel
theorem dX12_addCard_56 : decode cX12_addCard 56 = .ok (.iload 6, 2) := by decide +kernel
theorem dX12_addCard_58 : decode cX12_addCard 58 = .ok (.iload 5, 2) := by decide +kernel
theorem dX12_addCard_60 : decode cX12_addCard 60 = .ok (.if_icmp .ge 25, 3) := by decide +kernel
theorem dX12_addCard_63 : decode cX12_addCard 63 = .ok (.aload_n 0, 1) := by decide +kernel
theorem dX12_addCard_64 : decode cX12_addCard 64 = .ok (.getfield 65, 3) := by decide +kernel
theorem dX12_addCard_67 : decode cX12_addCard 67 = .ok (.iload 4, 2) := by decide +kernel
theorem dX12_addCard_69 : decode cX12_addCard 69 = .ok (.iload 6, 2) := by decide +kernel
theorem dX12_addCard_7 : decode cX12_addCard 7 = .ok (.iconst 0, 1) := by decide +kernel
theorem dX12_addCard_71 : decode cX12_addCard 71 = .ok (.iadd, 1) := by decide +kernel
theorem dX12_addCard_72 : decode cX12_addCard 72 = .ok (.aload_n 1, 1) := by decide +kernel
theorem dX12_addCard_73 : decode cX12_addCard 73 = .ok (.iload_n 2, 1) := by decide +kernel
theorem dX12_addCard_74 : decode cX12_addCard 74 = .ok (.iload 6, 2) := by decide +kernel
theorem dX12_addCard_76 : decode cX12_addCard 76 = .ok (.iadd, 1) := by decide +kernel
theorem dX12_addCard_77 : decode cX12_addCard 77 = .ok (.baload, 1) := by decide +kernel
theorem dX12_addCard_78 : decode cX12_addCard 78 = .ok (.bastore, 1) := by decide +kernel
theorem dX12_addCard_79 : decode cX12_addCard 79 = .ok (.iinc 6 1, 3) := by decide +kernel
theorem dX12_addCard_8 : decode cX12_addCard 8 = .ok (.goto 14, 3) := by decide +kernel
theorem dX12_addCard_82 : decode cX12_addCard 82 = .ok (.goto (-26), 3) := by decide +kernel
theorem dX12_addCard_85 : decode cX12_addCard 85 = .ok (.aload_n 0, 1) := by decide +kernel
theorem dX12_addCard_86 : decode cX12_addCard 86 = .ok (.getfield 71, 3) := by decide +kernel
theorem dX12_addCard_89 : decode cX12_addCard 89 = .ok (.aload_n 0, 1) := by decide +kernel
theorem dX12_addCard_90 : decode cX12_addCard 90 = .ok (.getfield 226, 3) := by decide +kernel
theorem dX12_addCard_93 : decode cX12_addCard 93 = .ok (.iload 4, 2) := by decide +kernel
theorem dX12_addCard_95 : decode cX12_addCard 95 = .ok (.iload 5, 2) := by decide +kernel
theorem dX12_addCard_97 : decode cX12_addCard 97 = .ok (.iadd, 1) := by decide +kernel
theorem dX12_addCard_98 : decode cX12_addCard 98 = .ok (.iastore, 1) := by decide +kernel
theorem dX12_addCard_99 : decode cX12_addCard 99 = .ok (.aload_n 0, 1) := by decide +kernel
set_option maxHeartbeats 4000000 in
set_option maxRecDepth 100000 in
theorem T_X12_addCard (l : Launch) (D : va_G) (K : Nat → ClassId) (Z Y : Nat → Nat) (ad : Nat → Nat) (t : tSt) (hok : okM t) (x2 : Int32) (hx2 : (0 : Int) ≤ x2.toInt ∧ x2.toInt ≤ 1280) (x3 : Int32) (hx3 : (0 : Int) ≤ x3.toInt ∧ x3.toInt ≤ 1280) (hs0 : (t.1 0 36).toInt ≤ 1690) (hs1 : x2.toInt ≤ x3.toInt) (hs2 : lastLe (t.1 0 36) (t.2.2.1 17) (33280 - (x3.toInt - x2.toInt))) : tMet l yX12_addCard cX12_addCard 7 none (rmD 0 0 0) D K Z Y [.ref (ad 0), .ref (ad 1), .int x2, .int x3] (WM K ad t) (QV D K (fun (u : tSt) => okM u ∧ frA [(0, 36)] [] [15, 16, 17] [] t u ∧ ((u.1 0 36).toInt = (t.1 0 36).toInt + 1) ∧ (∀ b : Int, lastLe (t.1 0 36) (t.2.2.1 17) b → lastLe (u.1 0 36) (u.2.2.1 17) (b + (x3.toInt - x2.toInt)))) (fun (u : tSt) => WM K ad u)) 0 0 := by
  refine t_met RX12 ⟨rfl, by decide +kernel⟩ (Nat.le_of_ble_eq_true rfl) ?_
  intro p e s m below meth c A ls C hE hZ hr hlocks hA hP hD hS hl
  have hl : lv_has ls 7 [(0, .ref (ad 0)), (1, .ref (ad 1)), (2, .int x2), (3, .int x3)] := hl
  have hokt := hok
  have hfr : frA [(0, 36)] [] [15, 16, 17] [] t t := frA_rf
  have h_1 : (0 : Int) ≤ (t.1 0 35).toInt ∧ (t.1 0 35).toInt ≤ 1700 := hok.1 0 35
  have h_2 : (0 : Int) ≤ (t.1 0 36).toInt ∧ (t.1 0 36).toInt ≤ 1700 := hok.1 0 36
  have L_56 : ∀ (fuel_56 : Nat) (t1 : tSt) (w56_4 : Int32) (w56_5 : Int32) (w56_6 : Int32) (H : Heap) (locs : List Loc) (ls : Array Slot), okM t1 → frA [(0, 36)] [] [15, 16, 17] [] t t1 → (0 : Int) ≤ w56_4.toInt ∧ w56_4.toInt ≤ 33300 → (-1280 : Int) ≤ w56_5.toInt ∧ w56_5.toInt ≤ 1280 → (0 : Int) ≤ w56_6.toInt ∧ w56_6.toInt ≤ 3999 → (∀ b : Int, lastLe (t.1 0 36) (t.2.2.1 17) b → w56_4.toInt ≤ b) → (w56_4.toInt ≤ 33280 - (x3.toInt - x2.toInt)) → (0 ≤ w56_4.toInt) → (w56_5.toInt ≤ 80) → (w56_5.toInt ≤ x3.toInt - x2.toInt) → (0 ≤ w56_5.toInt) → ((t1.1 0 36).toInt = (t.1 0 36).toInt) → ((t1.2.2.1 16 ((t1.1 0 36) : Int32).toNatClampNeg).toInt = w56_4.toInt) → (3999 : Int) - w56_6.toInt < (fuel_56 : Int) → va_P D vwCl (WM K ad t1) H → va_D A (WM K ad t1) → va_S A s.heap H locs → lv_has ls 7 [(0, .ref (ad 0)), (1, .ref (ad 1)), (2, .int x2), (3, .int x3), (4, .int w56_4), (5, .int w56_5), (6, .int w56_6)] → W p l e (rmD 0 0 0) s m [.ref (ad 0), .ref (ad 1), .int x2, .int x3].toArray below meth c H locs 0 0 (MQ below (QV D K (fun (u : tSt) => okM u ∧ frA [(0, 36)] [] [15, 16, 17] [] t u ∧ ((u.1 0 36).toInt = (t.1 0 36).toInt + 1) ∧ (∀ b : Int, lastLe (t.1 0 36) (t.2.2.1 17) b → lastLe (u.1 0 36) (u.2.2.1 17) (b + (x3.toInt - x2.toInt)))) (fun (u : tSt) => WM K ad u) A) [.ref (ad 0), .ref (ad 1), .int x2, .int x3].toArray s 0 0 A) (F0 m 56 ls []) := by
    intro fuel_56
    induction fuel_56 with
    | zero =>
      intro t1 w56_4 w56_5 w56_6 H locs ls hok hfr hw56_4 hw56_5 hw56_6 hi56_0 hi56_1 hi56_2 hi56_3 hi56_4 hi56_5 hi56_6 hi56_7 hm56_56 hP hD hS hl
      have h_3 : (t1.1 0 35).toInt = (t.1 0 35).toInt := ti_eq (hfr.1 0 35 rfl)
      have h_4 : (0 : Int) ≤ (t1.1 0 35).toInt ∧ (t1.1 0 35).toInt ≤ 1700 := hok.1 0 35
      have h_5 : (0 : Int) ≤ (t1.1 0 36).toInt ∧ (t1.1 0 36).toInt ≤ 1700 := hok.1 0 36
      exact absurd hm56_56 (by omega)
    | succ fuel_56 ih_56 =>
      intro t1 w56_4 w56_5 w56_6 H locs ls hok hfr hw56_4 hw56_5 hw56_6 hi56_0 hi56_1 hi56_2 hi56_3 hi56_4 hi56_5 hi56_6 hi56_7 hm56_56 hP hD hS hl
      have hm56_56 : (3999 : Int) - w56_6.toInt < (fuel_56 : Int) + 1 := by omega
      have h_6 : (t1.1 0 35).toInt = (t.1 0 35).toInt := ti_eq (hfr.1 0 35 rfl)
      have h_7 : (0 : Int) ≤ (t1.1 0 35).toInt ∧ (t1.1 0 35).toInt ≤ 1700 := hok.1 0 35
      have h_8 : (0 : Int) ≤ (t1.1 0 36).toInt ∧ (t1.1 0 36).toInt ≤ 1700 := hok.1 0 36
      refine lv_iload C.1 C.2.1 dX12_addCard_56 (lv_at hl 6 rfl) ?_
      refine lv_iload C.1 C.2.1 dX12_addCard_58 (lv_at hl 5 rfl) ?_
      refine lv_icmp_ge (tgt := 85) C.1 C.2.1 dX12_addCard_60 (by decide) (fun c_9 => ?_) (fun c_9 => ?_)
      · replace c_9 : w56_5.toInt ≤ w56_6.toInt := i_le c_9
        refine lv_aload_n C.1 C.2.1 dX12_addCard_85 rfl (lv_at hl 0 rfl) ?_
        refine k_get (v := .ref (ad 17)) C hP 0 rfl rfl inlX12 34 (by decide) m_8_1 rfl dX12_addCard_86 ?_
        refine lv_aload_n C.1 C.2.1 dX12_addCard_89 rfl (lv_at hl 0 rfl) ?_
        refine k_get (v := .int (t1.1 0 36)) C hP 0 rfl rfl inlX12 36 (by decide) m_44_16 rfl dX12_addCard_90 ?_
        refine lv_iload C.1 C.2.1 dX12_addCard_93 (lv_at hl 4 rfl) ?_
        refine lv_iload C.1 C.2.1 dX12_addCard_95 (lv_at hl 5 rfl) ?_
        obtain ⟨v_10, e_11⟩ : ∃ z, z = (w56_4 : Int32) + (w56_5 : Int32) := ⟨_, rfl⟩
        have h_12 : v_10.toInt = w56_4.toInt + w56_5.toInt := by rw [e_11]; exact ti_iadd (by show (_ : Int) ≤ w56_4.toInt + w56_5.toInt; omega) (by show w56_4.toInt + w56_5.toInt < (_ : Int); omega)
        refine k_iadd (v := v_10) C e_11.symm dX12_addCard_97 ?_
        refine k_ist (ws' := WM K ad (uB t1 17 ((t1.1 0 36) : Int32).toNatClampNeg v_10)) (x' := v_10) C hP hD hS 17 rfl (vp_in_iff.mpr ⟨by omega, by omega⟩) rfl rfl rfl dX12_addCard_98 (fun H locs hP hD hS => ?_)
        have hok : okM (uB t1 17 ((t1.1 0 36) : Int32).toNatClampNeg v_10) := ⟨hok.1, okB_B hok.2.1 17 _ v_10 (show (0 : Int) ≤ (v_10 : Int32).toInt ∧ (v_10 : Int32).toInt ≤ 33300 from ⟨by omega, by omega⟩), hok.2.2.1, (iM2_g hok.2.2.2.1 (by have := clamp_eq (x := (t1.1 0 36)) (by omega); omega)), hok.2.2.2.2.1, hok.2.2.2.2.2.1, hok.2.2.2.2.2.2.1, trivial⟩
        have hfr : frA [(0, 36)] [] [15, 16, 17] [] t (uB t1 17 ((t1.1 0 36) : Int32).toNatClampNeg v_10) := frA_B hfr 17 _ _ rfl
        have hct : ((uB t1 17 ((t1.1 0 36) : Int32).toNatClampNeg v_10).2.2.1 17 ((t1.1 0 36) : Int32).toNatClampNeg).toInt = (v_10 : Int32).toInt := by show (upd _ _ _ _).toInt = _; rw [pk_us]
        have hcc : (t1.1 0 35).toInt ≤ (t1.1 0 36).toInt := hok.2.2.2.2.2.1
        refine lv_aload_n C.1 C.2.1 dX12_addCard_99 rfl (lv_at hl 0 rfl) ?_
        refine lv_dup C.1 C.2.1 dX12_addCard_100 rfl ?_
        refine k_get (v := .int (t1.1 0 36)) C hP 0 rfl rfl inlX12 36 (by decide) m_44_16 rfl dX12_addCard_101 ?_
        refine lv_iconst (v := 1) C.1 C.2.1 dX12_addCard_104 (by decide) ?_
        obtain ⟨v_13, e_14⟩ : ∃ z, z = ((t1.1 0 36) : Int32) + (1 : Int32) := ⟨_, rfl⟩
        have h_15 : v_13.toInt = (t1.1 0 36).toInt + 1 := by rw [e_14]; exact ti_iadd (by show (_ : Int) ≤ (t1.1 0 36).toInt + 1; omega) (by show (t1.1 0 36).toInt + 1 < (_ : Int); omega)
        refine k_iadd (v := v_13) C e_14.symm dX12_addCard_105 ?_
        refine k_put (ws' := WM K ad (uI (uB t1 17 ((t1.1 0 36) : Int32).toNatClampNeg v_10) 0 36 v_13)) (v := .int v_13) C hP hD hS 0 rfl rfl inlX12 tyX12_ok nmX12 36 (by decide) m_44_16 rfl rfl rfl rfl rfl dX12_addCard_106 (fun H locs hP hD hS => ?_)
        have hok : okM (uI (uB t1 17 ((t1.1 0 36) : Int32).toNatClampNeg v_10) 0 36 v_13) := ⟨okI_I hok.1 0 36 v_13 (show (0 : Int) ≤ (v_13 : Int32).toInt ∧ (v_13 : Int32).toInt ≤ 1700 from ⟨by omega, by omega⟩), hok.2.1, hok.2.2.1, (iM2_up (n := (t1.1 0 36)) (m := v_13) hok.2.2.2.1 (by omega) (by omega) (show (t1.2.2.1 16 ((t1.1 0 36) : Int32).toNatClampNeg).toInt ≤ ((uB t1 17 ((t1.1 0 36) : Int32).toNatClampNeg v_10).2.2.1 17 ((t1.1 0 36) : Int32).toNatClampNeg).toInt ∧ ((uB t1 17 ((t1.1 0 36) : Int32).toNatClampNeg v_10).2.2.1 17 ((t1.1 0 36) : Int32).toNatClampNeg).toInt ≤ (t1.2.2.1 16 ((t1.1 0 36) : Int32).toNatClampNeg).toInt + 80 from by omega)), hok.2.2.2.2.1, ((show (t1.1 0 35).toInt ≤ (v_13 : Int32).toInt from by omega)), hok.2.2.2.2.2.2.1, trivial⟩
        have hfr : frA [(0, 36)] [] [15, 16, 17] [] t (uI (uB t1 17 ((t1.1 0 36) : Int32).toNatClampNeg v_10) 0 36 v_13) := frA_I hfr 0 36 _ rfl
        exact g_vret C hr hlocks hP hD hS (uI (uB t1 17 ((t1.1 0 36) : Int32).toNatClampNeg v_10) 0 36 v_13) rfl ⟨hok, hfr, (show v_13.toInt = (t.1 0 36).toInt + 1 from by omega), (show ∀ b : Int, lastLe (t.1 0 36) (t.2.2.1 17) b → lastLe v_13 ((uI (uB t1 17 ((t1.1 0 36) : Int32).toNatClampNeg v_10) 0 36 v_13).2.2.1 17) (b + (x3.toInt - x2.toInt)) from by intro b hb; have hb2 := hi56_0 b hb; refine ⟨fun q => by omega, fun v h1 h2 => ?_⟩; have hv : v = (t1.1 0 36) := Int32.toInt_inj.mp (by omega); rw [hv]; show (upd _ _ _ _).toInt ≤ _; rw [pk_us]; omega)⟩ (Nat.le_of_ble_eq_true rfl) (Nat.le_of_ble_eq_true rfl) dX12_addCard_109
      · replace c_9 : w56_6.toInt < w56_5.toInt := i_nle c_9
        refine lv_aload_n C.1 C.2.1 dX12_addCard_63 rfl (lv_at hl 0 rfl) ?_
        refine k_get (v := .ref (ad 15)) C hP 0 rfl rfl inlX12 32 (by decide) m_7_23 rfl dX12_addCard_64 ?_
        refine lv_iload C.1 C.2.1 dX12_addCard_67 (lv_at hl 4 rfl) ?_
        refine lv_iload C.1 C.2.1 dX12_addCard_69 (lv_at hl 6 rfl) ?_
        obtain ⟨v_16, e_17⟩ : ∃ z, z = (w56_4 : Int32) + (w56_6 : Int32) := ⟨_, rfl⟩
        have h_18 : v_16.toInt = w56_4.toInt + w56_6.toInt := by rw [e_17]; exact ti_iadd (by show (_ : Int) ≤ w56_4.toInt + w56_6.toInt; omega) (by show w56_4.toInt + w56_6.toInt < (_ : Int); omega)
        refine k_iadd (v := v_16) C e_17.symm dX12_addCard_71 ?_
        refine lv_aload_n C.1 C.2.1 dX12_addCard_72 rfl (lv_at hl 1 rfl) ?_
        refine lv_iload_n C.1 C.2.1 dX12_addCard_73 rfl (lv_at hl 2 rfl) ?_
        refine lv_iload C.1 C.2.1 dX12_addCard_74 (lv_at hl 6 rfl) ?_
        obtain ⟨v_19, e_20⟩ : ∃ z, z = (x2 : Int32) + (w56_6 : Int32) := ⟨_, rfl⟩
        have h_21 : v_19.toInt = x2.toInt + w56_6.toInt := by rw [e_20]; exact ti_iadd (by show (_ : Int) ≤ x2.toInt + w56_6.toInt; omega) (by show x2.toInt + w56_6.toInt < (_ : Int); omega)
        refine k_iadd (v := v_19) C e_20.symm dX12_addCard_76 ?_
        obtain ⟨v_22, e_23⟩ : ∃ z, z = (t1.2.2.1 1 (v_19 : Int32).toNatClampNeg) := ⟨_, rfl⟩
        have h_24 : (-3999 : Int) ≤ v_22.toInt ∧ v_22.toInt ≤ 127 := by rw [e_23]; exact hok.2.1 1 _
        refine k_bld (v := v_22) C hP 1 rfl (vp_in_iff.mpr ⟨by omega, by omega⟩) e_23.symm dX12_addCard_77 ?_
        obtain ⟨v_25, e_26⟩ : ∃ z, z = vp_nar .byte v_22 := ⟨_, rfl⟩
        have h_27 : (-128 : Int) ≤ v_25.toInt ∧ v_25.toInt ≤ 127 := by rw [e_26]; exact nar_byte _
        refine k_bst (ws' := WM K ad (uB t1 15 (v_16 : Int32).toNatClampNeg v_25)) (x' := v_25) C hP hD hS 15 rfl (vp_in_iff.mpr ⟨by omega, by omega⟩) rfl e_26.symm rfl dX12_addCard_78 (fun H locs hP hD hS => ?_)
        have hok : okM (uB t1 15 (v_16 : Int32).toNatClampNeg v_25) := ⟨hok.1, okB_B hok.2.1 15 _ v_25 (show (-3999 : Int) ≤ (v_25 : Int32).toInt ∧ (v_25 : Int32).toInt ≤ 127 from ⟨by omega, by omega⟩), hok.2.2.1, hok.2.2.2.1, hok.2.2.2.2.1, hok.2.2.2.2.2.1, hok.2.2.2.2.2.2.1, trivial⟩
        have hfr : frA [(0, 36)] [] [15, 16, 17] [] t (uB t1 15 (v_16 : Int32).toNatClampNeg v_25) := frA_B hfr 15 _ _ rfl
        obtain ⟨v_28, e_29⟩ : ∃ z, z = w56_6 + 1 := ⟨_, rfl⟩
        have h_30 : v_28.toInt = w56_6.toInt + 1 := by rw [e_29]; exact ti_iadd (by show (_ : Int) ≤ w56_6.toInt + 1; omega) (by show w56_6.toInt + 1 < (_ : Int); omega)
        refine lv_iinc (v := v_28) (lv' := [(6, .int v_28), (0, .ref (ad 0)), (1, .ref (ad 1)), (2, .int x2), (3, .int x3), (4, .int w56_4), (5, .int w56_5)]) C.1 C.2.1 dX12_addCard_79 hl (k := 6) rfl e_29.symm (by decide) rfl (fun ls hl => ?_)
        have hl : lv_has ls 7 [(0, .ref (ad 0)), (1, .ref (ad 1)), (2, .int x2), (3, .int x3), (4, .int w56_4), (5, .int w56_5), (6, .int v_28)] := lv_sub hl [1, 2, 3, 4, 5, 6, 0] rfl
        refine lv_goto (tgt := 56) C.1 C.2.1 dX12_addCard_82 (by decide) ?_
        exact ih_56 (uB t1 15 (v_16 : Int32).toNatClampNeg v_25) w56_4 w56_5 v_28 _ _ _ hok hfr ⟨by omega, by omega⟩ ⟨by omega, by omega⟩ ⟨by omega, by omega⟩ (show ∀ b : Int, lastLe (t.1 0 36) (t.2.2.1 17) b → w56_4.toInt ≤ b from by first | exact hi56_0 | exact fun b hb => hb.1 (by omega) | exact fun b hb => hb.2 _ (by omega) (by omega)) (show w56_4.toInt ≤ 33280 - (x3.toInt - x2.toInt) from by omega) (show 0 ≤ w56_4.toInt from by omega) (show w56_5.toInt ≤ 80 from by omega) (show w56_5.toInt ≤ x3.toInt - x2.toInt from by omega) (show 0 ≤ w56_5.toInt from by omega) (show (t1.1 0 36).toInt = (t.1 0 36).toInt from by omega) (show (t1.2.2.1 16 ((t1.1 0 36) : Int32).toNatClampNeg).toInt = w56_4.toInt from by omega) (show (3999 : Int) - v_28.toInt < (fuel_56 : Int) from by omega) hP hD hS (lv_sub hl [0, 1, 2, 3, 4, 5, 6] rfl)
  refine lv_aload_n C.1 C.2.1 dX12_addCard_0 rfl (lv_at hl 0 rfl) ?_
  refine k_get (v := .int (t.1 0 36)) C hP 0 rfl rfl inlX12 36 (by decide) m_44_16 rfl dX12_addCard_1 ?_
  refine lv_if_ne (tgt := 11) C.1 C.2.1 dX12_addCard_4 (by decide) (fun c_31 => ?_) (fun c_31 => ?_)
  · replace c_31 : ¬ (t.1 0 36).toInt = 0 := i_ne c_31
    refine lv_aload_n C.1 C.2.1 dX12_addCard_11 rfl (lv_at hl 0 rfl) ?_
    refine k_get (v := .ref (ad 17)) C hP 0 rfl rfl inlX12 34 (by decide) m_8_1 rfl dX12_addCard_12 ?_
    refine lv_aload_n C.1 C.2.1 dX12_addCard_15 rfl (lv_at hl 0 rfl) ?_
    refine k_get (v := .int (t.1 0 36)) C hP 0 rfl rfl inlX12 36 (by decide) m_44_16 rfl dX12_addCard_16 ?_
    refine lv_iconst (v := 1) C.1 C.2.1 dX12_addCard_19 (by decide) ?_
    obtain ⟨v_32, e_33⟩ : ∃ z, z = ((t.1 0 36) : Int32) - (1 : Int32) := ⟨_, rfl⟩
    have h_34 : v_32.toInt = (t.1 0 36).toInt - 1 := by rw [e_33]; exact ti_isub (by show (_ : Int) ≤ (t.1 0 36).toInt - 1; omega) (by show (t.1 0 36).toInt - 1 < (_ : Int); omega)
    refine k_isub (v := v_32) C e_33.symm dX12_addCard_20 ?_
    have h_35 : (0 : Int) ≤ (t.2.2.1 17 (v_32 : Int32).toNatClampNeg).toInt ∧ (t.2.2.1 17 (v_32 : Int32).toNatClampNeg).toInt ≤ 33300 := hok.2.1 17 _
    refine k_ild (v := (t.2.2.1 17 (v_32 : Int32).toNatClampNeg)) C hP 17 rfl (vp_in_iff.mpr ⟨by omega, by omega⟩) rfl dX12_addCard_21 ?_
    have hl0 : (t.2.2.1 17 (v_32 : Int32).toNatClampNeg).toInt ≤ 33280 - (x3.toInt - x2.toInt) := hs2.2 v_32 (by omega) (by omega)
    refine lv_istore (lv' := [(4, .int (t.2.2.1 17 (v_32 : Int32).toNatClampNeg)), (0, .ref (ad 0)), (1, .ref (ad 1)), (2, .int x2), (3, .int x3)]) C.1 C.2.1 dX12_addCard_22 hl (by decide) rfl (fun ls hl => ?_)
    have hl : lv_has ls 7 [(0, .ref (ad 0)), (1, .ref (ad 1)), (2, .int x2), (3, .int x3), (4, .int (t.2.2.1 17 (v_32 : Int32).toNatClampNeg))] := lv_sub hl [1, 2, 3, 4, 0] rfl
    refine lv_iload_n C.1 C.2.1 dX12_addCard_24 rfl (lv_at hl 3 rfl) ?_
    refine lv_iload_n C.1 C.2.1 dX12_addCard_25 rfl (lv_at hl 2 rfl) ?_
    obtain ⟨v_36, e_37⟩ : ∃ z, z = (x3 : Int32) - (x2 : Int32) := ⟨_, rfl⟩
    have h_38 : v_36.toInt = x3.toInt - x2.toInt := by rw [e_37]; exact ti_isub (by show (_ : Int) ≤ x3.toInt - x2.toInt; omega) (by show x3.toInt - x2.toInt < (_ : Int); omega)
    refine k_isub (v := v_36) C e_37.symm dX12_addCard_26 ?_
    refine lv_bipush (v := 80) C.1 C.2.1 dX12_addCard_27 (by decide) ?_
    refine lv_icmp_le (tgt := 37) C.1 C.2.1 dX12_addCard_29 (by decide) (fun c_39 => ?_) (fun c_39 => ?_)
    · replace c_39 : v_36.toInt ≤ 80 := i_le c_39
      refine lv_iload_n C.1 C.2.1 dX12_addCard_37 rfl (lv_at hl 3 rfl) ?_
      refine lv_iload_n C.1 C.2.1 dX12_addCard_38 rfl (lv_at hl 2 rfl) ?_
      obtain ⟨v_40, e_41⟩ : ∃ z, z = (x3 : Int32) - (x2 : Int32) := ⟨_, rfl⟩
      have h_42 : v_40.toInt = x3.toInt - x2.toInt := by rw [e_41]; exact ti_isub (by show (_ : Int) ≤ x3.toInt - x2.toInt; omega) (by show x3.toInt - x2.toInt < (_ : Int); omega)
      refine k_isub (v := v_40) C e_41.symm dX12_addCard_39 ?_
      refine lv_istore (lv' := [(5, .int v_40), (0, .ref (ad 0)), (1, .ref (ad 1)), (2, .int x2), (3, .int x3), (4, .int (t.2.2.1 17 (v_32 : Int32).toNatClampNeg))]) C.1 C.2.1 dX12_addCard_40 hl (by decide) rfl (fun ls hl => ?_)
      have hl : lv_has ls 7 [(0, .ref (ad 0)), (1, .ref (ad 1)), (2, .int x2), (3, .int x3), (4, .int (t.2.2.1 17 (v_32 : Int32).toNatClampNeg)), (5, .int v_40)] := lv_sub hl [1, 2, 3, 4, 5, 0] rfl
      refine lv_aload_n C.1 C.2.1 dX12_addCard_42 rfl (lv_at hl 0 rfl) ?_
      refine k_get (v := .ref (ad 16)) C hP 0 rfl rfl inlX12 33 (by decide) m_8_0 rfl dX12_addCard_43 ?_
      refine lv_aload_n C.1 C.2.1 dX12_addCard_46 rfl (lv_at hl 0 rfl) ?_
      refine k_get (v := .int (t.1 0 36)) C hP 0 rfl rfl inlX12 36 (by decide) m_44_16 rfl dX12_addCard_47 ?_
      refine lv_iload C.1 C.2.1 dX12_addCard_50 (lv_at hl 4 rfl) ?_
      refine k_ist (ws' := WM K ad (uB t 16 ((t.1 0 36) : Int32).toNatClampNeg (t.2.2.1 17 (v_32 : Int32).toNatClampNeg))) (x' := (t.2.2.1 17 (v_32 : Int32).toNatClampNeg)) C hP hD hS 16 rfl (vp_in_iff.mpr ⟨by omega, by omega⟩) rfl rfl rfl dX12_addCard_52 (fun H locs hP hD hS => ?_)
      have hok : okM (uB t 16 ((t.1 0 36) : Int32).toNatClampNeg (t.2.2.1 17 (v_32 : Int32).toNatClampNeg)) := ⟨hok.1, okB_B hok.2.1 16 _ (t.2.2.1 17 (v_32 : Int32).toNatClampNeg) (show (0 : Int) ≤ ((t.2.2.1 17 (v_32 : Int32).toNatClampNeg) : Int32).toInt ∧ ((t.2.2.1 17 (v_32 : Int32).toNatClampNeg) : Int32).toInt ≤ 33300 from ⟨by omega, by omega⟩), hok.2.2.1, (iM2_f hok.2.2.2.1 (by have := clamp_eq (x := (t.1 0 36)) (by omega); omega)), hok.2.2.2.2.1, hok.2.2.2.2.2.1, hok.2.2.2.2.2.2.1, trivial⟩
      have hfr : frA [(0, 36)] [] [15, 16, 17] [] t (uB t 16 ((t.1 0 36) : Int32).toNatClampNeg (t.2.2.1 17 (v_32 : Int32).toNatClampNeg)) := frA_B hfr 16 _ _ rfl
      have hz00 : (0 : Int32).toInt = 0 := rfl
      have hcf : ((uB t 16 ((t.1 0 36) : Int32).toNatClampNeg (t.2.2.1 17 (v_32 : Int32).toNatClampNeg)).2.2.1 16 ((t.1 0 36) : Int32).toNatClampNeg).toInt = ((t.2.2.1 17 (v_32 : Int32).toNatClampNeg) : Int32).toInt := by show (upd _ _ _ _).toInt = _; rw [pk_us]
      refine lv_iconst (v := 0) C.1 C.2.1 dX12_addCard_53 (by decide) ?_
      refine lv_istore (lv' := [(6, .int 0), (0, .ref (ad 0)), (1, .ref (ad 1)), (2, .int x2), (3, .int x3), (4, .int (t.2.2.1 17 (v_32 : Int32).toNatClampNeg)), (5, .int v_40)]) C.1 C.2.1 dX12_addCard_54 hl (by decide) rfl (fun ls hl => ?_)
      have hl : lv_has ls 7 [(0, .ref (ad 0)), (1, .ref (ad 1)), (2, .int x2), (3, .int x3), (4, .int (t.2.2.1 17 (v_32 : Int32).toNatClampNeg)), (5, .int v_40), (6, .int 0)] := lv_sub hl [1, 2, 3, 4, 5, 6, 0] rfl
      exact L_56 4000 (uB t 16 ((t.1 0 36) : Int32).toNatClampNeg (t.2.2.1 17 (v_32 : Int32).toNatClampNeg)) (t.2.2.1 17 (v_32 : Int32).toNatClampNeg) v_40 0 _ _ _ hok hfr ⟨by omega, by omega⟩ ⟨by omega, by omega⟩ ⟨by decide, by decide⟩ (show ∀ b : Int, lastLe (t.1 0 36) (t.2.2.1 17) b → (t.2.2.1 17 (v_32 : Int32).toNatClampNeg).toInt ≤ b from by first | exact hi56_0 | exact fun b hb => hb.1 (by omega) | exact fun b hb => hb.2 _ (by omega) (by omega)) (show (t.2.2.1 17 (v_32 : Int32).toNatClampNeg).toInt ≤ 33280 - (x3.toInt - x2.toInt) from by omega) (show 0 ≤ (t.2.2.1 17 (v_32 : Int32).toNatClampNeg).toInt from by omega) (show v_40.toInt ≤ 80 from by omega) (show v_40.toInt ≤ x3.toInt - x2.toInt from by omega) (show 0 ≤ v_40.toInt from by omega) (show (t.1 0 36).toInt = (t.1 0 36).toInt from by omega) (show ((uB t 16 ((t.1 0 36) : Int32).toNatClampNeg (t.2.2.1 17 (v_32 : Int32).toNatClampNeg)).2.2.1 16 ((t.1 0 36) : Int32).toNatClampNeg).toInt = (t.2.2.1 17 (v_32 : Int32).toNatClampNeg).toInt from by omega) (show (3999 : Int) - 0 < ((4000 : Nat) : Int) from by omega) hP hD hS (lv_sub hl [0, 1, 2, 3, 4, 5, 6] rfl)
    · replace c_39 : 80 < v_36.toInt := i_nle c_39
      refine lv_bipush (v := 80) C.1 C.2.1 dX12_addCard_32 (by decide) ?_
      refine lv_goto (tgt := 40) C.1 C.2.1 dX12_addCard_34 (by decide) ?_
      refine lv_istore (lv' := [(5, .int 80), (0, .ref (ad 0)), (1, .ref (ad 1)), (2, .int x2), (3, .int x3), (4, .int (t.2.2.1 17 (v_32 : Int32).toNatClampNeg))]) C.1 C.2.1 dX12_addCard_40 hl (by decide) rfl (fun ls hl => ?_)
      have hl : lv_has ls 7 [(0, .ref (ad 0)), (1, .ref (ad 1)), (2, .int x2), (3, .int x3), (4, .int (t.2.2.1 17 (v_32 : Int32).toNatClampNeg)), (5, .int 80)] := lv_sub hl [1, 2, 3, 4, 5, 0] rfl
      refine lv_aload_n C.1 C.2.1 dX12_addCard_42 rfl (lv_at hl 0 rfl) ?_
      refine k_get (v := .ref (ad 16)) C hP 0 rfl rfl inlX12 33 (by decide) m_8_0 rfl dX12_addCard_43 ?_
      refine lv_aload_n C.1 C.2.1 dX12_addCard_46 rfl (lv_at hl 0 rfl) ?_
      refine k_get (v := .int (t.1 0 36)) C hP 0 rfl rfl inlX12 36 (by decide) m_44_16 rfl dX12_addCard_47 ?_
      refine lv_iload C.1 C.2.1 dX12_addCard_50 (lv_at hl 4 rfl) ?_
      refine k_ist (ws' := WM K ad (uB t 16 ((t.1 0 36) : Int32).toNatClampNeg (t.2.2.1 17 (v_32 : Int32).toNatClampNeg))) (x' := (t.2.2.1 17 (v_32 : Int32).toNatClampNeg)) C hP hD hS 16 rfl (vp_in_iff.mpr ⟨by omega, by omega⟩) rfl rfl rfl dX12_addCard_52 (fun H locs hP hD hS => ?_)
      have hok : okM (uB t 16 ((t.1 0 36) : Int32).toNatClampNeg (t.2.2.1 17 (v_32 : Int32).toNatClampNeg)) := ⟨hok.1, okB_B hok.2.1 16 _ (t.2.2.1 17 (v_32 : Int32).toNatClampNeg) (show (0 : Int) ≤ ((t.2.2.1 17 (v_32 : Int32).toNatClampNeg) : Int32).toInt ∧ ((t.2.2.1 17 (v_32 : Int32).toNatClampNeg) : Int32).toInt ≤ 33300 from ⟨by omega, by omega⟩), hok.2.2.1, (iM2_f hok.2.2.2.1 (by have := clamp_eq (x := (t.1 0 36)) (by omega); omega)), hok.2.2.2.2.1, hok.2.2.2.2.2.1, hok.2.2.2.2.2.2.1, trivial⟩
      have hfr : frA [(0, 36)] [] [15, 16, 17] [] t (uB t 16 ((t.1 0 36) : Int32).toNatClampNeg (t.2.2.1 17 (v_32 : Int32).toNatClampNeg)) := frA_B hfr 16 _ _ rfl
      have hz00 : (0 : Int32).toInt = 0 := rfl
      have hcf : ((uB t 16 ((t.1 0 36) : Int32).toNatClampNeg (t.2.2.1 17 (v_32 : Int32).toNatClampNeg)).2.2.1 16 ((t.1 0 36) : Int32).toNatClampNeg).toInt = ((t.2.2.1 17 (v_32 : Int32).toNatClampNeg) : Int32).toInt := by show (upd _ _ _ _).toInt = _; rw [pk_us]
      refine lv_iconst (v := 0) C.1 C.2.1 dX12_addCard_53 (by decide) ?_
      refine lv_istore (lv' := [(6, .int 0), (0, .ref (ad 0)), (1, .ref (ad 1)), (2, .int x2), (3, .int x3), (4, .int (t.2.2.1 17 (v_32 : Int32).toNatClampNeg)), (5, .int 80)]) C.1 C.2.1 dX12_addCard_54 hl (by decide) rfl (fun ls hl => ?_)
      have hl : lv_has ls 7 [(0, .ref (ad 0)), (1, .ref (ad 1)), (2, .int x2), (3, .int x3), (4, .int (t.2.2.1 17 (v_32 : Int32).toNatClampNeg)), (5, .int 80), (6, .int 0)] := lv_sub hl [1, 2, 3, 4, 5, 6, 0] rfl
      exact L_56 4000 (uB t 16 ((t.1 0 36) : Int32).toNatClampNeg (t.2.2.1 17 (v_32 : Int32).toNatClampNeg)) (t.2.2.1 17 (v_32 : Int32).toNatClampNeg) 80 0 _ _ _ hok hfr ⟨by omega, by omega⟩ ⟨by decide, by decide⟩ ⟨by decide, by decide⟩ (show ∀ b : Int, lastLe (t.1 0 36) (t.2.2.1 17) b → (t.2.2.1 17 (v_32 : Int32).toNatClampNeg).toInt ≤ b from by first | exact hi56_0 | exact fun b hb => hb.1 (by omega) | exact fun b hb => hb.2 _ (by omega) (by omega)) (show (t.2.2.1 17 (v_32 : Int32).toNatClampNeg).toInt ≤ 33280 - (x3.toInt - x2.toInt) from by omega) (show 0 ≤ (t.2.2.1 17 (v_32 : Int32).toNatClampNeg).toInt from by omega) (show 80 ≤ 80 from by omega) (show 80 ≤ x3.toInt - x2.toInt from by omega) (show 0 ≤ 80 from by omega) (show (t.1 0 36).toInt = (t.1 0 36).toInt from by omega) (show ((uB t 16 ((t.1 0 36) : Int32).toNatClampNeg (t.2.2.1 17 (v_32 : Int32).toNatClampNeg)).2.2.1 16 ((t.1 0 36) : Int32).toNatClampNeg).toInt = (t.2.2.1 17 (v_32 : Int32).toNatClampNeg).toInt from by omega) (show (3999 : Int) - 0 < ((4000 : Nat) : Int) from by omega) hP hD hS (lv_sub hl [0, 1, 2, 3, 4, 5, 6] rfl)
  · replace c_31 : (t.1 0 36).toInt = 0 := i_eq c_31
    refine lv_iconst (v := 0) C.1 C.2.1 dX12_addCard_7 (by decide) ?_
    refine lv_goto (tgt := 22) C.1 C.2.1 dX12_addCard_8 (by decide) ?_
    refine lv_istore (lv' := [(4, .int 0), (0, .ref (ad 0)), (1, .ref (ad 1)), (2, .int x2), (3, .int x3)]) C.1 C.2.1 dX12_addCard_22 hl (by decide) rfl (fun ls hl => ?_)
    have hl : lv_has ls 7 [(0, .ref (ad 0)), (1, .ref (ad 1)), (2, .int x2), (3, .int x3), (4, .int 0)] := lv_sub hl [1, 2, 3, 4, 0] rfl
    refine lv_iload_n C.1 C.2.1 dX12_addCard_24 rfl (lv_at hl 3 rfl) ?_
    refine lv_iload_n C.1 C.2.1 dX12_addCard_25 rfl (lv_at hl 2 rfl) ?_
    obtain ⟨v_43, e_44⟩ : ∃ z, z = (x3 : Int32) - (x2 : Int32) := ⟨_, rfl⟩
    have h_45 : v_43.toInt = x3.toInt - x2.toInt := by rw [e_44]; exact ti_isub (by show (_ : Int) ≤ x3.toInt - x2.toInt; omega) (by show x3.toInt - x2.toInt < (_ : Int); omega)
    refine k_isub (v := v_43) C e_44.symm dX12_addCard_26 ?_
    refine lv_bipush (v := 80) C.1 C.2.1 dX12_addCard_27 (by decide) ?_
    refine lv_icmp_le (tgt := 37) C.1 C.2.1 dX12_addCard_29 (by decide) (fun c_46 => ?_) (fun c_46 => ?_)
    · replace c_46 : v_43.toInt ≤ 80 := i_le c_46
      refine lv_iload_n C.1 C.2.1 dX12_addCard_37 rfl (lv_at hl 3 rfl) ?_
      refine lv_iload_n C.1 C.2.1 dX12_addCard_38 rfl (lv_at hl 2 rfl) ?_
      obtain ⟨v_47, e_48⟩ : ∃ z, z = (x3 : Int32) - (x2 : Int32) := ⟨_, rfl⟩
      have h_49 : v_47.toInt = x3.toInt - x2.toInt := by rw [e_48]; exact ti_isub (by show (_ : Int) ≤ x3.toInt - x2.toInt; omega) (by show x3.toInt - x2.toInt < (_ : Int); omega)
      refine k_isub (v := v_47) C e_48.symm dX12_addCard_39 ?_
      refine lv_istore (lv' := [(5, .int v_47), (0, .ref (ad 0)), (1, .ref (ad 1)), (2, .int x2), (3, .int x3), (4, .int 0)]) C.1 C.2.1 dX12_addCard_40 hl (by decide) rfl (fun ls hl => ?_)
      have hl : lv_has ls 7 [(0, .ref (ad 0)), (1, .ref (ad 1)), (2, .int x2), (3, .int x3), (4, .int 0), (5, .int v_47)] := lv_sub hl [1, 2, 3, 4, 5, 0] rfl
      refine lv_aload_n C.1 C.2.1 dX12_addCard_42 rfl (lv_at hl 0 rfl) ?_
      refine k_get (v := .ref (ad 16)) C hP 0 rfl rfl inlX12 33 (by decide) m_8_0 rfl dX12_addCard_43 ?_
      refine lv_aload_n C.1 C.2.1 dX12_addCard_46 rfl (lv_at hl 0 rfl) ?_
      refine k_get (v := .int (t.1 0 36)) C hP 0 rfl rfl inlX12 36 (by decide) m_44_16 rfl dX12_addCard_47 ?_
      refine lv_iload C.1 C.2.1 dX12_addCard_50 (lv_at hl 4 rfl) ?_
      refine k_ist (ws' := WM K ad (uB t 16 ((t.1 0 36) : Int32).toNatClampNeg 0)) (x' := 0) C hP hD hS 16 rfl (vp_in_iff.mpr ⟨by omega, by omega⟩) rfl rfl rfl dX12_addCard_52 (fun H locs hP hD hS => ?_)
      have hok : okM (uB t 16 ((t.1 0 36) : Int32).toNatClampNeg 0) := ⟨hok.1, okB_B hok.2.1 16 _ 0 (show (0 : Int) ≤ (0 : Int32).toInt ∧ (0 : Int32).toInt ≤ 33300 from ⟨by decide, by decide⟩), hok.2.2.1, (iM2_f hok.2.2.2.1 (by have := clamp_eq (x := (t.1 0 36)) (by omega); omega)), hok.2.2.2.2.1, hok.2.2.2.2.2.1, hok.2.2.2.2.2.2.1, trivial⟩
      have hfr : frA [(0, 36)] [] [15, 16, 17] [] t (uB t 16 ((t.1 0 36) : Int32).toNatClampNeg 0) := frA_B hfr 16 _ _ rfl
      have hz00 : (0 : Int32).toInt = 0 := rfl
      have hcf : ((uB t 16 ((t.1 0 36) : Int32).toNatClampNeg 0).2.2.1 16 ((t.1 0 36) : Int32).toNatClampNeg).toInt = (0 : Int32).toInt := by show (upd _ _ _ _).toInt = _; rw [pk_us]
      refine lv_iconst (v := 0) C.1 C.2.1 dX12_addCard_53 (by decide) ?_
      refine lv_istore (lv' := [(6, .int 0), (0, .ref (ad 0)), (1, .ref (ad 1)), (2, .int x2), (3, .int x3), (4, .int 0), (5, .int v_47)]) C.1 C.2.1 dX12_addCard_54 hl (by decide) rfl (fun ls hl => ?_)
      have hl : lv_has ls 7 [(0, .ref (ad 0)), (1, .ref (ad 1)), (2, .int x2), (3, .int x3), (4, .int 0), (5, .int v_47), (6, .int 0)] := lv_sub hl [1, 2, 3, 4, 5, 6, 0] rfl
      exact L_56 4000 (uB t 16 ((t.1 0 36) : Int32).toNatClampNeg 0) 0 v_47 0 _ _ _ hok hfr ⟨by decide, by decide⟩ ⟨by omega, by omega⟩ ⟨by decide, by decide⟩ (show ∀ b : Int, lastLe (t.1 0 36) (t.2.2.1 17) b → 0 ≤ b from by first | exact hi56_0 | exact fun b hb => hb.1 (by omega) | exact fun b hb => hb.2 _ (by omega) (by omega)) (show 0 ≤ 33280 - (x3.toInt - x2.toInt) from by omega) (show 0 ≤ 0 from by omega) (show v_47.toInt ≤ 80 from by omega) (show v_47.toInt ≤ x3.toInt - x2.toInt from by omega) (show 0 ≤ v_47.toInt from by omega) (show (t.1 0 36).toInt = (t.1 0 36).toInt from by omega) (show ((uB t 16 ((t.1 0 36) : Int32).toNatClampNeg 0).2.2.1 16 ((t.1 0 36) : Int32).toNatClampNeg).toInt = 0 from by omega) (show (3999 : Int) - 0 < ((4000 : Nat) : Int) from by omega) hP hD hS (lv_sub hl [0, 1, 2, 3, 4, 5, 6] rfl)
    · replace c_46 : 80 < v_43.toInt := i_nle c_46
      refine lv_bipush (v := 80) C.1 C.2.1 dX12_addCard_32 (by decide) ?_
      refine lv_goto (tgt := 40) C.1 C.2.1 dX12_addCard_34 (by decide) ?_
      refine lv_istore (lv' := [(5, .int 80), (0, .ref (ad 0)), (1, .ref (ad 1)), (2, .int x2), (3, .int x3), (4, .int 0)]) C.1 C.2.1 dX12_addCard_40 hl (by decide) rfl (fun ls hl => ?_)
      have hl : lv_has ls 7 [(0, .ref (ad 0)), (1, .ref (ad 1)), (2, .int x2), (3, .int x3), (4, .int 0), (5, .int 80)] := lv_sub hl [1, 2, 3, 4, 5, 0] rfl
      refine lv_aload_n C.1 C.2.1 dX12_addCard_42 rfl (lv_at hl 0 rfl) ?_
      refine k_get (v := .ref (ad 16)) C hP 0 rfl rfl inlX12 33 (by decide) m_8_0 rfl dX12_addCard_43 ?_
      refine lv_aload_n C.1 C.2.1 dX12_addCard_46 rfl (lv_at hl 0 rfl) ?_
      refine k_get (v := .int (t.1 0 36)) C hP 0 rfl rfl inlX12 36 (by decide) m_44_16 rfl dX12_addCard_47 ?_
      refine lv_iload C.1 C.2.1 dX12_addCard_50 (lv_at hl 4 rfl) ?_
      refine k_ist (ws' := WM K ad (uB t 16 ((t.1 0 36) : Int32).toNatClampNeg 0)) (x' := 0) C hP hD hS 16 rfl (vp_in_iff.mpr ⟨by omega, by omega⟩) rfl rfl rfl dX12_addCard_52 (fun H locs hP hD hS => ?_)
      have hok : okM (uB t 16 ((t.1 0 36) : Int32).toNatClampNeg 0) := ⟨hok.1, okB_B hok.2.1 16 _ 0 (show (0 : Int) ≤ (0 : Int32).toInt ∧ (0 : Int32).toInt ≤ 33300 from ⟨by decide, by decide⟩), hok.2.2.1, (iM2_f hok.2.2.2.1 (by have := clamp_eq (x := (t.1 0 36)) (by omega); omega)), hok.2.2.2.2.1, hok.2.2.2.2.2.1, hok.2.2.2.2.2.2.1, trivial⟩
      have hfr : frA [(0, 36)] [] [15, 16, 17] [] t (uB t 16 ((t.1 0 36) : Int32).toNatClampNeg 0) := frA_B hfr 16 _ _ rfl
      have hz00 : (0 : Int32).toInt = 0 := rfl
      have hcf : ((uB t 16 ((t.1 0 36) : Int32).toNatClampNeg 0).2.2.1 16 ((t.1 0 36) : Int32).toNatClampNeg).toInt = (0 : Int32).toInt := by show (upd _ _ _ _).toInt = _; rw [pk_us]
      refine lv_iconst (v := 0) C.1 C.2.1 dX12_addCard_53 (by decide) ?_
      refine lv_istore (lv' := [(6, .int 0), (0, .ref (ad 0)), (1, .ref (ad 1)), (2, .int x2), (3, .int x3), (4, .int 0), (5, .int 80)]) C.1 C.2.1 dX12_addCard_54 hl (by decide) rfl (fun ls hl => ?_)
      have hl : lv_has ls 7 [(0, .ref (ad 0)), (1, .ref (ad 1)), (2, .int x2), (3, .int x3), (4, .int 0), (5, .int 80), (6, .int 0)] := lv_sub hl [1, 2, 3, 4, 5, 6, 0] rfl
      exact L_56 4000 (uB t 16 ((t.1 0 36) : Int32).toNatClampNeg 0) 0 80 0 _ _ _ hok hfr ⟨by decide, by decide⟩ ⟨by decide, by decide⟩ ⟨by decide, by decide⟩ (show ∀ b : Int, lastLe (t.1 0 36) (t.2.2.1 17) b → 0 ≤ b from by first | exact hi56_0 | exact fun b hb => hb.1 (by omega) | exact fun b hb => hb.2 _ (by omega) (by omega)) (show 0 ≤ 33280 - (x3.toInt - x2.toInt) from by omega) (show 0 ≤ 0 from by omega) (show 80 ≤ 80 from by omega) (show 80 ≤ x3.toInt - x2.toInt from by omega) (show 0 ≤ 80 from by omega) (show (t.1 0 36).toInt = (t.1 0 36).toInt from by omega) (show ((uB t 16 ((t.1 0 36) : Int32).toNatClampNeg 0).2.2.1 16 ((t.1 0 36) : Int32).toNatClampNeg).toInt = 0 from by omega) (show (3999 : Int) - 0 < ((4000 : Nat) : Int) from by omega) hP hD hS (lv_sub hl [0, 1, 2, 3, 4, 5, 6] rfl)

theorem dX12_isDigit_0 : decode cX12_isDigit 0 = .ok (.iload_n 0, 1) := by decide +kernel
theorem dX12_isDigit_1 : decode cX12_isDigit 1 = .ok (.bipush 48, 2) := by decide +kernel
theorem dX12_isDigit_12 : decode cX12_isDigit 12 = .ok (.iconst 1, 1) := by decide +kernel
theorem dX12_isDigit_13 : decode cX12_isDigit 13 = .ok (.goto 4, 3) := by decide +kernel
theorem dX12_isDigit_16 : decode cX12_isDigit 16 = .ok (.iconst 0, 1) := by decide +kernel
theorem dX12_isDigit_17 : decode cX12_isDigit 17 = .ok (.ireturn, 1) := by decide +kernel
theorem dX12_isDigit_3 : decode cX12_isDigit 3 = .ok (.if_icmp .lt 13, 3) := by decide +kernel
theorem dX12_isDigit_6 : decode cX12_isDigit 6 = .ok (.iload_n 0, 1) := by decide +kernel
theorem dX12_isDigit_7 : decode cX12_isDigit 7 = .ok (.bipush 57, 2) := by decide +kernel
theorem dX12_isDigit_9 : decode cX12_isDigit 9 = .ok (.if_icmp .gt 7, 3) := by decide +kernel
set_option maxHeartbeats 4000000 in
set_option maxRecDepth 100000 in
theorem T_X12_isDigit (l : Launch) (D : va_G) (K : Nat → ClassId) (Z Y : Nat → Nat) (ad : Nat → Nat) (t : tSt) (hok : okM t) (x0 : Int32) (hx0 : (0 : Int) ≤ x0.toInt ∧ x0.toInt ≤ 255) : tMet l yX12_isDigit cX12_isDigit 1 (some .boolean) (rmD 0 0 0) D K Z Y [.int x0] (WM K ad t) (QI D K (fun (r : Int32) (u : Unit) => (0 : Int) ≤ r.toInt ∧ r.toInt ≤ 1 ∧ (r.toInt = 1 → 48 ≤ x0.toInt ∧ x0.toInt ≤ 57)) (fun (_ : Unit) => WM K ad t)) 0 0 := by
  refine t_met RX12 ⟨rfl, by decide +kernel⟩ (Nat.le_of_ble_eq_true rfl) ?_
  intro p e s m below meth c A ls C hE hZ hr hlocks hA hP hD hS hl
  have hl : lv_has ls 1 [(0, .int x0)] := hl
  refine lv_iload_n C.1 C.2.1 dX12_isDigit_0 rfl (lv_at hl 0 rfl) ?_
  refine lv_bipush (v := 48) C.1 C.2.1 dX12_isDigit_1 (by decide) ?_
  refine lv_icmp_lt (tgt := 16) C.1 C.2.1 dX12_isDigit_3 (by decide) (fun c_1 => ?_) (fun c_1 => ?_)
  · replace c_1 : x0.toInt < 48 := i_lt c_1
    refine lv_iconst (v := 0) C.1 C.2.1 dX12_isDigit_16 (by decide) ?_
    exact g_iret C hr hlocks hP hD hS (by decide) () rfl ⟨by decide, by decide, (show 0 = 1 → 48 ≤ x0.toInt ∧ x0.toInt ≤ 57 from by omega)⟩ (Nat.le_of_ble_eq_true rfl) (Nat.le_of_ble_eq_true rfl) dX12_isDigit_17
  · replace c_1 : 48 ≤ x0.toInt := i_nlt c_1
    refine lv_iload_n C.1 C.2.1 dX12_isDigit_6 rfl (lv_at hl 0 rfl) ?_
    refine lv_bipush (v := 57) C.1 C.2.1 dX12_isDigit_7 (by decide) ?_
    refine lv_icmp_gt (tgt := 16) C.1 C.2.1 dX12_isDigit_9 (by decide) (fun c_2 => ?_) (fun c_2 => ?_)
    · replace c_2 : 57 < x0.toInt := i_lt c_2
      refine lv_iconst (v := 0) C.1 C.2.1 dX12_isDigit_16 (by decide) ?_
      exact g_iret C hr hlocks hP hD hS (by decide) () rfl ⟨by decide, by decide, (show 0 = 1 → 48 ≤ x0.toInt ∧ x0.toInt ≤ 57 from by omega)⟩ (Nat.le_of_ble_eq_true rfl) (Nat.le_of_ble_eq_true rfl) dX12_isDigit_17
    · replace c_2 : x0.toInt ≤ 57 := i_nlt c_2
      refine lv_iconst (v := 1) C.1 C.2.1 dX12_isDigit_12 (by decide) ?_
      refine lv_goto (tgt := 17) C.1 C.2.1 dX12_isDigit_13 (by decide) ?_
      exact g_iret C hr hlocks hP hD hS (by decide) () rfl ⟨by decide, by decide, (show 1 = 1 → 48 ≤ x0.toInt ∧ x0.toInt ≤ 57 from by omega)⟩ (Nat.le_of_ble_eq_true rfl) (Nat.le_of_ble_eq_true rfl) dX12_isDigit_17

theorem dX12_signOf_0 : decode cX12_signOf 0 = .ok (.iload_n 0, 1) := by decide +kernel
theorem dX12_signOf_1 : decode cX12_signOf 1 = .ok (.invokestatic 455, 3) := by decide +kernel
theorem dX12_signOf_10 : decode cX12_signOf 10 = .ok (.isub, 1) := by decide +kernel
theorem dX12_signOf_11 : decode cX12_signOf 11 = .ok (.iconst 1, 1) := by decide +kernel
theorem dX12_signOf_12 : decode cX12_signOf 12 = .ok (.iadd, 1) := by decide +kernel
theorem dX12_signOf_13 : decode cX12_signOf 13 = .ok (.goto 10, 3) := by decide +kernel
theorem dX12_signOf_16 : decode cX12_signOf 16 = .ok (.iload_n 0, 1) := by decide +kernel
theorem dX12_signOf_17 : decode cX12_signOf 17 = .ok (.bipush 65, 2) := by decide +kernel
theorem dX12_signOf_19 : decode cX12_signOf 19 = .ok (.isub, 1) := by decide +kernel
theorem dX12_signOf_20 : decode cX12_signOf 20 = .ok (.bipush 11, 2) := by decide +kernel
theorem dX12_signOf_22 : decode cX12_signOf 22 = .ok (.iadd, 1) := by decide +kernel
theorem dX12_signOf_23 : decode cX12_signOf 23 = .ok (.ireturn, 1) := by decide +kernel
theorem dX12_signOf_4 : decode cX12_signOf 4 = .ok (.ifCond .eq 12, 3) := by decide +kernel
theorem dX12_signOf_7 : decode cX12_signOf 7 = .ok (.iload_n 0, 1) := by decide +kernel
theorem dX12_signOf_8 : decode cX12_signOf 8 = .ok (.bipush 48, 2) := by decide +kernel
set_option maxHeartbeats 4000000 in
set_option maxRecDepth 100000 in
theorem T_X12_signOf (l : Launch) (D : va_G) (K : Nat → ClassId) (Z Y : Nat → Nat) (ad : Nat → Nat) (t : tSt) (hok : okM t) (x0 : Int32) (hx0 : (0 : Int) ≤ x0.toInt ∧ x0.toInt ≤ 255) : tMet l yX12_signOf cX12_signOf 1 (some .int) (rmD 1 0 0) D K Z Y [.int x0] (WM K ad t) (QI D K (fun (r : Int32) (u : Unit) => (-54 : Int) ≤ r.toInt ∧ r.toInt ≤ 208) (fun (_ : Unit) => WM K ad t)) 0 0 := by
  refine t_met RX12 ⟨rfl, by decide +kernel⟩ (Nat.le_of_ble_eq_true rfl) ?_
  intro p e s m below meth c A ls C hE hZ hr hlocks hA hP hD hS hl
  have hl : lv_has ls 1 [(0, .int x0)] := hl
  refine lv_iload_n C.1 C.2.1 dX12_signOf_0 rfl (lv_at hl 0 rfl) ?_
  refine g_Si (As := [.int x0]) (rest := []) C hP hD hS hA (T_X12_isDigit l D K Z Y ad t hok (x0) (show (0 : Int) ≤ (x0 : Int32).toInt ∧ (x0 : Int32).toInt ≤ 255 from ⟨by omega, by omega⟩)) hE hZ (uwS m_32_15 m_32_16 m_1_5 m_32_17) (hdS 1 (by decide +kernel) rfl) ⟨Nat.le_of_ble_eq_true rfl, Nat.le_of_ble_eq_true rfl⟩ rfl rfl rfl hl.1 (Nat.le_of_ble_eq_true rfl) dX12_signOf_1 ⟨Nat.le_of_ble_eq_true rfl, Nat.le_of_ble_eq_true rfl⟩ (fun r_2 t_1 H locs hw hP hD hS => ?_)
  obtain ⟨h_4, h_5, p_6⟩ := hw
  replace p_6 : r_2.toInt = 1 → 48 ≤ x0.toInt ∧ x0.toInt ≤ 57 := p_6
  refine lv_if_eq (tgt := 16) C.1 C.2.1 dX12_signOf_4 (by decide) (fun c_7 => ?_) (fun c_7 => ?_)
  · replace c_7 : r_2.toInt = 0 := i_eq c_7
    refine lv_iload_n C.1 C.2.1 dX12_signOf_16 rfl (lv_at hl 0 rfl) ?_
    refine lv_bipush (v := 65) C.1 C.2.1 dX12_signOf_17 (by decide) ?_
    obtain ⟨v_8, e_9⟩ : ∃ z, z = (x0 : Int32) - (65 : Int32) := ⟨_, rfl⟩
    have h_10 : v_8.toInt = x0.toInt - 65 := by rw [e_9]; exact ti_isub (by show (_ : Int) ≤ x0.toInt - 65; omega) (by show x0.toInt - 65 < (_ : Int); omega)
    refine k_isub (v := v_8) C e_9.symm dX12_signOf_19 ?_
    refine lv_bipush (v := 11) C.1 C.2.1 dX12_signOf_20 (by decide) ?_
    obtain ⟨v_11, e_12⟩ : ∃ z, z = (v_8 : Int32) + (11 : Int32) := ⟨_, rfl⟩
    have h_13 : v_11.toInt = v_8.toInt + 11 := by rw [e_12]; exact ti_iadd (by show (_ : Int) ≤ v_8.toInt + 11; omega) (by show v_8.toInt + 11 < (_ : Int); omega)
    refine k_iadd (v := v_11) C e_12.symm dX12_signOf_22 ?_
    exact g_iret C hr hlocks hP hD hS rfl () rfl ⟨by omega, by omega⟩ (Nat.le_of_ble_eq_true rfl) (Nat.le_of_ble_eq_true rfl) dX12_signOf_23
  · replace c_7 : ¬ r_2.toInt = 0 := i_ne c_7
    refine lv_iload_n C.1 C.2.1 dX12_signOf_7 rfl (lv_at hl 0 rfl) ?_
    refine lv_bipush (v := 48) C.1 C.2.1 dX12_signOf_8 (by decide) ?_
    obtain ⟨v_14, e_15⟩ : ∃ z, z = (x0 : Int32) - (48 : Int32) := ⟨_, rfl⟩
    have h_16 : v_14.toInt = x0.toInt - 48 := by rw [e_15]; exact ti_isub (by show (_ : Int) ≤ x0.toInt - 48; omega) (by show x0.toInt - 48 < (_ : Int); omega)
    refine k_isub (v := v_14) C e_15.symm dX12_signOf_10 ?_
    refine lv_iconst (v := 1) C.1 C.2.1 dX12_signOf_11 (by decide) ?_
    obtain ⟨v_17, e_18⟩ : ∃ z, z = (v_14 : Int32) + (1 : Int32) := ⟨_, rfl⟩
    have h_19 : v_17.toInt = v_14.toInt + 1 := by rw [e_18]; exact ti_iadd (by show (_ : Int) ≤ v_14.toInt + 1; omega) (by show v_14.toInt + 1 < (_ : Int); omega)
    refine k_iadd (v := v_17) C e_18.symm dX12_signOf_12 ?_
    refine lv_goto (tgt := 23) C.1 C.2.1 dX12_signOf_13 (by decide) ?_
    exact g_iret C hr hlocks hP hD hS rfl () rfl ⟨by omega, by omega⟩ (Nat.le_of_ble_eq_true rfl) (Nat.le_of_ble_eq_true rfl) dX12_signOf_23

theorem dX12_clearMemory_0 : decode cX12_clearMemory 0 = .ok (.iconst 0, 1) := by decide +kernel
theorem dX12_clearMemory_1 : decode cX12_clearMemory 1 = .ok (.istore_n 1, 1) := by decide +kernel
theorem dX12_clearMemory_10 : decode cX12_clearMemory 10 = .ok (.getfield 13, 3) := by decide +kernel
theorem dX12_clearMemory_13 : decode cX12_clearMemory 13 = .ok (.iload_n 1, 1) := by decide +kernel
theorem dX12_clearMemory_14 : decode cX12_clearMemory 14 = .ok (.iconst 0, 1) := by decide +kernel
theorem dX12_clearMemory_15 : decode cX12_clearMemory 15 = .ok (.iastore, 1) := by decide +kernel
theorem dX12_clearMemory_16 : decode cX12_clearMemory 16 = .ok (.iinc 1 1, 3) := by decide +kernel
theorem dX12_clearMemory_19 : decode cX12_clearMemory 19 = .ok (.goto (-17), 3) := by decide +kernel
theorem dX12_clearMemory_2 : decode cX12_clearMemory 2 = .ok (.iload_n 1, 1) := by decide +kernel
theorem dX12_clearMemory_22 : decode cX12_clearMemory 22 = .ok (.return_, 1) := by decide +kernel
theorem dX12_clearMemory_3 : decode cX12_clearMemory 3 = .ok (.sipush 7999, 3) := by decide +kernel
theorem dX12_clearMemory_6 : decode cX12_clearMemory 6 = .ok (.if_icmp .ge 16, 3) := by decide +kernel
theorem dX12_clearMemory_9 : decode cX12_clearMemory 9 = .ok (.aload_n 0, 1) := by decide +kernel
set_option maxHeartbeats 4000000 in
set_option maxRecDepth 100000 in
theorem T_X12_clearMemory (l : Launch) (D : va_G) (K : Nat → ClassId) (Z Y : Nat → Nat) (ad : Nat → Nat) (t : tSt) (hok : okM t)  : tMet l yX12_clearMemory cX12_clearMemory 2 none (rmD 0 0 0) D K Z Y [.ref (ad 0)] (WM K ad t) (QV D K (fun (u : tSt) => okM u ∧ frA [] [] [2] [] t u) (fun (u : tSt) => WM K ad u)) 0 0 := by
  refine t_met RX12 ⟨rfl, by decide +kernel⟩ (Nat.le_of_ble_eq_true rfl) ?_
  intro p e s m below meth c A ls C hE hZ hr hlocks hA hP hD hS hl
  have hl : lv_has ls 2 [(0, .ref (ad 0))] := hl
  have hokt := hok
  have hfr : frA [] [] [2] [] t t := frA_rf
  have L_2 : ∀ (fuel_2 : Nat) (t1 : tSt) (w2_1 : Int32) (H : Heap) (locs : List Loc) (ls : Array Slot), okM t1 → frA [] [] [2] [] t t1 → (0 : Int) ≤ w2_1.toInt ∧ w2_1.toInt ≤ 7999 → (7999 : Int) - w2_1.toInt < (fuel_2 : Int) → va_P D vwCl (WM K ad t1) H → va_D A (WM K ad t1) → va_S A s.heap H locs → lv_has ls 2 [(0, .ref (ad 0)), (1, .int w2_1)] → W p l e (rmD 0 0 0) s m [.ref (ad 0)].toArray below meth c H locs 0 0 (MQ below (QV D K (fun (u : tSt) => okM u ∧ frA [] [] [2] [] t u) (fun (u : tSt) => WM K ad u) A) [.ref (ad 0)].toArray s 0 0 A) (F0 m 2 ls []) := by
    intro fuel_2
    induction fuel_2 with
    | zero =>
      intro t1 w2_1 H locs ls hok hfr hw2_1 hm2_2 hP hD hS hl
      exact absurd hm2_2 (by omega)
    | succ fuel_2 ih_2 =>
      intro t1 w2_1 H locs ls hok hfr hw2_1 hm2_2 hP hD hS hl
      have hm2_2 : (7999 : Int) - w2_1.toInt < (fuel_2 : Int) + 1 := by omega
      refine lv_iload_n C.1 C.2.1 dX12_clearMemory_2 rfl (lv_at hl 1 rfl) ?_
      refine lv_sipush (v := 7999) C.1 C.2.1 dX12_clearMemory_3 (by decide) ?_
      refine lv_icmp_ge (tgt := 22) C.1 C.2.1 dX12_clearMemory_6 (by decide) (fun c_1 => ?_) (fun c_1 => ?_)
      · replace c_1 : 7999 ≤ w2_1.toInt := i_le c_1
        exact g_vret C hr hlocks hP hD hS t1 rfl ⟨hok, hfr⟩ (Nat.le_of_ble_eq_true rfl) (Nat.le_of_ble_eq_true rfl) dX12_clearMemory_22
      · replace c_1 : w2_1.toInt < 7999 := i_nle c_1
        refine lv_aload_n C.1 C.2.1 dX12_clearMemory_9 rfl (lv_at hl 0 rfl) ?_
        refine k_get (v := .ref (ad 2)) C hP 0 rfl rfl inlX12 3 (by decide) m_7_5 rfl dX12_clearMemory_10 ?_
        refine lv_iload_n C.1 C.2.1 dX12_clearMemory_13 rfl (lv_at hl 1 rfl) ?_
        refine lv_iconst (v := 0) C.1 C.2.1 dX12_clearMemory_14 (by decide) ?_
        refine k_ist (ws' := WM K ad (uB t1 2 (w2_1 : Int32).toNatClampNeg 0)) (x' := 0) C hP hD hS 2 rfl (vp_in_iff.mpr ⟨by omega, by omega⟩) rfl rfl rfl dX12_clearMemory_15 (fun H locs hP hD hS => ?_)
        have hok : okM (uB t1 2 (w2_1 : Int32).toNatClampNeg 0) := ⟨hok.1, okB_B hok.2.1 2 _ 0 (show (-2147483648 : Int) ≤ (0 : Int32).toInt ∧ (0 : Int32).toInt ≤ 2147483647 from (i_rng _)), hok.2.2.1, hok.2.2.2.1, hok.2.2.2.2.1, hok.2.2.2.2.2.1, hok.2.2.2.2.2.2.1, trivial⟩
        have hfr : frA [] [] [2] [] t (uB t1 2 (w2_1 : Int32).toNatClampNeg 0) := frA_B hfr 2 _ _ rfl
        obtain ⟨v_2, e_3⟩ : ∃ z, z = w2_1 + 1 := ⟨_, rfl⟩
        have h_4 : v_2.toInt = w2_1.toInt + 1 := by rw [e_3]; exact ti_iadd (by show (_ : Int) ≤ w2_1.toInt + 1; omega) (by show w2_1.toInt + 1 < (_ : Int); omega)
        refine lv_iinc (v := v_2) (lv' := [(1, .int v_2), (0, .ref (ad 0))]) C.1 C.2.1 dX12_clearMemory_16 hl (k := 1) rfl e_3.symm (by decide) rfl (fun ls hl => ?_)
        have hl : lv_has ls 2 [(0, .ref (ad 0)), (1, .int v_2)] := lv_sub hl [1, 0] rfl
        refine lv_goto (tgt := 2) C.1 C.2.1 dX12_clearMemory_19 (by decide) ?_
        exact ih_2 (uB t1 2 (w2_1 : Int32).toNatClampNeg 0) v_2 _ _ _ hok hfr ⟨by omega, by omega⟩ (show (7999 : Int) - v_2.toInt < (fuel_2 : Int) from by omega) hP hD hS (lv_sub hl [0, 1] rfl)
  refine lv_iconst (v := 0) C.1 C.2.1 dX12_clearMemory_0 (by decide) ?_
  refine lv_istore_n (lv' := [(1, .int 0), (0, .ref (ad 0))]) C.1 C.2.1 dX12_clearMemory_1 rfl hl (by decide) rfl (fun ls hl => ?_)
  have hl : lv_has ls 2 [(0, .ref (ad 0)), (1, .int 0)] := lv_sub hl [1, 0] rfl
  exact L_2 8000 t 0 _ _ _ hok hfr ⟨by decide, by decide⟩ (show (7999 : Int) - 0 < ((8000 : Nat) : Int) from by omega) hP hD hS (lv_sub hl [0, 1] rfl)

theorem dX12_freeUnits_0 : decode cX12_freeUnits 0 = .ok (.iconst 0, 1) := by decide +kernel
theorem dX12_freeUnits_1 : decode cX12_freeUnits 1 = .ok (.istore_n 1, 1) := by decide +kernel
theorem dX12_freeUnits_12 : decode cX12_freeUnits 12 = .ok (.iload_n 1, 1) := by decide +kernel
theorem dX12_freeUnits_13 : decode cX12_freeUnits 13 = .ok (.lconst 0, 1) := by decide +kernel
theorem dX12_freeUnits_14 : decode cX12_freeUnits 14 = .ok (.lastore, 1) := by decide +kernel
theorem dX12_freeUnits_15 : decode cX12_freeUnits 15 = .ok (.aload_n 0, 1) := by decide +kernel
theorem dX12_freeUnits_16 : decode cX12_freeUnits 16 = .ok (.getfield 31, 3) := by decide +kernel
theorem dX12_freeUnits_19 : decode cX12_freeUnits 19 = .ok (.iload_n 1, 1) := by decide +kernel
theorem dX12_freeUnits_2 : decode cX12_freeUnits 2 = .ok (.iload_n 1, 1) := by decide +kernel
theorem dX12_freeUnits_20 : decode cX12_freeUnits 20 = .ok (.iconst 0, 1) := by decide +kernel
theorem dX12_freeUnits_21 : decode cX12_freeUnits 21 = .ok (.bastore, 1) := by decide +kernel
theorem dX12_freeUnits_22 : decode cX12_freeUnits 22 = .ok (.iinc 1 1, 3) := by decide +kernel
theorem dX12_freeUnits_25 : decode cX12_freeUnits 25 = .ok (.goto (-23), 3) := by decide +kernel
theorem dX12_freeUnits_28 : decode cX12_freeUnits 28 = .ok (.return_, 1) := by decide +kernel
theorem dX12_freeUnits_3 : decode cX12_freeUnits 3 = .ok (.bipush 20, 2) := by decide +kernel
theorem dX12_freeUnits_5 : decode cX12_freeUnits 5 = .ok (.if_icmp .ge 23, 3) := by decide +kernel
theorem dX12_freeUnits_8 : decode cX12_freeUnits 8 = .ok (.aload_n 0, 1) := by decide +kernel
theorem dX12_freeUnits_9 : decode cX12_freeUnits 9 = .ok (.getfield 27, 3) := by decide +kernel
set_option maxHeartbeats 4000000 in
set_option maxRecDepth 100000 in
theorem T_X12_freeUnits (l : Launch) (D : va_G) (K : Nat → ClassId) (Z Y : Nat → Nat) (ad : Nat → Nat) (t : tSt) (hok : okM t)  : tMet l yX12_freeUnits cX12_freeUnits 2 none (rmD 0 0 0) D K Z Y [.ref (ad 0)] (WM K ad t) (QV D K (fun (u : tSt) => okM u ∧ frA [] [] [5] [4] t u ∧ (bz (u.2.2.2 4) 20)) (fun (u : tSt) => WM K ad u)) 0 0 := by
  refine t_met RX12 ⟨rfl, by decide +kernel⟩ (Nat.le_of_ble_eq_true rfl) ?_
  intro p e s m below meth c A ls C hE hZ hr hlocks hA hP hD hS hl
  have hl : lv_has ls 2 [(0, .ref (ad 0))] := hl
  have hokt := hok
  have hfr : frA [] [] [5] [4] t t := frA_rf
  have L_2 : ∀ (fuel_2 : Nat) (t1 : tSt) (w2_1 : Int32) (H : Heap) (locs : List Loc) (ls : Array Slot), okM t1 → frA [] [] [5] [4] t t1 → (0 : Int) ≤ w2_1.toInt ∧ w2_1.toInt ≤ 20 → (bz (t1.2.2.2 4) w2_1.toInt) → (20 : Int) - w2_1.toInt < (fuel_2 : Int) → va_P D vwCl (WM K ad t1) H → va_D A (WM K ad t1) → va_S A s.heap H locs → lv_has ls 2 [(0, .ref (ad 0)), (1, .int w2_1)] → W p l e (rmD 0 0 0) s m [.ref (ad 0)].toArray below meth c H locs 0 0 (MQ below (QV D K (fun (u : tSt) => okM u ∧ frA [] [] [5] [4] t u ∧ (bz (u.2.2.2 4) 20)) (fun (u : tSt) => WM K ad u) A) [.ref (ad 0)].toArray s 0 0 A) (F0 m 2 ls []) := by
    intro fuel_2
    induction fuel_2 with
    | zero =>
      intro t1 w2_1 H locs ls hok hfr hw2_1 hi2_0 hm2_2 hP hD hS hl
      exact absurd hm2_2 (by omega)
    | succ fuel_2 ih_2 =>
      intro t1 w2_1 H locs ls hok hfr hw2_1 hi2_0 hm2_2 hP hD hS hl
      have hm2_2 : (20 : Int) - w2_1.toInt < (fuel_2 : Int) + 1 := by omega
      refine lv_iload_n C.1 C.2.1 dX12_freeUnits_2 rfl (lv_at hl 1 rfl) ?_
      refine lv_bipush (v := 20) C.1 C.2.1 dX12_freeUnits_3 (by decide) ?_
      refine lv_icmp_ge (tgt := 28) C.1 C.2.1 dX12_freeUnits_5 (by decide) (fun c_1 => ?_) (fun c_1 => ?_)
      · replace c_1 : 20 ≤ w2_1.toInt := i_le c_1
        exact g_vret C hr hlocks hP hD hS t1 rfl ⟨hok, hfr, (show bz (t1.2.2.2 4) 20 from by exact bz_le hi2_0 (by omega))⟩ (Nat.le_of_ble_eq_true rfl) (Nat.le_of_ble_eq_true rfl) dX12_freeUnits_28
      · replace c_1 : w2_1.toInt < 20 := i_nle c_1
        refine lv_aload_n C.1 C.2.1 dX12_freeUnits_8 rfl (lv_at hl 0 rfl) ?_
        refine k_get (v := .ref (ad 4)) C hP 0 rfl rfl inlX12 19 (by decide) m_7_9 rfl dX12_freeUnits_9 ?_
        refine lv_iload_n C.1 C.2.1 dX12_freeUnits_12 rfl (lv_at hl 1 rfl) ?_
        refine lv_lconst (v := 0) C.1 C.2.1 dX12_freeUnits_13 (by decide) ?_
        refine k_lst (ws' := WM K ad (uG t1 4 (w2_1 : Int32).toNatClampNeg 0)) (x' := 0) C hP hD hS 4 rfl (vp_in_iff.mpr ⟨by omega, by omega⟩) rfl rfl rfl dX12_freeUnits_14 (fun H locs hP hD hS => ?_)
        have hok : okM (uG t1 4 (w2_1 : Int32).toNatClampNeg 0) := ⟨hok.1, hok.2.1, hok.2.2.1, hok.2.2.2.1, hok.2.2.2.2.1, hok.2.2.2.2.2.1, (jM_b hok.2.2.2.2.2.2.1 _ (fun _ => Or.inr (by decide))), trivial⟩
        have hfr : frA [] [] [5] [4] t (uG t1 4 (w2_1 : Int32).toNatClampNeg 0) := frA_G hfr 4 _ _ rfl
        refine lv_aload_n C.1 C.2.1 dX12_freeUnits_15 rfl (lv_at hl 0 rfl) ?_
        refine k_get (v := .ref (ad 5)) C hP 0 rfl rfl inlX12 20 (by decide) m_7_10 rfl dX12_freeUnits_16 ?_
        refine lv_iload_n C.1 C.2.1 dX12_freeUnits_19 rfl (lv_at hl 1 rfl) ?_
        refine lv_iconst (v := 0) C.1 C.2.1 dX12_freeUnits_20 (by decide) ?_
        obtain ⟨v_2, e_3⟩ : ∃ z, z = vp_nar .boolean 0 := ⟨_, rfl⟩
        have h_4 : (0 : Int) ≤ v_2.toInt ∧ v_2.toInt ≤ 1 := by rw [e_3]; exact nar_boolean _
        have hv0 : v_2.toInt = 0 := by rw [e_3]; rfl
        refine k_zst (ws' := WM K ad (uB (uG t1 4 (w2_1 : Int32).toNatClampNeg 0) 5 (w2_1 : Int32).toNatClampNeg v_2)) (x' := v_2) C hP hD hS 5 rfl (vp_in_iff.mpr ⟨by omega, by omega⟩) rfl e_3.symm rfl dX12_freeUnits_21 (fun H locs hP hD hS => ?_)
        have hok : okM (uB (uG t1 4 (w2_1 : Int32).toNatClampNeg 0) 5 (w2_1 : Int32).toNatClampNeg v_2) := ⟨hok.1, okB_B hok.2.1 5 _ v_2 (show (0 : Int) ≤ (v_2 : Int32).toInt ∧ (v_2 : Int32).toInt ≤ 1 from ⟨by omega, by omega⟩), (iM1_off hok.2.2.1 _ hv0), hok.2.2.2.1, hok.2.2.2.2.1, hok.2.2.2.2.2.1, hok.2.2.2.2.2.2.1, trivial⟩
        have hfr : frA [] [] [5] [4] t (uB (uG t1 4 (w2_1 : Int32).toNatClampNeg 0) 5 (w2_1 : Int32).toNatClampNeg v_2) := frA_B hfr 5 _ _ rfl
        obtain ⟨v_5, e_6⟩ : ∃ z, z = w2_1 + 1 := ⟨_, rfl⟩
        have h_7 : v_5.toInt = w2_1.toInt + 1 := by rw [e_6]; exact ti_iadd (by show (_ : Int) ≤ w2_1.toInt + 1; omega) (by show w2_1.toInt + 1 < (_ : Int); omega)
        refine lv_iinc (v := v_5) (lv' := [(1, .int v_5), (0, .ref (ad 0))]) C.1 C.2.1 dX12_freeUnits_22 hl (k := 1) rfl e_6.symm (by decide) rfl (fun ls hl => ?_)
        have hl : lv_has ls 2 [(0, .ref (ad 0)), (1, .int v_5)] := lv_sub hl [1, 0] rfl
        refine lv_goto (tgt := 2) C.1 C.2.1 dX12_freeUnits_25 (by decide) ?_
        exact ih_2 (uB (uG t1 4 (w2_1 : Int32).toNatClampNeg 0) 5 (w2_1 : Int32).toNatClampNeg v_2) v_5 _ _ _ hok hfr ⟨by omega, by omega⟩ (show bz ((uB (uG t1 4 (w2_1 : Int32).toNatClampNeg 0) 5 (w2_1 : Int32).toNatClampNeg v_2).2.2.2 4) v_5.toInt from by first | exact bz_0 (by omega) | exact bz_up hi2_0 (by omega) (by decide) (by omega)) (show (20 : Int) - v_5.toInt < (fuel_2 : Int) from by omega) hP hD hS (lv_sub hl [0, 1] rfl)
  refine lv_iconst (v := 0) C.1 C.2.1 dX12_freeUnits_0 (by decide) ?_
  refine lv_istore_n (lv' := [(1, .int 0), (0, .ref (ad 0))]) C.1 C.2.1 dX12_freeUnits_1 rfl hl (by decide) rfl (fun ls hl => ?_)
  have hl : lv_has ls 2 [(0, .ref (ad 0)), (1, .int 0)] := lv_sub hl [1, 0] rfl
  exact L_2 21 t 0 _ _ _ hok hfr ⟨by decide, by decide⟩ (show bz (t.2.2.2 4) 0 from by first | exact bz_0 (by omega) | exact bz_up hi2_0 (by omega) (by decide) (by omega)) (show (20 : Int) - 0 < ((21 : Nat) : Int) from by omega) hP hD hS (lv_sub hl [0, 1] rfl)

theorem dX12_letterIn_0 : decode cX12_letterIn 0 = .ok (.iload_n 3, 1) := by decide +kernel
theorem dX12_letterIn_1 : decode cX12_letterIn 1 = .ok (.bipush 80, 2) := by decide +kernel
theorem dX12_letterIn_10 : decode cX12_letterIn 10 = .ok (.if_icmp .ge 19, 3) := by decide +kernel
theorem dX12_letterIn_13 : decode cX12_letterIn 13 = .ok (.ldc 165, 2) := by decide +kernel
theorem dX12_letterIn_15 : decode cX12_letterIn 15 = .ok (.aload_n 0, 1) := by decide +kernel
theorem dX12_letterIn_16 : decode cX12_letterIn 16 = .ok (.iload_n 1, 1) := by decide +kernel
theorem dX12_letterIn_17 : decode cX12_letterIn 17 = .ok (.iload_n 3, 1) := by decide +kernel
theorem dX12_letterIn_18 : decode cX12_letterIn 18 = .ok (.iadd, 1) := by decide +kernel
theorem dX12_letterIn_19 : decode cX12_letterIn 19 = .ok (.baload, 1) := by decide +kernel
theorem dX12_letterIn_20 : decode cX12_letterIn 20 = .ok (.invokestatic 183, 3) := by decide +kernel
theorem dX12_letterIn_23 : decode cX12_letterIn 23 = .ok (.invokevirtual 172, 3) := by decide +kernel
theorem dX12_letterIn_26 : decode cX12_letterIn 26 = .ok (.goto 5, 3) := by decide +kernel
theorem dX12_letterIn_29 : decode cX12_letterIn 29 = .ok (.bipush 32, 2) := by decide +kernel
theorem dX12_letterIn_3 : decode cX12_letterIn 3 = .ok (.if_icmp .ge 26, 3) := by decide +kernel
theorem dX12_letterIn_31 : decode cX12_letterIn 31 = .ok (.ireturn, 1) := by decide +kernel
theorem dX12_letterIn_6 : decode cX12_letterIn 6 = .ok (.iload_n 1, 1) := by decide +kernel
theorem dX12_letterIn_7 : decode cX12_letterIn 7 = .ok (.iload_n 3, 1) := by decide +kernel
theorem dX12_letterIn_8 : decode cX12_letterIn 8 = .ok (.iadd, 1) := by decide +kernel
theorem dX12_letterIn_9 : decode cX12_letterIn 9 = .ok (.iload_n 2, 1) := by decide +kernel
set_option maxHeartbeats 4000000 in
set_option maxRecDepth 100000 in
theorem T_X12_letterIn (l : Launch) (D : va_G) (K : Nat → ClassId) (Z Y : Nat → Nat) (ad : Nat → Nat) (t : tSt) (hok : okM t) (x1 : Int32) (hx1 : (0 : Int) ≤ x1.toInt ∧ x1.toInt ≤ 1280) (x2 : Int32) (hx2 : (0 : Int) ≤ x2.toInt ∧ x2.toInt ≤ 1280) (x3 : Int32) (hx3 : (0 : Int) ≤ x3.toInt ∧ x3.toInt ≤ 199) : tMet l yX12_letterIn cX12_letterIn 4 (some .int) (rmD 6 0 0) D K Z Y [.ref (ad 36), .int x1, .int x2, .int x3] (WM K ad t) (QI D K (fun (r : Int32) (u : Unit) => (0 : Int) ≤ r.toInt ∧ r.toInt ≤ 255 ∧ (r = gL (t.2.2.1 36) x1 x2 x3) ∧ (r.toInt = (gL (t.2.2.1 36) x1 x2 x3).toInt) ∧ (¬ r.toInt = 32 → x1.toInt + x3.toInt < x2.toInt) ∧ (80 ≤ x3.toInt → r.toInt = 32)) (fun (_ : Unit) => WM K ad t)) 0 0 := by
  refine t_met RX12 ⟨rfl, by decide +kernel⟩ (Nat.le_of_ble_eq_true rfl) ?_
  intro p e s m below meth c A ls C hE hZ hr hlocks hA hP hD hS hl
  have hl : lv_has ls 4 [(0, .ref (ad 36)), (1, .int x1), (2, .int x2), (3, .int x3)] := hl
  refine lv_iload_n C.1 C.2.1 dX12_letterIn_0 rfl (lv_at hl 3 rfl) ?_
  refine lv_bipush (v := 80) C.1 C.2.1 dX12_letterIn_1 (by decide) ?_
  refine lv_icmp_ge (tgt := 29) C.1 C.2.1 dX12_letterIn_3 (by decide) (fun c_1 => ?_) (fun c_1 => ?_)
  · replace c_1 : 80 ≤ x3.toInt := i_le c_1
    refine lv_bipush (v := 32) C.1 C.2.1 dX12_letterIn_29 (by decide) ?_
    exact g_iret C hr hlocks hP hD hS rfl () rfl ⟨by decide, by decide, (show 32 = gL (t.2.2.1 36) x1 x2 x3 from by subst_vars; exact (if_neg (by omega)).symm), (show (32 : Int32).toInt = (gL (t.2.2.1 36) x1 x2 x3).toInt from by subst_vars; exact (congrArg Int32.toInt (if_neg (by omega))).symm), (show ¬ 32 = 32 → x1.toInt + x3.toInt < x2.toInt from by omega), (show 80 ≤ x3.toInt → 32 = 32 from by omega)⟩ (Nat.le_of_ble_eq_true rfl) (Nat.le_of_ble_eq_true rfl) dX12_letterIn_31
  · replace c_1 : x3.toInt < 80 := i_nle c_1
    refine lv_iload_n C.1 C.2.1 dX12_letterIn_6 rfl (lv_at hl 1 rfl) ?_
    refine lv_iload_n C.1 C.2.1 dX12_letterIn_7 rfl (lv_at hl 3 rfl) ?_
    obtain ⟨v_2, e_3⟩ : ∃ z, z = (x1 : Int32) + (x3 : Int32) := ⟨_, rfl⟩
    have h_4 : v_2.toInt = x1.toInt + x3.toInt := by rw [e_3]; exact ti_iadd (by show (_ : Int) ≤ x1.toInt + x3.toInt; omega) (by show x1.toInt + x3.toInt < (_ : Int); omega)
    refine k_iadd (v := v_2) C e_3.symm dX12_letterIn_8 ?_
    refine lv_iload_n C.1 C.2.1 dX12_letterIn_9 rfl (lv_at hl 2 rfl) ?_
    refine lv_icmp_ge (tgt := 29) C.1 C.2.1 dX12_letterIn_10 (by decide) (fun c_5 => ?_) (fun c_5 => ?_)
    · replace c_5 : x2.toInt ≤ v_2.toInt := i_le c_5
      refine lv_bipush (v := 32) C.1 C.2.1 dX12_letterIn_29 (by decide) ?_
      exact g_iret C hr hlocks hP hD hS rfl () rfl ⟨by decide, by decide, (show 32 = gL (t.2.2.1 36) x1 x2 x3 from by subst_vars; exact (if_neg (by omega)).symm), (show (32 : Int32).toInt = (gL (t.2.2.1 36) x1 x2 x3).toInt from by subst_vars; exact (congrArg Int32.toInt (if_neg (by omega))).symm), (show ¬ 32 = 32 → x1.toInt + x3.toInt < x2.toInt from by omega), (show 80 ≤ x3.toInt → 32 = 32 from by omega)⟩ (Nat.le_of_ble_eq_true rfl) (Nat.le_of_ble_eq_true rfl) dX12_letterIn_31
    · replace c_5 : v_2.toInt < x2.toInt := i_nle c_5
      refine va_ldcS C.1 C.2.1 C.2.2.2.1 (hE.2 23 (by decide)) dX12_letterIn_13 ?_
      refine lv_aload_n C.1 C.2.1 dX12_letterIn_15 rfl (lv_at hl 0 rfl) ?_
      refine lv_iload_n C.1 C.2.1 dX12_letterIn_16 rfl (lv_at hl 1 rfl) ?_
      refine lv_iload_n C.1 C.2.1 dX12_letterIn_17 rfl (lv_at hl 3 rfl) ?_
      obtain ⟨v_6, e_7⟩ : ∃ z, z = (x1 : Int32) + (x3 : Int32) := ⟨_, rfl⟩
      have h_8 : v_6.toInt = x1.toInt + x3.toInt := by rw [e_7]; exact ti_iadd (by show (_ : Int) ≤ x1.toInt + x3.toInt; omega) (by show x1.toInt + x3.toInt < (_ : Int); omega)
      refine k_iadd (v := v_6) C e_7.symm dX12_letterIn_18 ?_
      obtain ⟨v_9, e_10⟩ : ∃ z, z = (t.2.2.1 36 (v_6 : Int32).toNatClampNeg) := ⟨_, rfl⟩
      have h_11 : (-3999 : Int) ≤ v_9.toInt ∧ v_9.toInt ≤ 127 := by rw [e_10]; exact hok.2.1 36 _
      refine k_bld (v := v_9) C hP 36 rfl (vp_in_iff.mpr ⟨by omega, by omega⟩) e_10.symm dX12_letterIn_19 ?_
      refine g_Si (As := [.int v_9]) (rest := [.ref (Z 23)]) C hP hD hS hA (T_X12_byteOf l D K Z Y ad t hok (v_9) (show (-3999 : Int) ≤ (v_9 : Int32).toInt ∧ (v_9 : Int32).toInt ≤ 255 from ⟨by omega, by omega⟩)) hE hZ (uwS m_31_15 m_31_16 m_1_5 m_31_17) (hdS 1 (by decide +kernel) rfl) ⟨Nat.le_of_ble_eq_true rfl, Nat.le_of_ble_eq_true rfl⟩ rfl rfl rfl hl.1 (Nat.le_of_ble_eq_true rfl) dX12_letterIn_20 ⟨Nat.le_of_ble_eq_true rfl, Nat.le_of_ble_eq_true rfl⟩ (fun r_13 t_12 H locs hw hP hD hS => ?_)
      obtain ⟨h_15, h_16, p_17⟩ := hw
      replace p_17 : r_13 = bO v_9 := p_17
      refine g_Ti (As := [.int r_13]) (rest := []) C hP hD hS hA (TJ_charAt l D K Z Y (WM K ad t) 23 (by decide) r_13 (show 0 ≤ r_13.toInt ∧ r_13.toInt < sL 23 from by have hsl : sL 23 = 56 := rfl; omega)) hE hZ (uwV m_31_19 m_17_21 m_17_22 m_14_8 m_17_23) (hdV 1 (by decide +kernel) rfl) ⟨Nat.le_of_ble_eq_true rfl, Nat.le_of_ble_eq_true rfl⟩ rfl rfl (i0 := 23) (by decide) rfl rfl hl.1 (Nat.le_of_ble_eq_true rfl) dX12_letterIn_23 ⟨Nat.le_of_ble_eq_true rfl, Nat.le_of_ble_eq_true rfl⟩ (fun r_18 u_r_18 H locs hw hP hD hS => ?_)
      have er_18 : r_18 = (sByt 23).getD (r_13 : Int32).toNatClampNeg 0 := hw
      have h_19 : (32 : Int) ≤ r_18.toInt ∧ r_18.toInt ≤ 126 := by rw [er_18]; exact sByt_r 23 (by decide) (by omega) (by have hsl : sL 23 = 56 := rfl; omega)
      refine lv_goto (tgt := 31) C.1 C.2.1 dX12_letterIn_26 (by decide) ?_
      exact g_iret C hr hlocks hP hD hS rfl () rfl ⟨by omega, by omega, (show r_18 = gL (t.2.2.1 36) x1 x2 x3 from by subst_vars; exact (if_pos (by omega)).symm), (show (r_18 : Int32).toInt = (gL (t.2.2.1 36) x1 x2 x3).toInt from by subst_vars; exact (congrArg Int32.toInt (if_pos (by omega))).symm), (show ¬ r_18.toInt = 32 → x1.toInt + x3.toInt < x2.toInt from by omega), (show 80 ≤ x3.toInt → r_18.toInt = 32 from by omega)⟩ (Nat.le_of_ble_eq_true rfl) (Nat.le_of_ble_eq_true rfl) dX12_letterIn_31


set_option maxHeartbeats 4000000 in
set_option maxRecDepth 100000 in
theorem T_X12_letterIn_1 (l : Launch) (D : va_G) (K : Nat → ClassId) (Z Y : Nat → Nat) (ad : Nat → Nat) (t : tSt) (hok : okM t) (x1 : Int32) (hx1 : (0 : Int) ≤ x1.toInt ∧ x1.toInt ≤ 33300) (x2 : Int32) (hx2 : (0 : Int) ≤ x2.toInt ∧ x2.toInt ≤ 33300) (x3 : Int32) (hx3 : (0 : Int) ≤ x3.toInt ∧ x3.toInt ≤ 79) : tMet l yX12_letterIn cX12_letterIn 4 (some .int) (rmD 6 0 0) D K Z Y [.ref (ad 15), .int x1, .int x2, .int x3] (WM K ad t) (QI D K (fun (r : Int32) (u : Unit) => (0 : Int) ≤ r.toInt ∧ r.toInt ≤ 255 ∧ (r = gL (t.2.2.1 15) x1 x2 x3) ∧ (r.toInt = (gL (t.2.2.1 15) x1 x2 x3).toInt) ∧ (¬ r.toInt = 32 → x1.toInt + x3.toInt < x2.toInt) ∧ (80 ≤ x3.toInt → r.toInt = 32)) (fun (_ : Unit) => WM K ad t)) 0 0 := by
  refine t_met RX12 ⟨rfl, by decide +kernel⟩ (Nat.le_of_ble_eq_true rfl) ?_
  intro p e s m below meth c A ls C hE hZ hr hlocks hA hP hD hS hl
  have hl : lv_has ls 4 [(0, .ref (ad 15)), (1, .int x1), (2, .int x2), (3, .int x3)] := hl
  refine lv_iload_n C.1 C.2.1 dX12_letterIn_0 rfl (lv_at hl 3 rfl) ?_
  refine lv_bipush (v := 80) C.1 C.2.1 dX12_letterIn_1 (by decide) ?_
  refine lv_icmp_ge (tgt := 29) C.1 C.2.1 dX12_letterIn_3 (by decide) (fun c_1 => False.elim (by have c_1 : 80 ≤ x3.toInt := i_le c_1; omega)) (fun c_1 => ?_)
  replace c_1 : x3.toInt < 80 := i_nle c_1
  refine lv_iload_n C.1 C.2.1 dX12_letterIn_6 rfl (lv_at hl 1 rfl) ?_
  refine lv_iload_n C.1 C.2.1 dX12_letterIn_7 rfl (lv_at hl 3 rfl) ?_
  obtain ⟨v_2, e_3⟩ : ∃ z, z = (x1 : Int32) + (x3 : Int32) := ⟨_, rfl⟩
  have h_4 : v_2.toInt = x1.toInt + x3.toInt := by rw [e_3]; exact ti_iadd (by show (_ : Int) ≤ x1.toInt + x3.toInt; omega) (by show x1.toInt + x3.toInt < (_ : Int); omega)
  refine k_iadd (v := v_2) C e_3.symm dX12_letterIn_8 ?_
  refine lv_iload_n C.1 C.2.1 dX12_letterIn_9 rfl (lv_at hl 2 rfl) ?_
  refine lv_icmp_ge (tgt := 29) C.1 C.2.1 dX12_letterIn_10 (by decide) (fun c_5 => ?_) (fun c_5 => ?_)
  · replace c_5 : x2.toInt ≤ v_2.toInt := i_le c_5
    refine lv_bipush (v := 32) C.1 C.2.1 dX12_letterIn_29 (by decide) ?_
    exact g_iret C hr hlocks hP hD hS rfl () rfl ⟨by decide, by decide, (show 32 = gL (t.2.2.1 15) x1 x2 x3 from by subst_vars; exact (if_neg (by omega)).symm), (show (32 : Int32).toInt = (gL (t.2.2.1 15) x1 x2 x3).toInt from by subst_vars; exact (congrArg Int32.toInt (if_neg (by omega))).symm), (show ¬ 32 = 32 → x1.toInt + x3.toInt < x2.toInt from by omega), (show 80 ≤ x3.toInt → 32 = 32 from by omega)⟩ (Nat.le_of_ble_eq_true rfl) (Nat.le_of_ble_eq_true rfl) dX12_letterIn_31
  · replace c_5 : v_2.toInt < x2.toInt := i_nle c_5
    refine va_ldcS C.1 C.2.1 C.2.2.2.1 (hE.2 23 (by decide)) dX12_letterIn_13 ?_
    refine lv_aload_n C.1 C.2.1 dX12_letterIn_15 rfl (lv_at hl 0 rfl) ?_
    refine lv_iload_n C.1 C.2.1 dX12_letterIn_16 rfl (lv_at hl 1 rfl) ?_
    refine lv_iload_n C.1 C.2.1 dX12_letterIn_17 rfl (lv_at hl 3 rfl) ?_
    obtain ⟨v_6, e_7⟩ : ∃ z, z = (x1 : Int32) + (x3 : Int32) := ⟨_, rfl⟩
    have h_8 : v_6.toInt = x1.toInt + x3.toInt := by rw [e_7]; exact ti_iadd (by show (_ : Int) ≤ x1.toInt + x3.toInt; omega) (by show x1.toInt + x3.toInt < (_ : Int); omega)
    refine k_iadd (v := v_6) C e_7.symm dX12_letterIn_18 ?_
    obtain ⟨v_9, e_10⟩ : ∃ z, z = (t.2.2.1 15 (v_6 : Int32).toNatClampNeg) := ⟨_, rfl⟩
    have h_11 : (-3999 : Int) ≤ v_9.toInt ∧ v_9.toInt ≤ 127 := by rw [e_10]; exact hok.2.1 15 _
    refine k_bld (v := v_9) C hP 15 rfl (vp_in_iff.mpr ⟨by omega, by omega⟩) e_10.symm dX12_letterIn_19 ?_
    refine g_Si (As := [.int v_9]) (rest := [.ref (Z 23)]) C hP hD hS hA (T_X12_byteOf l D K Z Y ad t hok (v_9) (show (-3999 : Int) ≤ (v_9 : Int32).toInt ∧ (v_9 : Int32).toInt ≤ 255 from ⟨by omega, by omega⟩)) hE hZ (uwS m_31_15 m_31_16 m_1_5 m_31_17) (hdS 1 (by decide +kernel) rfl) ⟨Nat.le_of_ble_eq_true rfl, Nat.le_of_ble_eq_true rfl⟩ rfl rfl rfl hl.1 (Nat.le_of_ble_eq_true rfl) dX12_letterIn_20 ⟨Nat.le_of_ble_eq_true rfl, Nat.le_of_ble_eq_true rfl⟩ (fun r_13 t_12 H locs hw hP hD hS => ?_)
    obtain ⟨h_15, h_16, p_17⟩ := hw
    replace p_17 : r_13 = bO v_9 := p_17
    refine g_Ti (As := [.int r_13]) (rest := []) C hP hD hS hA (TJ_charAt l D K Z Y (WM K ad t) 23 (by decide) r_13 (show 0 ≤ r_13.toInt ∧ r_13.toInt < sL 23 from by have hsl : sL 23 = 56 := rfl; omega)) hE hZ (uwV m_31_19 m_17_21 m_17_22 m_14_8 m_17_23) (hdV 1 (by decide +kernel) rfl) ⟨Nat.le_of_ble_eq_true rfl, Nat.le_of_ble_eq_true rfl⟩ rfl rfl (i0 := 23) (by decide) rfl rfl hl.1 (Nat.le_of_ble_eq_true rfl) dX12_letterIn_23 ⟨Nat.le_of_ble_eq_true rfl, Nat.le_of_ble_eq_true rfl⟩ (fun r_18 u_r_18 H locs hw hP hD hS => ?_)
    have er_18 : r_18 = (sByt 23).getD (r_13 : Int32).toNatClampNeg 0 := hw
    have h_19 : (32 : Int) ≤ r_18.toInt ∧ r_18.toInt ≤ 126 := by rw [er_18]; exact sByt_r 23 (by decide) (by omega) (by have hsl : sL 23 = 56 := rfl; omega)
    refine lv_goto (tgt := 31) C.1 C.2.1 dX12_letterIn_26 (by decide) ?_
    exact g_iret C hr hlocks hP hD hS rfl () rfl ⟨by omega, by omega, (show r_18 = gL (t.2.2.1 15) x1 x2 x3 from by subst_vars; exact (if_pos (by omega)).symm), (show (r_18 : Int32).toInt = (gL (t.2.2.1 15) x1 x2 x3).toInt from by subst_vars; exact (congrArg Int32.toInt (if_pos (by omega))).symm), (show ¬ r_18.toInt = 32 → x1.toInt + x3.toInt < x2.toInt from by omega), (show 80 ≤ x3.toInt → r_18.toInt = 32 from by omega)⟩ (Nat.le_of_ble_eq_true rfl) (Nat.le_of_ble_eq_true rfl) dX12_letterIn_31

theorem dX12_optionOf_0 : decode cX12_optionOf 0 = .ok (.iload_n 0, 1) := by decide +kernel
theorem dX12_optionOf_1 : decode cX12_optionOf 1 = .ok (.tableswitch 47 0 3 #[31, 35, 39, 43], 31) := by decide +kernel
theorem dX12_optionOf_32 : decode cX12_optionOf 32 = .ok (.ldc_w 754, 3) := by decide +kernel
theorem dX12_optionOf_35 : decode cX12_optionOf 35 = .ok (.areturn, 1) := by decide +kernel
theorem dX12_optionOf_36 : decode cX12_optionOf 36 = .ok (.ldc_w 756, 3) := by decide +kernel
theorem dX12_optionOf_39 : decode cX12_optionOf 39 = .ok (.areturn, 1) := by decide +kernel
theorem dX12_optionOf_40 : decode cX12_optionOf 40 = .ok (.ldc_w 758, 3) := by decide +kernel
theorem dX12_optionOf_43 : decode cX12_optionOf 43 = .ok (.areturn, 1) := by decide +kernel
theorem dX12_optionOf_44 : decode cX12_optionOf 44 = .ok (.ldc_w 760, 3) := by decide +kernel
theorem dX12_optionOf_47 : decode cX12_optionOf 47 = .ok (.areturn, 1) := by decide +kernel
theorem dX12_optionOf_48 : decode cX12_optionOf 48 = .ok (.ldc_w 762, 3) := by decide +kernel
theorem dX12_optionOf_51 : decode cX12_optionOf 51 = .ok (.areturn, 1) := by decide +kernel
set_option maxHeartbeats 4000000 in
set_option maxRecDepth 100000 in
theorem T_X12_optionOf (l : Launch) (D : va_G) (K : Nat → ClassId) (Z Y : Nat → Nat) (ad : Nat → Nat) (t : tSt) (hok : okM t) (x0 : Int32) (hx0 : (0 : Int) ≤ x0.toInt ∧ x0.toInt ≤ 4) : tMet l yX12_optionOf cX12_optionOf 1 (some (.object "java/lang/String")) (rmD 0 0 0) D K Z Y [.int x0] (WM K ad t) (QR D K (fun (u : Nat) => sS u) (fun u => Z u) (fun (_ : Nat) => WM K ad t)) 0 0 := by
  refine t_met RX12 ⟨rfl, by decide +kernel⟩ (Nat.le_of_ble_eq_true rfl) ?_
  intro p e s m below meth c A ls C hE hZ hr hlocks hA hP hD hS hl
  have hl : lv_has ls 1 [(0, .int x0)] := hl
  refine lv_iload_n C.1 C.2.1 dX12_optionOf_0 rfl (lv_at hl 0 rfl) ?_
  by_cases c_1 : x0 = 0
  · refine lv_tableIn (tgt := 32) (off := 31) C.1 C.2.1 dX12_optionOf_1 (by rw [c_1]; decide) (by rw [c_1]; decide) (by rw [c_1]; decide) (by decide) ?_
    replace c_1 : x0.toInt = 0 := i_eq c_1
    refine va_ldcwS C.1 C.2.1 C.2.2.2.1 (hE.2 26 (by decide)) dX12_optionOf_32 ?_
    exact g_rret C hr hlocks hP hD hS (Or.inl ⟨_, rfl⟩) 26 rfl rfl (show sS 26 from ⟨by decide, by decide, by decide⟩) (Nat.le_of_ble_eq_true rfl) (Nat.le_of_ble_eq_true rfl) dX12_optionOf_35
  replace c_1 : ¬ x0.toInt = 0 := i_ne c_1
  by_cases c_2 : x0 = 1
  · refine lv_tableIn (tgt := 36) (off := 35) C.1 C.2.1 dX12_optionOf_1 (by rw [c_2]; decide) (by rw [c_2]; decide) (by rw [c_2]; decide) (by decide) ?_
    replace c_2 : x0.toInt = 1 := i_eq c_2
    refine va_ldcwS C.1 C.2.1 C.2.2.2.1 (hE.2 27 (by decide)) dX12_optionOf_36 ?_
    exact g_rret C hr hlocks hP hD hS (Or.inl ⟨_, rfl⟩) 27 rfl rfl (show sS 27 from ⟨by decide, by decide, by decide⟩) (Nat.le_of_ble_eq_true rfl) (Nat.le_of_ble_eq_true rfl) dX12_optionOf_39
  replace c_2 : ¬ x0.toInt = 1 := i_ne c_2
  by_cases c_3 : x0 = 2
  · refine lv_tableIn (tgt := 40) (off := 39) C.1 C.2.1 dX12_optionOf_1 (by rw [c_3]; decide) (by rw [c_3]; decide) (by rw [c_3]; decide) (by decide) ?_
    replace c_3 : x0.toInt = 2 := i_eq c_3
    refine va_ldcwS C.1 C.2.1 C.2.2.2.1 (hE.2 28 (by decide)) dX12_optionOf_40 ?_
    exact g_rret C hr hlocks hP hD hS (Or.inl ⟨_, rfl⟩) 28 rfl rfl (show sS 28 from ⟨by decide, by decide, by decide⟩) (Nat.le_of_ble_eq_true rfl) (Nat.le_of_ble_eq_true rfl) dX12_optionOf_43
  replace c_3 : ¬ x0.toInt = 2 := i_ne c_3
  by_cases c_4 : x0 = 3
  · refine lv_tableIn (tgt := 44) (off := 43) C.1 C.2.1 dX12_optionOf_1 (by rw [c_4]; decide) (by rw [c_4]; decide) (by rw [c_4]; decide) (by decide) ?_
    replace c_4 : x0.toInt = 3 := i_eq c_4
    refine va_ldcwS C.1 C.2.1 C.2.2.2.1 (hE.2 29 (by decide)) dX12_optionOf_44 ?_
    exact g_rret C hr hlocks hP hD hS (Or.inl ⟨_, rfl⟩) 29 rfl rfl (show sS 29 from ⟨by decide, by decide, by decide⟩) (Nat.le_of_ble_eq_true rfl) (Nat.le_of_ble_eq_true rfl) dX12_optionOf_47
  replace c_4 : ¬ x0.toInt = 3 := i_ne c_4
  refine lv_tableOut (tgt := 48) C.1 C.2.1 dX12_optionOf_1 (by omega) (by decide) ?_
  refine va_ldcwS C.1 C.2.1 C.2.2.2.1 (hE.2 30 (by decide)) dX12_optionOf_48 ?_
  exact g_rret C hr hlocks hP hD hS (Or.inl ⟨_, rfl⟩) 30 rfl rfl (show sS 30 from ⟨by decide, by decide, by decide⟩) (Nat.le_of_ble_eq_true rfl) (Nat.le_of_ble_eq_true rfl) dX12_optionOf_51


set_option maxHeartbeats 4000000 in
set_option maxRecDepth 100000 in
theorem T_X12_lineEnd_1 (l : Launch) (D : va_G) (K : Nat → ClassId) (Z Y : Nat → Nat) (ad : Nat → Nat) (t : tSt) (hok : okM t) (x1 : Int32) (hx1 : (0 : Int) ≤ x1.toInt ∧ x1.toInt ≤ 1280) (x2 : Int32) (hx2 : (1 : Int) ≤ x2.toInt ∧ x2.toInt ≤ 1280) : tMet l yX12_lineEnd cX12_lineEnd 4 (some .int) (rmD 0 0 0) D K Z Y [.ref (ad 18), .int x1, .int x2] (WM K ad t) (QI D K (fun (r : Int32) (u : Unit) => (0 : Int) ≤ r.toInt ∧ r.toInt ≤ 1280 ∧ (x1.toInt ≤ r.toInt) ∧ (r.toInt ≤ x2.toInt ∨ r.toInt = x1.toInt) ∧ (leP (t.2.2.1 18) x1 x2 r)) (fun (_ : Unit) => WM K ad t)) 0 0 := by
  refine t_met RX12 ⟨rfl, by decide +kernel⟩ (Nat.le_of_ble_eq_true rfl) ?_
  intro p e s m below meth c A ls C hE hZ hr hlocks hA hP hD hS hl
  have hl : lv_has ls 4 [(0, .ref (ad 18)), (1, .int x1), (2, .int x2)] := hl
  have L_2 : ∀ (fuel_2 : Nat) (w2_3 : Int32) (H : Heap) (locs : List Loc) (ls : Array Slot), (0 : Int) ≤ w2_3.toInt ∧ w2_3.toInt ≤ 1280 → (x1.toInt ≤ w2_3.toInt) → (w2_3.toInt ≤ x2.toInt ∨ w2_3.toInt = x1.toInt) → (∀ j : Int32, x1.toInt ≤ j.toInt → j.toInt < w2_3.toInt → j.toInt < x2.toInt ∧ ¬ ((t.2.2.1 18) j.toNatClampNeg).toInt = 10) → (1280 : Int) - w2_3.toInt < (fuel_2 : Int) → va_P D vwCl (WM K ad t) H → va_D A (WM K ad t) → va_S A s.heap H locs → lv_has ls 4 [(0, .ref (ad 18)), (1, .int x1), (2, .int x2), (3, .int w2_3)] → W p l e (rmD 0 0 0) s m [.ref (ad 18), .int x1, .int x2].toArray below meth c H locs 0 0 (MQ below (QI D K (fun (r : Int32) (u : Unit) => (0 : Int) ≤ r.toInt ∧ r.toInt ≤ 1280 ∧ (x1.toInt ≤ r.toInt) ∧ (r.toInt ≤ x2.toInt ∨ r.toInt = x1.toInt) ∧ (leP (t.2.2.1 18) x1 x2 r)) (fun (_ : Unit) => WM K ad t) A) [.ref (ad 18), .int x1, .int x2].toArray s 0 0 A) (F0 m 2 ls []) := by
    intro fuel_2
    induction fuel_2 with
    | zero =>
      intro w2_3 H locs ls hw2_3 hi2_0 hi2_1 hi2_2 hm2_2 hP hD hS hl
      exact absurd hm2_2 (by omega)
    | succ fuel_2 ih_2 =>
      intro w2_3 H locs ls hw2_3 hi2_0 hi2_1 hi2_2 hm2_2 hP hD hS hl
      have hm2_2 : (1280 : Int) - w2_3.toInt < (fuel_2 : Int) + 1 := by omega
      refine lv_iload_n C.1 C.2.1 dX12_lineEnd_2 rfl (lv_at hl 3 rfl) ?_
      refine lv_iload_n C.1 C.2.1 dX12_lineEnd_3 rfl (lv_at hl 2 rfl) ?_
      refine lv_icmp_ge (tgt := 21) C.1 C.2.1 dX12_lineEnd_4 (by decide) (fun c_1 => ?_) (fun c_1 => ?_)
      · replace c_1 : x2.toInt ≤ w2_3.toInt := i_le c_1
        refine lv_iload_n C.1 C.2.1 dX12_lineEnd_21 rfl (lv_at hl 3 rfl) ?_
        exact g_iret C hr hlocks hP hD hS rfl () rfl ⟨by omega, by omega, (show x1.toInt ≤ w2_3.toInt from by omega), (show w2_3.toInt ≤ x2.toInt ∨ w2_3.toInt = x1.toInt from by omega), (show leP (t.2.2.1 18) x1 x2 w2_3 from by refine ⟨by omega, hi2_2, ?_⟩; first | exact Or.inl (by omega) | (subst_vars; exact Or.inr (by omega)))⟩ (Nat.le_of_ble_eq_true rfl) (Nat.le_of_ble_eq_true rfl) dX12_lineEnd_22
      · replace c_1 : w2_3.toInt < x2.toInt := i_nle c_1
        refine lv_aload_n C.1 C.2.1 dX12_lineEnd_7 rfl (lv_at hl 0 rfl) ?_
        refine lv_iload_n C.1 C.2.1 dX12_lineEnd_8 rfl (lv_at hl 3 rfl) ?_
        obtain ⟨v_2, e_3⟩ : ∃ z, z = (t.2.2.1 18 (w2_3 : Int32).toNatClampNeg) := ⟨_, rfl⟩
        have h_4 : (-3999 : Int) ≤ v_2.toInt ∧ v_2.toInt ≤ 127 := by rw [e_3]; exact hok.2.1 18 _
        refine k_bld (v := v_2) C hP 18 rfl (vp_in_iff.mpr ⟨by omega, by omega⟩) e_3.symm dX12_lineEnd_9 ?_
        refine lv_bipush (v := 10) C.1 C.2.1 dX12_lineEnd_10 (by decide) ?_
        refine lv_icmp_eq (tgt := 21) C.1 C.2.1 dX12_lineEnd_12 (by decide) (fun c_5 => ?_) (fun c_5 => ?_)
        · replace c_5 : v_2.toInt = 10 := i_eq c_5
          refine lv_iload_n C.1 C.2.1 dX12_lineEnd_21 rfl (lv_at hl 3 rfl) ?_
          exact g_iret C hr hlocks hP hD hS rfl () rfl ⟨by omega, by omega, (show x1.toInt ≤ w2_3.toInt from by omega), (show w2_3.toInt ≤ x2.toInt ∨ w2_3.toInt = x1.toInt from by omega), (show leP (t.2.2.1 18) x1 x2 w2_3 from by refine ⟨by omega, hi2_2, ?_⟩; first | exact Or.inl (by omega) | (subst_vars; exact Or.inr (by omega)))⟩ (Nat.le_of_ble_eq_true rfl) (Nat.le_of_ble_eq_true rfl) dX12_lineEnd_22
        · replace c_5 : ¬ v_2.toInt = 10 := i_ne c_5
          obtain ⟨v_6, e_7⟩ : ∃ z, z = w2_3 + 1 := ⟨_, rfl⟩
          have h_8 : v_6.toInt = w2_3.toInt + 1 := by rw [e_7]; exact ti_iadd (by show (_ : Int) ≤ w2_3.toInt + 1; omega) (by show w2_3.toInt + 1 < (_ : Int); omega)
          refine lv_iinc (v := v_6) (lv' := [(3, .int v_6), (0, .ref (ad 18)), (1, .int x1), (2, .int x2)]) C.1 C.2.1 dX12_lineEnd_15 hl (k := 3) rfl e_7.symm (by decide) rfl (fun ls hl => ?_)
          have hl : lv_has ls 4 [(0, .ref (ad 18)), (1, .int x1), (2, .int x2), (3, .int v_6)] := lv_sub hl [1, 2, 3, 0] rfl
          refine lv_goto (tgt := 2) C.1 C.2.1 dX12_lineEnd_18 (by decide) ?_
          exact ih_2 v_6 _ _ _ ⟨by omega, by omega⟩ (show x1.toInt ≤ v_6.toInt from by omega) (show v_6.toInt ≤ x2.toInt ∨ v_6.toInt = x1.toInt from by omega) (show ∀ j : Int32, x1.toInt ≤ j.toInt → j.toInt < v_6.toInt → j.toInt < x2.toInt ∧ ¬ ((t.2.2.1 18) j.toNatClampNeg).toInt = 10 from by intro j h1 h2; first | (exfalso; omega) | (rcases Int.lt_or_eq_of_le (show j.toInt ≤ w2_3.toInt from by omega) with h | h; exact hi2_2 j h1 h; have hcc : j = w2_3 := Int32.toInt_inj.mp h; subst hcc; subst_vars; exact ⟨by omega, by omega⟩)) (show (1280 : Int) - v_6.toInt < (fuel_2 : Int) from by omega) hP hD hS (lv_sub hl [0, 1, 2, 3] rfl)
  refine lv_iload_n C.1 C.2.1 dX12_lineEnd_0 rfl (lv_at hl 1 rfl) ?_
  refine lv_istore_n (lv' := [(3, .int x1), (0, .ref (ad 18)), (1, .int x1), (2, .int x2)]) C.1 C.2.1 dX12_lineEnd_1 rfl hl (by decide) rfl (fun ls hl => ?_)
  have hl : lv_has ls 4 [(0, .ref (ad 18)), (1, .int x1), (2, .int x2), (3, .int x1)] := lv_sub hl [1, 2, 3, 0] rfl
  exact L_2 1281 x1 _ _ _ ⟨by omega, by omega⟩ (show x1.toInt ≤ x1.toInt from by omega) (show x1.toInt ≤ x2.toInt ∨ x1.toInt = x1.toInt from by omega) (show ∀ j : Int32, x1.toInt ≤ j.toInt → j.toInt < x1.toInt → j.toInt < x2.toInt ∧ ¬ ((t.2.2.1 18) j.toNatClampNeg).toInt = 10 from by intro j h1 h2; first | (exfalso; omega) | (rcases Int.lt_or_eq_of_le (show j.toInt ≤ w2_3.toInt from by omega) with h | h; exact hi2_2 j h1 h; have hcc : j = w2_3 := Int32.toInt_inj.mp h; subst hcc; subst_vars; exact ⟨by omega, by omega⟩)) (show (1280 : Int) - x1.toInt < ((1281 : Nat) : Int) from by omega) hP hD hS (lv_sub hl [0, 1, 2, 3] rfl)

theorem dX12_setMemory_0 : decode cX12_setMemory 0 = .ok (.aload_n 0, 1) := by decide +kernel
theorem dX12_setMemory_1 : decode cX12_setMemory 1 = .ok (.getfield 13, 3) := by decide +kernel
theorem dX12_setMemory_10 : decode cX12_setMemory 10 = .ok (.iastore, 1) := by decide +kernel
theorem dX12_setMemory_11 : decode cX12_setMemory 11 = .ok (.return_, 1) := by decide +kernel
theorem dX12_setMemory_4 : decode cX12_setMemory 4 = .ok (.iload_n 1, 1) := by decide +kernel
theorem dX12_setMemory_5 : decode cX12_setMemory 5 = .ok (.sipush (-3999), 3) := by decide +kernel
theorem dX12_setMemory_8 : decode cX12_setMemory 8 = .ok (.isub, 1) := by decide +kernel
theorem dX12_setMemory_9 : decode cX12_setMemory 9 = .ok (.iload_n 2, 1) := by decide +kernel
set_option maxHeartbeats 4000000 in
set_option maxRecDepth 100000 in
theorem T_X12_setMemory (l : Launch) (D : va_G) (K : Nat → ClassId) (Z Y : Nat → Nat) (ad : Nat → Nat) (t : tSt) (hok : okM t) (x1 : Int32) (hx1 : (-3999 : Int) ≤ x1.toInt ∧ x1.toInt ≤ 3999) (x2 : Int32) : tMet l yX12_setMemory cX12_setMemory 3 none (rmD 0 0 0) D K Z Y [.ref (ad 0), .int x1, .int x2] (WM K ad t) (QV D K (fun (u : tSt) => okM u ∧ frA [] [] [2] [] t u) (fun (u : tSt) => WM K ad u)) 0 0 := by
  refine t_met RX12 ⟨rfl, by decide +kernel⟩ (Nat.le_of_ble_eq_true rfl) ?_
  intro p e s m below meth c A ls C hE hZ hr hlocks hA hP hD hS hl
  have hl : lv_has ls 3 [(0, .ref (ad 0)), (1, .int x1), (2, .int x2)] := hl
  have hokt := hok
  have hfr : frA [] [] [2] [] t t := frA_rf
  refine lv_aload_n C.1 C.2.1 dX12_setMemory_0 rfl (lv_at hl 0 rfl) ?_
  refine k_get (v := .ref (ad 2)) C hP 0 rfl rfl inlX12 3 (by decide) m_7_5 rfl dX12_setMemory_1 ?_
  refine lv_iload_n C.1 C.2.1 dX12_setMemory_4 rfl (lv_at hl 1 rfl) ?_
  refine lv_sipush (v := (-3999)) C.1 C.2.1 dX12_setMemory_5 (by decide) ?_
  obtain ⟨v_1, e_2⟩ : ∃ z, z = (x1 : Int32) - ((-3999) : Int32) := ⟨_, rfl⟩
  have h_3 : v_1.toInt = x1.toInt - (-3999) := by rw [e_2]; exact ti_isub (by show (_ : Int) ≤ x1.toInt - (-3999); omega) (by show x1.toInt - (-3999) < (_ : Int); omega)
  refine k_isub (v := v_1) C e_2.symm dX12_setMemory_8 ?_
  refine lv_iload_n C.1 C.2.1 dX12_setMemory_9 rfl (lv_at hl 2 rfl) ?_
  refine k_ist (ws' := WM K ad (uB t 2 (v_1 : Int32).toNatClampNeg x2)) (x' := x2) C hP hD hS 2 rfl (vp_in_iff.mpr ⟨by omega, by omega⟩) rfl rfl rfl dX12_setMemory_10 (fun H locs hP hD hS => ?_)
  have hok : okM (uB t 2 (v_1 : Int32).toNatClampNeg x2) := ⟨hok.1, okB_B hok.2.1 2 _ x2 (show (-2147483648 : Int) ≤ (x2 : Int32).toInt ∧ (x2 : Int32).toInt ≤ 2147483647 from (i_rng _)), hok.2.2.1, hok.2.2.2.1, hok.2.2.2.2.1, hok.2.2.2.2.2.1, hok.2.2.2.2.2.2.1, trivial⟩
  have hfr : frA [] [] [2] [] t (uB t 2 (v_1 : Int32).toNatClampNeg x2) := frA_B hfr 2 _ _ rfl
  exact g_vret C hr hlocks hP hD hS (uB t 2 (v_1 : Int32).toNatClampNeg x2) rfl ⟨hok, hfr⟩ (Nat.le_of_ble_eq_true rfl) (Nat.le_of_ble_eq_true rfl) dX12_setMemory_11

theorem dX12_fail_0 : decode cX12_fail 0 = .ok (.aload_n 0, 1) := by decide +kernel
theorem dX12_fail_1 : decode cX12_fail 1 = .ok (.getfield 469, 3) := by decide +kernel
theorem dX12_fail_12 : decode cX12_fail 12 = .ok (.return_, 1) := by decide +kernel
theorem dX12_fail_4 : decode cX12_fail 4 = .ok (.ifCond .ne 8, 3) := by decide +kernel
theorem dX12_fail_7 : decode cX12_fail 7 = .ok (.aload_n 0, 1) := by decide +kernel
theorem dX12_fail_8 : decode cX12_fail 8 = .ok (.iload_n 1, 1) := by decide +kernel
theorem dX12_fail_9 : decode cX12_fail 9 = .ok (.putfield 469, 3) := by decide +kernel
set_option maxHeartbeats 4000000 in
set_option maxRecDepth 100000 in
theorem T_X12_fail (l : Launch) (D : va_G) (K : Nat → ClassId) (Z Y : Nat → Nat) (ad : Nat → Nat) (t : tSt) (hok : okM t) (x1 : Int32) (hx1 : (1 : Int) ≤ x1.toInt ∧ x1.toInt ≤ 8) (hs0 : 1 ≤ x1.toInt) : tMet l yX12_fail cX12_fail 2 none (rmD 0 0 0) D K Z Y [.ref (ad 0), .int x1] (WM K ad t) (QV D K (fun (u : tSt) => okM u ∧ frA [(0, 70)] [] [] [] t u ∧ (1 ≤ (u.1 0 70).toInt)) (fun (u : tSt) => WM K ad u)) 0 0 := by
  refine t_met RX12 ⟨rfl, by decide +kernel⟩ (Nat.le_of_ble_eq_true rfl) ?_
  intro p e s m below meth c A ls C hE hZ hr hlocks hA hP hD hS hl
  have hl : lv_has ls 2 [(0, .ref (ad 0)), (1, .int x1)] := hl
  have hokt := hok
  have hfr : frA [(0, 70)] [] [] [] t t := frA_rf
  have h_1 : (0 : Int) ≤ (t.1 0 70).toInt ∧ (t.1 0 70).toInt ≤ 8 := hok.1 0 70
  refine lv_aload_n C.1 C.2.1 dX12_fail_0 rfl (lv_at hl 0 rfl) ?_
  refine k_get (v := .int (t.1 0 70)) C hP 0 rfl rfl inlX12 70 (by decide) m_29_13 rfl dX12_fail_1 ?_
  refine lv_if_ne (tgt := 12) C.1 C.2.1 dX12_fail_4 (by decide) (fun c_2 => ?_) (fun c_2 => ?_)
  · replace c_2 : ¬ (t.1 0 70).toInt = 0 := i_ne c_2
    exact g_vret C hr hlocks hP hD hS t rfl ⟨hok, hfr, (show 1 ≤ (t.1 0 70).toInt from by omega)⟩ (Nat.le_of_ble_eq_true rfl) (Nat.le_of_ble_eq_true rfl) dX12_fail_12
  · replace c_2 : (t.1 0 70).toInt = 0 := i_eq c_2
    refine lv_aload_n C.1 C.2.1 dX12_fail_7 rfl (lv_at hl 0 rfl) ?_
    refine lv_iload_n C.1 C.2.1 dX12_fail_8 rfl (lv_at hl 1 rfl) ?_
    refine k_put (ws' := WM K ad (uI t 0 70 x1)) (v := .int x1) C hP hD hS 0 rfl rfl inlX12 tyX12_ok nmX12 70 (by decide) m_29_13 rfl rfl rfl rfl rfl dX12_fail_9 (fun H locs hP hD hS => ?_)
    have hok : okM (uI t 0 70 x1) := ⟨okI_I hok.1 0 70 x1 (show (0 : Int) ≤ (x1 : Int32).toInt ∧ (x1 : Int32).toInt ≤ 8 from ⟨by omega, by omega⟩), hok.2.1, hok.2.2.1, hok.2.2.2.1, hok.2.2.2.2.1, hok.2.2.2.2.2.1, hok.2.2.2.2.2.2.1, trivial⟩
    have hfr : frA [(0, 70)] [] [] [] t (uI t 0 70 x1) := frA_I hfr 0 70 _ rfl
    exact g_vret C hr hlocks hP hD hS (uI t 0 70 x1) rfl ⟨hok, hfr, (show 1 ≤ x1.toInt from by omega)⟩ (Nat.le_of_ble_eq_true rfl) (Nat.le_of_ble_eq_true rfl) dX12_fail_12

theorem dX12_begin_0 : decode cX12_begin 0 = .ok (.aload_n 0, 1) := by decide +kernel
theorem dX12_begin_1 : decode cX12_begin 1 = .ok (.iconst 0, 1) := by decide +kernel
theorem dX12_begin_2 : decode cX12_begin 2 = .ok (.putfield 186, 3) := by decide +kernel
theorem dX12_begin_5 : decode cX12_begin 5 = .ok (.return_, 1) := by decide +kernel
set_option maxHeartbeats 4000000 in
set_option maxRecDepth 100000 in
theorem T_X12_begin (l : Launch) (D : va_G) (K : Nat → ClassId) (Z Y : Nat → Nat) (ad : Nat → Nat) (t : tSt) (hok : okM t)  : tMet l yX12_begin cX12_begin 1 none (rmD 0 0 0) D K Z Y [.ref (ad 0)] (WM K ad t) (QV D K (fun (u : tSt) => okM u ∧ frA [(0, 30)] [] [] [] t u ∧ ((u.1 0 30).toInt = 0)) (fun (u : tSt) => WM K ad u)) 0 0 := by
  refine t_met RX12 ⟨rfl, by decide +kernel⟩ (Nat.le_of_ble_eq_true rfl) ?_
  intro p e s m below meth c A ls C hE hZ hr hlocks hA hP hD hS hl
  have hl : lv_has ls 1 [(0, .ref (ad 0))] := hl
  have hokt := hok
  have hfr : frA [(0, 30)] [] [] [] t t := frA_rf
  have h_1 : (0 : Int) ≤ (t.1 0 30).toInt ∧ (t.1 0 30).toInt ≤ 120 := hok.1 0 30
  refine lv_aload_n C.1 C.2.1 dX12_begin_0 rfl (lv_at hl 0 rfl) ?_
  refine lv_iconst (v := 0) C.1 C.2.1 dX12_begin_1 (by decide) ?_
  refine k_put (ws' := WM K ad (uI t 0 30 0)) (v := .int 0) C hP hD hS 0 rfl rfl inlX12 tyX12_ok nmX12 30 (by decide) m_42_8 rfl rfl rfl rfl rfl dX12_begin_2 (fun H locs hP hD hS => ?_)
  have hok : okM (uI t 0 30 0) := ⟨okI_I hok.1 0 30 0 (show (0 : Int) ≤ (0 : Int32).toInt ∧ (0 : Int32).toInt ≤ 120 from ⟨by decide, by decide⟩), hok.2.1, hok.2.2.1, hok.2.2.2.1, hok.2.2.2.2.1, hok.2.2.2.2.2.1, hok.2.2.2.2.2.2.1, trivial⟩
  have hfr : frA [(0, 30)] [] [] [] t (uI t 0 30 0) := frA_I hfr 0 30 _ rfl
  exact g_vret C hr hlocks hP hD hS (uI t 0 30 0) rfl ⟨hok, hfr, (show 0 = 0 from by omega)⟩ (Nat.le_of_ble_eq_true rfl) (Nat.le_of_ble_eq_true rfl) dX12_begin_5

theorem dX12_startAt_0 : decode cX12_startAt 0 = .ok (.aload_n 0, 1) := by decide +kernel
theorem dX12_startAt_1 : decode cX12_startAt 1 = .ok (.iload_n 1, 1) := by decide +kernel
theorem dX12_startAt_10 : decode cX12_startAt 10 = .ok (.iconst 1, 1) := by decide +kernel
theorem dX12_startAt_11 : decode cX12_startAt 11 = .ok (.goto 4, 3) := by decide +kernel
theorem dX12_startAt_14 : decode cX12_startAt 14 = .ok (.iconst 0, 1) := by decide +kernel
theorem dX12_startAt_15 : decode cX12_startAt 15 = .ok (.putfield 238, 3) := by decide +kernel
theorem dX12_startAt_18 : decode cX12_startAt 18 = .ok (.aload_n 0, 1) := by decide +kernel
theorem dX12_startAt_19 : decode cX12_startAt 19 = .ok (.aload_n 0, 1) := by decide +kernel
theorem dX12_startAt_2 : decode cX12_startAt 2 = .ok (.putfield 378, 3) := by decide +kernel
theorem dX12_startAt_20 : decode cX12_startAt 20 = .ok (.getfield 238, 3) := by decide +kernel
theorem dX12_startAt_23 : decode cX12_startAt 23 = .ok (.putfield 241, 3) := by decide +kernel
theorem dX12_startAt_26 : decode cX12_startAt 26 = .ok (.aload_n 0, 1) := by decide +kernel
theorem dX12_startAt_27 : decode cX12_startAt 27 = .ok (.iconst 0, 1) := by decide +kernel
theorem dX12_startAt_28 : decode cX12_startAt 28 = .ok (.putfield 24, 3) := by decide +kernel
theorem dX12_startAt_31 : decode cX12_startAt 31 = .ok (.return_, 1) := by decide +kernel
theorem dX12_startAt_5 : decode cX12_startAt 5 = .ok (.aload_n 0, 1) := by decide +kernel
theorem dX12_startAt_6 : decode cX12_startAt 6 = .ok (.iload_n 1, 1) := by decide +kernel
theorem dX12_startAt_7 : decode cX12_startAt 7 = .ok (.ifCond .ge 7, 3) := by decide +kernel
set_option maxHeartbeats 4000000 in
set_option maxRecDepth 100000 in
theorem T_X12_startAt (l : Launch) (D : va_G) (K : Nat → ClassId) (Z Y : Nat → Nat) (ad : Nat → Nat) (t : tSt) (hok : okM t) (x1 : Int32) (hx1 : (-3999 : Int) ≤ x1.toInt ∧ x1.toInt ≤ 3999) : tMet l yX12_startAt cX12_startAt 2 none (rmD 0 0 0) D K Z Y [.ref (ad 0), .int x1] (WM K ad t) (QV D K (fun (u : tSt) => okM u ∧ frA [(0, 7), (0, 9), (0, 10), (0, 11)] [] [] [] t u) (fun (u : tSt) => WM K ad u)) 0 0 := by
  refine t_met RX12 ⟨rfl, by decide +kernel⟩ (Nat.le_of_ble_eq_true rfl) ?_
  intro p e s m below meth c A ls C hE hZ hr hlocks hA hP hD hS hl
  have hl : lv_has ls 2 [(0, .ref (ad 0)), (1, .int x1)] := hl
  have hokt := hok
  have hfr : frA [(0, 7), (0, 9), (0, 10), (0, 11)] [] [] [] t t := frA_rf
  have L_15 : ∀ (t1 : tSt) (k15_1 : Int32) (H : Heap) (locs : List Loc) (ls : Array Slot), okM t1 → frA [(0, 7), (0, 9), (0, 10), (0, 11)] [] [] [] t t1 → (0 : Int) ≤ k15_1.toInt ∧ k15_1.toInt ≤ 1 → (-3999 : Int) ≤ (t1.1 0 7).toInt ∧ (t1.1 0 7).toInt ≤ 3999 → va_P D vwCl (WM K ad t1) H → va_D A (WM K ad t1) → va_S A s.heap H locs → lv_has ls 2 [(0, .ref (ad 0)), (1, .int x1)] → W p l e (rmD 0 0 0) s m [.ref (ad 0), .int x1].toArray below meth c H locs 0 0 (MQ below (QV D K (fun (u : tSt) => okM u ∧ frA [(0, 7), (0, 9), (0, 10), (0, 11)] [] [] [] t u) (fun (u : tSt) => WM K ad u) A) [.ref (ad 0), .int x1].toArray s 0 0 A) (F0 m 15 ls [.int k15_1, .ref (ad 0)]) := by
    intro t1 k15_1 H locs ls hok hfr hk15_1 hf15_7 hP hD hS hl
    refine k_put (ws' := WM K ad (uI t1 0 11 k15_1)) (v := .int k15_1) C hP hD hS 0 rfl rfl inlX12 tyX12_ok nmX12 11 (by decide) m_30_1 rfl (nar01 (by omega) (by omega)) (fit01 (by omega) (by omega)) rfl rfl dX12_startAt_15 (fun H locs hP hD hS => ?_)
    have hok : okM (uI t1 0 11 k15_1) := ⟨okI_I hok.1 0 11 k15_1 (show (0 : Int) ≤ (k15_1 : Int32).toInt ∧ (k15_1 : Int32).toInt ≤ 1 from ⟨by omega, by omega⟩), hok.2.1, hok.2.2.1, hok.2.2.2.1, hok.2.2.2.2.1, hok.2.2.2.2.2.1, hok.2.2.2.2.2.2.1, trivial⟩
    have hfr : frA [(0, 7), (0, 9), (0, 10), (0, 11)] [] [] [] t (uI t1 0 11 k15_1) := frA_I hfr 0 11 _ rfl
    refine lv_aload_n C.1 C.2.1 dX12_startAt_18 rfl (lv_at hl 0 rfl) ?_
    refine lv_aload_n C.1 C.2.1 dX12_startAt_19 rfl (lv_at hl 0 rfl) ?_
    refine k_get (v := .int k15_1) C hP 0 rfl rfl inlX12 11 (by decide) m_30_1 rfl dX12_startAt_20 ?_
    refine k_put (ws' := WM K ad (uI (uI t1 0 11 k15_1) 0 10 k15_1)) (v := .int k15_1) C hP hD hS 0 rfl rfl inlX12 tyX12_ok nmX12 10 (by decide) m_30_0 rfl (nar01 (by omega) (by omega)) (fit01 (by omega) (by omega)) rfl rfl dX12_startAt_23 (fun H locs hP hD hS => ?_)
    have hok : okM (uI (uI t1 0 11 k15_1) 0 10 k15_1) := ⟨okI_I hok.1 0 10 k15_1 (show (0 : Int) ≤ (k15_1 : Int32).toInt ∧ (k15_1 : Int32).toInt ≤ 1 from ⟨by omega, by omega⟩), hok.2.1, hok.2.2.1, hok.2.2.2.1, hok.2.2.2.2.1, hok.2.2.2.2.2.1, hok.2.2.2.2.2.2.1, trivial⟩
    have hfr : frA [(0, 7), (0, 9), (0, 10), (0, 11)] [] [] [] t (uI (uI t1 0 11 k15_1) 0 10 k15_1) := frA_I hfr 0 10 _ rfl
    refine lv_aload_n C.1 C.2.1 dX12_startAt_26 rfl (lv_at hl 0 rfl) ?_
    refine lv_iconst (v := 0) C.1 C.2.1 dX12_startAt_27 (by decide) ?_
    refine k_put (ws' := WM K ad (uI (uI (uI t1 0 11 k15_1) 0 10 k15_1) 0 9 0)) (v := .int 0) C hP hD hS 0 rfl rfl inlX12 tyX12_ok nmX12 9 (by decide) m_7_8 rfl rfl rfl rfl rfl dX12_startAt_28 (fun H locs hP hD hS => ?_)
    have hok : okM (uI (uI (uI t1 0 11 k15_1) 0 10 k15_1) 0 9 0) := ⟨okI_I hok.1 0 9 0 (show (0 : Int) ≤ (0 : Int32).toInt ∧ (0 : Int32).toInt ≤ 10 from ⟨by decide, by decide⟩), hok.2.1, hok.2.2.1, hok.2.2.2.1, hok.2.2.2.2.1, hok.2.2.2.2.2.1, hok.2.2.2.2.2.2.1, trivial⟩
    have hfr : frA [(0, 7), (0, 9), (0, 10), (0, 11)] [] [] [] t (uI (uI (uI t1 0 11 k15_1) 0 10 k15_1) 0 9 0) := frA_I hfr 0 9 _ rfl
    exact g_vret C hr hlocks hP hD hS (uI (uI (uI t1 0 11 k15_1) 0 10 k15_1) 0 9 0) rfl ⟨hok, hfr⟩ (Nat.le_of_ble_eq_true rfl) (Nat.le_of_ble_eq_true rfl) dX12_startAt_31
  refine lv_aload_n C.1 C.2.1 dX12_startAt_0 rfl (lv_at hl 0 rfl) ?_
  refine lv_iload_n C.1 C.2.1 dX12_startAt_1 rfl (lv_at hl 1 rfl) ?_
  refine k_put (ws' := WM K ad (uI t 0 7 x1)) (v := .int x1) C hP hD hS 0 rfl rfl inlX12 tyX12_ok nmX12 7 (by decide) m_29_22 rfl rfl rfl rfl rfl dX12_startAt_2 (fun H locs hP hD hS => ?_)
  have hok : okM (uI t 0 7 x1) := ⟨okI_I hok.1 0 7 x1 (show (-2147483648 : Int) ≤ (x1 : Int32).toInt ∧ (x1 : Int32).toInt ≤ 2147483647 from (i_rng _)), hok.2.1, hok.2.2.1, hok.2.2.2.1, hok.2.2.2.2.1, hok.2.2.2.2.2.1, hok.2.2.2.2.2.2.1, trivial⟩
  have hfr : frA [(0, 7), (0, 9), (0, 10), (0, 11)] [] [] [] t (uI t 0 7 x1) := frA_I hfr 0 7 _ rfl
  refine lv_aload_n C.1 C.2.1 dX12_startAt_5 rfl (lv_at hl 0 rfl) ?_
  refine lv_iload_n C.1 C.2.1 dX12_startAt_6 rfl (lv_at hl 1 rfl) ?_
  refine lv_if_ge (tgt := 14) C.1 C.2.1 dX12_startAt_7 (by decide) (fun c_1 => ?_) (fun c_1 => ?_)
  · replace c_1 : 0 ≤ x1.toInt := i_le c_1
    refine lv_iconst (v := 0) C.1 C.2.1 dX12_startAt_14 (by decide) ?_
    exact L_15 (uI t 0 7 x1) 0 _ _ _ hok hfr ⟨by decide, by decide⟩ (show (-3999 : Int) ≤ (x1 : Int32).toInt ∧ (x1 : Int32).toInt ≤ 3999 from ⟨by omega, by omega⟩) hP hD hS (lv_sub hl [0, 1] rfl)
  · replace c_1 : x1.toInt < 0 := i_nle c_1
    refine lv_iconst (v := 1) C.1 C.2.1 dX12_startAt_10 (by decide) ?_
    refine lv_goto (tgt := 15) C.1 C.2.1 dX12_startAt_11 (by decide) ?_
    exact L_15 (uI t 0 7 x1) 1 _ _ _ hok hfr ⟨by decide, by decide⟩ (show (-3999 : Int) ≤ (x1 : Int32).toInt ∧ (x1 : Int32).toInt ≤ 3999 from ⟨by omega, by omega⟩) hP hD hS (lv_sub hl [0, 1] rfl)

theorem dX12_find_0 : decode cX12_find 0 = .ok (.iconst 0, 1) := by decide +kernel
theorem dX12_find_1 : decode cX12_find 1 = .ok (.istore_n 3, 1) := by decide +kernel
theorem dX12_find_10 : decode cX12_find 10 = .ok (.aload_n 0, 1) := by decide +kernel
theorem dX12_find_11 : decode cX12_find 11 = .ok (.getfield 89, 3) := by decide +kernel
theorem dX12_find_14 : decode cX12_find 14 = .ok (.iload_n 3, 1) := by decide +kernel
theorem dX12_find_15 : decode cX12_find 15 = .ok (.laload, 1) := by decide +kernel
theorem dX12_find_16 : decode cX12_find 16 = .ok (.lload_n 1, 1) := by decide +kernel
theorem dX12_find_17 : decode cX12_find 17 = .ok (.lcmp, 1) := by decide +kernel
theorem dX12_find_18 : decode cX12_find 18 = .ok (.ifCond .ne 5, 3) := by decide +kernel
theorem dX12_find_2 : decode cX12_find 2 = .ok (.iload_n 3, 1) := by decide +kernel
theorem dX12_find_21 : decode cX12_find 21 = .ok (.iload_n 3, 1) := by decide +kernel
theorem dX12_find_22 : decode cX12_find 22 = .ok (.ireturn, 1) := by decide +kernel
theorem dX12_find_23 : decode cX12_find 23 = .ok (.iinc 3 1, 3) := by decide +kernel
theorem dX12_find_26 : decode cX12_find 26 = .ok (.goto (-24), 3) := by decide +kernel
theorem dX12_find_29 : decode cX12_find 29 = .ok (.iconst (-1), 1) := by decide +kernel
theorem dX12_find_3 : decode cX12_find 3 = .ok (.aload_n 0, 1) := by decide +kernel
theorem dX12_find_30 : decode cX12_find 30 = .ok (.ireturn, 1) := by decide +kernel
theorem dX12_find_4 : decode cX12_find 4 = .ok (.getfield 463, 3) := by decide +kernel
theorem dX12_find_7 : decode cX12_find 7 = .ok (.if_icmp .ge 22, 3) := by decide +kernel
set_option maxHeartbeats 4000000 in
set_option maxRecDepth 100000 in
theorem T_X12_find (l : Launch) (D : va_G) (K : Nat → ClassId) (Z Y : Nat → Nat) (ad : Nat → Nat) (t : tSt) (hok : okM t) (x1 : Int64) : tMet l yX12_find cX12_find 4 (some .int) (rmD 0 0 0) D K Z Y [.ref (ad 0), .long x1] (WM K ad t) (QI D K (fun (r : Int32) (u : Unit) => (-1 : Int) ≤ r.toInt ∧ r.toInt ≤ 1199 ∧ (r.toInt < (t.1 0 52).toInt ∨ r.toInt = -1)) (fun (_ : Unit) => WM K ad t)) 0 0 := by
  refine t_met RX12 ⟨rfl, by decide +kernel⟩ (Nat.le_of_ble_eq_true rfl) ?_
  intro p e s m below meth c A ls C hE hZ hr hlocks hA hP hD hS hl
  have hl : lv_has ls 4 [(0, .ref (ad 0)), (1, .long x1)] := hl
  have h_1 : (0 : Int) ≤ (t.1 0 52).toInt ∧ (t.1 0 52).toInt ≤ 1200 := hok.1 0 52
  have L_2 : ∀ (fuel_2 : Nat) (w2_3 : Int32) (H : Heap) (locs : List Loc) (ls : Array Slot), (0 : Int) ≤ w2_3.toInt ∧ w2_3.toInt ≤ 1260 → (1260 : Int) - w2_3.toInt < (fuel_2 : Int) → va_P D vwCl (WM K ad t) H → va_D A (WM K ad t) → va_S A s.heap H locs → lv_has ls 4 [(0, .ref (ad 0)), (1, .long x1), (3, .int w2_3)] → W p l e (rmD 0 0 0) s m [.ref (ad 0), .long x1].toArray below meth c H locs 0 0 (MQ below (QI D K (fun (r : Int32) (u : Unit) => (-1 : Int) ≤ r.toInt ∧ r.toInt ≤ 1199 ∧ (r.toInt < (t.1 0 52).toInt ∨ r.toInt = -1)) (fun (_ : Unit) => WM K ad t) A) [.ref (ad 0), .long x1].toArray s 0 0 A) (F0 m 2 ls []) := by
    intro fuel_2
    induction fuel_2 with
    | zero =>
      intro w2_3 H locs ls hw2_3 hm2_2 hP hD hS hl
      have h_2 : (0 : Int) ≤ (t.1 0 52).toInt ∧ (t.1 0 52).toInt ≤ 1200 := hok.1 0 52
      exact absurd hm2_2 (by omega)
    | succ fuel_2 ih_2 =>
      intro w2_3 H locs ls hw2_3 hm2_2 hP hD hS hl
      have hm2_2 : (1260 : Int) - w2_3.toInt < (fuel_2 : Int) + 1 := by omega
      have h_3 : (0 : Int) ≤ (t.1 0 52).toInt ∧ (t.1 0 52).toInt ≤ 1200 := hok.1 0 52
      refine lv_iload_n C.1 C.2.1 dX12_find_2 rfl (lv_at hl 2 rfl) ?_
      refine lv_aload_n C.1 C.2.1 dX12_find_3 rfl (lv_at hl 0 rfl) ?_
      refine k_get (v := .int (t.1 0 52)) C hP 0 rfl rfl inlX12 52 (by decide) m_30_17 rfl dX12_find_4 ?_
      refine lv_icmp_ge (tgt := 29) C.1 C.2.1 dX12_find_7 (by decide) (fun c_4 => ?_) (fun c_4 => ?_)
      · replace c_4 : (t.1 0 52).toInt ≤ w2_3.toInt := i_le c_4
        refine lv_iconst (v := (-1)) C.1 C.2.1 dX12_find_29 (by decide) ?_
        exact g_iret C hr hlocks hP hD hS rfl () rfl ⟨by decide, by decide, (show (-1) < (t.1 0 52).toInt ∨ (-1) = -1 from by omega)⟩ (Nat.le_of_ble_eq_true rfl) (Nat.le_of_ble_eq_true rfl) dX12_find_30
      · replace c_4 : w2_3.toInt < (t.1 0 52).toInt := i_nle c_4
        refine lv_aload_n C.1 C.2.1 dX12_find_10 rfl (lv_at hl 0 rfl) ?_
        refine k_get (v := .ref (ad 23)) C hP 0 rfl rfl inlX12 53 (by decide) m_8_7 rfl dX12_find_11 ?_
        refine lv_iload_n C.1 C.2.1 dX12_find_14 rfl (lv_at hl 2 rfl) ?_
        refine k_lld (v := (t.2.2.2 23 (w2_3 : Int32).toNatClampNeg)) C hP 23 rfl (vp_in_iff.mpr ⟨by omega, by omega⟩) rfl dX12_find_15 ?_
        refine lv_lload_n C.1 C.2.1 dX12_find_16 rfl (lv_at hl 1 rfl) ?_
        obtain ⟨v_5, e_6⟩ : ∃ z, z = lg_cmp ((t.2.2.2 23 (w2_3 : Int32).toNatClampNeg) : Int64) x1 := ⟨_, rfl⟩
        have h_7 : (-1 : Int) ≤ v_5.toInt ∧ v_5.toInt ≤ 1 := by rw [e_6]; exact cmp_rng _ _
        refine k_lcmp (v := v_5) C e_6.symm dX12_find_17 ?_
        refine lv_if_ne (tgt := 23) C.1 C.2.1 dX12_find_18 (by decide) (fun c_8 => ?_) (fun c_8 => ?_)
        · replace c_8 : ¬ v_5.toInt = 0 := i_ne c_8
          obtain ⟨v_9, e_10⟩ : ∃ z, z = w2_3 + 1 := ⟨_, rfl⟩
          have h_11 : v_9.toInt = w2_3.toInt + 1 := by rw [e_10]; exact ti_iadd (by show (_ : Int) ≤ w2_3.toInt + 1; omega) (by show w2_3.toInt + 1 < (_ : Int); omega)
          refine lv_iinc (v := v_9) (lv' := [(3, .int v_9), (0, .ref (ad 0)), (1, .long x1)]) C.1 C.2.1 dX12_find_23 hl (k := 2) rfl e_10.symm (by decide) rfl (fun ls hl => ?_)
          have hl : lv_has ls 4 [(0, .ref (ad 0)), (1, .long x1), (3, .int v_9)] := lv_sub hl [1, 2, 0] rfl
          refine lv_goto (tgt := 2) C.1 C.2.1 dX12_find_26 (by decide) ?_
          exact ih_2 v_9 _ _ _ ⟨by omega, by omega⟩ (show (1260 : Int) - v_9.toInt < (fuel_2 : Int) from by omega) hP hD hS (lv_sub hl [0, 1, 2] rfl)
        · replace c_8 : v_5.toInt = 0 := i_eq c_8
          refine lv_iload_n C.1 C.2.1 dX12_find_21 rfl (lv_at hl 2 rfl) ?_
          exact g_iret C hr hlocks hP hD hS rfl () rfl ⟨by omega, by omega, (show w2_3.toInt < (t.1 0 52).toInt ∨ w2_3.toInt = -1 from by omega)⟩ (Nat.le_of_ble_eq_true rfl) (Nat.le_of_ble_eq_true rfl) dX12_find_22
  refine lv_iconst (v := 0) C.1 C.2.1 dX12_find_0 (by decide) ?_
  refine lv_istore_n (lv' := [(3, .int 0), (0, .ref (ad 0)), (1, .long x1)]) C.1 C.2.1 dX12_find_1 rfl hl (by decide) rfl (fun ls hl => ?_)
  have hl : lv_has ls 4 [(0, .ref (ad 0)), (1, .long x1), (3, .int 0)] := lv_sub hl [1, 2, 0] rfl
  exact L_2 1261 0 _ _ _ ⟨by decide, by decide⟩ (show (1260 : Int) - 0 < ((1261 : Nat) : Int) from by omega) hP hD hS (lv_sub hl [0, 1, 2] rfl)


set_option maxHeartbeats 4000000 in
set_option maxRecDepth 100000 in
theorem T_X12_letterIn_2 (l : Launch) (D : va_G) (K : Nat → ClassId) (Z Y : Nat → Nat) (ad : Nat → Nat) (t : tSt) (hok : okM t) (x1 : Int32) (hx1 : (0 : Int) ≤ x1.toInt ∧ x1.toInt ≤ 1280) (x2 : Int32) (hx2 : (0 : Int) ≤ x2.toInt ∧ x2.toInt ≤ 1280) (x3 : Int32) (hx3 : (0 : Int) ≤ x3.toInt ∧ x3.toInt ≤ 99) : tMet l yX12_letterIn cX12_letterIn 4 (some .int) (rmD 6 0 0) D K Z Y [.ref (ad 18), .int x1, .int x2, .int x3] (WM K ad t) (QI D K (fun (r : Int32) (u : Unit) => (0 : Int) ≤ r.toInt ∧ r.toInt ≤ 255 ∧ (r = gL (t.2.2.1 18) x1 x2 x3) ∧ (r.toInt = (gL (t.2.2.1 18) x1 x2 x3).toInt) ∧ (¬ r.toInt = 32 → x1.toInt + x3.toInt < x2.toInt) ∧ (80 ≤ x3.toInt → r.toInt = 32)) (fun (_ : Unit) => WM K ad t)) 0 0 := by
  refine t_met RX12 ⟨rfl, by decide +kernel⟩ (Nat.le_of_ble_eq_true rfl) ?_
  intro p e s m below meth c A ls C hE hZ hr hlocks hA hP hD hS hl
  have hl : lv_has ls 4 [(0, .ref (ad 18)), (1, .int x1), (2, .int x2), (3, .int x3)] := hl
  refine lv_iload_n C.1 C.2.1 dX12_letterIn_0 rfl (lv_at hl 3 rfl) ?_
  refine lv_bipush (v := 80) C.1 C.2.1 dX12_letterIn_1 (by decide) ?_
  refine lv_icmp_ge (tgt := 29) C.1 C.2.1 dX12_letterIn_3 (by decide) (fun c_1 => ?_) (fun c_1 => ?_)
  · replace c_1 : 80 ≤ x3.toInt := i_le c_1
    refine lv_bipush (v := 32) C.1 C.2.1 dX12_letterIn_29 (by decide) ?_
    exact g_iret C hr hlocks hP hD hS rfl () rfl ⟨by decide, by decide, (show 32 = gL (t.2.2.1 18) x1 x2 x3 from by subst_vars; exact (if_neg (by omega)).symm), (show (32 : Int32).toInt = (gL (t.2.2.1 18) x1 x2 x3).toInt from by subst_vars; exact (congrArg Int32.toInt (if_neg (by omega))).symm), (show ¬ 32 = 32 → x1.toInt + x3.toInt < x2.toInt from by omega), (show 80 ≤ x3.toInt → 32 = 32 from by omega)⟩ (Nat.le_of_ble_eq_true rfl) (Nat.le_of_ble_eq_true rfl) dX12_letterIn_31
  · replace c_1 : x3.toInt < 80 := i_nle c_1
    refine lv_iload_n C.1 C.2.1 dX12_letterIn_6 rfl (lv_at hl 1 rfl) ?_
    refine lv_iload_n C.1 C.2.1 dX12_letterIn_7 rfl (lv_at hl 3 rfl) ?_
    obtain ⟨v_2, e_3⟩ : ∃ z, z = (x1 : Int32) + (x3 : Int32) := ⟨_, rfl⟩
    have h_4 : v_2.toInt = x1.toInt + x3.toInt := by rw [e_3]; exact ti_iadd (by show (_ : Int) ≤ x1.toInt + x3.toInt; omega) (by show x1.toInt + x3.toInt < (_ : Int); omega)
    refine k_iadd (v := v_2) C e_3.symm dX12_letterIn_8 ?_
    refine lv_iload_n C.1 C.2.1 dX12_letterIn_9 rfl (lv_at hl 2 rfl) ?_
    refine lv_icmp_ge (tgt := 29) C.1 C.2.1 dX12_letterIn_10 (by decide) (fun c_5 => ?_) (fun c_5 => ?_)
    · replace c_5 : x2.toInt ≤ v_2.toInt := i_le c_5
      refine lv_bipush (v := 32) C.1 C.2.1 dX12_letterIn_29 (by decide) ?_
      exact g_iret C hr hlocks hP hD hS rfl () rfl ⟨by decide, by decide, (show 32 = gL (t.2.2.1 18) x1 x2 x3 from by subst_vars; exact (if_neg (by omega)).symm), (show (32 : Int32).toInt = (gL (t.2.2.1 18) x1 x2 x3).toInt from by subst_vars; exact (congrArg Int32.toInt (if_neg (by omega))).symm), (show ¬ 32 = 32 → x1.toInt + x3.toInt < x2.toInt from by omega), (show 80 ≤ x3.toInt → 32 = 32 from by omega)⟩ (Nat.le_of_ble_eq_true rfl) (Nat.le_of_ble_eq_true rfl) dX12_letterIn_31
    · replace c_5 : v_2.toInt < x2.toInt := i_nle c_5
      refine va_ldcS C.1 C.2.1 C.2.2.2.1 (hE.2 23 (by decide)) dX12_letterIn_13 ?_
      refine lv_aload_n C.1 C.2.1 dX12_letterIn_15 rfl (lv_at hl 0 rfl) ?_
      refine lv_iload_n C.1 C.2.1 dX12_letterIn_16 rfl (lv_at hl 1 rfl) ?_
      refine lv_iload_n C.1 C.2.1 dX12_letterIn_17 rfl (lv_at hl 3 rfl) ?_
      obtain ⟨v_6, e_7⟩ : ∃ z, z = (x1 : Int32) + (x3 : Int32) := ⟨_, rfl⟩
      have h_8 : v_6.toInt = x1.toInt + x3.toInt := by rw [e_7]; exact ti_iadd (by show (_ : Int) ≤ x1.toInt + x3.toInt; omega) (by show x1.toInt + x3.toInt < (_ : Int); omega)
      refine k_iadd (v := v_6) C e_7.symm dX12_letterIn_18 ?_
      obtain ⟨v_9, e_10⟩ : ∃ z, z = (t.2.2.1 18 (v_6 : Int32).toNatClampNeg) := ⟨_, rfl⟩
      have h_11 : (-3999 : Int) ≤ v_9.toInt ∧ v_9.toInt ≤ 127 := by rw [e_10]; exact hok.2.1 18 _
      refine k_bld (v := v_9) C hP 18 rfl (vp_in_iff.mpr ⟨by omega, by omega⟩) e_10.symm dX12_letterIn_19 ?_
      refine g_Si (As := [.int v_9]) (rest := [.ref (Z 23)]) C hP hD hS hA (T_X12_byteOf l D K Z Y ad t hok (v_9) (show (-3999 : Int) ≤ (v_9 : Int32).toInt ∧ (v_9 : Int32).toInt ≤ 255 from ⟨by omega, by omega⟩)) hE hZ (uwS m_31_15 m_31_16 m_1_5 m_31_17) (hdS 1 (by decide +kernel) rfl) ⟨Nat.le_of_ble_eq_true rfl, Nat.le_of_ble_eq_true rfl⟩ rfl rfl rfl hl.1 (Nat.le_of_ble_eq_true rfl) dX12_letterIn_20 ⟨Nat.le_of_ble_eq_true rfl, Nat.le_of_ble_eq_true rfl⟩ (fun r_13 t_12 H locs hw hP hD hS => ?_)
      obtain ⟨h_15, h_16, p_17⟩ := hw
      replace p_17 : r_13 = bO v_9 := p_17
      refine g_Ti (As := [.int r_13]) (rest := []) C hP hD hS hA (TJ_charAt l D K Z Y (WM K ad t) 23 (by decide) r_13 (show 0 ≤ r_13.toInt ∧ r_13.toInt < sL 23 from by have hsl : sL 23 = 56 := rfl; omega)) hE hZ (uwV m_31_19 m_17_21 m_17_22 m_14_8 m_17_23) (hdV 1 (by decide +kernel) rfl) ⟨Nat.le_of_ble_eq_true rfl, Nat.le_of_ble_eq_true rfl⟩ rfl rfl (i0 := 23) (by decide) rfl rfl hl.1 (Nat.le_of_ble_eq_true rfl) dX12_letterIn_23 ⟨Nat.le_of_ble_eq_true rfl, Nat.le_of_ble_eq_true rfl⟩ (fun r_18 u_r_18 H locs hw hP hD hS => ?_)
      have er_18 : r_18 = (sByt 23).getD (r_13 : Int32).toNatClampNeg 0 := hw
      have h_19 : (32 : Int) ≤ r_18.toInt ∧ r_18.toInt ≤ 126 := by rw [er_18]; exact sByt_r 23 (by decide) (by omega) (by have hsl : sL 23 = 56 := rfl; omega)
      refine lv_goto (tgt := 31) C.1 C.2.1 dX12_letterIn_26 (by decide) ?_
      exact g_iret C hr hlocks hP hD hS rfl () rfl ⟨by omega, by omega, (show r_18 = gL (t.2.2.1 18) x1 x2 x3 from by subst_vars; exact (if_pos (by omega)).symm), (show (r_18 : Int32).toInt = (gL (t.2.2.1 18) x1 x2 x3).toInt from by subst_vars; exact (congrArg Int32.toInt (if_pos (by omega))).symm), (show ¬ r_18.toInt = 32 → x1.toInt + x3.toInt < x2.toInt from by omega), (show 80 ≤ x3.toInt → r_18.toInt = 32 from by omega)⟩ (Nat.le_of_ble_eq_true rfl) (Nat.le_of_ble_eq_true rfl) dX12_letterIn_31

theorem dX12_hasPut_0 : decode cX12_hasPut 0 = .ok (.iload_n 1, 1) := by decide +kernel
theorem dX12_hasPut_1 : decode cX12_hasPut 1 = .ok (.sipush 3999, 3) := by decide +kernel
theorem dX12_hasPut_11 : decode cX12_hasPut 11 = .ok (.iload_n 1, 1) := by decide +kernel
theorem dX12_hasPut_12 : decode cX12_hasPut 12 = .ok (.sipush (-3999), 3) := by decide +kernel
theorem dX12_hasPut_15 : decode cX12_hasPut 15 = .ok (.isub, 1) := by decide +kernel
theorem dX12_hasPut_16 : decode cX12_hasPut 16 = .ok (.baload, 1) := by decide +kernel
theorem dX12_hasPut_17 : decode cX12_hasPut 17 = .ok (.ifCond .eq 7, 3) := by decide +kernel
theorem dX12_hasPut_20 : decode cX12_hasPut 20 = .ok (.iconst 1, 1) := by decide +kernel
theorem dX12_hasPut_21 : decode cX12_hasPut 21 = .ok (.goto 4, 3) := by decide +kernel
theorem dX12_hasPut_24 : decode cX12_hasPut 24 = .ok (.iconst 0, 1) := by decide +kernel
theorem dX12_hasPut_25 : decode cX12_hasPut 25 = .ok (.ireturn, 1) := by decide +kernel
theorem dX12_hasPut_4 : decode cX12_hasPut 4 = .ok (.if_icmp .gt 20, 3) := by decide +kernel
theorem dX12_hasPut_7 : decode cX12_hasPut 7 = .ok (.aload_n 0, 1) := by decide +kernel
theorem dX12_hasPut_8 : decode cX12_hasPut 8 = .ok (.getfield 83, 3) := by decide +kernel
set_option maxHeartbeats 4000000 in
set_option maxRecDepth 100000 in
theorem T_X12_hasPut (l : Launch) (D : va_G) (K : Nat → ClassId) (Z Y : Nat → Nat) (ad : Nat → Nat) (t : tSt) (hok : okM t) (x1 : Int32) (hx1 : (0 : Int) ≤ x1.toInt ∧ x1.toInt ≤ 2147483647) : tMet l yX12_hasPut cX12_hasPut 2 (some .boolean) (rmD 0 0 0) D K Z Y [.ref (ad 0), .int x1] (WM K ad t) (QI D K (fun (r : Int32) (u : Unit) => (0 : Int) ≤ r.toInt ∧ r.toInt ≤ 1 ∧ (r.toInt = 1 → x1.toInt ≤ 3999)) (fun (_ : Unit) => WM K ad t)) 0 0 := by
  refine t_met RX12 ⟨rfl, by decide +kernel⟩ (Nat.le_of_ble_eq_true rfl) ?_
  intro p e s m below meth c A ls C hE hZ hr hlocks hA hP hD hS hl
  have hl : lv_has ls 2 [(0, .ref (ad 0)), (1, .int x1)] := hl
  refine lv_iload_n C.1 C.2.1 dX12_hasPut_0 rfl (lv_at hl 1 rfl) ?_
  refine lv_sipush (v := 3999) C.1 C.2.1 dX12_hasPut_1 (by decide) ?_
  refine lv_icmp_gt (tgt := 24) C.1 C.2.1 dX12_hasPut_4 (by decide) (fun c_1 => ?_) (fun c_1 => ?_)
  · replace c_1 : 3999 < x1.toInt := i_lt c_1
    refine lv_iconst (v := 0) C.1 C.2.1 dX12_hasPut_24 (by decide) ?_
    exact g_iret C hr hlocks hP hD hS (by decide) () rfl ⟨by decide, by decide, (show 0 = 1 → x1.toInt ≤ 3999 from by omega)⟩ (Nat.le_of_ble_eq_true rfl) (Nat.le_of_ble_eq_true rfl) dX12_hasPut_25
  · replace c_1 : x1.toInt ≤ 3999 := i_nlt c_1
    refine lv_aload_n C.1 C.2.1 dX12_hasPut_7 rfl (lv_at hl 0 rfl) ?_
    refine k_get (v := .ref (ad 21)) C hP 0 rfl rfl inlX12 49 (by decide) m_8_5 rfl dX12_hasPut_8 ?_
    refine lv_iload_n C.1 C.2.1 dX12_hasPut_11 rfl (lv_at hl 1 rfl) ?_
    refine lv_sipush (v := (-3999)) C.1 C.2.1 dX12_hasPut_12 (by decide) ?_
    obtain ⟨v_2, e_3⟩ : ∃ z, z = (x1 : Int32) - ((-3999) : Int32) := ⟨_, rfl⟩
    have h_4 : v_2.toInt = x1.toInt - (-3999) := by rw [e_3]; exact ti_isub (by show (_ : Int) ≤ x1.toInt - (-3999); omega) (by show x1.toInt - (-3999) < (_ : Int); omega)
    refine k_isub (v := v_2) C e_3.symm dX12_hasPut_15 ?_
    obtain ⟨v_5, e_6⟩ : ∃ z, z = (t.2.2.1 21 (v_2 : Int32).toNatClampNeg) := ⟨_, rfl⟩
    have h_7 : (0 : Int) ≤ v_5.toInt ∧ v_5.toInt ≤ 1 := by rw [e_6]; exact hok.2.1 21 _
    refine k_zld (v := v_5) C hP 21 rfl (vp_in_iff.mpr ⟨by omega, by omega⟩) e_6.symm dX12_hasPut_16 ?_
    refine lv_if_eq (tgt := 24) C.1 C.2.1 dX12_hasPut_17 (by decide) (fun c_8 => ?_) (fun c_8 => ?_)
    · replace c_8 : v_5.toInt = 0 := i_eq c_8
      refine lv_iconst (v := 0) C.1 C.2.1 dX12_hasPut_24 (by decide) ?_
      exact g_iret C hr hlocks hP hD hS (by decide) () rfl ⟨by decide, by decide, (show 0 = 1 → x1.toInt ≤ 3999 from by omega)⟩ (Nat.le_of_ble_eq_true rfl) (Nat.le_of_ble_eq_true rfl) dX12_hasPut_25
    · replace c_8 : ¬ v_5.toInt = 0 := i_ne c_8
      refine lv_iconst (v := 1) C.1 C.2.1 dX12_hasPut_20 (by decide) ?_
      refine lv_goto (tgt := 25) C.1 C.2.1 dX12_hasPut_21 (by decide) ?_
      exact g_iret C hr hlocks hP hD hS (by decide) () rfl ⟨by decide, by decide, (show 1 = 1 → x1.toInt ≤ 3999 from by omega)⟩ (Nat.le_of_ble_eq_true rfl) (Nat.le_of_ble_eq_true rfl) dX12_hasPut_25

theorem dX12_say_0 : decode cX12_say 0 = .ok (.aload_n 0, 1) := by decide +kernel
theorem dX12_say_1 : decode cX12_say 1 = .ok (.getfield 61, 3) := by decide +kernel
theorem dX12_say_10 : decode cX12_say 10 = .ok (.bastore, 1) := by decide +kernel
theorem dX12_say_11 : decode cX12_say 11 = .ok (.aload_n 0, 1) := by decide +kernel
theorem dX12_say_12 : decode cX12_say 12 = .ok (.dup, 1) := by decide +kernel
theorem dX12_say_13 : decode cX12_say 13 = .ok (.getfield 186, 3) := by decide +kernel
theorem dX12_say_16 : decode cX12_say 16 = .ok (.iconst 1, 1) := by decide +kernel
theorem dX12_say_17 : decode cX12_say 17 = .ok (.iadd, 1) := by decide +kernel
theorem dX12_say_18 : decode cX12_say 18 = .ok (.putfield 186, 3) := by decide +kernel
theorem dX12_say_21 : decode cX12_say 21 = .ok (.return_, 1) := by decide +kernel
theorem dX12_say_4 : decode cX12_say 4 = .ok (.aload_n 0, 1) := by decide +kernel
theorem dX12_say_5 : decode cX12_say 5 = .ok (.getfield 186, 3) := by decide +kernel
theorem dX12_say_8 : decode cX12_say 8 = .ok (.iload_n 1, 1) := by decide +kernel
theorem dX12_say_9 : decode cX12_say 9 = .ok (.i2b, 1) := by decide +kernel
set_option maxHeartbeats 4000000 in
set_option maxRecDepth 100000 in
theorem T_X12_say (l : Launch) (D : va_G) (K : Nat → ClassId) (Z Y : Nat → Nat) (ad : Nat → Nat) (t : tSt) (hok : okM t) (x1 : Int32) (hs0 : (t.1 0 30).toInt ≤ 119) : tMet l yX12_say cX12_say 2 none (rmD 0 0 0) D K Z Y [.ref (ad 0), .int x1] (WM K ad t) (QV D K (fun (u : tSt) => okM u ∧ frA [(0, 30)] [] [14] [] t u ∧ ((u.1 0 30).toInt = (t.1 0 30).toInt + 1)) (fun (u : tSt) => WM K ad u)) 0 0 := by
  refine t_met RX12 ⟨rfl, by decide +kernel⟩ (Nat.le_of_ble_eq_true rfl) ?_
  intro p e s m below meth c A ls C hE hZ hr hlocks hA hP hD hS hl
  have hl : lv_has ls 2 [(0, .ref (ad 0)), (1, .int x1)] := hl
  have hokt := hok
  have hfr : frA [(0, 30)] [] [14] [] t t := frA_rf
  have h_1 : (0 : Int) ≤ (t.1 0 30).toInt ∧ (t.1 0 30).toInt ≤ 120 := hok.1 0 30
  refine lv_aload_n C.1 C.2.1 dX12_say_0 rfl (lv_at hl 0 rfl) ?_
  refine k_get (v := .ref (ad 14)) C hP 0 rfl rfl inlX12 29 (by decide) m_7_21 rfl dX12_say_1 ?_
  refine lv_aload_n C.1 C.2.1 dX12_say_4 rfl (lv_at hl 0 rfl) ?_
  refine k_get (v := .int (t.1 0 30)) C hP 0 rfl rfl inlX12 30 (by decide) m_42_8 rfl dX12_say_5 ?_
  refine lv_iload_n C.1 C.2.1 dX12_say_8 rfl (lv_at hl 1 rfl) ?_
  obtain ⟨v_2, e_3⟩ : ∃ z, z = (x1 : Int32).toInt8.toInt32 := ⟨_, rfl⟩
  have h_4 : (-128 : Int) ≤ v_2.toInt ∧ v_2.toInt ≤ 127 := by rw [e_3]; exact nar_byte _
  refine lv_i2b (v := v_2) C.1 C.2.1 dX12_say_9 e_3.symm ?_
  obtain ⟨v_5, e_6⟩ : ∃ z, z = vp_nar .byte v_2 := ⟨_, rfl⟩
  have h_7 : (-128 : Int) ≤ v_5.toInt ∧ v_5.toInt ≤ 127 := by rw [e_6]; exact nar_byte _
  refine k_bst (ws' := WM K ad (uB t 14 ((t.1 0 30) : Int32).toNatClampNeg v_5)) (x' := v_5) C hP hD hS 14 rfl (vp_in_iff.mpr ⟨by omega, by omega⟩) rfl e_6.symm rfl dX12_say_10 (fun H locs hP hD hS => ?_)
  have hok : okM (uB t 14 ((t.1 0 30) : Int32).toNatClampNeg v_5) := ⟨hok.1, okB_B hok.2.1 14 _ v_5 (show (-3999 : Int) ≤ (v_5 : Int32).toInt ∧ (v_5 : Int32).toInt ≤ 127 from ⟨by omega, by omega⟩), hok.2.2.1, hok.2.2.2.1, hok.2.2.2.2.1, hok.2.2.2.2.2.1, hok.2.2.2.2.2.2.1, trivial⟩
  have hfr : frA [(0, 30)] [] [14] [] t (uB t 14 ((t.1 0 30) : Int32).toNatClampNeg v_5) := frA_B hfr 14 _ _ rfl
  refine lv_aload_n C.1 C.2.1 dX12_say_11 rfl (lv_at hl 0 rfl) ?_
  refine lv_dup C.1 C.2.1 dX12_say_12 rfl ?_
  refine k_get (v := .int (t.1 0 30)) C hP 0 rfl rfl inlX12 30 (by decide) m_42_8 rfl dX12_say_13 ?_
  refine lv_iconst (v := 1) C.1 C.2.1 dX12_say_16 (by decide) ?_
  obtain ⟨v_8, e_9⟩ : ∃ z, z = ((t.1 0 30) : Int32) + (1 : Int32) := ⟨_, rfl⟩
  have h_10 : v_8.toInt = (t.1 0 30).toInt + 1 := by rw [e_9]; exact ti_iadd (by show (_ : Int) ≤ (t.1 0 30).toInt + 1; omega) (by show (t.1 0 30).toInt + 1 < (_ : Int); omega)
  refine k_iadd (v := v_8) C e_9.symm dX12_say_17 ?_
  refine k_put (ws' := WM K ad (uI (uB t 14 ((t.1 0 30) : Int32).toNatClampNeg v_5) 0 30 v_8)) (v := .int v_8) C hP hD hS 0 rfl rfl inlX12 tyX12_ok nmX12 30 (by decide) m_42_8 rfl rfl rfl rfl rfl dX12_say_18 (fun H locs hP hD hS => ?_)
  have hok : okM (uI (uB t 14 ((t.1 0 30) : Int32).toNatClampNeg v_5) 0 30 v_8) := ⟨okI_I hok.1 0 30 v_8 (show (0 : Int) ≤ (v_8 : Int32).toInt ∧ (v_8 : Int32).toInt ≤ 120 from ⟨by omega, by omega⟩), hok.2.1, hok.2.2.1, hok.2.2.2.1, hok.2.2.2.2.1, hok.2.2.2.2.2.1, hok.2.2.2.2.2.2.1, trivial⟩
  have hfr : frA [(0, 30)] [] [14] [] t (uI (uB t 14 ((t.1 0 30) : Int32).toNatClampNeg v_5) 0 30 v_8) := frA_I hfr 0 30 _ rfl
  exact g_vret C hr hlocks hP hD hS (uI (uB t 14 ((t.1 0 30) : Int32).toNatClampNeg v_5) 0 30 v_8) rfl ⟨hok, hfr, (show v_8.toInt = (t.1 0 30).toInt + 1 from by omega)⟩ (Nat.le_of_ble_eq_true rfl) (Nat.le_of_ble_eq_true rfl) dX12_say_21

theorem dX12_nextSymbol_0 : decode cX12_nextSymbol 0 = .ok (.iconst (-1), 1) := by decide +kernel
theorem dX12_nextSymbol_1 : decode cX12_nextSymbol 1 = .ok (.istore_n 3, 1) := by decide +kernel
theorem dX12_nextSymbol_11 : decode cX12_nextSymbol 11 = .ok (.if_icmp .ge 56, 3) := by decide +kernel
theorem dX12_nextSymbol_14 : decode cX12_nextSymbol 14 = .ok (.aload_n 0, 1) := by decide +kernel
theorem dX12_nextSymbol_15 : decode cX12_nextSymbol 15 = .ok (.getfield 95, 3) := by decide +kernel
theorem dX12_nextSymbol_18 : decode cX12_nextSymbol 18 = .ok (.iload 4, 2) := by decide +kernel
theorem dX12_nextSymbol_2 : decode cX12_nextSymbol 2 = .ok (.iconst 0, 1) := by decide +kernel
theorem dX12_nextSymbol_20 : decode cX12_nextSymbol 20 = .ok (.baload, 1) := by decide +kernel
theorem dX12_nextSymbol_21 : decode cX12_nextSymbol 21 = .ok (.ifCond .eq 40, 3) := by decide +kernel
theorem dX12_nextSymbol_24 : decode cX12_nextSymbol 24 = .ok (.aload_n 0, 1) := by decide +kernel
theorem dX12_nextSymbol_25 : decode cX12_nextSymbol 25 = .ok (.getfield 89, 3) := by decide +kernel
theorem dX12_nextSymbol_28 : decode cX12_nextSymbol 28 = .ok (.iload 4, 2) := by decide +kernel
theorem dX12_nextSymbol_3 : decode cX12_nextSymbol 3 = .ok (.istore 4, 2) := by decide +kernel
theorem dX12_nextSymbol_30 : decode cX12_nextSymbol 30 = .ok (.laload, 1) := by decide +kernel
theorem dX12_nextSymbol_31 : decode cX12_nextSymbol 31 = .ok (.lload_n 1, 1) := by decide +kernel
theorem dX12_nextSymbol_32 : decode cX12_nextSymbol 32 = .ok (.lcmp, 1) := by decide +kernel
theorem dX12_nextSymbol_33 : decode cX12_nextSymbol 33 = .ok (.ifCond .le 28, 3) := by decide +kernel
theorem dX12_nextSymbol_36 : decode cX12_nextSymbol 36 = .ok (.iload_n 3, 1) := by decide +kernel
theorem dX12_nextSymbol_37 : decode cX12_nextSymbol 37 = .ok (.iconst (-1), 1) := by decide +kernel
theorem dX12_nextSymbol_38 : decode cX12_nextSymbol 38 = .ok (.if_icmp .eq 20, 3) := by decide +kernel
theorem dX12_nextSymbol_41 : decode cX12_nextSymbol 41 = .ok (.aload_n 0, 1) := by decide +kernel
theorem dX12_nextSymbol_42 : decode cX12_nextSymbol 42 = .ok (.getfield 89, 3) := by decide +kernel
theorem dX12_nextSymbol_45 : decode cX12_nextSymbol 45 = .ok (.iload 4, 2) := by decide +kernel
theorem dX12_nextSymbol_47 : decode cX12_nextSymbol 47 = .ok (.laload, 1) := by decide +kernel
theorem dX12_nextSymbol_48 : decode cX12_nextSymbol 48 = .ok (.aload_n 0, 1) := by decide +kernel
theorem dX12_nextSymbol_49 : decode cX12_nextSymbol 49 = .ok (.getfield 89, 3) := by decide +kernel
theorem dX12_nextSymbol_5 : decode cX12_nextSymbol 5 = .ok (.iload 4, 2) := by decide +kernel
theorem dX12_nextSymbol_52 : decode cX12_nextSymbol 52 = .ok (.iload_n 3, 1) := by decide +kernel
theorem dX12_nextSymbol_53 : decode cX12_nextSymbol 53 = .ok (.laload, 1) := by decide +kernel
theorem dX12_nextSymbol_54 : decode cX12_nextSymbol 54 = .ok (.lcmp, 1) := by decide +kernel
theorem dX12_nextSymbol_55 : decode cX12_nextSymbol 55 = .ok (.ifCond .ge 6, 3) := by decide +kernel
theorem dX12_nextSymbol_58 : decode cX12_nextSymbol 58 = .ok (.iload 4, 2) := by decide +kernel
theorem dX12_nextSymbol_60 : decode cX12_nextSymbol 60 = .ok (.istore_n 3, 1) := by decide +kernel
theorem dX12_nextSymbol_61 : decode cX12_nextSymbol 61 = .ok (.iinc 4 1, 3) := by decide +kernel
theorem dX12_nextSymbol_64 : decode cX12_nextSymbol 64 = .ok (.goto (-59), 3) := by decide +kernel
theorem dX12_nextSymbol_67 : decode cX12_nextSymbol 67 = .ok (.iload_n 3, 1) := by decide +kernel
theorem dX12_nextSymbol_68 : decode cX12_nextSymbol 68 = .ok (.ireturn, 1) := by decide +kernel
theorem dX12_nextSymbol_7 : decode cX12_nextSymbol 7 = .ok (.aload_n 0, 1) := by decide +kernel
theorem dX12_nextSymbol_8 : decode cX12_nextSymbol 8 = .ok (.getfield 463, 3) := by decide +kernel
set_option maxHeartbeats 4000000 in
set_option maxRecDepth 100000 in
theorem T_X12_nextSymbol (l : Launch) (D : va_G) (K : Nat → ClassId) (Z Y : Nat → Nat) (ad : Nat → Nat) (t : tSt) (hok : okM t) (x1 : Int64) : tMet l yX12_nextSymbol cX12_nextSymbol 5 (some .int) (rmD 0 0 0) D K Z Y [.ref (ad 0), .long x1] (WM K ad t) (QI D K (fun (r : Int32) (u : Unit) => (-1 : Int) ≤ r.toInt ∧ r.toInt ≤ 1199 ∧ (r.toInt = -1 ∨ (0 ≤ r.toInt ∧ r.toInt < (t.1 0 52).toInt ∧ x1.toInt < (t.2.2.2 23 (r : Int32).toNatClampNeg).toInt))) (fun (_ : Unit) => WM K ad t)) 0 0 := by
  refine t_met RX12 ⟨rfl, by decide +kernel⟩ (Nat.le_of_ble_eq_true rfl) ?_
  intro p e s m below meth c A ls C hE hZ hr hlocks hA hP hD hS hl
  have hl : lv_has ls 5 [(0, .ref (ad 0)), (1, .long x1)] := hl
  have h_1 : (0 : Int) ≤ (t.1 0 52).toInt ∧ (t.1 0 52).toInt ≤ 1200 := hok.1 0 52
  have L_5 : ∀ (fuel_5 : Nat) (w5_3 : Int32) (w5_4 : Int32) (H : Heap) (locs : List Loc) (ls : Array Slot), (-1 : Int) ≤ w5_3.toInt ∧ w5_3.toInt ≤ 1260 → (0 : Int) ≤ w5_4.toInt ∧ w5_4.toInt ≤ 1260 → (w5_3.toInt = -1 ∨ (0 ≤ w5_3.toInt ∧ w5_3.toInt < (t.1 0 52).toInt ∧ x1.toInt < (t.2.2.2 23 (w5_3 : Int32).toNatClampNeg).toInt)) → (1260 : Int) - w5_4.toInt < (fuel_5 : Int) → va_P D vwCl (WM K ad t) H → va_D A (WM K ad t) → va_S A s.heap H locs → lv_has ls 5 [(0, .ref (ad 0)), (1, .long x1), (3, .int w5_3), (4, .int w5_4)] → W p l e (rmD 0 0 0) s m [.ref (ad 0), .long x1].toArray below meth c H locs 0 0 (MQ below (QI D K (fun (r : Int32) (u : Unit) => (-1 : Int) ≤ r.toInt ∧ r.toInt ≤ 1199 ∧ (r.toInt = -1 ∨ (0 ≤ r.toInt ∧ r.toInt < (t.1 0 52).toInt ∧ x1.toInt < (t.2.2.2 23 (r : Int32).toNatClampNeg).toInt))) (fun (_ : Unit) => WM K ad t) A) [.ref (ad 0), .long x1].toArray s 0 0 A) (F0 m 5 ls []) := by
    intro fuel_5
    induction fuel_5 with
    | zero =>
      intro w5_3 w5_4 H locs ls hw5_3 hw5_4 hi5_0 hm5_5 hP hD hS hl
      have h_2 : (0 : Int) ≤ (t.1 0 52).toInt ∧ (t.1 0 52).toInt ≤ 1200 := hok.1 0 52
      exact absurd hm5_5 (by omega)
    | succ fuel_5 ih_5 =>
      intro w5_3 w5_4 H locs ls hw5_3 hw5_4 hi5_0 hm5_5 hP hD hS hl
      have hm5_5 : (1260 : Int) - w5_4.toInt < (fuel_5 : Int) + 1 := by omega
      have h_3 : (0 : Int) ≤ (t.1 0 52).toInt ∧ (t.1 0 52).toInt ≤ 1200 := hok.1 0 52
      have L_61 : ∀ (w61_3 : Int32) (w61_4 : Int32) (H : Heap) (locs : List Loc) (ls : Array Slot), (-1 : Int) ≤ w61_3.toInt ∧ w61_3.toInt ≤ 1260 → (0 : Int) ≤ w61_4.toInt ∧ w61_4.toInt ≤ 1199 → (1 : Int) ≤ (t.1 0 52).toInt ∧ (t.1 0 52).toInt ≤ 1200 → (w61_3.toInt = -1 ∨ (0 ≤ w61_3.toInt ∧ w61_3.toInt < (t.1 0 52).toInt ∧ x1.toInt < (t.2.2.2 23 (w61_3 : Int32).toNatClampNeg).toInt)) → (1260 : Int) - w61_4.toInt < (fuel_5 : Int) + 1 → va_P D vwCl (WM K ad t) H → va_D A (WM K ad t) → va_S A s.heap H locs → lv_has ls 5 [(0, .ref (ad 0)), (1, .long x1), (3, .int w61_3), (4, .int w61_4)] → W p l e (rmD 0 0 0) s m [.ref (ad 0), .long x1].toArray below meth c H locs 0 0 (MQ below (QI D K (fun (r : Int32) (u : Unit) => (-1 : Int) ≤ r.toInt ∧ r.toInt ≤ 1199 ∧ (r.toInt = -1 ∨ (0 ≤ r.toInt ∧ r.toInt < (t.1 0 52).toInt ∧ x1.toInt < (t.2.2.2 23 (r : Int32).toNatClampNeg).toInt))) (fun (_ : Unit) => WM K ad t) A) [.ref (ad 0), .long x1].toArray s 0 0 A) (F0 m 61 ls []) := by
        intro w61_3 w61_4 H locs ls hw61_3 hw61_4 hf61_52 hi61_0 hm61_5 hP hD hS hl
        obtain ⟨v_4, e_5⟩ : ∃ z, z = w61_4 + 1 := ⟨_, rfl⟩
        have h_6 : v_4.toInt = w61_4.toInt + 1 := by rw [e_5]; exact ti_iadd (by show (_ : Int) ≤ w61_4.toInt + 1; omega) (by show w61_4.toInt + 1 < (_ : Int); omega)
        refine lv_iinc (v := v_4) (lv' := [(4, .int v_4), (0, .ref (ad 0)), (1, .long x1), (3, .int w61_3)]) C.1 C.2.1 dX12_nextSymbol_61 hl (k := 3) rfl e_5.symm (by decide) rfl (fun ls hl => ?_)
        have hl : lv_has ls 5 [(0, .ref (ad 0)), (1, .long x1), (3, .int w61_3), (4, .int v_4)] := lv_sub hl [1, 2, 3, 0] rfl
        refine lv_goto (tgt := 5) C.1 C.2.1 dX12_nextSymbol_64 (by decide) ?_
        exact ih_5 w61_3 v_4 _ _ _ ⟨by omega, by omega⟩ ⟨by omega, by omega⟩ (show w61_3.toInt = -1 ∨ (0 ≤ w61_3.toInt ∧ w61_3.toInt < (t.1 0 52).toInt ∧ x1.toInt < (t.2.2.2 23 (w61_3 : Int32).toNatClampNeg).toInt) from by omega) (show (1260 : Int) - v_4.toInt < (fuel_5 : Int) from by omega) hP hD hS (lv_sub hl [0, 1, 2, 3] rfl)
      have L_58 : ∀ (w58_3 : Int32) (w58_4 : Int32) (H : Heap) (locs : List Loc) (ls : Array Slot), (-1 : Int) ≤ w58_3.toInt ∧ w58_3.toInt ≤ 1260 → (0 : Int) ≤ w58_4.toInt ∧ w58_4.toInt ≤ 1199 → (1 : Int) ≤ (t.1 0 52).toInt ∧ (t.1 0 52).toInt ≤ 1200 → (w58_4.toInt < (t.1 0 52).toInt) → (x1.toInt < (t.2.2.2 23 (w58_4 : Int32).toNatClampNeg).toInt) → (1260 : Int) - w58_4.toInt < (fuel_5 : Int) + 1 → va_P D vwCl (WM K ad t) H → va_D A (WM K ad t) → va_S A s.heap H locs → lv_has ls 5 [(0, .ref (ad 0)), (1, .long x1), (3, .int w58_3), (4, .int w58_4)] → W p l e (rmD 0 0 0) s m [.ref (ad 0), .long x1].toArray below meth c H locs 0 0 (MQ below (QI D K (fun (r : Int32) (u : Unit) => (-1 : Int) ≤ r.toInt ∧ r.toInt ≤ 1199 ∧ (r.toInt = -1 ∨ (0 ≤ r.toInt ∧ r.toInt < (t.1 0 52).toInt ∧ x1.toInt < (t.2.2.2 23 (r : Int32).toNatClampNeg).toInt))) (fun (_ : Unit) => WM K ad t) A) [.ref (ad 0), .long x1].toArray s 0 0 A) (F0 m 58 ls []) := by
        intro w58_3 w58_4 H locs ls hw58_3 hw58_4 hf58_52 hi58_0 hi58_1 hm58_5 hP hD hS hl
        refine lv_iload C.1 C.2.1 dX12_nextSymbol_58 (lv_at hl 3 rfl) ?_
        refine lv_istore_n (lv' := [(3, .int w58_4), (0, .ref (ad 0)), (1, .long x1), (4, .int w58_4)]) C.1 C.2.1 dX12_nextSymbol_60 rfl hl (by decide) rfl (fun ls hl => ?_)
        have hl : lv_has ls 5 [(0, .ref (ad 0)), (1, .long x1), (3, .int w58_4), (4, .int w58_4)] := lv_sub hl [1, 2, 0, 3] rfl
        exact L_61 w58_4 w58_4 _ _ _ ⟨by omega, by omega⟩ ⟨by omega, by omega⟩ (show (1 : Int) ≤ ((t.1 0 52) : Int32).toInt ∧ ((t.1 0 52) : Int32).toInt ≤ 1200 from ⟨by omega, by omega⟩) (show w58_4.toInt = -1 ∨ (0 ≤ w58_4.toInt ∧ w58_4.toInt < (t.1 0 52).toInt ∧ x1.toInt < (t.2.2.2 23 (w58_4 : Int32).toNatClampNeg).toInt) from by omega) (show (1260 : Int) - w58_4.toInt < (fuel_5 : Int) + 1 from by omega) hP hD hS (lv_sub hl [0, 1, 2, 3] rfl)
      refine lv_iload C.1 C.2.1 dX12_nextSymbol_5 (lv_at hl 3 rfl) ?_
      refine lv_aload_n C.1 C.2.1 dX12_nextSymbol_7 rfl (lv_at hl 0 rfl) ?_
      refine k_get (v := .int (t.1 0 52)) C hP 0 rfl rfl inlX12 52 (by decide) m_30_17 rfl dX12_nextSymbol_8 ?_
      refine lv_icmp_ge (tgt := 67) C.1 C.2.1 dX12_nextSymbol_11 (by decide) (fun c_7 => ?_) (fun c_7 => ?_)
      · replace c_7 : (t.1 0 52).toInt ≤ w5_4.toInt := i_le c_7
        refine lv_iload_n C.1 C.2.1 dX12_nextSymbol_67 rfl (lv_at hl 2 rfl) ?_
        exact g_iret C hr hlocks hP hD hS rfl () rfl ⟨by omega, by omega, (show w5_3.toInt = -1 ∨ (0 ≤ w5_3.toInt ∧ w5_3.toInt < (t.1 0 52).toInt ∧ x1.toInt < (t.2.2.2 23 (w5_3 : Int32).toNatClampNeg).toInt) from by omega)⟩ (Nat.le_of_ble_eq_true rfl) (Nat.le_of_ble_eq_true rfl) dX12_nextSymbol_68
      · replace c_7 : w5_4.toInt < (t.1 0 52).toInt := i_nle c_7
        refine lv_aload_n C.1 C.2.1 dX12_nextSymbol_14 rfl (lv_at hl 0 rfl) ?_
        refine k_get (v := .ref (ad 25)) C hP 0 rfl rfl inlX12 55 (by decide) m_8_9 rfl dX12_nextSymbol_15 ?_
        refine lv_iload C.1 C.2.1 dX12_nextSymbol_18 (lv_at hl 3 rfl) ?_
        obtain ⟨v_8, e_9⟩ : ∃ z, z = (t.2.2.1 25 (w5_4 : Int32).toNatClampNeg) := ⟨_, rfl⟩
        have h_10 : (0 : Int) ≤ v_8.toInt ∧ v_8.toInt ≤ 1 := by rw [e_9]; exact hok.2.1 25 _
        refine k_zld (v := v_8) C hP 25 rfl (vp_in_iff.mpr ⟨by omega, by omega⟩) e_9.symm dX12_nextSymbol_20 ?_
        refine lv_if_eq (tgt := 61) C.1 C.2.1 dX12_nextSymbol_21 (by decide) (fun c_11 => ?_) (fun c_11 => ?_)
        · replace c_11 : v_8.toInt = 0 := i_eq c_11
          exact L_61 w5_3 w5_4 _ _ _ ⟨by omega, by omega⟩ ⟨by omega, by omega⟩ (show (1 : Int) ≤ ((t.1 0 52) : Int32).toInt ∧ ((t.1 0 52) : Int32).toInt ≤ 1200 from ⟨by omega, by omega⟩) (show w5_3.toInt = -1 ∨ (0 ≤ w5_3.toInt ∧ w5_3.toInt < (t.1 0 52).toInt ∧ x1.toInt < (t.2.2.2 23 (w5_3 : Int32).toNatClampNeg).toInt) from by omega) (show (1260 : Int) - w5_4.toInt < (fuel_5 : Int) + 1 from by omega) hP hD hS (lv_sub hl [0, 1, 2, 3] rfl)
        · replace c_11 : ¬ v_8.toInt = 0 := i_ne c_11
          refine lv_aload_n C.1 C.2.1 dX12_nextSymbol_24 rfl (lv_at hl 0 rfl) ?_
          refine k_get (v := .ref (ad 23)) C hP 0 rfl rfl inlX12 53 (by decide) m_8_7 rfl dX12_nextSymbol_25 ?_
          refine lv_iload C.1 C.2.1 dX12_nextSymbol_28 (lv_at hl 3 rfl) ?_
          refine k_lld (v := (t.2.2.2 23 (w5_4 : Int32).toNatClampNeg)) C hP 23 rfl (vp_in_iff.mpr ⟨by omega, by omega⟩) rfl dX12_nextSymbol_30 ?_
          refine lv_lload_n C.1 C.2.1 dX12_nextSymbol_31 rfl (lv_at hl 1 rfl) ?_
          obtain ⟨v_12, e_13⟩ : ∃ z, z = lg_cmp ((t.2.2.2 23 (w5_4 : Int32).toNatClampNeg) : Int64) x1 := ⟨_, rfl⟩
          have h_14 : (-1 : Int) ≤ v_12.toInt ∧ v_12.toInt ≤ 1 := by rw [e_13]; exact cmp_rng _ _
          have h_15 : (v_12.toInt < 0 ↔ (t.2.2.2 23 (w5_4 : Int32).toNatClampNeg).toInt < x1.toInt) ∧ (v_12.toInt = 0 ↔ (t.2.2.2 23 (w5_4 : Int32).toNatClampNeg).toInt = x1.toInt) := by rw [e_13]; exact cmp_iff _ _
          refine k_lcmp (v := v_12) C e_13.symm dX12_nextSymbol_32 ?_
          refine lv_if_le (tgt := 61) C.1 C.2.1 dX12_nextSymbol_33 (by decide) (fun c_16 => ?_) (fun c_16 => ?_)
          · replace c_16 : v_12.toInt ≤ 0 := i_le c_16
            exact L_61 w5_3 w5_4 _ _ _ ⟨by omega, by omega⟩ ⟨by omega, by omega⟩ (show (1 : Int) ≤ ((t.1 0 52) : Int32).toInt ∧ ((t.1 0 52) : Int32).toInt ≤ 1200 from ⟨by omega, by omega⟩) (show w5_3.toInt = -1 ∨ (0 ≤ w5_3.toInt ∧ w5_3.toInt < (t.1 0 52).toInt ∧ x1.toInt < (t.2.2.2 23 (w5_3 : Int32).toNatClampNeg).toInt) from by omega) (show (1260 : Int) - w5_4.toInt < (fuel_5 : Int) + 1 from by omega) hP hD hS (lv_sub hl [0, 1, 2, 3] rfl)
          · replace c_16 : 0 < v_12.toInt := i_nle c_16
            refine lv_iload_n C.1 C.2.1 dX12_nextSymbol_36 rfl (lv_at hl 2 rfl) ?_
            refine lv_iconst (v := (-1)) C.1 C.2.1 dX12_nextSymbol_37 (by decide) ?_
            refine lv_icmp_eq (tgt := 58) C.1 C.2.1 dX12_nextSymbol_38 (by decide) (fun c_17 => ?_) (fun c_17 => ?_)
            · replace c_17 : w5_3.toInt = (-1) := i_eq c_17
              exact L_58 w5_3 w5_4 _ _ _ ⟨by omega, by omega⟩ ⟨by omega, by omega⟩ (show (1 : Int) ≤ ((t.1 0 52) : Int32).toInt ∧ ((t.1 0 52) : Int32).toInt ≤ 1200 from ⟨by omega, by omega⟩) (show w5_4.toInt < (t.1 0 52).toInt from by omega) (show x1.toInt < (t.2.2.2 23 (w5_4 : Int32).toNatClampNeg).toInt from by omega) (show (1260 : Int) - w5_4.toInt < (fuel_5 : Int) + 1 from by omega) hP hD hS (lv_sub hl [0, 1, 2, 3] rfl)
            · replace c_17 : ¬ w5_3.toInt = (-1) := i_ne c_17
              refine lv_aload_n C.1 C.2.1 dX12_nextSymbol_41 rfl (lv_at hl 0 rfl) ?_
              refine k_get (v := .ref (ad 23)) C hP 0 rfl rfl inlX12 53 (by decide) m_8_7 rfl dX12_nextSymbol_42 ?_
              refine lv_iload C.1 C.2.1 dX12_nextSymbol_45 (lv_at hl 3 rfl) ?_
              refine k_lld (v := (t.2.2.2 23 (w5_4 : Int32).toNatClampNeg)) C hP 23 rfl (vp_in_iff.mpr ⟨by omega, by omega⟩) rfl dX12_nextSymbol_47 ?_
              refine lv_aload_n C.1 C.2.1 dX12_nextSymbol_48 rfl (lv_at hl 0 rfl) ?_
              refine k_get (v := .ref (ad 23)) C hP 0 rfl rfl inlX12 53 (by decide) m_8_7 rfl dX12_nextSymbol_49 ?_
              refine lv_iload_n C.1 C.2.1 dX12_nextSymbol_52 rfl (lv_at hl 2 rfl) ?_
              refine k_lld (v := (t.2.2.2 23 (w5_3 : Int32).toNatClampNeg)) C hP 23 rfl (vp_in_iff.mpr ⟨by omega, by omega⟩) rfl dX12_nextSymbol_53 ?_
              obtain ⟨v_18, e_19⟩ : ∃ z, z = lg_cmp ((t.2.2.2 23 (w5_4 : Int32).toNatClampNeg) : Int64) (t.2.2.2 23 (w5_3 : Int32).toNatClampNeg) := ⟨_, rfl⟩
              have h_20 : (-1 : Int) ≤ v_18.toInt ∧ v_18.toInt ≤ 1 := by rw [e_19]; exact cmp_rng _ _
              have h_21 : (v_18.toInt < 0 ↔ (t.2.2.2 23 (w5_4 : Int32).toNatClampNeg).toInt < (t.2.2.2 23 (w5_3 : Int32).toNatClampNeg).toInt) ∧ (v_18.toInt = 0 ↔ (t.2.2.2 23 (w5_4 : Int32).toNatClampNeg).toInt = (t.2.2.2 23 (w5_3 : Int32).toNatClampNeg).toInt) := by rw [e_19]; exact cmp_iff _ _
              refine k_lcmp (v := v_18) C e_19.symm dX12_nextSymbol_54 ?_
              refine lv_if_ge (tgt := 61) C.1 C.2.1 dX12_nextSymbol_55 (by decide) (fun c_22 => ?_) (fun c_22 => ?_)
              · replace c_22 : 0 ≤ v_18.toInt := i_le c_22
                exact L_61 w5_3 w5_4 _ _ _ ⟨by omega, by omega⟩ ⟨by omega, by omega⟩ (show (1 : Int) ≤ ((t.1 0 52) : Int32).toInt ∧ ((t.1 0 52) : Int32).toInt ≤ 1200 from ⟨by omega, by omega⟩) (show w5_3.toInt = -1 ∨ (0 ≤ w5_3.toInt ∧ w5_3.toInt < (t.1 0 52).toInt ∧ x1.toInt < (t.2.2.2 23 (w5_3 : Int32).toNatClampNeg).toInt) from by omega) (show (1260 : Int) - w5_4.toInt < (fuel_5 : Int) + 1 from by omega) hP hD hS (lv_sub hl [0, 1, 2, 3] rfl)
              · replace c_22 : v_18.toInt < 0 := i_nle c_22
                exact L_58 w5_3 w5_4 _ _ _ ⟨by omega, by omega⟩ ⟨by omega, by omega⟩ (show (1 : Int) ≤ ((t.1 0 52) : Int32).toInt ∧ ((t.1 0 52) : Int32).toInt ≤ 1200 from ⟨by omega, by omega⟩) (show w5_4.toInt < (t.1 0 52).toInt from by omega) (show x1.toInt < (t.2.2.2 23 (w5_4 : Int32).toNatClampNeg).toInt from by omega) (show (1260 : Int) - w5_4.toInt < (fuel_5 : Int) + 1 from by omega) hP hD hS (lv_sub hl [0, 1, 2, 3] rfl)
  refine lv_iconst (v := (-1)) C.1 C.2.1 dX12_nextSymbol_0 (by decide) ?_
  refine lv_istore_n (lv' := [(3, .int (-1)), (0, .ref (ad 0)), (1, .long x1)]) C.1 C.2.1 dX12_nextSymbol_1 rfl hl (by decide) rfl (fun ls hl => ?_)
  have hl : lv_has ls 5 [(0, .ref (ad 0)), (1, .long x1), (3, .int (-1))] := lv_sub hl [1, 2, 0] rfl
  refine lv_iconst (v := 0) C.1 C.2.1 dX12_nextSymbol_2 (by decide) ?_
  refine lv_istore (lv' := [(4, .int 0), (0, .ref (ad 0)), (1, .long x1), (3, .int (-1))]) C.1 C.2.1 dX12_nextSymbol_3 hl (by decide) rfl (fun ls hl => ?_)
  have hl : lv_has ls 5 [(0, .ref (ad 0)), (1, .long x1), (3, .int (-1)), (4, .int 0)] := lv_sub hl [1, 2, 3, 0] rfl
  exact L_5 1261 (-1) 0 _ _ _ ⟨by decide, by decide⟩ ⟨by decide, by decide⟩ (show (-1) = -1 ∨ (0 ≤ (-1) ∧ (-1) < (t.1 0 52).toInt ∧ x1.toInt < (t.2.2.2 23 ((-1) : Int32).toNatClampNeg).toInt) from by omega) (show (1260 : Int) - 0 < ((1261 : Nat) : Int) from by omega) hP hD hS (lv_sub hl [0, 1, 2, 3] rfl)
