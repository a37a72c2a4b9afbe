theorem dX12_assemble_0 : decode cX12_assemble 0 = .ok (.aload_n 0, 1) := by decide +kernel
theorem dX12_assemble_1 : decode cX12_assemble 1 = .ok (.iconst 0, 1) := by decide +kernel
theorem dX12_assemble_10 : decode cX12_assemble 10 = .ok (.aload_n 0, 1) := by decide +kernel
theorem dX12_assemble_11 : decode cX12_assemble 11 = .ok (.getfield 176, 3) := by decide +kernel
theorem dX12_assemble_14 : decode cX12_assemble 14 = .ok (.invokevirtual 657, 3) := by decide +kernel
theorem dX12_assemble_17 : decode cX12_assemble 17 = .ok (.aload_n 0, 1) := by decide +kernel
theorem dX12_assemble_18 : decode cX12_assemble 18 = .ok (.iconst 0, 1) := by decide +kernel
theorem dX12_assemble_19 : decode cX12_assemble 19 = .ok (.putfield 176, 3) := by decide +kernel
theorem dX12_assemble_2 : decode cX12_assemble 2 = .ok (.putfield 155, 3) := by decide +kernel
theorem dX12_assemble_22 : decode cX12_assemble 22 = .ok (.aload_n 0, 1) := by decide +kernel
theorem dX12_assemble_23 : decode cX12_assemble 23 = .ok (.iconst 0, 1) := by decide +kernel
theorem dX12_assemble_24 : decode cX12_assemble 24 = .ok (.putfield 596, 3) := by decide +kernel
theorem dX12_assemble_27 : decode cX12_assemble 27 = .ok (.aload_n 0, 1) := by decide +kernel
theorem dX12_assemble_28 : decode cX12_assemble 28 = .ok (.invokevirtual 661, 3) := by decide +kernel
theorem dX12_assemble_31 : decode cX12_assemble 31 = .ok (.ifCond .ne 10, 3) := by decide +kernel
theorem dX12_assemble_34 : decode cX12_assemble 34 = .ok (.iconst (-1), 1) := by decide +kernel
theorem dX12_assemble_35 : decode cX12_assemble 35 = .ok (.aload_n 0, 1) := by decide +kernel
theorem dX12_assemble_36 : decode cX12_assemble 36 = .ok (.getfield 651, 3) := by decide +kernel
theorem dX12_assemble_39 : decode cX12_assemble 39 = .ok (.isub, 1) := by decide +kernel
theorem dX12_assemble_40 : decode cX12_assemble 40 = .ok (.ireturn, 1) := by decide +kernel
theorem dX12_assemble_41 : decode cX12_assemble 41 = .ok (.aload_n 0, 1) := by decide +kernel
theorem dX12_assemble_42 : decode cX12_assemble 42 = .ok (.aload_n 0, 1) := by decide +kernel
theorem dX12_assemble_43 : decode cX12_assemble 43 = .ok (.getfield 602, 3) := by decide +kernel
theorem dX12_assemble_46 : decode cX12_assemble 46 = .ok (.invokevirtual 664, 3) := by decide +kernel
theorem dX12_assemble_49 : decode cX12_assemble 49 = .ok (.aload_n 0, 1) := by decide +kernel
theorem dX12_assemble_5 : decode cX12_assemble 5 = .ok (.aload_n 0, 1) := by decide +kernel
theorem dX12_assemble_50 : decode cX12_assemble 50 = .ok (.getfield 569, 3) := by decide +kernel
theorem dX12_assemble_53 : decode cX12_assemble 53 = .ok (.ireturn, 1) := by decide +kernel
theorem dX12_assemble_6 : decode cX12_assemble 6 = .ok (.aload_n 0, 1) := by decide +kernel
theorem dX12_assemble_7 : decode cX12_assemble 7 = .ok (.getfield 9, 3) := by decide +kernel
set_option maxHeartbeats 4000000 in
set_option maxRecDepth 100000 in
theorem T_X12_assemble (l : Launch) (D : va_G) (K : Nat → ClassId) (Z Y : Nat → Nat) (ad : Nat → Nat) (t : tSt) (hok : okM t)  : tMet l yX12_assemble cX12_assemble 1 (some .int) (rmD 19 0 0) D K Z Y [.ref (ad 0)] (WM K ad t) (QI D K (fun (r : Int32) (u : tSt) => okM u ∧ frA [(0, 0), (0, 2), (0, 5), (0, 6), (0, 7), (0, 9), (0, 10), (0, 11), (0, 12), (0, 38), (0, 41), (0, 42), (0, 43), (0, 44), (0, 45), (0, 46), (0, 47), (0, 48), (0, 51), (0, 52), (0, 60), (0, 67), (0, 68), (0, 69), (0, 70), (0, 71), (0, 72), (0, 73), (0, 91)] [(0, 8)] [2, 3, 5, 18, 19, 20, 21, 22, 24, 25, 26, 27, 28, 29, 30, 31, 32, 33, 34, 35, 44] [4, 23] t u ∧ (-2147483648 : Int) ≤ r.toInt ∧ r.toInt ≤ 2147483647 ∧ ((u.1 0 2).toInt = 0)) (fun (u : tSt) => WM K ad u)) 0 0 := by
  refine t_met RX12 ⟨rfl, by decide +kernel⟩ (Nat.le_of_ble_eq_true rfl) ?_
  intro p e s m below meth c A ls C hE hZ hr hlocks hA hP hD hS hl
  have hl : lv_has ls 1 [(0, .ref (ad 0))] := hl
  have hokt := hok
  have hfr : frA [(0, 0), (0, 2), (0, 5), (0, 6), (0, 7), (0, 9), (0, 10), (0, 11), (0, 12), (0, 38), (0, 41), (0, 42), (0, 43), (0, 44), (0, 45), (0, 46), (0, 47), (0, 48), (0, 51), (0, 52), (0, 60), (0, 67), (0, 68), (0, 69), (0, 70), (0, 71), (0, 72), (0, 73), (0, 91)] [(0, 8)] [2, 3, 5, 18, 19, 20, 21, 22, 24, 25, 26, 27, 28, 29, 30, 31, 32, 33, 34, 35, 44] [4, 23] t t := frA_rf
  refine lv_aload_n C.1 C.2.1 dX12_assemble_0 rfl (lv_at hl 0 rfl) ?_
  refine lv_iconst (v := 0) C.1 C.2.1 dX12_assemble_1 (by decide) ?_
  refine k_put (ws' := WM K ad (uI t 0 0 0)) (v := .int 0) C hP hD hS 0 rfl rfl inlX12 tyX12_ok nmX12 0 (by decide) m_9_18 rfl rfl rfl rfl rfl dX12_assemble_2 (fun H locs hP hD hS => ?_)
  have hok : okM (uI t 0 0 0) := ⟨okI_I hok.1 0 0 0 (show (0 : Int) ≤ (0 : Int32).toInt ∧ (0 : Int32).toInt ≤ 1 from ⟨by decide, by decide⟩), hok.2.1, hok.2.2.1, hok.2.2.2.1, hok.2.2.2.2.1, hok.2.2.2.2.2.1, hok.2.2.2.2.2.2.1, trivial⟩
  have hfr : frA [(0, 0), (0, 2), (0, 5), (0, 6), (0, 7), (0, 9), (0, 10), (0, 11), (0, 12), (0, 38), (0, 41), (0, 42), (0, 43), (0, 44), (0, 45), (0, 46), (0, 47), (0, 48), (0, 51), (0, 52), (0, 60), (0, 67), (0, 68), (0, 69), (0, 70), (0, 71), (0, 72), (0, 73), (0, 91)] [(0, 8)] [2, 3, 5, 18, 19, 20, 21, 22, 24, 25, 26, 27, 28, 29, 30, 31, 32, 33, 34, 35, 44] [4, 23] t (uI t 0 0 0) := frA_I hfr 0 0 _ rfl
  refine lv_aload_n C.1 C.2.1 dX12_assemble_5 rfl (lv_at hl 0 rfl) ?_
  refine lv_aload_n C.1 C.2.1 dX12_assemble_6 rfl (lv_at hl 0 rfl) ?_
  refine k_get (v := .ref (ad 1)) C hP 0 rfl rfl inlX12 1 (by decide) m_7_4 rfl dX12_assemble_7 ?_
  refine lv_aload_n C.1 C.2.1 dX12_assemble_10 rfl (lv_at hl 0 rfl) ?_
  have h_1 : (0 : Int) ≤ (t.1 0 2).toInt ∧ (t.1 0 2).toInt ≤ 1280 := hok.1 0 2
  refine k_get (v := .int (t.1 0 2)) C hP 0 rfl rfl inlX12 2 (by decide) m_9_19 rfl dX12_assemble_11 ?_
  refine g_Vv (As := [.ref (ad 1), .int (t.1 0 2)]) (rest := []) C hP hD hS hA (T_X12_copyText l D K Z Y ad (uI t 0 0 0) hok ((t.1 0 2)) (show (0 : Int) ≤ ((t.1 0 2) : Int32).toInt ∧ ((t.1 0 2) : Int32).toInt ≤ 1280 from ⟨by omega, by omega⟩)) hE hZ (uwV m_29_2 m_29_3 m_29_4 m_1_5 m_29_5) (hdV 2 (by decide +kernel) rfl) ⟨Nat.le_of_ble_eq_true rfl, Nat.le_of_ble_eq_true rfl⟩ rfl rfl (ci := 11) (q0 := 0) rfl rfl rfl hl.1 (Nat.le_of_ble_eq_true rfl) dX12_assemble_14 ⟨Nat.le_of_ble_eq_true rfl, Nat.le_of_ble_eq_true rfl⟩ (fun t_2 H locs hw hP hD hS => ?_)
  obtain ⟨hok, f_4⟩ := hw
  have hfr : frA [(0, 0), (0, 2), (0, 5), (0, 6), (0, 7), (0, 9), (0, 10), (0, 11), (0, 12), (0, 38), (0, 41), (0, 42), (0, 43), (0, 44), (0, 45), (0, 46), (0, 47), (0, 48), (0, 51), (0, 52), (0, 60), (0, 67), (0, 68), (0, 69), (0, 70), (0, 71), (0, 72), (0, 73), (0, 91)] [(0, 8)] [2, 3, 5, 18, 19, 20, 21, 22, 24, 25, 26, 27, 28, 29, 30, 31, 32, 33, 34, 35, 44] [4, 23] t t_2 := frA_tr hfr f_4 rfl
  have h_5 : (t_2.1 0 0).toInt = 0 := by rw [show (t_2.1 0 0) = (0 : Int32) from f_4.1 0 0 rfl]; rfl
  have h_6 : (t_2.1 0 2).toInt = (t.1 0 2).toInt := ti_eq (f_4.1 0 2 rfl)
  have h_7 : (t_2.2.1 0 8).toInt = (t.2.1 0 8).toInt := tl_eq (f_4.2.1 0 8 rfl)
  refine lv_aload_n C.1 C.2.1 dX12_assemble_17 rfl (lv_at hl 0 rfl) ?_
  refine lv_iconst (v := 0) C.1 C.2.1 dX12_assemble_18 (by decide) ?_
  refine k_put (ws' := WM K ad (uI t_2 0 2 0)) (v := .int 0) C hP hD hS 0 rfl rfl inlX12 tyX12_ok nmX12 2 (by decide) m_9_19 rfl rfl rfl rfl rfl dX12_assemble_19 (fun H locs hP hD hS => ?_)
  have hok : okM (uI t_2 0 2 0) := ⟨okI_I hok.1 0 2 0 (show (0 : Int) ≤ (0 : Int32).toInt ∧ (0 : Int32).toInt ≤ 1280 from ⟨by decide, by decide⟩), hok.2.1, hok.2.2.1, hok.2.2.2.1, hok.2.2.2.2.1, hok.2.2.2.2.2.1, hok.2.2.2.2.2.2.1, trivial⟩
  have hfr : frA [(0, 0), (0, 2), (0, 5), (0, 6), (0, 7), (0, 9), (0, 10), (0, 11), (0, 12), (0, 38), (0, 41), (0, 42), (0, 43), (0, 44), (0, 45), (0, 46), (0, 47), (0, 48), (0, 51), (0, 52), (0, 60), (0, 67), (0, 68), (0, 69), (0, 70), (0, 71), (0, 72), (0, 73), (0, 91)] [(0, 8)] [2, 3, 5, 18, 19, 20, 21, 22, 24, 25, 26, 27, 28, 29, 30, 31, 32, 33, 34, 35, 44] [4, 23] t (uI t_2 0 2 0) := frA_I hfr 0 2 _ rfl
  refine lv_aload_n C.1 C.2.1 dX12_assemble_22 rfl (lv_at hl 0 rfl) ?_
  refine lv_iconst (v := 0) C.1 C.2.1 dX12_assemble_23 (by decide) ?_
  refine k_put (ws' := WM K ad (uI (uI t_2 0 2 0) 0 46 0)) (v := .int 0) C hP hD hS 0 rfl rfl inlX12 tyX12_ok nmX12 46 (by decide) m_28_22 rfl (by decide) (by decide) rfl rfl dX12_assemble_24 (fun H locs hP hD hS => ?_)
  have hok : okM (uI (uI t_2 0 2 0) 0 46 0) := ⟨okI_I hok.1 0 46 0 (show (0 : Int) ≤ (0 : Int32).toInt ∧ (0 : Int32).toInt ≤ 1 from ⟨by decide, by decide⟩), hok.2.1, hok.2.2.1, hok.2.2.2.1, hok.2.2.2.2.1, hok.2.2.2.2.2.1, hok.2.2.2.2.2.2.1, trivial⟩
  have hfr : frA [(0, 0), (0, 2), (0, 5), (0, 6), (0, 7), (0, 9), (0, 10), (0, 11), (0, 12), (0, 38), (0, 41), (0, 42), (0, 43), (0, 44), (0, 45), (0, 46), (0, 47), (0, 48), (0, 51), (0, 52), (0, 60), (0, 67), (0, 68), (0, 69), (0, 70), (0, 71), (0, 72), (0, 73), (0, 91)] [(0, 8)] [2, 3, 5, 18, 19, 20, 21, 22, 24, 25, 26, 27, 28, 29, 30, 31, 32, 33, 34, 35, 44] [4, 23] t (uI (uI t_2 0 2 0) 0 46 0) := frA_I hfr 0 46 _ rfl
  refine lv_aload_n C.1 C.2.1 dX12_assemble_27 rfl (lv_at hl 0 rfl) ?_
  refine g_Vi (As := []) (rest := []) C hP hD hS hA (T_X12_assembleText l D K Z Y ad (uI (uI t_2 0 2 0) 0 46 0) hok ) hE hZ (uwV m_29_7 m_29_8 m_29_9 m_1_5 m_29_10) (hdV 0 (by decide +kernel) rfl) ⟨Nat.le_of_ble_eq_true rfl, Nat.le_of_ble_eq_true rfl⟩ rfl rfl (ci := 11) (q0 := 0) rfl rfl rfl hl.1 (Nat.le_of_ble_eq_true rfl) dX12_assemble_28 ⟨Nat.le_of_ble_eq_true rfl, Nat.le_of_ble_eq_true rfl⟩ (fun r_9 t_8 H locs hw hP hD hS => ?_)
  obtain ⟨hok, f_10, h_11, h_12, p_13, p_14⟩ := hw
  have hfr : frA [(0, 0), (0, 2), (0, 5), (0, 6), (0, 7), (0, 9), (0, 10), (0, 11), (0, 12), (0, 38), (0, 41), (0, 42), (0, 43), (0, 44), (0, 45), (0, 46), (0, 47), (0, 48), (0, 51), (0, 52), (0, 60), (0, 67), (0, 68), (0, 69), (0, 70), (0, 71), (0, 72), (0, 73), (0, 91)] [(0, 8)] [2, 3, 5, 18, 19, 20, 21, 22, 24, 25, 26, 27, 28, 29, 30, 31, 32, 33, 34, 35, 44] [4, 23] t t_8 := frA_tr hfr f_10 rfl
  have h_15 : (t_8.1 0 0).toInt = (t_2.1 0 0).toInt := ti_eq (f_10.1 0 0 rfl)
  have h_16 : (t_8.1 0 2).toInt = 0 := by rw [show (t_8.1 0 2) = (0 : Int32) from f_10.1 0 2 rfl]; rfl
  have h_17 : (t_8.1 0 46).toInt = 0 := by rw [show (t_8.1 0 46) = (0 : Int32) from f_10.1 0 46 rfl]; rfl
  replace p_13 : (t_8.2.1 0 8).toInt = 0 := p_13
  replace p_14 : bz (t_8.2.2.2 4) 20 := p_14
  refine lv_if_ne (tgt := 41) C.1 C.2.1 dX12_assemble_31 (by decide) (fun c_18 => ?_) (fun c_18 => ?_)
  · replace c_18 : ¬ r_9.toInt = 0 := i_ne c_18
    refine lv_aload_n C.1 C.2.1 dX12_assemble_41 rfl (lv_at hl 0 rfl) ?_
    refine lv_aload_n C.1 C.2.1 dX12_assemble_42 rfl (lv_at hl 0 rfl) ?_
    have h_19 : (-3999 : Int) ≤ (t_8.1 0 45).toInt ∧ (t_8.1 0 45).toInt ≤ 3999 := hok.1 0 45
    refine k_get (v := .int (t_8.1 0 45)) C hP 0 rfl rfl inlX12 45 (by decide) m_29_0 rfl dX12_assemble_43 ?_
    refine g_Vv (As := [.int (t_8.1 0 45)]) (rest := []) C hP hD hS hA (T_X12_startAt l D K Z Y ad t_8 hok ((t_8.1 0 45)) (show (-3999 : Int) ≤ ((t_8.1 0 45) : Int32).toInt ∧ ((t_8.1 0 45) : Int32).toInt ≤ 3999 from ⟨by omega, by omega⟩)) hE hZ (uwV m_40_1 m_40_2 m_40_3 m_1_5 m_40_4) (hdV 1 (by decide +kernel) rfl) ⟨Nat.le_of_ble_eq_true rfl, Nat.le_of_ble_eq_true rfl⟩ rfl rfl (ci := 11) (q0 := 0) rfl rfl rfl hl.1 (Nat.le_of_ble_eq_true rfl) dX12_assemble_46 ⟨Nat.le_of_ble_eq_true rfl, Nat.le_of_ble_eq_true rfl⟩ (fun t_20 H locs hw hP hD hS => ?_)
    obtain ⟨hok, f_22⟩ := hw
    have hfr : frA [(0, 0), (0, 2), (0, 5), (0, 6), (0, 7), (0, 9), (0, 10), (0, 11), (0, 12), (0, 38), (0, 41), (0, 42), (0, 43), (0, 44), (0, 45), (0, 46), (0, 47), (0, 48), (0, 51), (0, 52), (0, 60), (0, 67), (0, 68), (0, 69), (0, 70), (0, 71), (0, 72), (0, 73), (0, 91)] [(0, 8)] [2, 3, 5, 18, 19, 20, 21, 22, 24, 25, 26, 27, 28, 29, 30, 31, 32, 33, 34, 35, 44] [4, 23] t t_20 := frA_tr hfr f_22 rfl
    have h_23 : (t_20.1 0 0).toInt = (t_8.1 0 0).toInt := ti_eq (f_22.1 0 0 rfl)
    have h_24 : (t_20.1 0 2).toInt = (t_8.1 0 2).toInt := ti_eq (f_22.1 0 2 rfl)
    have h_25 : (t_20.1 0 46).toInt = (t_8.1 0 46).toInt := ti_eq (f_22.1 0 46 rfl)
    have h_26 : (t_20.1 0 45).toInt = (t_8.1 0 45).toInt := ti_eq (f_22.1 0 45 rfl)
    have h_27 : (t_20.2.1 0 8).toInt = (t_8.2.1 0 8).toInt := tl_eq (f_22.2.1 0 8 rfl)
    refine lv_aload_n C.1 C.2.1 dX12_assemble_49 rfl (lv_at hl 0 rfl) ?_
    refine k_get (v := .int (t_20.1 0 48)) C hP 0 rfl rfl inlX12 48 (by decide) m_29_1 rfl dX12_assemble_50 ?_
    exact g_iret C hr hlocks hP hD hS rfl t_20 rfl ⟨hok, hfr, (i_rng _).1, (i_rng _).2, (show (t_20.1 0 2).toInt = 0 from by omega)⟩ (Nat.le_of_ble_eq_true rfl) (Nat.le_of_ble_eq_true rfl) dX12_assemble_53
  · replace c_18 : r_9.toInt = 0 := i_eq c_18
    refine lv_iconst (v := (-1)) C.1 C.2.1 dX12_assemble_34 (by decide) ?_
    refine lv_aload_n C.1 C.2.1 dX12_assemble_35 rfl (lv_at hl 0 rfl) ?_
    have h_28 : (0 : Int) ≤ (t_8.1 0 44).toInt ∧ (t_8.1 0 44).toInt ≤ 4000 := hok.1 0 44
    refine k_get (v := .int (t_8.1 0 44)) C hP 0 rfl rfl inlX12 44 (by decide) m_28_23 rfl dX12_assemble_36 ?_
    obtain ⟨v_29, e_30⟩ : ∃ z, z = ((-1) : Int32) - ((t_8.1 0 44) : Int32) := ⟨_, rfl⟩
    have h_31 : v_29.toInt = (-1) - (t_8.1 0 44).toInt := by rw [e_30]; exact ti_isub (by show (_ : Int) ≤ (-1) - (t_8.1 0 44).toInt; omega) (by show (-1) - (t_8.1 0 44).toInt < (_ : Int); omega)
    refine k_isub (v := v_29) C e_30.symm dX12_assemble_39 ?_
    exact g_iret C hr hlocks hP hD hS rfl t_8 rfl ⟨hok, hfr, (i_rng _).1, (i_rng _).2, (show (t_8.1 0 2).toInt = 0 from by omega)⟩ (Nat.le_of_ble_eq_true rfl) (Nat.le_of_ble_eq_true rfl) dX12_assemble_40

theorem dX12_errors_0 : decode cX12_errors 0 = .ok (.aload_n 0, 1) := by decide +kernel
theorem dX12_errors_1 : decode cX12_errors 1 = .ok (.iconst 0, 1) := by decide +kernel
theorem dX12_errors_10 : decode cX12_errors 10 = .ok (.aload_n 0, 1) := by decide +kernel
theorem dX12_errors_11 : decode cX12_errors 11 = .ok (.getfield 176, 3) := by decide +kernel
theorem dX12_errors_14 : decode cX12_errors 14 = .ok (.invokevirtual 657, 3) := by decide +kernel
theorem dX12_errors_17 : decode cX12_errors 17 = .ok (.aload_n 0, 1) := by decide +kernel
theorem dX12_errors_18 : decode cX12_errors 18 = .ok (.iconst 0, 1) := by decide +kernel
theorem dX12_errors_19 : decode cX12_errors 19 = .ok (.putfield 176, 3) := by decide +kernel
theorem dX12_errors_2 : decode cX12_errors 2 = .ok (.putfield 155, 3) := by decide +kernel
theorem dX12_errors_22 : decode cX12_errors 22 = .ok (.aload_n 0, 1) := by decide +kernel
theorem dX12_errors_23 : decode cX12_errors 23 = .ok (.iconst 0, 1) := by decide +kernel
theorem dX12_errors_24 : decode cX12_errors 24 = .ok (.putfield 596, 3) := by decide +kernel
theorem dX12_errors_27 : decode cX12_errors 27 = .ok (.aload_n 0, 1) := by decide +kernel
theorem dX12_errors_28 : decode cX12_errors 28 = .ok (.invokevirtual 673, 3) := by decide +kernel
theorem dX12_errors_31 : decode cX12_errors 31 = .ok (.ireturn, 1) := by decide +kernel
theorem dX12_errors_5 : decode cX12_errors 5 = .ok (.aload_n 0, 1) := by decide +kernel
theorem dX12_errors_6 : decode cX12_errors 6 = .ok (.aload_n 0, 1) := by decide +kernel
theorem dX12_errors_7 : decode cX12_errors 7 = .ok (.getfield 9, 3) := by decide +kernel
set_option maxHeartbeats 4000000 in
set_option maxRecDepth 100000 in
theorem T_X12_errors (l : Launch) (D : va_G) (K : Nat → ClassId) (Z Y : Nat → Nat) (ad : Nat → Nat) (t : tSt) (hok : okM t)  : tMet l yX12_errors cX12_errors 1 (some .int) (rmD 19 0 0) D K Z Y [.ref (ad 0)] (WM K ad t) (QI D K (fun (r : Int32) (u : tSt) => okM u ∧ frA [(0, 0), (0, 2), (0, 5), (0, 6), (0, 7), (0, 9), (0, 10), (0, 11), (0, 12), (0, 30), (0, 38), (0, 41), (0, 42), (0, 43), (0, 45), (0, 46), (0, 47), (0, 48), (0, 52), (0, 60), (0, 67), (0, 68), (0, 69), (0, 70), (0, 71), (0, 72), (0, 73), (0, 91)] [(0, 8)] [2, 3, 5, 11, 12, 13, 14, 18, 19, 20, 21, 22, 24, 25, 26, 27, 28, 29, 30, 31, 32, 33, 34, 35, 44] [4, 23] t u ∧ (-2147483648 : Int) ≤ r.toInt ∧ r.toInt ≤ 2147483647 ∧ ((u.1 0 2).toInt = 0)) (fun (u : tSt) => WM K ad u)) 0 0 := by
  refine t_met RX12 ⟨rfl, by decide +kernel⟩ (Nat.le_of_ble_eq_true rfl) ?_
  intro p e s m below meth c A ls C hE hZ hr hlocks hA hP hD hS hl
  have hl : lv_has ls 1 [(0, .ref (ad 0))] := hl
  have hokt := hok
  have hfr : frA [(0, 0), (0, 2), (0, 5), (0, 6), (0, 7), (0, 9), (0, 10), (0, 11), (0, 12), (0, 30), (0, 38), (0, 41), (0, 42), (0, 43), (0, 45), (0, 46), (0, 47), (0, 48), (0, 52), (0, 60), (0, 67), (0, 68), (0, 69), (0, 70), (0, 71), (0, 72), (0, 73), (0, 91)] [(0, 8)] [2, 3, 5, 11, 12, 13, 14, 18, 19, 20, 21, 22, 24, 25, 26, 27, 28, 29, 30, 31, 32, 33, 34, 35, 44] [4, 23] t t := frA_rf
  refine lv_aload_n C.1 C.2.1 dX12_errors_0 rfl (lv_at hl 0 rfl) ?_
  refine lv_iconst (v := 0) C.1 C.2.1 dX12_errors_1 (by decide) ?_
  refine k_put (ws' := WM K ad (uI t 0 0 0)) (v := .int 0) C hP hD hS 0 rfl rfl inlX12 tyX12_ok nmX12 0 (by decide) m_9_18 rfl rfl rfl rfl rfl dX12_errors_2 (fun H locs hP hD hS => ?_)
  have hok : okM (uI t 0 0 0) := ⟨okI_I hok.1 0 0 0 (show (0 : Int) ≤ (0 : Int32).toInt ∧ (0 : Int32).toInt ≤ 1 from ⟨by decide, by decide⟩), hok.2.1, hok.2.2.1, hok.2.2.2.1, hok.2.2.2.2.1, hok.2.2.2.2.2.1, hok.2.2.2.2.2.2.1, trivial⟩
  have hfr : frA [(0, 0), (0, 2), (0, 5), (0, 6), (0, 7), (0, 9), (0, 10), (0, 11), (0, 12), (0, 30), (0, 38), (0, 41), (0, 42), (0, 43), (0, 45), (0, 46), (0, 47), (0, 48), (0, 52), (0, 60), (0, 67), (0, 68), (0, 69), (0, 70), (0, 71), (0, 72), (0, 73), (0, 91)] [(0, 8)] [2, 3, 5, 11, 12, 13, 14, 18, 19, 20, 21, 22, 24, 25, 26, 27, 28, 29, 30, 31, 32, 33, 34, 35, 44] [4, 23] t (uI t 0 0 0) := frA_I hfr 0 0 _ rfl
  refine lv_aload_n C.1 C.2.1 dX12_errors_5 rfl (lv_at hl 0 rfl) ?_
  refine lv_aload_n C.1 C.2.1 dX12_errors_6 rfl (lv_at hl 0 rfl) ?_
  refine k_get (v := .ref (ad 1)) C hP 0 rfl rfl inlX12 1 (by decide) m_7_4 rfl dX12_errors_7 ?_
  refine lv_aload_n C.1 C.2.1 dX12_errors_10 rfl (lv_at hl 0 rfl) ?_
  have h_1 : (0 : Int) ≤ (t.1 0 2).toInt ∧ (t.1 0 2).toInt ≤ 1280 := hok.1 0 2
  refine k_get (v := .int (t.1 0 2)) C hP 0 rfl rfl inlX12 2 (by decide) m_9_19 rfl dX12_errors_11 ?_
  refine g_Vv (As := [.ref (ad 1), .int (t.1 0 2)]) (rest := []) C hP hD hS hA (T_X12_copyText l D K Z Y ad (uI t 0 0 0) hok ((t.1 0 2)) (show (0 : Int) ≤ ((t.1 0 2) : Int32).toInt ∧ ((t.1 0 2) : Int32).toInt ≤ 1280 from ⟨by omega, by omega⟩)) hE hZ (uwV m_29_2 m_29_3 m_29_4 m_1_5 m_29_5) (hdV 2 (by decide +kernel) rfl) ⟨Nat.le_of_ble_eq_true rfl, Nat.le_of_ble_eq_true rfl⟩ rfl rfl (ci := 11) (q0 := 0) rfl rfl rfl hl.1 (Nat.le_of_ble_eq_true rfl) dX12_errors_14 ⟨Nat.le_of_ble_eq_true rfl, Nat.le_of_ble_eq_true rfl⟩ (fun t_2 H locs hw hP hD hS => ?_)
  obtain ⟨hok, f_4⟩ := hw
  have hfr : frA [(0, 0), (0, 2), (0, 5), (0, 6), (0, 7), (0, 9), (0, 10), (0, 11), (0, 12), (0, 30), (0, 38), (0, 41), (0, 42), (0, 43), (0, 45), (0, 46), (0, 47), (0, 48), (0, 52), (0, 60), (0, 67), (0, 68), (0, 69), (0, 70), (0, 71), (0, 72), (0, 73), (0, 91)] [(0, 8)] [2, 3, 5, 11, 12, 13, 14, 18, 19, 20, 21, 22, 24, 25, 26, 27, 28, 29, 30, 31, 32, 33, 34, 35, 44] [4, 23] t t_2 := frA_tr hfr f_4 rfl
  have h_5 : (t_2.1 0 0).toInt = 0 := by rw [show (t_2.1 0 0) = (0 : Int32) from f_4.1 0 0 rfl]; rfl
  have h_6 : (t_2.1 0 2).toInt = (t.1 0 2).toInt := ti_eq (f_4.1 0 2 rfl)
  have h_7 : (t_2.2.1 0 8).toInt = (t.2.1 0 8).toInt := tl_eq (f_4.2.1 0 8 rfl)
  refine lv_aload_n C.1 C.2.1 dX12_errors_17 rfl (lv_at hl 0 rfl) ?_
  refine lv_iconst (v := 0) C.1 C.2.1 dX12_errors_18 (by decide) ?_
  refine k_put (ws' := WM K ad (uI t_2 0 2 0)) (v := .int 0) C hP hD hS 0 rfl rfl inlX12 tyX12_ok nmX12 2 (by decide) m_9_19 rfl rfl rfl rfl rfl dX12_errors_19 (fun H locs hP hD hS => ?_)
  have hok : okM (uI t_2 0 2 0) := ⟨okI_I hok.1 0 2 0 (show (0 : Int) ≤ (0 : Int32).toInt ∧ (0 : Int32).toInt ≤ 1280 from ⟨by decide, by decide⟩), hok.2.1, hok.2.2.1, hok.2.2.2.1, hok.2.2.2.2.1, hok.2.2.2.2.2.1, hok.2.2.2.2.2.2.1, trivial⟩
  have hfr : frA [(0, 0), (0, 2), (0, 5), (0, 6), (0, 7), (0, 9), (0, 10), (0, 11), (0, 12), (0, 30), (0, 38), (0, 41), (0, 42), (0, 43), (0, 45), (0, 46), (0, 47), (0, 48), (0, 52), (0, 60), (0, 67), (0, 68), (0, 69), (0, 70), (0, 71), (0, 72), (0, 73), (0, 91)] [(0, 8)] [2, 3, 5, 11, 12, 13, 14, 18, 19, 20, 21, 22, 24, 25, 26, 27, 28, 29, 30, 31, 32, 33, 34, 35, 44] [4, 23] t (uI t_2 0 2 0) := frA_I hfr 0 2 _ rfl
  refine lv_aload_n C.1 C.2.1 dX12_errors_22 rfl (lv_at hl 0 rfl) ?_
  refine lv_iconst (v := 0) C.1 C.2.1 dX12_errors_23 (by decide) ?_
  refine k_put (ws' := WM K ad (uI (uI t_2 0 2 0) 0 46 0)) (v := .int 0) C hP hD hS 0 rfl rfl inlX12 tyX12_ok nmX12 46 (by decide) m_28_22 rfl (by decide) (by decide) rfl rfl dX12_errors_24 (fun H locs hP hD hS => ?_)
  have hok : okM (uI (uI t_2 0 2 0) 0 46 0) := ⟨okI_I hok.1 0 46 0 (show (0 : Int) ≤ (0 : Int32).toInt ∧ (0 : Int32).toInt ≤ 1 from ⟨by decide, by decide⟩), hok.2.1, hok.2.2.1, hok.2.2.2.1, hok.2.2.2.2.1, hok.2.2.2.2.2.1, hok.2.2.2.2.2.2.1, trivial⟩
  have hfr : frA [(0, 0), (0, 2), (0, 5), (0, 6), (0, 7), (0, 9), (0, 10), (0, 11), (0, 12), (0, 30), (0, 38), (0, 41), (0, 42), (0, 43), (0, 45), (0, 46), (0, 47), (0, 48), (0, 52), (0, 60), (0, 67), (0, 68), (0, 69), (0, 70), (0, 71), (0, 72), (0, 73), (0, 91)] [(0, 8)] [2, 3, 5, 11, 12, 13, 14, 18, 19, 20, 21, 22, 24, 25, 26, 27, 28, 29, 30, 31, 32, 33, 34, 35, 44] [4, 23] t (uI (uI t_2 0 2 0) 0 46 0) := frA_I hfr 0 46 _ rfl
  refine lv_aload_n C.1 C.2.1 dX12_errors_27 rfl (lv_at hl 0 rfl) ?_
  refine g_Vi (As := []) (rest := []) C hP hD hS hA (T_X12_goOver l D K Z Y ad (uI (uI t_2 0 2 0) 0 46 0) hok ) hE hZ (uwV m_41_20 m_41_21 m_41_22 m_1_5 m_41_23) (hdV 0 (by decide +kernel) rfl) ⟨Nat.le_of_ble_eq_true rfl, Nat.le_of_ble_eq_true rfl⟩ rfl rfl (ci := 11) (q0 := 0) rfl rfl rfl hl.1 (Nat.le_of_ble_eq_true rfl) dX12_errors_28 ⟨Nat.le_of_ble_eq_true rfl, Nat.le_of_ble_eq_true rfl⟩ (fun r_9 t_8 H locs hw hP hD hS => ?_)
  obtain ⟨hok, f_10, h_11, h_12, p_13, p_14⟩ := hw
  have hfr : frA [(0, 0), (0, 2), (0, 5), (0, 6), (0, 7), (0, 9), (0, 10), (0, 11), (0, 12), (0, 30), (0, 38), (0, 41), (0, 42), (0, 43), (0, 45), (0, 46), (0, 47), (0, 48), (0, 52), (0, 60), (0, 67), (0, 68), (0, 69), (0, 70), (0, 71), (0, 72), (0, 73), (0, 91)] [(0, 8)] [2, 3, 5, 11, 12, 13, 14, 18, 19, 20, 21, 22, 24, 25, 26, 27, 28, 29, 30, 31, 32, 33, 34, 35, 44] [4, 23] t t_8 := frA_tr hfr f_10 rfl
  have h_15 : (t_8.1 0 0).toInt = (t_2.1 0 0).toInt := ti_eq (f_10.1 0 0 rfl)
  have h_16 : (t_8.1 0 2).toInt = 0 := by rw [show (t_8.1 0 2) = (0 : Int32) from f_10.1 0 2 rfl]; rfl
  have h_17 : (t_8.1 0 46).toInt = 0 := by rw [show (t_8.1 0 46) = (0 : Int32) from f_10.1 0 46 rfl]; rfl
  replace p_13 : (t_8.2.1 0 8).toInt = 0 := p_13
  replace p_14 : bz (t_8.2.2.2 4) 20 := p_14
  exact g_iret C hr hlocks hP hD hS rfl t_8 rfl ⟨hok, hfr, (i_rng _).1, (i_rng _).2, (show (t_8.1 0 2).toInt = 0 from by omega)⟩ (Nat.le_of_ble_eq_true rfl) (Nat.le_of_ble_eq_true rfl) dX12_errors_31

theorem dX12_doJob_0 : decode cX12_doJob 0 = .ok (.aload_n 0, 1) := by decide +kernel
theorem dX12_doJob_1 : decode cX12_doJob 1 = .ok (.iload_n 1, 1) := by decide +kernel
theorem dX12_doJob_100 : decode cX12_doJob 100 = .ok (.iinc 5 1, 3) := by decide +kernel
theorem dX12_doJob_103 : decode cX12_doJob 103 = .ok (.goto (-43), 3) := by decide +kernel
theorem dX12_doJob_106 : decode cX12_doJob 106 = .ok (.iload_n 1, 1) := by decide +kernel
theorem dX12_doJob_107 : decode cX12_doJob 107 = .ok (.iconst 1, 1) := by decide +kernel
theorem dX12_doJob_108 : decode cX12_doJob 108 = .ok (.iadd, 1) := by decide +kernel
theorem dX12_doJob_109 : decode cX12_doJob 109 = .ok (.iload_n 2, 1) := by decide +kernel
theorem dX12_doJob_110 : decode cX12_doJob 110 = .ok (.if_icmp .ge 20, 3) := by decide +kernel
theorem dX12_doJob_113 : decode cX12_doJob 113 = .ok (.aload_n 0, 1) := by decide +kernel
theorem dX12_doJob_114 : decode cX12_doJob 114 = .ok (.iload_n 1, 1) := by decide +kernel
theorem dX12_doJob_115 : decode cX12_doJob 115 = .ok (.iconst 1, 1) := by decide +kernel
theorem dX12_doJob_116 : decode cX12_doJob 116 = .ok (.iadd, 1) := by decide +kernel
theorem dX12_doJob_117 : decode cX12_doJob 117 = .ok (.ldc_w 791, 3) := by decide +kernel
theorem dX12_doJob_12 : decode cX12_doJob 12 = .ok (.aload_n 0, 1) := by decide +kernel
theorem dX12_doJob_120 : decode cX12_doJob 120 = .ok (.invokevirtual 730, 3) := by decide +kernel
theorem dX12_doJob_123 : decode cX12_doJob 123 = .ok (.ifCond .eq 7, 3) := by decide +kernel
theorem dX12_doJob_126 : decode cX12_doJob 126 = .ok (.iconst 1, 1) := by decide +kernel
theorem dX12_doJob_127 : decode cX12_doJob 127 = .ok (.goto 4, 3) := by decide +kernel
theorem dX12_doJob_13 : decode cX12_doJob 13 = .ok (.invokevirtual 639, 3) := by decide +kernel
theorem dX12_doJob_130 : decode cX12_doJob 130 = .ok (.iconst 0, 1) := by decide +kernel
theorem dX12_doJob_131 : decode cX12_doJob 131 = .ok (.istore 5, 2) := by decide +kernel
theorem dX12_doJob_133 : decode cX12_doJob 133 = .ok (.iload_n 1, 1) := by decide +kernel
theorem dX12_doJob_134 : decode cX12_doJob 134 = .ok (.iconst 1, 1) := by decide +kernel
theorem dX12_doJob_135 : decode cX12_doJob 135 = .ok (.iadd, 1) := by decide +kernel
theorem dX12_doJob_136 : decode cX12_doJob 136 = .ok (.iload_n 2, 1) := by decide +kernel
theorem dX12_doJob_137 : decode cX12_doJob 137 = .ok (.if_icmp .ge 20, 3) := by decide +kernel
theorem dX12_doJob_140 : decode cX12_doJob 140 = .ok (.aload_n 0, 1) := by decide +kernel
theorem dX12_doJob_141 : decode cX12_doJob 141 = .ok (.iload_n 1, 1) := by decide +kernel
theorem dX12_doJob_142 : decode cX12_doJob 142 = .ok (.iconst 1, 1) := by decide +kernel
theorem dX12_doJob_143 : decode cX12_doJob 143 = .ok (.iadd, 1) := by decide +kernel
theorem dX12_doJob_144 : decode cX12_doJob 144 = .ok (.ldc_w 793, 3) := by decide +kernel
theorem dX12_doJob_147 : decode cX12_doJob 147 = .ok (.invokevirtual 730, 3) := by decide +kernel
theorem dX12_doJob_150 : decode cX12_doJob 150 = .ok (.ifCond .eq 7, 3) := by decide +kernel
theorem dX12_doJob_153 : decode cX12_doJob 153 = .ok (.iconst 1, 1) := by decide +kernel
theorem dX12_doJob_154 : decode cX12_doJob 154 = .ok (.goto 4, 3) := by decide +kernel
theorem dX12_doJob_157 : decode cX12_doJob 157 = .ok (.iconst 0, 1) := by decide +kernel
theorem dX12_doJob_158 : decode cX12_doJob 158 = .ok (.istore 6, 2) := by decide +kernel
theorem dX12_doJob_16 : decode cX12_doJob 16 = .ok (.iconst 0, 1) := by decide +kernel
theorem dX12_doJob_160 : decode cX12_doJob 160 = .ok (.iconst 0, 1) := by decide +kernel
theorem dX12_doJob_161 : decode cX12_doJob 161 = .ok (.istore 7, 2) := by decide +kernel
theorem dX12_doJob_163 : decode cX12_doJob 163 = .ok (.iconst 0, 1) := by decide +kernel
theorem dX12_doJob_164 : decode cX12_doJob 164 = .ok (.istore 8, 2) := by decide +kernel
theorem dX12_doJob_166 : decode cX12_doJob 166 = .ok (.iconst 0, 1) := by decide +kernel
theorem dX12_doJob_167 : decode cX12_doJob 167 = .ok (.istore 9, 2) := by decide +kernel
theorem dX12_doJob_169 : decode cX12_doJob 169 = .ok (.aload_n 0, 1) := by decide +kernel
theorem dX12_doJob_17 : decode cX12_doJob 17 = .ok (.istore 5, 2) := by decide +kernel
theorem dX12_doJob_170 : decode cX12_doJob 170 = .ok (.iconst 0, 1) := by decide +kernel
theorem dX12_doJob_171 : decode cX12_doJob 171 = .ok (.putfield 648, 3) := by decide +kernel
theorem dX12_doJob_174 : decode cX12_doJob 174 = .ok (.iload 5, 2) := by decide +kernel
theorem dX12_doJob_176 : decode cX12_doJob 176 = .ok (.ifCond .eq 20, 3) := by decide +kernel
theorem dX12_doJob_179 : decode cX12_doJob 179 = .ok (.aload_n 0, 1) := by decide +kernel
theorem dX12_doJob_180 : decode cX12_doJob 180 = .ok (.getfield 770, 3) := by decide +kernel
theorem dX12_doJob_183 : decode cX12_doJob 183 = .ok (.ifCond .eq 7, 3) := by decide +kernel
theorem dX12_doJob_186 : decode cX12_doJob 186 = .ok (.iconst 0, 1) := by decide +kernel
theorem dX12_doJob_187 : decode cX12_doJob 187 = .ok (.goto 4, 3) := by decide +kernel
theorem dX12_doJob_19 : decode cX12_doJob 19 = .ok (.iload 5, 2) := by decide +kernel
theorem dX12_doJob_190 : decode cX12_doJob 190 = .ok (.iconst 1, 1) := by decide +kernel
theorem dX12_doJob_191 : decode cX12_doJob 191 = .ok (.istore 9, 2) := by decide +kernel
theorem dX12_doJob_193 : decode cX12_doJob 193 = .ok (.goto 47, 3) := by decide +kernel
theorem dX12_doJob_196 : decode cX12_doJob 196 = .ok (.iload 6, 2) := by decide +kernel
theorem dX12_doJob_198 : decode cX12_doJob 198 = .ok (.ifCond .eq 16, 3) := by decide +kernel
theorem dX12_doJob_2 : decode cX12_doJob 2 = .ok (.invokevirtual 767, 3) := by decide +kernel
theorem dX12_doJob_201 : decode cX12_doJob 201 = .ok (.aload_n 0, 1) := by decide +kernel
theorem dX12_doJob_202 : decode cX12_doJob 202 = .ok (.iload_n 1, 1) := by decide +kernel
theorem dX12_doJob_203 : decode cX12_doJob 203 = .ok (.iconst 2, 1) := by decide +kernel
theorem dX12_doJob_204 : decode cX12_doJob 204 = .ok (.iadd, 1) := by decide +kernel
theorem dX12_doJob_205 : decode cX12_doJob 205 = .ok (.iload_n 2, 1) := by decide +kernel
theorem dX12_doJob_206 : decode cX12_doJob 206 = .ok (.invokevirtual 795, 3) := by decide +kernel
theorem dX12_doJob_209 : decode cX12_doJob 209 = .ok (.istore 9, 2) := by decide +kernel
theorem dX12_doJob_21 : decode cX12_doJob 21 = .ok (.bipush 8, 2) := by decide +kernel
theorem dX12_doJob_211 : decode cX12_doJob 211 = .ok (.goto 29, 3) := by decide +kernel
theorem dX12_doJob_214 : decode cX12_doJob 214 = .ok (.aload_n 0, 1) := by decide +kernel
theorem dX12_doJob_215 : decode cX12_doJob 215 = .ok (.iload_n 1, 1) := by decide +kernel
theorem dX12_doJob_216 : decode cX12_doJob 216 = .ok (.iconst 1, 1) := by decide +kernel
theorem dX12_doJob_217 : decode cX12_doJob 217 = .ok (.iadd, 1) := by decide +kernel
theorem dX12_doJob_218 : decode cX12_doJob 218 = .ok (.iload_n 2, 1) := by decide +kernel
theorem dX12_doJob_219 : decode cX12_doJob 219 = .ok (.invokevirtual 798, 3) := by decide +kernel
theorem dX12_doJob_222 : decode cX12_doJob 222 = .ok (.ifCond .ne 18, 3) := by decide +kernel
theorem dX12_doJob_225 : decode cX12_doJob 225 = .ok (.iconst 3, 1) := by decide +kernel
theorem dX12_doJob_226 : decode cX12_doJob 226 = .ok (.istore 7, 2) := by decide +kernel
theorem dX12_doJob_228 : decode cX12_doJob 228 = .ok (.aload_n 0, 1) := by decide +kernel
theorem dX12_doJob_229 : decode cX12_doJob 229 = .ok (.getfield 648, 3) := by decide +kernel
theorem dX12_doJob_23 : decode cX12_doJob 23 = .ok (.if_icmp .ge 17, 3) := by decide +kernel
theorem dX12_doJob_232 : decode cX12_doJob 232 = .ok (.istore 8, 2) := by decide +kernel
theorem dX12_doJob_234 : decode cX12_doJob 234 = .ok (.aload_n 0, 1) := by decide +kernel
theorem dX12_doJob_235 : decode cX12_doJob 235 = .ok (.getfield 651, 3) := by decide +kernel
theorem dX12_doJob_238 : decode cX12_doJob 238 = .ok (.istore 9, 2) := by decide +kernel
theorem dX12_doJob_240 : decode cX12_doJob 240 = .ok (.iload 7, 2) := by decide +kernel
theorem dX12_doJob_242 : decode cX12_doJob 242 = .ok (.ifCond .ne 11, 3) := by decide +kernel
theorem dX12_doJob_245 : decode cX12_doJob 245 = .ok (.iload 9, 2) := by decide +kernel
theorem dX12_doJob_247 : decode cX12_doJob 247 = .ok (.ifCond .le 6, 3) := by decide +kernel
theorem dX12_doJob_250 : decode cX12_doJob 250 = .ok (.iconst 4, 1) := by decide +kernel
theorem dX12_doJob_251 : decode cX12_doJob 251 = .ok (.istore 7, 2) := by decide +kernel
theorem dX12_doJob_253 : decode cX12_doJob 253 = .ok (.iload 7, 2) := by decide +kernel
theorem dX12_doJob_255 : decode cX12_doJob 255 = .ok (.ifCond .ne 89, 3) := by decide +kernel
theorem dX12_doJob_258 : decode cX12_doJob 258 = .ok (.iload 5, 2) := by decide +kernel
theorem dX12_doJob_26 : decode cX12_doJob 26 = .ok (.aload_n 0, 1) := by decide +kernel
theorem dX12_doJob_260 : decode cX12_doJob 260 = .ok (.ifCond .ne 8, 3) := by decide +kernel
theorem dX12_doJob_263 : decode cX12_doJob 263 = .ok (.iload 6, 2) := by decide +kernel
theorem dX12_doJob_265 : decode cX12_doJob 265 = .ok (.ifCond .eq 10, 3) := by decide +kernel
theorem dX12_doJob_268 : decode cX12_doJob 268 = .ok (.aload_n 0, 1) := by decide +kernel
theorem dX12_doJob_269 : decode cX12_doJob 269 = .ok (.invokevirtual 801, 3) := by decide +kernel
theorem dX12_doJob_27 : decode cX12_doJob 27 = .ok (.getfield 44, 3) := by decide +kernel
theorem dX12_doJob_272 : decode cX12_doJob 272 = .ok (.goto 7, 3) := by decide +kernel
theorem dX12_doJob_275 : decode cX12_doJob 275 = .ok (.aload_n 0, 1) := by decide +kernel
theorem dX12_doJob_276 : decode cX12_doJob 276 = .ok (.invokevirtual 804, 3) := by decide +kernel
theorem dX12_doJob_279 : decode cX12_doJob 279 = .ok (.aload_n 0, 1) := by decide +kernel
theorem dX12_doJob_280 : decode cX12_doJob 280 = .ok (.getfield 633, 3) := by decide +kernel
theorem dX12_doJob_283 : decode cX12_doJob 283 = .ok (.ifCond .eq 7, 3) := by decide +kernel
theorem dX12_doJob_286 : decode cX12_doJob 286 = .ok (.aload_n 0, 1) := by decide +kernel
theorem dX12_doJob_287 : decode cX12_doJob 287 = .ok (.invokevirtual 807, 3) := by decide +kernel
theorem dX12_doJob_290 : decode cX12_doJob 290 = .ok (.aload_n 0, 1) := by decide +kernel
theorem dX12_doJob_291 : decode cX12_doJob 291 = .ok (.invokevirtual 810, 3) := by decide +kernel
theorem dX12_doJob_294 : decode cX12_doJob 294 = .ok (.aload_n 0, 1) := by decide +kernel
theorem dX12_doJob_295 : decode cX12_doJob 295 = .ok (.getfield 424, 3) := by decide +kernel
theorem dX12_doJob_298 : decode cX12_doJob 298 = .ok (.ifCond .eq 7, 3) := by decide +kernel
theorem dX12_doJob_30 : decode cX12_doJob 30 = .ok (.iload 5, 2) := by decide +kernel
theorem dX12_doJob_301 : decode cX12_doJob 301 = .ok (.iconst 1, 1) := by decide +kernel
theorem dX12_doJob_302 : decode cX12_doJob 302 = .ok (.goto 16, 3) := by decide +kernel
theorem dX12_doJob_305 : decode cX12_doJob 305 = .ok (.aload_n 0, 1) := by decide +kernel
theorem dX12_doJob_306 : decode cX12_doJob 306 = .ok (.getfield 24, 3) := by decide +kernel
theorem dX12_doJob_309 : decode cX12_doJob 309 = .ok (.iconst 1, 1) := by decide +kernel
theorem dX12_doJob_310 : decode cX12_doJob 310 = .ok (.if_icmp .ne 7, 3) := by decide +kernel
theorem dX12_doJob_313 : decode cX12_doJob 313 = .ok (.iconst 0, 1) := by decide +kernel
theorem dX12_doJob_314 : decode cX12_doJob 314 = .ok (.goto 4, 3) := by decide +kernel
theorem dX12_doJob_317 : decode cX12_doJob 317 = .ok (.iconst 2, 1) := by decide +kernel
theorem dX12_doJob_318 : decode cX12_doJob 318 = .ok (.istore 7, 2) := by decide +kernel
theorem dX12_doJob_32 : decode cX12_doJob 32 = .ok (.iconst 0, 1) := by decide +kernel
theorem dX12_doJob_320 : decode cX12_doJob 320 = .ok (.iload 7, 2) := by decide +kernel
theorem dX12_doJob_322 : decode cX12_doJob 322 = .ok (.iconst 2, 1) := by decide +kernel
theorem dX12_doJob_323 : decode cX12_doJob 323 = .ok (.if_icmp .ne 12, 3) := by decide +kernel
theorem dX12_doJob_326 : decode cX12_doJob 326 = .ok (.aload_n 0, 1) := by decide +kernel
theorem dX12_doJob_327 : decode cX12_doJob 327 = .ok (.getfield 24, 3) := by decide +kernel
theorem dX12_doJob_33 : decode cX12_doJob 33 = .ok (.iastore, 1) := by decide +kernel
theorem dX12_doJob_330 : decode cX12_doJob 330 = .ok (.iconst 1, 1) := by decide +kernel
theorem dX12_doJob_331 : decode cX12_doJob 331 = .ok (.isub, 1) := by decide +kernel
theorem dX12_doJob_332 : decode cX12_doJob 332 = .ok (.goto 4, 3) := by decide +kernel
theorem dX12_doJob_335 : decode cX12_doJob 335 = .ok (.iconst 0, 1) := by decide +kernel
theorem dX12_doJob_336 : decode cX12_doJob 336 = .ok (.istore 8, 2) := by decide +kernel
theorem dX12_doJob_338 : decode cX12_doJob 338 = .ok (.aload_n 0, 1) := by decide +kernel
theorem dX12_doJob_339 : decode cX12_doJob 339 = .ok (.getfield 378, 3) := by decide +kernel
theorem dX12_doJob_34 : decode cX12_doJob 34 = .ok (.iinc 5 1, 3) := by decide +kernel
theorem dX12_doJob_342 : decode cX12_doJob 342 = .ok (.istore 9, 2) := by decide +kernel
theorem dX12_doJob_344 : decode cX12_doJob 344 = .ok (.aload_n 0, 1) := by decide +kernel
theorem dX12_doJob_345 : decode cX12_doJob 345 = .ok (.iload 7, 2) := by decide +kernel
theorem dX12_doJob_347 : decode cX12_doJob 347 = .ok (.iload 8, 2) := by decide +kernel
theorem dX12_doJob_349 : decode cX12_doJob 349 = .ok (.iload 9, 2) := by decide +kernel
theorem dX12_doJob_351 : decode cX12_doJob 351 = .ok (.invokevirtual 813, 3) := by decide +kernel
theorem dX12_doJob_354 : decode cX12_doJob 354 = .ok (.return_, 1) := by decide +kernel
theorem dX12_doJob_37 : decode cX12_doJob 37 = .ok (.goto (-18), 3) := by decide +kernel
theorem dX12_doJob_40 : decode cX12_doJob 40 = .ok (.aload_n 0, 1) := by decide +kernel
theorem dX12_doJob_41 : decode cX12_doJob 41 = .ok (.iconst 0, 1) := by decide +kernel
theorem dX12_doJob_42 : decode cX12_doJob 42 = .ok (.putfield 633, 3) := by decide +kernel
theorem dX12_doJob_45 : decode cX12_doJob 45 = .ok (.aload_n 0, 1) := by decide +kernel
theorem dX12_doJob_46 : decode cX12_doJob 46 = .ok (.iconst 0, 1) := by decide +kernel
theorem dX12_doJob_47 : decode cX12_doJob 47 = .ok (.putfield 229, 3) := by decide +kernel
theorem dX12_doJob_5 : decode cX12_doJob 5 = .ok (.istore 4, 2) := by decide +kernel
theorem dX12_doJob_50 : decode cX12_doJob 50 = .ok (.aload_n 0, 1) := by decide +kernel
theorem dX12_doJob_51 : decode cX12_doJob 51 = .ok (.iconst 0, 1) := by decide +kernel
theorem dX12_doJob_52 : decode cX12_doJob 52 = .ok (.putfield 226, 3) := by decide +kernel
theorem dX12_doJob_55 : decode cX12_doJob 55 = .ok (.iload_n 2, 1) := by decide +kernel
theorem dX12_doJob_56 : decode cX12_doJob 56 = .ok (.iconst 1, 1) := by decide +kernel
theorem dX12_doJob_57 : decode cX12_doJob 57 = .ok (.iadd, 1) := by decide +kernel
theorem dX12_doJob_58 : decode cX12_doJob 58 = .ok (.istore 5, 2) := by decide +kernel
theorem dX12_doJob_60 : decode cX12_doJob 60 = .ok (.iload 5, 2) := by decide +kernel
theorem dX12_doJob_62 : decode cX12_doJob 62 = .ok (.iload_n 3, 1) := by decide +kernel
theorem dX12_doJob_63 : decode cX12_doJob 63 = .ok (.if_icmp .ge 43, 3) := by decide +kernel
theorem dX12_doJob_66 : decode cX12_doJob 66 = .ok (.aload_n 0, 1) := by decide +kernel
theorem dX12_doJob_67 : decode cX12_doJob 67 = .ok (.iload 5, 2) := by decide +kernel
theorem dX12_doJob_69 : decode cX12_doJob 69 = .ok (.iconst 1, 1) := by decide +kernel
theorem dX12_doJob_7 : decode cX12_doJob 7 = .ok (.aload_n 0, 1) := by decide +kernel
theorem dX12_doJob_70 : decode cX12_doJob 70 = .ok (.invokevirtual 725, 3) := by decide +kernel
theorem dX12_doJob_73 : decode cX12_doJob 73 = .ok (.bipush 42, 2) := by decide +kernel
theorem dX12_doJob_75 : decode cX12_doJob 75 = .ok (.if_icmp .eq 31, 3) := by decide +kernel
theorem dX12_doJob_78 : decode cX12_doJob 78 = .ok (.aload_n 0, 1) := by decide +kernel
theorem dX12_doJob_79 : decode cX12_doJob 79 = .ok (.aload_n 0, 1) := by decide +kernel
theorem dX12_doJob_8 : decode cX12_doJob 8 = .ok (.iload_n 1, 1) := by decide +kernel
theorem dX12_doJob_80 : decode cX12_doJob 80 = .ok (.getfield 128, 3) := by decide +kernel
theorem dX12_doJob_83 : decode cX12_doJob 83 = .ok (.aload_n 0, 1) := by decide +kernel
theorem dX12_doJob_84 : decode cX12_doJob 84 = .ok (.getfield 131, 3) := by decide +kernel
theorem dX12_doJob_87 : decode cX12_doJob 87 = .ok (.iload 5, 2) := by decide +kernel
theorem dX12_doJob_89 : decode cX12_doJob 89 = .ok (.iaload, 1) := by decide +kernel
theorem dX12_doJob_9 : decode cX12_doJob 9 = .ok (.putfield 788, 3) := by decide +kernel
theorem dX12_doJob_90 : decode cX12_doJob 90 = .ok (.aload_n 0, 1) := by decide +kernel
theorem dX12_doJob_91 : decode cX12_doJob 91 = .ok (.getfield 134, 3) := by decide +kernel
theorem dX12_doJob_94 : decode cX12_doJob 94 = .ok (.iload 5, 2) := by decide +kernel
theorem dX12_doJob_96 : decode cX12_doJob 96 = .ok (.iaload, 1) := by decide +kernel
theorem dX12_doJob_97 : decode cX12_doJob 97 = .ok (.invokevirtual 721, 3) := by decide +kernel
set_option maxHeartbeats 4000000 in
set_option maxRecDepth 100000 in
theorem T_X12_doJob (l : Launch) (D : va_G) (K : Nat → ClassId) (Z Y : Nat → Nat) (ad : Nat → Nat) (t : tSt) (hok : okM t) (x1 : Int32) (hx1 : (0 : Int) ≤ x1.toInt ∧ x1.toInt ≤ 1280) (x2 : Int32) (hx2 : (1 : Int) ≤ x2.toInt ∧ x2.toInt ≤ 1280) (x3 : Int32) (hx3 : (1 : Int) ≤ x3.toInt ∧ x3.toInt ≤ 1280) (hs0 : (t.1 0 78).toInt = 6) (hs1 : (t.1 0 83).toInt ≤ 426) (hs2 : x1.toInt < x2.toInt) (hs3 : x2.toInt < x3.toInt) (hs4 : x3.toInt < (t.1 0 77).toInt) (hs5 : lnS (t.1 0 77).toInt (t.2.2.1 37) (t.2.2.1 38)) : tMet l yX12_doJob cX12_doJob 10 none (rmD 20 0 0) D K Z Y [.ref (ad 0), .int x1, .int x2, .int x3] (WM K ad t) (QV D K (fun (u : tSt) => okM u ∧ frA [(0, 5), (0, 6), (0, 7), (0, 9), (0, 10), (0, 11), (0, 12), (0, 14), (0, 15), (0, 16), (0, 17), (0, 18), (0, 30), (0, 31), (0, 35), (0, 36), (0, 38), (0, 41), (0, 42), (0, 43), (0, 44), (0, 45), (0, 46), (0, 47), (0, 48), (0, 51), (0, 52), (0, 60), (0, 67), (0, 68), (0, 69), (0, 70), (0, 71), (0, 72), (0, 73), (0, 78), (0, 79), (0, 80), (0, 81), (0, 82), (0, 83), (0, 88), (0, 90), (0, 91), (0, 93)] [(0, 8), (0, 13)] [2, 3, 5, 7, 8, 9, 10, 11, 12, 13, 14, 15, 16, 17, 18, 19, 20, 21, 22, 24, 25, 26, 27, 28, 29, 30, 31, 32, 33, 34, 35, 39, 40, 41, 42, 43, 44] [4, 6, 23] t u ∧ ((u.1 0 83).toInt = (t.1 0 83).toInt + 1) ∧ ((u.1 0 78).toInt = 6)) (fun (u : tSt) => WM K ad u)) 0 0 := by
  refine t_met RX12 ⟨rfl, by decide +kernel⟩ (Nat.le_of_ble_eq_true rfl) ?_
  intro p e s m below meth c A ls C hE hZ hr hlocks hA hP hD hS hl
  have hl : lv_has ls 10 [(0, .ref (ad 0)), (1, .int x1), (2, .int x2), (3, .int x3)] := hl
  have hokt := hok
  have hfr : frA [(0, 5), (0, 6), (0, 7), (0, 9), (0, 10), (0, 11), (0, 12), (0, 14), (0, 15), (0, 16), (0, 17), (0, 18), (0, 30), (0, 31), (0, 35), (0, 36), (0, 38), (0, 41), (0, 42), (0, 43), (0, 44), (0, 45), (0, 46), (0, 47), (0, 48), (0, 51), (0, 52), (0, 60), (0, 67), (0, 68), (0, 69), (0, 70), (0, 71), (0, 72), (0, 73), (0, 78), (0, 79), (0, 80), (0, 81), (0, 82), (0, 83), (0, 88), (0, 90), (0, 91), (0, 93)] [(0, 8), (0, 13)] [2, 3, 5, 7, 8, 9, 10, 11, 12, 13, 14, 15, 16, 17, 18, 19, 20, 21, 22, 24, 25, 26, 27, 28, 29, 30, 31, 32, 33, 34, 35, 39, 40, 41, 42, 43, 44] [4, 6, 23] t t := frA_rf
  have h_1 : (0 : Int) ≤ (t.1 0 12).toInt ∧ (t.1 0 12).toInt ≤ 1 := hok.1 0 12
  have h_2 : (0 : Int) ≤ (t.1 0 35).toInt ∧ (t.1 0 35).toInt ≤ 1700 := hok.1 0 35
  have h_3 : (0 : Int) ≤ (t.1 0 36).toInt ∧ (t.1 0 36).toInt ≤ 1700 := hok.1 0 36
  have h_4 : (0 : Int) ≤ (t.1 0 77).toInt ∧ (t.1 0 77).toInt ≤ 1280 := hok.1 0 77
  have h_5 : (0 : Int) ≤ (t.1 0 78).toInt ∧ (t.1 0 78).toInt ≤ 6 := hok.1 0 78
  have h_6 : (0 : Int) ≤ (t.1 0 83).toInt ∧ (t.1 0 83).toInt ≤ 427 := hok.1 0 83
  have L_344 : ∀ (t1 : tSt) (w344_4 : Int32) (w344_5 : Int32) (w344_6 : Int32) (w344_7 : Int32) (w344_8 : Int32) (w344_9 : Int32) (H : Heap) (locs : List Loc) (ls : Array Slot), okM t1 → frA [(0, 5), (0, 6), (0, 7), (0, 9), (0, 10), (0, 11), (0, 12), (0, 14), (0, 15), (0, 16), (0, 17), (0, 18), (0, 30), (0, 31), (0, 35), (0, 36), (0, 38), (0, 41), (0, 42), (0, 43), (0, 44), (0, 45), (0, 46), (0, 47), (0, 48), (0, 51), (0, 52), (0, 60), (0, 67), (0, 68), (0, 69), (0, 70), (0, 71), (0, 72), (0, 73), (0, 78), (0, 79), (0, 80), (0, 81), (0, 82), (0, 83), (0, 88), (0, 90), (0, 91), (0, 93)] [(0, 8), (0, 13)] [2, 3, 5, 7, 8, 9, 10, 11, 12, 13, 14, 15, 16, 17, 18, 19, 20, 21, 22, 24, 25, 26, 27, 28, 29, 30, 31, 32, 33, 34, 35, 39, 40, 41, 42, 43, 44] [4, 6, 23] t t1 → (0 : Int) ≤ w344_4.toInt ∧ w344_4.toInt ≤ 1 → (0 : Int) ≤ w344_5.toInt ∧ w344_5.toInt ≤ 1 → (0 : Int) ≤ w344_6.toInt ∧ w344_6.toInt ≤ 1 → (0 : Int) ≤ w344_7.toInt ∧ w344_7.toInt ≤ 4 → (-1 : Int) ≤ w344_8.toInt ∧ w344_8.toInt ≤ 9 → ((t1.1 0 83).toInt = (t.1 0 83).toInt) → ((t1.1 0 78).toInt = 6) → va_P D vwCl (WM K ad t1) H → va_D A (WM K ad t1) → va_S A s.heap H locs → lv_has ls 10 [(0, .ref (ad 0)), (1, .int x1), (2, .int x2), (3, .int x3), (4, .int w344_4), (5, .int w344_5), (6, .int w344_6), (7, .int w344_7), (8, .int w344_8), (9, .int w344_9)] → W p l e (rmD 20 0 0) s m [.ref (ad 0), .int x1, .int x2, .int x3].toArray below meth c H locs 0 0 (MQ below (QV D K (fun (u : tSt) => okM u ∧ frA [(0, 5), (0, 6), (0, 7), (0, 9), (0, 10), (0, 11), (0, 12), (0, 14), (0, 15), (0, 16), (0, 17), (0, 18), (0, 30), (0, 31), (0, 35), (0, 36), (0, 38), (0, 41), (0, 42), (0, 43), (0, 44), (0, 45), (0, 46), (0, 47), (0, 48), (0, 51), (0, 52), (0, 60), (0, 67), (0, 68), (0, 69), (0, 70), (0, 71), (0, 72), (0, 73), (0, 78), (0, 79), (0, 80), (0, 81), (0, 82), (0, 83), (0, 88), (0, 90), (0, 91), (0, 93)] [(0, 8), (0, 13)] [2, 3, 5, 7, 8, 9, 10, 11, 12, 13, 14, 15, 16, 17, 18, 19, 20, 21, 22, 24, 25, 26, 27, 28, 29, 30, 31, 32, 33, 34, 35, 39, 40, 41, 42, 43, 44] [4, 6, 23] t u ∧ ((u.1 0 83).toInt = (t.1 0 83).toInt + 1) ∧ ((u.1 0 78).toInt = 6)) (fun (u : tSt) => WM K ad u) A) [.ref (ad 0), .int x1, .int x2, .int x3].toArray s 0 0 A) (F0 m 344 ls []) := by
    intro t1 w344_4 w344_5 w344_6 w344_7 w344_8 w344_9 H locs ls hok hfr hw344_4 hw344_5 hw344_6 hw344_7 hw344_8 hi344_0 hi344_1 hP hD hS hl
    have h_7 : (t1.1 0 77).toInt = (t.1 0 77).toInt := ti_eq (hfr.1 0 77 rfl)
    have e_8 : t1.2.2.1 37 = t.2.2.1 37 := hfr.2.2.1 37 rfl
    have e_9 : t1.2.2.1 38 = t.2.2.1 38 := hfr.2.2.1 38 rfl
    have h_10 : (0 : Int) ≤ (t1.1 0 12).toInt ∧ (t1.1 0 12).toInt ≤ 1 := hok.1 0 12
    have h_11 : (0 : Int) ≤ (t1.1 0 35).toInt ∧ (t1.1 0 35).toInt ≤ 1700 := hok.1 0 35
    have h_12 : (0 : Int) ≤ (t1.1 0 36).toInt ∧ (t1.1 0 36).toInt ≤ 1700 := hok.1 0 36
    have h_13 : (0 : Int) ≤ (t1.1 0 77).toInt ∧ (t1.1 0 77).toInt ≤ 1280 := hok.1 0 77
    have h_14 : (0 : Int) ≤ (t1.1 0 78).toInt ∧ (t1.1 0 78).toInt ≤ 6 := hok.1 0 78
    have h_15 : (0 : Int) ≤ (t1.1 0 83).toInt ∧ (t1.1 0 83).toInt ≤ 427 := hok.1 0 83
    refine lv_aload_n C.1 C.2.1 dX12_doJob_344 rfl (lv_at hl 0 rfl) ?_
    refine lv_iload C.1 C.2.1 dX12_doJob_345 (lv_at hl 7 rfl) ?_
    refine lv_iload C.1 C.2.1 dX12_doJob_347 (lv_at hl 8 rfl) ?_
    refine lv_iload C.1 C.2.1 dX12_doJob_349 (lv_at hl 9 rfl) ?_
    refine g_Vv (As := [.int w344_7, .int w344_8, .int w344_9]) (rest := []) C hP hD hS hA (T_X12_finishJob l D K Z Y ad t1 hok (w344_7) (show (0 : Int) ≤ (w344_7 : Int32).toInt ∧ (w344_7 : Int32).toInt ≤ 4 from ⟨by omega, by omega⟩) (w344_8) (show (-1 : Int) ≤ (w344_8 : Int32).toInt ∧ (w344_8 : Int32).toInt ≤ 9 from ⟨by omega, by omega⟩) (w344_9) (show (t1.1 0 83).toInt ≤ 426 from by omega) (show (t1.1 0 78).toInt = 6 from by omega)) hE hZ (uwV m_81_15 m_81_16 m_81_17 m_1_5 m_81_18) (hdV 3 (by decide +kernel) rfl) ⟨Nat.le_of_ble_eq_true rfl, Nat.le_of_ble_eq_true rfl⟩ rfl rfl (ci := 11) (q0 := 0) rfl rfl rfl hl.1 (Nat.le_of_ble_eq_true rfl) dX12_doJob_351 ⟨Nat.le_of_ble_eq_true rfl, Nat.le_of_ble_eq_true rfl⟩ (fun t_16 H locs hw hP hD hS => ?_)
    obtain ⟨hok, f_18, p_19⟩ := hw
    have hfr : frA [(0, 5), (0, 6), (0, 7), (0, 9), (0, 10), (0, 11), (0, 12), (0, 14), (0, 15), (0, 16), (0, 17), (0, 18), (0, 30), (0, 31), (0, 35), (0, 36), (0, 38), (0, 41), (0, 42), (0, 43), (0, 44), (0, 45), (0, 46), (0, 47), (0, 48), (0, 51), (0, 52), (0, 60), (0, 67), (0, 68), (0, 69), (0, 70), (0, 71), (0, 72), (0, 73), (0, 78), (0, 79), (0, 80), (0, 81), (0, 82), (0, 83), (0, 88), (0, 90), (0, 91), (0, 93)] [(0, 8), (0, 13)] [2, 3, 5, 7, 8, 9, 10, 11, 12, 13, 14, 15, 16, 17, 18, 19, 20, 21, 22, 24, 25, 26, 27, 28, 29, 30, 31, 32, 33, 34, 35, 39, 40, 41, 42, 43, 44] [4, 6, 23] t t_16 := frA_tr hfr f_18 rfl
    have h_20 : (t_16.2.1 0 8).toInt = (t1.2.1 0 8).toInt := tl_eq (f_18.2.1 0 8 rfl)
    have h_21 : (t_16.1 0 12).toInt = (t1.1 0 12).toInt := ti_eq (f_18.1 0 12 rfl)
    have h_22 : (t_16.1 0 35).toInt = (t1.1 0 35).toInt := ti_eq (f_18.1 0 35 rfl)
    have h_23 : (t_16.1 0 36).toInt = (t1.1 0 36).toInt := ti_eq (f_18.1 0 36 rfl)
    have h_24 : (t_16.1 0 77).toInt = (t1.1 0 77).toInt := ti_eq (f_18.1 0 77 rfl)
    have h_25 : (t_16.1 0 78).toInt = (t1.1 0 78).toInt := ti_eq (f_18.1 0 78 rfl)
    have e_26 : t_16.2.2.2 4 = t1.2.2.2 4 := f_18.2.2.2 4 rfl
    have e_27 : t_16.2.2.1 17 = t1.2.2.1 17 := f_18.2.2.1 17 rfl
    have e_28 : t_16.2.2.1 37 = t.2.2.1 37 := (f_18.2.2.1 37 rfl).trans (e_8)
    have e_29 : t_16.2.2.1 38 = t.2.2.1 38 := (f_18.2.2.1 38 rfl).trans (e_9)
    have h_30 : (0 : Int) ≤ (t_16.1 0 12).toInt ∧ (t_16.1 0 12).toInt ≤ 1 := hok.1 0 12
    have h_31 : (0 : Int) ≤ (t_16.1 0 35).toInt ∧ (t_16.1 0 35).toInt ≤ 1700 := hok.1 0 35
    have h_32 : (0 : Int) ≤ (t_16.1 0 36).toInt ∧ (t_16.1 0 36).toInt ≤ 1700 := hok.1 0 36
    have h_33 : (0 : Int) ≤ (t_16.1 0 77).toInt ∧ (t_16.1 0 77).toInt ≤ 1280 := hok.1 0 77
    have h_34 : (0 : Int) ≤ (t_16.1 0 78).toInt ∧ (t_16.1 0 78).toInt ≤ 6 := hok.1 0 78
    have h_35 : (0 : Int) ≤ (t_16.1 0 83).toInt ∧ (t_16.1 0 83).toInt ≤ 427 := hok.1 0 83
    replace p_19 : (t_16.1 0 83).toInt = (t1.1 0 83).toInt + 1 := p_19
    exact g_vret C hr hlocks hP hD hS t_16 rfl ⟨hok, hfr, (show (t_16.1 0 83).toInt = (t.1 0 83).toInt + 1 from by omega), (show (t_16.1 0 78).toInt = 6 from by omega)⟩ (Nat.le_of_ble_eq_true rfl) (Nat.le_of_ble_eq_true rfl) dX12_doJob_354
  have L_336 : ∀ (t1 : tSt) (w336_4 : Int32) (w336_5 : Int32) (w336_6 : Int32) (w336_7 : Int32) (w336_8 : Int32) (w336_9 : Int32) (k336_0 : Int32) (H : Heap) (locs : List Loc) (ls : Array Slot), okM t1 → frA [(0, 5), (0, 6), (0, 7), (0, 9), (0, 10), (0, 11), (0, 12), (0, 14), (0, 15), (0, 16), (0, 17), (0, 18), (0, 30), (0, 31), (0, 35), (0, 36), (0, 38), (0, 41), (0, 42), (0, 43), (0, 44), (0, 45), (0, 46), (0, 47), (0, 48), (0, 51), (0, 52), (0, 60), (0, 67), (0, 68), (0, 69), (0, 70), (0, 71), (0, 72), (0, 73), (0, 78), (0, 79), (0, 80), (0, 81), (0, 82), (0, 83), (0, 88), (0, 90), (0, 91), (0, 93)] [(0, 8), (0, 13)] [2, 3, 5, 7, 8, 9, 10, 11, 12, 13, 14, 15, 16, 17, 18, 19, 20, 21, 22, 24, 25, 26, 27, 28, 29, 30, 31, 32, 33, 34, 35, 39, 40, 41, 42, 43, 44] [4, 6, 23] t t1 → (0 : Int) ≤ w336_4.toInt ∧ w336_4.toInt ≤ 1 → (0 : Int) ≤ w336_5.toInt ∧ w336_5.toInt ≤ 1 → (0 : Int) ≤ w336_6.toInt ∧ w336_6.toInt ≤ 1 → (0 : Int) ≤ w336_7.toInt ∧ w336_7.toInt ≤ 2 → (0 : Int) ≤ w336_8.toInt ∧ w336_8.toInt ≤ 8 → (-1280 : Int) ≤ w336_9.toInt ∧ w336_9.toInt ≤ 4000 → (-1 : Int) ≤ k336_0.toInt ∧ k336_0.toInt ≤ 9 → ((t1.1 0 83).toInt = (t.1 0 83).toInt) → ((t1.1 0 78).toInt = 6) → va_P D vwCl (WM K ad t1) H → va_D A (WM K ad t1) → va_S A s.heap H locs → lv_has ls 10 [(0, .ref (ad 0)), (1, .int x1), (2, .int x2), (3, .int x3), (4, .int w336_4), (5, .int w336_5), (6, .int w336_6), (7, .int w336_7), (8, .int w336_8), (9, .int w336_9)] → W p l e (rmD 20 0 0) s m [.ref (ad 0), .int x1, .int x2, .int x3].toArray below meth c H locs 0 0 (MQ below (QV D K (fun (u : tSt) => okM u ∧ frA [(0, 5), (0, 6), (0, 7), (0, 9), (0, 10), (0, 11), (0, 12), (0, 14), (0, 15), (0, 16), (0, 17), (0, 18), (0, 30), (0, 31), (0, 35), (0, 36), (0, 38), (0, 41), (0, 42), (0, 43), (0, 44), (0, 45), (0, 46), (0, 47), (0, 48), (0, 51), (0, 52), (0, 60), (0, 67), (0, 68), (0, 69), (0, 70), (0, 71), (0, 72), (0, 73), (0, 78), (0, 79), (0, 80), (0, 81), (0, 82), (0, 83), (0, 88), (0, 90), (0, 91), (0, 93)] [(0, 8), (0, 13)] [2, 3, 5, 7, 8, 9, 10, 11, 12, 13, 14, 15, 16, 17, 18, 19, 20, 21, 22, 24, 25, 26, 27, 28, 29, 30, 31, 32, 33, 34, 35, 39, 40, 41, 42, 43, 44] [4, 6, 23] t u ∧ ((u.1 0 83).toInt = (t.1 0 83).toInt + 1) ∧ ((u.1 0 78).toInt = 6)) (fun (u : tSt) => WM K ad u) A) [.ref (ad 0), .int x1, .int x2, .int x3].toArray s 0 0 A) (F0 m 336 ls [.int k336_0]) := by
    intro t1 w336_4 w336_5 w336_6 w336_7 w336_8 w336_9 k336_0 H locs ls hok hfr hw336_4 hw336_5 hw336_6 hw336_7 hw336_8 hw336_9 hk336_0 hi336_0 hi336_1 hP hD hS hl
    have h_36 : (t1.1 0 77).toInt = (t.1 0 77).toInt := ti_eq (hfr.1 0 77 rfl)
    have e_37 : t1.2.2.1 37 = t.2.2.1 37 := hfr.2.2.1 37 rfl
    have e_38 : t1.2.2.1 38 = t.2.2.1 38 := hfr.2.2.1 38 rfl
    have h_39 : (0 : Int) ≤ (t1.1 0 12).toInt ∧ (t1.1 0 12).toInt ≤ 1 := hok.1 0 12
    have h_40 : (0 : Int) ≤ (t1.1 0 35).toInt ∧ (t1.1 0 35).toInt ≤ 1700 := hok.1 0 35
    have h_41 : (0 : Int) ≤ (t1.1 0 36).toInt ∧ (t1.1 0 36).toInt ≤ 1700 := hok.1 0 36
    have h_42 : (0 : Int) ≤ (t1.1 0 77).toInt ∧ (t1.1 0 77).toInt ≤ 1280 := hok.1 0 77
    have h_43 : (0 : Int) ≤ (t1.1 0 78).toInt ∧ (t1.1 0 78).toInt ≤ 6 := hok.1 0 78
    have h_44 : (0 : Int) ≤ (t1.1 0 83).toInt ∧ (t1.1 0 83).toInt ≤ 427 := hok.1 0 83
    refine lv_istore (lv' := [(8, .int k336_0), (0, .ref (ad 0)), (1, .int x1), (2, .int x2), (3, .int x3), (4, .int w336_4), (5, .int w336_5), (6, .int w336_6), (7, .int w336_7), (9, .int w336_9)]) C.1 C.2.1 dX12_doJob_336 hl (by decide) rfl (fun ls hl => ?_)
    have hl : lv_has ls 10 [(0, .ref (ad 0)), (1, .int x1), (2, .int x2), (3, .int x3), (4, .int w336_4), (5, .int w336_5), (6, .int w336_6), (7, .int w336_7), (8, .int k336_0), (9, .int w336_9)] := lv_sub hl [1, 2, 3, 4, 5, 6, 7, 8, 0, 9] rfl
    refine lv_aload_n C.1 C.2.1 dX12_doJob_338 rfl (lv_at hl 0 rfl) ?_
    refine k_get (v := .int (t1.1 0 7)) C hP 0 rfl rfl inlX12 7 (by decide) m_29_22 rfl dX12_doJob_339 ?_
    refine lv_istore (lv' := [(9, .int (t1.1 0 7)), (0, .ref (ad 0)), (1, .int x1), (2, .int x2), (3, .int x3), (4, .int w336_4), (5, .int w336_5), (6, .int w336_6), (7, .int w336_7), (8, .int k336_0)]) C.1 C.2.1 dX12_doJob_342 hl (by decide) rfl (fun ls hl => ?_)
    have hl : lv_has ls 10 [(0, .ref (ad 0)), (1, .int x1), (2, .int x2), (3, .int x3), (4, .int w336_4), (5, .int w336_5), (6, .int w336_6), (7, .int w336_7), (8, .int k336_0), (9, .int (t1.1 0 7))] := lv_sub hl [1, 2, 3, 4, 5, 6, 7, 8, 9, 0] rfl
    exact L_344 t1 w336_4 w336_5 w336_6 w336_7 k336_0 (t1.1 0 7) _ _ _ hok hfr ⟨by omega, by omega⟩ ⟨by omega, by omega⟩ ⟨by omega, by omega⟩ ⟨by omega, by omega⟩ ⟨by omega, by omega⟩ (show (t1.1 0 83).toInt = (t.1 0 83).toInt from by omega) (show (t1.1 0 78).toInt = 6 from by omega) hP hD hS (lv_sub hl [0, 1, 2, 3, 4, 5, 6, 7, 8, 9] rfl)
  have L_318 : ∀ (t1 : tSt) (w318_4 : Int32) (w318_5 : Int32) (w318_6 : Int32) (w318_7 : Int32) (w318_8 : Int32) (w318_9 : Int32) (k318_0 : Int32) (H : Heap) (locs : List Loc) (ls : Array Slot), okM t1 → frA [(0, 5), (0, 6), (0, 7), (0, 9), (0, 10), (0, 11), (0, 12), (0, 14), (0, 15), (0, 16), (0, 17), (0, 18), (0, 30), (0, 31), (0, 35), (0, 36), (0, 38), (0, 41), (0, 42), (0, 43), (0, 44), (0, 45), (0, 46), (0, 47), (0, 48), (0, 51), (0, 52), (0, 60), (0, 67), (0, 68), (0, 69), (0, 70), (0, 71), (0, 72), (0, 73), (0, 78), (0, 79), (0, 80), (0, 81), (0, 82), (0, 83), (0, 88), (0, 90), (0, 91), (0, 93)] [(0, 8), (0, 13)] [2, 3, 5, 7, 8, 9, 10, 11, 12, 13, 14, 15, 16, 17, 18, 19, 20, 21, 22, 24, 25, 26, 27, 28, 29, 30, 31, 32, 33, 34, 35, 39, 40, 41, 42, 43, 44] [4, 6, 23] t t1 → (0 : Int) ≤ w318_4.toInt ∧ w318_4.toInt ≤ 1 → (0 : Int) ≤ w318_5.toInt ∧ w318_5.toInt ≤ 1 → (0 : Int) ≤ w318_6.toInt ∧ w318_6.toInt ≤ 1 → (0 : Int) ≤ w318_7.toInt ∧ w318_7.toInt ≤ 0 → (0 : Int) ≤ w318_8.toInt ∧ w318_8.toInt ≤ 8 → (-1280 : Int) ≤ w318_9.toInt ∧ w318_9.toInt ≤ 4000 → (0 : Int) ≤ k318_0.toInt ∧ k318_0.toInt ≤ 2 → ((t1.1 0 83).toInt = (t.1 0 83).toInt) → ((t1.1 0 78).toInt = 6) → va_P D vwCl (WM K ad t1) H → va_D A (WM K ad t1) → va_S A s.heap H locs → lv_has ls 10 [(0, .ref (ad 0)), (1, .int x1), (2, .int x2), (3, .int x3), (4, .int w318_4), (5, .int w318_5), (6, .int w318_6), (7, .int w318_7), (8, .int w318_8), (9, .int w318_9)] → W p l e (rmD 20 0 0) s m [.ref (ad 0), .int x1, .int x2, .int x3].toArray below meth c H locs 0 0 (MQ below (QV D K (fun (u : tSt) => okM u ∧ frA [(0, 5), (0, 6), (0, 7), (0, 9), (0, 10), (0, 11), (0, 12), (0, 14), (0, 15), (0, 16), (0, 17), (0, 18), (0, 30), (0, 31), (0, 35), (0, 36), (0, 38), (0, 41), (0, 42), (0, 43), (0, 44), (0, 45), (0, 46), (0, 47), (0, 48), (0, 51), (0, 52), (0, 60), (0, 67), (0, 68), (0, 69), (0, 70), (0, 71), (0, 72), (0, 73), (0, 78), (0, 79), (0, 80), (0, 81), (0, 82), (0, 83), (0, 88), (0, 90), (0, 91), (0, 93)] [(0, 8), (0, 13)] [2, 3, 5, 7, 8, 9, 10, 11, 12, 13, 14, 15, 16, 17, 18, 19, 20, 21, 22, 24, 25, 26, 27, 28, 29, 30, 31, 32, 33, 34, 35, 39, 40, 41, 42, 43, 44] [4, 6, 23] t u ∧ ((u.1 0 83).toInt = (t.1 0 83).toInt + 1) ∧ ((u.1 0 78).toInt = 6)) (fun (u : tSt) => WM K ad u) A) [.ref (ad 0), .int x1, .int x2, .int x3].toArray s 0 0 A) (F0 m 318 ls [.int k318_0]) := by
    intro t1 w318_4 w318_5 w318_6 w318_7 w318_8 w318_9 k318_0 H locs ls hok hfr hw318_4 hw318_5 hw318_6 hw318_7 hw318_8 hw318_9 hk318_0 hi318_0 hi318_1 hP hD hS hl
    have h_45 : (t1.1 0 77).toInt = (t.1 0 77).toInt := ti_eq (hfr.1 0 77 rfl)
    have e_46 : t1.2.2.1 37 = t.2.2.1 37 := hfr.2.2.1 37 rfl
    have e_47 : t1.2.2.1 38 = t.2.2.1 38 := hfr.2.2.1 38 rfl
    have h_48 : (0 : Int) ≤ (t1.1 0 12).toInt ∧ (t1.1 0 12).toInt ≤ 1 := hok.1 0 12
    have h_49 : (0 : Int) ≤ (t1.1 0 35).toInt ∧ (t1.1 0 35).toInt ≤ 1700 := hok.1 0 35
    have h_50 : (0 : Int) ≤ (t1.1 0 36).toInt ∧ (t1.1 0 36).toInt ≤ 1700 := hok.1 0 36
    have h_51 : (0 : Int) ≤ (t1.1 0 77).toInt ∧ (t1.1 0 77).toInt ≤ 1280 := hok.1 0 77
    have h_52 : (0 : Int) ≤ (t1.1 0 78).toInt ∧ (t1.1 0 78).toInt ≤ 6 := hok.1 0 78
    have h_53 : (0 : Int) ≤ (t1.1 0 83).toInt ∧ (t1.1 0 83).toInt ≤ 427 := hok.1 0 83
    refine lv_istore (lv' := [(7, .int k318_0), (0, .ref (ad 0)), (1, .int x1), (2, .int x2), (3, .int x3), (4, .int w318_4), (5, .int w318_5), (6, .int w318_6), (8, .int w318_8), (9, .int w318_9)]) C.1 C.2.1 dX12_doJob_318 hl (by decide) rfl (fun ls hl => ?_)
    have hl : lv_has ls 10 [(0, .ref (ad 0)), (1, .int x1), (2, .int x2), (3, .int x3), (4, .int w318_4), (5, .int w318_5), (6, .int w318_6), (7, .int k318_0), (8, .int w318_8), (9, .int w318_9)] := lv_sub hl [1, 2, 3, 4, 5, 6, 7, 0, 8, 9] rfl
    refine lv_iload C.1 C.2.1 dX12_doJob_320 (lv_at hl 7 rfl) ?_
    refine lv_iconst (v := 2) C.1 C.2.1 dX12_doJob_322 (by decide) ?_
    refine lv_icmp_ne (tgt := 335) C.1 C.2.1 dX12_doJob_323 (by decide) (fun c_54 => ?_) (fun c_54 => ?_)
    · replace c_54 : ¬ k318_0.toInt = 2 := i_ne c_54
      refine lv_iconst (v := 0) C.1 C.2.1 dX12_doJob_335 (by decide) ?_
      exact L_336 t1 w318_4 w318_5 w318_6 k318_0 w318_8 w318_9 0 _ _ _ hok hfr ⟨by omega, by omega⟩ ⟨by omega, by omega⟩ ⟨by omega, by omega⟩ ⟨by omega, by omega⟩ ⟨by omega, by omega⟩ ⟨by omega, by omega⟩ ⟨by decide, by decide⟩ (show (t1.1 0 83).toInt = (t.1 0 83).toInt from by omega) (show (t1.1 0 78).toInt = 6 from by omega) hP hD hS (lv_sub hl [0, 1, 2, 3, 4, 5, 6, 7, 8, 9] rfl)
    · replace c_54 : k318_0.toInt = 2 := i_eq c_54
      refine lv_aload_n C.1 C.2.1 dX12_doJob_326 rfl (lv_at hl 0 rfl) ?_
      have h_55 : (0 : Int) ≤ (t1.1 0 9).toInt ∧ (t1.1 0 9).toInt ≤ 10 := hok.1 0 9
      refine k_get (v := .int (t1.1 0 9)) C hP 0 rfl rfl inlX12 9 (by decide) m_7_8 rfl dX12_doJob_327 ?_
      refine lv_iconst (v := 1) C.1 C.2.1 dX12_doJob_330 (by decide) ?_
      obtain ⟨v_56, e_57⟩ : ∃ z, z = ((t1.1 0 9) : Int32) - (1 : Int32) := ⟨_, rfl⟩
      have h_58 : v_56.toInt = (t1.1 0 9).toInt - 1 := by rw [e_57]; exact ti_isub (by show (_ : Int) ≤ (t1.1 0 9).toInt - 1; omega) (by show (t1.1 0 9).toInt - 1 < (_ : Int); omega)
      refine k_isub (v := v_56) C e_57.symm dX12_doJob_331 ?_
      refine lv_goto (tgt := 336) C.1 C.2.1 dX12_doJob_332 (by decide) ?_
      exact L_336 t1 w318_4 w318_5 w318_6 k318_0 w318_8 w318_9 v_56 _ _ _ hok hfr ⟨by omega, by omega⟩ ⟨by omega, by omega⟩ ⟨by omega, by omega⟩ ⟨by omega, by omega⟩ ⟨by omega, by omega⟩ ⟨by omega, by omega⟩ ⟨by omega, by omega⟩ (show (t1.1 0 83).toInt = (t.1 0 83).toInt from by omega) (show (t1.1 0 78).toInt = 6 from by omega) hP hD hS (lv_sub hl [0, 1, 2, 3, 4, 5, 6, 7, 8, 9] rfl)
  have L_290 : ∀ (t1 : tSt) (w290_4 : Int32) (w290_5 : Int32) (w290_6 : Int32) (w290_7 : Int32) (w290_8 : Int32) (w290_9 : Int32) (H : Heap) (locs : List Loc) (ls : Array Slot), okM t1 → frA [(0, 5), (0, 6), (0, 7), (0, 9), (0, 10), (0, 11), (0, 12), (0, 14), (0, 15), (0, 16), (0, 17), (0, 18), (0, 30), (0, 31), (0, 35), (0, 36), (0, 38), (0, 41), (0, 42), (0, 43), (0, 44), (0, 45), (0, 46), (0, 47), (0, 48), (0, 51), (0, 52), (0, 60), (0, 67), (0, 68), (0, 69), (0, 70), (0, 71), (0, 72), (0, 73), (0, 78), (0, 79), (0, 80), (0, 81), (0, 82), (0, 83), (0, 88), (0, 90), (0, 91), (0, 93)] [(0, 8), (0, 13)] [2, 3, 5, 7, 8, 9, 10, 11, 12, 13, 14, 15, 16, 17, 18, 19, 20, 21, 22, 24, 25, 26, 27, 28, 29, 30, 31, 32, 33, 34, 35, 39, 40, 41, 42, 43, 44] [4, 6, 23] t t1 → (0 : Int) ≤ w290_4.toInt ∧ w290_4.toInt ≤ 1 → (0 : Int) ≤ w290_5.toInt ∧ w290_5.toInt ≤ 1 → (0 : Int) ≤ w290_6.toInt ∧ w290_6.toInt ≤ 1 → (0 : Int) ≤ w290_7.toInt ∧ w290_7.toInt ≤ 0 → (0 : Int) ≤ w290_8.toInt ∧ w290_8.toInt ≤ 8 → (-1280 : Int) ≤ w290_9.toInt ∧ w290_9.toInt ≤ 4000 → (0 : Int) ≤ (t1.1 0 35).toInt ∧ (t1.1 0 35).toInt ≤ 0 → ((t1.1 0 83).toInt = (t.1 0 83).toInt) → ((t1.1 0 78).toInt = 6) → ((t1.2.1 0 8).toInt = 0) → (bz (t1.2.2.2 4) 20) → va_P D vwCl (WM K ad t1) H → va_D A (WM K ad t1) → va_S A s.heap H locs → lv_has ls 10 [(0, .ref (ad 0)), (1, .int x1), (2, .int x2), (3, .int x3), (4, .int w290_4), (5, .int w290_5), (6, .int w290_6), (7, .int w290_7), (8, .int w290_8), (9, .int w290_9)] → W p l e (rmD 20 0 0) s m [.ref (ad 0), .int x1, .int x2, .int x3].toArray below meth c H locs 0 0 (MQ below (QV D K (fun (u : tSt) => okM u ∧ frA [(0, 5), (0, 6), (0, 7), (0, 9), (0, 10), (0, 11), (0, 12), (0, 14), (0, 15), (0, 16), (0, 17), (0, 18), (0, 30), (0, 31), (0, 35), (0, 36), (0, 38), (0, 41), (0, 42), (0, 43), (0, 44), (0, 45), (0, 46), (0, 47), (0, 48), (0, 51), (0, 52), (0, 60), (0, 67), (0, 68), (0, 69), (0, 70), (0, 71), (0, 72), (0, 73), (0, 78), (0, 79), (0, 80), (0, 81), (0, 82), (0, 83), (0, 88), (0, 90), (0, 91), (0, 93)] [(0, 8), (0, 13)] [2, 3, 5, 7, 8, 9, 10, 11, 12, 13, 14, 15, 16, 17, 18, 19, 20, 21, 22, 24, 25, 26, 27, 28, 29, 30, 31, 32, 33, 34, 35, 39, 40, 41, 42, 43, 44] [4, 6, 23] t u ∧ ((u.1 0 83).toInt = (t.1 0 83).toInt + 1) ∧ ((u.1 0 78).toInt = 6)) (fun (u : tSt) => WM K ad u) A) [.ref (ad 0), .int x1, .int x2, .int x3].toArray s 0 0 A) (F0 m 290 ls []) := by
    intro t1 w290_4 w290_5 w290_6 w290_7 w290_8 w290_9 H locs ls hok hfr hw290_4 hw290_5 hw290_6 hw290_7 hw290_8 hw290_9 hf290_35 hi290_0 hi290_1 hi290_2 hi290_3 hP hD hS hl
    have h_59 : (t1.1 0 77).toInt = (t.1 0 77).toInt := ti_eq (hfr.1 0 77 rfl)
    have e_60 : t1.2.2.1 37 = t.2.2.1 37 := hfr.2.2.1 37 rfl
    have e_61 : t1.2.2.1 38 = t.2.2.1 38 := hfr.2.2.1 38 rfl
    have h_62 : (0 : Int) ≤ (t1.1 0 12).toInt ∧ (t1.1 0 12).toInt ≤ 1 := hok.1 0 12
    have h_63 : (0 : Int) ≤ (t1.1 0 36).toInt ∧ (t1.1 0 36).toInt ≤ 1700 := hok.1 0 36
    have h_64 : (0 : Int) ≤ (t1.1 0 77).toInt ∧ (t1.1 0 77).toInt ≤ 1280 := hok.1 0 77
    have h_65 : (0 : Int) ≤ (t1.1 0 78).toInt ∧ (t1.1 0 78).toInt ≤ 6 := hok.1 0 78
    have h_66 : (0 : Int) ≤ (t1.1 0 83).toInt ∧ (t1.1 0 83).toInt ≤ 427 := hok.1 0 83
    refine lv_aload_n C.1 C.2.1 dX12_doJob_290 rfl (lv_at hl 0 rfl) ?_
    refine g_Vv (As := []) (rest := []) C hP hD hS hA (T_X12_runJob l D K Z Y ad t1 hok (show (t1.2.1 0 8).toInt = 0 from by omega) (show bz (t1.2.2.2 4) 20 from hi290_3)) hE hZ (uwV m_81_11 m_81_12 m_81_13 m_1_5 m_81_14) (hdV 0 (by decide +kernel) rfl) ⟨Nat.le_of_ble_eq_true rfl, Nat.le_of_ble_eq_true rfl⟩ rfl rfl (ci := 11) (q0 := 0) rfl rfl rfl hl.1 (Nat.le_of_ble_eq_true rfl) dX12_doJob_291 ⟨Nat.le_of_ble_eq_true rfl, Nat.le_of_ble_eq_true rfl⟩ (fun t_67 H locs hw hP hD hS => ?_)
    obtain ⟨hok, f_69, p_70⟩ := hw
    have hfr : frA [(0, 5), (0, 6), (0, 7), (0, 9), (0, 10), (0, 11), (0, 12), (0, 14), (0, 15), (0, 16), (0, 17), (0, 18), (0, 30), (0, 31), (0, 35), (0, 36), (0, 38), (0, 41), (0, 42), (0, 43), (0, 44), (0, 45), (0, 46), (0, 47), (0, 48), (0, 51), (0, 52), (0, 60), (0, 67), (0, 68), (0, 69), (0, 70), (0, 71), (0, 72), (0, 73), (0, 78), (0, 79), (0, 80), (0, 81), (0, 82), (0, 83), (0, 88), (0, 90), (0, 91), (0, 93)] [(0, 8), (0, 13)] [2, 3, 5, 7, 8, 9, 10, 11, 12, 13, 14, 15, 16, 17, 18, 19, 20, 21, 22, 24, 25, 26, 27, 28, 29, 30, 31, 32, 33, 34, 35, 39, 40, 41, 42, 43, 44] [4, 6, 23] t t_67 := frA_tr hfr f_69 rfl
    have h_71 : (t_67.1 0 36).toInt = (t1.1 0 36).toInt := ti_eq (f_69.1 0 36 rfl)
    have h_72 : (t_67.1 0 77).toInt = (t1.1 0 77).toInt := ti_eq (f_69.1 0 77 rfl)
    have h_73 : (t_67.1 0 78).toInt = (t1.1 0 78).toInt := ti_eq (f_69.1 0 78 rfl)
    have h_74 : (t_67.1 0 83).toInt = (t1.1 0 83).toInt := ti_eq (f_69.1 0 83 rfl)
    have e_75 : t_67.2.2.1 17 = t1.2.2.1 17 := f_69.2.2.1 17 rfl
    have e_76 : t_67.2.2.1 37 = t.2.2.1 37 := (f_69.2.2.1 37 rfl).trans (e_60)
    have e_77 : t_67.2.2.1 38 = t.2.2.1 38 := (f_69.2.2.1 38 rfl).trans (e_61)
    have h_78 : (0 : Int) ≤ (t_67.1 0 12).toInt ∧ (t_67.1 0 12).toInt ≤ 1 := hok.1 0 12
    have h_79 : (0 : Int) ≤ (t_67.1 0 35).toInt ∧ (t_67.1 0 35).toInt ≤ 1700 := hok.1 0 35
    have h_80 : (0 : Int) ≤ (t_67.1 0 36).toInt ∧ (t_67.1 0 36).toInt ≤ 1700 := hok.1 0 36
    have h_81 : (0 : Int) ≤ (t_67.1 0 77).toInt ∧ (t_67.1 0 77).toInt ≤ 1280 := hok.1 0 77
    have h_82 : (0 : Int) ≤ (t_67.1 0 78).toInt ∧ (t_67.1 0 78).toInt ≤ 6 := hok.1 0 78
    have h_83 : (0 : Int) ≤ (t_67.1 0 83).toInt ∧ (t_67.1 0 83).toInt ≤ 427 := hok.1 0 83
    replace p_70 : (t_67.1 0 12).toInt = 0 := p_70
    refine lv_aload_n C.1 C.2.1 dX12_doJob_294 rfl (lv_at hl 0 rfl) ?_
    have h_84 : (0 : Int) ≤ (t_67.1 0 14).toInt ∧ (t_67.1 0 14).toInt ≤ 1 := hok.1 0 14
    refine k_get (v := .int (t_67.1 0 14)) C hP 0 rfl rfl inlX12 14 (by decide) m_56_14 rfl dX12_doJob_295 ?_
    refine lv_if_eq (tgt := 305) C.1 C.2.1 dX12_doJob_298 (by decide) (fun c_85 => ?_) (fun c_85 => ?_)
    · replace c_85 : (t_67.1 0 14).toInt = 0 := i_eq c_85
      refine lv_aload_n C.1 C.2.1 dX12_doJob_305 rfl (lv_at hl 0 rfl) ?_
      have h_86 : (0 : Int) ≤ (t_67.1 0 9).toInt ∧ (t_67.1 0 9).toInt ≤ 10 := hok.1 0 9
      refine k_get (v := .int (t_67.1 0 9)) C hP 0 rfl rfl inlX12 9 (by decide) m_7_8 rfl dX12_doJob_306 ?_
      refine lv_iconst (v := 1) C.1 C.2.1 dX12_doJob_309 (by decide) ?_
      refine lv_icmp_ne (tgt := 317) C.1 C.2.1 dX12_doJob_310 (by decide) (fun c_87 => ?_) (fun c_87 => ?_)
      · replace c_87 : ¬ (t_67.1 0 9).toInt = 1 := i_ne c_87
        refine lv_iconst (v := 2) C.1 C.2.1 dX12_doJob_317 (by decide) ?_
        exact L_318 t_67 w290_4 w290_5 w290_6 w290_7 w290_8 w290_9 2 _ _ _ hok hfr ⟨by omega, by omega⟩ ⟨by omega, by omega⟩ ⟨by omega, by omega⟩ ⟨by omega, by omega⟩ ⟨by omega, by omega⟩ ⟨by omega, by omega⟩ ⟨by decide, by decide⟩ (show (t_67.1 0 83).toInt = (t.1 0 83).toInt from by omega) (show (t_67.1 0 78).toInt = 6 from by omega) hP hD hS (lv_sub hl [0, 1, 2, 3, 4, 5, 6, 7, 8, 9] rfl)
      · replace c_87 : (t_67.1 0 9).toInt = 1 := i_eq c_87
        refine lv_iconst (v := 0) C.1 C.2.1 dX12_doJob_313 (by decide) ?_
        refine lv_goto (tgt := 318) C.1 C.2.1 dX12_doJob_314 (by decide) ?_
        exact L_318 t_67 w290_4 w290_5 w290_6 w290_7 w290_8 w290_9 0 _ _ _ hok hfr ⟨by omega, by omega⟩ ⟨by omega, by omega⟩ ⟨by omega, by omega⟩ ⟨by omega, by omega⟩ ⟨by omega, by omega⟩ ⟨by omega, by omega⟩ ⟨by decide, by decide⟩ (show (t_67.1 0 83).toInt = (t.1 0 83).toInt from by omega) (show (t_67.1 0 78).toInt = 6 from by omega) hP hD hS (lv_sub hl [0, 1, 2, 3, 4, 5, 6, 7, 8, 9] rfl)
    · replace c_85 : ¬ (t_67.1 0 14).toInt = 0 := i_ne c_85
      refine lv_iconst (v := 1) C.1 C.2.1 dX12_doJob_301 (by decide) ?_
      refine lv_goto (tgt := 318) C.1 C.2.1 dX12_doJob_302 (by decide) ?_
      exact L_318 t_67 w290_4 w290_5 w290_6 w290_7 w290_8 w290_9 1 _ _ _ hok hfr ⟨by omega, by omega⟩ ⟨by omega, by omega⟩ ⟨by omega, by omega⟩ ⟨by omega, by omega⟩ ⟨by omega, by omega⟩ ⟨by omega, by omega⟩ ⟨by decide, by decide⟩ (show (t_67.1 0 83).toInt = (t.1 0 83).toInt from by omega) (show (t_67.1 0 78).toInt = 6 from by omega) hP hD hS (lv_sub hl [0, 1, 2, 3, 4, 5, 6, 7, 8, 9] rfl)
  have L_279 : ∀ (t1 : tSt) (w279_4 : Int32) (w279_5 : Int32) (w279_6 : Int32) (w279_7 : Int32) (w279_8 : Int32) (w279_9 : Int32) (H : Heap) (locs : List Loc) (ls : Array Slot), okM t1 → frA [(0, 5), (0, 6), (0, 7), (0, 9), (0, 10), (0, 11), (0, 12), (0, 14), (0, 15), (0, 16), (0, 17), (0, 18), (0, 30), (0, 31), (0, 35), (0, 36), (0, 38), (0, 41), (0, 42), (0, 43), (0, 44), (0, 45), (0, 46), (0, 47), (0, 48), (0, 51), (0, 52), (0, 60), (0, 67), (0, 68), (0, 69), (0, 70), (0, 71), (0, 72), (0, 73), (0, 78), (0, 79), (0, 80), (0, 81), (0, 82), (0, 83), (0, 88), (0, 90), (0, 91), (0, 93)] [(0, 8), (0, 13)] [2, 3, 5, 7, 8, 9, 10, 11, 12, 13, 14, 15, 16, 17, 18, 19, 20, 21, 22, 24, 25, 26, 27, 28, 29, 30, 31, 32, 33, 34, 35, 39, 40, 41, 42, 43, 44] [4, 6, 23] t t1 → (0 : Int) ≤ w279_4.toInt ∧ w279_4.toInt ≤ 1 → (0 : Int) ≤ w279_5.toInt ∧ w279_5.toInt ≤ 1 → (0 : Int) ≤ w279_6.toInt ∧ w279_6.toInt ≤ 1 → (0 : Int) ≤ w279_7.toInt ∧ w279_7.toInt ≤ 0 → (0 : Int) ≤ w279_8.toInt ∧ w279_8.toInt ≤ 8 → (-1280 : Int) ≤ w279_9.toInt ∧ w279_9.toInt ≤ 4000 → (0 : Int) ≤ (t1.1 0 35).toInt ∧ (t1.1 0 35).toInt ≤ 0 → ((t1.1 0 83).toInt = (t.1 0 83).toInt) → ((t1.1 0 78).toInt = 6) → ((t1.2.1 0 8).toInt = 0) → (bz (t1.2.2.2 4) 20) → va_P D vwCl (WM K ad t1) H → va_D A (WM K ad t1) → va_S A s.heap H locs → lv_has ls 10 [(0, .ref (ad 0)), (1, .int x1), (2, .int x2), (3, .int x3), (4, .int w279_4), (5, .int w279_5), (6, .int w279_6), (7, .int w279_7), (8, .int w279_8), (9, .int w279_9)] → W p l e (rmD 20 0 0) s m [.ref (ad 0), .int x1, .int x2, .int x3].toArray below meth c H locs 0 0 (MQ below (QV D K (fun (u : tSt) => okM u ∧ frA [(0, 5), (0, 6), (0, 7), (0, 9), (0, 10), (0, 11), (0, 12), (0, 14), (0, 15), (0, 16), (0, 17), (0, 18), (0, 30), (0, 31), (0, 35), (0, 36), (0, 38), (0, 41), (0, 42), (0, 43), (0, 44), (0, 45), (0, 46), (0, 47), (0, 48), (0, 51), (0, 52), (0, 60), (0, 67), (0, 68), (0, 69), (0, 70), (0, 71), (0, 72), (0, 73), (0, 78), (0, 79), (0, 80), (0, 81), (0, 82), (0, 83), (0, 88), (0, 90), (0, 91), (0, 93)] [(0, 8), (0, 13)] [2, 3, 5, 7, 8, 9, 10, 11, 12, 13, 14, 15, 16, 17, 18, 19, 20, 21, 22, 24, 25, 26, 27, 28, 29, 30, 31, 32, 33, 34, 35, 39, 40, 41, 42, 43, 44] [4, 6, 23] t u ∧ ((u.1 0 83).toInt = (t.1 0 83).toInt + 1) ∧ ((u.1 0 78).toInt = 6)) (fun (u : tSt) => WM K ad u) A) [.ref (ad 0), .int x1, .int x2, .int x3].toArray s 0 0 A) (F0 m 279 ls []) := by
    intro t1 w279_4 w279_5 w279_6 w279_7 w279_8 w279_9 H locs ls hok hfr hw279_4 hw279_5 hw279_6 hw279_7 hw279_8 hw279_9 hf279_35 hi279_0 hi279_1 hi279_2 hi279_3 hP hD hS hl
    have h_88 : (t1.1 0 77).toInt = (t.1 0 77).toInt := ti_eq (hfr.1 0 77 rfl)
    have e_89 : t1.2.2.1 37 = t.2.2.1 37 := hfr.2.2.1 37 rfl
    have e_90 : t1.2.2.1 38 = t.2.2.1 38 := hfr.2.2.1 38 rfl
    have h_91 : (0 : Int) ≤ (t1.1 0 12).toInt ∧ (t1.1 0 12).toInt ≤ 1 := hok.1 0 12
    have h_92 : (0 : Int) ≤ (t1.1 0 36).toInt ∧ (t1.1 0 36).toInt ≤ 1700 := hok.1 0 36
    have h_93 : (0 : Int) ≤ (t1.1 0 77).toInt ∧ (t1.1 0 77).toInt ≤ 1280 := hok.1 0 77
    have h_94 : (0 : Int) ≤ (t1.1 0 78).toInt ∧ (t1.1 0 78).toInt ≤ 6 := hok.1 0 78
    have h_95 : (0 : Int) ≤ (t1.1 0 83).toInt ∧ (t1.1 0 83).toInt ≤ 427 := hok.1 0 83
    refine lv_aload_n C.1 C.2.1 dX12_doJob_279 rfl (lv_at hl 0 rfl) ?_
    have h_96 : (0 : Int) ≤ (t1.1 0 42).toInt ∧ (t1.1 0 42).toInt ≤ 1 := hok.1 0 42
    refine k_get (v := .int (t1.1 0 42)) C hP 0 rfl rfl inlX12 42 (by decide) m_29_16 rfl dX12_doJob_280 ?_
    refine lv_if_eq (tgt := 290) C.1 C.2.1 dX12_doJob_283 (by decide) (fun c_97 => ?_) (fun c_97 => ?_)
    · replace c_97 : (t1.1 0 42).toInt = 0 := i_eq c_97
      exact L_290 t1 w279_4 w279_5 w279_6 w279_7 w279_8 w279_9 _ _ _ hok hfr ⟨by omega, by omega⟩ ⟨by omega, by omega⟩ ⟨by omega, by omega⟩ ⟨by omega, by omega⟩ ⟨by omega, by omega⟩ ⟨by omega, by omega⟩ (show (0 : Int) ≤ ((t1.1 0 35) : Int32).toInt ∧ ((t1.1 0 35) : Int32).toInt ≤ 0 from ⟨by omega, by omega⟩) (show (t1.1 0 83).toInt = (t.1 0 83).toInt from by omega) (show (t1.1 0 78).toInt = 6 from by omega) (show (t1.2.1 0 8).toInt = 0 from by omega) (show bz (t1.2.2.2 4) 20 from by first | exact hbz | exact hbz1 | exact hi19_3 | exact hi60_3 | exact hi106_3 | exact hi131_3 | exact hi158_3 | exact hi240_3 | exact hi253_3 | exact hi279_3 | exact hi290_3 | (rw [rfl]; first | exact hbz | exact hbz1 | exact hi19_3 | exact hi60_3 | exact hi106_3 | exact hi131_3 | exact hi158_3 | exact hi240_3 | exact hi253_3 | exact hi279_3 | exact hi290_3)) hP hD hS (lv_sub hl [0, 1, 2, 3, 4, 5, 6, 7, 8, 9] rfl)
    · replace c_97 : ¬ (t1.1 0 42).toInt = 0 := i_ne c_97
      refine lv_aload_n C.1 C.2.1 dX12_doJob_286 rfl (lv_at hl 0 rfl) ?_
      refine g_Vv (As := []) (rest := []) C hP hD hS hA (T_X12_sayLists l D K Z Y ad t1 hok ) hE hZ (uwV m_81_7 m_81_8 m_81_9 m_1_5 m_81_10) (hdV 0 (by decide +kernel) rfl) ⟨Nat.le_of_ble_eq_true rfl, Nat.le_of_ble_eq_true rfl⟩ rfl rfl (ci := 11) (q0 := 0) rfl rfl rfl hl.1 (Nat.le_of_ble_eq_true rfl) dX12_doJob_287 ⟨Nat.le_of_ble_eq_true rfl, Nat.le_of_ble_eq_true rfl⟩ (fun t_98 H locs hw hP hD hS => ?_)
      obtain ⟨hok, f_100⟩ := hw
      have hfr : frA [(0, 5), (0, 6), (0, 7), (0, 9), (0, 10), (0, 11), (0, 12), (0, 14), (0, 15), (0, 16), (0, 17), (0, 18), (0, 30), (0, 31), (0, 35), (0, 36), (0, 38), (0, 41), (0, 42), (0, 43), (0, 44), (0, 45), (0, 46), (0, 47), (0, 48), (0, 51), (0, 52), (0, 60), (0, 67), (0, 68), (0, 69), (0, 70), (0, 71), (0, 72), (0, 73), (0, 78), (0, 79), (0, 80), (0, 81), (0, 82), (0, 83), (0, 88), (0, 90), (0, 91), (0, 93)] [(0, 8), (0, 13)] [2, 3, 5, 7, 8, 9, 10, 11, 12, 13, 14, 15, 16, 17, 18, 19, 20, 21, 22, 24, 25, 26, 27, 28, 29, 30, 31, 32, 33, 34, 35, 39, 40, 41, 42, 43, 44] [4, 6, 23] t t_98 := frA_tr hfr f_100 rfl
      have h_101 : (t_98.1 0 35).toInt = (t1.1 0 35).toInt := ti_eq (f_100.1 0 35 rfl)
      have h_102 : (t_98.1 0 42).toInt = (t1.1 0 42).toInt := ti_eq (f_100.1 0 42 rfl)
      have h_103 : (t_98.2.1 0 8).toInt = (t1.2.1 0 8).toInt := tl_eq (f_100.2.1 0 8 rfl)
      have h_104 : (t_98.1 0 12).toInt = (t1.1 0 12).toInt := ti_eq (f_100.1 0 12 rfl)
      have h_105 : (t_98.1 0 36).toInt = (t1.1 0 36).toInt := ti_eq (f_100.1 0 36 rfl)
      have h_106 : (t_98.1 0 77).toInt = (t1.1 0 77).toInt := ti_eq (f_100.1 0 77 rfl)
      have h_107 : (t_98.1 0 78).toInt = (t1.1 0 78).toInt := ti_eq (f_100.1 0 78 rfl)
      have h_108 : (t_98.1 0 83).toInt = (t1.1 0 83).toInt := ti_eq (f_100.1 0 83 rfl)
      have e_109 : t_98.2.2.2 4 = t1.2.2.2 4 := f_100.2.2.2 4 rfl
      have e_110 : t_98.2.2.1 17 = t1.2.2.1 17 := f_100.2.2.1 17 rfl
      have e_111 : t_98.2.2.1 37 = t.2.2.1 37 := (f_100.2.2.1 37 rfl).trans (e_89)
      have e_112 : t_98.2.2.1 38 = t.2.2.1 38 := (f_100.2.2.1 38 rfl).trans (e_90)
      have h_113 : (0 : Int) ≤ (t_98.1 0 12).toInt ∧ (t_98.1 0 12).toInt ≤ 1 := hok.1 0 12
      have h_114 : (0 : Int) ≤ (t_98.1 0 36).toInt ∧ (t_98.1 0 36).toInt ≤ 1700 := hok.1 0 36
      have h_115 : (0 : Int) ≤ (t_98.1 0 77).toInt ∧ (t_98.1 0 77).toInt ≤ 1280 := hok.1 0 77
      have h_116 : (0 : Int) ≤ (t_98.1 0 78).toInt ∧ (t_98.1 0 78).toInt ≤ 6 := hok.1 0 78
      have h_117 : (0 : Int) ≤ (t_98.1 0 83).toInt ∧ (t_98.1 0 83).toInt ≤ 427 := hok.1 0 83
      exact L_290 t_98 w279_4 w279_5 w279_6 w279_7 w279_8 w279_9 _ _ _ hok hfr ⟨by omega, by omega⟩ ⟨by omega, by omega⟩ ⟨by omega, by omega⟩ ⟨by omega, by omega⟩ ⟨by omega, by omega⟩ ⟨by omega, by omega⟩ (show (0 : Int) ≤ ((t_98.1 0 35) : Int32).toInt ∧ ((t_98.1 0 35) : Int32).toInt ≤ 0 from ⟨by omega, by omega⟩) (show (t_98.1 0 83).toInt = (t.1 0 83).toInt from by omega) (show (t_98.1 0 78).toInt = 6 from by omega) (show (t_98.2.1 0 8).toInt = 0 from by omega) (show bz (t_98.2.2.2 4) 20 from by first | exact hbz | exact hbz1 | exact hi19_3 | exact hi60_3 | exact hi106_3 | exact hi131_3 | exact hi158_3 | exact hi240_3 | exact hi253_3 | exact hi279_3 | exact hi290_3 | (rw [e_109]; first | exact hbz | exact hbz1 | exact hi19_3 | exact hi60_3 | exact hi106_3 | exact hi131_3 | exact hi158_3 | exact hi240_3 | exact hi253_3 | exact hi279_3 | exact hi290_3)) hP hD hS (lv_sub hl [0, 1, 2, 3, 4, 5, 6, 7, 8, 9] rfl)
  have L_253 : ∀ (t1 : tSt) (w253_4 : Int32) (w253_5 : Int32) (w253_6 : Int32) (w253_7 : Int32) (w253_8 : Int32) (w253_9 : Int32) (H : Heap) (locs : List Loc) (ls : Array Slot), okM t1 → frA [(0, 5), (0, 6), (0, 7), (0, 9), (0, 10), (0, 11), (0, 12), (0, 14), (0, 15), (0, 16), (0, 17), (0, 18), (0, 30), (0, 31), (0, 35), (0, 36), (0, 38), (0, 41), (0, 42), (0, 43), (0, 44), (0, 45), (0, 46), (0, 47), (0, 48), (0, 51), (0, 52), (0, 60), (0, 67), (0, 68), (0, 69), (0, 70), (0, 71), (0, 72), (0, 73), (0, 78), (0, 79), (0, 80), (0, 81), (0, 82), (0, 83), (0, 88), (0, 90), (0, 91), (0, 93)] [(0, 8), (0, 13)] [2, 3, 5, 7, 8, 9, 10, 11, 12, 13, 14, 15, 16, 17, 18, 19, 20, 21, 22, 24, 25, 26, 27, 28, 29, 30, 31, 32, 33, 34, 35, 39, 40, 41, 42, 43, 44] [4, 6, 23] t t1 → (0 : Int) ≤ w253_4.toInt ∧ w253_4.toInt ≤ 1 → (0 : Int) ≤ w253_5.toInt ∧ w253_5.toInt ≤ 1 → (0 : Int) ≤ w253_6.toInt ∧ w253_6.toInt ≤ 1 → (0 : Int) ≤ w253_7.toInt ∧ w253_7.toInt ≤ 4 → (0 : Int) ≤ w253_8.toInt ∧ w253_8.toInt ≤ 8 → (-1280 : Int) ≤ w253_9.toInt ∧ w253_9.toInt ≤ 4000 → (0 : Int) ≤ (t1.1 0 35).toInt ∧ (t1.1 0 35).toInt ≤ 0 → ((t1.1 0 83).toInt = (t.1 0 83).toInt) → ((t1.1 0 78).toInt = 6) → ((t1.2.1 0 8).toInt = 0) → (bz (t1.2.2.2 4) 20) → va_P D vwCl (WM K ad t1) H → va_D A (WM K ad t1) → va_S A s.heap H locs → lv_has ls 10 [(0, .ref (ad 0)), (1, .int x1), (2, .int x2), (3, .int x3), (4, .int w253_4), (5, .int w253_5), (6, .int w253_6), (7, .int w253_7), (8, .int w253_8), (9, .int w253_9)] → W p l e (rmD 20 0 0) s m [.ref (ad 0), .int x1, .int x2, .int x3].toArray below meth c H locs 0 0 (MQ below (QV D K (fun (u : tSt) => okM u ∧ frA [(0, 5), (0, 6), (0, 7), (0, 9), (0, 10), (0, 11), (0, 12), (0, 14), (0, 15), (0, 16), (0, 17), (0, 18), (0, 30), (0, 31), (0, 35), (0, 36), (0, 38), (0, 41), (0, 42), (0, 43), (0, 44), (0, 45), (0, 46), (0, 47), (0, 48), (0, 51), (0, 52), (0, 60), (0, 67), (0, 68), (0, 69), (0, 70), (0, 71), (0, 72), (0, 73), (0, 78), (0, 79), (0, 80), (0, 81), (0, 82), (0, 83), (0, 88), (0, 90), (0, 91), (0, 93)] [(0, 8), (0, 13)] [2, 3, 5, 7, 8, 9, 10, 11, 12, 13, 14, 15, 16, 17, 18, 19, 20, 21, 22, 24, 25, 26, 27, 28, 29, 30, 31, 32, 33, 34, 35, 39, 40, 41, 42, 43, 44] [4, 6, 23] t u ∧ ((u.1 0 83).toInt = (t.1 0 83).toInt + 1) ∧ ((u.1 0 78).toInt = 6)) (fun (u : tSt) => WM K ad u) A) [.ref (ad 0), .int x1, .int x2, .int x3].toArray s 0 0 A) (F0 m 253 ls []) := by
    intro t1 w253_4 w253_5 w253_6 w253_7 w253_8 w253_9 H locs ls hok hfr hw253_4 hw253_5 hw253_6 hw253_7 hw253_8 hw253_9 hf253_35 hi253_0 hi253_1 hi253_2 hi253_3 hP hD hS hl
    have h_118 : (t1.1 0 77).toInt = (t.1 0 77).toInt := ti_eq (hfr.1 0 77 rfl)
    have e_119 : t1.2.2.1 37 = t.2.2.1 37 := hfr.2.2.1 37 rfl
    have e_120 : t1.2.2.1 38 = t.2.2.1 38 := hfr.2.2.1 38 rfl
    have h_121 : (0 : Int) ≤ (t1.1 0 12).toInt ∧ (t1.1 0 12).toInt ≤ 1 := hok.1 0 12
    have h_122 : (0 : Int) ≤ (t1.1 0 36).toInt ∧ (t1.1 0 36).toInt ≤ 1700 := hok.1 0 36
    have h_123 : (0 : Int) ≤ (t1.1 0 77).toInt ∧ (t1.1 0 77).toInt ≤ 1280 := hok.1 0 77
    have h_124 : (0 : Int) ≤ (t1.1 0 78).toInt ∧ (t1.1 0 78).toInt ≤ 6 := hok.1 0 78
    have h_125 : (0 : Int) ≤ (t1.1 0 83).toInt ∧ (t1.1 0 83).toInt ≤ 427 := hok.1 0 83
    refine lv_iload C.1 C.2.1 dX12_doJob_253 (lv_at hl 7 rfl) ?_
    refine lv_if_ne (tgt := 344) C.1 C.2.1 dX12_doJob_255 (by decide) (fun c_126 => ?_) (fun c_126 => ?_)
    · replace c_126 : ¬ w253_7.toInt = 0 := i_ne c_126
      exact L_344 t1 w253_4 w253_5 w253_6 w253_7 w253_8 w253_9 _ _ _ hok hfr ⟨by omega, by omega⟩ ⟨by omega, by omega⟩ ⟨by omega, by omega⟩ ⟨by omega, by omega⟩ ⟨by omega, by omega⟩ (show (t1.1 0 83).toInt = (t.1 0 83).toInt from by omega) (show (t1.1 0 78).toInt = 6 from by omega) hP hD hS (lv_sub hl [0, 1, 2, 3, 4, 5, 6, 7, 8, 9] rfl)
    · replace c_126 : w253_7.toInt = 0 := i_eq c_126
      refine lv_iload C.1 C.2.1 dX12_doJob_258 (lv_at hl 5 rfl) ?_
      refine lv_if_ne (tgt := 268) C.1 C.2.1 dX12_doJob_260 (by decide) (fun c_127 => ?_) (fun c_127 => ?_)
      · replace c_127 : ¬ w253_5.toInt = 0 := i_ne c_127
        refine lv_aload_n C.1 C.2.1 dX12_doJob_268 rfl (lv_at hl 0 rfl) ?_
        refine g_Vv (As := []) (rest := []) C hP hD hS hA (T_X12_takeImage l D K Z Y ad t1 hok ) hE hZ (uwV m_80_23 m_81_0 m_81_1 m_1_5 m_81_2) (hdV 0 (by decide +kernel) rfl) ⟨Nat.le_of_ble_eq_true rfl, Nat.le_of_ble_eq_true rfl⟩ rfl rfl (ci := 11) (q0 := 0) rfl rfl rfl hl.1 (Nat.le_of_ble_eq_true rfl) dX12_doJob_269 ⟨Nat.le_of_ble_eq_true rfl, Nat.le_of_ble_eq_true rfl⟩ (fun t_128 H locs hw hP hD hS => ?_)
        obtain ⟨hok, f_130⟩ := hw
        have hfr : frA [(0, 5), (0, 6), (0, 7), (0, 9), (0, 10), (0, 11), (0, 12), (0, 14), (0, 15), (0, 16), (0, 17), (0, 18), (0, 30), (0, 31), (0, 35), (0, 36), (0, 38), (0, 41), (0, 42), (0, 43), (0, 44), (0, 45), (0, 46), (0, 47), (0, 48), (0, 51), (0, 52), (0, 60), (0, 67), (0, 68), (0, 69), (0, 70), (0, 71), (0, 72), (0, 73), (0, 78), (0, 79), (0, 80), (0, 81), (0, 82), (0, 83), (0, 88), (0, 90), (0, 91), (0, 93)] [(0, 8), (0, 13)] [2, 3, 5, 7, 8, 9, 10, 11, 12, 13, 14, 15, 16, 17, 18, 19, 20, 21, 22, 24, 25, 26, 27, 28, 29, 30, 31, 32, 33, 34, 35, 39, 40, 41, 42, 43, 44] [4, 6, 23] t t_128 := frA_tr hfr f_130 rfl
        have h_131 : (t_128.1 0 35).toInt = (t1.1 0 35).toInt := ti_eq (f_130.1 0 35 rfl)
        have h_132 : (t_128.2.1 0 8).toInt = (t1.2.1 0 8).toInt := tl_eq (f_130.2.1 0 8 rfl)
        have h_133 : (t_128.1 0 12).toInt = (t1.1 0 12).toInt := ti_eq (f_130.1 0 12 rfl)
        have h_134 : (t_128.1 0 36).toInt = (t1.1 0 36).toInt := ti_eq (f_130.1 0 36 rfl)
        have h_135 : (t_128.1 0 77).toInt = (t1.1 0 77).toInt := ti_eq (f_130.1 0 77 rfl)
        have h_136 : (t_128.1 0 78).toInt = (t1.1 0 78).toInt := ti_eq (f_130.1 0 78 rfl)
        have h_137 : (t_128.1 0 83).toInt = (t1.1 0 83).toInt := ti_eq (f_130.1 0 83 rfl)
        have e_138 : t_128.2.2.2 4 = t1.2.2.2 4 := f_130.2.2.2 4 rfl
        have e_139 : t_128.2.2.1 17 = t1.2.2.1 17 := f_130.2.2.1 17 rfl
        have e_140 : t_128.2.2.1 37 = t.2.2.1 37 := (f_130.2.2.1 37 rfl).trans (e_119)
        have e_141 : t_128.2.2.1 38 = t.2.2.1 38 := (f_130.2.2.1 38 rfl).trans (e_120)
        have h_142 : (0 : Int) ≤ (t_128.1 0 12).toInt ∧ (t_128.1 0 12).toInt ≤ 1 := hok.1 0 12
        have h_143 : (0 : Int) ≤ (t_128.1 0 36).toInt ∧ (t_128.1 0 36).toInt ≤ 1700 := hok.1 0 36
        have h_144 : (0 : Int) ≤ (t_128.1 0 77).toInt ∧ (t_128.1 0 77).toInt ≤ 1280 := hok.1 0 77
        have h_145 : (0 : Int) ≤ (t_128.1 0 78).toInt ∧ (t_128.1 0 78).toInt ≤ 6 := hok.1 0 78
        have h_146 : (0 : Int) ≤ (t_128.1 0 83).toInt ∧ (t_128.1 0 83).toInt ≤ 427 := hok.1 0 83
        refine lv_goto (tgt := 279) C.1 C.2.1 dX12_doJob_272 (by decide) ?_
        exact L_279 t_128 w253_4 w253_5 w253_6 w253_7 w253_8 w253_9 _ _ _ hok hfr ⟨by omega, by omega⟩ ⟨by omega, by omega⟩ ⟨by omega, by omega⟩ ⟨by omega, by omega⟩ ⟨by omega, by omega⟩ ⟨by omega, by omega⟩ (show (0 : Int) ≤ ((t_128.1 0 35) : Int32).toInt ∧ ((t_128.1 0 35) : Int32).toInt ≤ 0 from ⟨by omega, by omega⟩) (show (t_128.1 0 83).toInt = (t.1 0 83).toInt from by omega) (show (t_128.1 0 78).toInt = 6 from by omega) (show (t_128.2.1 0 8).toInt = 0 from by omega) (show bz (t_128.2.2.2 4) 20 from by first | exact hbz | exact hbz1 | exact hi19_3 | exact hi60_3 | exact hi106_3 | exact hi131_3 | exact hi158_3 | exact hi240_3 | exact hi253_3 | exact hi279_3 | exact hi290_3 | (rw [e_138]; first | exact hbz | exact hbz1 | exact hi19_3 | exact hi60_3 | exact hi106_3 | exact hi131_3 | exact hi158_3 | exact hi240_3 | exact hi253_3 | exact hi279_3 | exact hi290_3)) hP hD hS (lv_sub hl [0, 1, 2, 3, 4, 5, 6, 7, 8, 9] rfl)
      · replace c_127 : w253_5.toInt = 0 := i_eq c_127
        refine lv_iload C.1 C.2.1 dX12_doJob_263 (lv_at hl 6 rfl) ?_
        refine lv_if_eq (tgt := 275) C.1 C.2.1 dX12_doJob_265 (by decide) (fun c_147 => ?_) (fun c_147 => ?_)
        · replace c_147 : w253_6.toInt = 0 := i_eq c_147
          refine lv_aload_n C.1 C.2.1 dX12_doJob_275 rfl (lv_at hl 0 rfl) ?_
          refine g_Vv (As := []) (rest := []) C hP hD hS hA (T_X12_keepImage l D K Z Y ad t1 hok ) hE hZ (uwV m_81_3 m_81_4 m_81_5 m_1_5 m_81_6) (hdV 0 (by decide +kernel) rfl) ⟨Nat.le_of_ble_eq_true rfl, Nat.le_of_ble_eq_true rfl⟩ rfl rfl (ci := 11) (q0 := 0) rfl rfl rfl hl.1 (Nat.le_of_ble_eq_true rfl) dX12_doJob_276 ⟨Nat.le_of_ble_eq_true rfl, Nat.le_of_ble_eq_true rfl⟩ (fun t_148 H locs hw hP hD hS => ?_)
          obtain ⟨hok, f_150⟩ := hw
          have hfr : frA [(0, 5), (0, 6), (0, 7), (0, 9), (0, 10), (0, 11), (0, 12), (0, 14), (0, 15), (0, 16), (0, 17), (0, 18), (0, 30), (0, 31), (0, 35), (0, 36), (0, 38), (0, 41), (0, 42), (0, 43), (0, 44), (0, 45), (0, 46), (0, 47), (0, 48), (0, 51), (0, 52), (0, 60), (0, 67), (0, 68), (0, 69), (0, 70), (0, 71), (0, 72), (0, 73), (0, 78), (0, 79), (0, 80), (0, 81), (0, 82), (0, 83), (0, 88), (0, 90), (0, 91), (0, 93)] [(0, 8), (0, 13)] [2, 3, 5, 7, 8, 9, 10, 11, 12, 13, 14, 15, 16, 17, 18, 19, 20, 21, 22, 24, 25, 26, 27, 28, 29, 30, 31, 32, 33, 34, 35, 39, 40, 41, 42, 43, 44] [4, 6, 23] t t_148 := frA_tr hfr f_150 rfl
          have h_151 : (t_148.1 0 35).toInt = (t1.1 0 35).toInt := ti_eq (f_150.1 0 35 rfl)
          have h_152 : (t_148.2.1 0 8).toInt = (t1.2.1 0 8).toInt := tl_eq (f_150.2.1 0 8 rfl)
          have h_153 : (t_148.1 0 12).toInt = (t1.1 0 12).toInt := ti_eq (f_150.1 0 12 rfl)
          have h_154 : (t_148.1 0 36).toInt = (t1.1 0 36).toInt := ti_eq (f_150.1 0 36 rfl)
          have h_155 : (t_148.1 0 77).toInt = (t1.1 0 77).toInt := ti_eq (f_150.1 0 77 rfl)
          have h_156 : (t_148.1 0 78).toInt = (t1.1 0 78).toInt := ti_eq (f_150.1 0 78 rfl)
          have h_157 : (t_148.1 0 83).toInt = (t1.1 0 83).toInt := ti_eq (f_150.1 0 83 rfl)
          have e_158 : t_148.2.2.2 4 = t1.2.2.2 4 := f_150.2.2.2 4 rfl
          have e_159 : t_148.2.2.1 17 = t1.2.2.1 17 := f_150.2.2.1 17 rfl
          have e_160 : t_148.2.2.1 37 = t.2.2.1 37 := (f_150.2.2.1 37 rfl).trans (e_119)
          have e_161 : t_148.2.2.1 38 = t.2.2.1 38 := (f_150.2.2.1 38 rfl).trans (e_120)
          have h_162 : (0 : Int) ≤ (t_148.1 0 12).toInt ∧ (t_148.1 0 12).toInt ≤ 1 := hok.1 0 12
          have h_163 : (0 : Int) ≤ (t_148.1 0 36).toInt ∧ (t_148.1 0 36).toInt ≤ 1700 := hok.1 0 36
          have h_164 : (0 : Int) ≤ (t_148.1 0 77).toInt ∧ (t_148.1 0 77).toInt ≤ 1280 := hok.1 0 77
          have h_165 : (0 : Int) ≤ (t_148.1 0 78).toInt ∧ (t_148.1 0 78).toInt ≤ 6 := hok.1 0 78
          have h_166 : (0 : Int) ≤ (t_148.1 0 83).toInt ∧ (t_148.1 0 83).toInt ≤ 427 := hok.1 0 83
          exact L_279 t_148 w253_4 w253_5 w253_6 w253_7 w253_8 w253_9 _ _ _ hok hfr ⟨by omega, by omega⟩ ⟨by omega, by omega⟩ ⟨by omega, by omega⟩ ⟨by omega, by omega⟩ ⟨by omega, by omega⟩ ⟨by omega, by omega⟩ (show (0 : Int) ≤ ((t_148.1 0 35) : Int32).toInt ∧ ((t_148.1 0 35) : Int32).toInt ≤ 0 from ⟨by omega, by omega⟩) (show (t_148.1 0 83).toInt = (t.1 0 83).toInt from by omega) (show (t_148.1 0 78).toInt = 6 from by omega) (show (t_148.2.1 0 8).toInt = 0 from by omega) (show bz (t_148.2.2.2 4) 20 from by first | exact hbz | exact hbz1 | exact hi19_3 | exact hi60_3 | exact hi106_3 | exact hi131_3 | exact hi158_3 | exact hi240_3 | exact hi253_3 | exact hi279_3 | exact hi290_3 | (rw [e_158]; first | exact hbz | exact hbz1 | exact hi19_3 | exact hi60_3 | exact hi106_3 | exact hi131_3 | exact hi158_3 | exact hi240_3 | exact hi253_3 | exact hi279_3 | exact hi290_3)) hP hD hS (lv_sub hl [0, 1, 2, 3, 4, 5, 6, 7, 8, 9] rfl)
        · replace c_147 : ¬ w253_6.toInt = 0 := i_ne c_147
          refine lv_aload_n C.1 C.2.1 dX12_doJob_268 rfl (lv_at hl 0 rfl) ?_
          refine g_Vv (As := []) (rest := []) C hP hD hS hA (T_X12_takeImage l D K Z Y ad t1 hok ) hE hZ (uwV m_80_23 m_81_0 m_81_1 m_1_5 m_81_2) (hdV 0 (by decide +kernel) rfl) ⟨Nat.le_of_ble_eq_true rfl, Nat.le_of_ble_eq_true rfl⟩ rfl rfl (ci := 11) (q0 := 0) rfl rfl rfl hl.1 (Nat.le_of_ble_eq_true rfl) dX12_doJob_269 ⟨Nat.le_of_ble_eq_true rfl, Nat.le_of_ble_eq_true rfl⟩ (fun t_167 H locs hw hP hD hS => ?_)
          obtain ⟨hok, f_169⟩ := hw
          have hfr : frA [(0, 5), (0, 6), (0, 7), (0, 9), (0, 10), (0, 11), (0, 12), (0, 14), (0, 15), (0, 16), (0, 17), (0, 18), (0, 30), (0, 31), (0, 35), (0, 36), (0, 38), (0, 41), (0, 42), (0, 43), (0, 44), (0, 45), (0, 46), (0, 47), (0, 48), (0, 51), (0, 52), (0, 60), (0, 67), (0, 68), (0, 69), (0, 70), (0, 71), (0, 72), (0, 73), (0, 78), (0, 79), (0, 80), (0, 81), (0, 82), (0, 83), (0, 88), (0, 90), (0, 91), (0, 93)] [(0, 8), (0, 13)] [2, 3, 5, 7, 8, 9, 10, 11, 12, 13, 14, 15, 16, 17, 18, 19, 20, 21, 22, 24, 25, 26, 27, 28, 29, 30, 31, 32, 33, 34, 35, 39, 40, 41, 42, 43, 44] [4, 6, 23] t t_167 := frA_tr hfr f_169 rfl
          have h_170 : (t_167.1 0 35).toInt = (t1.1 0 35).toInt := ti_eq (f_169.1 0 35 rfl)
          have h_171 : (t_167.2.1 0 8).toInt = (t1.2.1 0 8).toInt := tl_eq (f_169.2.1 0 8 rfl)
          have h_172 : (t_167.1 0 12).toInt = (t1.1 0 12).toInt := ti_eq (f_169.1 0 12 rfl)
          have h_173 : (t_167.1 0 36).toInt = (t1.1 0 36).toInt := ti_eq (f_169.1 0 36 rfl)
          have h_174 : (t_167.1 0 77).toInt = (t1.1 0 77).toInt := ti_eq (f_169.1 0 77 rfl)
          have h_175 : (t_167.1 0 78).toInt = (t1.1 0 78).toInt := ti_eq (f_169.1 0 78 rfl)
          have h_176 : (t_167.1 0 83).toInt = (t1.1 0 83).toInt := ti_eq (f_169.1 0 83 rfl)
          have e_177 : t_167.2.2.2 4 = t1.2.2.2 4 := f_169.2.2.2 4 rfl
          have e_178 : t_167.2.2.1 17 = t1.2.2.1 17 := f_169.2.2.1 17 rfl
          have e_179 : t_167.2.2.1 37 = t.2.2.1 37 := (f_169.2.2.1 37 rfl).trans (e_119)
          have e_180 : t_167.2.2.1 38 = t.2.2.1 38 := (f_169.2.2.1 38 rfl).trans (e_120)
          have h_181 : (0 : Int) ≤ (t_167.1 0 12).toInt ∧ (t_167.1 0 12).toInt ≤ 1 := hok.1 0 12
          have h_182 : (0 : Int) ≤ (t_167.1 0 36).toInt ∧ (t_167.1 0 36).toInt ≤ 1700 := hok.1 0 36
          have h_183 : (0 : Int) ≤ (t_167.1 0 77).toInt ∧ (t_167.1 0 77).toInt ≤ 1280 := hok.1 0 77
          have h_184 : (0 : Int) ≤ (t_167.1 0 78).toInt ∧ (t_167.1 0 78).toInt ≤ 6 := hok.1 0 78
          have h_185 : (0 : Int) ≤ (t_167.1 0 83).toInt ∧ (t_167.1 0 83).toInt ≤ 427 := hok.1 0 83
          refine lv_goto (tgt := 279) C.1 C.2.1 dX12_doJob_272 (by decide) ?_
          exact L_279 t_167 w253_4 w253_5 w253_6 w253_7 w253_8 w253_9 _ _ _ hok hfr ⟨by omega, by omega⟩ ⟨by omega, by omega⟩ ⟨by omega, by omega⟩ ⟨by omega, by omega⟩ ⟨by omega, by omega⟩ ⟨by omega, by omega⟩ (show (0 : Int) ≤ ((t_167.1 0 35) : Int32).toInt ∧ ((t_167.1 0 35) : Int32).toInt ≤ 0 from ⟨by omega, by omega⟩) (show (t_167.1 0 83).toInt = (t.1 0 83).toInt from by omega) (show (t_167.1 0 78).toInt = 6 from by omega) (show (t_167.2.1 0 8).toInt = 0 from by omega) (show bz (t_167.2.2.2 4) 20 from by first | exact hbz | exact hbz1 | exact hi19_3 | exact hi60_3 | exact hi106_3 | exact hi131_3 | exact hi158_3 | exact hi240_3 | exact hi253_3 | exact hi279_3 | exact hi290_3 | (rw [e_177]; first | exact hbz | exact hbz1 | exact hi19_3 | exact hi60_3 | exact hi106_3 | exact hi131_3 | exact hi158_3 | exact hi240_3 | exact hi253_3 | exact hi279_3 | exact hi290_3)) hP hD hS (lv_sub hl [0, 1, 2, 3, 4, 5, 6, 7, 8, 9] rfl)
  have L_240 : ∀ (t1 : tSt) (w240_4 : Int32) (w240_5 : Int32) (w240_6 : Int32) (w240_7 : Int32) (w240_8 : Int32) (w240_9 : Int32) (H : Heap) (locs : List Loc) (ls : Array Slot), okM t1 → frA [(0, 5), (0, 6), (0, 7), (0, 9), (0, 10), (0, 11), (0, 12), (0, 14), (0, 15), (0, 16), (0, 17), (0, 18), (0, 30), (0, 31), (0, 35), (0, 36), (0, 38), (0, 41), (0, 42), (0, 43), (0, 44), (0, 45), (0, 46), (0, 47), (0, 48), (0, 51), (0, 52), (0, 60), (0, 67), (0, 68), (0, 69), (0, 70), (0, 71), (0, 72), (0, 73), (0, 78), (0, 79), (0, 80), (0, 81), (0, 82), (0, 83), (0, 88), (0, 90), (0, 91), (0, 93)] [(0, 8), (0, 13)] [2, 3, 5, 7, 8, 9, 10, 11, 12, 13, 14, 15, 16, 17, 18, 19, 20, 21, 22, 24, 25, 26, 27, 28, 29, 30, 31, 32, 33, 34, 35, 39, 40, 41, 42, 43, 44] [4, 6, 23] t t1 → (0 : Int) ≤ w240_4.toInt ∧ w240_4.toInt ≤ 1 → (0 : Int) ≤ w240_5.toInt ∧ w240_5.toInt ≤ 1 → (0 : Int) ≤ w240_6.toInt ∧ w240_6.toInt ≤ 1 → (0 : Int) ≤ w240_7.toInt ∧ w240_7.toInt ≤ 3 → (0 : Int) ≤ w240_8.toInt ∧ w240_8.toInt ≤ 8 → (-1280 : Int) ≤ w240_9.toInt ∧ w240_9.toInt ≤ 4000 → (0 : Int) ≤ (t1.1 0 35).toInt ∧ (t1.1 0 35).toInt ≤ 0 → ((t1.1 0 83).toInt = (t.1 0 83).toInt) → ((t1.1 0 78).toInt = 6) → ((t1.2.1 0 8).toInt = 0) → (bz (t1.2.2.2 4) 20) → va_P D vwCl (WM K ad t1) H → va_D A (WM K ad t1) → va_S A s.heap H locs → lv_has ls 10 [(0, .ref (ad 0)), (1, .int x1), (2, .int x2), (3, .int x3), (4, .int w240_4), (5, .int w240_5), (6, .int w240_6), (7, .int w240_7), (8, .int w240_8), (9, .int w240_9)] → W p l e (rmD 20 0 0) s m [.ref (ad 0), .int x1, .int x2, .int x3].toArray below meth c H locs 0 0 (MQ below (QV D K (fun (u : tSt) => okM u ∧ frA [(0, 5), (0, 6), (0, 7), (0, 9), (0, 10), (0, 11), (0, 12), (0, 14), (0, 15), (0, 16), (0, 17), (0, 18), (0, 30), (0, 31), (0, 35), (0, 36), (0, 38), (0, 41), (0, 42), (0, 43), (0, 44), (0, 45), (0, 46), (0, 47), (0, 48), (0, 51), (0, 52), (0, 60), (0, 67), (0, 68), (0, 69), (0, 70), (0, 71), (0, 72), (0, 73), (0, 78), (0, 79), (0, 80), (0, 81), (0, 82), (0, 83), (0, 88), (0, 90), (0, 91), (0, 93)] [(0, 8), (0, 13)] [2, 3, 5, 7, 8, 9, 10, 11, 12, 13, 14, 15, 16, 17, 18, 19, 20, 21, 22, 24, 25, 26, 27, 28, 29, 30, 31, 32, 33, 34, 35, 39, 40, 41, 42, 43, 44] [4, 6, 23] t u ∧ ((u.1 0 83).toInt = (t.1 0 83).toInt + 1) ∧ ((u.1 0 78).toInt = 6)) (fun (u : tSt) => WM K ad u) A) [.ref (ad 0), .int x1, .int x2, .int x3].toArray s 0 0 A) (F0 m 240 ls []) := by
    intro t1 w240_4 w240_5 w240_6 w240_7 w240_8 w240_9 H locs ls hok hfr hw240_4 hw240_5 hw240_6 hw240_7 hw240_8 hw240_9 hf240_35 hi240_0 hi240_1 hi240_2 hi240_3 hP hD hS hl
    have h_186 : (t1.1 0 77).toInt = (t.1 0 77).toInt := ti_eq (hfr.1 0 77 rfl)
    have e_187 : t1.2.2.1 37 = t.2.2.1 37 := hfr.2.2.1 37 rfl
    have e_188 : t1.2.2.1 38 = t.2.2.1 38 := hfr.2.2.1 38 rfl
    have h_189 : (0 : Int) ≤ (t1.1 0 12).toInt ∧ (t1.1 0 12).toInt ≤ 1 := hok.1 0 12
    have h_190 : (0 : Int) ≤ (t1.1 0 36).toInt ∧ (t1.1 0 36).toInt ≤ 1700 := hok.1 0 36
    have h_191 : (0 : Int) ≤ (t1.1 0 77).toInt ∧ (t1.1 0 77).toInt ≤ 1280 := hok.1 0 77
    have h_192 : (0 : Int) ≤ (t1.1 0 78).toInt ∧ (t1.1 0 78).toInt ≤ 6 := hok.1 0 78
    have h_193 : (0 : Int) ≤ (t1.1 0 83).toInt ∧ (t1.1 0 83).toInt ≤ 427 := hok.1 0 83
    refine lv_iload C.1 C.2.1 dX12_doJob_240 (lv_at hl 7 rfl) ?_
    refine lv_if_ne (tgt := 253) C.1 C.2.1 dX12_doJob_242 (by decide) (fun c_194 => ?_) (fun c_194 => ?_)
    · replace c_194 : ¬ w240_7.toInt = 0 := i_ne c_194
      exact L_253 t1 w240_4 w240_5 w240_6 w240_7 w240_8 w240_9 _ _ _ hok hfr ⟨by omega, by omega⟩ ⟨by omega, by omega⟩ ⟨by omega, by omega⟩ ⟨by omega, by omega⟩ ⟨by omega, by omega⟩ ⟨by omega, by omega⟩ (show (0 : Int) ≤ ((t1.1 0 35) : Int32).toInt ∧ ((t1.1 0 35) : Int32).toInt ≤ 0 from ⟨by omega, by omega⟩) (show (t1.1 0 83).toInt = (t.1 0 83).toInt from by omega) (show (t1.1 0 78).toInt = 6 from by omega) (show (t1.2.1 0 8).toInt = 0 from by omega) (show bz (t1.2.2.2 4) 20 from by first | exact hbz | exact hbz1 | exact hi19_3 | exact hi60_3 | exact hi106_3 | exact hi131_3 | exact hi158_3 | exact hi240_3 | exact hi253_3 | exact hi279_3 | exact hi290_3 | (rw [rfl]; first | exact hbz | exact hbz1 | exact hi19_3 | exact hi60_3 | exact hi106_3 | exact hi131_3 | exact hi158_3 | exact hi240_3 | exact hi253_3 | exact hi279_3 | exact hi290_3)) hP hD hS (lv_sub hl [0, 1, 2, 3, 4, 5, 6, 7, 8, 9] rfl)
    · replace c_194 : w240_7.toInt = 0 := i_eq c_194
      refine lv_iload C.1 C.2.1 dX12_doJob_245 (lv_at hl 9 rfl) ?_
      refine lv_if_le (tgt := 253) C.1 C.2.1 dX12_doJob_247 (by decide) (fun c_195 => ?_) (fun c_195 => ?_)
      · replace c_195 : w240_9.toInt ≤ 0 := i_le c_195
        exact L_253 t1 w240_4 w240_5 w240_6 w240_7 w240_8 w240_9 _ _ _ hok hfr ⟨by omega, by omega⟩ ⟨by omega, by omega⟩ ⟨by omega, by omega⟩ ⟨by omega, by omega⟩ ⟨by omega, by omega⟩ ⟨by omega, by omega⟩ (show (0 : Int) ≤ ((t1.1 0 35) : Int32).toInt ∧ ((t1.1 0 35) : Int32).toInt ≤ 0 from ⟨by omega, by omega⟩) (show (t1.1 0 83).toInt = (t.1 0 83).toInt from by omega) (show (t1.1 0 78).toInt = 6 from by omega) (show (t1.2.1 0 8).toInt = 0 from by omega) (show bz (t1.2.2.2 4) 20 from by first | exact hbz | exact hbz1 | exact hi19_3 | exact hi60_3 | exact hi106_3 | exact hi131_3 | exact hi158_3 | exact hi240_3 | exact hi253_3 | exact hi279_3 | exact hi290_3 | (rw [rfl]; first | exact hbz | exact hbz1 | exact hi19_3 | exact hi60_3 | exact hi106_3 | exact hi131_3 | exact hi158_3 | exact hi240_3 | exact hi253_3 | exact hi279_3 | exact hi290_3)) hP hD hS (lv_sub hl [0, 1, 2, 3, 4, 5, 6, 7, 8, 9] rfl)
      · replace c_195 : 0 < w240_9.toInt := i_nle c_195
        refine lv_iconst (v := 4) C.1 C.2.1 dX12_doJob_250 (by decide) ?_
        refine lv_istore (lv' := [(7, .int 4), (0, .ref (ad 0)), (1, .int x1), (2, .int x2), (3, .int x3), (4, .int w240_4), (5, .int w240_5), (6, .int w240_6), (8, .int w240_8), (9, .int w240_9)]) C.1 C.2.1 dX12_doJob_251 hl (by decide) rfl (fun ls hl => ?_)
        have hl : lv_has ls 10 [(0, .ref (ad 0)), (1, .int x1), (2, .int x2), (3, .int x3), (4, .int w240_4), (5, .int w240_5), (6, .int w240_6), (7, .int 4), (8, .int w240_8), (9, .int w240_9)] := lv_sub hl [1, 2, 3, 4, 5, 6, 7, 0, 8, 9] rfl
        exact L_253 t1 w240_4 w240_5 w240_6 4 w240_8 w240_9 _ _ _ hok hfr ⟨by omega, by omega⟩ ⟨by omega, by omega⟩ ⟨by omega, by omega⟩ ⟨by decide, by decide⟩ ⟨by omega, by omega⟩ ⟨by omega, by omega⟩ (show (0 : Int) ≤ ((t1.1 0 35) : Int32).toInt ∧ ((t1.1 0 35) : Int32).toInt ≤ 0 from ⟨by omega, by omega⟩) (show (t1.1 0 83).toInt = (t.1 0 83).toInt from by omega) (show (t1.1 0 78).toInt = 6 from by omega) (show (t1.2.1 0 8).toInt = 0 from by omega) (show bz (t1.2.2.2 4) 20 from by first | exact hbz | exact hbz1 | exact hi19_3 | exact hi60_3 | exact hi106_3 | exact hi131_3 | exact hi158_3 | exact hi240_3 | exact hi253_3 | exact hi279_3 | exact hi290_3 | (rw [rfl]; first | exact hbz | exact hbz1 | exact hi19_3 | exact hi60_3 | exact hi106_3 | exact hi131_3 | exact hi158_3 | exact hi240_3 | exact hi253_3 | exact hi279_3 | exact hi290_3)) hP hD hS (lv_sub hl [0, 1, 2, 3, 4, 5, 6, 7, 8, 9] rfl)
  have L_158 : ∀ (t1 : tSt) (w158_4 : Int32) (w158_5 : Int32) (k158_0 : Int32) (H : Heap) (locs : List Loc) (ls : Array Slot), okM t1 → frA [(0, 5), (0, 6), (0, 7), (0, 9), (0, 10), (0, 11), (0, 12), (0, 14), (0, 15), (0, 16), (0, 17), (0, 18), (0, 30), (0, 31), (0, 35), (0, 36), (0, 38), (0, 41), (0, 42), (0, 43), (0, 44), (0, 45), (0, 46), (0, 47), (0, 48), (0, 51), (0, 52), (0, 60), (0, 67), (0, 68), (0, 69), (0, 70), (0, 71), (0, 72), (0, 73), (0, 78), (0, 79), (0, 80), (0, 81), (0, 82), (0, 83), (0, 88), (0, 90), (0, 91), (0, 93)] [(0, 8), (0, 13)] [2, 3, 5, 7, 8, 9, 10, 11, 12, 13, 14, 15, 16, 17, 18, 19, 20, 21, 22, 24, 25, 26, 27, 28, 29, 30, 31, 32, 33, 34, 35, 39, 40, 41, 42, 43, 44] [4, 6, 23] t t1 → (0 : Int) ≤ w158_4.toInt ∧ w158_4.toInt ≤ 1 → (0 : Int) ≤ w158_5.toInt ∧ w158_5.toInt ≤ 1 → (0 : Int) ≤ k158_0.toInt ∧ k158_0.toInt ≤ 1 → (0 : Int) ≤ (t1.1 0 35).toInt ∧ (t1.1 0 35).toInt ≤ 0 → (0 : Int) ≤ (t1.1 0 42).toInt ∧ (t1.1 0 42).toInt ≤ 0 → ((t1.1 0 83).toInt = (t.1 0 83).toInt) → ((t1.1 0 78).toInt = 6) → ((t1.2.1 0 8).toInt = 0) → (bz (t1.2.2.2 4) 20) → va_P D vwCl (WM K ad t1) H → va_D A (WM K ad t1) → va_S A s.heap H locs → lv_has ls 10 [(0, .ref (ad 0)), (1, .int x1), (2, .int x2), (3, .int x3), (4, .int w158_4), (5, .int w158_5)] → W p l e (rmD 20 0 0) s m [.ref (ad 0), .int x1, .int x2, .int x3].toArray below meth c H locs 0 0 (MQ below (QV D K (fun (u : tSt) => okM u ∧ frA [(0, 5), (0, 6), (0, 7), (0, 9), (0, 10), (0, 11), (0, 12), (0, 14), (0, 15), (0, 16), (0, 17), (0, 18), (0, 30), (0, 31), (0, 35), (0, 36), (0, 38), (0, 41), (0, 42), (0, 43), (0, 44), (0, 45), (0, 46), (0, 47), (0, 48), (0, 51), (0, 52), (0, 60), (0, 67), (0, 68), (0, 69), (0, 70), (0, 71), (0, 72), (0, 73), (0, 78), (0, 79), (0, 80), (0, 81), (0, 82), (0, 83), (0, 88), (0, 90), (0, 91), (0, 93)] [(0, 8), (0, 13)] [2, 3, 5, 7, 8, 9, 10, 11, 12, 13, 14, 15, 16, 17, 18, 19, 20, 21, 22, 24, 25, 26, 27, 28, 29, 30, 31, 32, 33, 34, 35, 39, 40, 41, 42, 43, 44] [4, 6, 23] t u ∧ ((u.1 0 83).toInt = (t.1 0 83).toInt + 1) ∧ ((u.1 0 78).toInt = 6)) (fun (u : tSt) => WM K ad u) A) [.ref (ad 0), .int x1, .int x2, .int x3].toArray s 0 0 A) (F0 m 158 ls [.int k158_0]) := by
    intro t1 w158_4 w158_5 k158_0 H locs ls hok hfr hw158_4 hw158_5 hk158_0 hf158_35 hf158_42 hi158_0 hi158_1 hi158_2 hi158_3 hP hD hS hl
    have h_196 : (t1.1 0 77).toInt = (t.1 0 77).toInt := ti_eq (hfr.1 0 77 rfl)
    have e_197 : t1.2.2.1 37 = t.2.2.1 37 := hfr.2.2.1 37 rfl
    have e_198 : t1.2.2.1 38 = t.2.2.1 38 := hfr.2.2.1 38 rfl
    have h_199 : (0 : Int) ≤ (t1.1 0 12).toInt ∧ (t1.1 0 12).toInt ≤ 1 := hok.1 0 12
    have h_200 : (0 : Int) ≤ (t1.1 0 36).toInt ∧ (t1.1 0 36).toInt ≤ 1700 := hok.1 0 36
    have h_201 : (0 : Int) ≤ (t1.1 0 77).toInt ∧ (t1.1 0 77).toInt ≤ 1280 := hok.1 0 77
    have h_202 : (0 : Int) ≤ (t1.1 0 78).toInt ∧ (t1.1 0 78).toInt ≤ 6 := hok.1 0 78
    have h_203 : (0 : Int) ≤ (t1.1 0 83).toInt ∧ (t1.1 0 83).toInt ≤ 427 := hok.1 0 83
    refine lv_istore (lv' := [(6, .int k158_0), (0, .ref (ad 0)), (1, .int x1), (2, .int x2), (3, .int x3), (4, .int w158_4), (5, .int w158_5)]) C.1 C.2.1 dX12_doJob_158 hl (by decide) rfl (fun ls hl => ?_)
    have hl : lv_has ls 10 [(0, .ref (ad 0)), (1, .int x1), (2, .int x2), (3, .int x3), (4, .int w158_4), (5, .int w158_5), (6, .int k158_0)] := lv_sub hl [1, 2, 3, 4, 5, 6, 0] rfl
    refine lv_iconst (v := 0) C.1 C.2.1 dX12_doJob_160 (by decide) ?_
    refine lv_istore (lv' := [(7, .int 0), (0, .ref (ad 0)), (1, .int x1), (2, .int x2), (3, .int x3), (4, .int w158_4), (5, .int w158_5), (6, .int k158_0)]) C.1 C.2.1 dX12_doJob_161 hl (by decide) rfl (fun ls hl => ?_)
    have hl : lv_has ls 10 [(0, .ref (ad 0)), (1, .int x1), (2, .int x2), (3, .int x3), (4, .int w158_4), (5, .int w158_5), (6, .int k158_0), (7, .int 0)] := lv_sub hl [1, 2, 3, 4, 5, 6, 7, 0] rfl
    refine lv_iconst (v := 0) C.1 C.2.1 dX12_doJob_163 (by decide) ?_
    refine lv_istore (lv' := [(8, .int 0), (0, .ref (ad 0)), (1, .int x1), (2, .int x2), (3, .int x3), (4, .int w158_4), (5, .int w158_5), (6, .int k158_0), (7, .int 0)]) C.1 C.2.1 dX12_doJob_164 hl (by decide) rfl (fun ls hl => ?_)
    have hl : lv_has ls 10 [(0, .ref (ad 0)), (1, .int x1), (2, .int x2), (3, .int x3), (4, .int w158_4), (5, .int w158_5), (6, .int k158_0), (7, .int 0), (8, .int 0)] := lv_sub hl [1, 2, 3, 4, 5, 6, 7, 8, 0] rfl
    refine lv_iconst (v := 0) C.1 C.2.1 dX12_doJob_166 (by decide) ?_
    refine lv_istore (lv' := [(9, .int 0), (0, .ref (ad 0)), (1, .int x1), (2, .int x2), (3, .int x3), (4, .int w158_4), (5, .int w158_5), (6, .int k158_0), (7, .int 0), (8, .int 0)]) C.1 C.2.1 dX12_doJob_167 hl (by decide) rfl (fun ls hl => ?_)
    have hl : lv_has ls 10 [(0, .ref (ad 0)), (1, .int x1), (2, .int x2), (3, .int x3), (4, .int w158_4), (5, .int w158_5), (6, .int k158_0), (7, .int 0), (8, .int 0), (9, .int 0)] := lv_sub hl [1, 2, 3, 4, 5, 6, 7, 8, 9, 0] rfl
    refine lv_aload_n C.1 C.2.1 dX12_doJob_169 rfl (lv_at hl 0 rfl) ?_
    refine lv_iconst (v := 0) C.1 C.2.1 dX12_doJob_170 (by decide) ?_
    refine k_put (ws' := WM K ad (uI t1 0 43 0)) (v := .int 0) C hP hD hS 0 rfl rfl inlX12 tyX12_ok nmX12 43 (by decide) m_29_14 rfl rfl rfl rfl rfl dX12_doJob_171 (fun H locs hP hD hS => ?_)
    have hok : okM (uI t1 0 43 0) := ⟨okI_I hok.1 0 43 0 (show (0 : Int) ≤ (0 : Int32).toInt ∧ (0 : Int32).toInt ≤ 8 from ⟨by decide, by decide⟩), hok.2.1, hok.2.2.1, hok.2.2.2.1, hok.2.2.2.2.1, hok.2.2.2.2.2.1, hok.2.2.2.2.2.2.1, trivial⟩
    have hfr : frA [(0, 5), (0, 6), (0, 7), (0, 9), (0, 10), (0, 11), (0, 12), (0, 14), (0, 15), (0, 16), (0, 17), (0, 18), (0, 30), (0, 31), (0, 35), (0, 36), (0, 38), (0, 41), (0, 42), (0, 43), (0, 44), (0, 45), (0, 46), (0, 47), (0, 48), (0, 51), (0, 52), (0, 60), (0, 67), (0, 68), (0, 69), (0, 70), (0, 71), (0, 72), (0, 73), (0, 78), (0, 79), (0, 80), (0, 81), (0, 82), (0, 83), (0, 88), (0, 90), (0, 91), (0, 93)] [(0, 8), (0, 13)] [2, 3, 5, 7, 8, 9, 10, 11, 12, 13, 14, 15, 16, 17, 18, 19, 20, 21, 22, 24, 25, 26, 27, 28, 29, 30, 31, 32, 33, 34, 35, 39, 40, 41, 42, 43, 44] [4, 6, 23] t (uI t1 0 43 0) := frA_I hfr 0 43 _ rfl
    refine lv_iload C.1 C.2.1 dX12_doJob_174 (lv_at hl 5 rfl) ?_
    refine lv_if_eq (tgt := 196) C.1 C.2.1 dX12_doJob_176 (by decide) (fun c_204 => ?_) (fun c_204 => ?_)
    · replace c_204 : w158_5.toInt = 0 := i_eq c_204
      refine lv_iload C.1 C.2.1 dX12_doJob_196 (lv_at hl 6 rfl) ?_
      refine lv_if_eq (tgt := 214) C.1 C.2.1 dX12_doJob_198 (by decide) (fun c_205 => ?_) (fun c_205 => ?_)
      · replace c_205 : k158_0.toInt = 0 := i_eq c_205
        refine lv_aload_n C.1 C.2.1 dX12_doJob_214 rfl (lv_at hl 0 rfl) ?_
        refine lv_iload_n C.1 C.2.1 dX12_doJob_215 rfl (lv_at hl 1 rfl) ?_
        refine lv_iconst (v := 1) C.1 C.2.1 dX12_doJob_216 (by decide) ?_
        obtain ⟨v_206, e_207⟩ : ∃ z, z = (x1 : Int32) + (1 : Int32) := ⟨_, rfl⟩
        have h_208 : v_206.toInt = x1.toInt + 1 := by rw [e_207]; exact ti_iadd (by show (_ : Int) ≤ x1.toInt + 1; omega) (by show x1.toInt + 1 < (_ : Int); omega)
        refine k_iadd (v := v_206) C e_207.symm dX12_doJob_217 ?_
        refine lv_iload_n C.1 C.2.1 dX12_doJob_218 rfl (lv_at hl 2 rfl) ?_
        refine g_Vi (As := [.int v_206, .int x2]) (rest := []) C hP hD hS hA (T_X12_assembleLines l D K Z Y ad (uI t1 0 43 0) hok (v_206) (show (1 : Int) ≤ (v_206 : Int32).toInt ∧ (v_206 : Int32).toInt ≤ 1281 from ⟨by omega, by omega⟩) (x2) (show (1 : Int) ≤ (x2 : Int32).toInt ∧ (x2 : Int32).toInt ≤ 1280 from ⟨by omega, by omega⟩) (show v_206.toInt ≤ x2.toInt from by omega) (show x2.toInt < (t1.1 0 77).toInt from by omega) (show lnS (t1.1 0 77).toInt (t1.2.2.1 37) (t1.2.2.1 38) from lnS_cg hs5 (by omega) e_197 e_198)) hE hZ (uwV m_80_15 m_80_16 m_80_17 m_1_5 m_80_18) (hdV 2 (by decide +kernel) rfl) ⟨Nat.le_of_ble_eq_true rfl, Nat.le_of_ble_eq_true rfl⟩ rfl rfl (ci := 11) (q0 := 0) rfl rfl rfl hl.1 (Nat.le_of_ble_eq_true rfl) dX12_doJob_219 ⟨Nat.le_of_ble_eq_true rfl, Nat.le_of_ble_eq_true rfl⟩ (fun r_210 t_209 H locs hw hP hD hS => ?_)
        obtain ⟨hok, f_211, h_212, h_213, p_214, p_215⟩ := hw
        have hfr : frA [(0, 5), (0, 6), (0, 7), (0, 9), (0, 10), (0, 11), (0, 12), (0, 14), (0, 15), (0, 16), (0, 17), (0, 18), (0, 30), (0, 31), (0, 35), (0, 36), (0, 38), (0, 41), (0, 42), (0, 43), (0, 44), (0, 45), (0, 46), (0, 47), (0, 48), (0, 51), (0, 52), (0, 60), (0, 67), (0, 68), (0, 69), (0, 70), (0, 71), (0, 72), (0, 73), (0, 78), (0, 79), (0, 80), (0, 81), (0, 82), (0, 83), (0, 88), (0, 90), (0, 91), (0, 93)] [(0, 8), (0, 13)] [2, 3, 5, 7, 8, 9, 10, 11, 12, 13, 14, 15, 16, 17, 18, 19, 20, 21, 22, 24, 25, 26, 27, 28, 29, 30, 31, 32, 33, 34, 35, 39, 40, 41, 42, 43, 44] [4, 6, 23] t t_209 := frA_tr hfr f_211 rfl
        have h_216 : (t_209.1 0 35).toInt = (t1.1 0 35).toInt := ti_eq (f_211.1 0 35 rfl)
        have h_217 : (t_209.1 0 36).toInt = (t1.1 0 36).toInt := ti_eq (f_211.1 0 36 rfl)
        have h_218 : (t_209.1 0 77).toInt = (t1.1 0 77).toInt := ti_eq (f_211.1 0 77 rfl)
        have h_219 : (t_209.1 0 78).toInt = (t1.1 0 78).toInt := ti_eq (f_211.1 0 78 rfl)
        have h_220 : (t_209.1 0 83).toInt = (t1.1 0 83).toInt := ti_eq (f_211.1 0 83 rfl)
        have e_221 : t_209.2.2.1 17 = t1.2.2.1 17 := f_211.2.2.1 17 rfl
        have e_222 : t_209.2.2.1 37 = t.2.2.1 37 := (f_211.2.2.1 37 rfl).trans (e_197)
        have e_223 : t_209.2.2.1 38 = t.2.2.1 38 := (f_211.2.2.1 38 rfl).trans (e_198)
        have h_224 : (0 : Int) ≤ (t_209.1 0 12).toInt ∧ (t_209.1 0 12).toInt ≤ 1 := hok.1 0 12
        have h_225 : (0 : Int) ≤ (t_209.1 0 36).toInt ∧ (t_209.1 0 36).toInt ≤ 1700 := hok.1 0 36
        have h_226 : (0 : Int) ≤ (t_209.1 0 77).toInt ∧ (t_209.1 0 77).toInt ≤ 1280 := hok.1 0 77
        have h_227 : (0 : Int) ≤ (t_209.1 0 78).toInt ∧ (t_209.1 0 78).toInt ≤ 6 := hok.1 0 78
        have h_228 : (0 : Int) ≤ (t_209.1 0 83).toInt ∧ (t_209.1 0 83).toInt ≤ 427 := hok.1 0 83
        replace p_214 : (t_209.2.1 0 8).toInt = 0 := p_214
        replace p_215 : bz (t_209.2.2.2 4) 20 := p_215
        have hbz1 := p_215
        refine lv_if_ne (tgt := 240) C.1 C.2.1 dX12_doJob_222 (by decide) (fun c_229 => ?_) (fun c_229 => ?_)
        · replace c_229 : ¬ r_210.toInt = 0 := i_ne c_229
          exact L_240 t_209 w158_4 w158_5 k158_0 0 0 0 _ _ _ hok hfr ⟨by omega, by omega⟩ ⟨by omega, by omega⟩ ⟨by omega, by omega⟩ ⟨by decide, by decide⟩ ⟨by decide, by decide⟩ ⟨by decide, by decide⟩ (show (0 : Int) ≤ ((t_209.1 0 35) : Int32).toInt ∧ ((t_209.1 0 35) : Int32).toInt ≤ 0 from ⟨by omega, by omega⟩) (show (t_209.1 0 83).toInt = (t.1 0 83).toInt from by omega) (show (t_209.1 0 78).toInt = 6 from by omega) (show (t_209.2.1 0 8).toInt = 0 from by omega) (show bz (t_209.2.2.2 4) 20 from by first | exact hbz | exact hbz1 | exact hi19_3 | exact hi60_3 | exact hi106_3 | exact hi131_3 | exact hi158_3 | exact hi240_3 | exact hi253_3 | exact hi279_3 | exact hi290_3 | (rw [rfl]; first | exact hbz | exact hbz1 | exact hi19_3 | exact hi60_3 | exact hi106_3 | exact hi131_3 | exact hi158_3 | exact hi240_3 | exact hi253_3 | exact hi279_3 | exact hi290_3)) hP hD hS (lv_sub hl [0, 1, 2, 3, 4, 5, 6, 7, 8, 9] rfl)
        · replace c_229 : r_210.toInt = 0 := i_eq c_229
          refine lv_iconst (v := 3) C.1 C.2.1 dX12_doJob_225 (by decide) ?_
          refine lv_istore (lv' := [(7, .int 3), (0, .ref (ad 0)), (1, .int x1), (2, .int x2), (3, .int x3), (4, .int w158_4), (5, .int w158_5), (6, .int k158_0), (8, .int 0), (9, .int 0)]) C.1 C.2.1 dX12_doJob_226 hl (by decide) rfl (fun ls hl => ?_)
          have hl : lv_has ls 10 [(0, .ref (ad 0)), (1, .int x1), (2, .int x2), (3, .int x3), (4, .int w158_4), (5, .int w158_5), (6, .int k158_0), (7, .int 3), (8, .int 0), (9, .int 0)] := lv_sub hl [1, 2, 3, 4, 5, 6, 7, 0, 8, 9] rfl
          refine lv_aload_n C.1 C.2.1 dX12_doJob_228 rfl (lv_at hl 0 rfl) ?_
          have h_230 : (0 : Int) ≤ (t_209.1 0 43).toInt ∧ (t_209.1 0 43).toInt ≤ 8 := hok.1 0 43
          refine k_get (v := .int (t_209.1 0 43)) C hP 0 rfl rfl inlX12 43 (by decide) m_29_14 rfl dX12_doJob_229 ?_
          refine lv_istore (lv' := [(8, .int (t_209.1 0 43)), (0, .ref (ad 0)), (1, .int x1), (2, .int x2), (3, .int x3), (4, .int w158_4), (5, .int w158_5), (6, .int k158_0), (7, .int 3), (9, .int 0)]) C.1 C.2.1 dX12_doJob_232 hl (by decide) rfl (fun ls hl => ?_)
          have hl : lv_has ls 10 [(0, .ref (ad 0)), (1, .int x1), (2, .int x2), (3, .int x3), (4, .int w158_4), (5, .int w158_5), (6, .int k158_0), (7, .int 3), (8, .int (t_209.1 0 43)), (9, .int 0)] := lv_sub hl [1, 2, 3, 4, 5, 6, 7, 8, 0, 9] rfl
          refine lv_aload_n C.1 C.2.1 dX12_doJob_234 rfl (lv_at hl 0 rfl) ?_
          have h_231 : (0 : Int) ≤ (t_209.1 0 44).toInt ∧ (t_209.1 0 44).toInt ≤ 4000 := hok.1 0 44
          refine k_get (v := .int (t_209.1 0 44)) C hP 0 rfl rfl inlX12 44 (by decide) m_28_23 rfl dX12_doJob_235 ?_
          refine lv_istore (lv' := [(9, .int (t_209.1 0 44)), (0, .ref (ad 0)), (1, .int x1), (2, .int x2), (3, .int x3), (4, .int w158_4), (5, .int w158_5), (6, .int k158_0), (7, .int 3), (8, .int (t_209.1 0 43))]) C.1 C.2.1 dX12_doJob_238 hl (by decide) rfl (fun ls hl => ?_)
          have hl : lv_has ls 10 [(0, .ref (ad 0)), (1, .int x1), (2, .int x2), (3, .int x3), (4, .int w158_4), (5, .int w158_5), (6, .int k158_0), (7, .int 3), (8, .int (t_209.1 0 43)), (9, .int (t_209.1 0 44))] := lv_sub hl [1, 2, 3, 4, 5, 6, 7, 8, 9, 0] rfl
          exact L_240 t_209 w158_4 w158_5 k158_0 3 (t_209.1 0 43) (t_209.1 0 44) _ _ _ hok hfr ⟨by omega, by omega⟩ ⟨by omega, by omega⟩ ⟨by omega, by omega⟩ ⟨by decide, by decide⟩ ⟨by omega, by omega⟩ ⟨by omega, by omega⟩ (show (0 : Int) ≤ ((t_209.1 0 35) : Int32).toInt ∧ ((t_209.1 0 35) : Int32).toInt ≤ 0 from ⟨by omega, by omega⟩) (show (t_209.1 0 83).toInt = (t.1 0 83).toInt from by omega) (show (t_209.1 0 78).toInt = 6 from by omega) (show (t_209.2.1 0 8).toInt = 0 from by omega) (show bz (t_209.2.2.2 4) 20 from by first | exact hbz | exact hbz1 | exact hi19_3 | exact hi60_3 | exact hi106_3 | exact hi131_3 | exact hi158_3 | exact hi240_3 | exact hi253_3 | exact hi279_3 | exact hi290_3 | (rw [rfl]; first | exact hbz | exact hbz1 | exact hi19_3 | exact hi60_3 | exact hi106_3 | exact hi131_3 | exact hi158_3 | exact hi240_3 | exact hi253_3 | exact hi279_3 | exact hi290_3)) hP hD hS (lv_sub hl [0, 1, 2, 3, 4, 5, 6, 7, 8, 9] rfl)
      · replace c_205 : ¬ k158_0.toInt = 0 := i_ne c_205
        refine lv_aload_n C.1 C.2.1 dX12_doJob_201 rfl (lv_at hl 0 rfl) ?_
        refine lv_iload_n C.1 C.2.1 dX12_doJob_202 rfl (lv_at hl 1 rfl) ?_
        refine lv_iconst (v := 2) C.1 C.2.1 dX12_doJob_203 (by decide) ?_
        obtain ⟨v_232, e_233⟩ : ∃ z, z = (x1 : Int32) + (2 : Int32) := ⟨_, rfl⟩
        have h_234 : v_232.toInt = x1.toInt + 2 := by rw [e_233]; exact ti_iadd (by show (_ : Int) ≤ x1.toInt + 2; omega) (by show x1.toInt + 2 < (_ : Int); omega)
        refine k_iadd (v := v_232) C e_233.symm dX12_doJob_204 ?_
        refine lv_iload_n C.1 C.2.1 dX12_doJob_205 rfl (lv_at hl 2 rfl) ?_
        refine g_Vi (As := [.int v_232, .int x2]) (rest := []) C hP hD hS hA (T_X12_loadCards l D K Z Y ad (uI t1 0 43 0) hok (v_232) (show (2 : Int) ≤ (v_232 : Int32).toInt ∧ (v_232 : Int32).toInt ≤ 1282 from ⟨by omega, by omega⟩) (x2) (show (1 : Int) ≤ (x2 : Int32).toInt ∧ (x2 : Int32).toInt ≤ 1280 from ⟨by omega, by omega⟩)) hE hZ (uwV m_80_2 m_80_3 m_80_4 m_1_5 m_80_5) (hdV 2 (by decide +kernel) rfl) ⟨Nat.le_of_ble_eq_true rfl, Nat.le_of_ble_eq_true rfl⟩ rfl rfl (ci := 11) (q0 := 0) rfl rfl rfl hl.1 (Nat.le_of_ble_eq_true rfl) dX12_doJob_206 ⟨Nat.le_of_ble_eq_true rfl, Nat.le_of_ble_eq_true rfl⟩ (fun r_236 t_235 H locs hw hP hD hS => ?_)
        obtain ⟨hok, f_237, h_238, h_239⟩ := hw
        have hfr : frA [(0, 5), (0, 6), (0, 7), (0, 9), (0, 10), (0, 11), (0, 12), (0, 14), (0, 15), (0, 16), (0, 17), (0, 18), (0, 30), (0, 31), (0, 35), (0, 36), (0, 38), (0, 41), (0, 42), (0, 43), (0, 44), (0, 45), (0, 46), (0, 47), (0, 48), (0, 51), (0, 52), (0, 60), (0, 67), (0, 68), (0, 69), (0, 70), (0, 71), (0, 72), (0, 73), (0, 78), (0, 79), (0, 80), (0, 81), (0, 82), (0, 83), (0, 88), (0, 90), (0, 91), (0, 93)] [(0, 8), (0, 13)] [2, 3, 5, 7, 8, 9, 10, 11, 12, 13, 14, 15, 16, 17, 18, 19, 20, 21, 22, 24, 25, 26, 27, 28, 29, 30, 31, 32, 33, 34, 35, 39, 40, 41, 42, 43, 44] [4, 6, 23] t t_235 := frA_tr hfr f_237 rfl
        have h_240 : (t_235.1 0 35).toInt = (t1.1 0 35).toInt := ti_eq (f_237.1 0 35 rfl)
        have h_241 : (t_235.1 0 42).toInt = (t1.1 0 42).toInt := ti_eq (f_237.1 0 42 rfl)
        have h_242 : (t_235.1 0 43).toInt = 0 := by rw [show (t_235.1 0 43) = (0 : Int32) from f_237.1 0 43 rfl]; rfl
        have h_243 : (t_235.2.1 0 8).toInt = (t1.2.1 0 8).toInt := tl_eq (f_237.2.1 0 8 rfl)
        have h_244 : (t_235.1 0 12).toInt = (t1.1 0 12).toInt := ti_eq (f_237.1 0 12 rfl)
        have h_245 : (t_235.1 0 36).toInt = (t1.1 0 36).toInt := ti_eq (f_237.1 0 36 rfl)
        have h_246 : (t_235.1 0 77).toInt = (t1.1 0 77).toInt := ti_eq (f_237.1 0 77 rfl)
        have h_247 : (t_235.1 0 78).toInt = (t1.1 0 78).toInt := ti_eq (f_237.1 0 78 rfl)
        have h_248 : (t_235.1 0 83).toInt = (t1.1 0 83).toInt := ti_eq (f_237.1 0 83 rfl)
        have e_249 : t_235.2.2.2 4 = t1.2.2.2 4 := f_237.2.2.2 4 rfl
        have e_250 : t_235.2.2.1 17 = t1.2.2.1 17 := f_237.2.2.1 17 rfl
        have e_251 : t_235.2.2.1 37 = t.2.2.1 37 := (f_237.2.2.1 37 rfl).trans (e_197)
        have e_252 : t_235.2.2.1 38 = t.2.2.1 38 := (f_237.2.2.1 38 rfl).trans (e_198)
        have h_253 : (0 : Int) ≤ (t_235.1 0 12).toInt ∧ (t_235.1 0 12).toInt ≤ 1 := hok.1 0 12
        have h_254 : (0 : Int) ≤ (t_235.1 0 36).toInt ∧ (t_235.1 0 36).toInt ≤ 1700 := hok.1 0 36
        have h_255 : (0 : Int) ≤ (t_235.1 0 77).toInt ∧ (t_235.1 0 77).toInt ≤ 1280 := hok.1 0 77
        have h_256 : (0 : Int) ≤ (t_235.1 0 78).toInt ∧ (t_235.1 0 78).toInt ≤ 6 := hok.1 0 78
        have h_257 : (0 : Int) ≤ (t_235.1 0 83).toInt ∧ (t_235.1 0 83).toInt ≤ 427 := hok.1 0 83
        refine lv_istore (lv' := [(9, .int r_236), (0, .ref (ad 0)), (1, .int x1), (2, .int x2), (3, .int x3), (4, .int w158_4), (5, .int w158_5), (6, .int k158_0), (7, .int 0), (8, .int 0)]) C.1 C.2.1 dX12_doJob_209 hl (by decide) rfl (fun ls hl => ?_)
        have hl : lv_has ls 10 [(0, .ref (ad 0)), (1, .int x1), (2, .int x2), (3, .int x3), (4, .int w158_4), (5, .int w158_5), (6, .int k158_0), (7, .int 0), (8, .int 0), (9, .int r_236)] := lv_sub hl [1, 2, 3, 4, 5, 6, 7, 8, 9, 0] rfl
        refine lv_goto (tgt := 240) C.1 C.2.1 dX12_doJob_211 (by decide) ?_
        exact L_240 t_235 w158_4 w158_5 k158_0 0 0 r_236 _ _ _ hok hfr ⟨by omega, by omega⟩ ⟨by omega, by omega⟩ ⟨by omega, by omega⟩ ⟨by decide, by decide⟩ ⟨by decide, by decide⟩ ⟨by omega, by omega⟩ (show (0 : Int) ≤ ((t_235.1 0 35) : Int32).toInt ∧ ((t_235.1 0 35) : Int32).toInt ≤ 0 from ⟨by omega, by omega⟩) (show (t_235.1 0 83).toInt = (t.1 0 83).toInt from by omega) (show (t_235.1 0 78).toInt = 6 from by omega) (show (t_235.2.1 0 8).toInt = 0 from by omega) (show bz (t_235.2.2.2 4) 20 from by first | exact hbz | exact hbz1 | exact hi19_3 | exact hi60_3 | exact hi106_3 | exact hi131_3 | exact hi158_3 | exact hi240_3 | exact hi253_3 | exact hi279_3 | exact hi290_3 | (rw [e_249]; first | exact hbz | exact hbz1 | exact hi19_3 | exact hi60_3 | exact hi106_3 | exact hi131_3 | exact hi158_3 | exact hi240_3 | exact hi253_3 | exact hi279_3 | exact hi290_3)) hP hD hS (lv_sub hl [0, 1, 2, 3, 4, 5, 6, 7, 8, 9] rfl)
    · replace c_204 : ¬ w158_5.toInt = 0 := i_ne c_204
      refine lv_aload_n C.1 C.2.1 dX12_doJob_179 rfl (lv_at hl 0 rfl) ?_
      have h_258 : (0 : Int) ≤ (t1.1 0 88).toInt ∧ (t1.1 0 88).toInt ≤ 1 := hok.1 0 88
      refine k_get (v := .int (t1.1 0 88)) C hP 0 rfl rfl inlX12 88 (by decide) m_78_15 rfl dX12_doJob_180 ?_
      refine lv_if_eq (tgt := 190) C.1 C.2.1 dX12_doJob_183 (by decide) (fun c_259 => ?_) (fun c_259 => ?_)
      · replace c_259 : (t1.1 0 88).toInt = 0 := i_eq c_259
        refine lv_iconst (v := 1) C.1 C.2.1 dX12_doJob_190 (by decide) ?_
        refine lv_istore (lv' := [(9, .int 1), (0, .ref (ad 0)), (1, .int x1), (2, .int x2), (3, .int x3), (4, .int w158_4), (5, .int w158_5), (6, .int k158_0), (7, .int 0), (8, .int 0)]) C.1 C.2.1 dX12_doJob_191 hl (by decide) rfl (fun ls hl => ?_)
        have hl : lv_has ls 10 [(0, .ref (ad 0)), (1, .int x1), (2, .int x2), (3, .int x3), (4, .int w158_4), (5, .int w158_5), (6, .int k158_0), (7, .int 0), (8, .int 0), (9, .int 1)] := lv_sub hl [1, 2, 3, 4, 5, 6, 7, 8, 9, 0] rfl
        refine lv_goto (tgt := 240) C.1 C.2.1 dX12_doJob_193 (by decide) ?_
        exact L_240 (uI t1 0 43 0) w158_4 w158_5 k158_0 0 0 1 _ _ _ hok hfr ⟨by omega, by omega⟩ ⟨by omega, by omega⟩ ⟨by omega, by omega⟩ ⟨by decide, by decide⟩ ⟨by decide, by decide⟩ ⟨by decide, by decide⟩ (show (0 : Int) ≤ ((t1.1 0 35) : Int32).toInt ∧ ((t1.1 0 35) : Int32).toInt ≤ 0 from ⟨by omega, by omega⟩) (show (t1.1 0 83).toInt = (t.1 0 83).toInt from by omega) (show (t1.1 0 78).toInt = 6 from by omega) (show (t1.2.1 0 8).toInt = 0 from by omega) (show bz (t1.2.2.2 4) 20 from by first | exact hbz | exact hbz1 | exact hi19_3 | exact hi60_3 | exact hi106_3 | exact hi131_3 | exact hi158_3 | exact hi240_3 | exact hi253_3 | exact hi279_3 | exact hi290_3 | (rw [rfl]; first | exact hbz | exact hbz1 | exact hi19_3 | exact hi60_3 | exact hi106_3 | exact hi131_3 | exact hi158_3 | exact hi240_3 | exact hi253_3 | exact hi279_3 | exact hi290_3)) hP hD hS (lv_sub hl [0, 1, 2, 3, 4, 5, 6, 7, 8, 9] rfl)
      · replace c_259 : ¬ (t1.1 0 88).toInt = 0 := i_ne c_259
        refine lv_iconst (v := 0) C.1 C.2.1 dX12_doJob_186 (by decide) ?_
        refine lv_goto (tgt := 191) C.1 C.2.1 dX12_doJob_187 (by decide) ?_
        refine lv_istore (lv' := [(9, .int 0), (0, .ref (ad 0)), (1, .int x1), (2, .int x2), (3, .int x3), (4, .int w158_4), (5, .int w158_5), (6, .int k158_0), (7, .int 0), (8, .int 0)]) C.1 C.2.1 dX12_doJob_191 hl (by decide) rfl (fun ls hl => ?_)
        have hl : lv_has ls 10 [(0, .ref (ad 0)), (1, .int x1), (2, .int x2), (3, .int x3), (4, .int w158_4), (5, .int w158_5), (6, .int k158_0), (7, .int 0), (8, .int 0), (9, .int 0)] := lv_sub hl [1, 2, 3, 4, 5, 6, 7, 8, 9, 0] rfl
        refine lv_goto (tgt := 240) C.1 C.2.1 dX12_doJob_193 (by decide) ?_
        exact L_240 (uI t1 0 43 0) w158_4 w158_5 k158_0 0 0 0 _ _ _ hok hfr ⟨by omega, by omega⟩ ⟨by omega, by omega⟩ ⟨by omega, by omega⟩ ⟨by decide, by decide⟩ ⟨by decide, by decide⟩ ⟨by decide, by decide⟩ (show (0 : Int) ≤ ((t1.1 0 35) : Int32).toInt ∧ ((t1.1 0 35) : Int32).toInt ≤ 0 from ⟨by omega, by omega⟩) (show (t1.1 0 83).toInt = (t.1 0 83).toInt from by omega) (show (t1.1 0 78).toInt = 6 from by omega) (show (t1.2.1 0 8).toInt = 0 from by omega) (show bz (t1.2.2.2 4) 20 from by first | exact hbz | exact hbz1 | exact hi19_3 | exact hi60_3 | exact hi106_3 | exact hi131_3 | exact hi158_3 | exact hi240_3 | exact hi253_3 | exact hi279_3 | exact hi290_3 | (rw [rfl]; first | exact hbz | exact hbz1 | exact hi19_3 | exact hi60_3 | exact hi106_3 | exact hi131_3 | exact hi158_3 | exact hi240_3 | exact hi253_3 | exact hi279_3 | exact hi290_3)) hP hD hS (lv_sub hl [0, 1, 2, 3, 4, 5, 6, 7, 8, 9] rfl)
  have L_131 : ∀ (t1 : tSt) (w131_4 : Int32) (w131_5 : Int32) (k131_0 : Int32) (H : Heap) (locs : List Loc) (ls : Array Slot), okM t1 → frA [(0, 5), (0, 6), (0, 7), (0, 9), (0, 10), (0, 11), (0, 12), (0, 14), (0, 15), (0, 16), (0, 17), (0, 18), (0, 30), (0, 31), (0, 35), (0, 36), (0, 38), (0, 41), (0, 42), (0, 43), (0, 44), (0, 45), (0, 46), (0, 47), (0, 48), (0, 51), (0, 52), (0, 60), (0, 67), (0, 68), (0, 69), (0, 70), (0, 71), (0, 72), (0, 73), (0, 78), (0, 79), (0, 80), (0, 81), (0, 82), (0, 83), (0, 88), (0, 90), (0, 91), (0, 93)] [(0, 8), (0, 13)] [2, 3, 5, 7, 8, 9, 10, 11, 12, 13, 14, 15, 16, 17, 18, 19, 20, 21, 22, 24, 25, 26, 27, 28, 29, 30, 31, 32, 33, 34, 35, 39, 40, 41, 42, 43, 44] [4, 6, 23] t t1 → (0 : Int) ≤ w131_4.toInt ∧ w131_4.toInt ≤ 1 → (2 : Int) ≤ w131_5.toInt ∧ w131_5.toInt ≤ 1281 → (0 : Int) ≤ k131_0.toInt ∧ k131_0.toInt ≤ 1 → (0 : Int) ≤ (t1.1 0 35).toInt ∧ (t1.1 0 35).toInt ≤ 0 → (0 : Int) ≤ (t1.1 0 42).toInt ∧ (t1.1 0 42).toInt ≤ 0 → ((t1.1 0 83).toInt = (t.1 0 83).toInt) → ((t1.1 0 78).toInt = 6) → ((t1.2.1 0 8).toInt = 0) → (bz (t1.2.2.2 4) 20) → va_P D vwCl (WM K ad t1) H → va_D A (WM K ad t1) → va_S A s.heap H locs → lv_has ls 10 [(0, .ref (ad 0)), (1, .int x1), (2, .int x2), (3, .int x3), (4, .int w131_4), (5, .int w131_5)] → W p l e (rmD 20 0 0) s m [.ref (ad 0), .int x1, .int x2, .int x3].toArray below meth c H locs 0 0 (MQ below (QV D K (fun (u : tSt) => okM u ∧ frA [(0, 5), (0, 6), (0, 7), (0, 9), (0, 10), (0, 11), (0, 12), (0, 14), (0, 15), (0, 16), (0, 17), (0, 18), (0, 30), (0, 31), (0, 35), (0, 36), (0, 38), (0, 41), (0, 42), (0, 43), (0, 44), (0, 45), (0, 46), (0, 47), (0, 48), (0, 51), (0, 52), (0, 60), (0, 67), (0, 68), (0, 69), (0, 70), (0, 71), (0, 72), (0, 73), (0, 78), (0, 79), (0, 80), (0, 81), (0, 82), (0, 83), (0, 88), (0, 90), (0, 91), (0, 93)] [(0, 8), (0, 13)] [2, 3, 5, 7, 8, 9, 10, 11, 12, 13, 14, 15, 16, 17, 18, 19, 20, 21, 22, 24, 25, 26, 27, 28, 29, 30, 31, 32, 33, 34, 35, 39, 40, 41, 42, 43, 44] [4, 6, 23] t u ∧ ((u.1 0 83).toInt = (t.1 0 83).toInt + 1) ∧ ((u.1 0 78).toInt = 6)) (fun (u : tSt) => WM K ad u) A) [.ref (ad 0), .int x1, .int x2, .int x3].toArray s 0 0 A) (F0 m 131 ls [.int k131_0]) := by
    intro t1 w131_4 w131_5 k131_0 H locs ls hok hfr hw131_4 hw131_5 hk131_0 hf131_35 hf131_42 hi131_0 hi131_1 hi131_2 hi131_3 hP hD hS hl
    have h_260 : (t1.1 0 77).toInt = (t.1 0 77).toInt := ti_eq (hfr.1 0 77 rfl)
    have e_261 : t1.2.2.1 37 = t.2.2.1 37 := hfr.2.2.1 37 rfl
    have e_262 : t1.2.2.1 38 = t.2.2.1 38 := hfr.2.2.1 38 rfl
    have h_263 : (0 : Int) ≤ (t1.1 0 12).toInt ∧ (t1.1 0 12).toInt ≤ 1 := hok.1 0 12
    have h_264 : (0 : Int) ≤ (t1.1 0 36).toInt ∧ (t1.1 0 36).toInt ≤ 1700 := hok.1 0 36
    have h_265 : (0 : Int) ≤ (t1.1 0 77).toInt ∧ (t1.1 0 77).toInt ≤ 1280 := hok.1 0 77
    have h_266 : (0 : Int) ≤ (t1.1 0 78).toInt ∧ (t1.1 0 78).toInt ≤ 6 := hok.1 0 78
    have h_267 : (0 : Int) ≤ (t1.1 0 83).toInt ∧ (t1.1 0 83).toInt ≤ 427 := hok.1 0 83
    refine lv_istore (lv' := [(5, .int k131_0), (0, .ref (ad 0)), (1, .int x1), (2, .int x2), (3, .int x3), (4, .int w131_4)]) C.1 C.2.1 dX12_doJob_131 hl (by decide) rfl (fun ls hl => ?_)
    have hl : lv_has ls 10 [(0, .ref (ad 0)), (1, .int x1), (2, .int x2), (3, .int x3), (4, .int w131_4), (5, .int k131_0)] := lv_sub hl [1, 2, 3, 4, 5, 0] rfl
    refine lv_iload_n C.1 C.2.1 dX12_doJob_133 rfl (lv_at hl 1 rfl) ?_
    refine lv_iconst (v := 1) C.1 C.2.1 dX12_doJob_134 (by decide) ?_
    obtain ⟨v_268, e_269⟩ : ∃ z, z = (x1 : Int32) + (1 : Int32) := ⟨_, rfl⟩
    have h_270 : v_268.toInt = x1.toInt + 1 := by rw [e_269]; exact ti_iadd (by show (_ : Int) ≤ x1.toInt + 1; omega) (by show x1.toInt + 1 < (_ : Int); omega)
    refine k_iadd (v := v_268) C e_269.symm dX12_doJob_135 ?_
    refine lv_iload_n C.1 C.2.1 dX12_doJob_136 rfl (lv_at hl 2 rfl) ?_
    refine lv_icmp_ge (tgt := 157) C.1 C.2.1 dX12_doJob_137 (by decide) (fun c_271 => ?_) (fun c_271 => ?_)
    · replace c_271 : x2.toInt ≤ v_268.toInt := i_le c_271
      refine lv_iconst (v := 0) C.1 C.2.1 dX12_doJob_157 (by decide) ?_
      exact L_158 t1 w131_4 k131_0 0 _ _ _ hok hfr ⟨by omega, by omega⟩ ⟨by omega, by omega⟩ ⟨by decide, by decide⟩ (show (0 : Int) ≤ ((t1.1 0 35) : Int32).toInt ∧ ((t1.1 0 35) : Int32).toInt ≤ 0 from ⟨by omega, by omega⟩) (show (0 : Int) ≤ ((t1.1 0 42) : Int32).toInt ∧ ((t1.1 0 42) : Int32).toInt ≤ 0 from ⟨by omega, by omega⟩) (show (t1.1 0 83).toInt = (t.1 0 83).toInt from by omega) (show (t1.1 0 78).toInt = 6 from by omega) (show (t1.2.1 0 8).toInt = 0 from by omega) (show bz (t1.2.2.2 4) 20 from by first | exact hbz | exact hbz1 | exact hi19_3 | exact hi60_3 | exact hi106_3 | exact hi131_3 | exact hi158_3 | exact hi240_3 | exact hi253_3 | exact hi279_3 | exact hi290_3 | (rw [rfl]; first | exact hbz | exact hbz1 | exact hi19_3 | exact hi60_3 | exact hi106_3 | exact hi131_3 | exact hi158_3 | exact hi240_3 | exact hi253_3 | exact hi279_3 | exact hi290_3)) hP hD hS (lv_sub hl [0, 1, 2, 3, 4, 5] rfl)
    · replace c_271 : v_268.toInt < x2.toInt := i_nle c_271
      refine lv_aload_n C.1 C.2.1 dX12_doJob_140 rfl (lv_at hl 0 rfl) ?_
      refine lv_iload_n C.1 C.2.1 dX12_doJob_141 rfl (lv_at hl 1 rfl) ?_
      refine lv_iconst (v := 1) C.1 C.2.1 dX12_doJob_142 (by decide) ?_
      obtain ⟨v_272, e_273⟩ : ∃ z, z = (x1 : Int32) + (1 : Int32) := ⟨_, rfl⟩
      have h_274 : v_272.toInt = x1.toInt + 1 := by rw [e_273]; exact ti_iadd (by show (_ : Int) ≤ x1.toInt + 1; omega) (by show x1.toInt + 1 < (_ : Int); omega)
      refine k_iadd (v := v_272) C e_273.symm dX12_doJob_143 ?_
      refine va_ldcwS C.1 C.2.1 C.2.2.2.1 (hE.2 34 (by decide)) dX12_doJob_144 ?_
      refine g_Vi (As := [.int v_272, .ref (Z 34)]) (rest := []) C hP hD hS hA (T_X12_isWord l D K Z Y ad t1 hok (v_272) (show (0 : Int) ≤ (v_272 : Int32).toInt ∧ (v_272 : Int32).toInt ≤ 1280 from ⟨by omega, by omega⟩) (34) (show sS 34 from ⟨by decide, by decide, by decide⟩)) hE hZ (uwV m_79_1 m_79_2 m_79_3 m_1_5 m_79_4) (hdV 2 (by decide +kernel) rfl) ⟨Nat.le_of_ble_eq_true rfl, Nat.le_of_ble_eq_true rfl⟩ rfl rfl (ci := 11) (q0 := 0) rfl rfl rfl hl.1 (Nat.le_of_ble_eq_true rfl) dX12_doJob_147 ⟨Nat.le_of_ble_eq_true rfl, Nat.le_of_ble_eq_true rfl⟩ (fun r_276 t_275 H locs hw hP hD hS => ?_)
      obtain ⟨h_278, h_279⟩ := hw
      refine lv_if_eq (tgt := 157) C.1 C.2.1 dX12_doJob_150 (by decide) (fun c_280 => ?_) (fun c_280 => ?_)
      · replace c_280 : r_276.toInt = 0 := i_eq c_280
        refine lv_iconst (v := 0) C.1 C.2.1 dX12_doJob_157 (by decide) ?_
        exact L_158 t1 w131_4 k131_0 0 _ _ _ hok hfr ⟨by omega, by omega⟩ ⟨by omega, by omega⟩ ⟨by decide, by decide⟩ (show (0 : Int) ≤ ((t1.1 0 35) : Int32).toInt ∧ ((t1.1 0 35) : Int32).toInt ≤ 0 from ⟨by omega, by omega⟩) (show (0 : Int) ≤ ((t1.1 0 42) : Int32).toInt ∧ ((t1.1 0 42) : Int32).toInt ≤ 0 from ⟨by omega, by omega⟩) (show (t1.1 0 83).toInt = (t.1 0 83).toInt from by omega) (show (t1.1 0 78).toInt = 6 from by omega) (show (t1.2.1 0 8).toInt = 0 from by omega) (show bz (t1.2.2.2 4) 20 from by first | exact hbz | exact hbz1 | exact hi19_3 | exact hi60_3 | exact hi106_3 | exact hi131_3 | exact hi158_3 | exact hi240_3 | exact hi253_3 | exact hi279_3 | exact hi290_3 | (rw [rfl]; first | exact hbz | exact hbz1 | exact hi19_3 | exact hi60_3 | exact hi106_3 | exact hi131_3 | exact hi158_3 | exact hi240_3 | exact hi253_3 | exact hi279_3 | exact hi290_3)) hP hD hS (lv_sub hl [0, 1, 2, 3, 4, 5] rfl)
      · replace c_280 : ¬ r_276.toInt = 0 := i_ne c_280
        refine lv_iconst (v := 1) C.1 C.2.1 dX12_doJob_153 (by decide) ?_
        refine lv_goto (tgt := 158) C.1 C.2.1 dX12_doJob_154 (by decide) ?_
        exact L_158 t1 w131_4 k131_0 1 _ _ _ hok hfr ⟨by omega, by omega⟩ ⟨by omega, by omega⟩ ⟨by decide, by decide⟩ (show (0 : Int) ≤ ((t1.1 0 35) : Int32).toInt ∧ ((t1.1 0 35) : Int32).toInt ≤ 0 from ⟨by omega, by omega⟩) (show (0 : Int) ≤ ((t1.1 0 42) : Int32).toInt ∧ ((t1.1 0 42) : Int32).toInt ≤ 0 from ⟨by omega, by omega⟩) (show (t1.1 0 83).toInt = (t.1 0 83).toInt from by omega) (show (t1.1 0 78).toInt = 6 from by omega) (show (t1.2.1 0 8).toInt = 0 from by omega) (show bz (t1.2.2.2 4) 20 from by first | exact hbz | exact hbz1 | exact hi19_3 | exact hi60_3 | exact hi106_3 | exact hi131_3 | exact hi158_3 | exact hi240_3 | exact hi253_3 | exact hi279_3 | exact hi290_3 | (rw [rfl]; first | exact hbz | exact hbz1 | exact hi19_3 | exact hi60_3 | exact hi106_3 | exact hi131_3 | exact hi158_3 | exact hi240_3 | exact hi253_3 | exact hi279_3 | exact hi290_3)) hP hD hS (lv_sub hl [0, 1, 2, 3, 4, 5] rfl)
  have L_106 : ∀ (t1 : tSt) (w106_4 : Int32) (w106_5 : Int32) (H : Heap) (locs : List Loc) (ls : Array Slot), okM t1 → frA [(0, 5), (0, 6), (0, 7), (0, 9), (0, 10), (0, 11), (0, 12), (0, 14), (0, 15), (0, 16), (0, 17), (0, 18), (0, 30), (0, 31), (0, 35), (0, 36), (0, 38), (0, 41), (0, 42), (0, 43), (0, 44), (0, 45), (0, 46), (0, 47), (0, 48), (0, 51), (0, 52), (0, 60), (0, 67), (0, 68), (0, 69), (0, 70), (0, 71), (0, 72), (0, 73), (0, 78), (0, 79), (0, 80), (0, 81), (0, 82), (0, 83), (0, 88), (0, 90), (0, 91), (0, 93)] [(0, 8), (0, 13)] [2, 3, 5, 7, 8, 9, 10, 11, 12, 13, 14, 15, 16, 17, 18, 19, 20, 21, 22, 24, 25, 26, 27, 28, 29, 30, 31, 32, 33, 34, 35, 39, 40, 41, 42, 43, 44] [4, 6, 23] t t1 → (0 : Int) ≤ w106_4.toInt ∧ w106_4.toInt ≤ 1 → (2 : Int) ≤ w106_5.toInt ∧ w106_5.toInt ≤ 1281 → (0 : Int) ≤ (t1.1 0 35).toInt ∧ (t1.1 0 35).toInt ≤ 0 → (0 : Int) ≤ (t1.1 0 42).toInt ∧ (t1.1 0 42).toInt ≤ 0 → ((t1.1 0 83).toInt = (t.1 0 83).toInt) → ((t1.1 0 78).toInt = 6) → ((t1.2.1 0 8).toInt = 0) → (bz (t1.2.2.2 4) 20) → va_P D vwCl (WM K ad t1) H → va_D A (WM K ad t1) → va_S A s.heap H locs → lv_has ls 10 [(0, .ref (ad 0)), (1, .int x1), (2, .int x2), (3, .int x3), (4, .int w106_4), (5, .int w106_5)] → W p l e (rmD 20 0 0) s m [.ref (ad 0), .int x1, .int x2, .int x3].toArray below meth c H locs 0 0 (MQ below (QV D K (fun (u : tSt) => okM u ∧ frA [(0, 5), (0, 6), (0, 7), (0, 9), (0, 10), (0, 11), (0, 12), (0, 14), (0, 15), (0, 16), (0, 17), (0, 18), (0, 30), (0, 31), (0, 35), (0, 36), (0, 38), (0, 41), (0, 42), (0, 43), (0, 44), (0, 45), (0, 46), (0, 47), (0, 48), (0, 51), (0, 52), (0, 60), (0, 67), (0, 68), (0, 69), (0, 70), (0, 71), (0, 72), (0, 73), (0, 78), (0, 79), (0, 80), (0, 81), (0, 82), (0, 83), (0, 88), (0, 90), (0, 91), (0, 93)] [(0, 8), (0, 13)] [2, 3, 5, 7, 8, 9, 10, 11, 12, 13, 14, 15, 16, 17, 18, 19, 20, 21, 22, 24, 25, 26, 27, 28, 29, 30, 31, 32, 33, 34, 35, 39, 40, 41, 42, 43, 44] [4, 6, 23] t u ∧ ((u.1 0 83).toInt = (t.1 0 83).toInt + 1) ∧ ((u.1 0 78).toInt = 6)) (fun (u : tSt) => WM K ad u) A) [.ref (ad 0), .int x1, .int x2, .int x3].toArray s 0 0 A) (F0 m 106 ls []) := by
    intro t1 w106_4 w106_5 H locs ls hok hfr hw106_4 hw106_5 hf106_35 hf106_42 hi106_0 hi106_1 hi106_2 hi106_3 hP hD hS hl
    have h_281 : (t1.1 0 77).toInt = (t.1 0 77).toInt := ti_eq (hfr.1 0 77 rfl)
    have e_282 : t1.2.2.1 37 = t.2.2.1 37 := hfr.2.2.1 37 rfl
    have e_283 : t1.2.2.1 38 = t.2.2.1 38 := hfr.2.2.1 38 rfl
    have h_284 : (0 : Int) ≤ (t1.1 0 12).toInt ∧ (t1.1 0 12).toInt ≤ 1 := hok.1 0 12
    have h_285 : (0 : Int) ≤ (t1.1 0 36).toInt ∧ (t1.1 0 36).toInt ≤ 1700 := hok.1 0 36
    have h_286 : (0 : Int) ≤ (t1.1 0 77).toInt ∧ (t1.1 0 77).toInt ≤ 1280 := hok.1 0 77
    have h_287 : (0 : Int) ≤ (t1.1 0 78).toInt ∧ (t1.1 0 78).toInt ≤ 6 := hok.1 0 78
    have h_288 : (0 : Int) ≤ (t1.1 0 83).toInt ∧ (t1.1 0 83).toInt ≤ 427 := hok.1 0 83
    refine lv_iload_n C.1 C.2.1 dX12_doJob_106 rfl (lv_at hl 1 rfl) ?_
    refine lv_iconst (v := 1) C.1 C.2.1 dX12_doJob_107 (by decide) ?_
    obtain ⟨v_289, e_290⟩ : ∃ z, z = (x1 : Int32) + (1 : Int32) := ⟨_, rfl⟩
    have h_291 : v_289.toInt = x1.toInt + 1 := by rw [e_290]; exact ti_iadd (by show (_ : Int) ≤ x1.toInt + 1; omega) (by show x1.toInt + 1 < (_ : Int); omega)
    refine k_iadd (v := v_289) C e_290.symm dX12_doJob_108 ?_
    refine lv_iload_n C.1 C.2.1 dX12_doJob_109 rfl (lv_at hl 2 rfl) ?_
    refine lv_icmp_ge (tgt := 130) C.1 C.2.1 dX12_doJob_110 (by decide) (fun c_292 => ?_) (fun c_292 => ?_)
    · replace c_292 : x2.toInt ≤ v_289.toInt := i_le c_292
      refine lv_iconst (v := 0) C.1 C.2.1 dX12_doJob_130 (by decide) ?_
      exact L_131 t1 w106_4 w106_5 0 _ _ _ hok hfr ⟨by omega, by omega⟩ ⟨by omega, by omega⟩ ⟨by decide, by decide⟩ (show (0 : Int) ≤ ((t1.1 0 35) : Int32).toInt ∧ ((t1.1 0 35) : Int32).toInt ≤ 0 from ⟨by omega, by omega⟩) (show (0 : Int) ≤ ((t1.1 0 42) : Int32).toInt ∧ ((t1.1 0 42) : Int32).toInt ≤ 0 from ⟨by omega, by omega⟩) (show (t1.1 0 83).toInt = (t.1 0 83).toInt from by omega) (show (t1.1 0 78).toInt = 6 from by omega) (show (t1.2.1 0 8).toInt = 0 from by omega) (show bz (t1.2.2.2 4) 20 from by first | exact hbz | exact hbz1 | exact hi19_3 | exact hi60_3 | exact hi106_3 | exact hi131_3 | exact hi158_3 | exact hi240_3 | exact hi253_3 | exact hi279_3 | exact hi290_3 | (rw [rfl]; first | exact hbz | exact hbz1 | exact hi19_3 | exact hi60_3 | exact hi106_3 | exact hi131_3 | exact hi158_3 | exact hi240_3 | exact hi253_3 | exact hi279_3 | exact hi290_3)) hP hD hS (lv_sub hl [0, 1, 2, 3, 4, 5] rfl)
    · replace c_292 : v_289.toInt < x2.toInt := i_nle c_292
      refine lv_aload_n C.1 C.2.1 dX12_doJob_113 rfl (lv_at hl 0 rfl) ?_
      refine lv_iload_n C.1 C.2.1 dX12_doJob_114 rfl (lv_at hl 1 rfl) ?_
      refine lv_iconst (v := 1) C.1 C.2.1 dX12_doJob_115 (by decide) ?_
      obtain ⟨v_293, e_294⟩ : ∃ z, z = (x1 : Int32) + (1 : Int32) := ⟨_, rfl⟩
      have h_295 : v_293.toInt = x1.toInt + 1 := by rw [e_294]; exact ti_iadd (by show (_ : Int) ≤ x1.toInt + 1; omega) (by show x1.toInt + 1 < (_ : Int); omega)
      refine k_iadd (v := v_293) C e_294.symm dX12_doJob_116 ?_
      refine va_ldcwS C.1 C.2.1 C.2.2.2.1 (hE.2 33 (by decide)) dX12_doJob_117 ?_
      refine g_Vi (As := [.int v_293, .ref (Z 33)]) (rest := []) C hP hD hS hA (T_X12_isWord l D K Z Y ad t1 hok (v_293) (show (0 : Int) ≤ (v_293 : Int32).toInt ∧ (v_293 : Int32).toInt ≤ 1280 from ⟨by omega, by omega⟩) (33) (show sS 33 from ⟨by decide, by decide, by decide⟩)) hE hZ (uwV m_79_1 m_79_2 m_79_3 m_1_5 m_79_4) (hdV 2 (by decide +kernel) rfl) ⟨Nat.le_of_ble_eq_true rfl, Nat.le_of_ble_eq_true rfl⟩ rfl rfl (ci := 11) (q0 := 0) rfl rfl rfl hl.1 (Nat.le_of_ble_eq_true rfl) dX12_doJob_120 ⟨Nat.le_of_ble_eq_true rfl, Nat.le_of_ble_eq_true rfl⟩ (fun r_297 t_296 H locs hw hP hD hS => ?_)
      obtain ⟨h_299, h_300⟩ := hw
      refine lv_if_eq (tgt := 130) C.1 C.2.1 dX12_doJob_123 (by decide) (fun c_301 => ?_) (fun c_301 => ?_)
      · replace c_301 : r_297.toInt = 0 := i_eq c_301
        refine lv_iconst (v := 0) C.1 C.2.1 dX12_doJob_130 (by decide) ?_
        exact L_131 t1 w106_4 w106_5 0 _ _ _ hok hfr ⟨by omega, by omega⟩ ⟨by omega, by omega⟩ ⟨by decide, by decide⟩ (show (0 : Int) ≤ ((t1.1 0 35) : Int32).toInt ∧ ((t1.1 0 35) : Int32).toInt ≤ 0 from ⟨by omega, by omega⟩) (show (0 : Int) ≤ ((t1.1 0 42) : Int32).toInt ∧ ((t1.1 0 42) : Int32).toInt ≤ 0 from ⟨by omega, by omega⟩) (show (t1.1 0 83).toInt = (t.1 0 83).toInt from by omega) (show (t1.1 0 78).toInt = 6 from by omega) (show (t1.2.1 0 8).toInt = 0 from by omega) (show bz (t1.2.2.2 4) 20 from by first | exact hbz | exact hbz1 | exact hi19_3 | exact hi60_3 | exact hi106_3 | exact hi131_3 | exact hi158_3 | exact hi240_3 | exact hi253_3 | exact hi279_3 | exact hi290_3 | (rw [rfl]; first | exact hbz | exact hbz1 | exact hi19_3 | exact hi60_3 | exact hi106_3 | exact hi131_3 | exact hi158_3 | exact hi240_3 | exact hi253_3 | exact hi279_3 | exact hi290_3)) hP hD hS (lv_sub hl [0, 1, 2, 3, 4, 5] rfl)
      · replace c_301 : ¬ r_297.toInt = 0 := i_ne c_301
        refine lv_iconst (v := 1) C.1 C.2.1 dX12_doJob_126 (by decide) ?_
        refine lv_goto (tgt := 131) C.1 C.2.1 dX12_doJob_127 (by decide) ?_
        exact L_131 t1 w106_4 w106_5 1 _ _ _ hok hfr ⟨by omega, by omega⟩ ⟨by omega, by omega⟩ ⟨by decide, by decide⟩ (show (0 : Int) ≤ ((t1.1 0 35) : Int32).toInt ∧ ((t1.1 0 35) : Int32).toInt ≤ 0 from ⟨by omega, by omega⟩) (show (0 : Int) ≤ ((t1.1 0 42) : Int32).toInt ∧ ((t1.1 0 42) : Int32).toInt ≤ 0 from ⟨by omega, by omega⟩) (show (t1.1 0 83).toInt = (t.1 0 83).toInt from by omega) (show (t1.1 0 78).toInt = 6 from by omega) (show (t1.2.1 0 8).toInt = 0 from by omega) (show bz (t1.2.2.2 4) 20 from by first | exact hbz | exact hbz1 | exact hi19_3 | exact hi60_3 | exact hi106_3 | exact hi131_3 | exact hi158_3 | exact hi240_3 | exact hi253_3 | exact hi279_3 | exact hi290_3 | (rw [rfl]; first | exact hbz | exact hbz1 | exact hi19_3 | exact hi60_3 | exact hi106_3 | exact hi131_3 | exact hi158_3 | exact hi240_3 | exact hi253_3 | exact hi279_3 | exact hi290_3)) hP hD hS (lv_sub hl [0, 1, 2, 3, 4, 5] rfl)
  have L_60 : ∀ (fuel_60 : Nat) (t1 : tSt) (w60_4 : Int32) (w60_5 : Int32) (H : Heap) (locs : List Loc) (ls : Array Slot), okM t1 → frA [(0, 5), (0, 6), (0, 7), (0, 9), (0, 10), (0, 11), (0, 12), (0, 14), (0, 15), (0, 16), (0, 17), (0, 18), (0, 30), (0, 31), (0, 35), (0, 36), (0, 38), (0, 41), (0, 42), (0, 43), (0, 44), (0, 45), (0, 46), (0, 47), (0, 48), (0, 51), (0, 52), (0, 60), (0, 67), (0, 68), (0, 69), (0, 70), (0, 71), (0, 72), (0, 73), (0, 78), (0, 79), (0, 80), (0, 81), (0, 82), (0, 83), (0, 88), (0, 90), (0, 91), (0, 93)] [(0, 8), (0, 13)] [2, 3, 5, 7, 8, 9, 10, 11, 12, 13, 14, 15, 16, 17, 18, 19, 20, 21, 22, 24, 25, 26, 27, 28, 29, 30, 31, 32, 33, 34, 35, 39, 40, 41, 42, 43, 44] [4, 6, 23] t t1 → (0 : Int) ≤ w60_4.toInt ∧ w60_4.toInt ≤ 1 → (2 : Int) ≤ w60_5.toInt ∧ w60_5.toInt ≤ 1281 → (0 : Int) ≤ (t1.1 0 35).toInt ∧ (t1.1 0 35).toInt ≤ 0 → (0 : Int) ≤ (t1.1 0 42).toInt ∧ (t1.1 0 42).toInt ≤ 0 → ((t1.1 0 83).toInt = (t.1 0 83).toInt) → ((t1.1 0 78).toInt = 6) → ((t1.2.1 0 8).toInt = 0) → (bz (t1.2.2.2 4) 20) → (x2.toInt + 1 ≤ w60_5.toInt) → (w60_5.toInt ≤ x3.toInt) → ((t1.1 0 36).toInt ≤ w60_5.toInt) → (lastLe (t1.1 0 36) (t1.2.2.1 17) ((t.2.2.1 37 (w60_5 : Int32).toNatClampNeg).toInt)) → (x3.toInt - w60_5.toInt) < (fuel_60 : Int) → va_P D vwCl (WM K ad t1) H → va_D A (WM K ad t1) → va_S A s.heap H locs → lv_has ls 10 [(0, .ref (ad 0)), (1, .int x1), (2, .int x2), (3, .int x3), (4, .int w60_4), (5, .int w60_5)] → W p l e (rmD 20 0 0) s m [.ref (ad 0), .int x1, .int x2, .int x3].toArray below meth c H locs 0 0 (MQ below (QV D K (fun (u : tSt) => okM u ∧ frA [(0, 5), (0, 6), (0, 7), (0, 9), (0, 10), (0, 11), (0, 12), (0, 14), (0, 15), (0, 16), (0, 17), (0, 18), (0, 30), (0, 31), (0, 35), (0, 36), (0, 38), (0, 41), (0, 42), (0, 43), (0, 44), (0, 45), (0, 46), (0, 47), (0, 48), (0, 51), (0, 52), (0, 60), (0, 67), (0, 68), (0, 69), (0, 70), (0, 71), (0, 72), (0, 73), (0, 78), (0, 79), (0, 80), (0, 81), (0, 82), (0, 83), (0, 88), (0, 90), (0, 91), (0, 93)] [(0, 8), (0, 13)] [2, 3, 5, 7, 8, 9, 10, 11, 12, 13, 14, 15, 16, 17, 18, 19, 20, 21, 22, 24, 25, 26, 27, 28, 29, 30, 31, 32, 33, 34, 35, 39, 40, 41, 42, 43, 44] [4, 6, 23] t u ∧ ((u.1 0 83).toInt = (t.1 0 83).toInt + 1) ∧ ((u.1 0 78).toInt = 6)) (fun (u : tSt) => WM K ad u) A) [.ref (ad 0), .int x1, .int x2, .int x3].toArray s 0 0 A) (F0 m 60 ls []) := by
    intro fuel_60
    induction fuel_60 with
    | zero =>
      intro t1 w60_4 w60_5 H locs ls hok hfr hw60_4 hw60_5 hf60_35 hf60_42 hi60_0 hi60_1 hi60_2 hi60_3 hi60_4 hi60_5 hi60_6 hi60_7 hm60_60 hP hD hS hl
      have h_302 : (t1.1 0 77).toInt = (t.1 0 77).toInt := ti_eq (hfr.1 0 77 rfl)
      have e_303 : t1.2.2.1 37 = t.2.2.1 37 := hfr.2.2.1 37 rfl
      have e_304 : t1.2.2.1 38 = t.2.2.1 38 := hfr.2.2.1 38 rfl
      have h_305 : (0 : Int) ≤ (t1.1 0 12).toInt ∧ (t1.1 0 12).toInt ≤ 1 := hok.1 0 12
      have h_306 : (0 : Int) ≤ (t1.1 0 36).toInt ∧ (t1.1 0 36).toInt ≤ 1700 := hok.1 0 36
      have h_307 : (0 : Int) ≤ (t1.1 0 77).toInt ∧ (t1.1 0 77).toInt ≤ 1280 := hok.1 0 77
      have h_308 : (0 : Int) ≤ (t1.1 0 78).toInt ∧ (t1.1 0 78).toInt ≤ 6 := hok.1 0 78
      have h_309 : (0 : Int) ≤ (t1.1 0 83).toInt ∧ (t1.1 0 83).toInt ≤ 427 := hok.1 0 83
      exact absurd hm60_60 (by omega)
    | succ fuel_60 ih_60 =>
      intro t1 w60_4 w60_5 H locs ls hok hfr hw60_4 hw60_5 hf60_35 hf60_42 hi60_0 hi60_1 hi60_2 hi60_3 hi60_4 hi60_5 hi60_6 hi60_7 hm60_60 hP hD hS hl
      have hm60_60 : (x3.toInt - w60_5.toInt) < (fuel_60 : Int) + 1 := by omega
      have h_310 : (t1.1 0 77).toInt = (t.1 0 77).toInt := ti_eq (hfr.1 0 77 rfl)
      have e_311 : t1.2.2.1 37 = t.2.2.1 37 := hfr.2.2.1 37 rfl
      have e_312 : t1.2.2.1 38 = t.2.2.1 38 := hfr.2.2.1 38 rfl
      have h_313 : (0 : Int) ≤ (t1.1 0 12).toInt ∧ (t1.1 0 12).toInt ≤ 1 := hok.1 0 12
      have h_314 : (0 : Int) ≤ (t1.1 0 36).toInt ∧ (t1.1 0 36).toInt ≤ 1700 := hok.1 0 36
      have h_315 : (0 : Int) ≤ (t1.1 0 77).toInt ∧ (t1.1 0 77).toInt ≤ 1280 := hok.1 0 77
      have h_316 : (0 : Int) ≤ (t1.1 0 78).toInt ∧ (t1.1 0 78).toInt ≤ 6 := hok.1 0 78
      have h_317 : (0 : Int) ≤ (t1.1 0 83).toInt ∧ (t1.1 0 83).toInt ≤ 427 := hok.1 0 83
      refine lv_iload C.1 C.2.1 dX12_doJob_60 (lv_at hl 5 rfl) ?_
      refine lv_iload_n C.1 C.2.1 dX12_doJob_62 rfl (lv_at hl 3 rfl) ?_
      refine lv_icmp_ge (tgt := 106) C.1 C.2.1 dX12_doJob_63 (by decide) (fun c_318 => ?_) (fun c_318 => ?_)
      · replace c_318 : x3.toInt ≤ w60_5.toInt := i_le c_318
        exact L_106 t1 w60_4 w60_5 _ _ _ hok hfr ⟨by omega, by omega⟩ ⟨by omega, by omega⟩ (show (0 : Int) ≤ ((t1.1 0 35) : Int32).toInt ∧ ((t1.1 0 35) : Int32).toInt ≤ 0 from ⟨by omega, by omega⟩) (show (0 : Int) ≤ ((t1.1 0 42) : Int32).toInt ∧ ((t1.1 0 42) : Int32).toInt ≤ 0 from ⟨by omega, by omega⟩) (show (t1.1 0 83).toInt = (t.1 0 83).toInt from by omega) (show (t1.1 0 78).toInt = 6 from by omega) (show (t1.2.1 0 8).toInt = 0 from by omega) (show bz (t1.2.2.2 4) 20 from by first | exact hbz | exact hbz1 | exact hi19_3 | exact hi60_3 | exact hi106_3 | exact hi131_3 | exact hi158_3 | exact hi240_3 | exact hi253_3 | exact hi279_3 | exact hi290_3 | (rw [rfl]; first | exact hbz | exact hbz1 | exact hi19_3 | exact hi60_3 | exact hi106_3 | exact hi131_3 | exact hi158_3 | exact hi240_3 | exact hi253_3 | exact hi279_3 | exact hi290_3)) hP hD hS (lv_sub hl [0, 1, 2, 3, 4, 5] rfl)
      · replace c_318 : w60_5.toInt < x3.toInt := i_nle c_318
        refine lv_aload_n C.1 C.2.1 dX12_doJob_66 rfl (lv_at hl 0 rfl) ?_
        refine lv_iload C.1 C.2.1 dX12_doJob_67 (lv_at hl 5 rfl) ?_
        refine lv_iconst (v := 1) C.1 C.2.1 dX12_doJob_69 (by decide) ?_
        have h_319 : (1 : Int32).toInt = 1 := rfl
        refine g_Vi (As := [.int w60_5, .int 1]) (rest := []) C hP hD hS hA (T_X12_deckLetter l D K Z Y ad t1 hok (w60_5) (show (0 : Int) ≤ (w60_5 : Int32).toInt ∧ (w60_5 : Int32).toInt ≤ 1280 from ⟨by omega, by omega⟩) 1 (show (1 : Int) ≤ (1 : Int32).toInt ∧ (1 : Int32).toInt ≤ 200 from ⟨by decide, by decide⟩)) hE hZ (uwV m_79_6 m_79_7 m_79_8 m_1_5 m_79_9) (hdV 2 (by decide +kernel) rfl) ⟨Nat.le_of_ble_eq_true rfl, Nat.le_of_ble_eq_true rfl⟩ rfl rfl (ci := 11) (q0 := 0) rfl rfl rfl hl.1 (Nat.le_of_ble_eq_true rfl) dX12_doJob_70 ⟨Nat.le_of_ble_eq_true rfl, Nat.le_of_ble_eq_true rfl⟩ (fun r_321 t_320 H locs hw hP hD hS => ?_)
        obtain ⟨h_323, h_324, p_325, p_326, p_327, p_328⟩ := hw
        replace p_325 : r_321 = fDeck t1 w60_5 (1 : Int32) := p_325
        replace p_326 : r_321.toInt = (fDeck t1 w60_5 (1 : Int32)).toInt := p_326
        replace p_327 : ¬ r_321.toInt = 32 → (t1.2.2.1 37 (w60_5 : Int32).toNatClampNeg).toInt + (1 : Int32).toInt ≤ (t1.2.2.1 38 (w60_5 : Int32).toNatClampNeg).toInt := p_327
        have h_329 : (t1.2.2.1 37 (w60_5 : Int32).toNatClampNeg).toInt = (t.2.2.1 37 (w60_5 : Int32).toNatClampNeg).toInt := tb_eq e_311 _
        have h_330 : (t1.2.2.1 38 (w60_5 : Int32).toNatClampNeg).toInt = (t.2.2.1 38 (w60_5 : Int32).toNatClampNeg).toInt := tb_eq e_312 _
        replace p_328 : 81 ≤ (1 : Int32).toInt → r_321.toInt = 32 := p_328
        refine lv_bipush (v := 42) C.1 C.2.1 dX12_doJob_73 (by decide) ?_
        refine lv_icmp_eq (tgt := 106) C.1 C.2.1 dX12_doJob_75 (by decide) (fun c_331 => ?_) (fun c_331 => ?_)
        · replace c_331 : r_321.toInt = 42 := i_eq c_331
          exact L_106 t1 w60_4 w60_5 _ _ _ hok hfr ⟨by omega, by omega⟩ ⟨by omega, by omega⟩ (show (0 : Int) ≤ ((t1.1 0 35) : Int32).toInt ∧ ((t1.1 0 35) : Int32).toInt ≤ 0 from ⟨by omega, by omega⟩) (show (0 : Int) ≤ ((t1.1 0 42) : Int32).toInt ∧ ((t1.1 0 42) : Int32).toInt ≤ 0 from ⟨by omega, by omega⟩) (show (t1.1 0 83).toInt = (t.1 0 83).toInt from by omega) (show (t1.1 0 78).toInt = 6 from by omega) (show (t1.2.1 0 8).toInt = 0 from by omega) (show bz (t1.2.2.2 4) 20 from by first | exact hbz | exact hbz1 | exact hi19_3 | exact hi60_3 | exact hi106_3 | exact hi131_3 | exact hi158_3 | exact hi240_3 | exact hi253_3 | exact hi279_3 | exact hi290_3 | (rw [rfl]; first | exact hbz | exact hbz1 | exact hi19_3 | exact hi60_3 | exact hi106_3 | exact hi131_3 | exact hi158_3 | exact hi240_3 | exact hi253_3 | exact hi279_3 | exact hi290_3)) hP hD hS (lv_sub hl [0, 1, 2, 3, 4, 5] rfl)
        · replace c_331 : ¬ r_321.toInt = 42 := i_ne c_331
          have hd1 : (t1.2.2.1 37 (w60_5 : Int32).toNatClampNeg).toInt ≤ (t1.2.2.1 38 (w60_5 : Int32).toNatClampNeg).toInt := by rw [e_311, e_312]; exact lnS_at hs5 w60_5 (by omega) (by omega)
          refine lv_aload_n C.1 C.2.1 dX12_doJob_78 rfl (lv_at hl 0 rfl) ?_
          refine lv_aload_n C.1 C.2.1 dX12_doJob_79 rfl (lv_at hl 0 rfl) ?_
          refine k_get (v := .ref (ad 36)) C hP 0 rfl rfl inlX12 74 (by decide) m_8_20 rfl dX12_doJob_80 ?_
          refine lv_aload_n C.1 C.2.1 dX12_doJob_83 rfl (lv_at hl 0 rfl) ?_
          refine k_get (v := .ref (ad 37)) C hP 0 rfl rfl inlX12 75 (by decide) m_8_21 rfl dX12_doJob_84 ?_
          refine lv_iload C.1 C.2.1 dX12_doJob_87 (lv_at hl 5 rfl) ?_
          have h_332 : (0 : Int) ≤ (t.2.2.1 37 (w60_5 : Int32).toNatClampNeg).toInt ∧ (t.2.2.1 37 (w60_5 : Int32).toNatClampNeg).toInt ≤ 1280 := by rw [← e_311]; exact hok.2.1 37 _
          refine k_ild (v := (t.2.2.1 37 (w60_5 : Int32).toNatClampNeg)) C hP 37 rfl (vp_in_iff.mpr ⟨by omega, by omega⟩) (congrFun e_311 _) dX12_doJob_89 ?_
          refine lv_aload_n C.1 C.2.1 dX12_doJob_90 rfl (lv_at hl 0 rfl) ?_
          refine k_get (v := .ref (ad 38)) C hP 0 rfl rfl inlX12 76 (by decide) m_8_22 rfl dX12_doJob_91 ?_
          refine lv_iload C.1 C.2.1 dX12_doJob_94 (lv_at hl 5 rfl) ?_
          have h_333 : (0 : Int) ≤ (t.2.2.1 38 (w60_5 : Int32).toNatClampNeg).toInt ∧ (t.2.2.1 38 (w60_5 : Int32).toNatClampNeg).toInt ≤ 1280 := by rw [← e_312]; exact hok.2.1 38 _
          refine k_ild (v := (t.2.2.1 38 (w60_5 : Int32).toNatClampNeg)) C hP 38 rfl (vp_in_iff.mpr ⟨by omega, by omega⟩) (congrFun e_312 _) dX12_doJob_96 ?_
          refine g_Vv (As := [.ref (ad 36), .int (t.2.2.1 37 (w60_5 : Int32).toNatClampNeg), .int (t.2.2.1 38 (w60_5 : Int32).toNatClampNeg)]) (rest := []) C hP hD hS hA (T_X12_addCard_1 l D K Z Y ad t1 hok ((t.2.2.1 37 (w60_5 : Int32).toNatClampNeg)) (show (0 : Int) ≤ ((t.2.2.1 37 (w60_5 : Int32).toNatClampNeg) : Int32).toInt ∧ ((t.2.2.1 37 (w60_5 : Int32).toNatClampNeg) : Int32).toInt ≤ 1280 from ⟨by omega, by omega⟩) ((t.2.2.1 38 (w60_5 : Int32).toNatClampNeg)) (show (0 : Int) ≤ ((t.2.2.1 38 (w60_5 : Int32).toNatClampNeg) : Int32).toInt ∧ ((t.2.2.1 38 (w60_5 : Int32).toNatClampNeg) : Int32).toInt ≤ 1280 from ⟨by omega, by omega⟩) (show (t1.1 0 36).toInt ≤ 1690 from by omega) (show (t.2.2.1 37 (w60_5 : Int32).toNatClampNeg).toInt ≤ (t.2.2.1 38 (w60_5 : Int32).toNatClampNeg).toInt from by omega) (show lastLe (t1.1 0 36) (t1.2.2.1 17) (33280 - ((t.2.2.1 38 (w60_5 : Int32).toNatClampNeg).toInt - (t.2.2.1 37 (w60_5 : Int32).toNatClampNeg).toInt)) from lastLe_le hi60_7 (by omega))) hE hZ (uwV m_44_22 m_44_23 m_45_0 m_1_5 m_45_1) (hdV 3 (by decide +kernel) rfl) ⟨Nat.le_of_ble_eq_true rfl, Nat.le_of_ble_eq_true rfl⟩ rfl rfl (ci := 11) (q0 := 0) rfl rfl rfl hl.1 (Nat.le_of_ble_eq_true rfl) dX12_doJob_97 ⟨Nat.le_of_ble_eq_true rfl, Nat.le_of_ble_eq_true rfl⟩ (fun t_334 H locs hw hP hD hS => ?_)
          obtain ⟨hok, f_336, p_337, p_338⟩ := hw
          have hfr : frA [(0, 5), (0, 6), (0, 7), (0, 9), (0, 10), (0, 11), (0, 12), (0, 14), (0, 15), (0, 16), (0, 17), (0, 18), (0, 30), (0, 31), (0, 35), (0, 36), (0, 38), (0, 41), (0, 42), (0, 43), (0, 44), (0, 45), (0, 46), (0, 47), (0, 48), (0, 51), (0, 52), (0, 60), (0, 67), (0, 68), (0, 69), (0, 70), (0, 71), (0, 72), (0, 73), (0, 78), (0, 79), (0, 80), (0, 81), (0, 82), (0, 83), (0, 88), (0, 90), (0, 91), (0, 93)] [(0, 8), (0, 13)] [2, 3, 5, 7, 8, 9, 10, 11, 12, 13, 14, 15, 16, 17, 18, 19, 20, 21, 22, 24, 25, 26, 27, 28, 29, 30, 31, 32, 33, 34, 35, 39, 40, 41, 42, 43, 44] [4, 6, 23] t t_334 := frA_tr hfr f_336 rfl
          have h_339 : (t_334.1 0 35).toInt = (t1.1 0 35).toInt := ti_eq (f_336.1 0 35 rfl)
          have h_340 : (t_334.1 0 42).toInt = (t1.1 0 42).toInt := ti_eq (f_336.1 0 42 rfl)
          have h_341 : (t_334.2.1 0 8).toInt = (t1.2.1 0 8).toInt := tl_eq (f_336.2.1 0 8 rfl)
          have h_342 : (t_334.1 0 12).toInt = (t1.1 0 12).toInt := ti_eq (f_336.1 0 12 rfl)
          have h_343 : (t_334.1 0 77).toInt = (t1.1 0 77).toInt := ti_eq (f_336.1 0 77 rfl)
          have h_344 : (t_334.1 0 78).toInt = (t1.1 0 78).toInt := ti_eq (f_336.1 0 78 rfl)
          have h_345 : (t_334.1 0 83).toInt = (t1.1 0 83).toInt := ti_eq (f_336.1 0 83 rfl)
          have e_346 : t_334.2.2.2 4 = t1.2.2.2 4 := f_336.2.2.2 4 rfl
          have e_347 : t_334.2.2.1 37 = t.2.2.1 37 := (f_336.2.2.1 37 rfl).trans (e_311)
          have e_348 : t_334.2.2.1 38 = t.2.2.1 38 := (f_336.2.2.1 38 rfl).trans (e_312)
          have h_349 : (0 : Int) ≤ (t_334.1 0 12).toInt ∧ (t_334.1 0 12).toInt ≤ 1 := hok.1 0 12
          have h_350 : (0 : Int) ≤ (t_334.1 0 36).toInt ∧ (t_334.1 0 36).toInt ≤ 1700 := hok.1 0 36
          have h_351 : (0 : Int) ≤ (t_334.1 0 77).toInt ∧ (t_334.1 0 77).toInt ≤ 1280 := hok.1 0 77
          have h_352 : (0 : Int) ≤ (t_334.1 0 78).toInt ∧ (t_334.1 0 78).toInt ≤ 6 := hok.1 0 78
          have h_353 : (0 : Int) ≤ (t_334.1 0 83).toInt ∧ (t_334.1 0 83).toInt ≤ 427 := hok.1 0 83
          replace p_337 : (t_334.1 0 36).toInt = (t1.1 0 36).toInt + 1 := p_337
          replace p_338 : ∀ b : Int, lastLe (t1.1 0 36) (t1.2.2.1 17) b → lastLe (t_334.1 0 36) (t_334.2.2.1 17) (b + ((t.2.2.1 38 (w60_5 : Int32).toNatClampNeg).toInt - (t.2.2.1 37 (w60_5 : Int32).toNatClampNeg).toInt)) := p_338
          have hla := p_338
          obtain ⟨v_354, e_355⟩ : ∃ z, z = w60_5 + 1 := ⟨_, rfl⟩
          have h_356 : v_354.toInt = w60_5.toInt + 1 := by rw [e_355]; exact ti_iadd (by show (_ : Int) ≤ w60_5.toInt + 1; omega) (by show w60_5.toInt + 1 < (_ : Int); omega)
          refine lv_iinc (v := v_354) (lv' := [(5, .int v_354), (0, .ref (ad 0)), (1, .int x1), (2, .int x2), (3, .int x3), (4, .int w60_4)]) C.1 C.2.1 dX12_doJob_100 hl (k := 5) rfl e_355.symm (by decide) rfl (fun ls hl => ?_)
          have hl : lv_has ls 10 [(0, .ref (ad 0)), (1, .int x1), (2, .int x2), (3, .int x3), (4, .int w60_4), (5, .int v_354)] := lv_sub hl [1, 2, 3, 4, 5, 0] rfl
          refine lv_goto (tgt := 60) C.1 C.2.1 dX12_doJob_103 (by decide) ?_
          have hz0 : 0 ≤ (t.2.2.1 37 (v_354 : Int32).toNatClampNeg).toInt := (hokt.2.1 37 _).1
          exact ih_60 t_334 w60_4 v_354 _ _ _ hok hfr ⟨by omega, by omega⟩ ⟨by omega, by omega⟩ (show (0 : Int) ≤ ((t_334.1 0 35) : Int32).toInt ∧ ((t_334.1 0 35) : Int32).toInt ≤ 0 from ⟨by omega, by omega⟩) (show (0 : Int) ≤ ((t_334.1 0 42) : Int32).toInt ∧ ((t_334.1 0 42) : Int32).toInt ≤ 0 from ⟨by omega, by omega⟩) (show (t_334.1 0 83).toInt = (t.1 0 83).toInt from by omega) (show (t_334.1 0 78).toInt = 6 from by omega) (show (t_334.2.1 0 8).toInt = 0 from by omega) (show bz (t_334.2.2.2 4) 20 from by first | exact hbz | exact hbz1 | exact hi19_3 | exact hi60_3 | exact hi106_3 | exact hi131_3 | exact hi158_3 | exact hi240_3 | exact hi253_3 | exact hi279_3 | exact hi290_3 | (rw [e_346]; first | exact hbz | exact hbz1 | exact hi19_3 | exact hi60_3 | exact hi106_3 | exact hi131_3 | exact hi158_3 | exact hi240_3 | exact hi253_3 | exact hi279_3 | exact hi290_3)) (show x2.toInt + 1 ≤ v_354.toInt from by omega) (show v_354.toInt ≤ x3.toInt from by omega) (show (t_334.1 0 36).toInt ≤ v_354.toInt from by omega) (show lastLe (t_334.1 0 36) (t_334.2.2.1 17) ((t.2.2.1 37 (v_354 : Int32).toNatClampNeg).toInt) from by first | exact lastLe_0 (by decide) (by omega) | exact lastLe_le (hla _ hi60_7) (by have q := lnS_nx hs5 w60_5 v_354 (by omega) (by omega) (by omega); omega)) (show (x3.toInt - v_354.toInt) < (fuel_60 : Int) from by omega) hP hD hS (lv_sub hl [0, 1, 2, 3, 4, 5] rfl)
  have L_19 : ∀ (fuel_19 : Nat) (t1 : tSt) (w19_4 : Int32) (w19_5 : Int32) (H : Heap) (locs : List Loc) (ls : Array Slot), okM t1 → frA [(0, 5), (0, 6), (0, 7), (0, 9), (0, 10), (0, 11), (0, 12), (0, 14), (0, 15), (0, 16), (0, 17), (0, 18), (0, 30), (0, 31), (0, 35), (0, 36), (0, 38), (0, 41), (0, 42), (0, 43), (0, 44), (0, 45), (0, 46), (0, 47), (0, 48), (0, 51), (0, 52), (0, 60), (0, 67), (0, 68), (0, 69), (0, 70), (0, 71), (0, 72), (0, 73), (0, 78), (0, 79), (0, 80), (0, 81), (0, 82), (0, 83), (0, 88), (0, 90), (0, 91), (0, 93)] [(0, 8), (0, 13)] [2, 3, 5, 7, 8, 9, 10, 11, 12, 13, 14, 15, 16, 17, 18, 19, 20, 21, 22, 24, 25, 26, 27, 28, 29, 30, 31, 32, 33, 34, 35, 39, 40, 41, 42, 43, 44] [4, 6, 23] t t1 → (0 : Int) ≤ w19_4.toInt ∧ w19_4.toInt ≤ 1 → (0 : Int) ≤ w19_5.toInt ∧ w19_5.toInt ≤ 8 → ((t1.1 0 83).toInt = (t.1 0 83).toInt) → ((t1.1 0 78).toInt = 6) → ((t1.2.1 0 8).toInt = 0) → (bz (t1.2.2.2 4) 20) → (8 : Int) - w19_5.toInt < (fuel_19 : Int) → va_P D vwCl (WM K ad t1) H → va_D A (WM K ad t1) → va_S A s.heap H locs → lv_has ls 10 [(0, .ref (ad 0)), (1, .int x1), (2, .int x2), (3, .int x3), (4, .int w19_4), (5, .int w19_5)] → W p l e (rmD 20 0 0) s m [.ref (ad 0), .int x1, .int x2, .int x3].toArray below meth c H locs 0 0 (MQ below (QV D K (fun (u : tSt) => okM u ∧ frA [(0, 5), (0, 6), (0, 7), (0, 9), (0, 10), (0, 11), (0, 12), (0, 14), (0, 15), (0, 16), (0, 17), (0, 18), (0, 30), (0, 31), (0, 35), (0, 36), (0, 38), (0, 41), (0, 42), (0, 43), (0, 44), (0, 45), (0, 46), (0, 47), (0, 48), (0, 51), (0, 52), (0, 60), (0, 67), (0, 68), (0, 69), (0, 70), (0, 71), (0, 72), (0, 73), (0, 78), (0, 79), (0, 80), (0, 81), (0, 82), (0, 83), (0, 88), (0, 90), (0, 91), (0, 93)] [(0, 8), (0, 13)] [2, 3, 5, 7, 8, 9, 10, 11, 12, 13, 14, 15, 16, 17, 18, 19, 20, 21, 22, 24, 25, 26, 27, 28, 29, 30, 31, 32, 33, 34, 35, 39, 40, 41, 42, 43, 44] [4, 6, 23] t u ∧ ((u.1 0 83).toInt = (t.1 0 83).toInt + 1) ∧ ((u.1 0 78).toInt = 6)) (fun (u : tSt) => WM K ad u) A) [.ref (ad 0), .int x1, .int x2, .int x3].toArray s 0 0 A) (F0 m 19 ls []) := by
    intro fuel_19
    induction fuel_19 with
    | zero =>
      intro t1 w19_4 w19_5 H locs ls hok hfr hw19_4 hw19_5 hi19_0 hi19_1 hi19_2 hi19_3 hm19_19 hP hD hS hl
      have h_357 : (t1.1 0 77).toInt = (t.1 0 77).toInt := ti_eq (hfr.1 0 77 rfl)
      have e_358 : t1.2.2.1 37 = t.2.2.1 37 := hfr.2.2.1 37 rfl
      have e_359 : t1.2.2.1 38 = t.2.2.1 38 := hfr.2.2.1 38 rfl
      have h_360 : (0 : Int) ≤ (t1.1 0 12).toInt ∧ (t1.1 0 12).toInt ≤ 1 := hok.1 0 12
      have h_361 : (0 : Int) ≤ (t1.1 0 35).toInt ∧ (t1.1 0 35).toInt ≤ 1700 := hok.1 0 35
      have h_362 : (0 : Int) ≤ (t1.1 0 36).toInt ∧ (t1.1 0 36).toInt ≤ 1700 := hok.1 0 36
      have h_363 : (0 : Int) ≤ (t1.1 0 77).toInt ∧ (t1.1 0 77).toInt ≤ 1280 := hok.1 0 77
      have h_364 : (0 : Int) ≤ (t1.1 0 78).toInt ∧ (t1.1 0 78).toInt ≤ 6 := hok.1 0 78
      have h_365 : (0 : Int) ≤ (t1.1 0 83).toInt ∧ (t1.1 0 83).toInt ≤ 427 := hok.1 0 83
      exact absurd hm19_19 (by omega)
    | succ fuel_19 ih_19 =>
      intro t1 w19_4 w19_5 H locs ls hok hfr hw19_4 hw19_5 hi19_0 hi19_1 hi19_2 hi19_3 hm19_19 hP hD hS hl
      have hm19_19 : (8 : Int) - w19_5.toInt < (fuel_19 : Int) + 1 := by omega
      have h_366 : (t1.1 0 77).toInt = (t.1 0 77).toInt := ti_eq (hfr.1 0 77 rfl)
      have e_367 : t1.2.2.1 37 = t.2.2.1 37 := hfr.2.2.1 37 rfl
      have e_368 : t1.2.2.1 38 = t.2.2.1 38 := hfr.2.2.1 38 rfl
      have h_369 : (0 : Int) ≤ (t1.1 0 12).toInt ∧ (t1.1 0 12).toInt ≤ 1 := hok.1 0 12
      have h_370 : (0 : Int) ≤ (t1.1 0 35).toInt ∧ (t1.1 0 35).toInt ≤ 1700 := hok.1 0 35
      have h_371 : (0 : Int) ≤ (t1.1 0 36).toInt ∧ (t1.1 0 36).toInt ≤ 1700 := hok.1 0 36
      have h_372 : (0 : Int) ≤ (t1.1 0 77).toInt ∧ (t1.1 0 77).toInt ≤ 1280 := hok.1 0 77
      have h_373 : (0 : Int) ≤ (t1.1 0 78).toInt ∧ (t1.1 0 78).toInt ≤ 6 := hok.1 0 78
      have h_374 : (0 : Int) ≤ (t1.1 0 83).toInt ∧ (t1.1 0 83).toInt ≤ 427 := hok.1 0 83
      refine lv_iload C.1 C.2.1 dX12_doJob_19 (lv_at hl 5 rfl) ?_
      refine lv_bipush (v := 8) C.1 C.2.1 dX12_doJob_21 (by decide) ?_
      refine lv_icmp_ge (tgt := 40) C.1 C.2.1 dX12_doJob_23 (by decide) (fun c_375 => ?_) (fun c_375 => ?_)
      · replace c_375 : 8 ≤ w19_5.toInt := i_le c_375
        refine lv_aload_n C.1 C.2.1 dX12_doJob_40 rfl (lv_at hl 0 rfl) ?_
        refine lv_iconst (v := 0) C.1 C.2.1 dX12_doJob_41 (by decide) ?_
        refine k_put (ws' := WM K ad (uI t1 0 42 0)) (v := .int 0) C hP hD hS 0 rfl rfl inlX12 tyX12_ok nmX12 42 (by decide) m_29_16 rfl (by decide) (by decide) rfl rfl dX12_doJob_42 (fun H locs hP hD hS => ?_)
        have hok : okM (uI t1 0 42 0) := ⟨okI_I hok.1 0 42 0 (show (0 : Int) ≤ (0 : Int32).toInt ∧ (0 : Int32).toInt ≤ 1 from ⟨by decide, by decide⟩), hok.2.1, hok.2.2.1, hok.2.2.2.1, hok.2.2.2.2.1, hok.2.2.2.2.2.1, hok.2.2.2.2.2.2.1, trivial⟩
        have hfr : frA [(0, 5), (0, 6), (0, 7), (0, 9), (0, 10), (0, 11), (0, 12), (0, 14), (0, 15), (0, 16), (0, 17), (0, 18), (0, 30), (0, 31), (0, 35), (0, 36), (0, 38), (0, 41), (0, 42), (0, 43), (0, 44), (0, 45), (0, 46), (0, 47), (0, 48), (0, 51), (0, 52), (0, 60), (0, 67), (0, 68), (0, 69), (0, 70), (0, 71), (0, 72), (0, 73), (0, 78), (0, 79), (0, 80), (0, 81), (0, 82), (0, 83), (0, 88), (0, 90), (0, 91), (0, 93)] [(0, 8), (0, 13)] [2, 3, 5, 7, 8, 9, 10, 11, 12, 13, 14, 15, 16, 17, 18, 19, 20, 21, 22, 24, 25, 26, 27, 28, 29, 30, 31, 32, 33, 34, 35, 39, 40, 41, 42, 43, 44] [4, 6, 23] t (uI t1 0 42 0) := frA_I hfr 0 42 _ rfl
        refine lv_aload_n C.1 C.2.1 dX12_doJob_45 rfl (lv_at hl 0 rfl) ?_
        refine lv_iconst (v := 0) C.1 C.2.1 dX12_doJob_46 (by decide) ?_
        refine k_put (ws' := WM K ad (uI (uI t1 0 42 0) 0 35 0)) (v := .int 0) C hP hD hS 0 rfl rfl inlX12 tyX12_ok nmX12 35 (by decide) m_44_17 rfl rfl rfl rfl rfl dX12_doJob_47 (fun H locs hP hD hS => ?_)
        have hok : okM (uI (uI t1 0 42 0) 0 35 0) := ⟨okI_I hok.1 0 35 0 (show (0 : Int) ≤ (0 : Int32).toInt ∧ (0 : Int32).toInt ≤ 1700 from ⟨by decide, by decide⟩), hok.2.1, hok.2.2.1, hok.2.2.2.1, hok.2.2.2.2.1, ((show (0 : Int32).toInt ≤ (t1.1 0 36).toInt from by have : (0 : Int32).toInt = 0 := rfl; omega)), hok.2.2.2.2.2.2.1, trivial⟩
        have hfr : frA [(0, 5), (0, 6), (0, 7), (0, 9), (0, 10), (0, 11), (0, 12), (0, 14), (0, 15), (0, 16), (0, 17), (0, 18), (0, 30), (0, 31), (0, 35), (0, 36), (0, 38), (0, 41), (0, 42), (0, 43), (0, 44), (0, 45), (0, 46), (0, 47), (0, 48), (0, 51), (0, 52), (0, 60), (0, 67), (0, 68), (0, 69), (0, 70), (0, 71), (0, 72), (0, 73), (0, 78), (0, 79), (0, 80), (0, 81), (0, 82), (0, 83), (0, 88), (0, 90), (0, 91), (0, 93)] [(0, 8), (0, 13)] [2, 3, 5, 7, 8, 9, 10, 11, 12, 13, 14, 15, 16, 17, 18, 19, 20, 21, 22, 24, 25, 26, 27, 28, 29, 30, 31, 32, 33, 34, 35, 39, 40, 41, 42, 43, 44] [4, 6, 23] t (uI (uI t1 0 42 0) 0 35 0) := frA_I hfr 0 35 _ rfl
        refine lv_aload_n C.1 C.2.1 dX12_doJob_50 rfl (lv_at hl 0 rfl) ?_
        refine lv_iconst (v := 0) C.1 C.2.1 dX12_doJob_51 (by decide) ?_
        refine k_put (ws' := WM K ad (uI (uI (uI t1 0 42 0) 0 35 0) 0 36 0)) (v := .int 0) C hP hD hS 0 rfl rfl inlX12 tyX12_ok nmX12 36 (by decide) m_44_16 rfl rfl rfl rfl rfl dX12_doJob_52 (fun H locs hP hD hS => ?_)
        have hok : okM (uI (uI (uI t1 0 42 0) 0 35 0) 0 36 0) := ⟨okI_I hok.1 0 36 0 (show (0 : Int) ≤ (0 : Int32).toInt ∧ (0 : Int32).toInt ≤ 1700 from ⟨by decide, by decide⟩), hok.2.1, hok.2.2.1, (iM2_0 (n := (0 : Int32)) (by decide)), hok.2.2.2.2.1, ((show (0 : Int32).toInt ≤ (0 : Int32).toInt from by decide)), hok.2.2.2.2.2.2.1, trivial⟩
        have hfr : frA [(0, 5), (0, 6), (0, 7), (0, 9), (0, 10), (0, 11), (0, 12), (0, 14), (0, 15), (0, 16), (0, 17), (0, 18), (0, 30), (0, 31), (0, 35), (0, 36), (0, 38), (0, 41), (0, 42), (0, 43), (0, 44), (0, 45), (0, 46), (0, 47), (0, 48), (0, 51), (0, 52), (0, 60), (0, 67), (0, 68), (0, 69), (0, 70), (0, 71), (0, 72), (0, 73), (0, 78), (0, 79), (0, 80), (0, 81), (0, 82), (0, 83), (0, 88), (0, 90), (0, 91), (0, 93)] [(0, 8), (0, 13)] [2, 3, 5, 7, 8, 9, 10, 11, 12, 13, 14, 15, 16, 17, 18, 19, 20, 21, 22, 24, 25, 26, 27, 28, 29, 30, 31, 32, 33, 34, 35, 39, 40, 41, 42, 43, 44] [4, 6, 23] t (uI (uI (uI t1 0 42 0) 0 35 0) 0 36 0) := frA_I hfr 0 36 _ rfl
        refine lv_iload_n C.1 C.2.1 dX12_doJob_55 rfl (lv_at hl 2 rfl) ?_
        refine lv_iconst (v := 1) C.1 C.2.1 dX12_doJob_56 (by decide) ?_
        obtain ⟨v_376, e_377⟩ : ∃ z, z = (x2 : Int32) + (1 : Int32) := ⟨_, rfl⟩
        have h_378 : v_376.toInt = x2.toInt + 1 := by rw [e_377]; exact ti_iadd (by show (_ : Int) ≤ x2.toInt + 1; omega) (by show x2.toInt + 1 < (_ : Int); omega)
        refine k_iadd (v := v_376) C e_377.symm dX12_doJob_57 ?_
        refine lv_istore (lv' := [(5, .int v_376), (0, .ref (ad 0)), (1, .int x1), (2, .int x2), (3, .int x3), (4, .int w19_4)]) C.1 C.2.1 dX12_doJob_58 hl (by decide) rfl (fun ls hl => ?_)
        have hl : lv_has ls 10 [(0, .ref (ad 0)), (1, .int x1), (2, .int x2), (3, .int x3), (4, .int w19_4), (5, .int v_376)] := lv_sub hl [1, 2, 3, 4, 5, 0] rfl
        have hz0 : 0 ≤ (t.2.2.1 37 (v_376 : Int32).toNatClampNeg).toInt := (hokt.2.1 37 _).1
        exact L_60 1400 (uI (uI (uI t1 0 42 0) 0 35 0) 0 36 0) w19_4 v_376 _ _ _ hok hfr ⟨by omega, by omega⟩ ⟨by omega, by omega⟩ (show (0 : Int) ≤ (0 : Int32).toInt ∧ (0 : Int32).toInt ≤ 0 from ⟨by decide, by decide⟩) (show (0 : Int) ≤ (0 : Int32).toInt ∧ (0 : Int32).toInt ≤ 0 from ⟨by decide, by decide⟩) (show (t1.1 0 83).toInt = (t.1 0 83).toInt from by omega) (show (t1.1 0 78).toInt = 6 from by omega) (show (t1.2.1 0 8).toInt = 0 from by omega) (show bz (t1.2.2.2 4) 20 from by first | exact hbz | exact hbz1 | exact hi19_3 | exact hi60_3 | exact hi106_3 | exact hi131_3 | exact hi158_3 | exact hi240_3 | exact hi253_3 | exact hi279_3 | exact hi290_3 | (rw [rfl]; first | exact hbz | exact hbz1 | exact hi19_3 | exact hi60_3 | exact hi106_3 | exact hi131_3 | exact hi158_3 | exact hi240_3 | exact hi253_3 | exact hi279_3 | exact hi290_3)) (show x2.toInt + 1 ≤ v_376.toInt from by omega) (show v_376.toInt ≤ x3.toInt from by omega) (show 0 ≤ v_376.toInt from by omega) (show lastLe 0 (t1.2.2.1 17) ((t.2.2.1 37 (v_376 : Int32).toNatClampNeg).toInt) from by first | exact lastLe_0 (by decide) (by omega) | exact lastLe_le (hla _ hi60_7) (by have q := lnS_nx hs5 w60_5 v_376 (by omega) (by omega) (by omega); omega)) (show (x3.toInt - v_376.toInt) < ((1400 : Nat) : Int) from by omega) hP hD hS (lv_sub hl [0, 1, 2, 3, 4, 5] rfl)
      · replace c_375 : w19_5.toInt < 8 := i_nle c_375
        refine lv_aload_n C.1 C.2.1 dX12_doJob_26 rfl (lv_at hl 0 rfl) ?_
        refine k_get (v := .ref (ad 9)) C hP 0 rfl rfl inlX12 24 (by decide) m_7_14 rfl dX12_doJob_27 ?_
        refine lv_iload C.1 C.2.1 dX12_doJob_30 (lv_at hl 5 rfl) ?_
        refine lv_iconst (v := 0) C.1 C.2.1 dX12_doJob_32 (by decide) ?_
        refine k_ist (ws' := WM K ad (uB t1 9 (w19_5 : Int32).toNatClampNeg 0)) (x' := 0) C hP hD hS 9 rfl (vp_in_iff.mpr ⟨by omega, by omega⟩) rfl rfl rfl dX12_doJob_33 (fun H locs hP hD hS => ?_)
        have hok : okM (uB t1 9 (w19_5 : Int32).toNatClampNeg 0) := ⟨hok.1, okB_B hok.2.1 9 _ 0 (show (0 : Int) ≤ (0 : Int32).toInt ∧ (0 : Int32).toInt ≤ 64 from ⟨by decide, by decide⟩), hok.2.2.1, hok.2.2.2.1, hok.2.2.2.2.1, hok.2.2.2.2.2.1, hok.2.2.2.2.2.2.1, trivial⟩
        have hfr : frA [(0, 5), (0, 6), (0, 7), (0, 9), (0, 10), (0, 11), (0, 12), (0, 14), (0, 15), (0, 16), (0, 17), (0, 18), (0, 30), (0, 31), (0, 35), (0, 36), (0, 38), (0, 41), (0, 42), (0, 43), (0, 44), (0, 45), (0, 46), (0, 47), (0, 48), (0, 51), (0, 52), (0, 60), (0, 67), (0, 68), (0, 69), (0, 70), (0, 71), (0, 72), (0, 73), (0, 78), (0, 79), (0, 80), (0, 81), (0, 82), (0, 83), (0, 88), (0, 90), (0, 91), (0, 93)] [(0, 8), (0, 13)] [2, 3, 5, 7, 8, 9, 10, 11, 12, 13, 14, 15, 16, 17, 18, 19, 20, 21, 22, 24, 25, 26, 27, 28, 29, 30, 31, 32, 33, 34, 35, 39, 40, 41, 42, 43, 44] [4, 6, 23] t (uB t1 9 (w19_5 : Int32).toNatClampNeg 0) := frA_B hfr 9 _ _ rfl
        obtain ⟨v_379, e_380⟩ : ∃ z, z = w19_5 + 1 := ⟨_, rfl⟩
        have h_381 : v_379.toInt = w19_5.toInt + 1 := by rw [e_380]; exact ti_iadd (by show (_ : Int) ≤ w19_5.toInt + 1; omega) (by show w19_5.toInt + 1 < (_ : Int); omega)
        refine lv_iinc (v := v_379) (lv' := [(5, .int v_379), (0, .ref (ad 0)), (1, .int x1), (2, .int x2), (3, .int x3), (4, .int w19_4)]) C.1 C.2.1 dX12_doJob_34 hl (k := 5) rfl e_380.symm (by decide) rfl (fun ls hl => ?_)
        have hl : lv_has ls 10 [(0, .ref (ad 0)), (1, .int x1), (2, .int x2), (3, .int x3), (4, .int w19_4), (5, .int v_379)] := lv_sub hl [1, 2, 3, 4, 5, 0] rfl
        refine lv_goto (tgt := 19) C.1 C.2.1 dX12_doJob_37 (by decide) ?_
        exact ih_19 (uB t1 9 (w19_5 : Int32).toNatClampNeg 0) w19_4 v_379 _ _ _ hok hfr ⟨by omega, by omega⟩ ⟨by omega, by omega⟩ (show (t1.1 0 83).toInt = (t.1 0 83).toInt from by omega) (show (t1.1 0 78).toInt = 6 from by omega) (show (t1.2.1 0 8).toInt = 0 from by omega) (show bz (t1.2.2.2 4) 20 from by first | exact hbz | exact hbz1 | exact hi19_3 | exact hi60_3 | exact hi106_3 | exact hi131_3 | exact hi158_3 | exact hi240_3 | exact hi253_3 | exact hi279_3 | exact hi290_3 | (rw [rfl]; first | exact hbz | exact hbz1 | exact hi19_3 | exact hi60_3 | exact hi106_3 | exact hi131_3 | exact hi158_3 | exact hi240_3 | exact hi253_3 | exact hi279_3 | exact hi290_3)) (show (8 : Int) - v_379.toInt < (fuel_19 : Int) from by omega) hP hD hS (lv_sub hl [0, 1, 2, 3, 4, 5] rfl)
  refine lv_aload_n C.1 C.2.1 dX12_doJob_0 rfl (lv_at hl 0 rfl) ?_
  refine lv_iload_n C.1 C.2.1 dX12_doJob_1 rfl (lv_at hl 1 rfl) ?_
  refine g_Vi (As := [.int x1]) (rest := []) C hP hD hS hA (T_X12_isJob l D K Z Y ad t hok (x1) (show (0 : Int) ≤ (x1 : Int32).toInt ∧ (x1 : Int32).toInt ≤ 1280 from ⟨by omega, by omega⟩)) hE hZ (uwV m_78_17 m_78_18 m_78_19 m_1_5 m_78_20) (hdV 1 (by decide +kernel) rfl) ⟨Nat.le_of_ble_eq_true rfl, Nat.le_of_ble_eq_true rfl⟩ rfl rfl (ci := 11) (q0 := 0) rfl rfl rfl hl.1 (Nat.le_of_ble_eq_true rfl) dX12_doJob_2 ⟨Nat.le_of_ble_eq_true rfl, Nat.le_of_ble_eq_true rfl⟩ (fun r_383 t_382 H locs hw hP hD hS => ?_)
  obtain ⟨hok, f_384, h_385, h_386, p_387, p_388⟩ := hw
  have hfr : frA [(0, 5), (0, 6), (0, 7), (0, 9), (0, 10), (0, 11), (0, 12), (0, 14), (0, 15), (0, 16), (0, 17), (0, 18), (0, 30), (0, 31), (0, 35), (0, 36), (0, 38), (0, 41), (0, 42), (0, 43), (0, 44), (0, 45), (0, 46), (0, 47), (0, 48), (0, 51), (0, 52), (0, 60), (0, 67), (0, 68), (0, 69), (0, 70), (0, 71), (0, 72), (0, 73), (0, 78), (0, 79), (0, 80), (0, 81), (0, 82), (0, 83), (0, 88), (0, 90), (0, 91), (0, 93)] [(0, 8), (0, 13)] [2, 3, 5, 7, 8, 9, 10, 11, 12, 13, 14, 15, 16, 17, 18, 19, 20, 21, 22, 24, 25, 26, 27, 28, 29, 30, 31, 32, 33, 34, 35, 39, 40, 41, 42, 43, 44] [4, 6, 23] t t_382 := frA_tr hfr f_384 rfl
  have h_389 : (t_382.2.1 0 8).toInt = (t.2.1 0 8).toInt := tl_eq (f_384.2.1 0 8 rfl)
  have h_390 : (t_382.1 0 12).toInt = (t.1 0 12).toInt := ti_eq (f_384.1 0 12 rfl)
  have h_391 : (t_382.1 0 35).toInt = (t.1 0 35).toInt := ti_eq (f_384.1 0 35 rfl)
  have h_392 : (t_382.1 0 36).toInt = (t.1 0 36).toInt := ti_eq (f_384.1 0 36 rfl)
  have h_393 : (t_382.1 0 77).toInt = (t.1 0 77).toInt := ti_eq (f_384.1 0 77 rfl)
  have h_394 : (t_382.1 0 83).toInt = (t.1 0 83).toInt := ti_eq (f_384.1 0 83 rfl)
  have e_395 : t_382.2.2.2 4 = t.2.2.2 4 := f_384.2.2.2 4 rfl
  have e_396 : t_382.2.2.1 17 = t.2.2.1 17 := f_384.2.2.1 17 rfl
  have e_397 : t_382.2.2.1 37 = t.2.2.1 37 := f_384.2.2.1 37 rfl
  have e_398 : t_382.2.2.1 38 = t.2.2.1 38 := f_384.2.2.1 38 rfl
  have h_399 : (0 : Int) ≤ (t_382.1 0 12).toInt ∧ (t_382.1 0 12).toInt ≤ 1 := hok.1 0 12
  have h_400 : (0 : Int) ≤ (t_382.1 0 35).toInt ∧ (t_382.1 0 35).toInt ≤ 1700 := hok.1 0 35
  have h_401 : (0 : Int) ≤ (t_382.1 0 36).toInt ∧ (t_382.1 0 36).toInt ≤ 1700 := hok.1 0 36
  have h_402 : (0 : Int) ≤ (t_382.1 0 77).toInt ∧ (t_382.1 0 77).toInt ≤ 1280 := hok.1 0 77
  have h_403 : (0 : Int) ≤ (t_382.1 0 78).toInt ∧ (t_382.1 0 78).toInt ≤ 6 := hok.1 0 78
  have h_404 : (0 : Int) ≤ (t_382.1 0 83).toInt ∧ (t_382.1 0 83).toInt ≤ 427 := hok.1 0 83
  replace p_387 : r_383.toInt = 1 → (t_382.1 0 78).toInt = 6 := p_387
  replace p_388 : (t.1 0 78).toInt = 6 → (t_382.1 0 78).toInt = 6 := p_388
  refine lv_istore (lv' := [(4, .int r_383), (0, .ref (ad 0)), (1, .int x1), (2, .int x2), (3, .int x3)]) C.1 C.2.1 dX12_doJob_5 hl (by decide) rfl (fun ls hl => ?_)
  have hl : lv_has ls 10 [(0, .ref (ad 0)), (1, .int x1), (2, .int x2), (3, .int x3), (4, .int r_383)] := lv_sub hl [1, 2, 3, 4, 0] rfl
  refine lv_aload_n C.1 C.2.1 dX12_doJob_7 rfl (lv_at hl 0 rfl) ?_
  refine lv_iload_n C.1 C.2.1 dX12_doJob_8 rfl (lv_at hl 1 rfl) ?_
  refine k_put (ws' := WM K ad (uI t_382 0 93 x1)) (v := .int x1) C hP hD hS 0 rfl rfl inlX12 tyX12_ok nmX12 93 (by decide) m_80_1 rfl rfl rfl rfl rfl dX12_doJob_9 (fun H locs hP hD hS => ?_)
  have hok : okM (uI t_382 0 93 x1) := ⟨okI_I hok.1 0 93 x1 (show (0 : Int) ≤ (x1 : Int32).toInt ∧ (x1 : Int32).toInt ≤ 1280 from ⟨by omega, by omega⟩), hok.2.1, hok.2.2.1, hok.2.2.2.1, hok.2.2.2.2.1, hok.2.2.2.2.2.1, hok.2.2.2.2.2.2.1, trivial⟩
  have hfr : frA [(0, 5), (0, 6), (0, 7), (0, 9), (0, 10), (0, 11), (0, 12), (0, 14), (0, 15), (0, 16), (0, 17), (0, 18), (0, 30), (0, 31), (0, 35), (0, 36), (0, 38), (0, 41), (0, 42), (0, 43), (0, 44), (0, 45), (0, 46), (0, 47), (0, 48), (0, 51), (0, 52), (0, 60), (0, 67), (0, 68), (0, 69), (0, 70), (0, 71), (0, 72), (0, 73), (0, 78), (0, 79), (0, 80), (0, 81), (0, 82), (0, 83), (0, 88), (0, 90), (0, 91), (0, 93)] [(0, 8), (0, 13)] [2, 3, 5, 7, 8, 9, 10, 11, 12, 13, 14, 15, 16, 17, 18, 19, 20, 21, 22, 24, 25, 26, 27, 28, 29, 30, 31, 32, 33, 34, 35, 39, 40, 41, 42, 43, 44] [4, 6, 23] t (uI t_382 0 93 x1) := frA_I hfr 0 93 _ rfl
  refine lv_aload_n C.1 C.2.1 dX12_doJob_12 rfl (lv_at hl 0 rfl) ?_
  refine g_Vv (As := []) (rest := []) C hP hD hS hA (T_X12_clearMachine l D K Z Y ad (uI t_382 0 93 x1) hok ) hE hZ (uwV m_29_17 m_29_18 m_29_19 m_1_5 m_29_20) (hdV 0 (by decide +kernel) rfl) ⟨Nat.le_of_ble_eq_true rfl, Nat.le_of_ble_eq_true rfl⟩ rfl rfl (ci := 11) (q0 := 0) rfl rfl rfl hl.1 (Nat.le_of_ble_eq_true rfl) dX12_doJob_13 ⟨Nat.le_of_ble_eq_true rfl, Nat.le_of_ble_eq_true rfl⟩ (fun t_405 H locs hw hP hD hS => ?_)
  obtain ⟨hok, f_407, p_408, p_409, p_410⟩ := hw
  have hfr : frA [(0, 5), (0, 6), (0, 7), (0, 9), (0, 10), (0, 11), (0, 12), (0, 14), (0, 15), (0, 16), (0, 17), (0, 18), (0, 30), (0, 31), (0, 35), (0, 36), (0, 38), (0, 41), (0, 42), (0, 43), (0, 44), (0, 45), (0, 46), (0, 47), (0, 48), (0, 51), (0, 52), (0, 60), (0, 67), (0, 68), (0, 69), (0, 70), (0, 71), (0, 72), (0, 73), (0, 78), (0, 79), (0, 80), (0, 81), (0, 82), (0, 83), (0, 88), (0, 90), (0, 91), (0, 93)] [(0, 8), (0, 13)] [2, 3, 5, 7, 8, 9, 10, 11, 12, 13, 14, 15, 16, 17, 18, 19, 20, 21, 22, 24, 25, 26, 27, 28, 29, 30, 31, 32, 33, 34, 35, 39, 40, 41, 42, 43, 44] [4, 6, 23] t t_405 := frA_tr hfr f_407 rfl
  have h_411 : (t_405.1 0 93).toInt = x1.toInt := ti_eq (f_407.1 0 93 rfl)
  have h_412 : (t_405.1 0 35).toInt = (t_382.1 0 35).toInt := ti_eq (f_407.1 0 35 rfl)
  have h_413 : (t_405.1 0 36).toInt = (t_382.1 0 36).toInt := ti_eq (f_407.1 0 36 rfl)
  have h_414 : (t_405.1 0 77).toInt = (t_382.1 0 77).toInt := ti_eq (f_407.1 0 77 rfl)
  have h_415 : (t_405.1 0 78).toInt = (t_382.1 0 78).toInt := ti_eq (f_407.1 0 78 rfl)
  have h_416 : (t_405.1 0 83).toInt = (t_382.1 0 83).toInt := ti_eq (f_407.1 0 83 rfl)
  have e_417 : t_405.2.2.1 17 = t.2.2.1 17 := (f_407.2.2.1 17 rfl).trans (e_396)
  have e_418 : t_405.2.2.1 37 = t.2.2.1 37 := (f_407.2.2.1 37 rfl).trans (e_397)
  have e_419 : t_405.2.2.1 38 = t.2.2.1 38 := (f_407.2.2.1 38 rfl).trans (e_398)
  have h_420 : (0 : Int) ≤ (t_405.1 0 12).toInt ∧ (t_405.1 0 12).toInt ≤ 1 := hok.1 0 12
  have h_421 : (0 : Int) ≤ (t_405.1 0 35).toInt ∧ (t_405.1 0 35).toInt ≤ 1700 := hok.1 0 35
  have h_422 : (0 : Int) ≤ (t_405.1 0 36).toInt ∧ (t_405.1 0 36).toInt ≤ 1700 := hok.1 0 36
  have h_423 : (0 : Int) ≤ (t_405.1 0 77).toInt ∧ (t_405.1 0 77).toInt ≤ 1280 := hok.1 0 77
  have h_424 : (0 : Int) ≤ (t_405.1 0 78).toInt ∧ (t_405.1 0 78).toInt ≤ 6 := hok.1 0 78
  have h_425 : (0 : Int) ≤ (t_405.1 0 83).toInt ∧ (t_405.1 0 83).toInt ≤ 427 := hok.1 0 83
  replace p_408 : (t_405.2.1 0 8).toInt = 0 := p_408
  replace p_409 : (t_405.1 0 12).toInt = 0 := p_409
  replace p_410 : bz (t_405.2.2.2 4) 20 := p_410
  have hbz := p_410
  refine lv_iconst (v := 0) C.1 C.2.1 dX12_doJob_16 (by decide) ?_
  refine lv_istore (lv' := [(5, .int 0), (0, .ref (ad 0)), (1, .int x1), (2, .int x2), (3, .int x3), (4, .int r_383)]) C.1 C.2.1 dX12_doJob_17 hl (by decide) rfl (fun ls hl => ?_)
  have hl : lv_has ls 10 [(0, .ref (ad 0)), (1, .int x1), (2, .int x2), (3, .int x3), (4, .int r_383), (5, .int 0)] := lv_sub hl [1, 2, 3, 4, 5, 0] rfl
  exact L_19 9 t_405 r_383 0 _ _ _ hok hfr ⟨by omega, by omega⟩ ⟨by decide, by decide⟩ (show (t_405.1 0 83).toInt = (t.1 0 83).toInt from by omega) (show (t_405.1 0 78).toInt = 6 from by omega) (show (t_405.2.1 0 8).toInt = 0 from by omega) (show bz (t_405.2.2.2 4) 20 from by first | exact hbz | exact hbz1 | exact hi19_3 | exact hi60_3 | exact hi106_3 | exact hi131_3 | exact hi158_3 | exact hi240_3 | exact hi253_3 | exact hi279_3 | exact hi290_3 | (rw [rfl]; first | exact hbz | exact hbz1 | exact hi19_3 | exact hi60_3 | exact hi106_3 | exact hi131_3 | exact hi158_3 | exact hi240_3 | exact hi253_3 | exact hi279_3 | exact hi290_3)) (show (8 : Int) - 0 < ((9 : Nat) : Int) from by omega) hP hD hS (lv_sub hl [0, 1, 2, 3, 4, 5] rfl)

theorem dX12_jobs_0 : decode cX12_jobs 0 = .ok (.aload_n 0, 1) := by decide +kernel
theorem dX12_jobs_1 : decode cX12_jobs 1 = .ok (.iconst 0, 1) := by decide +kernel
theorem dX12_jobs_10 : decode cX12_jobs 10 = .ok (.iconst 0, 1) := by decide +kernel
theorem dX12_jobs_100 : decode cX12_jobs 100 = .ok (.iinc 1 1, 3) := by decide +kernel
theorem dX12_jobs_103 : decode cX12_jobs 103 = .ok (.goto (-23), 3) := by decide +kernel
theorem dX12_jobs_106 : decode cX12_jobs 106 = .ok (.aload_n 0, 1) := by decide +kernel
theorem dX12_jobs_107 : decode cX12_jobs 107 = .ok (.iconst 0, 1) := by decide +kernel
theorem dX12_jobs_108 : decode cX12_jobs 108 = .ok (.putfield 176, 3) := by decide +kernel
theorem dX12_jobs_11 : decode cX12_jobs 11 = .ok (.istore_n 1, 1) := by decide +kernel
theorem dX12_jobs_111 : decode cX12_jobs 111 = .ok (.aload_n 0, 1) := by decide +kernel
theorem dX12_jobs_112 : decode cX12_jobs 112 = .ok (.iconst 0, 1) := by decide +kernel
theorem dX12_jobs_113 : decode cX12_jobs 113 = .ok (.putfield 770, 3) := by decide +kernel
theorem dX12_jobs_116 : decode cX12_jobs 116 = .ok (.aload_n 0, 1) := by decide +kernel
theorem dX12_jobs_117 : decode cX12_jobs 117 = .ok (.iconst 0, 1) := by decide +kernel
theorem dX12_jobs_118 : decode cX12_jobs 118 = .ok (.putfield 773, 3) := by decide +kernel
theorem dX12_jobs_12 : decode cX12_jobs 12 = .ok (.iload_n 1, 1) := by decide +kernel
theorem dX12_jobs_121 : decode cX12_jobs 121 = .ok (.iconst 0, 1) := by decide +kernel
theorem dX12_jobs_122 : decode cX12_jobs 122 = .ok (.istore_n 1, 1) := by decide +kernel
theorem dX12_jobs_123 : decode cX12_jobs 123 = .ok (.iload_n 1, 1) := by decide +kernel
theorem dX12_jobs_124 : decode cX12_jobs 124 = .ok (.aload_n 0, 1) := by decide +kernel
theorem dX12_jobs_125 : decode cX12_jobs 125 = .ok (.getfield 764, 3) := by decide +kernel
theorem dX12_jobs_128 : decode cX12_jobs 128 = .ok (.if_icmp .ge 121, 3) := by decide +kernel
theorem dX12_jobs_13 : decode cX12_jobs 13 = .ok (.aload_n 0, 1) := by decide +kernel
theorem dX12_jobs_131 : decode cX12_jobs 131 = .ok (.aload_n 0, 1) := by decide +kernel
theorem dX12_jobs_132 : decode cX12_jobs 132 = .ok (.iload_n 1, 1) := by decide +kernel
theorem dX12_jobs_133 : decode cX12_jobs 133 = .ok (.invokevirtual 767, 3) := by decide +kernel
theorem dX12_jobs_136 : decode cX12_jobs 136 = .ok (.ifCond .ne 9, 3) := by decide +kernel
theorem dX12_jobs_139 : decode cX12_jobs 139 = .ok (.iinc 1 1, 3) := by decide +kernel
theorem dX12_jobs_14 : decode cX12_jobs 14 = .ok (.getfield 176, 3) := by decide +kernel
theorem dX12_jobs_142 : decode cX12_jobs 142 = .ok (.goto (-19), 3) := by decide +kernel
theorem dX12_jobs_145 : decode cX12_jobs 145 = .ok (.aload_n 0, 1) := by decide +kernel
theorem dX12_jobs_146 : decode cX12_jobs 146 = .ok (.iload_n 1, 1) := by decide +kernel
theorem dX12_jobs_147 : decode cX12_jobs 147 = .ok (.iconst 1, 1) := by decide +kernel
theorem dX12_jobs_148 : decode cX12_jobs 148 = .ok (.iadd, 1) := by decide +kernel
theorem dX12_jobs_149 : decode cX12_jobs 149 = .ok (.ldc_w 776, 3) := by decide +kernel
theorem dX12_jobs_152 : decode cX12_jobs 152 = .ok (.invokevirtual 778, 3) := by decide +kernel
theorem dX12_jobs_155 : decode cX12_jobs 155 = .ok (.istore_n 2, 1) := by decide +kernel
theorem dX12_jobs_156 : decode cX12_jobs 156 = .ok (.iload_n 2, 1) := by decide +kernel
theorem dX12_jobs_157 : decode cX12_jobs 157 = .ok (.aload_n 0, 1) := by decide +kernel
theorem dX12_jobs_158 : decode cX12_jobs 158 = .ok (.getfield 764, 3) := by decide +kernel
theorem dX12_jobs_161 : decode cX12_jobs 161 = .ok (.if_icmp .ge 27, 3) := by decide +kernel
theorem dX12_jobs_164 : decode cX12_jobs 164 = .ok (.aload_n 0, 1) := by decide +kernel
theorem dX12_jobs_165 : decode cX12_jobs 165 = .ok (.iload_n 2, 1) := by decide +kernel
theorem dX12_jobs_166 : decode cX12_jobs 166 = .ok (.ldc_w 776, 3) := by decide +kernel
theorem dX12_jobs_169 : decode cX12_jobs 169 = .ok (.invokevirtual 730, 3) := by decide +kernel
theorem dX12_jobs_17 : decode cX12_jobs 17 = .ok (.if_icmp .ge 61, 3) := by decide +kernel
theorem dX12_jobs_172 : decode cX12_jobs 172 = .ok (.ifCond .eq 16, 3) := by decide +kernel
theorem dX12_jobs_175 : decode cX12_jobs 175 = .ok (.aload_n 0, 1) := by decide +kernel
theorem dX12_jobs_176 : decode cX12_jobs 176 = .ok (.iload_n 2, 1) := by decide +kernel
theorem dX12_jobs_177 : decode cX12_jobs 177 = .ok (.iconst 1, 1) := by decide +kernel
theorem dX12_jobs_178 : decode cX12_jobs 178 = .ok (.iadd, 1) := by decide +kernel
theorem dX12_jobs_179 : decode cX12_jobs 179 = .ok (.ldc_w 782, 3) := by decide +kernel
theorem dX12_jobs_182 : decode cX12_jobs 182 = .ok (.invokevirtual 778, 3) := by decide +kernel
theorem dX12_jobs_185 : decode cX12_jobs 185 = .ok (.goto 4, 3) := by decide +kernel
theorem dX12_jobs_188 : decode cX12_jobs 188 = .ok (.iload_n 2, 1) := by decide +kernel
theorem dX12_jobs_189 : decode cX12_jobs 189 = .ok (.istore_n 3, 1) := by decide +kernel
theorem dX12_jobs_190 : decode cX12_jobs 190 = .ok (.iload_n 3, 1) := by decide +kernel
theorem dX12_jobs_191 : decode cX12_jobs 191 = .ok (.iload_n 2, 1) := by decide +kernel
theorem dX12_jobs_192 : decode cX12_jobs 192 = .ok (.if_icmp .le 26, 3) := by decide +kernel
theorem dX12_jobs_195 : decode cX12_jobs 195 = .ok (.iload_n 3, 1) := by decide +kernel
theorem dX12_jobs_196 : decode cX12_jobs 196 = .ok (.aload_n 0, 1) := by decide +kernel
theorem dX12_jobs_197 : decode cX12_jobs 197 = .ok (.getfield 764, 3) := by decide +kernel
theorem dX12_jobs_2 : decode cX12_jobs 2 = .ok (.putfield 155, 3) := by decide +kernel
theorem dX12_jobs_20 : decode cX12_jobs 20 = .ok (.aload_n 0, 1) := by decide +kernel
theorem dX12_jobs_200 : decode cX12_jobs 200 = .ok (.if_icmp .ge 18, 3) := by decide +kernel
theorem dX12_jobs_203 : decode cX12_jobs 203 = .ok (.aload_n 0, 1) := by decide +kernel
theorem dX12_jobs_204 : decode cX12_jobs 204 = .ok (.iload_n 3, 1) := by decide +kernel
theorem dX12_jobs_205 : decode cX12_jobs 205 = .ok (.ldc_w 782, 3) := by decide +kernel
theorem dX12_jobs_208 : decode cX12_jobs 208 = .ok (.invokevirtual 730, 3) := by decide +kernel
theorem dX12_jobs_21 : decode cX12_jobs 21 = .ok (.getfield 131, 3) := by decide +kernel
theorem dX12_jobs_211 : decode cX12_jobs 211 = .ok (.ifCond .eq 7, 3) := by decide +kernel
theorem dX12_jobs_214 : decode cX12_jobs 214 = .ok (.iconst 1, 1) := by decide +kernel
theorem dX12_jobs_215 : decode cX12_jobs 215 = .ok (.goto 4, 3) := by decide +kernel
theorem dX12_jobs_218 : decode cX12_jobs 218 = .ok (.iconst 0, 1) := by decide +kernel
theorem dX12_jobs_219 : decode cX12_jobs 219 = .ok (.istore 4, 2) := by decide +kernel
theorem dX12_jobs_221 : decode cX12_jobs 221 = .ok (.iload 4, 2) := by decide +kernel
theorem dX12_jobs_223 : decode cX12_jobs 223 = .ok (.ifCond .eq 10, 3) := by decide +kernel
theorem dX12_jobs_226 : decode cX12_jobs 226 = .ok (.aload_n 0, 1) := by decide +kernel
theorem dX12_jobs_227 : decode cX12_jobs 227 = .ok (.iload_n 1, 1) := by decide +kernel
theorem dX12_jobs_228 : decode cX12_jobs 228 = .ok (.iload_n 2, 1) := by decide +kernel
theorem dX12_jobs_229 : decode cX12_jobs 229 = .ok (.iload_n 3, 1) := by decide +kernel
theorem dX12_jobs_230 : decode cX12_jobs 230 = .ok (.invokevirtual 784, 3) := by decide +kernel
theorem dX12_jobs_233 : decode cX12_jobs 233 = .ok (.iload 4, 2) := by decide +kernel
theorem dX12_jobs_235 : decode cX12_jobs 235 = .ok (.ifCond .eq 9, 3) := by decide +kernel
theorem dX12_jobs_238 : decode cX12_jobs 238 = .ok (.iload_n 3, 1) := by decide +kernel
theorem dX12_jobs_239 : decode cX12_jobs 239 = .ok (.iconst 1, 1) := by decide +kernel
theorem dX12_jobs_24 : decode cX12_jobs 24 = .ok (.aload_n 0, 1) := by decide +kernel
theorem dX12_jobs_240 : decode cX12_jobs 240 = .ok (.iadd, 1) := by decide +kernel
theorem dX12_jobs_241 : decode cX12_jobs 241 = .ok (.goto 4, 3) := by decide +kernel
theorem dX12_jobs_244 : decode cX12_jobs 244 = .ok (.iload_n 3, 1) := by decide +kernel
theorem dX12_jobs_245 : decode cX12_jobs 245 = .ok (.istore_n 1, 1) := by decide +kernel
theorem dX12_jobs_246 : decode cX12_jobs 246 = .ok (.goto (-123), 3) := by decide +kernel
theorem dX12_jobs_249 : decode cX12_jobs 249 = .ok (.aload_n 0, 1) := by decide +kernel
theorem dX12_jobs_25 : decode cX12_jobs 25 = .ok (.getfield 764, 3) := by decide +kernel
theorem dX12_jobs_250 : decode cX12_jobs 250 = .ok (.getfield 773, 3) := by decide +kernel
theorem dX12_jobs_253 : decode cX12_jobs 253 = .ok (.ireturn, 1) := by decide +kernel
theorem dX12_jobs_28 : decode cX12_jobs 28 = .ok (.iload_n 1, 1) := by decide +kernel
theorem dX12_jobs_29 : decode cX12_jobs 29 = .ok (.iastore, 1) := by decide +kernel
theorem dX12_jobs_30 : decode cX12_jobs 30 = .ok (.aload_n 0, 1) := by decide +kernel
theorem dX12_jobs_31 : decode cX12_jobs 31 = .ok (.getfield 134, 3) := by decide +kernel
theorem dX12_jobs_34 : decode cX12_jobs 34 = .ok (.aload_n 0, 1) := by decide +kernel
theorem dX12_jobs_35 : decode cX12_jobs 35 = .ok (.getfield 764, 3) := by decide +kernel
theorem dX12_jobs_38 : decode cX12_jobs 38 = .ok (.aload_n 0, 1) := by decide +kernel
theorem dX12_jobs_39 : decode cX12_jobs 39 = .ok (.getfield 9, 3) := by decide +kernel
theorem dX12_jobs_42 : decode cX12_jobs 42 = .ok (.iload_n 1, 1) := by decide +kernel
theorem dX12_jobs_43 : decode cX12_jobs 43 = .ok (.aload_n 0, 1) := by decide +kernel
theorem dX12_jobs_44 : decode cX12_jobs 44 = .ok (.getfield 176, 3) := by decide +kernel
theorem dX12_jobs_47 : decode cX12_jobs 47 = .ok (.invokestatic 439, 3) := by decide +kernel
theorem dX12_jobs_5 : decode cX12_jobs 5 = .ok (.aload_n 0, 1) := by decide +kernel
theorem dX12_jobs_50 : decode cX12_jobs 50 = .ok (.iastore, 1) := by decide +kernel
theorem dX12_jobs_51 : decode cX12_jobs 51 = .ok (.aload_n 0, 1) := by decide +kernel
theorem dX12_jobs_52 : decode cX12_jobs 52 = .ok (.dup, 1) := by decide +kernel
theorem dX12_jobs_53 : decode cX12_jobs 53 = .ok (.getfield 764, 3) := by decide +kernel
theorem dX12_jobs_56 : decode cX12_jobs 56 = .ok (.iconst 1, 1) := by decide +kernel
theorem dX12_jobs_57 : decode cX12_jobs 57 = .ok (.iadd, 1) := by decide +kernel
theorem dX12_jobs_58 : decode cX12_jobs 58 = .ok (.putfield 764, 3) := by decide +kernel
theorem dX12_jobs_6 : decode cX12_jobs 6 = .ok (.iconst 0, 1) := by decide +kernel
theorem dX12_jobs_61 : decode cX12_jobs 61 = .ok (.aload_n 0, 1) := by decide +kernel
theorem dX12_jobs_62 : decode cX12_jobs 62 = .ok (.getfield 134, 3) := by decide +kernel
theorem dX12_jobs_65 : decode cX12_jobs 65 = .ok (.aload_n 0, 1) := by decide +kernel
theorem dX12_jobs_66 : decode cX12_jobs 66 = .ok (.getfield 764, 3) := by decide +kernel
theorem dX12_jobs_69 : decode cX12_jobs 69 = .ok (.iconst 1, 1) := by decide +kernel
theorem dX12_jobs_7 : decode cX12_jobs 7 = .ok (.putfield 764, 3) := by decide +kernel
theorem dX12_jobs_70 : decode cX12_jobs 70 = .ok (.isub, 1) := by decide +kernel
theorem dX12_jobs_71 : decode cX12_jobs 71 = .ok (.iaload, 1) := by decide +kernel
theorem dX12_jobs_72 : decode cX12_jobs 72 = .ok (.iconst 1, 1) := by decide +kernel
theorem dX12_jobs_73 : decode cX12_jobs 73 = .ok (.iadd, 1) := by decide +kernel
theorem dX12_jobs_74 : decode cX12_jobs 74 = .ok (.istore_n 1, 1) := by decide +kernel
theorem dX12_jobs_75 : decode cX12_jobs 75 = .ok (.goto (-63), 3) := by decide +kernel
theorem dX12_jobs_78 : decode cX12_jobs 78 = .ok (.iconst 0, 1) := by decide +kernel
theorem dX12_jobs_79 : decode cX12_jobs 79 = .ok (.istore_n 1, 1) := by decide +kernel
theorem dX12_jobs_80 : decode cX12_jobs 80 = .ok (.iload_n 1, 1) := by decide +kernel
theorem dX12_jobs_81 : decode cX12_jobs 81 = .ok (.aload_n 0, 1) := by decide +kernel
theorem dX12_jobs_82 : decode cX12_jobs 82 = .ok (.getfield 176, 3) := by decide +kernel
theorem dX12_jobs_85 : decode cX12_jobs 85 = .ok (.if_icmp .ge 21, 3) := by decide +kernel
theorem dX12_jobs_88 : decode cX12_jobs 88 = .ok (.aload_n 0, 1) := by decide +kernel
theorem dX12_jobs_89 : decode cX12_jobs 89 = .ok (.getfield 128, 3) := by decide +kernel
theorem dX12_jobs_92 : decode cX12_jobs 92 = .ok (.iload_n 1, 1) := by decide +kernel
theorem dX12_jobs_93 : decode cX12_jobs 93 = .ok (.aload_n 0, 1) := by decide +kernel
theorem dX12_jobs_94 : decode cX12_jobs 94 = .ok (.getfield 9, 3) := by decide +kernel
theorem dX12_jobs_97 : decode cX12_jobs 97 = .ok (.iload_n 1, 1) := by decide +kernel
theorem dX12_jobs_98 : decode cX12_jobs 98 = .ok (.baload, 1) := by decide +kernel
theorem dX12_jobs_99 : decode cX12_jobs 99 = .ok (.bastore, 1) := by decide +kernel
set_option maxHeartbeats 4000000 in
set_option maxRecDepth 100000 in
theorem T_X12_jobs (l : Launch) (D : va_G) (K : Nat → ClassId) (Z Y : Nat → Nat) (ad : Nat → Nat) (t : tSt) (hok : okM t)  : tMet l yX12_jobs cX12_jobs 5 (some .int) (rmD 21 0 0) D K Z Y [.ref (ad 0)] (WM K ad t) (QI D K (fun (r : Int32) (u : tSt) => okM u ∧ frA [(0, 0), (0, 2), (0, 5), (0, 6), (0, 7), (0, 9), (0, 10), (0, 11), (0, 12), (0, 14), (0, 15), (0, 16), (0, 17), (0, 18), (0, 30), (0, 31), (0, 35), (0, 36), (0, 38), (0, 41), (0, 42), (0, 43), (0, 44), (0, 45), (0, 46), (0, 47), (0, 48), (0, 51), (0, 52), (0, 60), (0, 67), (0, 68), (0, 69), (0, 70), (0, 71), (0, 72), (0, 73), (0, 77), (0, 78), (0, 79), (0, 80), (0, 81), (0, 82), (0, 83), (0, 88), (0, 90), (0, 91), (0, 93)] [(0, 8), (0, 13)] [2, 3, 5, 7, 8, 9, 10, 11, 12, 13, 14, 15, 16, 17, 18, 19, 20, 21, 22, 24, 25, 26, 27, 28, 29, 30, 31, 32, 33, 34, 35, 36, 37, 38, 39, 40, 41, 42, 43, 44] [4, 6, 23] t u ∧ (0 : Int) ≤ r.toInt ∧ r.toInt ≤ 511 ∧ ((u.1 0 2).toInt = 0)) (fun (u : tSt) => WM K ad u)) 0 0 := by
  refine t_met RX12 ⟨rfl, by decide +kernel⟩ (Nat.le_of_ble_eq_true rfl) ?_
  intro p e s m below meth c A ls C hE hZ hr hlocks hA hP hD hS hl
  have hl : lv_has ls 5 [(0, .ref (ad 0))] := hl
  have hokt := hok
  have hfr : frA [(0, 0), (0, 2), (0, 5), (0, 6), (0, 7), (0, 9), (0, 10), (0, 11), (0, 12), (0, 14), (0, 15), (0, 16), (0, 17), (0, 18), (0, 30), (0, 31), (0, 35), (0, 36), (0, 38), (0, 41), (0, 42), (0, 43), (0, 44), (0, 45), (0, 46), (0, 47), (0, 48), (0, 51), (0, 52), (0, 60), (0, 67), (0, 68), (0, 69), (0, 70), (0, 71), (0, 72), (0, 73), (0, 77), (0, 78), (0, 79), (0, 80), (0, 81), (0, 82), (0, 83), (0, 88), (0, 90), (0, 91), (0, 93)] [(0, 8), (0, 13)] [2, 3, 5, 7, 8, 9, 10, 11, 12, 13, 14, 15, 16, 17, 18, 19, 20, 21, 22, 24, 25, 26, 27, 28, 29, 30, 31, 32, 33, 34, 35, 36, 37, 38, 39, 40, 41, 42, 43, 44] [4, 6, 23] t t := frA_rf
  have h_1 : (0 : Int) ≤ (t.1 0 2).toInt ∧ (t.1 0 2).toInt ≤ 1280 := hok.1 0 2
  have h_2 : (0 : Int) ≤ (t.1 0 77).toInt ∧ (t.1 0 77).toInt ≤ 1280 := hok.1 0 77
  have h_3 : (0 : Int) ≤ (t.1 0 78).toInt ∧ (t.1 0 78).toInt ≤ 6 := hok.1 0 78
  have h_4 : (0 : Int) ≤ (t.1 0 83).toInt ∧ (t.1 0 83).toInt ≤ 427 := hok.1 0 83
  have L_123 : ∀ (fuel_123 : Nat) (t1 : tSt) (w123_1 : Int32) (H : Heap) (locs : List Loc) (ls : Array Slot), okM t1 → frA [(0, 0), (0, 2), (0, 5), (0, 6), (0, 7), (0, 9), (0, 10), (0, 11), (0, 12), (0, 14), (0, 15), (0, 16), (0, 17), (0, 18), (0, 30), (0, 31), (0, 35), (0, 36), (0, 38), (0, 41), (0, 42), (0, 43), (0, 44), (0, 45), (0, 46), (0, 47), (0, 48), (0, 51), (0, 52), (0, 60), (0, 67), (0, 68), (0, 69), (0, 70), (0, 71), (0, 72), (0, 73), (0, 77), (0, 78), (0, 79), (0, 80), (0, 81), (0, 82), (0, 83), (0, 88), (0, 90), (0, 91), (0, 93)] [(0, 8), (0, 13)] [2, 3, 5, 7, 8, 9, 10, 11, 12, 13, 14, 15, 16, 17, 18, 19, 20, 21, 22, 24, 25, 26, 27, 28, 29, 30, 31, 32, 33, 34, 35, 36, 37, 38, 39, 40, 41, 42, 43, 44] [4, 6, 23] t t1 → (0 : Int) ≤ w123_1.toInt ∧ w123_1.toInt ≤ 2147483647 → (0 : Int) ≤ (t1.1 0 0).toInt ∧ (t1.1 0 0).toInt ≤ 0 → (0 : Int) ≤ (t1.1 0 2).toInt ∧ (t1.1 0 2).toInt ≤ 0 → (lnS (t1.1 0 77).toInt (t1.2.2.1 37) (t1.2.2.1 38)) → (0 ≤ w123_1.toInt) → (w123_1.toInt ≤ (t1.1 0 77).toInt) → (3 * (t1.1 0 83).toInt ≤ w123_1.toInt) → ((t1.1 0 2).toInt = 0) → (1300 - w123_1.toInt) < (fuel_123 : Int) → va_P D vwCl (WM K ad t1) H → va_D A (WM K ad t1) → va_S A s.heap H locs → lv_has ls 5 [(0, .ref (ad 0)), (1, .int w123_1)] → W p l e (rmD 21 0 0) s m [.ref (ad 0)].toArray below meth c H locs 0 0 (MQ below (QI D K (fun (r : Int32) (u : tSt) => okM u ∧ frA [(0, 0), (0, 2), (0, 5), (0, 6), (0, 7), (0, 9), (0, 10), (0, 11), (0, 12), (0, 14), (0, 15), (0, 16), (0, 17), (0, 18), (0, 30), (0, 31), (0, 35), (0, 36), (0, 38), (0, 41), (0, 42), (0, 43), (0, 44), (0, 45), (0, 46), (0, 47), (0, 48), (0, 51), (0, 52), (0, 60), (0, 67), (0, 68), (0, 69), (0, 70), (0, 71), (0, 72), (0, 73), (0, 77), (0, 78), (0, 79), (0, 80), (0, 81), (0, 82), (0, 83), (0, 88), (0, 90), (0, 91), (0, 93)] [(0, 8), (0, 13)] [2, 3, 5, 7, 8, 9, 10, 11, 12, 13, 14, 15, 16, 17, 18, 19, 20, 21, 22, 24, 25, 26, 27, 28, 29, 30, 31, 32, 33, 34, 35, 36, 37, 38, 39, 40, 41, 42, 43, 44] [4, 6, 23] t u ∧ (0 : Int) ≤ r.toInt ∧ r.toInt ≤ 511 ∧ ((u.1 0 2).toInt = 0)) (fun (u : tSt) => WM K ad u) A) [.ref (ad 0)].toArray s 0 0 A) (F0 m 123 ls []) := by
    intro fuel_123
    induction fuel_123 with
    | zero =>
      intro t1 w123_1 H locs ls hok hfr hw123_1 hf123_0 hf123_2 hi123_0 hi123_1 hi123_2 hi123_3 hi123_4 hm123_123 hP hD hS hl
      have h_5 : (0 : Int) ≤ (t1.1 0 77).toInt ∧ (t1.1 0 77).toInt ≤ 1280 := hok.1 0 77
      have h_6 : (0 : Int) ≤ (t1.1 0 78).toInt ∧ (t1.1 0 78).toInt ≤ 6 := hok.1 0 78
      have h_7 : (0 : Int) ≤ (t1.1 0 83).toInt ∧ (t1.1 0 83).toInt ≤ 427 := hok.1 0 83
      exact absurd hm123_123 (by omega)
    | succ fuel_123 ih_123 =>
      intro t1 w123_1 H locs ls hok hfr hw123_1 hf123_0 hf123_2 hi123_0 hi123_1 hi123_2 hi123_3 hi123_4 hm123_123 hP hD hS hl
      have hm123_123 : (1300 - w123_1.toInt) < (fuel_123 : Int) + 1 := by omega
      have h_8 : (0 : Int) ≤ (t1.1 0 77).toInt ∧ (t1.1 0 77).toInt ≤ 1280 := hok.1 0 77
      have h_9 : (0 : Int) ≤ (t1.1 0 78).toInt ∧ (t1.1 0 78).toInt ≤ 6 := hok.1 0 78
      have h_10 : (0 : Int) ≤ (t1.1 0 83).toInt ∧ (t1.1 0 83).toInt ≤ 427 := hok.1 0 83
      have hn0 := hi123_0
      refine lv_iload_n C.1 C.2.1 dX12_jobs_123 rfl (lv_at hl 1 rfl) ?_
      refine lv_aload_n C.1 C.2.1 dX12_jobs_124 rfl (lv_at hl 0 rfl) ?_
      refine k_get (v := .int (t1.1 0 77)) C hP 0 rfl rfl inlX12 77 (by decide) m_78_14 rfl dX12_jobs_125 ?_
      refine lv_icmp_ge (tgt := 249) C.1 C.2.1 dX12_jobs_128 (by decide) (fun c_11 => ?_) (fun c_11 => ?_)
      · replace c_11 : (t1.1 0 77).toInt ≤ w123_1.toInt := i_le c_11
        refine lv_aload_n C.1 C.2.1 dX12_jobs_249 rfl (lv_at hl 0 rfl) ?_
        refine k_get (v := .int (t1.1 0 83)) C hP 0 rfl rfl inlX12 83 (by decide) m_78_16 rfl dX12_jobs_250 ?_
        exact g_iret C hr hlocks hP hD hS rfl t1 rfl ⟨hok, hfr, by omega, by omega, (show (t1.1 0 2).toInt = 0 from by omega)⟩ (Nat.le_of_ble_eq_true rfl) (Nat.le_of_ble_eq_true rfl) dX12_jobs_253
      · replace c_11 : w123_1.toInt < (t1.1 0 77).toInt := i_nle c_11
        refine lv_aload_n C.1 C.2.1 dX12_jobs_131 rfl (lv_at hl 0 rfl) ?_
        refine lv_iload_n C.1 C.2.1 dX12_jobs_132 rfl (lv_at hl 1 rfl) ?_
        refine g_Vi (As := [.int w123_1]) (rest := []) C hP hD hS hA (T_X12_isJob l D K Z Y ad t1 hok (w123_1) (show (0 : Int) ≤ (w123_1 : Int32).toInt ∧ (w123_1 : Int32).toInt ≤ 1280 from ⟨by omega, by omega⟩)) hE hZ (uwV m_78_17 m_78_18 m_78_19 m_1_5 m_78_20) (hdV 1 (by decide +kernel) rfl) ⟨Nat.le_of_ble_eq_true rfl, Nat.le_of_ble_eq_true rfl⟩ rfl rfl (ci := 11) (q0 := 0) rfl rfl rfl hl.1 (Nat.le_of_ble_eq_true rfl) dX12_jobs_133 ⟨Nat.le_of_ble_eq_true rfl, Nat.le_of_ble_eq_true rfl⟩ (fun r_13 t_12 H locs hw hP hD hS => ?_)
        obtain ⟨hok, f_14, h_15, h_16, p_17, p_18⟩ := hw
        have hfr : frA [(0, 0), (0, 2), (0, 5), (0, 6), (0, 7), (0, 9), (0, 10), (0, 11), (0, 12), (0, 14), (0, 15), (0, 16), (0, 17), (0, 18), (0, 30), (0, 31), (0, 35), (0, 36), (0, 38), (0, 41), (0, 42), (0, 43), (0, 44), (0, 45), (0, 46), (0, 47), (0, 48), (0, 51), (0, 52), (0, 60), (0, 67), (0, 68), (0, 69), (0, 70), (0, 71), (0, 72), (0, 73), (0, 77), (0, 78), (0, 79), (0, 80), (0, 81), (0, 82), (0, 83), (0, 88), (0, 90), (0, 91), (0, 93)] [(0, 8), (0, 13)] [2, 3, 5, 7, 8, 9, 10, 11, 12, 13, 14, 15, 16, 17, 18, 19, 20, 21, 22, 24, 25, 26, 27, 28, 29, 30, 31, 32, 33, 34, 35, 36, 37, 38, 39, 40, 41, 42, 43, 44] [4, 6, 23] t t_12 := frA_tr hfr f_14 rfl
        have h_19 : (t_12.1 0 0).toInt = (t1.1 0 0).toInt := ti_eq (f_14.1 0 0 rfl)
        have h_20 : (t_12.1 0 2).toInt = (t1.1 0 2).toInt := ti_eq (f_14.1 0 2 rfl)
        have h_21 : (t_12.1 0 77).toInt = (t1.1 0 77).toInt := ti_eq (f_14.1 0 77 rfl)
        have h_22 : (t_12.1 0 83).toInt = (t1.1 0 83).toInt := ti_eq (f_14.1 0 83 rfl)
        have e_23 : t_12.2.2.1 37 = t1.2.2.1 37 := f_14.2.2.1 37 rfl
        have e_24 : t_12.2.2.1 38 = t1.2.2.1 38 := f_14.2.2.1 38 rfl
        have h_25 : (0 : Int) ≤ (t_12.1 0 78).toInt ∧ (t_12.1 0 78).toInt ≤ 6 := hok.1 0 78
        have h_26 : (0 : Int) ≤ (t_12.1 0 83).toInt ∧ (t_12.1 0 83).toInt ≤ 427 := hok.1 0 83
        replace p_17 : r_13.toInt = 1 → (t_12.1 0 78).toInt = 6 := p_17
        replace p_18 : (t1.1 0 78).toInt = 6 → (t_12.1 0 78).toInt = 6 := p_18
        refine lv_if_ne (tgt := 145) C.1 C.2.1 dX12_jobs_136 (by decide) (fun c_27 => ?_) (fun c_27 => ?_)
        · replace c_27 : ¬ r_13.toInt = 0 := i_ne c_27
          refine lv_aload_n C.1 C.2.1 dX12_jobs_145 rfl (lv_at hl 0 rfl) ?_
          refine lv_iload_n C.1 C.2.1 dX12_jobs_146 rfl (lv_at hl 1 rfl) ?_
          refine lv_iconst (v := 1) C.1 C.2.1 dX12_jobs_147 (by decide) ?_
          obtain ⟨v_28, e_29⟩ : ∃ z, z = (w123_1 : Int32) + (1 : Int32) := ⟨_, rfl⟩
          have h_30 : v_28.toInt = w123_1.toInt + 1 := by rw [e_29]; exact ti_iadd (by show (_ : Int) ≤ w123_1.toInt + 1; omega) (by show w123_1.toInt + 1 < (_ : Int); omega)
          refine k_iadd (v := v_28) C e_29.symm dX12_jobs_148 ?_
          refine va_ldcwS C.1 C.2.1 C.2.2.2.1 (hE.2 31 (by decide)) dX12_jobs_149 ?_
          refine g_Vi (As := [.int v_28, .ref (Z 31)]) (rest := []) C hP hD hS hA (T_X12_search l D K Z Y ad t_12 hok (v_28) (show (1 : Int) ≤ (v_28 : Int32).toInt ∧ (v_28 : Int32).toInt ≤ 1281 from ⟨by omega, by omega⟩) (31) (show sS 31 from ⟨by decide, by decide, by decide⟩) (show v_28.toInt ≤ 1280 from by omega)) hE hZ (uwV m_79_17 m_79_18 m_79_19 m_1_5 m_79_20) (hdV 2 (by decide +kernel) rfl) ⟨Nat.le_of_ble_eq_true rfl, Nat.le_of_ble_eq_true rfl⟩ rfl rfl (ci := 11) (q0 := 0) rfl rfl rfl hl.1 (Nat.le_of_ble_eq_true rfl) dX12_jobs_152 ⟨Nat.le_of_ble_eq_true rfl, Nat.le_of_ble_eq_true rfl⟩ (fun r_32 t_31 H locs hw hP hD hS => ?_)
          obtain ⟨hok, f_33, h_34, h_35, p_36, p_37, p_38⟩ := hw
          have hfr : frA [(0, 0), (0, 2), (0, 5), (0, 6), (0, 7), (0, 9), (0, 10), (0, 11), (0, 12), (0, 14), (0, 15), (0, 16), (0, 17), (0, 18), (0, 30), (0, 31), (0, 35), (0, 36), (0, 38), (0, 41), (0, 42), (0, 43), (0, 44), (0, 45), (0, 46), (0, 47), (0, 48), (0, 51), (0, 52), (0, 60), (0, 67), (0, 68), (0, 69), (0, 70), (0, 71), (0, 72), (0, 73), (0, 77), (0, 78), (0, 79), (0, 80), (0, 81), (0, 82), (0, 83), (0, 88), (0, 90), (0, 91), (0, 93)] [(0, 8), (0, 13)] [2, 3, 5, 7, 8, 9, 10, 11, 12, 13, 14, 15, 16, 17, 18, 19, 20, 21, 22, 24, 25, 26, 27, 28, 29, 30, 31, 32, 33, 34, 35, 36, 37, 38, 39, 40, 41, 42, 43, 44] [4, 6, 23] t t_31 := frA_tr hfr f_33 rfl
          have h_39 : (t_31.1 0 0).toInt = (t_12.1 0 0).toInt := ti_eq (f_33.1 0 0 rfl)
          have h_40 : (t_31.1 0 2).toInt = (t_12.1 0 2).toInt := ti_eq (f_33.1 0 2 rfl)
          have h_41 : (t_31.1 0 77).toInt = (t_12.1 0 77).toInt := ti_eq (f_33.1 0 77 rfl)
          have h_42 : (t_31.1 0 83).toInt = (t_12.1 0 83).toInt := ti_eq (f_33.1 0 83 rfl)
          have e_43 : t_31.2.2.1 37 = t1.2.2.1 37 := (f_33.2.2.1 37 rfl).trans (e_23)
          have e_44 : t_31.2.2.1 38 = t1.2.2.1 38 := (f_33.2.2.1 38 rfl).trans (e_24)
          have h_45 : (0 : Int) ≤ (t_31.1 0 78).toInt ∧ (t_31.1 0 78).toInt ≤ 6 := hok.1 0 78
          have h_46 : (0 : Int) ≤ (t_31.1 0 83).toInt ∧ (t_31.1 0 83).toInt ≤ 427 := hok.1 0 83
          replace p_36 : v_28.toInt ≤ r_32.toInt := p_36
          replace p_37 : r_32.toInt ≤ (t_12.1 0 77).toInt ∨ r_32.toInt = v_28.toInt := p_37
          replace p_38 : (t_12.1 0 78).toInt = 6 → (t_31.1 0 78).toInt = 6 := p_38
          refine lv_istore_n (lv' := [(2, .int r_32), (0, .ref (ad 0)), (1, .int w123_1)]) C.1 C.2.1 dX12_jobs_155 rfl hl (by decide) rfl (fun ls hl => ?_)
          have hl : lv_has ls 5 [(0, .ref (ad 0)), (1, .int w123_1), (2, .int r_32)] := lv_sub hl [1, 2, 0] rfl
          refine lv_iload_n C.1 C.2.1 dX12_jobs_156 rfl (lv_at hl 2 rfl) ?_
          refine lv_aload_n C.1 C.2.1 dX12_jobs_157 rfl (lv_at hl 0 rfl) ?_
          refine k_get (v := .int (t_31.1 0 77)) C hP 0 rfl rfl inlX12 77 (by decide) m_78_14 rfl dX12_jobs_158 ?_
          refine lv_icmp_ge (tgt := 188) C.1 C.2.1 dX12_jobs_161 (by decide) (fun c_47 => ?_) (fun c_47 => ?_)
          · replace c_47 : (t_31.1 0 77).toInt ≤ r_32.toInt := i_le c_47
            refine lv_iload_n C.1 C.2.1 dX12_jobs_188 rfl (lv_at hl 2 rfl) ?_
            refine lv_istore_n (lv' := [(3, .int r_32), (0, .ref (ad 0)), (1, .int w123_1), (2, .int r_32)]) C.1 C.2.1 dX12_jobs_189 rfl hl (by decide) rfl (fun ls hl => ?_)
            have hl : lv_has ls 5 [(0, .ref (ad 0)), (1, .int w123_1), (2, .int r_32), (3, .int r_32)] := lv_sub hl [1, 2, 3, 0] rfl
            refine lv_iload_n C.1 C.2.1 dX12_jobs_190 rfl (lv_at hl 3 rfl) ?_
            refine lv_iload_n C.1 C.2.1 dX12_jobs_191 rfl (lv_at hl 2 rfl) ?_
            refine lv_icmp_le (tgt := 218) C.1 C.2.1 dX12_jobs_192 (by decide) (fun c_48 => ?_) (fun c_48 => ?_)
            · replace c_48 : r_32.toInt ≤ r_32.toInt := i_le c_48
              refine lv_iconst (v := 0) C.1 C.2.1 dX12_jobs_218 (by decide) ?_
              refine lv_istore (lv' := [(4, .int 0), (0, .ref (ad 0)), (1, .int w123_1), (2, .int r_32), (3, .int r_32)]) C.1 C.2.1 dX12_jobs_219 hl (by decide) rfl (fun ls hl => ?_)
              have hl : lv_has ls 5 [(0, .ref (ad 0)), (1, .int w123_1), (2, .int r_32), (3, .int r_32), (4, .int 0)] := lv_sub hl [1, 2, 3, 4, 0] rfl
              refine lv_iload C.1 C.2.1 dX12_jobs_221 (lv_at hl 4 rfl) ?_
              refine lv_if_eq (tgt := 233) C.1 C.2.1 dX12_jobs_223 (by decide) (fun _ => ?_) (fun h => absurd (by decide) h)
              refine lv_iload C.1 C.2.1 dX12_jobs_233 (lv_at hl 4 rfl) ?_
              refine lv_if_eq (tgt := 244) C.1 C.2.1 dX12_jobs_235 (by decide) (fun _ => ?_) (fun h => absurd (by decide) h)
              refine lv_iload_n C.1 C.2.1 dX12_jobs_244 rfl (lv_at hl 3 rfl) ?_
              refine lv_istore_n (lv' := [(1, .int r_32), (0, .ref (ad 0)), (2, .int r_32), (3, .int r_32), (4, .int 0)]) C.1 C.2.1 dX12_jobs_245 rfl hl (by decide) rfl (fun ls hl => ?_)
              have hl : lv_has ls 5 [(0, .ref (ad 0)), (1, .int r_32), (2, .int r_32), (3, .int r_32), (4, .int 0)] := lv_sub hl [1, 0, 2, 3, 4] rfl
              refine lv_goto (tgt := 123) C.1 C.2.1 dX12_jobs_246 (by decide) ?_
              exact ih_123 t_31 r_32 _ _ _ hok hfr ⟨by omega, (i_rng _).2⟩ (show (0 : Int) ≤ ((t_31.1 0 0) : Int32).toInt ∧ ((t_31.1 0 0) : Int32).toInt ≤ 0 from ⟨by omega, by omega⟩) (show (0 : Int) ≤ ((t_31.1 0 2) : Int32).toInt ∧ ((t_31.1 0 2) : Int32).toInt ≤ 0 from ⟨by omega, by omega⟩) (show lnS (t_31.1 0 77).toInt (t_31.2.2.1 37) (t_31.2.2.1 38) from by first | exact hi80_0 | exact lnS_cg hn0 (by omega) e_43 e_44) (show 0 ≤ r_32.toInt from by omega) (show r_32.toInt ≤ (t_31.1 0 77).toInt from by omega) (show 3 * (t_31.1 0 83).toInt ≤ r_32.toInt from by omega) (show (t_31.1 0 2).toInt = 0 from by omega) (show (1300 - r_32.toInt) < (fuel_123 : Int) from by omega) hP hD hS (lv_sub hl [0, 1] rfl)
            · replace c_48 : r_32.toInt < r_32.toInt := i_nle c_48
              refine lv_iload_n C.1 C.2.1 dX12_jobs_195 rfl (lv_at hl 3 rfl) ?_
              refine lv_aload_n C.1 C.2.1 dX12_jobs_196 rfl (lv_at hl 0 rfl) ?_
              refine k_get (v := .int (t_31.1 0 77)) C hP 0 rfl rfl inlX12 77 (by decide) m_78_14 rfl dX12_jobs_197 ?_
              refine lv_icmp_ge (tgt := 218) C.1 C.2.1 dX12_jobs_200 (by decide) (fun c_49 => ?_) (fun c_49 => ?_)
              · replace c_49 : (t_31.1 0 77).toInt ≤ r_32.toInt := i_le c_49
                refine lv_iconst (v := 0) C.1 C.2.1 dX12_jobs_218 (by decide) ?_
                refine lv_istore (lv' := [(4, .int 0), (0, .ref (ad 0)), (1, .int w123_1), (2, .int r_32), (3, .int r_32)]) C.1 C.2.1 dX12_jobs_219 hl (by decide) rfl (fun ls hl => ?_)
                have hl : lv_has ls 5 [(0, .ref (ad 0)), (1, .int w123_1), (2, .int r_32), (3, .int r_32), (4, .int 0)] := lv_sub hl [1, 2, 3, 4, 0] rfl
                refine lv_iload C.1 C.2.1 dX12_jobs_221 (lv_at hl 4 rfl) ?_
                refine lv_if_eq (tgt := 233) C.1 C.2.1 dX12_jobs_223 (by decide) (fun _ => ?_) (fun h => absurd (by decide) h)
                refine lv_iload C.1 C.2.1 dX12_jobs_233 (lv_at hl 4 rfl) ?_
                refine lv_if_eq (tgt := 244) C.1 C.2.1 dX12_jobs_235 (by decide) (fun _ => ?_) (fun h => absurd (by decide) h)
                refine lv_iload_n C.1 C.2.1 dX12_jobs_244 rfl (lv_at hl 3 rfl) ?_
                refine lv_istore_n (lv' := [(1, .int r_32), (0, .ref (ad 0)), (2, .int r_32), (3, .int r_32), (4, .int 0)]) C.1 C.2.1 dX12_jobs_245 rfl hl (by decide) rfl (fun ls hl => ?_)
                have hl : lv_has ls 5 [(0, .ref (ad 0)), (1, .int r_32), (2, .int r_32), (3, .int r_32), (4, .int 0)] := lv_sub hl [1, 0, 2, 3, 4] rfl
                refine lv_goto (tgt := 123) C.1 C.2.1 dX12_jobs_246 (by decide) ?_
                exact ih_123 t_31 r_32 _ _ _ hok hfr ⟨by omega, (i_rng _).2⟩ (show (0 : Int) ≤ ((t_31.1 0 0) : Int32).toInt ∧ ((t_31.1 0 0) : Int32).toInt ≤ 0 from ⟨by omega, by omega⟩) (show (0 : Int) ≤ ((t_31.1 0 2) : Int32).toInt ∧ ((t_31.1 0 2) : Int32).toInt ≤ 0 from ⟨by omega, by omega⟩) (show lnS (t_31.1 0 77).toInt (t_31.2.2.1 37) (t_31.2.2.1 38) from by first | exact hi80_0 | exact lnS_cg hn0 (by omega) e_43 e_44) (show 0 ≤ r_32.toInt from by omega) (show r_32.toInt ≤ (t_31.1 0 77).toInt from by omega) (show 3 * (t_31.1 0 83).toInt ≤ r_32.toInt from by omega) (show (t_31.1 0 2).toInt = 0 from by omega) (show (1300 - r_32.toInt) < (fuel_123 : Int) from by omega) hP hD hS (lv_sub hl [0, 1] rfl)
              · replace c_49 : r_32.toInt < (t_31.1 0 77).toInt := i_nle c_49
                refine lv_aload_n C.1 C.2.1 dX12_jobs_203 rfl (lv_at hl 0 rfl) ?_
                refine lv_iload_n C.1 C.2.1 dX12_jobs_204 rfl (lv_at hl 3 rfl) ?_
                refine va_ldcwS C.1 C.2.1 C.2.2.2.1 (hE.2 32 (by decide)) dX12_jobs_205 ?_
                refine g_Vi (As := [.int r_32, .ref (Z 32)]) (rest := []) C hP hD hS hA (T_X12_isWord l D K Z Y ad t_31 hok (r_32) (show (0 : Int) ≤ (r_32 : Int32).toInt ∧ (r_32 : Int32).toInt ≤ 1280 from ⟨by omega, by omega⟩) (32) (show sS 32 from ⟨by decide, by decide, by decide⟩)) hE hZ (uwV m_79_1 m_79_2 m_79_3 m_1_5 m_79_4) (hdV 2 (by decide +kernel) rfl) ⟨Nat.le_of_ble_eq_true rfl, Nat.le_of_ble_eq_true rfl⟩ rfl rfl (ci := 11) (q0 := 0) rfl rfl rfl hl.1 (Nat.le_of_ble_eq_true rfl) dX12_jobs_208 ⟨Nat.le_of_ble_eq_true rfl, Nat.le_of_ble_eq_true rfl⟩ (fun r_51 t_50 H locs hw hP hD hS => ?_)
                obtain ⟨h_53, h_54⟩ := hw
                refine lv_if_eq (tgt := 218) C.1 C.2.1 dX12_jobs_211 (by decide) (fun c_55 => ?_) (fun c_55 => ?_)
                · replace c_55 : r_51.toInt = 0 := i_eq c_55
                  refine lv_iconst (v := 0) C.1 C.2.1 dX12_jobs_218 (by decide) ?_
                  refine lv_istore (lv' := [(4, .int 0), (0, .ref (ad 0)), (1, .int w123_1), (2, .int r_32), (3, .int r_32)]) C.1 C.2.1 dX12_jobs_219 hl (by decide) rfl (fun ls hl => ?_)
                  have hl : lv_has ls 5 [(0, .ref (ad 0)), (1, .int w123_1), (2, .int r_32), (3, .int r_32), (4, .int 0)] := lv_sub hl [1, 2, 3, 4, 0] rfl
                  refine lv_iload C.1 C.2.1 dX12_jobs_221 (lv_at hl 4 rfl) ?_
                  refine lv_if_eq (tgt := 233) C.1 C.2.1 dX12_jobs_223 (by decide) (fun _ => ?_) (fun h => absurd (by decide) h)
                  refine lv_iload C.1 C.2.1 dX12_jobs_233 (lv_at hl 4 rfl) ?_
                  refine lv_if_eq (tgt := 244) C.1 C.2.1 dX12_jobs_235 (by decide) (fun _ => ?_) (fun h => absurd (by decide) h)
                  refine lv_iload_n C.1 C.2.1 dX12_jobs_244 rfl (lv_at hl 3 rfl) ?_
                  refine lv_istore_n (lv' := [(1, .int r_32), (0, .ref (ad 0)), (2, .int r_32), (3, .int r_32), (4, .int 0)]) C.1 C.2.1 dX12_jobs_245 rfl hl (by decide) rfl (fun ls hl => ?_)
                  have hl : lv_has ls 5 [(0, .ref (ad 0)), (1, .int r_32), (2, .int r_32), (3, .int r_32), (4, .int 0)] := lv_sub hl [1, 0, 2, 3, 4] rfl
                  refine lv_goto (tgt := 123) C.1 C.2.1 dX12_jobs_246 (by decide) ?_
                  exact ih_123 t_31 r_32 _ _ _ hok hfr ⟨by omega, (i_rng _).2⟩ (show (0 : Int) ≤ ((t_31.1 0 0) : Int32).toInt ∧ ((t_31.1 0 0) : Int32).toInt ≤ 0 from ⟨by omega, by omega⟩) (show (0 : Int) ≤ ((t_31.1 0 2) : Int32).toInt ∧ ((t_31.1 0 2) : Int32).toInt ≤ 0 from ⟨by omega, by omega⟩) (show lnS (t_31.1 0 77).toInt (t_31.2.2.1 37) (t_31.2.2.1 38) from by first | exact hi80_0 | exact lnS_cg hn0 (by omega) e_43 e_44) (show 0 ≤ r_32.toInt from by omega) (show r_32.toInt ≤ (t_31.1 0 77).toInt from by omega) (show 3 * (t_31.1 0 83).toInt ≤ r_32.toInt from by omega) (show (t_31.1 0 2).toInt = 0 from by omega) (show (1300 - r_32.toInt) < (fuel_123 : Int) from by omega) hP hD hS (lv_sub hl [0, 1] rfl)
                · replace c_55 : ¬ r_51.toInt = 0 := i_ne c_55
                  refine lv_iconst (v := 1) C.1 C.2.1 dX12_jobs_214 (by decide) ?_
                  refine lv_goto (tgt := 219) C.1 C.2.1 dX12_jobs_215 (by decide) ?_
                  refine lv_istore (lv' := [(4, .int 1), (0, .ref (ad 0)), (1, .int w123_1), (2, .int r_32), (3, .int r_32)]) C.1 C.2.1 dX12_jobs_219 hl (by decide) rfl (fun ls hl => ?_)
                  have hl : lv_has ls 5 [(0, .ref (ad 0)), (1, .int w123_1), (2, .int r_32), (3, .int r_32), (4, .int 1)] := lv_sub hl [1, 2, 3, 4, 0] rfl
                  refine lv_iload C.1 C.2.1 dX12_jobs_221 (lv_at hl 4 rfl) ?_
                  refine lv_if_eq (tgt := 233) C.1 C.2.1 dX12_jobs_223 (by decide) (fun h => absurd h (by decide)) (fun _ => ?_)
                  refine lv_aload_n C.1 C.2.1 dX12_jobs_226 rfl (lv_at hl 0 rfl) ?_
                  refine lv_iload_n C.1 C.2.1 dX12_jobs_227 rfl (lv_at hl 1 rfl) ?_
                  refine lv_iload_n C.1 C.2.1 dX12_jobs_228 rfl (lv_at hl 2 rfl) ?_
                  refine lv_iload_n C.1 C.2.1 dX12_jobs_229 rfl (lv_at hl 3 rfl) ?_
                  refine g_Vv (As := [.int w123_1, .int r_32, .int r_32]) (rest := []) C hP hD hS hA (T_X12_doJob l D K Z Y ad t_31 hok (w123_1) (show (0 : Int) ≤ (w123_1 : Int32).toInt ∧ (w123_1 : Int32).toInt ≤ 1280 from ⟨by omega, by omega⟩) (r_32) (show (1 : Int) ≤ (r_32 : Int32).toInt ∧ (r_32 : Int32).toInt ≤ 1280 from ⟨by omega, by omega⟩) (r_32) (show (1 : Int) ≤ (r_32 : Int32).toInt ∧ (r_32 : Int32).toInt ≤ 1280 from ⟨by omega, by omega⟩) (show (t_31.1 0 78).toInt = 6 from by omega) (show (t_31.1 0 83).toInt ≤ 426 from by omega) (show w123_1.toInt < r_32.toInt from by omega) (show r_32.toInt < r_32.toInt from by omega) (show r_32.toInt < (t_31.1 0 77).toInt from by omega) (show lnS (t_31.1 0 77).toInt (t_31.2.2.1 37) (t_31.2.2.1 38) from lnS_cg hn0 (by omega) e_43 e_44)) hE hZ (uwV m_79_21 m_79_22 m_79_23 m_1_5 m_80_0) (hdV 3 (by decide +kernel) rfl) ⟨Nat.le_of_ble_eq_true rfl, Nat.le_of_ble_eq_true rfl⟩ rfl rfl (ci := 11) (q0 := 0) rfl rfl rfl hl.1 (Nat.le_of_ble_eq_true rfl) dX12_jobs_230 ⟨Nat.le_of_ble_eq_true rfl, Nat.le_of_ble_eq_true rfl⟩ (fun t_56 H locs hw hP hD hS => ?_)
                  obtain ⟨hok, f_58, p_59, p_60⟩ := hw
                  have hfr : frA [(0, 0), (0, 2), (0, 5), (0, 6), (0, 7), (0, 9), (0, 10), (0, 11), (0, 12), (0, 14), (0, 15), (0, 16), (0, 17), (0, 18), (0, 30), (0, 31), (0, 35), (0, 36), (0, 38), (0, 41), (0, 42), (0, 43), (0, 44), (0, 45), (0, 46), (0, 47), (0, 48), (0, 51), (0, 52), (0, 60), (0, 67), (0, 68), (0, 69), (0, 70), (0, 71), (0, 72), (0, 73), (0, 77), (0, 78), (0, 79), (0, 80), (0, 81), (0, 82), (0, 83), (0, 88), (0, 90), (0, 91), (0, 93)] [(0, 8), (0, 13)] [2, 3, 5, 7, 8, 9, 10, 11, 12, 13, 14, 15, 16, 17, 18, 19, 20, 21, 22, 24, 25, 26, 27, 28, 29, 30, 31, 32, 33, 34, 35, 36, 37, 38, 39, 40, 41, 42, 43, 44] [4, 6, 23] t t_56 := frA_tr hfr f_58 rfl
                  have h_61 : (t_56.1 0 0).toInt = (t_31.1 0 0).toInt := ti_eq (f_58.1 0 0 rfl)
                  have h_62 : (t_56.1 0 2).toInt = (t_31.1 0 2).toInt := ti_eq (f_58.1 0 2 rfl)
                  have h_63 : (t_56.1 0 77).toInt = (t_31.1 0 77).toInt := ti_eq (f_58.1 0 77 rfl)
                  have e_64 : t_56.2.2.1 37 = t1.2.2.1 37 := (f_58.2.2.1 37 rfl).trans (e_43)
                  have e_65 : t_56.2.2.1 38 = t1.2.2.1 38 := (f_58.2.2.1 38 rfl).trans (e_44)
                  have h_66 : (0 : Int) ≤ (t_56.1 0 78).toInt ∧ (t_56.1 0 78).toInt ≤ 6 := hok.1 0 78
                  have h_67 : (0 : Int) ≤ (t_56.1 0 83).toInt ∧ (t_56.1 0 83).toInt ≤ 427 := hok.1 0 83
                  replace p_59 : (t_56.1 0 83).toInt = (t_31.1 0 83).toInt + 1 := p_59
                  replace p_60 : (t_56.1 0 78).toInt = 6 := p_60
                  refine lv_iload C.1 C.2.1 dX12_jobs_233 (lv_at hl 4 rfl) ?_
                  refine lv_if_eq (tgt := 244) C.1 C.2.1 dX12_jobs_235 (by decide) (fun h => absurd h (by decide)) (fun _ => ?_)
                  refine lv_iload_n C.1 C.2.1 dX12_jobs_238 rfl (lv_at hl 3 rfl) ?_
                  refine lv_iconst (v := 1) C.1 C.2.1 dX12_jobs_239 (by decide) ?_
                  obtain ⟨v_68, e_69⟩ : ∃ z, z = (r_32 : Int32) + (1 : Int32) := ⟨_, rfl⟩
                  have h_70 : v_68.toInt = r_32.toInt + 1 := by rw [e_69]; exact ti_iadd (by show (_ : Int) ≤ r_32.toInt + 1; omega) (by show r_32.toInt + 1 < (_ : Int); omega)
                  refine k_iadd (v := v_68) C e_69.symm dX12_jobs_240 ?_
                  refine lv_goto (tgt := 245) C.1 C.2.1 dX12_jobs_241 (by decide) ?_
                  refine lv_istore_n (lv' := [(1, .int v_68), (0, .ref (ad 0)), (2, .int r_32), (3, .int r_32), (4, .int 1)]) C.1 C.2.1 dX12_jobs_245 rfl hl (by decide) rfl (fun ls hl => ?_)
                  have hl : lv_has ls 5 [(0, .ref (ad 0)), (1, .int v_68), (2, .int r_32), (3, .int r_32), (4, .int 1)] := lv_sub hl [1, 0, 2, 3, 4] rfl
                  refine lv_goto (tgt := 123) C.1 C.2.1 dX12_jobs_246 (by decide) ?_
                  exact ih_123 t_56 v_68 _ _ _ hok hfr ⟨by omega, (i_rng _).2⟩ (show (0 : Int) ≤ ((t_56.1 0 0) : Int32).toInt ∧ ((t_56.1 0 0) : Int32).toInt ≤ 0 from ⟨by omega, by omega⟩) (show (0 : Int) ≤ ((t_56.1 0 2) : Int32).toInt ∧ ((t_56.1 0 2) : Int32).toInt ≤ 0 from ⟨by omega, by omega⟩) (show lnS (t_56.1 0 77).toInt (t_56.2.2.1 37) (t_56.2.2.1 38) from by first | exact hi80_0 | exact lnS_cg hn0 (by omega) e_64 e_65) (show 0 ≤ v_68.toInt from by omega) (show v_68.toInt ≤ (t_56.1 0 77).toInt from by omega) (show 3 * (t_56.1 0 83).toInt ≤ v_68.toInt from by omega) (show (t_56.1 0 2).toInt = 0 from by omega) (show (1300 - v_68.toInt) < (fuel_123 : Int) from by omega) hP hD hS (lv_sub hl [0, 1] rfl)
          · replace c_47 : r_32.toInt < (t_31.1 0 77).toInt := i_nle c_47
            refine lv_aload_n C.1 C.2.1 dX12_jobs_164 rfl (lv_at hl 0 rfl) ?_
            refine lv_iload_n C.1 C.2.1 dX12_jobs_165 rfl (lv_at hl 2 rfl) ?_
            refine va_ldcwS C.1 C.2.1 C.2.2.2.1 (hE.2 31 (by decide)) dX12_jobs_166 ?_
            refine g_Vi (As := [.int r_32, .ref (Z 31)]) (rest := []) C hP hD hS hA (T_X12_isWord l D K Z Y ad t_31 hok (r_32) (show (0 : Int) ≤ (r_32 : Int32).toInt ∧ (r_32 : Int32).toInt ≤ 1280 from ⟨by omega, by omega⟩) (31) (show sS 31 from ⟨by decide, by decide, by decide⟩)) hE hZ (uwV m_79_1 m_79_2 m_79_3 m_1_5 m_79_4) (hdV 2 (by decide +kernel) rfl) ⟨Nat.le_of_ble_eq_true rfl, Nat.le_of_ble_eq_true rfl⟩ rfl rfl (ci := 11) (q0 := 0) rfl rfl rfl hl.1 (Nat.le_of_ble_eq_true rfl) dX12_jobs_169 ⟨Nat.le_of_ble_eq_true rfl, Nat.le_of_ble_eq_true rfl⟩ (fun r_72 t_71 H locs hw hP hD hS => ?_)
            obtain ⟨h_74, h_75⟩ := hw
            refine lv_if_eq (tgt := 188) C.1 C.2.1 dX12_jobs_172 (by decide) (fun c_76 => ?_) (fun c_76 => ?_)
            · replace c_76 : r_72.toInt = 0 := i_eq c_76
              refine lv_iload_n C.1 C.2.1 dX12_jobs_188 rfl (lv_at hl 2 rfl) ?_
              refine lv_istore_n (lv' := [(3, .int r_32), (0, .ref (ad 0)), (1, .int w123_1), (2, .int r_32)]) C.1 C.2.1 dX12_jobs_189 rfl hl (by decide) rfl (fun ls hl => ?_)
              have hl : lv_has ls 5 [(0, .ref (ad 0)), (1, .int w123_1), (2, .int r_32), (3, .int r_32)] := lv_sub hl [1, 2, 3, 0] rfl
              refine lv_iload_n C.1 C.2.1 dX12_jobs_190 rfl (lv_at hl 3 rfl) ?_
              refine lv_iload_n C.1 C.2.1 dX12_jobs_191 rfl (lv_at hl 2 rfl) ?_
              refine lv_icmp_le (tgt := 218) C.1 C.2.1 dX12_jobs_192 (by decide) (fun c_77 => ?_) (fun c_77 => ?_)
              · replace c_77 : r_32.toInt ≤ r_32.toInt := i_le c_77
                refine lv_iconst (v := 0) C.1 C.2.1 dX12_jobs_218 (by decide) ?_
                refine lv_istore (lv' := [(4, .int 0), (0, .ref (ad 0)), (1, .int w123_1), (2, .int r_32), (3, .int r_32)]) C.1 C.2.1 dX12_jobs_219 hl (by decide) rfl (fun ls hl => ?_)
                have hl : lv_has ls 5 [(0, .ref (ad 0)), (1, .int w123_1), (2, .int r_32), (3, .int r_32), (4, .int 0)] := lv_sub hl [1, 2, 3, 4, 0] rfl
                refine lv_iload C.1 C.2.1 dX12_jobs_221 (lv_at hl 4 rfl) ?_
                refine lv_if_eq (tgt := 233) C.1 C.2.1 dX12_jobs_223 (by decide) (fun _ => ?_) (fun h => absurd (by decide) h)
                refine lv_iload C.1 C.2.1 dX12_jobs_233 (lv_at hl 4 rfl) ?_
                refine lv_if_eq (tgt := 244) C.1 C.2.1 dX12_jobs_235 (by decide) (fun _ => ?_) (fun h => absurd (by decide) h)
                refine lv_iload_n C.1 C.2.1 dX12_jobs_244 rfl (lv_at hl 3 rfl) ?_
                refine lv_istore_n (lv' := [(1, .int r_32), (0, .ref (ad 0)), (2, .int r_32), (3, .int r_32), (4, .int 0)]) C.1 C.2.1 dX12_jobs_245 rfl hl (by decide) rfl (fun ls hl => ?_)
                have hl : lv_has ls 5 [(0, .ref (ad 0)), (1, .int r_32), (2, .int r_32), (3, .int r_32), (4, .int 0)] := lv_sub hl [1, 0, 2, 3, 4] rfl
                refine lv_goto (tgt := 123) C.1 C.2.1 dX12_jobs_246 (by decide) ?_
                exact ih_123 t_31 r_32 _ _ _ hok hfr ⟨by omega, (i_rng _).2⟩ (show (0 : Int) ≤ ((t_31.1 0 0) : Int32).toInt ∧ ((t_31.1 0 0) : Int32).toInt ≤ 0 from ⟨by omega, by omega⟩) (show (0 : Int) ≤ ((t_31.1 0 2) : Int32).toInt ∧ ((t_31.1 0 2) : Int32).toInt ≤ 0 from ⟨by omega, by omega⟩) (show lnS (t_31.1 0 77).toInt (t_31.2.2.1 37) (t_31.2.2.1 38) from by first | exact hi80_0 | exact lnS_cg hn0 (by omega) e_43 e_44) (show 0 ≤ r_32.toInt from by omega) (show r_32.toInt ≤ (t_31.1 0 77).toInt from by omega) (show 3 * (t_31.1 0 83).toInt ≤ r_32.toInt from by omega) (show (t_31.1 0 2).toInt = 0 from by omega) (show (1300 - r_32.toInt) < (fuel_123 : Int) from by omega) hP hD hS (lv_sub hl [0, 1] rfl)
              · replace c_77 : r_32.toInt < r_32.toInt := i_nle c_77
                refine lv_iload_n C.1 C.2.1 dX12_jobs_195 rfl (lv_at hl 3 rfl) ?_
                refine lv_aload_n C.1 C.2.1 dX12_jobs_196 rfl (lv_at hl 0 rfl) ?_
                refine k_get (v := .int (t_31.1 0 77)) C hP 0 rfl rfl inlX12 77 (by decide) m_78_14 rfl dX12_jobs_197 ?_
                refine lv_icmp_ge (tgt := 218) C.1 C.2.1 dX12_jobs_200 (by decide) (fun c_78 => ?_) (fun c_78 => ?_)
                · replace c_78 : (t_31.1 0 77).toInt ≤ r_32.toInt := i_le c_78
                  refine lv_iconst (v := 0) C.1 C.2.1 dX12_jobs_218 (by decide) ?_
                  refine lv_istore (lv' := [(4, .int 0), (0, .ref (ad 0)), (1, .int w123_1), (2, .int r_32), (3, .int r_32)]) C.1 C.2.1 dX12_jobs_219 hl (by decide) rfl (fun ls hl => ?_)
                  have hl : lv_has ls 5 [(0, .ref (ad 0)), (1, .int w123_1), (2, .int r_32), (3, .int r_32), (4, .int 0)] := lv_sub hl [1, 2, 3, 4, 0] rfl
                  refine lv_iload C.1 C.2.1 dX12_jobs_221 (lv_at hl 4 rfl) ?_
                  refine lv_if_eq (tgt := 233) C.1 C.2.1 dX12_jobs_223 (by decide) (fun _ => ?_) (fun h => absurd (by decide) h)
                  refine lv_iload C.1 C.2.1 dX12_jobs_233 (lv_at hl 4 rfl) ?_
                  refine lv_if_eq (tgt := 244) C.1 C.2.1 dX12_jobs_235 (by decide) (fun _ => ?_) (fun h => absurd (by decide) h)
                  refine lv_iload_n C.1 C.2.1 dX12_jobs_244 rfl (lv_at hl 3 rfl) ?_
                  refine lv_istore_n (lv' := [(1, .int r_32), (0, .ref (ad 0)), (2, .int r_32), (3, .int r_32), (4, .int 0)]) C.1 C.2.1 dX12_jobs_245 rfl hl (by decide) rfl (fun ls hl => ?_)
                  have hl : lv_has ls 5 [(0, .ref (ad 0)), (1, .int r_32), (2, .int r_32), (3, .int r_32), (4, .int 0)] := lv_sub hl [1, 0, 2, 3, 4] rfl
                  refine lv_goto (tgt := 123) C.1 C.2.1 dX12_jobs_246 (by decide) ?_
                  exact ih_123 t_31 r_32 _ _ _ hok hfr ⟨by omega, (i_rng _).2⟩ (show (0 : Int) ≤ ((t_31.1 0 0) : Int32).toInt ∧ ((t_31.1 0 0) : Int32).toInt ≤ 0 from ⟨by omega, by omega⟩) (show (0 : Int) ≤ ((t_31.1 0 2) : Int32).toInt ∧ ((t_31.1 0 2) : Int32).toInt ≤ 0 from ⟨by omega, by omega⟩) (show lnS (t_31.1 0 77).toInt (t_31.2.2.1 37) (t_31.2.2.1 38) from by first | exact hi80_0 | exact lnS_cg hn0 (by omega) e_43 e_44) (show 0 ≤ r_32.toInt from by omega) (show r_32.toInt ≤ (t_31.1 0 77).toInt from by omega) (show 3 * (t_31.1 0 83).toInt ≤ r_32.toInt from by omega) (show (t_31.1 0 2).toInt = 0 from by omega) (show (1300 - r_32.toInt) < (fuel_123 : Int) from by omega) hP hD hS (lv_sub hl [0, 1] rfl)
                · replace c_78 : r_32.toInt < (t_31.1 0 77).toInt := i_nle c_78
                  refine lv_aload_n C.1 C.2.1 dX12_jobs_203 rfl (lv_at hl 0 rfl) ?_
                  refine lv_iload_n C.1 C.2.1 dX12_jobs_204 rfl (lv_at hl 3 rfl) ?_
                  refine va_ldcwS C.1 C.2.1 C.2.2.2.1 (hE.2 32 (by decide)) dX12_jobs_205 ?_
                  refine g_Vi (As := [.int r_32, .ref (Z 32)]) (rest := []) C hP hD hS hA (T_X12_isWord l D K Z Y ad t_31 hok (r_32) (show (0 : Int) ≤ (r_32 : Int32).toInt ∧ (r_32 : Int32).toInt ≤ 1280 from ⟨by omega, by omega⟩) (32) (show sS 32 from ⟨by decide, by decide, by decide⟩)) hE hZ (uwV m_79_1 m_79_2 m_79_3 m_1_5 m_79_4) (hdV 2 (by decide +kernel) rfl) ⟨Nat.le_of_ble_eq_true rfl, Nat.le_of_ble_eq_true rfl⟩ rfl rfl (ci := 11) (q0 := 0) rfl rfl rfl hl.1 (Nat.le_of_ble_eq_true rfl) dX12_jobs_208 ⟨Nat.le_of_ble_eq_true rfl, Nat.le_of_ble_eq_true rfl⟩ (fun r_80 t_79 H locs hw hP hD hS => ?_)
                  obtain ⟨h_82, h_83⟩ := hw
                  refine lv_if_eq (tgt := 218) C.1 C.2.1 dX12_jobs_211 (by decide) (fun c_84 => ?_) (fun c_84 => ?_)
                  · replace c_84 : r_80.toInt = 0 := i_eq c_84
                    refine lv_iconst (v := 0) C.1 C.2.1 dX12_jobs_218 (by decide) ?_
                    refine lv_istore (lv' := [(4, .int 0), (0, .ref (ad 0)), (1, .int w123_1), (2, .int r_32), (3, .int r_32)]) C.1 C.2.1 dX12_jobs_219 hl (by decide) rfl (fun ls hl => ?_)
                    have hl : lv_has ls 5 [(0, .ref (ad 0)), (1, .int w123_1), (2, .int r_32), (3, .int r_32), (4, .int 0)] := lv_sub hl [1, 2, 3, 4, 0] rfl
                    refine lv_iload C.1 C.2.1 dX12_jobs_221 (lv_at hl 4 rfl) ?_
                    refine lv_if_eq (tgt := 233) C.1 C.2.1 dX12_jobs_223 (by decide) (fun _ => ?_) (fun h => absurd (by decide) h)
                    refine lv_iload C.1 C.2.1 dX12_jobs_233 (lv_at hl 4 rfl) ?_
                    refine lv_if_eq (tgt := 244) C.1 C.2.1 dX12_jobs_235 (by decide) (fun _ => ?_) (fun h => absurd (by decide) h)
                    refine lv_iload_n C.1 C.2.1 dX12_jobs_244 rfl (lv_at hl 3 rfl) ?_
                    refine lv_istore_n (lv' := [(1, .int r_32), (0, .ref (ad 0)), (2, .int r_32), (3, .int r_32), (4, .int 0)]) C.1 C.2.1 dX12_jobs_245 rfl hl (by decide) rfl (fun ls hl => ?_)
                    have hl : lv_has ls 5 [(0, .ref (ad 0)), (1, .int r_32), (2, .int r_32), (3, .int r_32), (4, .int 0)] := lv_sub hl [1, 0, 2, 3, 4] rfl
                    refine lv_goto (tgt := 123) C.1 C.2.1 dX12_jobs_246 (by decide) ?_
                    exact ih_123 t_31 r_32 _ _ _ hok hfr ⟨by omega, (i_rng _).2⟩ (show (0 : Int) ≤ ((t_31.1 0 0) : Int32).toInt ∧ ((t_31.1 0 0) : Int32).toInt ≤ 0 from ⟨by omega, by omega⟩) (show (0 : Int) ≤ ((t_31.1 0 2) : Int32).toInt ∧ ((t_31.1 0 2) : Int32).toInt ≤ 0 from ⟨by omega, by omega⟩) (show lnS (t_31.1 0 77).toInt (t_31.2.2.1 37) (t_31.2.2.1 38) from by first | exact hi80_0 | exact lnS_cg hn0 (by omega) e_43 e_44) (show 0 ≤ r_32.toInt from by omega) (show r_32.toInt ≤ (t_31.1 0 77).toInt from by omega) (show 3 * (t_31.1 0 83).toInt ≤ r_32.toInt from by omega) (show (t_31.1 0 2).toInt = 0 from by omega) (show (1300 - r_32.toInt) < (fuel_123 : Int) from by omega) hP hD hS (lv_sub hl [0, 1] rfl)
                  · replace c_84 : ¬ r_80.toInt = 0 := i_ne c_84
                    refine lv_iconst (v := 1) C.1 C.2.1 dX12_jobs_214 (by decide) ?_
                    refine lv_goto (tgt := 219) C.1 C.2.1 dX12_jobs_215 (by decide) ?_
                    refine lv_istore (lv' := [(4, .int 1), (0, .ref (ad 0)), (1, .int w123_1), (2, .int r_32), (3, .int r_32)]) C.1 C.2.1 dX12_jobs_219 hl (by decide) rfl (fun ls hl => ?_)
                    have hl : lv_has ls 5 [(0, .ref (ad 0)), (1, .int w123_1), (2, .int r_32), (3, .int r_32), (4, .int 1)] := lv_sub hl [1, 2, 3, 4, 0] rfl
                    refine lv_iload C.1 C.2.1 dX12_jobs_221 (lv_at hl 4 rfl) ?_
                    refine lv_if_eq (tgt := 233) C.1 C.2.1 dX12_jobs_223 (by decide) (fun h => absurd h (by decide)) (fun _ => ?_)
                    refine lv_aload_n C.1 C.2.1 dX12_jobs_226 rfl (lv_at hl 0 rfl) ?_
                    refine lv_iload_n C.1 C.2.1 dX12_jobs_227 rfl (lv_at hl 1 rfl) ?_
                    refine lv_iload_n C.1 C.2.1 dX12_jobs_228 rfl (lv_at hl 2 rfl) ?_
                    refine lv_iload_n C.1 C.2.1 dX12_jobs_229 rfl (lv_at hl 3 rfl) ?_
                    refine g_Vv (As := [.int w123_1, .int r_32, .int r_32]) (rest := []) C hP hD hS hA (T_X12_doJob l D K Z Y ad t_31 hok (w123_1) (show (0 : Int) ≤ (w123_1 : Int32).toInt ∧ (w123_1 : Int32).toInt ≤ 1280 from ⟨by omega, by omega⟩) (r_32) (show (1 : Int) ≤ (r_32 : Int32).toInt ∧ (r_32 : Int32).toInt ≤ 1280 from ⟨by omega, by omega⟩) (r_32) (show (1 : Int) ≤ (r_32 : Int32).toInt ∧ (r_32 : Int32).toInt ≤ 1280 from ⟨by omega, by omega⟩) (show (t_31.1 0 78).toInt = 6 from by omega) (show (t_31.1 0 83).toInt ≤ 426 from by omega) (show w123_1.toInt < r_32.toInt from by omega) (show r_32.toInt < r_32.toInt from by omega) (show r_32.toInt < (t_31.1 0 77).toInt from by omega) (show lnS (t_31.1 0 77).toInt (t_31.2.2.1 37) (t_31.2.2.1 38) from lnS_cg hn0 (by omega) e_43 e_44)) hE hZ (uwV m_79_21 m_79_22 m_79_23 m_1_5 m_80_0) (hdV 3 (by decide +kernel) rfl) ⟨Nat.le_of_ble_eq_true rfl, Nat.le_of_ble_eq_true rfl⟩ rfl rfl (ci := 11) (q0 := 0) rfl rfl rfl hl.1 (Nat.le_of_ble_eq_true rfl) dX12_jobs_230 ⟨Nat.le_of_ble_eq_true rfl, Nat.le_of_ble_eq_true rfl⟩ (fun t_85 H locs hw hP hD hS => ?_)
                    obtain ⟨hok, f_87, p_88, p_89⟩ := hw
                    have hfr : frA [(0, 0), (0, 2), (0, 5), (0, 6), (0, 7), (0, 9), (0, 10), (0, 11), (0, 12), (0, 14), (0, 15), (0, 16), (0, 17), (0, 18), (0, 30), (0, 31), (0, 35), (0, 36), (0, 38), (0, 41), (0, 42), (0, 43), (0, 44), (0, 45), (0, 46), (0, 47), (0, 48), (0, 51), (0, 52), (0, 60), (0, 67), (0, 68), (0, 69), (0, 70), (0, 71), (0, 72), (0, 73), (0, 77), (0, 78), (0, 79), (0, 80), (0, 81), (0, 82), (0, 83), (0, 88), (0, 90), (0, 91), (0, 93)] [(0, 8), (0, 13)] [2, 3, 5, 7, 8, 9, 10, 11, 12, 13, 14, 15, 16, 17, 18, 19, 20, 21, 22, 24, 25, 26, 27, 28, 29, 30, 31, 32, 33, 34, 35, 36, 37, 38, 39, 40, 41, 42, 43, 44] [4, 6, 23] t t_85 := frA_tr hfr f_87 rfl
                    have h_90 : (t_85.1 0 0).toInt = (t_31.1 0 0).toInt := ti_eq (f_87.1 0 0 rfl)
                    have h_91 : (t_85.1 0 2).toInt = (t_31.1 0 2).toInt := ti_eq (f_87.1 0 2 rfl)
                    have h_92 : (t_85.1 0 77).toInt = (t_31.1 0 77).toInt := ti_eq (f_87.1 0 77 rfl)
                    have e_93 : t_85.2.2.1 37 = t1.2.2.1 37 := (f_87.2.2.1 37 rfl).trans (e_43)
                    have e_94 : t_85.2.2.1 38 = t1.2.2.1 38 := (f_87.2.2.1 38 rfl).trans (e_44)
                    have h_95 : (0 : Int) ≤ (t_85.1 0 78).toInt ∧ (t_85.1 0 78).toInt ≤ 6 := hok.1 0 78
                    have h_96 : (0 : Int) ≤ (t_85.1 0 83).toInt ∧ (t_85.1 0 83).toInt ≤ 427 := hok.1 0 83
                    replace p_88 : (t_85.1 0 83).toInt = (t_31.1 0 83).toInt + 1 := p_88
                    replace p_89 : (t_85.1 0 78).toInt = 6 := p_89
                    refine lv_iload C.1 C.2.1 dX12_jobs_233 (lv_at hl 4 rfl) ?_
                    refine lv_if_eq (tgt := 244) C.1 C.2.1 dX12_jobs_235 (by decide) (fun h => absurd h (by decide)) (fun _ => ?_)
                    refine lv_iload_n C.1 C.2.1 dX12_jobs_238 rfl (lv_at hl 3 rfl) ?_
                    refine lv_iconst (v := 1) C.1 C.2.1 dX12_jobs_239 (by decide) ?_
                    obtain ⟨v_97, e_98⟩ : ∃ z, z = (r_32 : Int32) + (1 : Int32) := ⟨_, rfl⟩
                    have h_99 : v_97.toInt = r_32.toInt + 1 := by rw [e_98]; exact ti_iadd (by show (_ : Int) ≤ r_32.toInt + 1; omega) (by show r_32.toInt + 1 < (_ : Int); omega)
                    refine k_iadd (v := v_97) C e_98.symm dX12_jobs_240 ?_
                    refine lv_goto (tgt := 245) C.1 C.2.1 dX12_jobs_241 (by decide) ?_
                    refine lv_istore_n (lv' := [(1, .int v_97), (0, .ref (ad 0)), (2, .int r_32), (3, .int r_32), (4, .int 1)]) C.1 C.2.1 dX12_jobs_245 rfl hl (by decide) rfl (fun ls hl => ?_)
                    have hl : lv_has ls 5 [(0, .ref (ad 0)), (1, .int v_97), (2, .int r_32), (3, .int r_32), (4, .int 1)] := lv_sub hl [1, 0, 2, 3, 4] rfl
                    refine lv_goto (tgt := 123) C.1 C.2.1 dX12_jobs_246 (by decide) ?_
                    exact ih_123 t_85 v_97 _ _ _ hok hfr ⟨by omega, (i_rng _).2⟩ (show (0 : Int) ≤ ((t_85.1 0 0) : Int32).toInt ∧ ((t_85.1 0 0) : Int32).toInt ≤ 0 from ⟨by omega, by omega⟩) (show (0 : Int) ≤ ((t_85.1 0 2) : Int32).toInt ∧ ((t_85.1 0 2) : Int32).toInt ≤ 0 from ⟨by omega, by omega⟩) (show lnS (t_85.1 0 77).toInt (t_85.2.2.1 37) (t_85.2.2.1 38) from by first | exact hi80_0 | exact lnS_cg hn0 (by omega) e_93 e_94) (show 0 ≤ v_97.toInt from by omega) (show v_97.toInt ≤ (t_85.1 0 77).toInt from by omega) (show 3 * (t_85.1 0 83).toInt ≤ v_97.toInt from by omega) (show (t_85.1 0 2).toInt = 0 from by omega) (show (1300 - v_97.toInt) < (fuel_123 : Int) from by omega) hP hD hS (lv_sub hl [0, 1] rfl)
            · replace c_76 : ¬ r_72.toInt = 0 := i_ne c_76
              refine lv_aload_n C.1 C.2.1 dX12_jobs_175 rfl (lv_at hl 0 rfl) ?_
              refine lv_iload_n C.1 C.2.1 dX12_jobs_176 rfl (lv_at hl 2 rfl) ?_
              refine lv_iconst (v := 1) C.1 C.2.1 dX12_jobs_177 (by decide) ?_
              obtain ⟨v_100, e_101⟩ : ∃ z, z = (r_32 : Int32) + (1 : Int32) := ⟨_, rfl⟩
              have h_102 : v_100.toInt = r_32.toInt + 1 := by rw [e_101]; exact ti_iadd (by show (_ : Int) ≤ r_32.toInt + 1; omega) (by show r_32.toInt + 1 < (_ : Int); omega)
              refine k_iadd (v := v_100) C e_101.symm dX12_jobs_178 ?_
              refine va_ldcwS C.1 C.2.1 C.2.2.2.1 (hE.2 32 (by decide)) dX12_jobs_179 ?_
              refine g_Vi (As := [.int v_100, .ref (Z 32)]) (rest := []) C hP hD hS hA (T_X12_search l D K Z Y ad t_31 hok (v_100) (show (1 : Int) ≤ (v_100 : Int32).toInt ∧ (v_100 : Int32).toInt ≤ 1281 from ⟨by omega, by omega⟩) (32) (show sS 32 from ⟨by decide, by decide, by decide⟩) (show v_100.toInt ≤ 1280 from by omega)) hE hZ (uwV m_79_17 m_79_18 m_79_19 m_1_5 m_79_20) (hdV 2 (by decide +kernel) rfl) ⟨Nat.le_of_ble_eq_true rfl, Nat.le_of_ble_eq_true rfl⟩ rfl rfl (ci := 11) (q0 := 0) rfl rfl rfl hl.1 (Nat.le_of_ble_eq_true rfl) dX12_jobs_182 ⟨Nat.le_of_ble_eq_true rfl, Nat.le_of_ble_eq_true rfl⟩ (fun r_104 t_103 H locs hw hP hD hS => ?_)
              obtain ⟨hok, f_105, h_106, h_107, p_108, p_109, p_110⟩ := hw
              have hfr : frA [(0, 0), (0, 2), (0, 5), (0, 6), (0, 7), (0, 9), (0, 10), (0, 11), (0, 12), (0, 14), (0, 15), (0, 16), (0, 17), (0, 18), (0, 30), (0, 31), (0, 35), (0, 36), (0, 38), (0, 41), (0, 42), (0, 43), (0, 44), (0, 45), (0, 46), (0, 47), (0, 48), (0, 51), (0, 52), (0, 60), (0, 67), (0, 68), (0, 69), (0, 70), (0, 71), (0, 72), (0, 73), (0, 77), (0, 78), (0, 79), (0, 80), (0, 81), (0, 82), (0, 83), (0, 88), (0, 90), (0, 91), (0, 93)] [(0, 8), (0, 13)] [2, 3, 5, 7, 8, 9, 10, 11, 12, 13, 14, 15, 16, 17, 18, 19, 20, 21, 22, 24, 25, 26, 27, 28, 29, 30, 31, 32, 33, 34, 35, 36, 37, 38, 39, 40, 41, 42, 43, 44] [4, 6, 23] t t_103 := frA_tr hfr f_105 rfl
              have h_111 : (t_103.1 0 0).toInt = (t_31.1 0 0).toInt := ti_eq (f_105.1 0 0 rfl)
              have h_112 : (t_103.1 0 2).toInt = (t_31.1 0 2).toInt := ti_eq (f_105.1 0 2 rfl)
              have h_113 : (t_103.1 0 77).toInt = (t_31.1 0 77).toInt := ti_eq (f_105.1 0 77 rfl)
              have h_114 : (t_103.1 0 83).toInt = (t_31.1 0 83).toInt := ti_eq (f_105.1 0 83 rfl)
              have e_115 : t_103.2.2.1 37 = t1.2.2.1 37 := (f_105.2.2.1 37 rfl).trans (e_43)
              have e_116 : t_103.2.2.1 38 = t1.2.2.1 38 := (f_105.2.2.1 38 rfl).trans (e_44)
              have h_117 : (0 : Int) ≤ (t_103.1 0 78).toInt ∧ (t_103.1 0 78).toInt ≤ 6 := hok.1 0 78
              have h_118 : (0 : Int) ≤ (t_103.1 0 83).toInt ∧ (t_103.1 0 83).toInt ≤ 427 := hok.1 0 83
              replace p_108 : v_100.toInt ≤ r_104.toInt := p_108
              replace p_109 : r_104.toInt ≤ (t_31.1 0 77).toInt ∨ r_104.toInt = v_100.toInt := p_109
              replace p_110 : (t_31.1 0 78).toInt = 6 → (t_103.1 0 78).toInt = 6 := p_110
              refine lv_goto (tgt := 189) C.1 C.2.1 dX12_jobs_185 (by decide) ?_
              refine lv_istore_n (lv' := [(3, .int r_104), (0, .ref (ad 0)), (1, .int w123_1), (2, .int r_32)]) C.1 C.2.1 dX12_jobs_189 rfl hl (by decide) rfl (fun ls hl => ?_)
              have hl : lv_has ls 5 [(0, .ref (ad 0)), (1, .int w123_1), (2, .int r_32), (3, .int r_104)] := lv_sub hl [1, 2, 3, 0] rfl
              refine lv_iload_n C.1 C.2.1 dX12_jobs_190 rfl (lv_at hl 3 rfl) ?_
              refine lv_iload_n C.1 C.2.1 dX12_jobs_191 rfl (lv_at hl 2 rfl) ?_
              refine lv_icmp_le (tgt := 218) C.1 C.2.1 dX12_jobs_192 (by decide) (fun c_119 => ?_) (fun c_119 => ?_)
              · replace c_119 : r_104.toInt ≤ r_32.toInt := i_le c_119
                refine lv_iconst (v := 0) C.1 C.2.1 dX12_jobs_218 (by decide) ?_
                refine lv_istore (lv' := [(4, .int 0), (0, .ref (ad 0)), (1, .int w123_1), (2, .int r_32), (3, .int r_104)]) C.1 C.2.1 dX12_jobs_219 hl (by decide) rfl (fun ls hl => ?_)
                have hl : lv_has ls 5 [(0, .ref (ad 0)), (1, .int w123_1), (2, .int r_32), (3, .int r_104), (4, .int 0)] := lv_sub hl [1, 2, 3, 4, 0] rfl
                refine lv_iload C.1 C.2.1 dX12_jobs_221 (lv_at hl 4 rfl) ?_
                refine lv_if_eq (tgt := 233) C.1 C.2.1 dX12_jobs_223 (by decide) (fun _ => ?_) (fun h => absurd (by decide) h)
                refine lv_iload C.1 C.2.1 dX12_jobs_233 (lv_at hl 4 rfl) ?_
                refine lv_if_eq (tgt := 244) C.1 C.2.1 dX12_jobs_235 (by decide) (fun _ => ?_) (fun h => absurd (by decide) h)
                refine lv_iload_n C.1 C.2.1 dX12_jobs_244 rfl (lv_at hl 3 rfl) ?_
                refine lv_istore_n (lv' := [(1, .int r_104), (0, .ref (ad 0)), (2, .int r_32), (3, .int r_104), (4, .int 0)]) C.1 C.2.1 dX12_jobs_245 rfl hl (by decide) rfl (fun ls hl => ?_)
                have hl : lv_has ls 5 [(0, .ref (ad 0)), (1, .int r_104), (2, .int r_32), (3, .int r_104), (4, .int 0)] := lv_sub hl [1, 0, 2, 3, 4] rfl
                refine lv_goto (tgt := 123) C.1 C.2.1 dX12_jobs_246 (by decide) ?_
                exact ih_123 t_103 r_104 _ _ _ hok hfr ⟨by omega, (i_rng _).2⟩ (show (0 : Int) ≤ ((t_103.1 0 0) : Int32).toInt ∧ ((t_103.1 0 0) : Int32).toInt ≤ 0 from ⟨by omega, by omega⟩) (show (0 : Int) ≤ ((t_103.1 0 2) : Int32).toInt ∧ ((t_103.1 0 2) : Int32).toInt ≤ 0 from ⟨by omega, by omega⟩) (show lnS (t_103.1 0 77).toInt (t_103.2.2.1 37) (t_103.2.2.1 38) from by first | exact hi80_0 | exact lnS_cg hn0 (by omega) e_115 e_116) (show 0 ≤ r_104.toInt from by omega) (show r_104.toInt ≤ (t_103.1 0 77).toInt from by omega) (show 3 * (t_103.1 0 83).toInt ≤ r_104.toInt from by omega) (show (t_103.1 0 2).toInt = 0 from by omega) (show (1300 - r_104.toInt) < (fuel_123 : Int) from by omega) hP hD hS (lv_sub hl [0, 1] rfl)
              · replace c_119 : r_32.toInt < r_104.toInt := i_nle c_119
                refine lv_iload_n C.1 C.2.1 dX12_jobs_195 rfl (lv_at hl 3 rfl) ?_
                refine lv_aload_n C.1 C.2.1 dX12_jobs_196 rfl (lv_at hl 0 rfl) ?_
                refine k_get (v := .int (t_103.1 0 77)) C hP 0 rfl rfl inlX12 77 (by decide) m_78_14 rfl dX12_jobs_197 ?_
                refine lv_icmp_ge (tgt := 218) C.1 C.2.1 dX12_jobs_200 (by decide) (fun c_120 => ?_) (fun c_120 => ?_)
                · replace c_120 : (t_103.1 0 77).toInt ≤ r_104.toInt := i_le c_120
                  refine lv_iconst (v := 0) C.1 C.2.1 dX12_jobs_218 (by decide) ?_
                  refine lv_istore (lv' := [(4, .int 0), (0, .ref (ad 0)), (1, .int w123_1), (2, .int r_32), (3, .int r_104)]) C.1 C.2.1 dX12_jobs_219 hl (by decide) rfl (fun ls hl => ?_)
                  have hl : lv_has ls 5 [(0, .ref (ad 0)), (1, .int w123_1), (2, .int r_32), (3, .int r_104), (4, .int 0)] := lv_sub hl [1, 2, 3, 4, 0] rfl
                  refine lv_iload C.1 C.2.1 dX12_jobs_221 (lv_at hl 4 rfl) ?_
                  refine lv_if_eq (tgt := 233) C.1 C.2.1 dX12_jobs_223 (by decide) (fun _ => ?_) (fun h => absurd (by decide) h)
                  refine lv_iload C.1 C.2.1 dX12_jobs_233 (lv_at hl 4 rfl) ?_
                  refine lv_if_eq (tgt := 244) C.1 C.2.1 dX12_jobs_235 (by decide) (fun _ => ?_) (fun h => absurd (by decide) h)
                  refine lv_iload_n C.1 C.2.1 dX12_jobs_244 rfl (lv_at hl 3 rfl) ?_
                  refine lv_istore_n (lv' := [(1, .int r_104), (0, .ref (ad 0)), (2, .int r_32), (3, .int r_104), (4, .int 0)]) C.1 C.2.1 dX12_jobs_245 rfl hl (by decide) rfl (fun ls hl => ?_)
                  have hl : lv_has ls 5 [(0, .ref (ad 0)), (1, .int r_104), (2, .int r_32), (3, .int r_104), (4, .int 0)] := lv_sub hl [1, 0, 2, 3, 4] rfl
                  refine lv_goto (tgt := 123) C.1 C.2.1 dX12_jobs_246 (by decide) ?_
                  exact ih_123 t_103 r_104 _ _ _ hok hfr ⟨by omega, (i_rng _).2⟩ (show (0 : Int) ≤ ((t_103.1 0 0) : Int32).toInt ∧ ((t_103.1 0 0) : Int32).toInt ≤ 0 from ⟨by omega, by omega⟩) (show (0 : Int) ≤ ((t_103.1 0 2) : Int32).toInt ∧ ((t_103.1 0 2) : Int32).toInt ≤ 0 from ⟨by omega, by omega⟩) (show lnS (t_103.1 0 77).toInt (t_103.2.2.1 37) (t_103.2.2.1 38) from by first | exact hi80_0 | exact lnS_cg hn0 (by omega) e_115 e_116) (show 0 ≤ r_104.toInt from by omega) (show r_104.toInt ≤ (t_103.1 0 77).toInt from by omega) (show 3 * (t_103.1 0 83).toInt ≤ r_104.toInt from by omega) (show (t_103.1 0 2).toInt = 0 from by omega) (show (1300 - r_104.toInt) < (fuel_123 : Int) from by omega) hP hD hS (lv_sub hl [0, 1] rfl)
                · replace c_120 : r_104.toInt < (t_103.1 0 77).toInt := i_nle c_120
                  refine lv_aload_n C.1 C.2.1 dX12_jobs_203 rfl (lv_at hl 0 rfl) ?_
                  refine lv_iload_n C.1 C.2.1 dX12_jobs_204 rfl (lv_at hl 3 rfl) ?_
                  refine va_ldcwS C.1 C.2.1 C.2.2.2.1 (hE.2 32 (by decide)) dX12_jobs_205 ?_
                  refine g_Vi (As := [.int r_104, .ref (Z 32)]) (rest := []) C hP hD hS hA (T_X12_isWord l D K Z Y ad t_103 hok (r_104) (show (0 : Int) ≤ (r_104 : Int32).toInt ∧ (r_104 : Int32).toInt ≤ 1280 from ⟨by omega, by omega⟩) (32) (show sS 32 from ⟨by decide, by decide, by decide⟩)) hE hZ (uwV m_79_1 m_79_2 m_79_3 m_1_5 m_79_4) (hdV 2 (by decide +kernel) rfl) ⟨Nat.le_of_ble_eq_true rfl, Nat.le_of_ble_eq_true rfl⟩ rfl rfl (ci := 11) (q0 := 0) rfl rfl rfl hl.1 (Nat.le_of_ble_eq_true rfl) dX12_jobs_208 ⟨Nat.le_of_ble_eq_true rfl, Nat.le_of_ble_eq_true rfl⟩ (fun r_122 t_121 H locs hw hP hD hS => ?_)
                  obtain ⟨h_124, h_125⟩ := hw
                  refine lv_if_eq (tgt := 218) C.1 C.2.1 dX12_jobs_211 (by decide) (fun c_126 => ?_) (fun c_126 => ?_)
                  · replace c_126 : r_122.toInt = 0 := i_eq c_126
                    refine lv_iconst (v := 0) C.1 C.2.1 dX12_jobs_218 (by decide) ?_
                    refine lv_istore (lv' := [(4, .int 0), (0, .ref (ad 0)), (1, .int w123_1), (2, .int r_32), (3, .int r_104)]) C.1 C.2.1 dX12_jobs_219 hl (by decide) rfl (fun ls hl => ?_)
                    have hl : lv_has ls 5 [(0, .ref (ad 0)), (1, .int w123_1), (2, .int r_32), (3, .int r_104), (4, .int 0)] := lv_sub hl [1, 2, 3, 4, 0] rfl
                    refine lv_iload C.1 C.2.1 dX12_jobs_221 (lv_at hl 4 rfl) ?_
                    refine lv_if_eq (tgt := 233) C.1 C.2.1 dX12_jobs_223 (by decide) (fun _ => ?_) (fun h => absurd (by decide) h)
                    refine lv_iload C.1 C.2.1 dX12_jobs_233 (lv_at hl 4 rfl) ?_
                    refine lv_if_eq (tgt := 244) C.1 C.2.1 dX12_jobs_235 (by decide) (fun _ => ?_) (fun h => absurd (by decide) h)
                    refine lv_iload_n C.1 C.2.1 dX12_jobs_244 rfl (lv_at hl 3 rfl) ?_
                    refine lv_istore_n (lv' := [(1, .int r_104), (0, .ref (ad 0)), (2, .int r_32), (3, .int r_104), (4, .int 0)]) C.1 C.2.1 dX12_jobs_245 rfl hl (by decide) rfl (fun ls hl => ?_)
                    have hl : lv_has ls 5 [(0, .ref (ad 0)), (1, .int r_104), (2, .int r_32), (3, .int r_104), (4, .int 0)] := lv_sub hl [1, 0, 2, 3, 4] rfl
                    refine lv_goto (tgt := 123) C.1 C.2.1 dX12_jobs_246 (by decide) ?_
                    exact ih_123 t_103 r_104 _ _ _ hok hfr ⟨by omega, (i_rng _).2⟩ (show (0 : Int) ≤ ((t_103.1 0 0) : Int32).toInt ∧ ((t_103.1 0 0) : Int32).toInt ≤ 0 from ⟨by omega, by omega⟩) (show (0 : Int) ≤ ((t_103.1 0 2) : Int32).toInt ∧ ((t_103.1 0 2) : Int32).toInt ≤ 0 from ⟨by omega, by omega⟩) (show lnS (t_103.1 0 77).toInt (t_103.2.2.1 37) (t_103.2.2.1 38) from by first | exact hi80_0 | exact lnS_cg hn0 (by omega) e_115 e_116) (show 0 ≤ r_104.toInt from by omega) (show r_104.toInt ≤ (t_103.1 0 77).toInt from by omega) (show 3 * (t_103.1 0 83).toInt ≤ r_104.toInt from by omega) (show (t_103.1 0 2).toInt = 0 from by omega) (show (1300 - r_104.toInt) < (fuel_123 : Int) from by omega) hP hD hS (lv_sub hl [0, 1] rfl)
                  · replace c_126 : ¬ r_122.toInt = 0 := i_ne c_126
                    refine lv_iconst (v := 1) C.1 C.2.1 dX12_jobs_214 (by decide) ?_
                    refine lv_goto (tgt := 219) C.1 C.2.1 dX12_jobs_215 (by decide) ?_
                    refine lv_istore (lv' := [(4, .int 1), (0, .ref (ad 0)), (1, .int w123_1), (2, .int r_32), (3, .int r_104)]) C.1 C.2.1 dX12_jobs_219 hl (by decide) rfl (fun ls hl => ?_)
                    have hl : lv_has ls 5 [(0, .ref (ad 0)), (1, .int w123_1), (2, .int r_32), (3, .int r_104), (4, .int 1)] := lv_sub hl [1, 2, 3, 4, 0] rfl
                    refine lv_iload C.1 C.2.1 dX12_jobs_221 (lv_at hl 4 rfl) ?_
                    refine lv_if_eq (tgt := 233) C.1 C.2.1 dX12_jobs_223 (by decide) (fun h => absurd h (by decide)) (fun _ => ?_)
                    refine lv_aload_n C.1 C.2.1 dX12_jobs_226 rfl (lv_at hl 0 rfl) ?_
                    refine lv_iload_n C.1 C.2.1 dX12_jobs_227 rfl (lv_at hl 1 rfl) ?_
                    refine lv_iload_n C.1 C.2.1 dX12_jobs_228 rfl (lv_at hl 2 rfl) ?_
                    refine lv_iload_n C.1 C.2.1 dX12_jobs_229 rfl (lv_at hl 3 rfl) ?_
                    refine g_Vv (As := [.int w123_1, .int r_32, .int r_104]) (rest := []) C hP hD hS hA (T_X12_doJob l D K Z Y ad t_103 hok (w123_1) (show (0 : Int) ≤ (w123_1 : Int32).toInt ∧ (w123_1 : Int32).toInt ≤ 1280 from ⟨by omega, by omega⟩) (r_32) (show (1 : Int) ≤ (r_32 : Int32).toInt ∧ (r_32 : Int32).toInt ≤ 1280 from ⟨by omega, by omega⟩) (r_104) (show (1 : Int) ≤ (r_104 : Int32).toInt ∧ (r_104 : Int32).toInt ≤ 1280 from ⟨by omega, by omega⟩) (show (t_103.1 0 78).toInt = 6 from by omega) (show (t_103.1 0 83).toInt ≤ 426 from by omega) (show w123_1.toInt < r_32.toInt from by omega) (show r_32.toInt < r_104.toInt from by omega) (show r_104.toInt < (t_103.1 0 77).toInt from by omega) (show lnS (t_103.1 0 77).toInt (t_103.2.2.1 37) (t_103.2.2.1 38) from lnS_cg hn0 (by omega) e_115 e_116)) hE hZ (uwV m_79_21 m_79_22 m_79_23 m_1_5 m_80_0) (hdV 3 (by decide +kernel) rfl) ⟨Nat.le_of_ble_eq_true rfl, Nat.le_of_ble_eq_true rfl⟩ rfl rfl (ci := 11) (q0 := 0) rfl rfl rfl hl.1 (Nat.le_of_ble_eq_true rfl) dX12_jobs_230 ⟨Nat.le_of_ble_eq_true rfl, Nat.le_of_ble_eq_true rfl⟩ (fun t_127 H locs hw hP hD hS => ?_)
                    obtain ⟨hok, f_129, p_130, p_131⟩ := hw
                    have hfr : frA [(0, 0), (0, 2), (0, 5), (0, 6), (0, 7), (0, 9), (0, 10), (0, 11), (0, 12), (0, 14), (0, 15), (0, 16), (0, 17), (0, 18), (0, 30), (0, 31), (0, 35), (0, 36), (0, 38), (0, 41), (0, 42), (0, 43), (0, 44), (0, 45), (0, 46), (0, 47), (0, 48), (0, 51), (0, 52), (0, 60), (0, 67), (0, 68), (0, 69), (0, 70), (0, 71), (0, 72), (0, 73), (0, 77), (0, 78), (0, 79), (0, 80), (0, 81), (0, 82), (0, 83), (0, 88), (0, 90), (0, 91), (0, 93)] [(0, 8), (0, 13)] [2, 3, 5, 7, 8, 9, 10, 11, 12, 13, 14, 15, 16, 17, 18, 19, 20, 21, 22, 24, 25, 26, 27, 28, 29, 30, 31, 32, 33, 34, 35, 36, 37, 38, 39, 40, 41, 42, 43, 44] [4, 6, 23] t t_127 := frA_tr hfr f_129 rfl
                    have h_132 : (t_127.1 0 0).toInt = (t_103.1 0 0).toInt := ti_eq (f_129.1 0 0 rfl)
                    have h_133 : (t_127.1 0 2).toInt = (t_103.1 0 2).toInt := ti_eq (f_129.1 0 2 rfl)
                    have h_134 : (t_127.1 0 77).toInt = (t_103.1 0 77).toInt := ti_eq (f_129.1 0 77 rfl)
                    have e_135 : t_127.2.2.1 37 = t1.2.2.1 37 := (f_129.2.2.1 37 rfl).trans (e_115)
                    have e_136 : t_127.2.2.1 38 = t1.2.2.1 38 := (f_129.2.2.1 38 rfl).trans (e_116)
                    have h_137 : (0 : Int) ≤ (t_127.1 0 78).toInt ∧ (t_127.1 0 78).toInt ≤ 6 := hok.1 0 78
                    have h_138 : (0 : Int) ≤ (t_127.1 0 83).toInt ∧ (t_127.1 0 83).toInt ≤ 427 := hok.1 0 83
                    replace p_130 : (t_127.1 0 83).toInt = (t_103.1 0 83).toInt + 1 := p_130
                    replace p_131 : (t_127.1 0 78).toInt = 6 := p_131
                    refine lv_iload C.1 C.2.1 dX12_jobs_233 (lv_at hl 4 rfl) ?_
                    refine lv_if_eq (tgt := 244) C.1 C.2.1 dX12_jobs_235 (by decide) (fun h => absurd h (by decide)) (fun _ => ?_)
                    refine lv_iload_n C.1 C.2.1 dX12_jobs_238 rfl (lv_at hl 3 rfl) ?_
                    refine lv_iconst (v := 1) C.1 C.2.1 dX12_jobs_239 (by decide) ?_
                    obtain ⟨v_139, e_140⟩ : ∃ z, z = (r_104 : Int32) + (1 : Int32) := ⟨_, rfl⟩
                    have h_141 : v_139.toInt = r_104.toInt + 1 := by rw [e_140]; exact ti_iadd (by show (_ : Int) ≤ r_104.toInt + 1; omega) (by show r_104.toInt + 1 < (_ : Int); omega)
                    refine k_iadd (v := v_139) C e_140.symm dX12_jobs_240 ?_
                    refine lv_goto (tgt := 245) C.1 C.2.1 dX12_jobs_241 (by decide) ?_
                    refine lv_istore_n (lv' := [(1, .int v_139), (0, .ref (ad 0)), (2, .int r_32), (3, .int r_104), (4, .int 1)]) C.1 C.2.1 dX12_jobs_245 rfl hl (by decide) rfl (fun ls hl => ?_)
                    have hl : lv_has ls 5 [(0, .ref (ad 0)), (1, .int v_139), (2, .int r_32), (3, .int r_104), (4, .int 1)] := lv_sub hl [1, 0, 2, 3, 4] rfl
                    refine lv_goto (tgt := 123) C.1 C.2.1 dX12_jobs_246 (by decide) ?_
                    exact ih_123 t_127 v_139 _ _ _ hok hfr ⟨by omega, (i_rng _).2⟩ (show (0 : Int) ≤ ((t_127.1 0 0) : Int32).toInt ∧ ((t_127.1 0 0) : Int32).toInt ≤ 0 from ⟨by omega, by omega⟩) (show (0 : Int) ≤ ((t_127.1 0 2) : Int32).toInt ∧ ((t_127.1 0 2) : Int32).toInt ≤ 0 from ⟨by omega, by omega⟩) (show lnS (t_127.1 0 77).toInt (t_127.2.2.1 37) (t_127.2.2.1 38) from by first | exact hi80_0 | exact lnS_cg hn0 (by omega) e_135 e_136) (show 0 ≤ v_139.toInt from by omega) (show v_139.toInt ≤ (t_127.1 0 77).toInt from by omega) (show 3 * (t_127.1 0 83).toInt ≤ v_139.toInt from by omega) (show (t_127.1 0 2).toInt = 0 from by omega) (show (1300 - v_139.toInt) < (fuel_123 : Int) from by omega) hP hD hS (lv_sub hl [0, 1] rfl)
        · replace c_27 : r_13.toInt = 0 := i_eq c_27
          obtain ⟨v_142, e_143⟩ : ∃ z, z = w123_1 + 1 := ⟨_, rfl⟩
          have h_144 : v_142.toInt = w123_1.toInt + 1 := by rw [e_143]; exact ti_iadd (by show (_ : Int) ≤ w123_1.toInt + 1; omega) (by show w123_1.toInt + 1 < (_ : Int); omega)
          refine lv_iinc (v := v_142) (lv' := [(1, .int v_142), (0, .ref (ad 0))]) C.1 C.2.1 dX12_jobs_139 hl (k := 1) rfl e_143.symm (by decide) rfl (fun ls hl => ?_)
          have hl : lv_has ls 5 [(0, .ref (ad 0)), (1, .int v_142)] := lv_sub hl [1, 0] rfl
          refine lv_goto (tgt := 123) C.1 C.2.1 dX12_jobs_142 (by decide) ?_
          exact ih_123 t_12 v_142 _ _ _ hok hfr ⟨by omega, (i_rng _).2⟩ (show (0 : Int) ≤ ((t_12.1 0 0) : Int32).toInt ∧ ((t_12.1 0 0) : Int32).toInt ≤ 0 from ⟨by omega, by omega⟩) (show (0 : Int) ≤ ((t_12.1 0 2) : Int32).toInt ∧ ((t_12.1 0 2) : Int32).toInt ≤ 0 from ⟨by omega, by omega⟩) (show lnS (t_12.1 0 77).toInt (t_12.2.2.1 37) (t_12.2.2.1 38) from by first | exact hi80_0 | exact lnS_cg hn0 (by omega) e_23 e_24) (show 0 ≤ v_142.toInt from by omega) (show v_142.toInt ≤ (t_12.1 0 77).toInt from by omega) (show 3 * (t_12.1 0 83).toInt ≤ v_142.toInt from by omega) (show (t_12.1 0 2).toInt = 0 from by omega) (show (1300 - v_142.toInt) < (fuel_123 : Int) from by omega) hP hD hS (lv_sub hl [0, 1] rfl)
  have L_80 : ∀ (fuel_80 : Nat) (t1 : tSt) (w80_1 : Int32) (H : Heap) (locs : List Loc) (ls : Array Slot), okM t1 → frA [(0, 0), (0, 2), (0, 5), (0, 6), (0, 7), (0, 9), (0, 10), (0, 11), (0, 12), (0, 14), (0, 15), (0, 16), (0, 17), (0, 18), (0, 30), (0, 31), (0, 35), (0, 36), (0, 38), (0, 41), (0, 42), (0, 43), (0, 44), (0, 45), (0, 46), (0, 47), (0, 48), (0, 51), (0, 52), (0, 60), (0, 67), (0, 68), (0, 69), (0, 70), (0, 71), (0, 72), (0, 73), (0, 77), (0, 78), (0, 79), (0, 80), (0, 81), (0, 82), (0, 83), (0, 88), (0, 90), (0, 91), (0, 93)] [(0, 8), (0, 13)] [2, 3, 5, 7, 8, 9, 10, 11, 12, 13, 14, 15, 16, 17, 18, 19, 20, 21, 22, 24, 25, 26, 27, 28, 29, 30, 31, 32, 33, 34, 35, 36, 37, 38, 39, 40, 41, 42, 43, 44] [4, 6, 23] t t1 → (0 : Int) ≤ w80_1.toInt ∧ w80_1.toInt ≤ 3999 → (0 : Int) ≤ (t1.1 0 0).toInt ∧ (t1.1 0 0).toInt ≤ 0 → (lnS (t1.1 0 77).toInt (t1.2.2.1 37) (t1.2.2.1 38)) → (3999 : Int) - w80_1.toInt < (fuel_80 : Int) → va_P D vwCl (WM K ad t1) H → va_D A (WM K ad t1) → va_S A s.heap H locs → lv_has ls 5 [(0, .ref (ad 0)), (1, .int w80_1)] → W p l e (rmD 21 0 0) s m [.ref (ad 0)].toArray below meth c H locs 0 0 (MQ below (QI D K (fun (r : Int32) (u : tSt) => okM u ∧ frA [(0, 0), (0, 2), (0, 5), (0, 6), (0, 7), (0, 9), (0, 10), (0, 11), (0, 12), (0, 14), (0, 15), (0, 16), (0, 17), (0, 18), (0, 30), (0, 31), (0, 35), (0, 36), (0, 38), (0, 41), (0, 42), (0, 43), (0, 44), (0, 45), (0, 46), (0, 47), (0, 48), (0, 51), (0, 52), (0, 60), (0, 67), (0, 68), (0, 69), (0, 70), (0, 71), (0, 72), (0, 73), (0, 77), (0, 78), (0, 79), (0, 80), (0, 81), (0, 82), (0, 83), (0, 88), (0, 90), (0, 91), (0, 93)] [(0, 8), (0, 13)] [2, 3, 5, 7, 8, 9, 10, 11, 12, 13, 14, 15, 16, 17, 18, 19, 20, 21, 22, 24, 25, 26, 27, 28, 29, 30, 31, 32, 33, 34, 35, 36, 37, 38, 39, 40, 41, 42, 43, 44] [4, 6, 23] t u ∧ (0 : Int) ≤ r.toInt ∧ r.toInt ≤ 511 ∧ ((u.1 0 2).toInt = 0)) (fun (u : tSt) => WM K ad u) A) [.ref (ad 0)].toArray s 0 0 A) (F0 m 80 ls []) := by
    intro fuel_80
    induction fuel_80 with
    | zero =>
      intro t1 w80_1 H locs ls hok hfr hw80_1 hf80_0 hi80_0 hm80_80 hP hD hS hl
      have h_145 : (0 : Int) ≤ (t1.1 0 2).toInt ∧ (t1.1 0 2).toInt ≤ 1280 := hok.1 0 2
      have h_146 : (0 : Int) ≤ (t1.1 0 77).toInt ∧ (t1.1 0 77).toInt ≤ 1280 := hok.1 0 77
      have h_147 : (0 : Int) ≤ (t1.1 0 78).toInt ∧ (t1.1 0 78).toInt ≤ 6 := hok.1 0 78
      have h_148 : (0 : Int) ≤ (t1.1 0 83).toInt ∧ (t1.1 0 83).toInt ≤ 427 := hok.1 0 83
      exact absurd hm80_80 (by omega)
    | succ fuel_80 ih_80 =>
      intro t1 w80_1 H locs ls hok hfr hw80_1 hf80_0 hi80_0 hm80_80 hP hD hS hl
      have hm80_80 : (3999 : Int) - w80_1.toInt < (fuel_80 : Int) + 1 := by omega
      have h_149 : (0 : Int) ≤ (t1.1 0 2).toInt ∧ (t1.1 0 2).toInt ≤ 1280 := hok.1 0 2
      have h_150 : (0 : Int) ≤ (t1.1 0 77).toInt ∧ (t1.1 0 77).toInt ≤ 1280 := hok.1 0 77
      have h_151 : (0 : Int) ≤ (t1.1 0 78).toInt ∧ (t1.1 0 78).toInt ≤ 6 := hok.1 0 78
      have h_152 : (0 : Int) ≤ (t1.1 0 83).toInt ∧ (t1.1 0 83).toInt ≤ 427 := hok.1 0 83
      refine lv_iload_n C.1 C.2.1 dX12_jobs_80 rfl (lv_at hl 1 rfl) ?_
      refine lv_aload_n C.1 C.2.1 dX12_jobs_81 rfl (lv_at hl 0 rfl) ?_
      refine k_get (v := .int (t1.1 0 2)) C hP 0 rfl rfl inlX12 2 (by decide) m_9_19 rfl dX12_jobs_82 ?_
      refine lv_icmp_ge (tgt := 106) C.1 C.2.1 dX12_jobs_85 (by decide) (fun c_153 => ?_) (fun c_153 => ?_)
      · replace c_153 : (t1.1 0 2).toInt ≤ w80_1.toInt := i_le c_153
        refine lv_aload_n C.1 C.2.1 dX12_jobs_106 rfl (lv_at hl 0 rfl) ?_
        refine lv_iconst (v := 0) C.1 C.2.1 dX12_jobs_107 (by decide) ?_
        refine k_put (ws' := WM K ad (uI t1 0 2 0)) (v := .int 0) C hP hD hS 0 rfl rfl inlX12 tyX12_ok nmX12 2 (by decide) m_9_19 rfl rfl rfl rfl rfl dX12_jobs_108 (fun H locs hP hD hS => ?_)
        have hok : okM (uI t1 0 2 0) := ⟨okI_I hok.1 0 2 0 (show (0 : Int) ≤ (0 : Int32).toInt ∧ (0 : Int32).toInt ≤ 1280 from ⟨by decide, by decide⟩), hok.2.1, hok.2.2.1, hok.2.2.2.1, hok.2.2.2.2.1, hok.2.2.2.2.2.1, hok.2.2.2.2.2.2.1, trivial⟩
        have hfr : frA [(0, 0), (0, 2), (0, 5), (0, 6), (0, 7), (0, 9), (0, 10), (0, 11), (0, 12), (0, 14), (0, 15), (0, 16), (0, 17), (0, 18), (0, 30), (0, 31), (0, 35), (0, 36), (0, 38), (0, 41), (0, 42), (0, 43), (0, 44), (0, 45), (0, 46), (0, 47), (0, 48), (0, 51), (0, 52), (0, 60), (0, 67), (0, 68), (0, 69), (0, 70), (0, 71), (0, 72), (0, 73), (0, 77), (0, 78), (0, 79), (0, 80), (0, 81), (0, 82), (0, 83), (0, 88), (0, 90), (0, 91), (0, 93)] [(0, 8), (0, 13)] [2, 3, 5, 7, 8, 9, 10, 11, 12, 13, 14, 15, 16, 17, 18, 19, 20, 21, 22, 24, 25, 26, 27, 28, 29, 30, 31, 32, 33, 34, 35, 36, 37, 38, 39, 40, 41, 42, 43, 44] [4, 6, 23] t (uI t1 0 2 0) := frA_I hfr 0 2 _ rfl
        refine lv_aload_n C.1 C.2.1 dX12_jobs_111 rfl (lv_at hl 0 rfl) ?_
        refine lv_iconst (v := 0) C.1 C.2.1 dX12_jobs_112 (by decide) ?_
        refine k_put (ws' := WM K ad (uI (uI t1 0 2 0) 0 88 0)) (v := .int 0) C hP hD hS 0 rfl rfl inlX12 tyX12_ok nmX12 88 (by decide) m_78_15 rfl (by decide) (by decide) rfl rfl dX12_jobs_113 (fun H locs hP hD hS => ?_)
        have hok : okM (uI (uI t1 0 2 0) 0 88 0) := ⟨okI_I hok.1 0 88 0 (show (0 : Int) ≤ (0 : Int32).toInt ∧ (0 : Int32).toInt ≤ 1 from ⟨by decide, by decide⟩), hok.2.1, hok.2.2.1, hok.2.2.2.1, hok.2.2.2.2.1, hok.2.2.2.2.2.1, hok.2.2.2.2.2.2.1, trivial⟩
        have hfr : frA [(0, 0), (0, 2), (0, 5), (0, 6), (0, 7), (0, 9), (0, 10), (0, 11), (0, 12), (0, 14), (0, 15), (0, 16), (0, 17), (0, 18), (0, 30), (0, 31), (0, 35), (0, 36), (0, 38), (0, 41), (0, 42), (0, 43), (0, 44), (0, 45), (0, 46), (0, 47), (0, 48), (0, 51), (0, 52), (0, 60), (0, 67), (0, 68), (0, 69), (0, 70), (0, 71), (0, 72), (0, 73), (0, 77), (0, 78), (0, 79), (0, 80), (0, 81), (0, 82), (0, 83), (0, 88), (0, 90), (0, 91), (0, 93)] [(0, 8), (0, 13)] [2, 3, 5, 7, 8, 9, 10, 11, 12, 13, 14, 15, 16, 17, 18, 19, 20, 21, 22, 24, 25, 26, 27, 28, 29, 30, 31, 32, 33, 34, 35, 36, 37, 38, 39, 40, 41, 42, 43, 44] [4, 6, 23] t (uI (uI t1 0 2 0) 0 88 0) := frA_I hfr 0 88 _ rfl
        refine lv_aload_n C.1 C.2.1 dX12_jobs_116 rfl (lv_at hl 0 rfl) ?_
        refine lv_iconst (v := 0) C.1 C.2.1 dX12_jobs_117 (by decide) ?_
        refine k_put (ws' := WM K ad (uI (uI (uI t1 0 2 0) 0 88 0) 0 83 0)) (v := .int 0) C hP hD hS 0 rfl rfl inlX12 tyX12_ok nmX12 83 (by decide) m_78_16 rfl rfl rfl rfl rfl dX12_jobs_118 (fun H locs hP hD hS => ?_)
        have hok : okM (uI (uI (uI t1 0 2 0) 0 88 0) 0 83 0) := ⟨okI_I hok.1 0 83 0 (show (0 : Int) ≤ (0 : Int32).toInt ∧ (0 : Int32).toInt ≤ 427 from ⟨by decide, by decide⟩), hok.2.1, hok.2.2.1, hok.2.2.2.1, hok.2.2.2.2.1, hok.2.2.2.2.2.1, hok.2.2.2.2.2.2.1, trivial⟩
        have hfr : frA [(0, 0), (0, 2), (0, 5), (0, 6), (0, 7), (0, 9), (0, 10), (0, 11), (0, 12), (0, 14), (0, 15), (0, 16), (0, 17), (0, 18), (0, 30), (0, 31), (0, 35), (0, 36), (0, 38), (0, 41), (0, 42), (0, 43), (0, 44), (0, 45), (0, 46), (0, 47), (0, 48), (0, 51), (0, 52), (0, 60), (0, 67), (0, 68), (0, 69), (0, 70), (0, 71), (0, 72), (0, 73), (0, 77), (0, 78), (0, 79), (0, 80), (0, 81), (0, 82), (0, 83), (0, 88), (0, 90), (0, 91), (0, 93)] [(0, 8), (0, 13)] [2, 3, 5, 7, 8, 9, 10, 11, 12, 13, 14, 15, 16, 17, 18, 19, 20, 21, 22, 24, 25, 26, 27, 28, 29, 30, 31, 32, 33, 34, 35, 36, 37, 38, 39, 40, 41, 42, 43, 44] [4, 6, 23] t (uI (uI (uI t1 0 2 0) 0 88 0) 0 83 0) := frA_I hfr 0 83 _ rfl
        refine lv_iconst (v := 0) C.1 C.2.1 dX12_jobs_121 (by decide) ?_
        refine lv_istore_n (lv' := [(1, .int 0), (0, .ref (ad 0))]) C.1 C.2.1 dX12_jobs_122 rfl hl (by decide) rfl (fun ls hl => ?_)
        have hl : lv_has ls 5 [(0, .ref (ad 0)), (1, .int 0)] := lv_sub hl [1, 0] rfl
        exact L_123 1400 (uI (uI (uI t1 0 2 0) 0 88 0) 0 83 0) 0 _ _ _ hok hfr ⟨by decide, by decide⟩ (show (0 : Int) ≤ ((t1.1 0 0) : Int32).toInt ∧ ((t1.1 0 0) : Int32).toInt ≤ 0 from ⟨by omega, by omega⟩) (show (0 : Int) ≤ (0 : Int32).toInt ∧ (0 : Int32).toInt ≤ 0 from ⟨by decide, by decide⟩) (show lnS (t1.1 0 77).toInt (t1.2.2.1 37) (t1.2.2.1 38) from by first | exact hi80_0 | exact lnS_cg hn0 (by omega) rfl rfl) (show 0 ≤ 0 from by omega) (show 0 ≤ (t1.1 0 77).toInt from by omega) (show 3 * 0 ≤ 0 from by omega) (show 0 = 0 from by omega) (show (1300 - 0) < ((1400 : Nat) : Int) from by omega) hP hD hS (lv_sub hl [0, 1] rfl)
      · replace c_153 : w80_1.toInt < (t1.1 0 2).toInt := i_nle c_153
        refine lv_aload_n C.1 C.2.1 dX12_jobs_88 rfl (lv_at hl 0 rfl) ?_
        refine k_get (v := .ref (ad 36)) C hP 0 rfl rfl inlX12 74 (by decide) m_8_20 rfl dX12_jobs_89 ?_
        refine lv_iload_n C.1 C.2.1 dX12_jobs_92 rfl (lv_at hl 1 rfl) ?_
        refine lv_aload_n C.1 C.2.1 dX12_jobs_93 rfl (lv_at hl 0 rfl) ?_
        refine k_get (v := .ref (ad 1)) C hP 0 rfl rfl inlX12 1 (by decide) m_7_4 rfl dX12_jobs_94 ?_
        refine lv_iload_n C.1 C.2.1 dX12_jobs_97 rfl (lv_at hl 1 rfl) ?_
        obtain ⟨v_154, e_155⟩ : ∃ z, z = (t1.2.2.1 1 (w80_1 : Int32).toNatClampNeg) := ⟨_, rfl⟩
        have h_156 : (-3999 : Int) ≤ v_154.toInt ∧ v_154.toInt ≤ 127 := by rw [e_155]; exact hok.2.1 1 _
        refine k_bld (v := v_154) C hP 1 rfl (vp_in_iff.mpr ⟨by omega, by omega⟩) e_155.symm dX12_jobs_98 ?_
        obtain ⟨v_157, e_158⟩ : ∃ z, z = vp_nar .byte v_154 := ⟨_, rfl⟩
        have h_159 : (-128 : Int) ≤ v_157.toInt ∧ v_157.toInt ≤ 127 := by rw [e_158]; exact nar_byte _
        refine k_bst (ws' := WM K ad (uB t1 36 (w80_1 : Int32).toNatClampNeg v_157)) (x' := v_157) C hP hD hS 36 rfl (vp_in_iff.mpr ⟨by omega, by omega⟩) rfl e_158.symm rfl dX12_jobs_99 (fun H locs hP hD hS => ?_)
        have hok : okM (uB t1 36 (w80_1 : Int32).toNatClampNeg v_157) := ⟨hok.1, okB_B hok.2.1 36 _ v_157 (show (-3999 : Int) ≤ (v_157 : Int32).toInt ∧ (v_157 : Int32).toInt ≤ 127 from ⟨by omega, by omega⟩), hok.2.2.1, hok.2.2.2.1, hok.2.2.2.2.1, hok.2.2.2.2.2.1, hok.2.2.2.2.2.2.1, trivial⟩
        have hfr : frA [(0, 0), (0, 2), (0, 5), (0, 6), (0, 7), (0, 9), (0, 10), (0, 11), (0, 12), (0, 14), (0, 15), (0, 16), (0, 17), (0, 18), (0, 30), (0, 31), (0, 35), (0, 36), (0, 38), (0, 41), (0, 42), (0, 43), (0, 44), (0, 45), (0, 46), (0, 47), (0, 48), (0, 51), (0, 52), (0, 60), (0, 67), (0, 68), (0, 69), (0, 70), (0, 71), (0, 72), (0, 73), (0, 77), (0, 78), (0, 79), (0, 80), (0, 81), (0, 82), (0, 83), (0, 88), (0, 90), (0, 91), (0, 93)] [(0, 8), (0, 13)] [2, 3, 5, 7, 8, 9, 10, 11, 12, 13, 14, 15, 16, 17, 18, 19, 20, 21, 22, 24, 25, 26, 27, 28, 29, 30, 31, 32, 33, 34, 35, 36, 37, 38, 39, 40, 41, 42, 43, 44] [4, 6, 23] t (uB t1 36 (w80_1 : Int32).toNatClampNeg v_157) := frA_B hfr 36 _ _ rfl
        obtain ⟨v_160, e_161⟩ : ∃ z, z = w80_1 + 1 := ⟨_, rfl⟩
        have h_162 : v_160.toInt = w80_1.toInt + 1 := by rw [e_161]; exact ti_iadd (by show (_ : Int) ≤ w80_1.toInt + 1; omega) (by show w80_1.toInt + 1 < (_ : Int); omega)
        refine lv_iinc (v := v_160) (lv' := [(1, .int v_160), (0, .ref (ad 0))]) C.1 C.2.1 dX12_jobs_100 hl (k := 1) rfl e_161.symm (by decide) rfl (fun ls hl => ?_)
        have hl : lv_has ls 5 [(0, .ref (ad 0)), (1, .int v_160)] := lv_sub hl [1, 0] rfl
        refine lv_goto (tgt := 80) C.1 C.2.1 dX12_jobs_103 (by decide) ?_
        exact ih_80 (uB t1 36 (w80_1 : Int32).toNatClampNeg v_157) v_160 _ _ _ hok hfr ⟨by omega, by omega⟩ (show (0 : Int) ≤ ((t1.1 0 0) : Int32).toInt ∧ ((t1.1 0 0) : Int32).toInt ≤ 0 from ⟨by omega, by omega⟩) (show lnS (t1.1 0 77).toInt (t1.2.2.1 37) (t1.2.2.1 38) from by first | exact hi12_3 | exact hi80_0) (show (3999 : Int) - v_160.toInt < (fuel_80 : Int) from by omega) hP hD hS (lv_sub hl [0, 1] rfl)
  have L_12 : ∀ (fuel_12 : Nat) (t1 : tSt) (w12_1 : Int32) (H : Heap) (locs : List Loc) (ls : Array Slot), okM t1 → frA [(0, 0), (0, 2), (0, 5), (0, 6), (0, 7), (0, 9), (0, 10), (0, 11), (0, 12), (0, 14), (0, 15), (0, 16), (0, 17), (0, 18), (0, 30), (0, 31), (0, 35), (0, 36), (0, 38), (0, 41), (0, 42), (0, 43), (0, 44), (0, 45), (0, 46), (0, 47), (0, 48), (0, 51), (0, 52), (0, 60), (0, 67), (0, 68), (0, 69), (0, 70), (0, 71), (0, 72), (0, 73), (0, 77), (0, 78), (0, 79), (0, 80), (0, 81), (0, 82), (0, 83), (0, 88), (0, 90), (0, 91), (0, 93)] [(0, 8), (0, 13)] [2, 3, 5, 7, 8, 9, 10, 11, 12, 13, 14, 15, 16, 17, 18, 19, 20, 21, 22, 24, 25, 26, 27, 28, 29, 30, 31, 32, 33, 34, 35, 36, 37, 38, 39, 40, 41, 42, 43, 44] [4, 6, 23] t t1 → (0 : Int) ≤ w12_1.toInt ∧ w12_1.toInt ≤ 1281 → (0 : Int) ≤ (t1.1 0 0).toInt ∧ (t1.1 0 0).toInt ≤ 0 → (0 ≤ w12_1.toInt) → (w12_1.toInt ≤ (t1.1 0 2).toInt + 1) → ((t1.1 0 77).toInt ≤ w12_1.toInt) → (lnS (t1.1 0 77).toInt (t1.2.2.1 37) (t1.2.2.1 38)) → (∀ w : Int32, 0 ≤ w.toInt → w.toInt + 1 = (t1.1 0 77).toInt → w12_1.toInt = ((t1.2.2.1 38) w.toNatClampNeg).toInt + 1) → (1300 - w12_1.toInt) < (fuel_12 : Int) → va_P D vwCl (WM K ad t1) H → va_D A (WM K ad t1) → va_S A s.heap H locs → lv_has ls 5 [(0, .ref (ad 0)), (1, .int w12_1)] → W p l e (rmD 21 0 0) s m [.ref (ad 0)].toArray below meth c H locs 0 0 (MQ below (QI D K (fun (r : Int32) (u : tSt) => okM u ∧ frA [(0, 0), (0, 2), (0, 5), (0, 6), (0, 7), (0, 9), (0, 10), (0, 11), (0, 12), (0, 14), (0, 15), (0, 16), (0, 17), (0, 18), (0, 30), (0, 31), (0, 35), (0, 36), (0, 38), (0, 41), (0, 42), (0, 43), (0, 44), (0, 45), (0, 46), (0, 47), (0, 48), (0, 51), (0, 52), (0, 60), (0, 67), (0, 68), (0, 69), (0, 70), (0, 71), (0, 72), (0, 73), (0, 77), (0, 78), (0, 79), (0, 80), (0, 81), (0, 82), (0, 83), (0, 88), (0, 90), (0, 91), (0, 93)] [(0, 8), (0, 13)] [2, 3, 5, 7, 8, 9, 10, 11, 12, 13, 14, 15, 16, 17, 18, 19, 20, 21, 22, 24, 25, 26, 27, 28, 29, 30, 31, 32, 33, 34, 35, 36, 37, 38, 39, 40, 41, 42, 43, 44] [4, 6, 23] t u ∧ (0 : Int) ≤ r.toInt ∧ r.toInt ≤ 511 ∧ ((u.1 0 2).toInt = 0)) (fun (u : tSt) => WM K ad u) A) [.ref (ad 0)].toArray s 0 0 A) (F0 m 12 ls []) := by
    intro fuel_12
    induction fuel_12 with
    | zero =>
      intro t1 w12_1 H locs ls hok hfr hw12_1 hf12_0 hi12_0 hi12_1 hi12_2 hi12_3 hi12_4 hm12_12 hP hD hS hl
      have h_163 : (0 : Int) ≤ (t1.1 0 2).toInt ∧ (t1.1 0 2).toInt ≤ 1280 := hok.1 0 2
      have h_164 : (0 : Int) ≤ (t1.1 0 77).toInt ∧ (t1.1 0 77).toInt ≤ 1280 := hok.1 0 77
      have h_165 : (0 : Int) ≤ (t1.1 0 78).toInt ∧ (t1.1 0 78).toInt ≤ 6 := hok.1 0 78
      have h_166 : (0 : Int) ≤ (t1.1 0 83).toInt ∧ (t1.1 0 83).toInt ≤ 427 := hok.1 0 83
      exact absurd hm12_12 (by omega)
    | succ fuel_12 ih_12 =>
      intro t1 w12_1 H locs ls hok hfr hw12_1 hf12_0 hi12_0 hi12_1 hi12_2 hi12_3 hi12_4 hm12_12 hP hD hS hl
      have hm12_12 : (1300 - w12_1.toInt) < (fuel_12 : Int) + 1 := by omega
      have h_167 : (0 : Int) ≤ (t1.1 0 2).toInt ∧ (t1.1 0 2).toInt ≤ 1280 := hok.1 0 2
      have h_168 : (0 : Int) ≤ (t1.1 0 77).toInt ∧ (t1.1 0 77).toInt ≤ 1280 := hok.1 0 77
      have h_169 : (0 : Int) ≤ (t1.1 0 78).toInt ∧ (t1.1 0 78).toInt ≤ 6 := hok.1 0 78
      have h_170 : (0 : Int) ≤ (t1.1 0 83).toInt ∧ (t1.1 0 83).toInt ≤ 427 := hok.1 0 83
      refine lv_iload_n C.1 C.2.1 dX12_jobs_12 rfl (lv_at hl 1 rfl) ?_
      refine lv_aload_n C.1 C.2.1 dX12_jobs_13 rfl (lv_at hl 0 rfl) ?_
      refine k_get (v := .int (t1.1 0 2)) C hP 0 rfl rfl inlX12 2 (by decide) m_9_19 rfl dX12_jobs_14 ?_
      refine lv_icmp_ge (tgt := 78) C.1 C.2.1 dX12_jobs_17 (by decide) (fun c_171 => ?_) (fun c_171 => ?_)
      · replace c_171 : (t1.1 0 2).toInt ≤ w12_1.toInt := i_le c_171
        refine lv_iconst (v := 0) C.1 C.2.1 dX12_jobs_78 (by decide) ?_
        refine lv_istore_n (lv' := [(1, .int 0), (0, .ref (ad 0))]) C.1 C.2.1 dX12_jobs_79 rfl hl (by decide) rfl (fun ls hl => ?_)
        have hl : lv_has ls 5 [(0, .ref (ad 0)), (1, .int 0)] := lv_sub hl [1, 0] rfl
        exact L_80 4000 t1 0 _ _ _ hok hfr ⟨by decide, by decide⟩ (show (0 : Int) ≤ ((t1.1 0 0) : Int32).toInt ∧ ((t1.1 0 0) : Int32).toInt ≤ 0 from ⟨by omega, by omega⟩) (show lnS (t1.1 0 77).toInt (t1.2.2.1 37) (t1.2.2.1 38) from by first | exact hi12_3 | exact hi80_0) (show (3999 : Int) - 0 < ((4000 : Nat) : Int) from by omega) hP hD hS (lv_sub hl [0, 1] rfl)
      · replace c_171 : w12_1.toInt < (t1.1 0 2).toInt := i_nle c_171
        refine lv_aload_n C.1 C.2.1 dX12_jobs_20 rfl (lv_at hl 0 rfl) ?_
        refine k_get (v := .ref (ad 37)) C hP 0 rfl rfl inlX12 75 (by decide) m_8_21 rfl dX12_jobs_21 ?_
        refine lv_aload_n C.1 C.2.1 dX12_jobs_24 rfl (lv_at hl 0 rfl) ?_
        refine k_get (v := .int (t1.1 0 77)) C hP 0 rfl rfl inlX12 77 (by decide) m_78_14 rfl dX12_jobs_25 ?_
        refine lv_iload_n C.1 C.2.1 dX12_jobs_28 rfl (lv_at hl 1 rfl) ?_
        refine k_ist (ws' := WM K ad (uB t1 37 ((t1.1 0 77) : Int32).toNatClampNeg w12_1)) (x' := w12_1) C hP hD hS 37 rfl (vp_in_iff.mpr ⟨by omega, by omega⟩) rfl rfl rfl dX12_jobs_29 (fun H locs hP hD hS => ?_)
        have hok : okM (uB t1 37 ((t1.1 0 77) : Int32).toNatClampNeg w12_1) := ⟨hok.1, okB_B hok.2.1 37 _ w12_1 (show (0 : Int) ≤ (w12_1 : Int32).toInt ∧ (w12_1 : Int32).toInt ≤ 1280 from ⟨by omega, by omega⟩), hok.2.2.1, hok.2.2.2.1, hok.2.2.2.2.1, hok.2.2.2.2.2.1, hok.2.2.2.2.2.2.1, trivial⟩
        have hfr : frA [(0, 0), (0, 2), (0, 5), (0, 6), (0, 7), (0, 9), (0, 10), (0, 11), (0, 12), (0, 14), (0, 15), (0, 16), (0, 17), (0, 18), (0, 30), (0, 31), (0, 35), (0, 36), (0, 38), (0, 41), (0, 42), (0, 43), (0, 44), (0, 45), (0, 46), (0, 47), (0, 48), (0, 51), (0, 52), (0, 60), (0, 67), (0, 68), (0, 69), (0, 70), (0, 71), (0, 72), (0, 73), (0, 77), (0, 78), (0, 79), (0, 80), (0, 81), (0, 82), (0, 83), (0, 88), (0, 90), (0, 91), (0, 93)] [(0, 8), (0, 13)] [2, 3, 5, 7, 8, 9, 10, 11, 12, 13, 14, 15, 16, 17, 18, 19, 20, 21, 22, 24, 25, 26, 27, 28, 29, 30, 31, 32, 33, 34, 35, 36, 37, 38, 39, 40, 41, 42, 43, 44] [4, 6, 23] t (uB t1 37 ((t1.1 0 77) : Int32).toNatClampNeg w12_1) := frA_B hfr 37 _ _ rfl
        refine lv_aload_n C.1 C.2.1 dX12_jobs_30 rfl (lv_at hl 0 rfl) ?_
        refine k_get (v := .ref (ad 38)) C hP 0 rfl rfl inlX12 76 (by decide) m_8_22 rfl dX12_jobs_31 ?_
        refine lv_aload_n C.1 C.2.1 dX12_jobs_34 rfl (lv_at hl 0 rfl) ?_
        refine k_get (v := .int (t1.1 0 77)) C hP 0 rfl rfl inlX12 77 (by decide) m_78_14 rfl dX12_jobs_35 ?_
        refine lv_aload_n C.1 C.2.1 dX12_jobs_38 rfl (lv_at hl 0 rfl) ?_
        refine k_get (v := .ref (ad 1)) C hP 0 rfl rfl inlX12 1 (by decide) m_7_4 rfl dX12_jobs_39 ?_
        refine lv_iload_n C.1 C.2.1 dX12_jobs_42 rfl (lv_at hl 1 rfl) ?_
        refine lv_aload_n C.1 C.2.1 dX12_jobs_43 rfl (lv_at hl 0 rfl) ?_
        refine k_get (v := .int (t1.1 0 2)) C hP 0 rfl rfl inlX12 2 (by decide) m_9_19 rfl dX12_jobs_44 ?_
        refine g_Si (As := [.ref (ad 1), .int w12_1, .int (t1.1 0 2)]) (rest := [.int (t1.1 0 77), .ref (ad 38)]) C hP hD hS hA (T_X12_lineEnd l D K Z Y ad (uB t1 37 ((t1.1 0 77) : Int32).toNatClampNeg w12_1) hok (w12_1) (show (0 : Int) ≤ (w12_1 : Int32).toInt ∧ (w12_1 : Int32).toInt ≤ 1280 from ⟨by omega, by omega⟩) ((t1.1 0 2)) (show (1 : Int) ≤ ((t1.1 0 2) : Int32).toInt ∧ ((t1.1 0 2) : Int32).toInt ≤ 1280 from ⟨by omega, by omega⟩)) hE hZ (uwS m_30_23 m_31_0 m_1_5 m_31_1) (hdS 3 (by decide +kernel) rfl) ⟨Nat.le_of_ble_eq_true rfl, Nat.le_of_ble_eq_true rfl⟩ rfl rfl rfl hl.1 (Nat.le_of_ble_eq_true rfl) dX12_jobs_47 ⟨Nat.le_of_ble_eq_true rfl, Nat.le_of_ble_eq_true rfl⟩ (fun r_173 t_172 H locs hw hP hD hS => ?_)
        obtain ⟨h_175, h_176, p_177, p_178, p_179⟩ := hw
        replace p_177 : w12_1.toInt ≤ r_173.toInt := p_177
        replace p_178 : r_173.toInt ≤ (t1.1 0 2).toInt ∨ r_173.toInt = w12_1.toInt := p_178
        replace p_179 : leP (t1.2.2.1 1) w12_1 (t1.1 0 2) r_173 := p_179
        refine k_ist (ws' := WM K ad (uB (uB t1 37 ((t1.1 0 77) : Int32).toNatClampNeg w12_1) 38 ((t1.1 0 77) : Int32).toNatClampNeg r_173)) (x' := r_173) C hP hD hS 38 rfl (vp_in_iff.mpr ⟨by omega, by omega⟩) rfl rfl rfl dX12_jobs_50 (fun H locs hP hD hS => ?_)
        have hok : okM (uB (uB t1 37 ((t1.1 0 77) : Int32).toNatClampNeg w12_1) 38 ((t1.1 0 77) : Int32).toNatClampNeg r_173) := ⟨hok.1, okB_B hok.2.1 38 _ r_173 (show (0 : Int) ≤ (r_173 : Int32).toInt ∧ (r_173 : Int32).toInt ≤ 1280 from ⟨by omega, by omega⟩), hok.2.2.1, hok.2.2.2.1, hok.2.2.2.2.1, hok.2.2.2.2.2.1, hok.2.2.2.2.2.2.1, trivial⟩
        have hfr : frA [(0, 0), (0, 2), (0, 5), (0, 6), (0, 7), (0, 9), (0, 10), (0, 11), (0, 12), (0, 14), (0, 15), (0, 16), (0, 17), (0, 18), (0, 30), (0, 31), (0, 35), (0, 36), (0, 38), (0, 41), (0, 42), (0, 43), (0, 44), (0, 45), (0, 46), (0, 47), (0, 48), (0, 51), (0, 52), (0, 60), (0, 67), (0, 68), (0, 69), (0, 70), (0, 71), (0, 72), (0, 73), (0, 77), (0, 78), (0, 79), (0, 80), (0, 81), (0, 82), (0, 83), (0, 88), (0, 90), (0, 91), (0, 93)] [(0, 8), (0, 13)] [2, 3, 5, 7, 8, 9, 10, 11, 12, 13, 14, 15, 16, 17, 18, 19, 20, 21, 22, 24, 25, 26, 27, 28, 29, 30, 31, 32, 33, 34, 35, 36, 37, 38, 39, 40, 41, 42, 43, 44] [4, 6, 23] t (uB (uB t1 37 ((t1.1 0 77) : Int32).toNatClampNeg w12_1) 38 ((t1.1 0 77) : Int32).toNatClampNeg r_173) := frA_B hfr 38 _ _ rfl
        have hlt : ((uB (uB t1 37 ((t1.1 0 77) : Int32).toNatClampNeg w12_1) 38 ((t1.1 0 77) : Int32).toNatClampNeg r_173).2.2.1 38 ((t1.1 0 77) : Int32).toNatClampNeg).toInt = (r_173 : Int32).toInt := by show (upd _ _ _ _).toInt = _; rw [pk_us]
        refine lv_aload_n C.1 C.2.1 dX12_jobs_51 rfl (lv_at hl 0 rfl) ?_
        refine lv_dup C.1 C.2.1 dX12_jobs_52 rfl ?_
        refine k_get (v := .int (t1.1 0 77)) C hP 0 rfl rfl inlX12 77 (by decide) m_78_14 rfl dX12_jobs_53 ?_
        refine lv_iconst (v := 1) C.1 C.2.1 dX12_jobs_56 (by decide) ?_
        obtain ⟨v_180, e_181⟩ : ∃ z, z = ((t1.1 0 77) : Int32) + (1 : Int32) := ⟨_, rfl⟩
        have h_182 : v_180.toInt = (t1.1 0 77).toInt + 1 := by rw [e_181]; exact ti_iadd (by show (_ : Int) ≤ (t1.1 0 77).toInt + 1; omega) (by show (t1.1 0 77).toInt + 1 < (_ : Int); omega)
        refine k_iadd (v := v_180) C e_181.symm dX12_jobs_57 ?_
        refine k_put (ws' := WM K ad (uI (uB (uB t1 37 ((t1.1 0 77) : Int32).toNatClampNeg w12_1) 38 ((t1.1 0 77) : Int32).toNatClampNeg r_173) 0 77 v_180)) (v := .int v_180) C hP hD hS 0 rfl rfl inlX12 tyX12_ok nmX12 77 (by decide) m_78_14 rfl rfl rfl rfl rfl dX12_jobs_58 (fun H locs hP hD hS => ?_)
        have hok : okM (uI (uB (uB t1 37 ((t1.1 0 77) : Int32).toNatClampNeg w12_1) 38 ((t1.1 0 77) : Int32).toNatClampNeg r_173) 0 77 v_180) := ⟨okI_I hok.1 0 77 v_180 (show (0 : Int) ≤ (v_180 : Int32).toInt ∧ (v_180 : Int32).toInt ≤ 1280 from ⟨by omega, by omega⟩), hok.2.1, hok.2.2.1, hok.2.2.2.1, hok.2.2.2.2.1, hok.2.2.2.2.2.1, hok.2.2.2.2.2.2.1, trivial⟩
        have hfr : frA [(0, 0), (0, 2), (0, 5), (0, 6), (0, 7), (0, 9), (0, 10), (0, 11), (0, 12), (0, 14), (0, 15), (0, 16), (0, 17), (0, 18), (0, 30), (0, 31), (0, 35), (0, 36), (0, 38), (0, 41), (0, 42), (0, 43), (0, 44), (0, 45), (0, 46), (0, 47), (0, 48), (0, 51), (0, 52), (0, 60), (0, 67), (0, 68), (0, 69), (0, 70), (0, 71), (0, 72), (0, 73), (0, 77), (0, 78), (0, 79), (0, 80), (0, 81), (0, 82), (0, 83), (0, 88), (0, 90), (0, 91), (0, 93)] [(0, 8), (0, 13)] [2, 3, 5, 7, 8, 9, 10, 11, 12, 13, 14, 15, 16, 17, 18, 19, 20, 21, 22, 24, 25, 26, 27, 28, 29, 30, 31, 32, 33, 34, 35, 36, 37, 38, 39, 40, 41, 42, 43, 44] [4, 6, 23] t (uI (uB (uB t1 37 ((t1.1 0 77) : Int32).toNatClampNeg w12_1) 38 ((t1.1 0 77) : Int32).toNatClampNeg r_173) 0 77 v_180) := frA_I hfr 0 77 _ rfl
        refine lv_aload_n C.1 C.2.1 dX12_jobs_61 rfl (lv_at hl 0 rfl) ?_
        refine k_get (v := .ref (ad 38)) C hP 0 rfl rfl inlX12 76 (by decide) m_8_22 rfl dX12_jobs_62 ?_
        refine lv_aload_n C.1 C.2.1 dX12_jobs_65 rfl (lv_at hl 0 rfl) ?_
        refine k_get (v := .int v_180) C hP 0 rfl rfl inlX12 77 (by decide) m_78_14 rfl dX12_jobs_66 ?_
        refine lv_iconst (v := 1) C.1 C.2.1 dX12_jobs_69 (by decide) ?_
        obtain ⟨v_183, e_184⟩ : ∃ z, z = (v_180 : Int32) - (1 : Int32) := ⟨_, rfl⟩
        have h_185 : v_183.toInt = v_180.toInt - 1 := by rw [e_184]; exact ti_isub (by show (_ : Int) ≤ v_180.toInt - 1; omega) (by show v_180.toInt - 1 < (_ : Int); omega)
        refine k_isub (v := v_183) C e_184.symm dX12_jobs_70 ?_
        have h_186 : (0 : Int) ≤ ((uI (uB (uB t1 37 ((t1.1 0 77) : Int32).toNatClampNeg w12_1) 38 ((t1.1 0 77) : Int32).toNatClampNeg r_173) 0 77 v_180).2.2.1 38 (v_183 : Int32).toNatClampNeg).toInt ∧ ((uI (uB (uB t1 37 ((t1.1 0 77) : Int32).toNatClampNeg w12_1) 38 ((t1.1 0 77) : Int32).toNatClampNeg r_173) 0 77 v_180).2.2.1 38 (v_183 : Int32).toNatClampNeg).toInt ≤ 1280 := hok.2.1 38 _
        refine k_ild (v := ((uI (uB (uB t1 37 ((t1.1 0 77) : Int32).toNatClampNeg w12_1) 38 ((t1.1 0 77) : Int32).toNatClampNeg r_173) 0 77 v_180).2.2.1 38 (v_183 : Int32).toNatClampNeg)) C hP 38 rfl (vp_in_iff.mpr ⟨by omega, by omega⟩) rfl dX12_jobs_71 ?_
        have hlx : (v_183 : Int32) = (t1.1 0 77) := Int32.toInt_inj.mp (by omega)
        have hlq : ((uI (uB (uB t1 37 ((t1.1 0 77) : Int32).toNatClampNeg w12_1) 38 ((t1.1 0 77) : Int32).toNatClampNeg r_173) 0 77 v_180).2.2.1 38 (v_183 : Int32).toNatClampNeg).toInt = _ := (congrArg (fun z : Int32 => (((uI (uB (uB t1 37 ((t1.1 0 77) : Int32).toNatClampNeg w12_1) 38 ((t1.1 0 77) : Int32).toNatClampNeg r_173) 0 77 v_180).2.2.1 38) z.toNatClampNeg).toInt) hlx).trans hlt
        refine lv_iconst (v := 1) C.1 C.2.1 dX12_jobs_72 (by decide) ?_
        obtain ⟨v_187, e_188⟩ : ∃ z, z = (((uI (uB (uB t1 37 ((t1.1 0 77) : Int32).toNatClampNeg w12_1) 38 ((t1.1 0 77) : Int32).toNatClampNeg r_173) 0 77 v_180).2.2.1 38 (v_183 : Int32).toNatClampNeg) : Int32) + (1 : Int32) := ⟨_, rfl⟩
        have h_189 : v_187.toInt = ((uI (uB (uB t1 37 ((t1.1 0 77) : Int32).toNatClampNeg w12_1) 38 ((t1.1 0 77) : Int32).toNatClampNeg r_173) 0 77 v_180).2.2.1 38 (v_183 : Int32).toNatClampNeg).toInt + 1 := by rw [e_188]; exact ti_iadd (by show (_ : Int) ≤ ((uI (uB (uB t1 37 ((t1.1 0 77) : Int32).toNatClampNeg w12_1) 38 ((t1.1 0 77) : Int32).toNatClampNeg r_173) 0 77 v_180).2.2.1 38 (v_183 : Int32).toNatClampNeg).toInt + 1; omega) (by show ((uI (uB (uB t1 37 ((t1.1 0 77) : Int32).toNatClampNeg w12_1) 38 ((t1.1 0 77) : Int32).toNatClampNeg r_173) 0 77 v_180).2.2.1 38 (v_183 : Int32).toNatClampNeg).toInt + 1 < (_ : Int); omega)
        refine k_iadd (v := v_187) C e_188.symm dX12_jobs_73 ?_
        refine lv_istore_n (lv' := [(1, .int v_187), (0, .ref (ad 0))]) C.1 C.2.1 dX12_jobs_74 rfl hl (by decide) rfl (fun ls hl => ?_)
        have hl : lv_has ls 5 [(0, .ref (ad 0)), (1, .int v_187)] := lv_sub hl [1, 0] rfl
        refine lv_goto (tgt := 12) C.1 C.2.1 dX12_jobs_75 (by decide) ?_
        exact ih_12 (uI (uB (uB t1 37 ((t1.1 0 77) : Int32).toNatClampNeg w12_1) 38 ((t1.1 0 77) : Int32).toNatClampNeg r_173) 0 77 v_180) v_187 _ _ _ hok hfr ⟨by omega, by omega⟩ (show (0 : Int) ≤ ((t1.1 0 0) : Int32).toInt ∧ ((t1.1 0 0) : Int32).toInt ≤ 0 from ⟨by omega, by omega⟩) (show 0 ≤ v_187.toInt from by omega) (show v_187.toInt ≤ (t1.1 0 2).toInt + 1 from by omega) (show v_180.toInt ≤ v_187.toInt from by omega) (show lnS v_180.toInt ((uI (uB (uB t1 37 ((t1.1 0 77) : Int32).toNatClampNeg w12_1) 38 ((t1.1 0 77) : Int32).toNatClampNeg r_173) 0 77 v_180).2.2.1 37) ((uI (uB (uB t1 37 ((t1.1 0 77) : Int32).toNatClampNeg w12_1) 38 ((t1.1 0 77) : Int32).toNatClampNeg r_173) 0 77 v_180).2.2.1 38) from by first | exact lnS_0 (by omega) | exact lnS_up (n := (t1.1 0 77)) (f := (t1.2.2.1 37)) (g := (t1.2.2.1 38)) hi12_3 (by omega) (by omega) (by omega) (fun w h1 h2 => by have := hi12_4 w h1 (by omega); omega)) (show ∀ w : Int32, 0 ≤ w.toInt → w.toInt + 1 = v_180.toInt → v_187.toInt = (((uI (uB (uB t1 37 ((t1.1 0 77) : Int32).toNatClampNeg w12_1) 38 ((t1.1 0 77) : Int32).toNatClampNeg r_173) 0 77 v_180).2.2.1 38) w.toNatClampNeg).toInt + 1 from by intro w h1 h2; first | (exfalso; omega) | (have hw : w = (t1.1 0 77) := Int32.toInt_inj.mp (by omega); rw [hw]; show _ = (upd _ _ _ _).toInt + 1; rw [pk_us]; omega)) (show (1300 - v_187.toInt) < (fuel_12 : Int) from by omega) hP hD hS (lv_sub hl [0, 1] rfl)
  refine lv_aload_n C.1 C.2.1 dX12_jobs_0 rfl (lv_at hl 0 rfl) ?_
  refine lv_iconst (v := 0) C.1 C.2.1 dX12_jobs_1 (by decide) ?_
  refine k_put (ws' := WM K ad (uI t 0 0 0)) (v := .int 0) C hP hD hS 0 rfl rfl inlX12 tyX12_ok nmX12 0 (by decide) m_9_18 rfl rfl rfl rfl rfl dX12_jobs_2 (fun H locs hP hD hS => ?_)
  have hok : okM (uI t 0 0 0) := ⟨okI_I hok.1 0 0 0 (show (0 : Int) ≤ (0 : Int32).toInt ∧ (0 : Int32).toInt ≤ 1 from ⟨by decide, by decide⟩), hok.2.1, hok.2.2.1, hok.2.2.2.1, hok.2.2.2.2.1, hok.2.2.2.2.2.1, hok.2.2.2.2.2.2.1, trivial⟩
  have hfr : frA [(0, 0), (0, 2), (0, 5), (0, 6), (0, 7), (0, 9), (0, 10), (0, 11), (0, 12), (0, 14), (0, 15), (0, 16), (0, 17), (0, 18), (0, 30), (0, 31), (0, 35), (0, 36), (0, 38), (0, 41), (0, 42), (0, 43), (0, 44), (0, 45), (0, 46), (0, 47), (0, 48), (0, 51), (0, 52), (0, 60), (0, 67), (0, 68), (0, 69), (0, 70), (0, 71), (0, 72), (0, 73), (0, 77), (0, 78), (0, 79), (0, 80), (0, 81), (0, 82), (0, 83), (0, 88), (0, 90), (0, 91), (0, 93)] [(0, 8), (0, 13)] [2, 3, 5, 7, 8, 9, 10, 11, 12, 13, 14, 15, 16, 17, 18, 19, 20, 21, 22, 24, 25, 26, 27, 28, 29, 30, 31, 32, 33, 34, 35, 36, 37, 38, 39, 40, 41, 42, 43, 44] [4, 6, 23] t (uI t 0 0 0) := frA_I hfr 0 0 _ rfl
  refine lv_aload_n C.1 C.2.1 dX12_jobs_5 rfl (lv_at hl 0 rfl) ?_
  refine lv_iconst (v := 0) C.1 C.2.1 dX12_jobs_6 (by decide) ?_
  refine k_put (ws' := WM K ad (uI (uI t 0 0 0) 0 77 0)) (v := .int 0) C hP hD hS 0 rfl rfl inlX12 tyX12_ok nmX12 77 (by decide) m_78_14 rfl rfl rfl rfl rfl dX12_jobs_7 (fun H locs hP hD hS => ?_)
  have hok : okM (uI (uI t 0 0 0) 0 77 0) := ⟨okI_I hok.1 0 77 0 (show (0 : Int) ≤ (0 : Int32).toInt ∧ (0 : Int32).toInt ≤ 1280 from ⟨by decide, by decide⟩), hok.2.1, hok.2.2.1, hok.2.2.2.1, hok.2.2.2.2.1, hok.2.2.2.2.2.1, hok.2.2.2.2.2.2.1, trivial⟩
  have hfr : frA [(0, 0), (0, 2), (0, 5), (0, 6), (0, 7), (0, 9), (0, 10), (0, 11), (0, 12), (0, 14), (0, 15), (0, 16), (0, 17), (0, 18), (0, 30), (0, 31), (0, 35), (0, 36), (0, 38), (0, 41), (0, 42), (0, 43), (0, 44), (0, 45), (0, 46), (0, 47), (0, 48), (0, 51), (0, 52), (0, 60), (0, 67), (0, 68), (0, 69), (0, 70), (0, 71), (0, 72), (0, 73), (0, 77), (0, 78), (0, 79), (0, 80), (0, 81), (0, 82), (0, 83), (0, 88), (0, 90), (0, 91), (0, 93)] [(0, 8), (0, 13)] [2, 3, 5, 7, 8, 9, 10, 11, 12, 13, 14, 15, 16, 17, 18, 19, 20, 21, 22, 24, 25, 26, 27, 28, 29, 30, 31, 32, 33, 34, 35, 36, 37, 38, 39, 40, 41, 42, 43, 44] [4, 6, 23] t (uI (uI t 0 0 0) 0 77 0) := frA_I hfr 0 77 _ rfl
  refine lv_iconst (v := 0) C.1 C.2.1 dX12_jobs_10 (by decide) ?_
  refine lv_istore_n (lv' := [(1, .int 0), (0, .ref (ad 0))]) C.1 C.2.1 dX12_jobs_11 rfl hl (by decide) rfl (fun ls hl => ?_)
  have hl : lv_has ls 5 [(0, .ref (ad 0)), (1, .int 0)] := lv_sub hl [1, 0] rfl
  exact L_12 1400 (uI (uI t 0 0 0) 0 77 0) 0 _ _ _ hok hfr ⟨by decide, by decide⟩ (show (0 : Int) ≤ (0 : Int32).toInt ∧ (0 : Int32).toInt ≤ 0 from ⟨by decide, by decide⟩) (show 0 ≤ 0 from by omega) (show 0 ≤ (t.1 0 2).toInt + 1 from by omega) (show 0 ≤ 0 from by omega) (show lnS 0 (t.2.2.1 37) (t.2.2.1 38) from by first | exact lnS_0 (by omega) | exact lnS_up (n := (t1.1 0 77)) (f := (t.2.2.1 37)) (g := (t.2.2.1 38)) hi12_3 (by omega) (by omega) (by omega) (fun w h1 h2 => by have := hi12_4 w h1 (by omega); omega)) (show ∀ w : Int32, 0 ≤ w.toInt → w.toInt + 1 = 0 → 0 = ((t.2.2.1 38) w.toNatClampNeg).toInt + 1 from by intro w h1 h2; first | (exfalso; omega) | (have hw : w = (t1.1 0 77) := Int32.toInt_inj.mp (by omega); rw [hw]; show _ = (upd _ _ _ _).toInt + 1; rw [pk_us]; omega)) (show (1300 - 0) < ((1400 : Nat) : Int) from by omega) hP hD hS (lv_sub hl [0, 1] rfl)
