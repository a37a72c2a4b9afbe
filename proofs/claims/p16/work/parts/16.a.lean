theorem dX11_end_0 : decode cX11_end 0 = .ok (.iload_n 1, 1) := by decide +kernel
theorem dX11_end_1 : decode cX11_end 1 = .ok (.ifCond .lt 11, 3) := by decide +kernel
theorem dX11_end_12 : decode cX11_end 12 = .ok (.iconst 0, 1) := by decide +kernel
theorem dX11_end_13 : decode cX11_end 13 = .ok (.ireturn, 1) := by decide +kernel
theorem dX11_end_14 : decode cX11_end 14 = .ok (.aload_n 0, 1) := by decide +kernel
theorem dX11_end_15 : decode cX11_end 15 = .ok (.iload_n 1, 1) := by decide +kernel
theorem dX11_end_16 : decode cX11_end 16 = .ok (.putfield 70, 3) := by decide +kernel
theorem dX11_end_19 : decode cX11_end 19 = .ok (.iconst 1, 1) := by decide +kernel
theorem dX11_end_20 : decode cX11_end 20 = .ok (.ireturn, 1) := by decide +kernel
theorem dX11_end_4 : decode cX11_end 4 = .ok (.iload_n 1, 1) := by decide +kernel
theorem dX11_end_5 : decode cX11_end 5 = .ok (.aload_n 0, 1) := by decide +kernel
theorem dX11_end_6 : decode cX11_end 6 = .ok (.getfield 70, 3) := by decide +kernel
theorem dX11_end_9 : decode cX11_end 9 = .ok (.if_icmp .le 5, 3) := by decide +kernel
set_option maxHeartbeats 4000000 in
set_option maxRecDepth 100000 in
theorem T_X11_end (l : Launch) (D : va_G) (K : Nat → ClassId) (Z Y : Nat → Nat) (ad : Nat → Nat) (d : dSt) (t : tSt) (hok : okX t) (x1 : Int32) : tMet l yX11_end cX11_end 2 (some .boolean) (rmD 0 0 0) D K Z Y [.ref (ad 0), .int x1] ((WX d) K ad t) (QI D K (fun (r : Int32) (u : tSt) => okX u ∧ frA [(0, 1)] [] [] [] t u ∧ (0 : Int) ≤ r.toInt ∧ r.toInt ≤ 1 ∧ (r.toInt = 1 ∧ (u.1 0 1).toInt = x1.toInt ∧ 0 ≤ x1.toInt ∧ x1.toInt ≤ (t.1 0 1).toInt ∨ r.toInt = 0 ∧ (u.1 0 1).toInt = (t.1 0 1).toInt ∧ (x1.toInt < 0 ∨ x1.toInt > (t.1 0 1).toInt))) (fun (u : tSt) => (WX d) K ad u)) 0 0 := by
  refine t_met RX11 ⟨rfl, by decide +kernel⟩ (Nat.le_of_ble_eq_true rfl) ?_
  intro p e s m below meth c A ls C hE hZ hr hlocks hA hP hD hS hl
  have hl : lv_has ls 2 [(0, .ref (ad 0)), (1, .int x1)] := hl
  have hokt := hok
  have hfr : frA [(0, 1)] [] [] [] t t := frA_rf
  have h_1 : (0 : Int) ≤ (t.1 0 1).toInt ∧ (t.1 0 1).toInt ≤ 1280 := hok.1 0 1
  refine lv_iload_n C.1 C.2.1 dX11_end_0 rfl (lv_at hl 1 rfl) ?_
  refine lv_if_lt (tgt := 12) C.1 C.2.1 dX11_end_1 (by decide) (fun c_2 => ?_) (fun c_2 => ?_)
  · replace c_2 : x1.toInt < 0 := i_lt c_2
    refine lv_iconst (v := 0) C.1 C.2.1 dX11_end_12 (by decide) ?_
    exact g_iret C hr hlocks hP hD hS (by decide) t rfl ⟨hok, hfr, by decide, by decide, (show 0 = 1 ∧ (t.1 0 1).toInt = x1.toInt ∧ 0 ≤ x1.toInt ∧ x1.toInt ≤ (t.1 0 1).toInt ∨ 0 = 0 ∧ (t.1 0 1).toInt = (t.1 0 1).toInt ∧ (x1.toInt < 0 ∨ x1.toInt > (t.1 0 1).toInt) from by omega)⟩ (Nat.le_of_ble_eq_true rfl) (Nat.le_of_ble_eq_true rfl) dX11_end_13
  · replace c_2 : 0 ≤ x1.toInt := i_nlt c_2
    refine lv_iload_n C.1 C.2.1 dX11_end_4 rfl (lv_at hl 1 rfl) ?_
    refine lv_aload_n C.1 C.2.1 dX11_end_5 rfl (lv_at hl 0 rfl) ?_
    refine k_get (v := .int (t.1 0 1)) C hP 0 rfl rfl inlX11 1 (by decide) m_9_9 rfl dX11_end_6 ?_
    refine lv_icmp_le (tgt := 14) C.1 C.2.1 dX11_end_9 (by decide) (fun c_3 => ?_) (fun c_3 => ?_)
    · replace c_3 : x1.toInt ≤ (t.1 0 1).toInt := i_le c_3
      refine lv_aload_n C.1 C.2.1 dX11_end_14 rfl (lv_at hl 0 rfl) ?_
      refine lv_iload_n C.1 C.2.1 dX11_end_15 rfl (lv_at hl 1 rfl) ?_
      refine k_put (ws' := (WX d) K ad (uI t 0 1 x1)) (v := .int x1) C hP hD hS 0 rfl rfl inlX11 tyX11_ok nmX11 1 (by decide) m_9_9 rfl rfl rfl rfl rfl dX11_end_16 (fun H locs hP hD hS => ?_)
      have hok : okX (uI t 0 1 x1) := ⟨okI_I hok.1 0 1 x1 (show (0 : Int) ≤ (x1 : Int32).toInt ∧ (x1 : Int32).toInt ≤ 1280 from ⟨by omega, by omega⟩), hok.2.1, trivial⟩
      have hfr : frA [(0, 1)] [] [] [] t (uI t 0 1 x1) := frA_I hfr 0 1 _ rfl
      refine lv_iconst (v := 1) C.1 C.2.1 dX11_end_19 (by decide) ?_
      exact g_iret C hr hlocks hP hD hS (by decide) (uI t 0 1 x1) rfl ⟨hok, hfr, by decide, by decide, (show 1 = 1 ∧ x1.toInt = x1.toInt ∧ 0 ≤ x1.toInt ∧ x1.toInt ≤ (t.1 0 1).toInt ∨ 1 = 0 ∧ x1.toInt = (t.1 0 1).toInt ∧ (x1.toInt < 0 ∨ x1.toInt > (t.1 0 1).toInt) from by omega)⟩ (Nat.le_of_ble_eq_true rfl) (Nat.le_of_ble_eq_true rfl) dX11_end_20
    · replace c_3 : (t.1 0 1).toInt < x1.toInt := i_nle c_3
      refine lv_iconst (v := 0) C.1 C.2.1 dX11_end_12 (by decide) ?_
      exact g_iret C hr hlocks hP hD hS (by decide) t rfl ⟨hok, hfr, by decide, by decide, (show 0 = 1 ∧ (t.1 0 1).toInt = x1.toInt ∧ 0 ≤ x1.toInt ∧ x1.toInt ≤ (t.1 0 1).toInt ∨ 0 = 0 ∧ (t.1 0 1).toInt = (t.1 0 1).toInt ∧ (x1.toInt < 0 ∨ x1.toInt > (t.1 0 1).toInt) from by omega)⟩ (Nat.le_of_ble_eq_true rfl) (Nat.le_of_ble_eq_true rfl) dX11_end_13

theorem dX11_error_0 : decode cX11_error 0 = .ok (.aload_n 0, 1) := by decide +kernel
theorem dX11_error_1 : decode cX11_error 1 = .ok (.getfield 48, 3) := by decide +kernel
theorem dX11_error_4 : decode cX11_error 4 = .ok (.getfield 121, 3) := by decide +kernel
theorem dX11_error_7 : decode cX11_error 7 = .ok (.ireturn, 1) := by decide +kernel
set_option maxHeartbeats 4000000 in
set_option maxRecDepth 100000 in
theorem T_X11_error (l : Launch) (D : va_G) (K : Nat → ClassId) (Z Y : Nat → Nat) (ad : Nat → Nat) (d : dSt) (t : tSt) (hok : okX t)  : tMet l yX11_error cX11_error 1 (some .int) (rmD 0 0 0) D K Z Y [.ref (ad 0)] ((WX d) K ad t) (QI D K (fun (r : Int32) (u : Unit) => (0 : Int) ≤ r.toInt ∧ r.toInt ≤ 8) (fun (_ : Unit) => (WX d) K ad t)) 0 0 := by
  refine t_met RX11 ⟨rfl, by decide +kernel⟩ (Nat.le_of_ble_eq_true rfl) ?_
  intro p e s m below meth c A ls C hE hZ hr hlocks hA hP hD hS hl
  have hl : lv_has ls 1 [(0, .ref (ad 0))] := hl
  refine lv_aload_n C.1 C.2.1 dX11_error_0 rfl (lv_at hl 0 rfl) ?_
  refine k_get (v := .ref (ad 5)) C hP 0 rfl rfl inlX11 5 (by decide) m_2_10 rfl dX11_error_1 ?_
  have h_1 : (0 : Int) ≤ (t.1 5 18).toInt ∧ (t.1 5 18).toInt ≤ 8 := hok.1 5 18
  refine k_get (v := .int (t.1 5 18)) C hP 5 rfl rfl inlX0 18 (by decide) m_43_6 rfl dX11_error_4 ?_
  exact g_iret C hr hlocks hP hD hS rfl () rfl ⟨by omega, by omega⟩ (Nat.le_of_ble_eq_true rfl) (Nat.le_of_ble_eq_true rfl) dX11_error_7

theorem dX11_state_0 : decode cX11_state 0 = .ok (.aload_n 0, 1) := by decide +kernel
theorem dX11_state_1 : decode cX11_state 1 = .ok (.getfield 44, 3) := by decide +kernel
theorem dX11_state_4 : decode cX11_state 4 = .ok (.getfield 220, 3) := by decide +kernel
theorem dX11_state_7 : decode cX11_state 7 = .ok (.ireturn, 1) := by decide +kernel
set_option maxHeartbeats 4000000 in
set_option maxRecDepth 100000 in
theorem T_X11_state (l : Launch) (D : va_G) (K : Nat → ClassId) (Z Y : Nat → Nat) (ad : Nat → Nat) (d : dSt) (t : tSt) (hok : okX t)  : tMet l yX11_state cX11_state 1 (some .int) (rmD 0 0 0) D K Z Y [.ref (ad 0)] ((WX d) K ad t) (QI D K (fun (r : Int32) (u : Unit) => (0 : Int) ≤ r.toInt ∧ r.toInt ≤ 9) (fun (_ : Unit) => (WX d) K ad t)) 0 0 := by
  refine t_met RX11 ⟨rfl, by decide +kernel⟩ (Nat.le_of_ble_eq_true rfl) ?_
  intro p e s m below meth c A ls C hE hZ hr hlocks hA hP hD hS hl
  have hl : lv_has ls 1 [(0, .ref (ad 0))] := hl
  refine lv_aload_n C.1 C.2.1 dX11_state_0 rfl (lv_at hl 0 rfl) ?_
  refine k_get (v := .ref (ad 4)) C hP 0 rfl rfl inlX11 4 (by decide) m_2_9 rfl dX11_state_1 ?_
  have h_1 : (0 : Int) ≤ (t.1 4 8).toInt ∧ (t.1 4 8).toInt ≤ 9 := hok.1 4 8
  refine k_get (v := .int (t.1 4 8)) C hP 4 rfl rfl inlX2 8 (by decide) m_45_11 rfl dX11_state_4 ?_
  exact g_iret C hr hlocks hP hD hS rfl () rfl ⟨by omega, by omega⟩ (Nat.le_of_ble_eq_true rfl) (Nat.le_of_ble_eq_true rfl) dX11_state_7

theorem dX11_time_0 : decode cX11_time 0 = .ok (.aload_n 0, 1) := by decide +kernel
theorem dX11_time_1 : decode cX11_time 1 = .ok (.getfield 44, 3) := by decide +kernel
theorem dX11_time_4 : decode cX11_time 4 = .ok (.getfield 244, 3) := by decide +kernel
theorem dX11_time_7 : decode cX11_time 7 = .ok (.lreturn, 1) := by decide +kernel
set_option maxHeartbeats 4000000 in
set_option maxRecDepth 100000 in
theorem T_X11_time (l : Launch) (D : va_G) (K : Nat → ClassId) (Z Y : Nat → Nat) (ad : Nat → Nat) (d : dSt) (t : tSt) (hok : okX t)  : tMet l yX11_time cX11_time 1 (some .long) (rmD 0 0 0) D K Z Y [.ref (ad 0)] ((WX d) K ad t) (QL D K (fun (r : Int64) (u : Unit) => True) (fun (_ : Unit) => (WX d) K ad t)) 0 0 := by
  refine t_met RX11 ⟨rfl, by decide +kernel⟩ (Nat.le_of_ble_eq_true rfl) ?_
  intro p e s m below meth c A ls C hE hZ hr hlocks hA hP hD hS hl
  have hl : lv_has ls 1 [(0, .ref (ad 0))] := hl
  refine lv_aload_n C.1 C.2.1 dX11_time_0 rfl (lv_at hl 0 rfl) ?_
  refine k_get (v := .ref (ad 4)) C hP 0 rfl rfl inlX11 4 (by decide) m_2_9 rfl dX11_time_1 ?_
  refine k_get (v := .long (t.2.1 4 6)) C hP 4 rfl rfl inlX2 6 (by decide) m_77_5 rfl dX11_time_4 ?_
  exact g_lret C hr hlocks hP hD hS () rfl trivial (Nat.le_of_ble_eq_true rfl) (Nat.le_of_ble_eq_true rfl) dX11_time_7

theorem dX11_tear_0 : decode cX11_tear 0 = .ok (.aload_n 0, 1) := by decide +kernel
theorem dX11_tear_1 : decode cX11_tear 1 = .ok (.getfield 40, 3) := by decide +kernel
theorem dX11_tear_11 : decode cX11_tear 11 = .ok (.aload_n 0, 1) := by decide +kernel
theorem dX11_tear_12 : decode cX11_tear 12 = .ok (.getfield 40, 3) := by decide +kernel
theorem dX11_tear_15 : decode cX11_tear 15 = .ok (.getfield 286, 3) := by decide +kernel
theorem dX11_tear_18 : decode cX11_tear 18 = .ok (.iconst 0, 1) := by decide +kernel
theorem dX11_tear_19 : decode cX11_tear 19 = .ok (.putfield 273, 3) := by decide +kernel
theorem dX11_tear_22 : decode cX11_tear 22 = .ok (.aload_n 0, 1) := by decide +kernel
theorem dX11_tear_23 : decode cX11_tear 23 = .ok (.getfield 40, 3) := by decide +kernel
theorem dX11_tear_26 : decode cX11_tear 26 = .ok (.getfield 289, 3) := by decide +kernel
theorem dX11_tear_29 : decode cX11_tear 29 = .ok (.iconst 0, 1) := by decide +kernel
theorem dX11_tear_30 : decode cX11_tear 30 = .ok (.putfield 273, 3) := by decide +kernel
theorem dX11_tear_33 : decode cX11_tear 33 = .ok (.return_, 1) := by decide +kernel
theorem dX11_tear_4 : decode cX11_tear 4 = .ok (.getfield 282, 3) := by decide +kernel
theorem dX11_tear_7 : decode cX11_tear 7 = .ok (.iconst 0, 1) := by decide +kernel
theorem dX11_tear_8 : decode cX11_tear 8 = .ok (.putfield 273, 3) := by decide +kernel
set_option maxHeartbeats 4000000 in
set_option maxRecDepth 100000 in
theorem T_X11_tear (l : Launch) (D : va_G) (K : Nat → ClassId) (Z Y : Nat → Nat) (ad : Nat → Nat) (d : dSt) (t : tSt) (hok : okX t)  : tMet l yX11_tear cX11_tear 1 none (rmD 0 0 0) D K Z Y [.ref (ad 0)] ((WX d) K ad t) (QV D K (fun (u : tSt) => okX u ∧ frA [(19, 3), (20, 3), (21, 3)] [] [] [] t u) (fun (u : tSt) => (WX d) K ad u)) 0 0 := by
  refine t_met RX11 ⟨rfl, by decide +kernel⟩ (Nat.le_of_ble_eq_true rfl) ?_
  intro p e s m below meth c A ls C hE hZ hr hlocks hA hP hD hS hl
  have hl : lv_has ls 1 [(0, .ref (ad 0))] := hl
  have hokt := hok
  have hfr : frA [(19, 3), (20, 3), (21, 3)] [] [] [] t t := frA_rf
  refine lv_aload_n C.1 C.2.1 dX11_tear_0 rfl (lv_at hl 0 rfl) ?_
  refine k_get (v := .ref (ad 3)) C hP 0 rfl rfl inlX11 3 (by decide) m_2_8 rfl dX11_tear_1 ?_
  refine k_get (v := .ref (ad 19)) C hP 3 rfl rfl inlX10 10 (by decide) m_88_2 rfl dX11_tear_4 ?_
  refine lv_iconst (v := 0) C.1 C.2.1 dX11_tear_7 (by decide) ?_
  refine k_put (ws' := (WX d) K ad (uI t 19 3 0)) (v := .int 0) C hP hD hS 19 rfl rfl inlX4 tyX4_ok nmX4 3 (by decide) m_86_16 rfl rfl rfl rfl rfl dX11_tear_8 (fun H locs hP hD hS => ?_)
  have hok : okX (uI t 19 3 0) := ⟨okI_I hok.1 19 3 0 (show (0 : Int) ≤ (0 : Int32).toInt ∧ (0 : Int32).toInt ≤ 300 from ⟨by decide, by decide⟩), hok.2.1, trivial⟩
  have hfr : frA [(19, 3), (20, 3), (21, 3)] [] [] [] t (uI t 19 3 0) := frA_I hfr 19 3 _ rfl
  refine lv_aload_n C.1 C.2.1 dX11_tear_11 rfl (lv_at hl 0 rfl) ?_
  refine k_get (v := .ref (ad 3)) C hP 0 rfl rfl inlX11 3 (by decide) m_2_8 rfl dX11_tear_12 ?_
  refine k_get (v := .ref (ad 20)) C hP 3 rfl rfl inlX10 11 (by decide) m_88_3 rfl dX11_tear_15 ?_
  refine lv_iconst (v := 0) C.1 C.2.1 dX11_tear_18 (by decide) ?_
  refine k_put (ws' := (WX d) K ad (uI (uI t 19 3 0) 20 3 0)) (v := .int 0) C hP hD hS 20 rfl rfl inlX4 tyX4_ok nmX4 3 (by decide) m_86_16 rfl rfl rfl rfl rfl dX11_tear_19 (fun H locs hP hD hS => ?_)
  have hok : okX (uI (uI t 19 3 0) 20 3 0) := ⟨okI_I hok.1 20 3 0 (show (0 : Int) ≤ (0 : Int32).toInt ∧ (0 : Int32).toInt ≤ 300 from ⟨by decide, by decide⟩), hok.2.1, trivial⟩
  have hfr : frA [(19, 3), (20, 3), (21, 3)] [] [] [] t (uI (uI t 19 3 0) 20 3 0) := frA_I hfr 20 3 _ rfl
  refine lv_aload_n C.1 C.2.1 dX11_tear_22 rfl (lv_at hl 0 rfl) ?_
  refine k_get (v := .ref (ad 3)) C hP 0 rfl rfl inlX11 3 (by decide) m_2_8 rfl dX11_tear_23 ?_
  refine k_get (v := .ref (ad 21)) C hP 3 rfl rfl inlX10 12 (by decide) m_88_4 rfl dX11_tear_26 ?_
  refine lv_iconst (v := 0) C.1 C.2.1 dX11_tear_29 (by decide) ?_
  refine k_put (ws' := (WX d) K ad (uI (uI (uI t 19 3 0) 20 3 0) 21 3 0)) (v := .int 0) C hP hD hS 21 rfl rfl inlX4 tyX4_ok nmX4 3 (by decide) m_86_16 rfl rfl rfl rfl rfl dX11_tear_30 (fun H locs hP hD hS => ?_)
  have hok : okX (uI (uI (uI t 19 3 0) 20 3 0) 21 3 0) := ⟨okI_I hok.1 21 3 0 (show (0 : Int) ≤ (0 : Int32).toInt ∧ (0 : Int32).toInt ≤ 300 from ⟨by decide, by decide⟩), hok.2.1, trivial⟩
  have hfr : frA [(19, 3), (20, 3), (21, 3)] [] [] [] t (uI (uI (uI t 19 3 0) 20 3 0) 21 3 0) := frA_I hfr 21 3 _ rfl
  exact g_vret C hr hlocks hP hD hS (uI (uI (uI t 19 3 0) 20 3 0) 21 3 0) rfl ⟨hok, hfr⟩ (Nat.le_of_ble_eq_true rfl) (Nat.le_of_ble_eq_true rfl) dX11_tear_33

theorem dX11_punchTape_0 : decode cX11_punchTape 0 = .ok (.bipush 24, 2) := by decide +kernel
theorem dX11_punchTape_11 : decode cX11_punchTape 11 = .ok (.sipush 8192, 3) := by decide +kernel
theorem dX11_punchTape_14 : decode cX11_punchTape 14 = .ok (.if_icmp .ge 26, 3) := by decide +kernel
theorem dX11_punchTape_17 : decode cX11_punchTape 17 = .ok (.aload_n 0, 1) := by decide +kernel
theorem dX11_punchTape_18 : decode cX11_punchTape 18 = .ok (.getfield 32, 3) := by decide +kernel
theorem dX11_punchTape_2 : decode cX11_punchTape 2 = .ok (.istore_n 2, 1) := by decide +kernel
theorem dX11_punchTape_21 : decode cX11_punchTape 21 = .ok (.aload_n 0, 1) := by decide +kernel
theorem dX11_punchTape_22 : decode cX11_punchTape 22 = .ok (.getfield 70, 3) := by decide +kernel
theorem dX11_punchTape_25 : decode cX11_punchTape 25 = .ok (.iload_n 1, 1) := by decide +kernel
theorem dX11_punchTape_26 : decode cX11_punchTape 26 = .ok (.iload_n 2, 1) := by decide +kernel
theorem dX11_punchTape_27 : decode cX11_punchTape 27 = .ok (.ishr, 1) := by decide +kernel
theorem dX11_punchTape_28 : decode cX11_punchTape 28 = .ok (.i2b, 1) := by decide +kernel
theorem dX11_punchTape_29 : decode cX11_punchTape 29 = .ok (.bastore, 1) := by decide +kernel
theorem dX11_punchTape_3 : decode cX11_punchTape 3 = .ok (.iload_n 2, 1) := by decide +kernel
theorem dX11_punchTape_30 : decode cX11_punchTape 30 = .ok (.aload_n 0, 1) := by decide +kernel
theorem dX11_punchTape_31 : decode cX11_punchTape 31 = .ok (.dup, 1) := by decide +kernel
theorem dX11_punchTape_32 : decode cX11_punchTape 32 = .ok (.getfield 70, 3) := by decide +kernel
theorem dX11_punchTape_35 : decode cX11_punchTape 35 = .ok (.iconst 1, 1) := by decide +kernel
theorem dX11_punchTape_36 : decode cX11_punchTape 36 = .ok (.iadd, 1) := by decide +kernel
theorem dX11_punchTape_37 : decode cX11_punchTape 37 = .ok (.putfield 70, 3) := by decide +kernel
theorem dX11_punchTape_4 : decode cX11_punchTape 4 = .ok (.ifCond .lt 42, 3) := by decide +kernel
theorem dX11_punchTape_40 : decode cX11_punchTape 40 = .ok (.iinc 2 (-8), 3) := by decide +kernel
theorem dX11_punchTape_43 : decode cX11_punchTape 43 = .ok (.goto (-40), 3) := by decide +kernel
theorem dX11_punchTape_46 : decode cX11_punchTape 46 = .ok (.return_, 1) := by decide +kernel
theorem dX11_punchTape_7 : decode cX11_punchTape 7 = .ok (.aload_n 0, 1) := by decide +kernel
theorem dX11_punchTape_8 : decode cX11_punchTape 8 = .ok (.getfield 70, 3) := by decide +kernel
set_option maxHeartbeats 4000000 in
set_option maxRecDepth 100000 in
theorem T_X11_punchTape (l : Launch) (D : va_G) (K : Nat → ClassId) (Z Y : Nat → Nat) (ad : Nat → Nat) (d : dSt) (t : tSt) (hok : okX t) (x1 : Int32) (hs0 : (t.1 0 1).toInt ≤ 1276) : tMet l yX11_punchTape cX11_punchTape 3 none (rmD 0 0 0) D K Z Y [.ref (ad 0), .int x1] ((WX d) K ad t) (QV D K (fun (u : tSt) => okX u ∧ frA [(0, 1)] [] [1] [] t u ∧ ((u.1 0 1).toInt = (t.1 0 1).toInt + 4)) (fun (u : tSt) => (WX d) K ad u)) 0 0 := by
  refine t_met RX11 ⟨rfl, by decide +kernel⟩ (Nat.le_of_ble_eq_true rfl) ?_
  intro p e s m below meth c A ls C hE hZ hr hlocks hA hP hD hS hl
  have hl : lv_has ls 3 [(0, .ref (ad 0)), (1, .int x1)] := hl
  have hokt := hok
  have hfr : frA [(0, 1)] [] [1] [] t t := frA_rf
  have h_1 : (0 : Int) ≤ (t.1 0 1).toInt ∧ (t.1 0 1).toInt ≤ 1280 := hok.1 0 1
  have L_3 : ∀ (fuel_3 : Nat) (t1 : tSt) (w3_2 : Int32) (H : Heap) (locs : List Loc) (ls : Array Slot), okX t1 → frA [(0, 1)] [] [1] [] t t1 → (-128 : Int) ≤ w3_2.toInt ∧ w3_2.toInt ≤ 24 → ((t1.1 0 1).toInt * 8 + w3_2.toInt = (t.1 0 1).toInt * 8 + 24) → (-8 ≤ w3_2.toInt) → w3_2.toInt - (-128 : Int) < (fuel_3 : Int) → va_P D vwCl ((WX d) K ad t1) H → va_D A ((WX d) K ad t1) → va_S A s.heap H locs → lv_has ls 3 [(0, .ref (ad 0)), (1, .int x1), (2, .int w3_2)] → W p l e (rmD 0 0 0) s m [.ref (ad 0), .int x1].toArray below meth c H locs 0 0 (MQ below (QV D K (fun (u : tSt) => okX u ∧ frA [(0, 1)] [] [1] [] t u ∧ ((u.1 0 1).toInt = (t.1 0 1).toInt + 4)) (fun (u : tSt) => (WX d) K ad u) A) [.ref (ad 0), .int x1].toArray s 0 0 A) (F0 m 3 ls []) := by
    intro fuel_3
    induction fuel_3 with
    | zero =>
      intro t1 w3_2 H locs ls hok hfr hw3_2 hi3_0 hi3_1 hm3_3 hP hD hS hl
      have h_2 : (0 : Int) ≤ (t1.1 0 1).toInt ∧ (t1.1 0 1).toInt ≤ 1280 := hok.1 0 1
      exact absurd hm3_3 (by omega)
    | succ fuel_3 ih_3 =>
      intro t1 w3_2 H locs ls hok hfr hw3_2 hi3_0 hi3_1 hm3_3 hP hD hS hl
      have hm3_3 : w3_2.toInt - (-128 : Int) < (fuel_3 : Int) + 1 := by omega
      have h_3 : (0 : Int) ≤ (t1.1 0 1).toInt ∧ (t1.1 0 1).toInt ≤ 1280 := hok.1 0 1
      have L_40 : ∀ (t1 : tSt) (w40_2 : Int32) (H : Heap) (locs : List Loc) (ls : Array Slot), okX t1 → frA [(0, 1)] [] [1] [] t t1 → (0 : Int) ≤ w40_2.toInt ∧ w40_2.toInt ≤ 24 → (1 : Int) ≤ (t1.1 0 1).toInt ∧ (t1.1 0 1).toInt ≤ 1280 → ((t1.1 0 1).toInt * 8 + w40_2.toInt = (t.1 0 1).toInt * 8 + 32) → (0 ≤ w40_2.toInt) → w40_2.toInt - (-128 : Int) < (fuel_3 : Int) + 1 → va_P D vwCl ((WX d) K ad t1) H → va_D A ((WX d) K ad t1) → va_S A s.heap H locs → lv_has ls 3 [(0, .ref (ad 0)), (1, .int x1), (2, .int w40_2)] → W p l e (rmD 0 0 0) s m [.ref (ad 0), .int x1].toArray below meth c H locs 0 0 (MQ below (QV D K (fun (u : tSt) => okX u ∧ frA [(0, 1)] [] [1] [] t u ∧ ((u.1 0 1).toInt = (t.1 0 1).toInt + 4)) (fun (u : tSt) => (WX d) K ad u) A) [.ref (ad 0), .int x1].toArray s 0 0 A) (F0 m 40 ls []) := by
        intro t1 w40_2 H locs ls hok hfr hw40_2 hf40_1 hi40_0 hi40_1 hm40_3 hP hD hS hl
        obtain ⟨v_4, e_5⟩ : ∃ z, z = w40_2 + (-8) := ⟨_, rfl⟩
        have h_6 : v_4.toInt = w40_2.toInt + (-8) := by rw [e_5]; exact ti_iadd (by show (_ : Int) ≤ w40_2.toInt + (-8); omega) (by show w40_2.toInt + (-8) < (_ : Int); omega)
        refine lv_iinc (v := v_4) (lv' := [(2, .int v_4), (0, .ref (ad 0)), (1, .int x1)]) C.1 C.2.1 dX11_punchTape_40 hl (k := 2) rfl e_5.symm (by decide) rfl (fun ls hl => ?_)
        have hl : lv_has ls 3 [(0, .ref (ad 0)), (1, .int x1), (2, .int v_4)] := lv_sub hl [1, 2, 0] rfl
        refine lv_goto (tgt := 3) C.1 C.2.1 dX11_punchTape_43 (by decide) ?_
        exact ih_3 t1 v_4 _ _ _ hok hfr ⟨by omega, by omega⟩ (show (t1.1 0 1).toInt * 8 + v_4.toInt = (t.1 0 1).toInt * 8 + 24 from by omega) (show -8 ≤ v_4.toInt from by omega) (show v_4.toInt - (-128 : Int) < (fuel_3 : Int) from by omega) hP hD hS (lv_sub hl [0, 1, 2] rfl)
      refine lv_iload_n C.1 C.2.1 dX11_punchTape_3 rfl (lv_at hl 2 rfl) ?_
      refine lv_if_lt (tgt := 46) C.1 C.2.1 dX11_punchTape_4 (by decide) (fun c_7 => ?_) (fun c_7 => ?_)
      · replace c_7 : w3_2.toInt < 0 := i_lt c_7
        exact g_vret C hr hlocks hP hD hS t1 rfl ⟨hok, hfr, (show (t1.1 0 1).toInt = (t.1 0 1).toInt + 4 from by omega)⟩ (Nat.le_of_ble_eq_true rfl) (Nat.le_of_ble_eq_true rfl) dX11_punchTape_46
      · replace c_7 : 0 ≤ w3_2.toInt := i_nlt c_7
        refine lv_aload_n C.1 C.2.1 dX11_punchTape_7 rfl (lv_at hl 0 rfl) ?_
        refine k_get (v := .int (t1.1 0 1)) C hP 0 rfl rfl inlX11 1 (by decide) m_9_9 rfl dX11_punchTape_8 ?_
        refine lv_sipush (v := 8192) C.1 C.2.1 dX11_punchTape_11 (by decide) ?_
        refine lv_icmp_ge (tgt := 40) C.1 C.2.1 dX11_punchTape_14 (by decide) (fun c_8 => False.elim (by have c_8 : 8192 ≤ (t1.1 0 1).toInt := i_le c_8; omega)) (fun c_8 => ?_)
        replace c_8 : (t1.1 0 1).toInt < 8192 := i_nle c_8
        refine lv_aload_n C.1 C.2.1 dX11_punchTape_17 rfl (lv_at hl 0 rfl) ?_
        refine k_get (v := .ref (ad 1)) C hP 0 rfl rfl inlX11 0 (by decide) m_2_6 rfl dX11_punchTape_18 ?_
        refine lv_aload_n C.1 C.2.1 dX11_punchTape_21 rfl (lv_at hl 0 rfl) ?_
        refine k_get (v := .int (t1.1 0 1)) C hP 0 rfl rfl inlX11 1 (by decide) m_9_9 rfl dX11_punchTape_22 ?_
        refine lv_iload_n C.1 C.2.1 dX11_punchTape_25 rfl (lv_at hl 1 rfl) ?_
        refine lv_iload_n C.1 C.2.1 dX11_punchTape_26 rfl (lv_at hl 2 rfl) ?_
        obtain ⟨v_9, e_10⟩ : ∃ z, z = (x1 : Int32) >>> ((w3_2 : Int32) &&& 31) := ⟨_, rfl⟩
        refine k_ishr (v := v_9) C e_10.symm dX11_punchTape_27 ?_
        obtain ⟨v_12, e_13⟩ : ∃ z, z = (v_9 : Int32).toInt8.toInt32 := ⟨_, rfl⟩
        have h_14 : (-128 : Int) ≤ v_12.toInt ∧ v_12.toInt ≤ 127 := by rw [e_13]; exact nar_byte _
        refine lv_i2b (v := v_12) C.1 C.2.1 dX11_punchTape_28 e_13.symm ?_
        obtain ⟨v_15, e_16⟩ : ∃ z, z = vp_nar .byte v_12 := ⟨_, rfl⟩
        have h_17 : (-128 : Int) ≤ v_15.toInt ∧ v_15.toInt ≤ 127 := by rw [e_16]; exact nar_byte _
        refine k_bst (ws' := (WX d) K ad (uB t1 1 ((t1.1 0 1) : Int32).toNatClampNeg v_15)) (x' := v_15) C hP hD hS 1 rfl (vp_in_iff.mpr ⟨by omega, by omega⟩) rfl e_16.symm rfl dX11_punchTape_29 (fun H locs hP hD hS => ?_)
        have hok : okX (uB t1 1 ((t1.1 0 1) : Int32).toNatClampNeg v_15) := ⟨hok.1, okB_B hok.2.1 1 _ v_15 (show (-128 : Int) ≤ (v_15 : Int32).toInt ∧ (v_15 : Int32).toInt ≤ 127 from ⟨by omega, by omega⟩), trivial⟩
        have hfr : frA [(0, 1)] [] [1] [] t (uB t1 1 ((t1.1 0 1) : Int32).toNatClampNeg v_15) := frA_B hfr 1 _ _ rfl
        refine lv_aload_n C.1 C.2.1 dX11_punchTape_30 rfl (lv_at hl 0 rfl) ?_
        refine lv_dup C.1 C.2.1 dX11_punchTape_31 rfl ?_
        refine k_get (v := .int (t1.1 0 1)) C hP 0 rfl rfl inlX11 1 (by decide) m_9_9 rfl dX11_punchTape_32 ?_
        refine lv_iconst (v := 1) C.1 C.2.1 dX11_punchTape_35 (by decide) ?_
        obtain ⟨v_18, e_19⟩ : ∃ z, z = ((t1.1 0 1) : Int32) + (1 : Int32) := ⟨_, rfl⟩
        have h_20 : v_18.toInt = (t1.1 0 1).toInt + 1 := by rw [e_19]; exact ti_iadd (by show (_ : Int) ≤ (t1.1 0 1).toInt + 1; omega) (by show (t1.1 0 1).toInt + 1 < (_ : Int); omega)
        refine k_iadd (v := v_18) C e_19.symm dX11_punchTape_36 ?_
        refine k_put (ws' := (WX d) K ad (uI (uB t1 1 ((t1.1 0 1) : Int32).toNatClampNeg v_15) 0 1 v_18)) (v := .int v_18) C hP hD hS 0 rfl rfl inlX11 tyX11_ok nmX11 1 (by decide) m_9_9 rfl rfl rfl rfl rfl dX11_punchTape_37 (fun H locs hP hD hS => ?_)
        have hok : okX (uI (uB t1 1 ((t1.1 0 1) : Int32).toNatClampNeg v_15) 0 1 v_18) := ⟨okI_I hok.1 0 1 v_18 (show (0 : Int) ≤ (v_18 : Int32).toInt ∧ (v_18 : Int32).toInt ≤ 1280 from ⟨by omega, by omega⟩), hok.2.1, trivial⟩
        have hfr : frA [(0, 1)] [] [1] [] t (uI (uB t1 1 ((t1.1 0 1) : Int32).toNatClampNeg v_15) 0 1 v_18) := frA_I hfr 0 1 _ rfl
        exact L_40 (uI (uB t1 1 ((t1.1 0 1) : Int32).toNatClampNeg v_15) 0 1 v_18) w3_2 _ _ _ hok hfr ⟨by omega, by omega⟩ (show (1 : Int) ≤ (v_18 : Int32).toInt ∧ (v_18 : Int32).toInt ≤ 1280 from ⟨by omega, by omega⟩) (show v_18.toInt * 8 + w3_2.toInt = (t.1 0 1).toInt * 8 + 32 from by omega) (show 0 ≤ w3_2.toInt from by omega) (show w3_2.toInt - (-128 : Int) < (fuel_3 : Int) + 1 from by omega) hP hD hS (lv_sub hl [0, 1, 2] rfl)
  refine lv_bipush (v := 24) C.1 C.2.1 dX11_punchTape_0 (by decide) ?_
  refine lv_istore_n (lv' := [(2, .int 24), (0, .ref (ad 0)), (1, .int x1)]) C.1 C.2.1 dX11_punchTape_2 rfl hl (by decide) rfl (fun ls hl => ?_)
  have hl : lv_has ls 3 [(0, .ref (ad 0)), (1, .int x1), (2, .int 24)] := lv_sub hl [1, 2, 0] rfl
  exact L_3 153 t 24 _ _ _ hok hfr ⟨by decide, by decide⟩ (show (t.1 0 1).toInt * 8 + 24 = (t.1 0 1).toInt * 8 + 24 from by omega) (show -8 ≤ 24 from by omega) (show 24 - (-128 : Int) < ((153 : Nat) : Int) from by omega) hP hD hS (lv_sub hl [0, 1, 2] rfl)

theorem dX11_useUpTape_0 : decode cX11_useUpTape 0 = .ok (.aload_n 0, 1) := by decide +kernel
theorem dX11_useUpTape_1 : decode cX11_useUpTape 1 = .ok (.getfield 70, 3) := by decide +kernel
theorem dX11_useUpTape_10 : decode cX11_useUpTape 10 = .ok (.iload_n 1, 1) := by decide +kernel
theorem dX11_useUpTape_11 : decode cX11_useUpTape 11 = .ok (.ireturn, 1) := by decide +kernel
theorem dX11_useUpTape_4 : decode cX11_useUpTape 4 = .ok (.istore_n 1, 1) := by decide +kernel
theorem dX11_useUpTape_5 : decode cX11_useUpTape 5 = .ok (.aload_n 0, 1) := by decide +kernel
theorem dX11_useUpTape_6 : decode cX11_useUpTape 6 = .ok (.iconst 0, 1) := by decide +kernel
theorem dX11_useUpTape_7 : decode cX11_useUpTape 7 = .ok (.putfield 70, 3) := by decide +kernel
set_option maxHeartbeats 4000000 in
set_option maxRecDepth 100000 in
theorem T_X11_useUpTape (l : Launch) (D : va_G) (K : Nat → ClassId) (Z Y : Nat → Nat) (ad : Nat → Nat) (d : dSt) (t : tSt) (hok : okX t)  : tMet l yX11_useUpTape cX11_useUpTape 2 (some .int) (rmD 0 0 0) D K Z Y [.ref (ad 0)] ((WX d) K ad t) (QI D K (fun (r : Int32) (u : tSt) => okX u ∧ frA [(0, 1)] [] [] [] t u ∧ (0 : Int) ≤ r.toInt ∧ r.toInt ≤ 3999 ∧ (r.toInt = (t.1 0 1).toInt) ∧ ((u.1 0 1).toInt = 0)) (fun (u : tSt) => (WX d) K ad u)) 0 0 := by
  refine t_met RX11 ⟨rfl, by decide +kernel⟩ (Nat.le_of_ble_eq_true rfl) ?_
  intro p e s m below meth c A ls C hE hZ hr hlocks hA hP hD hS hl
  have hl : lv_has ls 2 [(0, .ref (ad 0))] := hl
  have hokt := hok
  have hfr : frA [(0, 1)] [] [] [] t t := frA_rf
  have h_1 : (0 : Int) ≤ (t.1 0 1).toInt ∧ (t.1 0 1).toInt ≤ 1280 := hok.1 0 1
  refine lv_aload_n C.1 C.2.1 dX11_useUpTape_0 rfl (lv_at hl 0 rfl) ?_
  refine k_get (v := .int (t.1 0 1)) C hP 0 rfl rfl inlX11 1 (by decide) m_9_9 rfl dX11_useUpTape_1 ?_
  refine lv_istore_n (lv' := [(1, .int (t.1 0 1)), (0, .ref (ad 0))]) C.1 C.2.1 dX11_useUpTape_4 rfl hl (by decide) rfl (fun ls hl => ?_)
  have hl : lv_has ls 2 [(0, .ref (ad 0)), (1, .int (t.1 0 1))] := lv_sub hl [1, 0] rfl
  refine lv_aload_n C.1 C.2.1 dX11_useUpTape_5 rfl (lv_at hl 0 rfl) ?_
  refine lv_iconst (v := 0) C.1 C.2.1 dX11_useUpTape_6 (by decide) ?_
  refine k_put (ws' := (WX d) K ad (uI t 0 1 0)) (v := .int 0) C hP hD hS 0 rfl rfl inlX11 tyX11_ok nmX11 1 (by decide) m_9_9 rfl rfl rfl rfl rfl dX11_useUpTape_7 (fun H locs hP hD hS => ?_)
  have hok : okX (uI t 0 1 0) := ⟨okI_I hok.1 0 1 0 (show (0 : Int) ≤ (0 : Int32).toInt ∧ (0 : Int32).toInt ≤ 1280 from ⟨by decide, by decide⟩), hok.2.1, trivial⟩
  have hfr : frA [(0, 1)] [] [] [] t (uI t 0 1 0) := frA_I hfr 0 1 _ rfl
  refine lv_iload_n C.1 C.2.1 dX11_useUpTape_10 rfl (lv_at hl 1 rfl) ?_
  exact g_iret C hr hlocks hP hD hS rfl (uI t 0 1 0) rfl ⟨hok, hfr, by omega, by omega, (show (t.1 0 1).toInt = (t.1 0 1).toInt from by omega), (show 0 = 0 from by omega)⟩ (Nat.le_of_ble_eq_true rfl) (Nat.le_of_ble_eq_true rfl) dX11_useUpTape_11

theorem dX3_entry_0 : decode cX3_entry 0 = .ok (.iload_n 1, 1) := by decide +kernel
theorem dX3_entry_1 : decode cX3_entry 1 = .ok (.ifCond .lt 33, 3) := by decide +kernel
theorem dX3_entry_12 : decode cX3_entry 12 = .ok (.iload_n 2, 1) := by decide +kernel
theorem dX3_entry_13 : decode cX3_entry 13 = .ok (.ifCond .lt 21, 3) := by decide +kernel
theorem dX3_entry_16 : decode cX3_entry 16 = .ok (.iload_n 2, 1) := by decide +kernel
theorem dX3_entry_17 : decode cX3_entry 17 = .ok (.iconst 4, 1) := by decide +kernel
theorem dX3_entry_18 : decode cX3_entry 18 = .ok (.if_icmp .ge 16, 3) := by decide +kernel
theorem dX3_entry_21 : decode cX3_entry 21 = .ok (.aload_n 0, 1) := by decide +kernel
theorem dX3_entry_22 : decode cX3_entry 22 = .ok (.getfield 17, 3) := by decide +kernel
theorem dX3_entry_25 : decode cX3_entry 25 = .ok (.iconst 4, 1) := by decide +kernel
theorem dX3_entry_26 : decode cX3_entry 26 = .ok (.iload_n 1, 1) := by decide +kernel
theorem dX3_entry_27 : decode cX3_entry 27 = .ok (.imul, 1) := by decide +kernel
theorem dX3_entry_28 : decode cX3_entry 28 = .ok (.iload_n 2, 1) := by decide +kernel
theorem dX3_entry_29 : decode cX3_entry 29 = .ok (.iadd, 1) := by decide +kernel
theorem dX3_entry_30 : decode cX3_entry 30 = .ok (.iaload, 1) := by decide +kernel
theorem dX3_entry_31 : decode cX3_entry 31 = .ok (.goto 4, 3) := by decide +kernel
theorem dX3_entry_34 : decode cX3_entry 34 = .ok (.iconst (-1), 1) := by decide +kernel
theorem dX3_entry_35 : decode cX3_entry 35 = .ok (.ireturn, 1) := by decide +kernel
theorem dX3_entry_4 : decode cX3_entry 4 = .ok (.iload_n 1, 1) := by decide +kernel
theorem dX3_entry_5 : decode cX3_entry 5 = .ok (.aload_n 0, 1) := by decide +kernel
theorem dX3_entry_6 : decode cX3_entry 6 = .ok (.getfield 25, 3) := by decide +kernel
theorem dX3_entry_9 : decode cX3_entry 9 = .ok (.if_icmp .ge 25, 3) := by decide +kernel
set_option maxHeartbeats 4000000 in
set_option maxRecDepth 100000 in
theorem T_X3_entry (l : Launch) (D : va_G) (K : Nat → ClassId) (Z Y : Nat → Nat) (ad : Nat → Nat) (d : dSt) (t : tSt) (hok : okX t) (x1 : Int32) (x2 : Int32) : tMet l yX3_entry cX3_entry 3 (some .int) (rmD 0 0 0) D K Z Y [.ref (ad 7), .int x1, .int x2] ((WX d) K ad t) (QI D K (fun (r : Int32) (u : Unit) => (-2147483648 : Int) ≤ r.toInt ∧ r.toInt ≤ 2147483647) (fun (_ : Unit) => (WX d) K ad t)) 0 0 := by
  refine t_met RX3 ⟨rfl, by decide +kernel⟩ (Nat.le_of_ble_eq_true rfl) ?_
  intro p e s m below meth c A ls C hE hZ hr hlocks hA hP hD hS hl
  have hl : lv_has ls 3 [(0, .ref (ad 7)), (1, .int x1), (2, .int x2)] := hl
  refine lv_iload_n C.1 C.2.1 dX3_entry_0 rfl (lv_at hl 1 rfl) ?_
  refine lv_if_lt (tgt := 34) C.1 C.2.1 dX3_entry_1 (by decide) (fun c_1 => ?_) (fun c_1 => ?_)
  · replace c_1 : x1.toInt < 0 := i_lt c_1
    refine lv_iconst (v := (-1)) C.1 C.2.1 dX3_entry_34 (by decide) ?_
    exact g_iret C hr hlocks hP hD hS rfl () rfl ⟨(i_rng _).1, (i_rng _).2⟩ (Nat.le_of_ble_eq_true rfl) (Nat.le_of_ble_eq_true rfl) dX3_entry_35
  · replace c_1 : 0 ≤ x1.toInt := i_nlt c_1
    refine lv_iload_n C.1 C.2.1 dX3_entry_4 rfl (lv_at hl 1 rfl) ?_
    refine lv_aload_n C.1 C.2.1 dX3_entry_5 rfl (lv_at hl 0 rfl) ?_
    have h_2 : (0 : Int) ≤ (t.1 7 12).toInt ∧ (t.1 7 12).toInt ≤ 512 := hok.1 7 12
    refine k_get (v := .int (t.1 7 12)) C hP 7 rfl rfl inlX3 12 (by decide) m_74_8 rfl dX3_entry_6 ?_
    refine lv_icmp_ge (tgt := 34) C.1 C.2.1 dX3_entry_9 (by decide) (fun c_3 => ?_) (fun c_3 => ?_)
    · replace c_3 : (t.1 7 12).toInt ≤ x1.toInt := i_le c_3
      refine lv_iconst (v := (-1)) C.1 C.2.1 dX3_entry_34 (by decide) ?_
      exact g_iret C hr hlocks hP hD hS rfl () rfl ⟨(i_rng _).1, (i_rng _).2⟩ (Nat.le_of_ble_eq_true rfl) (Nat.le_of_ble_eq_true rfl) dX3_entry_35
    · replace c_3 : x1.toInt < (t.1 7 12).toInt := i_nle c_3
      refine lv_iload_n C.1 C.2.1 dX3_entry_12 rfl (lv_at hl 2 rfl) ?_
      refine lv_if_lt (tgt := 34) C.1 C.2.1 dX3_entry_13 (by decide) (fun c_4 => ?_) (fun c_4 => ?_)
      · replace c_4 : x2.toInt < 0 := i_lt c_4
        refine lv_iconst (v := (-1)) C.1 C.2.1 dX3_entry_34 (by decide) ?_
        exact g_iret C hr hlocks hP hD hS rfl () rfl ⟨(i_rng _).1, (i_rng _).2⟩ (Nat.le_of_ble_eq_true rfl) (Nat.le_of_ble_eq_true rfl) dX3_entry_35
      · replace c_4 : 0 ≤ x2.toInt := i_nlt c_4
        refine lv_iload_n C.1 C.2.1 dX3_entry_16 rfl (lv_at hl 2 rfl) ?_
        refine lv_iconst (v := 4) C.1 C.2.1 dX3_entry_17 (by decide) ?_
        refine lv_icmp_ge (tgt := 34) C.1 C.2.1 dX3_entry_18 (by decide) (fun c_5 => ?_) (fun c_5 => ?_)
        · replace c_5 : 4 ≤ x2.toInt := i_le c_5
          refine lv_iconst (v := (-1)) C.1 C.2.1 dX3_entry_34 (by decide) ?_
          exact g_iret C hr hlocks hP hD hS rfl () rfl ⟨(i_rng _).1, (i_rng _).2⟩ (Nat.le_of_ble_eq_true rfl) (Nat.le_of_ble_eq_true rfl) dX3_entry_35
        · replace c_5 : x2.toInt < 4 := i_nle c_5
          refine lv_aload_n C.1 C.2.1 dX3_entry_21 rfl (lv_at hl 0 rfl) ?_
          refine k_get (v := .ref (ad 31)) C hP 7 rfl rfl inlX3 11 (by decide) m_6_22 rfl dX3_entry_22 ?_
          refine lv_iconst (v := 4) C.1 C.2.1 dX3_entry_25 (by decide) ?_
          refine lv_iload_n C.1 C.2.1 dX3_entry_26 rfl (lv_at hl 1 rfl) ?_
          obtain ⟨v_6, e_7⟩ : ∃ z, z = (4 : Int32) * (x1 : Int32) := ⟨_, rfl⟩
          have h_8 : v_6.toInt = 4 * x1.toInt := by rw [e_7]; exact ti_mull (k := 4) (by decide) (by omega) (by omega)
          refine k_imul (v := v_6) C e_7.symm dX3_entry_27 ?_
          refine lv_iload_n C.1 C.2.1 dX3_entry_28 rfl (lv_at hl 2 rfl) ?_
          obtain ⟨v_9, e_10⟩ : ∃ z, z = (v_6 : Int32) + (x2 : Int32) := ⟨_, rfl⟩
          have h_11 : v_9.toInt = v_6.toInt + x2.toInt := by rw [e_10]; exact ti_iadd (by show (_ : Int) ≤ v_6.toInt + x2.toInt; omega) (by show v_6.toInt + x2.toInt < (_ : Int); omega)
          refine k_iadd (v := v_9) C e_10.symm dX3_entry_29 ?_
          obtain ⟨v_12, e_13⟩ : ∃ z, z = (t.2.2.1 31 (v_9 : Int32).toNatClampNeg) := ⟨_, rfl⟩
          refine k_ild (v := v_12) C hP 31 rfl (vp_in_iff.mpr ⟨by omega, by omega⟩) e_13.symm dX3_entry_30 ?_
          refine lv_goto (tgt := 35) C.1 C.2.1 dX3_entry_31 (by decide) ?_
          exact g_iret C hr hlocks hP hD hS rfl () rfl ⟨(i_rng _).1, (i_rng _).2⟩ (Nat.le_of_ble_eq_true rfl) (Nat.le_of_ble_eq_true rfl) dX3_entry_35

theorem dX10_paper_0 : decode cX10_paper 0 = .ok (.iload_n 1, 1) := by decide +kernel
theorem dX10_paper_1 : decode cX10_paper 1 = .ok (.bipush 17, 2) := by decide +kernel
theorem dX10_paper_10 : decode cX10_paper 10 = .ok (.areturn, 1) := by decide +kernel
theorem dX10_paper_11 : decode cX10_paper 11 = .ok (.iload_n 1, 1) := by decide +kernel
theorem dX10_paper_12 : decode cX10_paper 12 = .ok (.bipush 18, 2) := by decide +kernel
theorem dX10_paper_14 : decode cX10_paper 14 = .ok (.if_icmp .ne 10, 3) := by decide +kernel
theorem dX10_paper_17 : decode cX10_paper 17 = .ok (.aload_n 0, 1) := by decide +kernel
theorem dX10_paper_18 : decode cX10_paper 18 = .ok (.getfield 51, 3) := by decide +kernel
theorem dX10_paper_21 : decode cX10_paper 21 = .ok (.goto 7, 3) := by decide +kernel
theorem dX10_paper_24 : decode cX10_paper 24 = .ok (.aload_n 0, 1) := by decide +kernel
theorem dX10_paper_25 : decode cX10_paper 25 = .ok (.getfield 54, 3) := by decide +kernel
theorem dX10_paper_28 : decode cX10_paper 28 = .ok (.areturn, 1) := by decide +kernel
theorem dX10_paper_3 : decode cX10_paper 3 = .ok (.if_icmp .ne 8, 3) := by decide +kernel
theorem dX10_paper_6 : decode cX10_paper 6 = .ok (.aload_n 0, 1) := by decide +kernel
theorem dX10_paper_7 : decode cX10_paper 7 = .ok (.getfield 47, 3) := by decide +kernel
set_option maxHeartbeats 4000000 in
set_option maxRecDepth 100000 in
theorem T_X10_paper (l : Launch) (D : va_G) (K : Nat → ClassId) (Z Y : Nat → Nat) (ad : Nat → Nat) (d : dSt) (t : tSt) (hok : okX t) (x1 : Int32) (hx1 : (16 : Int) ≤ x1.toInt ∧ x1.toInt ≤ 19) : tMet l yX10_paper cX10_paper 2 (some (.object "SixBitBoard$Paper")) (rmD 0 0 0) D K Z Y [.ref (ad 3), .int x1] ((WX d) K ad t) (QR D K (fun (u : Nat) => (u = 19 ∨ u = 20 ∨ u = 21)) (fun u => ad u) (fun (_ : Nat) => (WX d) K ad t)) 0 0 := by
  refine t_met RX10 ⟨rfl, by decide +kernel⟩ (Nat.le_of_ble_eq_true rfl) ?_
  intro p e s m below meth c A ls C hE hZ hr hlocks hA hP hD hS hl
  have hl : lv_has ls 2 [(0, .ref (ad 3)), (1, .int x1)] := hl
  refine lv_iload_n C.1 C.2.1 dX10_paper_0 rfl (lv_at hl 1 rfl) ?_
  refine lv_bipush (v := 17) C.1 C.2.1 dX10_paper_1 (by decide) ?_
  refine lv_icmp_ne (tgt := 11) C.1 C.2.1 dX10_paper_3 (by decide) (fun c_1 => ?_) (fun c_1 => ?_)
  · replace c_1 : ¬ x1.toInt = 17 := i_ne c_1
    refine lv_iload_n C.1 C.2.1 dX10_paper_11 rfl (lv_at hl 1 rfl) ?_
    refine lv_bipush (v := 18) C.1 C.2.1 dX10_paper_12 (by decide) ?_
    refine lv_icmp_ne (tgt := 24) C.1 C.2.1 dX10_paper_14 (by decide) (fun c_2 => ?_) (fun c_2 => ?_)
    · replace c_2 : ¬ x1.toInt = 18 := i_ne c_2
      refine lv_aload_n C.1 C.2.1 dX10_paper_24 rfl (lv_at hl 0 rfl) ?_
      refine k_get (v := .ref (ad 21)) C hP 3 rfl rfl inlX10 12 (by decide) m_3_23 rfl dX10_paper_25 ?_
      exact g_rret C hr hlocks hP hD hS (Or.inl ⟨_, rfl⟩) 21 rfl rfl (by decide) (Nat.le_of_ble_eq_true rfl) (Nat.le_of_ble_eq_true rfl) dX10_paper_28
    · replace c_2 : x1.toInt = 18 := i_eq c_2
      refine lv_aload_n C.1 C.2.1 dX10_paper_17 rfl (lv_at hl 0 rfl) ?_
      refine k_get (v := .ref (ad 20)) C hP 3 rfl rfl inlX10 11 (by decide) m_3_22 rfl dX10_paper_18 ?_
      refine lv_goto (tgt := 28) C.1 C.2.1 dX10_paper_21 (by decide) ?_
      exact g_rret C hr hlocks hP hD hS (Or.inl ⟨_, rfl⟩) 20 rfl rfl (by decide) (Nat.le_of_ble_eq_true rfl) (Nat.le_of_ble_eq_true rfl) dX10_paper_28
  · replace c_1 : x1.toInt = 17 := i_eq c_1
    refine lv_aload_n C.1 C.2.1 dX10_paper_6 rfl (lv_at hl 0 rfl) ?_
    refine k_get (v := .ref (ad 19)) C hP 3 rfl rfl inlX10 10 (by decide) m_3_21 rfl dX10_paper_7 ?_
    exact g_rret C hr hlocks hP hD hS (Or.inl ⟨_, rfl⟩) 19 rfl rfl (by decide) (Nat.le_of_ble_eq_true rfl) (Nat.le_of_ble_eq_true rfl) dX10_paper_10

theorem dX1_value_0 : decode cX1_value 0 = .ok (.iload_n 0, 1) := by decide +kernel
theorem dX1_value_1 : decode cX1_value 1 = .ok (.ldc 11, 2) := by decide +kernel
theorem dX1_value_10 : decode cX1_value 10 = .ok (.iand, 1) := by decide +kernel
theorem dX1_value_11 : decode cX1_value 11 = .ok (.ineg, 1) := by decide +kernel
theorem dX1_value_12 : decode cX1_value 12 = .ok (.goto 7, 3) := by decide +kernel
theorem dX1_value_15 : decode cX1_value 15 = .ok (.iload_n 0, 1) := by decide +kernel
theorem dX1_value_16 : decode cX1_value 16 = .ok (.ldc 12, 2) := by decide +kernel
theorem dX1_value_18 : decode cX1_value 18 = .ok (.iand, 1) := by decide +kernel
theorem dX1_value_19 : decode cX1_value 19 = .ok (.ireturn, 1) := by decide +kernel
theorem dX1_value_3 : decode cX1_value 3 = .ok (.iand, 1) := by decide +kernel
theorem dX1_value_4 : decode cX1_value 4 = .ok (.ifCond .eq 11, 3) := by decide +kernel
theorem dX1_value_7 : decode cX1_value 7 = .ok (.iload_n 0, 1) := by decide +kernel
theorem dX1_value_8 : decode cX1_value 8 = .ok (.ldc 12, 2) := by decide +kernel
set_option maxHeartbeats 4000000 in
set_option maxRecDepth 100000 in
theorem T_X1_value (l : Launch) (D : va_G) (K : Nat → ClassId) (Z Y : Nat → Nat) (ad : Nat → Nat) (d : dSt) (t : tSt) (hok : okX t) (x0 : Int32) : tMet l yX1_value cX1_value 1 (some .int) (rmD 0 0 0) D K Z Y [.int x0] ((WX d) K ad t) (QI D K (fun (r : Int32) (u : Unit) => (-1073741824 : Int) ≤ r.toInt ∧ r.toInt ≤ 1073741823) (fun (_ : Unit) => (WX d) K ad t)) 0 0 := by
  refine t_met RX1 ⟨rfl, by decide +kernel⟩ (Nat.le_of_ble_eq_true rfl) ?_
  intro p e s m below meth c A ls C hE hZ hr hlocks hA hP hD hS hl
  have hl : lv_has ls 1 [(0, .int x0)] := hl
  refine lv_iload_n C.1 C.2.1 dX1_value_0 rfl (lv_at hl 0 rfl) ?_
  refine lv_ldc (v := 1073741824) C.1 C.2.1 C.2.2.2.1 (C.2.2.2.2.1 _ m_22_17) dX1_value_1 ?_
  obtain ⟨v_1, e_2⟩ : ∃ z, z = (x0 : Int32) &&& (1073741824 : Int32) := ⟨_, rfl⟩
  have h_3 : (0 : Int) ≤ v_1.toInt ∧ v_1.toInt ≤ 1073741824 := by rw [e_2]; exact z_and _ (k := 1073741824) (by decide) (by decide)
  refine k_iand (v := v_1) C e_2.symm dX1_value_3 ?_
  refine lv_if_eq (tgt := 15) C.1 C.2.1 dX1_value_4 (by decide) (fun c_4 => ?_) (fun c_4 => ?_)
  · replace c_4 : v_1.toInt = 0 := i_eq c_4
    refine lv_iload_n C.1 C.2.1 dX1_value_15 rfl (lv_at hl 0 rfl) ?_
    refine lv_ldc (v := 1073741823) C.1 C.2.1 C.2.2.2.1 (C.2.2.2.2.1 _ m_23_11) dX1_value_16 ?_
    obtain ⟨v_5, e_6⟩ : ∃ z, z = (x0 : Int32) &&& (1073741823 : Int32) := ⟨_, rfl⟩
    have h_7 : v_5.toInt = x0.toInt % 2 ^ 30 := by rw [e_6]; exact Jvm.Kit.i32_mask _ _ (k := 30) (by decide) (by decide)
    refine k_iand (v := v_5) C e_6.symm dX1_value_18 ?_
    exact g_iret C hr hlocks hP hD hS rfl () rfl ⟨by omega, by omega⟩ (Nat.le_of_ble_eq_true rfl) (Nat.le_of_ble_eq_true rfl) dX1_value_19
  · replace c_4 : ¬ v_1.toInt = 0 := i_ne c_4
    refine lv_iload_n C.1 C.2.1 dX1_value_7 rfl (lv_at hl 0 rfl) ?_
    refine lv_ldc (v := 1073741823) C.1 C.2.1 C.2.2.2.1 (C.2.2.2.2.1 _ m_23_11) dX1_value_8 ?_
    obtain ⟨v_8, e_9⟩ : ∃ z, z = (x0 : Int32) &&& (1073741823 : Int32) := ⟨_, rfl⟩
    have h_10 : v_8.toInt = x0.toInt % 2 ^ 30 := by rw [e_9]; exact Jvm.Kit.i32_mask _ _ (k := 30) (by decide) (by decide)
    refine k_iand (v := v_8) C e_9.symm dX1_value_10 ?_
    obtain ⟨v_11, e_12⟩ : ∃ z, z = -(v_8 : Int32) := ⟨_, rfl⟩
    have h_13 : v_11.toInt = -v_8.toInt := by rw [e_12]; exact Jvm.Kit.i32_neg (by show ¬ v_8.toInt = (_ : Int); omega)
    refine k_ineg (v := v_11) C e_12.symm dX1_value_11 ?_
    refine lv_goto (tgt := 19) C.1 C.2.1 dX1_value_12 (by decide) ?_
    exact g_iret C hr hlocks hP hD hS rfl () rfl ⟨by omega, by omega⟩ (Nat.le_of_ble_eq_true rfl) (Nat.le_of_ble_eq_true rfl) dX1_value_19

theorem dX10_free_0 : decode cX10_free 0 = .ok (.aload_n 0, 1) := by decide +kernel
theorem dX10_free_1 : decode cX10_free 1 = .ok (.getfield 20, 3) := by decide +kernel
theorem dX10_free_10 : decode cX10_free 10 = .ok (.iload_n 1, 1) := by decide +kernel
theorem dX10_free_11 : decode cX10_free 11 = .ok (.bipush 16, 2) := by decide +kernel
theorem dX10_free_13 : decode cX10_free 13 = .ok (.if_icmp .gt 16, 3) := by decide +kernel
theorem dX10_free_16 : decode cX10_free 16 = .ok (.aload_n 0, 1) := by decide +kernel
theorem dX10_free_17 : decode cX10_free 17 = .ok (.getfield 27, 3) := by decide +kernel
theorem dX10_free_20 : decode cX10_free 20 = .ok (.iload_n 1, 1) := by decide +kernel
theorem dX10_free_21 : decode cX10_free 21 = .ok (.iconst 0, 1) := by decide +kernel
theorem dX10_free_22 : decode cX10_free 22 = .ok (.bastore, 1) := by decide +kernel
theorem dX10_free_23 : decode cX10_free 23 = .ok (.iinc 1 1, 3) := by decide +kernel
theorem dX10_free_26 : decode cX10_free 26 = .ok (.goto (-16), 3) := by decide +kernel
theorem dX10_free_29 : decode cX10_free 29 = .ok (.aload_n 0, 1) := by decide +kernel
theorem dX10_free_30 : decode cX10_free 30 = .ok (.iconst 0, 1) := by decide +kernel
theorem dX10_free_31 : decode cX10_free 31 = .ok (.putfield 66, 3) := by decide +kernel
theorem dX10_free_34 : decode cX10_free 34 = .ok (.return_, 1) := by decide +kernel
theorem dX10_free_4 : decode cX10_free 4 = .ok (.lconst 0, 1) := by decide +kernel
theorem dX10_free_5 : decode cX10_free 5 = .ok (.invokestatic 60, 3) := by decide +kernel
theorem dX10_free_8 : decode cX10_free 8 = .ok (.iconst 0, 1) := by decide +kernel
theorem dX10_free_9 : decode cX10_free 9 = .ok (.istore_n 1, 1) := by decide +kernel
set_option maxHeartbeats 4000000 in
set_option maxRecDepth 100000 in
theorem T_X10_free (l : Launch) (D : va_G) (K : Nat → ClassId) (Z Y : Nat → Nat) (ad : Nat → Nat) (d : dSt) (t : tSt) (hok : okX t)  : tMet l yX10_free cX10_free 2 none (rmD 1 0 0) D K Z Y [.ref (ad 3)] ((WX d) K ad t) (QV D K (fun (u : tSt) => okX u ∧ frA [(3, 8)] [] [15] [13] t u) (fun (u : tSt) => (WX d) K ad u)) 0 0 := by
  refine t_met RX10 ⟨rfl, by decide +kernel⟩ (Nat.le_of_ble_eq_true rfl) ?_
  intro p e s m below meth c A ls C hE hZ hr hlocks hA hP hD hS hl
  have hl : lv_has ls 2 [(0, .ref (ad 3))] := hl
  have hokt := hok
  have hfr : frA [(3, 8)] [] [15] [13] t t := frA_rf
  have L_10 : ∀ (fuel_10 : Nat) (t1 : tSt) (w10_1 : Int32) (H : Heap) (locs : List Loc) (ls : Array Slot), okX t1 → frA [(3, 8)] [] [15] [13] t t1 → (0 : Int) ≤ w10_1.toInt ∧ w10_1.toInt ≤ 17 → (17 : Int) - w10_1.toInt < (fuel_10 : Int) → va_P D vwCl ((WX d) K ad t1) H → va_D A ((WX d) K ad t1) → va_S A s.heap H locs → lv_has ls 2 [(0, .ref (ad 3)), (1, .int w10_1)] → W p l e (rmD 1 0 0) s m [.ref (ad 3)].toArray below meth c H locs 0 0 (MQ below (QV D K (fun (u : tSt) => okX u ∧ frA [(3, 8)] [] [15] [13] t u) (fun (u : tSt) => (WX d) K ad u) A) [.ref (ad 3)].toArray s 0 0 A) (F0 m 10 ls []) := by
    intro fuel_10
    induction fuel_10 with
    | zero =>
      intro t1 w10_1 H locs ls hok hfr hw10_1 hm10_10 hP hD hS hl
      exact absurd hm10_10 (by omega)
    | succ fuel_10 ih_10 =>
      intro t1 w10_1 H locs ls hok hfr hw10_1 hm10_10 hP hD hS hl
      have hm10_10 : (17 : Int) - w10_1.toInt < (fuel_10 : Int) + 1 := by omega
      refine lv_iload_n C.1 C.2.1 dX10_free_10 rfl (lv_at hl 1 rfl) ?_
      refine lv_bipush (v := 16) C.1 C.2.1 dX10_free_11 (by decide) ?_
      refine lv_icmp_gt (tgt := 29) C.1 C.2.1 dX10_free_13 (by decide) (fun c_1 => ?_) (fun c_1 => ?_)
      · replace c_1 : 16 < w10_1.toInt := i_lt c_1
        refine lv_aload_n C.1 C.2.1 dX10_free_29 rfl (lv_at hl 0 rfl) ?_
        refine lv_iconst (v := 0) C.1 C.2.1 dX10_free_30 (by decide) ?_
        refine k_put (ws' := (WX d) K ad (uI t1 3 8 0)) (v := .int 0) C hP hD hS 3 rfl rfl inlX10 tyX10_ok nmX10 8 (by decide) m_11_18 rfl rfl rfl rfl rfl dX10_free_31 (fun H locs hP hD hS => ?_)
        have hok : okX (uI t1 3 8 0) := ⟨okI_I hok.1 3 8 0 (show (-2147483648 : Int) ≤ (0 : Int32).toInt ∧ (0 : Int32).toInt ≤ 2147483647 from (i_rng _)), hok.2.1, trivial⟩
        have hfr : frA [(3, 8)] [] [15] [13] t (uI t1 3 8 0) := frA_I hfr 3 8 _ rfl
        exact g_vret C hr hlocks hP hD hS (uI t1 3 8 0) rfl ⟨hok, hfr⟩ (Nat.le_of_ble_eq_true rfl) (Nat.le_of_ble_eq_true rfl) dX10_free_34
      · replace c_1 : w10_1.toInt ≤ 16 := i_nlt c_1
        refine lv_aload_n C.1 C.2.1 dX10_free_16 rfl (lv_at hl 0 rfl) ?_
        refine k_get (v := .ref (ad 15)) C hP 3 rfl rfl inlX10 5 (by decide) m_3_11 rfl dX10_free_17 ?_
        refine lv_iload_n C.1 C.2.1 dX10_free_20 rfl (lv_at hl 1 rfl) ?_
        refine lv_iconst (v := 0) C.1 C.2.1 dX10_free_21 (by decide) ?_
        obtain ⟨v_2, e_3⟩ : ∃ z, z = vp_nar .boolean 0 := ⟨_, rfl⟩
        have h_4 : (0 : Int) ≤ v_2.toInt ∧ v_2.toInt ≤ 1 := by rw [e_3]; exact nar_boolean _
        refine k_zst (ws' := (WX d) K ad (uB t1 15 (w10_1 : Int32).toNatClampNeg v_2)) (x' := v_2) C hP hD hS 15 rfl (vp_in_iff.mpr ⟨by omega, by omega⟩) rfl e_3.symm rfl dX10_free_22 (fun H locs hP hD hS => ?_)
        have hok : okX (uB t1 15 (w10_1 : Int32).toNatClampNeg v_2) := ⟨hok.1, okB_B hok.2.1 15 _ v_2 (show (0 : Int) ≤ (v_2 : Int32).toInt ∧ (v_2 : Int32).toInt ≤ 1 from ⟨by omega, by omega⟩), trivial⟩
        have hfr : frA [(3, 8)] [] [15] [13] t (uB t1 15 (w10_1 : Int32).toNatClampNeg v_2) := frA_B hfr 15 _ _ rfl
        obtain ⟨v_5, e_6⟩ : ∃ z, z = w10_1 + 1 := ⟨_, rfl⟩
        have h_7 : v_5.toInt = w10_1.toInt + 1 := by rw [e_6]; exact ti_iadd (by show (_ : Int) ≤ w10_1.toInt + 1; omega) (by show w10_1.toInt + 1 < (_ : Int); omega)
        refine lv_iinc (v := v_5) (lv' := [(1, .int v_5), (0, .ref (ad 3))]) C.1 C.2.1 dX10_free_23 hl (k := 1) rfl e_6.symm (by decide) rfl (fun ls hl => ?_)
        have hl : lv_has ls 2 [(0, .ref (ad 3)), (1, .int v_5)] := lv_sub hl [1, 0] rfl
        refine lv_goto (tgt := 10) C.1 C.2.1 dX10_free_26 (by decide) ?_
        exact ih_10 (uB t1 15 (w10_1 : Int32).toNatClampNeg v_2) v_5 _ _ _ hok hfr ⟨by omega, by omega⟩ (show (17 : Int) - v_5.toInt < (fuel_10 : Int) from by omega) hP hD hS (lv_sub hl [0, 1] rfl)
  refine lv_aload_n C.1 C.2.1 dX10_free_0 rfl (lv_at hl 0 rfl) ?_
  refine k_get (v := .ref (ad 13)) C hP 3 rfl rfl inlX10 3 (by decide) m_3_8 rfl dX10_free_1 ?_
  refine lv_lconst (v := 0) C.1 C.2.1 dX10_free_4 (by decide) ?_
  refine g_Sv (W' := fun (_ : Unit) => (WX d) K ad (fG t 13 0)) (As := [.ref (ad 13), .long 0]) (rest := []) C hP hD hS hA (TJ_fillL l D K Z Y ((WX d) K ad t) 13 (ad 13) 20 (by decide) _ 0 0 rfl rfl) hE hZ (uwS m_11_19 m_11_20 m_11_12 m_11_21) (hdS 2 (by decide +kernel) rfl) ⟨Nat.le_of_ble_eq_true rfl, Nat.le_of_ble_eq_true rfl⟩ rfl rfl rfl hl.1 (Nat.le_of_ble_eq_true rfl) dX10_free_5 ⟨Nat.le_of_ble_eq_true rfl, Nat.le_of_ble_eq_true rfl⟩ (fun u_ H locs hw hP hD hS => ?_)
  have hok : okX (fG t 13 0) := ⟨hok.1, hok.2.1, trivial⟩
  have hfr : frA [(3, 8)] [] [15] [13] t (fG t 13 0) := frA_fG hfr 13 _ rfl
  refine lv_iconst (v := 0) C.1 C.2.1 dX10_free_8 (by decide) ?_
  refine lv_istore_n (lv' := [(1, .int 0), (0, .ref (ad 3))]) C.1 C.2.1 dX10_free_9 rfl hl (by decide) rfl (fun ls hl => ?_)
  have hl : lv_has ls 2 [(0, .ref (ad 3)), (1, .int 0)] := lv_sub hl [1, 0] rfl
  exact L_10 18 (fG t 13 0) 0 _ _ _ hok hfr ⟨by decide, by decide⟩ (show (17 : Int) - 0 < ((18 : Nat) : Int) from by omega) hP hD hS (lv_sub hl [0, 1] rfl)

theorem dX9_reopen_0 : decode cX9_reopen 0 = .ok (.aload_n 0, 1) := by decide +kernel
theorem dX9_reopen_1 : decode cX9_reopen 1 = .ok (.aload_n 0, 1) := by decide +kernel
theorem dX9_reopen_10 : decode cX9_reopen 10 = .ok (.putfield 40, 3) := by decide +kernel
theorem dX9_reopen_13 : decode cX9_reopen 13 = .ok (.return_, 1) := by decide +kernel
theorem dX9_reopen_2 : decode cX9_reopen 2 = .ok (.getfield 24, 3) := by decide +kernel
theorem dX9_reopen_5 : decode cX9_reopen 5 = .ok (.putfield 37, 3) := by decide +kernel
theorem dX9_reopen_8 : decode cX9_reopen 8 = .ok (.aload_n 0, 1) := by decide +kernel
theorem dX9_reopen_9 : decode cX9_reopen 9 = .ok (.iconst 0, 1) := by decide +kernel
set_option maxHeartbeats 4000000 in
set_option maxRecDepth 100000 in
theorem T_X9_reopen (l : Launch) (D : va_G) (K : Nat → ClassId) (Z Y : Nat → Nat) (ad : Nat → Nat) (d : dSt) (t : tSt) (hok : okX t)  : tMet l yX9_reopen cX9_reopen 1 none (rmD 0 0 0) D K Z Y [.ref (ad 29)] ((WX d) K ad t) (QV D K (fun (u : tSt) => okX u ∧ frA [(29, 4), (29, 5)] [] [] [] t u ∧ ((u.1 29 4).toInt = (t.1 29 6).toInt)) (fun (u : tSt) => (WX d) K ad u)) 0 0 := by
  refine t_met RX9 ⟨rfl, by decide +kernel⟩ (Nat.le_of_ble_eq_true rfl) ?_
  intro p e s m below meth c A ls C hE hZ hr hlocks hA hP hD hS hl
  have hl : lv_has ls 1 [(0, .ref (ad 29))] := hl
  have hokt := hok
  have hfr : frA [(29, 4), (29, 5)] [] [] [] t t := frA_rf
  have h_1 : (0 : Int) ≤ (t.1 29 4).toInt ∧ (t.1 29 4).toInt ≤ 1281 := hok.1 29 4
  have h_2 : (0 : Int) ≤ (t.1 29 6).toInt ∧ (t.1 29 6).toInt ≤ 0 := hok.1 29 6
  refine lv_aload_n C.1 C.2.1 dX9_reopen_0 rfl (lv_at hl 0 rfl) ?_
  refine lv_aload_n C.1 C.2.1 dX9_reopen_1 rfl (lv_at hl 0 rfl) ?_
  refine k_get (v := .int (t.1 29 6)) C hP 29 rfl rfl inlX9 6 (by decide) m_12_17 rfl dX9_reopen_2 ?_
  refine k_put (ws' := (WX d) K ad (uI t 29 4 (t.1 29 6))) (v := .int (t.1 29 6)) C hP hD hS 29 rfl rfl inlX9 tyX9_ok nmX9 4 (by decide) m_13_2 rfl rfl rfl rfl rfl dX9_reopen_5 (fun H locs hP hD hS => ?_)
  have hok : okX (uI t 29 4 (t.1 29 6)) := ⟨okI_I hok.1 29 4 (t.1 29 6) (show (0 : Int) ≤ ((t.1 29 6) : Int32).toInt ∧ ((t.1 29 6) : Int32).toInt ≤ 1281 from ⟨by omega, by omega⟩), hok.2.1, trivial⟩
  have hfr : frA [(29, 4), (29, 5)] [] [] [] t (uI t 29 4 (t.1 29 6)) := frA_I hfr 29 4 _ rfl
  refine lv_aload_n C.1 C.2.1 dX9_reopen_8 rfl (lv_at hl 0 rfl) ?_
  refine lv_iconst (v := 0) C.1 C.2.1 dX9_reopen_9 (by decide) ?_
  refine k_put (ws' := (WX d) K ad (uI (uI t 29 4 (t.1 29 6)) 29 5 0)) (v := .int 0) C hP hD hS 29 rfl rfl inlX9 tyX9_ok nmX9 5 (by decide) m_13_3 rfl rfl rfl rfl rfl dX9_reopen_10 (fun H locs hP hD hS => ?_)
  have hok : okX (uI (uI t 29 4 (t.1 29 6)) 29 5 0) := ⟨okI_I hok.1 29 5 0 (show (-2147483648 : Int) ≤ (0 : Int32).toInt ∧ (0 : Int32).toInt ≤ 2147483647 from (i_rng _)), hok.2.1, trivial⟩
  have hfr : frA [(29, 4), (29, 5)] [] [] [] t (uI (uI t 29 4 (t.1 29 6)) 29 5 0) := frA_I hfr 29 5 _ rfl
  exact g_vret C hr hlocks hP hD hS (uI (uI t 29 4 (t.1 29 6)) 29 5 0) rfl ⟨hok, hfr, (show (t.1 29 6).toInt = (t.1 29 6).toInt from by omega)⟩ (Nat.le_of_ble_eq_true rfl) (Nat.le_of_ble_eq_true rfl) dX9_reopen_13

theorem dX1_code_0 : decode cX1_code 0 = .ok (.iload_n 0, 1) := by decide +kernel
theorem dX1_code_1 : decode cX1_code 1 = .ok (.sipush 255, 3) := by decide +kernel
theorem dX1_code_12 : decode cX1_code 12 = .ok (.iload_n 1, 1) := by decide +kernel
theorem dX1_code_13 : decode cX1_code 13 = .ok (.bipush 122, 2) := by decide +kernel
theorem dX1_code_15 : decode cX1_code 15 = .ok (.if_icmp .gt 6, 3) := by decide +kernel
theorem dX1_code_18 : decode cX1_code 18 = .ok (.iinc 1 (-32), 3) := by decide +kernel
theorem dX1_code_21 : decode cX1_code 21 = .ok (.ldc 33, 2) := by decide +kernel
theorem dX1_code_23 : decode cX1_code 23 = .ok (.iload_n 1, 1) := by decide +kernel
theorem dX1_code_24 : decode cX1_code 24 = .ok (.i2c, 1) := by decide +kernel
theorem dX1_code_25 : decode cX1_code 25 = .ok (.invokevirtual 35, 3) := by decide +kernel
theorem dX1_code_28 : decode cX1_code 28 = .ok (.iconst 0, 1) := by decide +kernel
theorem dX1_code_29 : decode cX1_code 29 = .ok (.invokestatic 26, 3) := by decide +kernel
theorem dX1_code_32 : decode cX1_code 32 = .ok (.ireturn, 1) := by decide +kernel
theorem dX1_code_4 : decode cX1_code 4 = .ok (.iand, 1) := by decide +kernel
theorem dX1_code_5 : decode cX1_code 5 = .ok (.istore_n 1, 1) := by decide +kernel
theorem dX1_code_6 : decode cX1_code 6 = .ok (.iload_n 1, 1) := by decide +kernel
theorem dX1_code_7 : decode cX1_code 7 = .ok (.bipush 97, 2) := by decide +kernel
theorem dX1_code_9 : decode cX1_code 9 = .ok (.if_icmp .lt 12, 3) := by decide +kernel
set_option maxHeartbeats 4000000 in
set_option maxRecDepth 100000 in
theorem T_X1_code (l : Launch) (D : va_G) (K : Nat → ClassId) (Z Y : Nat → Nat) (ad : Nat → Nat) (d : dSt) (t : tSt) (hok : okX t) (x0 : Int32) (hx0 : (-128 : Int) ≤ x0.toInt ∧ x0.toInt ≤ 127) : tMet l yX1_code cX1_code 2 (some .int) (rmD 5 0 0) D K Z Y [.int x0] ((WX d) K ad t) (QI D K (fun (r : Int32) (u : Unit) => (0 : Int) ≤ r.toInt ∧ r.toInt ≤ 399) (fun (_ : Unit) => (WX d) K ad t)) 0 0 := by
  refine t_met RX1 ⟨rfl, by decide +kernel⟩ (Nat.le_of_ble_eq_true rfl) ?_
  intro p e s m below meth c A ls C hE hZ hr hlocks hA hP hD hS hl
  have hl : lv_has ls 2 [(0, .int x0)] := hl
  have L_21 : ∀ (w21_1 : Int32) (H : Heap) (locs : List Loc) (ls : Array Slot), (0 : Int) ≤ w21_1.toInt ∧ w21_1.toInt ≤ 255 → va_P D vwCl ((WX d) K ad t) H → va_D A ((WX d) K ad t) → va_S A s.heap H locs → lv_has ls 2 [(0, .int x0), (1, .int w21_1)] → W p l e (rmD 5 0 0) s m [.int x0].toArray below meth c H locs 0 0 (MQ below (QI D K (fun (r : Int32) (u : Unit) => (0 : Int) ≤ r.toInt ∧ r.toInt ≤ 399) (fun (_ : Unit) => (WX d) K ad t) A) [.int x0].toArray s 0 0 A) (F0 m 21 ls []) := by
    intro w21_1 H locs ls hw21_1 hP hD hS hl
    refine va_ldcS C.1 C.2.1 C.2.2.2.1 (hE.2 0 (by decide)) dX1_code_21 ?_
    refine lv_iload_n C.1 C.2.1 dX1_code_23 rfl (lv_at hl 1 rfl) ?_
    obtain ⟨v_1, e_2⟩ : ∃ z, z = ((w21_1 : Int32).toUInt32 % 65536).toInt32 := ⟨_, rfl⟩
    have h_3 : (0 : Int) ≤ v_1.toInt ∧ v_1.toInt ≤ 65535 := by rw [e_2]; exact nar_char _
    refine lv_i2c (v := v_1) C.1 C.2.1 dX1_code_24 e_2.symm ?_
    refine g_Ti (As := [.int v_1]) (rest := []) C hP hD hS hA (TJ_indexOf l D K Z Y ((WX d) K ad t) 0 (by decide) (by decide) v_1) hE hZ (uwV m_14_5 m_14_6 m_14_7 m_14_8 m_14_9) (hdV 1 (by decide +kernel) rfl) ⟨Nat.le_of_ble_eq_true rfl, Nat.le_of_ble_eq_true rfl⟩ rfl rfl (i0 := 0) (by decide) rfl rfl hl.1 (Nat.le_of_ble_eq_true rfl) dX1_code_25 ⟨Nat.le_of_ble_eq_true rfl, Nat.le_of_ble_eq_true rfl⟩ (fun r_4 u_r_4 H locs hw hP hD hS => ?_)
    have er_4 : r_4 = sIx 0 (v_1) := hw
    have h_5 : (-1 : Int) ≤ r_4.toInt ∧ r_4.toInt ≤ 55 := by rw [er_4]; exact sIx_r0 _
    refine lv_iconst (v := 0) C.1 C.2.1 dX1_code_28 (by decide) ?_
    obtain ⟨v_7, e_6⟩ : ∃ z, z = if (r_4 : Int32) < (0 : Int32) then (0 : Int32) else (r_4 : Int32) := ⟨_, rfl⟩
    have h_8 : (0 : Int32).toInt = 0 := rfl
    have h_9 := mx_r e_6
    refine k_mmax (v := v_7) C hl.1 m_14_4 m_12_14 m_12_15 m_12_16 (Nat.le_of_ble_eq_true rfl) (Nat.le_of_ble_eq_true rfl) (Nat.le_of_ble_eq_true rfl) (Nat.le_of_ble_eq_true rfl) e_6.symm dX1_code_29 ?_
    exact g_iret C hr hlocks hP hD hS rfl () rfl ⟨by omega, by omega⟩ (Nat.le_of_ble_eq_true rfl) (Nat.le_of_ble_eq_true rfl) dX1_code_32
  refine lv_iload_n C.1 C.2.1 dX1_code_0 rfl (lv_at hl 0 rfl) ?_
  refine lv_sipush (v := 255) C.1 C.2.1 dX1_code_1 (by decide) ?_
  obtain ⟨v_10, e_11⟩ : ∃ z, z = (x0 : Int32) &&& (255 : Int32) := ⟨_, rfl⟩
  have h_12 : v_10.toInt = x0.toInt % 2 ^ 8 := by rw [e_11]; exact Jvm.Kit.i32_mask _ _ (k := 8) (by decide) (by decide)
  refine k_iand (v := v_10) C e_11.symm dX1_code_4 ?_
  refine lv_istore_n (lv' := [(1, .int v_10), (0, .int x0)]) C.1 C.2.1 dX1_code_5 rfl hl (by decide) rfl (fun ls hl => ?_)
  have hl : lv_has ls 2 [(0, .int x0), (1, .int v_10)] := lv_sub hl [1, 0] rfl
  refine lv_iload_n C.1 C.2.1 dX1_code_6 rfl (lv_at hl 1 rfl) ?_
  refine lv_bipush (v := 97) C.1 C.2.1 dX1_code_7 (by decide) ?_
  refine lv_icmp_lt (tgt := 21) C.1 C.2.1 dX1_code_9 (by decide) (fun c_13 => ?_) (fun c_13 => ?_)
  · replace c_13 : v_10.toInt < 97 := i_lt c_13
    exact L_21 v_10 _ _ _ ⟨by omega, by omega⟩ hP hD hS (lv_sub hl [0, 1] rfl)
  · replace c_13 : 97 ≤ v_10.toInt := i_nlt c_13
    refine lv_iload_n C.1 C.2.1 dX1_code_12 rfl (lv_at hl 1 rfl) ?_
    refine lv_bipush (v := 122) C.1 C.2.1 dX1_code_13 (by decide) ?_
    refine lv_icmp_gt (tgt := 21) C.1 C.2.1 dX1_code_15 (by decide) (fun c_14 => ?_) (fun c_14 => ?_)
    · replace c_14 : 122 < v_10.toInt := i_lt c_14
      exact L_21 v_10 _ _ _ ⟨by omega, by omega⟩ hP hD hS (lv_sub hl [0, 1] rfl)
    · replace c_14 : v_10.toInt ≤ 122 := i_nlt c_14
      obtain ⟨v_15, e_16⟩ : ∃ z, z = v_10 + (-32) := ⟨_, rfl⟩
      have h_17 : v_15.toInt = v_10.toInt + (-32) := by rw [e_16]; exact ti_iadd (by show (_ : Int) ≤ v_10.toInt + (-32); omega) (by show v_10.toInt + (-32) < (_ : Int); omega)
      refine lv_iinc (v := v_15) (lv' := [(1, .int v_15), (0, .int x0)]) C.1 C.2.1 dX1_code_18 hl (k := 1) rfl e_16.symm (by decide) rfl (fun ls hl => ?_)
      have hl : lv_has ls 2 [(0, .int x0), (1, .int v_15)] := lv_sub hl [1, 0] rfl
      exact L_21 v_15 _ _ _ ⟨by omega, by omega⟩ hP hD hS (lv_sub hl [0, 1] rfl)

theorem dX1_rank_0 : decode cX1_rank 0 = .ok (.iload_n 0, 1) := by decide +kernel
theorem dX1_rank_1 : decode cX1_rank 1 = .ok (.bipush 48, 2) := by decide +kernel
theorem dX1_rank_12 : decode cX1_rank 12 = .ok (.iload_n 0, 1) := by decide +kernel
theorem dX1_rank_13 : decode cX1_rank 13 = .ok (.bipush 48, 2) := by decide +kernel
theorem dX1_rank_15 : decode cX1_rank 15 = .ok (.isub, 1) := by decide +kernel
theorem dX1_rank_16 : decode cX1_rank 16 = .ok (.iconst 1, 1) := by decide +kernel
theorem dX1_rank_17 : decode cX1_rank 17 = .ok (.iadd, 1) := by decide +kernel
theorem dX1_rank_18 : decode cX1_rank 18 = .ok (.ireturn, 1) := by decide +kernel
theorem dX1_rank_19 : decode cX1_rank 19 = .ok (.iload_n 0, 1) := by decide +kernel
theorem dX1_rank_20 : decode cX1_rank 20 = .ok (.bipush 65, 2) := by decide +kernel
theorem dX1_rank_22 : decode cX1_rank 22 = .ok (.if_icmp .lt 19, 3) := by decide +kernel
theorem dX1_rank_25 : decode cX1_rank 25 = .ok (.iload_n 0, 1) := by decide +kernel
theorem dX1_rank_26 : decode cX1_rank 26 = .ok (.bipush 90, 2) := by decide +kernel
theorem dX1_rank_28 : decode cX1_rank 28 = .ok (.if_icmp .gt 13, 3) := by decide +kernel
theorem dX1_rank_3 : decode cX1_rank 3 = .ok (.if_icmp .lt 16, 3) := by decide +kernel
theorem dX1_rank_31 : decode cX1_rank 31 = .ok (.iload_n 0, 1) := by decide +kernel
theorem dX1_rank_32 : decode cX1_rank 32 = .ok (.bipush 65, 2) := by decide +kernel
theorem dX1_rank_34 : decode cX1_rank 34 = .ok (.isub, 1) := by decide +kernel
theorem dX1_rank_35 : decode cX1_rank 35 = .ok (.bipush 11, 2) := by decide +kernel
theorem dX1_rank_37 : decode cX1_rank 37 = .ok (.iadd, 1) := by decide +kernel
theorem dX1_rank_38 : decode cX1_rank 38 = .ok (.goto 4, 3) := by decide +kernel
theorem dX1_rank_41 : decode cX1_rank 41 = .ok (.iconst 0, 1) := by decide +kernel
theorem dX1_rank_42 : decode cX1_rank 42 = .ok (.ireturn, 1) := by decide +kernel
theorem dX1_rank_6 : decode cX1_rank 6 = .ok (.iload_n 0, 1) := by decide +kernel
theorem dX1_rank_7 : decode cX1_rank 7 = .ok (.bipush 57, 2) := by decide +kernel
theorem dX1_rank_9 : decode cX1_rank 9 = .ok (.if_icmp .gt 10, 3) := by decide +kernel
set_option maxHeartbeats 4000000 in
set_option maxRecDepth 100000 in
theorem T_X1_rank (l : Launch) (D : va_G) (K : Nat → ClassId) (Z Y : Nat → Nat) (ad : Nat → Nat) (d : dSt) (t : tSt) (hok : okX t) (x0 : Int32) (hx0 : (-128 : Int) ≤ x0.toInt ∧ x0.toInt ≤ 127) : tMet l yX1_rank cX1_rank 1 (some .int) (rmD 0 0 0) D K Z Y [.int x0] ((WX d) K ad t) (QI D K (fun (r : Int32) (u : Unit) => (0 : Int) ≤ r.toInt ∧ r.toInt ≤ 63) (fun (_ : Unit) => (WX d) K ad t)) 0 0 := by
  refine t_met RX1 ⟨rfl, by decide +kernel⟩ (Nat.le_of_ble_eq_true rfl) ?_
  intro p e s m below meth c A ls C hE hZ hr hlocks hA hP hD hS hl
  have hl : lv_has ls 1 [(0, .int x0)] := hl
  have L_19 : ∀  (H : Heap) (locs : List Loc) (ls : Array Slot), va_P D vwCl ((WX d) K ad t) H → va_D A ((WX d) K ad t) → va_S A s.heap H locs → lv_has ls 1 [(0, .int x0)] → W p l e (rmD 0 0 0) s m [.int x0].toArray below meth c H locs 0 0 (MQ below (QI D K (fun (r : Int32) (u : Unit) => (0 : Int) ≤ r.toInt ∧ r.toInt ≤ 63) (fun (_ : Unit) => (WX d) K ad t) A) [.int x0].toArray s 0 0 A) (F0 m 19 ls []) := by
    intro  H locs ls  hP hD hS hl
    refine lv_iload_n C.1 C.2.1 dX1_rank_19 rfl (lv_at hl 0 rfl) ?_
    refine lv_bipush (v := 65) C.1 C.2.1 dX1_rank_20 (by decide) ?_
    refine lv_icmp_lt (tgt := 41) C.1 C.2.1 dX1_rank_22 (by decide) (fun c_1 => ?_) (fun c_1 => ?_)
    · replace c_1 : x0.toInt < 65 := i_lt c_1
      refine lv_iconst (v := 0) C.1 C.2.1 dX1_rank_41 (by decide) ?_
      exact g_iret C hr hlocks hP hD hS rfl () rfl ⟨by decide, by decide⟩ (Nat.le_of_ble_eq_true rfl) (Nat.le_of_ble_eq_true rfl) dX1_rank_42
    · replace c_1 : 65 ≤ x0.toInt := i_nlt c_1
      refine lv_iload_n C.1 C.2.1 dX1_rank_25 rfl (lv_at hl 0 rfl) ?_
      refine lv_bipush (v := 90) C.1 C.2.1 dX1_rank_26 (by decide) ?_
      refine lv_icmp_gt (tgt := 41) C.1 C.2.1 dX1_rank_28 (by decide) (fun c_2 => ?_) (fun c_2 => ?_)
      · replace c_2 : 90 < x0.toInt := i_lt c_2
        refine lv_iconst (v := 0) C.1 C.2.1 dX1_rank_41 (by decide) ?_
        exact g_iret C hr hlocks hP hD hS rfl () rfl ⟨by decide, by decide⟩ (Nat.le_of_ble_eq_true rfl) (Nat.le_of_ble_eq_true rfl) dX1_rank_42
      · replace c_2 : x0.toInt ≤ 90 := i_nlt c_2
        refine lv_iload_n C.1 C.2.1 dX1_rank_31 rfl (lv_at hl 0 rfl) ?_
        refine lv_bipush (v := 65) C.1 C.2.1 dX1_rank_32 (by decide) ?_
        obtain ⟨v_3, e_4⟩ : ∃ z, z = (x0 : Int32) - (65 : Int32) := ⟨_, rfl⟩
        have h_5 : v_3.toInt = x0.toInt - 65 := by rw [e_4]; exact ti_isub (by show (_ : Int) ≤ x0.toInt - 65; omega) (by show x0.toInt - 65 < (_ : Int); omega)
        refine k_isub (v := v_3) C e_4.symm dX1_rank_34 ?_
        refine lv_bipush (v := 11) C.1 C.2.1 dX1_rank_35 (by decide) ?_
        obtain ⟨v_6, e_7⟩ : ∃ z, z = (v_3 : Int32) + (11 : Int32) := ⟨_, rfl⟩
        have h_8 : v_6.toInt = v_3.toInt + 11 := by rw [e_7]; exact ti_iadd (by show (_ : Int) ≤ v_3.toInt + 11; omega) (by show v_3.toInt + 11 < (_ : Int); omega)
        refine k_iadd (v := v_6) C e_7.symm dX1_rank_37 ?_
        refine lv_goto (tgt := 42) C.1 C.2.1 dX1_rank_38 (by decide) ?_
        exact g_iret C hr hlocks hP hD hS rfl () rfl ⟨by omega, by omega⟩ (Nat.le_of_ble_eq_true rfl) (Nat.le_of_ble_eq_true rfl) dX1_rank_42
  refine lv_iload_n C.1 C.2.1 dX1_rank_0 rfl (lv_at hl 0 rfl) ?_
  refine lv_bipush (v := 48) C.1 C.2.1 dX1_rank_1 (by decide) ?_
  refine lv_icmp_lt (tgt := 19) C.1 C.2.1 dX1_rank_3 (by decide) (fun c_9 => ?_) (fun c_9 => ?_)
  · replace c_9 : x0.toInt < 48 := i_lt c_9
    exact L_19  _ _ _  hP hD hS (lv_sub hl [0] rfl)
  · replace c_9 : 48 ≤ x0.toInt := i_nlt c_9
    refine lv_iload_n C.1 C.2.1 dX1_rank_6 rfl (lv_at hl 0 rfl) ?_
    refine lv_bipush (v := 57) C.1 C.2.1 dX1_rank_7 (by decide) ?_
    refine lv_icmp_gt (tgt := 19) C.1 C.2.1 dX1_rank_9 (by decide) (fun c_10 => ?_) (fun c_10 => ?_)
    · replace c_10 : 57 < x0.toInt := i_lt c_10
      exact L_19  _ _ _  hP hD hS (lv_sub hl [0] rfl)
    · replace c_10 : x0.toInt ≤ 57 := i_nlt c_10
      refine lv_iload_n C.1 C.2.1 dX1_rank_12 rfl (lv_at hl 0 rfl) ?_
      refine lv_bipush (v := 48) C.1 C.2.1 dX1_rank_13 (by decide) ?_
      obtain ⟨v_11, e_12⟩ : ∃ z, z = (x0 : Int32) - (48 : Int32) := ⟨_, rfl⟩
      have h_13 : v_11.toInt = x0.toInt - 48 := by rw [e_12]; exact ti_isub (by show (_ : Int) ≤ x0.toInt - 48; omega) (by show x0.toInt - 48 < (_ : Int); omega)
      refine k_isub (v := v_11) C e_12.symm dX1_rank_15 ?_
      refine lv_iconst (v := 1) C.1 C.2.1 dX1_rank_16 (by decide) ?_
      obtain ⟨v_14, e_15⟩ : ∃ z, z = (v_11 : Int32) + (1 : Int32) := ⟨_, rfl⟩
      have h_16 : v_14.toInt = v_11.toInt + 1 := by rw [e_15]; exact ti_iadd (by show (_ : Int) ≤ v_11.toInt + 1; omega) (by show v_11.toInt + 1 < (_ : Int); omega)
      refine k_iadd (v := v_14) C e_15.symm dX1_rank_17 ?_
      exact g_iret C hr hlocks hP hD hS rfl () rfl ⟨by omega, by omega⟩ (Nat.le_of_ble_eq_true rfl) (Nat.le_of_ble_eq_true rfl) dX1_rank_18

theorem dX1_written_0 : decode cX1_written 0 = .ok (.iload_n 0, 1) := by decide +kernel
theorem dX1_written_1 : decode cX1_written 1 = .ok (.ifCond .lt 18, 3) := by decide +kernel
theorem dX1_written_10 : decode cX1_written 10 = .ok (.ldc 33, 2) := by decide +kernel
theorem dX1_written_12 : decode cX1_written 12 = .ok (.iload_n 0, 1) := by decide +kernel
theorem dX1_written_13 : decode cX1_written 13 = .ok (.invokevirtual 40, 3) := by decide +kernel
theorem dX1_written_16 : decode cX1_written 16 = .ok (.goto 5, 3) := by decide +kernel
theorem dX1_written_19 : decode cX1_written 19 = .ok (.bipush 63, 2) := by decide +kernel
theorem dX1_written_21 : decode cX1_written 21 = .ok (.ireturn, 1) := by decide +kernel
theorem dX1_written_4 : decode cX1_written 4 = .ok (.iload_n 0, 1) := by decide +kernel
theorem dX1_written_5 : decode cX1_written 5 = .ok (.bipush 56, 2) := by decide +kernel
theorem dX1_written_7 : decode cX1_written 7 = .ok (.if_icmp .ge 12, 3) := by decide +kernel
set_option maxHeartbeats 4000000 in
set_option maxRecDepth 100000 in
theorem T_X1_written (l : Launch) (D : va_G) (K : Nat → ClassId) (Z Y : Nat → Nat) (ad : Nat → Nat) (d : dSt) (t : tSt) (hok : okX t) (x0 : Int32) (hx0 : (0 : Int) ≤ x0.toInt ∧ x0.toInt ≤ 399) : tMet l yX1_written cX1_written 1 (some .int) (rmD 4 0 0) D K Z Y [.int x0] ((WX d) K ad t) (QI D K (fun (r : Int32) (u : Unit) => (0 : Int) ≤ r.toInt ∧ r.toInt ≤ 255) (fun (_ : Unit) => (WX d) K ad t)) 0 0 := by
  refine t_met RX1 ⟨rfl, by decide +kernel⟩ (Nat.le_of_ble_eq_true rfl) ?_
  intro p e s m below meth c A ls C hE hZ hr hlocks hA hP hD hS hl
  have hl : lv_has ls 1 [(0, .int x0)] := hl
  refine lv_iload_n C.1 C.2.1 dX1_written_0 rfl (lv_at hl 0 rfl) ?_
  refine lv_if_lt (tgt := 19) C.1 C.2.1 dX1_written_1 (by decide) (fun c_1 => False.elim (by have c_1 : x0.toInt < 0 := i_lt c_1; omega)) (fun c_1 => ?_)
  replace c_1 : 0 ≤ x0.toInt := i_nlt c_1
  refine lv_iload_n C.1 C.2.1 dX1_written_4 rfl (lv_at hl 0 rfl) ?_
  refine lv_bipush (v := 56) C.1 C.2.1 dX1_written_5 (by decide) ?_
  refine lv_icmp_ge (tgt := 19) C.1 C.2.1 dX1_written_7 (by decide) (fun c_2 => ?_) (fun c_2 => ?_)
  · replace c_2 : 56 ≤ x0.toInt := i_le c_2
    refine lv_bipush (v := 63) C.1 C.2.1 dX1_written_19 (by decide) ?_
    exact g_iret C hr hlocks hP hD hS rfl () rfl ⟨by decide, by decide⟩ (Nat.le_of_ble_eq_true rfl) (Nat.le_of_ble_eq_true rfl) dX1_written_21
  · replace c_2 : x0.toInt < 56 := i_nle c_2
    refine va_ldcS C.1 C.2.1 C.2.2.2.1 (hE.2 0 (by decide)) dX1_written_10 ?_
    refine lv_iload_n C.1 C.2.1 dX1_written_12 rfl (lv_at hl 0 rfl) ?_
    refine g_Ti (As := [.int x0]) (rest := []) C hP hD hS hA (TJ_charAt l D K Z Y ((WX d) K ad t) 0 (by decide) x0 (show 0 ≤ x0.toInt ∧ x0.toInt < sL 0 from by have hsl : sL 0 = 56 := rfl; omega)) hE hZ (uwV m_17_20 m_17_21 m_17_22 m_14_8 m_17_23) (hdV 1 (by decide +kernel) rfl) ⟨Nat.le_of_ble_eq_true rfl, Nat.le_of_ble_eq_true rfl⟩ rfl rfl (i0 := 0) (by decide) rfl rfl hl.1 (Nat.le_of_ble_eq_true rfl) dX1_written_13 ⟨Nat.le_of_ble_eq_true rfl, Nat.le_of_ble_eq_true rfl⟩ (fun r_3 u_r_3 H locs hw hP hD hS => ?_)
    have er_3 : r_3 = (sByt 0).getD (x0 : Int32).toNatClampNeg 0 := hw
    have h_4 : (32 : Int) ≤ r_3.toInt ∧ r_3.toInt ≤ 126 := by rw [er_3]; exact sByt_r 0 (by decide) (by omega) (by have hsl : sL 0 = 56 := rfl; omega)
    refine lv_goto (tgt := 21) C.1 C.2.1 dX1_written_16 (by decide) ?_
    exact g_iret C hr hlocks hP hD hS rfl () rfl ⟨by omega, by omega⟩ (Nat.le_of_ble_eq_true rfl) (Nat.le_of_ble_eq_true rfl) dX1_written_21


set_option maxHeartbeats 4000000 in
set_option maxRecDepth 100000 in
theorem T_X9_reopen_1 (l : Launch) (D : va_G) (K : Nat → ClassId) (Z Y : Nat → Nat) (ad : Nat → Nat) (d : dSt) (t : tSt) (hok : okX t)  : tMet l yX9_reopen cX9_reopen 1 none (rmD 0 0 0) D K Z Y [.ref (ad 2)] ((WX d) K ad t) (QV D K (fun (u : tSt) => okX u ∧ frA [(2, 4), (2, 5)] [] [] [] t u ∧ ((u.1 2 4).toInt = (t.1 2 6).toInt)) (fun (u : tSt) => (WX d) K ad u)) 0 0 := by
  refine t_met RX9 ⟨rfl, by decide +kernel⟩ (Nat.le_of_ble_eq_true rfl) ?_
  intro p e s m below meth c A ls C hE hZ hr hlocks hA hP hD hS hl
  have hl : lv_has ls 1 [(0, .ref (ad 2))] := hl
  have hokt := hok
  have hfr : frA [(2, 4), (2, 5)] [] [] [] t t := frA_rf
  have h_1 : (0 : Int) ≤ (t.1 2 4).toInt ∧ (t.1 2 4).toInt ≤ 1281 := hok.1 2 4
  have h_2 : (0 : Int) ≤ (t.1 2 6).toInt ∧ (t.1 2 6).toInt ≤ 1281 := hok.1 2 6
  refine lv_aload_n C.1 C.2.1 dX9_reopen_0 rfl (lv_at hl 0 rfl) ?_
  refine lv_aload_n C.1 C.2.1 dX9_reopen_1 rfl (lv_at hl 0 rfl) ?_
  refine k_get (v := .int (t.1 2 6)) C hP 2 rfl rfl inlX9 6 (by decide) m_12_17 rfl dX9_reopen_2 ?_
  refine k_put (ws' := (WX d) K ad (uI t 2 4 (t.1 2 6))) (v := .int (t.1 2 6)) C hP hD hS 2 rfl rfl inlX9 tyX9_ok nmX9 4 (by decide) m_13_2 rfl rfl rfl rfl rfl dX9_reopen_5 (fun H locs hP hD hS => ?_)
  have hok : okX (uI t 2 4 (t.1 2 6)) := ⟨okI_I hok.1 2 4 (t.1 2 6) (show (0 : Int) ≤ ((t.1 2 6) : Int32).toInt ∧ ((t.1 2 6) : Int32).toInt ≤ 1281 from ⟨by omega, by omega⟩), hok.2.1, trivial⟩
  have hfr : frA [(2, 4), (2, 5)] [] [] [] t (uI t 2 4 (t.1 2 6)) := frA_I hfr 2 4 _ rfl
  refine lv_aload_n C.1 C.2.1 dX9_reopen_8 rfl (lv_at hl 0 rfl) ?_
  refine lv_iconst (v := 0) C.1 C.2.1 dX9_reopen_9 (by decide) ?_
  refine k_put (ws' := (WX d) K ad (uI (uI t 2 4 (t.1 2 6)) 2 5 0)) (v := .int 0) C hP hD hS 2 rfl rfl inlX9 tyX9_ok nmX9 5 (by decide) m_13_3 rfl rfl rfl rfl rfl dX9_reopen_10 (fun H locs hP hD hS => ?_)
  have hok : okX (uI (uI t 2 4 (t.1 2 6)) 2 5 0) := ⟨okI_I hok.1 2 5 0 (show (-2147483648 : Int) ≤ (0 : Int32).toInt ∧ (0 : Int32).toInt ≤ 2147483647 from (i_rng _)), hok.2.1, trivial⟩
  have hfr : frA [(2, 4), (2, 5)] [] [] [] t (uI (uI t 2 4 (t.1 2 6)) 2 5 0) := frA_I hfr 2 5 _ rfl
  exact g_vret C hr hlocks hP hD hS (uI (uI t 2 4 (t.1 2 6)) 2 5 0) rfl ⟨hok, hfr, (show (t.1 2 6).toInt = (t.1 2 6).toInt from by omega)⟩ (Nat.le_of_ble_eq_true rfl) (Nat.le_of_ble_eq_true rfl) dX9_reopen_13

theorem dX9_isAt_0 : decode cX9_isAt 0 = .ok (.iconst 0, 1) := by decide +kernel
theorem dX9_isAt_1 : decode cX9_isAt 1 = .ok (.istore_n 3, 1) := by decide +kernel
theorem dX9_isAt_10 : decode cX9_isAt 10 = .ok (.iload_n 1, 1) := by decide +kernel
theorem dX9_isAt_11 : decode cX9_isAt 11 = .ok (.iload_n 3, 1) := by decide +kernel
theorem dX9_isAt_12 : decode cX9_isAt 12 = .ok (.iadd, 1) := by decide +kernel
theorem dX9_isAt_13 : decode cX9_isAt 13 = .ok (.bipush 80, 2) := by decide +kernel
theorem dX9_isAt_15 : decode cX9_isAt 15 = .ok (.if_icmp .ge 19, 3) := by decide +kernel
theorem dX9_isAt_18 : decode cX9_isAt 18 = .ok (.aload_n 0, 1) := by decide +kernel
theorem dX9_isAt_19 : decode cX9_isAt 19 = .ok (.getfield 11, 3) := by decide +kernel
theorem dX9_isAt_2 : decode cX9_isAt 2 = .ok (.iload_n 3, 1) := by decide +kernel
theorem dX9_isAt_22 : decode cX9_isAt 22 = .ok (.iload_n 1, 1) := by decide +kernel
theorem dX9_isAt_23 : decode cX9_isAt 23 = .ok (.iload_n 3, 1) := by decide +kernel
theorem dX9_isAt_24 : decode cX9_isAt 24 = .ok (.iadd, 1) := by decide +kernel
theorem dX9_isAt_25 : decode cX9_isAt 25 = .ok (.baload, 1) := by decide +kernel
theorem dX9_isAt_26 : decode cX9_isAt 26 = .ok (.aload_n 2, 1) := by decide +kernel
theorem dX9_isAt_27 : decode cX9_isAt 27 = .ok (.iload_n 3, 1) := by decide +kernel
theorem dX9_isAt_28 : decode cX9_isAt 28 = .ok (.invokevirtual 63, 3) := by decide +kernel
theorem dX9_isAt_3 : decode cX9_isAt 3 = .ok (.aload_n 2, 1) := by decide +kernel
theorem dX9_isAt_31 : decode cX9_isAt 31 = .ok (.if_icmp .eq 5, 3) := by decide +kernel
theorem dX9_isAt_34 : decode cX9_isAt 34 = .ok (.iconst 0, 1) := by decide +kernel
theorem dX9_isAt_35 : decode cX9_isAt 35 = .ok (.ireturn, 1) := by decide +kernel
theorem dX9_isAt_36 : decode cX9_isAt 36 = .ok (.iinc 3 1, 3) := by decide +kernel
theorem dX9_isAt_39 : decode cX9_isAt 39 = .ok (.goto (-37), 3) := by decide +kernel
theorem dX9_isAt_4 : decode cX9_isAt 4 = .ok (.invokevirtual 58, 3) := by decide +kernel
theorem dX9_isAt_42 : decode cX9_isAt 42 = .ok (.iconst 1, 1) := by decide +kernel
theorem dX9_isAt_43 : decode cX9_isAt 43 = .ok (.ireturn, 1) := by decide +kernel
theorem dX9_isAt_7 : decode cX9_isAt 7 = .ok (.if_icmp .ge 35, 3) := by decide +kernel
set_option maxHeartbeats 4000000 in
set_option maxRecDepth 100000 in
theorem T_X9_isAt (l : Launch) (D : va_G) (K : Nat → ClassId) (Z Y : Nat → Nat) (ad : Nat → Nat) (d : dSt) (t : tSt) (hok : okX t) (x1 : Int32) (hx1 : (0 : Int) ≤ x1.toInt ∧ x1.toInt ≤ 100) (i2 : Nat) (hi2 : sS i2) : tMet l yX9_isAt cX9_isAt 4 (some .boolean) (rmD 4 0 0) D K Z Y [.ref (ad 29), .int x1, .ref (Z i2)] ((WX d) K ad t) (QI D K (fun (r : Int32) (u : Unit) => (0 : Int) ≤ r.toInt ∧ r.toInt ≤ 1) (fun (_ : Unit) => (WX d) K ad t)) 0 0 := by
  refine t_met RX9 ⟨rfl, by decide +kernel⟩ (Nat.le_of_ble_eq_true rfl) ?_
  intro p e s m below meth c A ls C hE hZ hr hlocks hA hP hD hS hl
  have hl : lv_has ls 4 [(0, .ref (ad 29)), (1, .int x1), (2, .ref (Z i2))] := hl
  have L_2 : ∀ (fuel_2 : Nat) (w2_3 : Int32) (H : Heap) (locs : List Loc) (ls : Array Slot), (0 : Int) ≤ w2_3.toInt ∧ w2_3.toInt ≤ 400 → (400 : Int) - w2_3.toInt < (fuel_2 : Int) → va_P D vwCl ((WX d) K ad t) H → va_D A ((WX d) K ad t) → va_S A s.heap H locs → lv_has ls 4 [(0, .ref (ad 29)), (1, .int x1), (2, .ref (Z i2)), (3, .int w2_3)] → W p l e (rmD 4 0 0) s m [.ref (ad 29), .int x1, .ref (Z i2)].toArray below meth c H locs 0 0 (MQ below (QI D K (fun (r : Int32) (u : Unit) => (0 : Int) ≤ r.toInt ∧ r.toInt ≤ 1) (fun (_ : Unit) => (WX d) K ad t) A) [.ref (ad 29), .int x1, .ref (Z i2)].toArray s 0 0 A) (F0 m 2 ls []) := by
    intro fuel_2
    induction fuel_2 with
    | zero =>
      intro w2_3 H locs ls hw2_3 hm2_2 hP hD hS hl
      exact absurd hm2_2 (by omega)
    | succ fuel_2 ih_2 =>
      intro w2_3 H locs ls hw2_3 hm2_2 hP hD hS hl
      have hm2_2 : (400 : Int) - w2_3.toInt < (fuel_2 : Int) + 1 := by omega
      refine lv_iload_n C.1 C.2.1 dX9_isAt_2 rfl (lv_at hl 3 rfl) ?_
      refine lv_aload_n C.1 C.2.1 dX9_isAt_3 rfl (lv_at hl 2 rfl) ?_
      refine g_Ti (As := []) (rest := [.int w2_3]) C hP hD hS hA (TJ_length l D K Z Y ((WX d) K ad t) i2 (sS_lt hi2)) hE hZ (uwV m_72_6 m_14_22 m_14_23 m_14_8 m_15_0) (hdV 0 (by decide +kernel) rfl) ⟨Nat.le_of_ble_eq_true rfl, Nat.le_of_ble_eq_true rfl⟩ rfl rfl (i0 := i2) (sS_lt hi2) rfl rfl hl.1 (Nat.le_of_ble_eq_true rfl) dX9_isAt_4 ⟨Nat.le_of_ble_eq_true rfl, Nat.le_of_ble_eq_true rfl⟩ (fun r_1 u_r_1 H locs hw hP hD hS => ?_)
      have h_2 : r_1.toInt = sL i2 := hw
      have h_3 := sS_len hi2
      refine lv_icmp_ge (tgt := 42) C.1 C.2.1 dX9_isAt_7 (by decide) (fun c_4 => ?_) (fun c_4 => ?_)
      · replace c_4 : r_1.toInt ≤ w2_3.toInt := i_le c_4
        refine lv_iconst (v := 1) C.1 C.2.1 dX9_isAt_42 (by decide) ?_
        exact g_iret C hr hlocks hP hD hS (by decide) () rfl ⟨by decide, by decide⟩ (Nat.le_of_ble_eq_true rfl) (Nat.le_of_ble_eq_true rfl) dX9_isAt_43
      · replace c_4 : w2_3.toInt < r_1.toInt := i_nle c_4
        refine lv_iload_n C.1 C.2.1 dX9_isAt_10 rfl (lv_at hl 1 rfl) ?_
        refine lv_iload_n C.1 C.2.1 dX9_isAt_11 rfl (lv_at hl 3 rfl) ?_
        obtain ⟨v_5, e_6⟩ : ∃ z, z = (x1 : Int32) + (w2_3 : Int32) := ⟨_, rfl⟩
        have h_7 : v_5.toInt = x1.toInt + w2_3.toInt := by rw [e_6]; exact ti_iadd (by show (_ : Int) ≤ x1.toInt + w2_3.toInt; omega) (by show x1.toInt + w2_3.toInt < (_ : Int); omega)
        refine k_iadd (v := v_5) C e_6.symm dX9_isAt_12 ?_
        refine lv_bipush (v := 80) C.1 C.2.1 dX9_isAt_13 (by decide) ?_
        refine lv_icmp_ge (tgt := 34) C.1 C.2.1 dX9_isAt_15 (by decide) (fun c_8 => ?_) (fun c_8 => ?_)
        · replace c_8 : 80 ≤ v_5.toInt := i_le c_8
          refine lv_iconst (v := 0) C.1 C.2.1 dX9_isAt_34 (by decide) ?_
          exact g_iret C hr hlocks hP hD hS (by decide) () rfl ⟨by decide, by decide⟩ (Nat.le_of_ble_eq_true rfl) (Nat.le_of_ble_eq_true rfl) dX9_isAt_35
        · replace c_8 : v_5.toInt < 80 := i_nle c_8
          refine lv_aload_n C.1 C.2.1 dX9_isAt_18 rfl (lv_at hl 0 rfl) ?_
          refine k_get (v := .ref (ad 51)) C hP 29 rfl rfl inlX9 1 (by decide) m_2_23 rfl dX9_isAt_19 ?_
          refine lv_iload_n C.1 C.2.1 dX9_isAt_22 rfl (lv_at hl 1 rfl) ?_
          refine lv_iload_n C.1 C.2.1 dX9_isAt_23 rfl (lv_at hl 3 rfl) ?_
          obtain ⟨v_9, e_10⟩ : ∃ z, z = (x1 : Int32) + (w2_3 : Int32) := ⟨_, rfl⟩
          have h_11 : v_9.toInt = x1.toInt + w2_3.toInt := by rw [e_10]; exact ti_iadd (by show (_ : Int) ≤ x1.toInt + w2_3.toInt; omega) (by show x1.toInt + w2_3.toInt < (_ : Int); omega)
          refine k_iadd (v := v_9) C e_10.symm dX9_isAt_24 ?_
          obtain ⟨v_12, e_13⟩ : ∃ z, z = (t.2.2.1 51 (v_9 : Int32).toNatClampNeg) := ⟨_, rfl⟩
          have h_14 : (-128 : Int) ≤ v_12.toInt ∧ v_12.toInt ≤ 127 := by rw [e_13]; exact hok.2.1 51 _
          refine k_bld (v := v_12) C hP 51 rfl (vp_in_iff.mpr ⟨by omega, by omega⟩) e_13.symm dX9_isAt_25 ?_
          refine lv_aload_n C.1 C.2.1 dX9_isAt_26 rfl (lv_at hl 2 rfl) ?_
          refine lv_iload_n C.1 C.2.1 dX9_isAt_27 rfl (lv_at hl 3 rfl) ?_
          refine g_Ti (As := [.int w2_3]) (rest := [.int v_12]) C hP hD hS hA (TJ_charAt l D K Z Y ((WX d) K ad t) i2 (sS_lt hi2) w2_3 (show 0 ≤ w2_3.toInt ∧ w2_3.toInt < sL i2 from by omega)) hE hZ (uwV m_72_7 m_17_21 m_17_22 m_14_8 m_17_23) (hdV 1 (by decide +kernel) rfl) ⟨Nat.le_of_ble_eq_true rfl, Nat.le_of_ble_eq_true rfl⟩ rfl rfl (i0 := i2) (sS_lt hi2) rfl rfl hl.1 (Nat.le_of_ble_eq_true rfl) dX9_isAt_28 ⟨Nat.le_of_ble_eq_true rfl, Nat.le_of_ble_eq_true rfl⟩ (fun r_15 u_r_15 H locs hw hP hD hS => ?_)
          have er_15 : r_15 = (sByt i2).getD (w2_3 : Int32).toNatClampNeg 0 := hw
          have h_16 : (32 : Int) ≤ r_15.toInt ∧ r_15.toInt ≤ 126 := by rw [er_15]; exact sByt_rr (sS_lt hi2) (by omega) (by omega)
          refine lv_icmp_eq (tgt := 36) C.1 C.2.1 dX9_isAt_31 (by decide) (fun c_17 => ?_) (fun c_17 => ?_)
          · replace c_17 : v_12.toInt = r_15.toInt := i_eq c_17
            obtain ⟨v_18, e_19⟩ : ∃ z, z = w2_3 + 1 := ⟨_, rfl⟩
            have h_20 : v_18.toInt = w2_3.toInt + 1 := by rw [e_19]; exact ti_iadd (by show (_ : Int) ≤ w2_3.toInt + 1; omega) (by show w2_3.toInt + 1 < (_ : Int); omega)
            refine lv_iinc (v := v_18) (lv' := [(3, .int v_18), (0, .ref (ad 29)), (1, .int x1), (2, .ref (Z i2))]) C.1 C.2.1 dX9_isAt_36 hl (k := 3) rfl e_19.symm (by decide) rfl (fun ls hl => ?_)
            have hl : lv_has ls 4 [(0, .ref (ad 29)), (1, .int x1), (2, .ref (Z i2)), (3, .int v_18)] := lv_sub hl [1, 2, 3, 0] rfl
            refine lv_goto (tgt := 2) C.1 C.2.1 dX9_isAt_39 (by decide) ?_
            exact ih_2 v_18 _ _ _ ⟨by omega, by omega⟩ (show (400 : Int) - v_18.toInt < (fuel_2 : Int) from by omega) hP hD hS (lv_sub hl [0, 1, 2, 3] rfl)
          · replace c_17 : ¬ v_12.toInt = r_15.toInt := i_ne c_17
            refine lv_iconst (v := 0) C.1 C.2.1 dX9_isAt_34 (by decide) ?_
            exact g_iret C hr hlocks hP hD hS (by decide) () rfl ⟨by decide, by decide⟩ (Nat.le_of_ble_eq_true rfl) (Nat.le_of_ble_eq_true rfl) dX9_isAt_35
  refine lv_iconst (v := 0) C.1 C.2.1 dX9_isAt_0 (by decide) ?_
  refine lv_istore_n (lv' := [(3, .int 0), (0, .ref (ad 29)), (1, .int x1), (2, .ref (Z i2))]) C.1 C.2.1 dX9_isAt_1 rfl hl (by decide) rfl (fun ls hl => ?_)
  have hl : lv_has ls 4 [(0, .ref (ad 29)), (1, .int x1), (2, .ref (Z i2)), (3, .int 0)] := lv_sub hl [1, 2, 3, 0] rfl
  exact L_2 401 0 _ _ _ ⟨by decide, by decide⟩ (show (400 : Int) - 0 < ((401 : Nat) : Int) from by omega) hP hD hS (lv_sub hl [0, 1, 2, 3] rfl)

theorem dX9_isDigitAt_0 : decode cX9_isDigitAt 0 = .ok (.iload_n 1, 1) := by decide +kernel
theorem dX9_isDigitAt_1 : decode cX9_isDigitAt 1 = .ok (.ifCond .lt 35, 3) := by decide +kernel
theorem dX9_isDigitAt_10 : decode cX9_isDigitAt 10 = .ok (.aload_n 0, 1) := by decide +kernel
theorem dX9_isDigitAt_11 : decode cX9_isDigitAt 11 = .ok (.getfield 11, 3) := by decide +kernel
theorem dX9_isDigitAt_14 : decode cX9_isDigitAt 14 = .ok (.iload_n 1, 1) := by decide +kernel
theorem dX9_isDigitAt_15 : decode cX9_isDigitAt 15 = .ok (.baload, 1) := by decide +kernel
theorem dX9_isDigitAt_16 : decode cX9_isDigitAt 16 = .ok (.bipush 48, 2) := by decide +kernel
theorem dX9_isDigitAt_18 : decode cX9_isDigitAt 18 = .ok (.if_icmp .lt 18, 3) := by decide +kernel
theorem dX9_isDigitAt_21 : decode cX9_isDigitAt 21 = .ok (.aload_n 0, 1) := by decide +kernel
theorem dX9_isDigitAt_22 : decode cX9_isDigitAt 22 = .ok (.getfield 11, 3) := by decide +kernel
theorem dX9_isDigitAt_25 : decode cX9_isDigitAt 25 = .ok (.iload_n 1, 1) := by decide +kernel
theorem dX9_isDigitAt_26 : decode cX9_isDigitAt 26 = .ok (.baload, 1) := by decide +kernel
theorem dX9_isDigitAt_27 : decode cX9_isDigitAt 27 = .ok (.bipush 57, 2) := by decide +kernel
theorem dX9_isDigitAt_29 : decode cX9_isDigitAt 29 = .ok (.if_icmp .gt 7, 3) := by decide +kernel
theorem dX9_isDigitAt_32 : decode cX9_isDigitAt 32 = .ok (.iconst 1, 1) := by decide +kernel
theorem dX9_isDigitAt_33 : decode cX9_isDigitAt 33 = .ok (.goto 4, 3) := by decide +kernel
theorem dX9_isDigitAt_36 : decode cX9_isDigitAt 36 = .ok (.iconst 0, 1) := by decide +kernel
theorem dX9_isDigitAt_37 : decode cX9_isDigitAt 37 = .ok (.ireturn, 1) := by decide +kernel
theorem dX9_isDigitAt_4 : decode cX9_isDigitAt 4 = .ok (.iload_n 1, 1) := by decide +kernel
theorem dX9_isDigitAt_5 : decode cX9_isDigitAt 5 = .ok (.bipush 80, 2) := by decide +kernel
theorem dX9_isDigitAt_7 : decode cX9_isDigitAt 7 = .ok (.if_icmp .ge 29, 3) := by decide +kernel
set_option maxHeartbeats 4000000 in
set_option maxRecDepth 100000 in
theorem T_X9_isDigitAt (l : Launch) (D : va_G) (K : Nat → ClassId) (Z Y : Nat → Nat) (ad : Nat → Nat) (d : dSt) (t : tSt) (hok : okX t) (x1 : Int32) (hx1 : (6 : Int) ≤ x1.toInt ∧ x1.toInt ≤ 31) : tMet l yX9_isDigitAt cX9_isDigitAt 2 (some .boolean) (rmD 0 0 0) D K Z Y [.ref (ad 29), .int x1] ((WX d) K ad t) (QI D K (fun (r : Int32) (u : Unit) => (0 : Int) ≤ r.toInt ∧ r.toInt ≤ 1 ∧ (r.toInt = 1 → 0 ≤ x1.toInt ∧ x1.toInt < 80) ∧ (r.toInt = 1 → 48 ≤ (t.2.2.1 51 (x1 : Int32).toNatClampNeg).toInt ∧ (t.2.2.1 51 (x1 : Int32).toNatClampNeg).toInt ≤ 57)) (fun (_ : Unit) => (WX d) K ad t)) 0 0 := by
  refine t_met RX9 ⟨rfl, by decide +kernel⟩ (Nat.le_of_ble_eq_true rfl) ?_
  intro p e s m below meth c A ls C hE hZ hr hlocks hA hP hD hS hl
  have hl : lv_has ls 2 [(0, .ref (ad 29)), (1, .int x1)] := hl
  refine lv_iload_n C.1 C.2.1 dX9_isDigitAt_0 rfl (lv_at hl 1 rfl) ?_
  refine lv_if_lt (tgt := 36) C.1 C.2.1 dX9_isDigitAt_1 (by decide) (fun c_1 => False.elim (by have c_1 : x1.toInt < 0 := i_lt c_1; omega)) (fun c_1 => ?_)
  replace c_1 : 0 ≤ x1.toInt := i_nlt c_1
  refine lv_iload_n C.1 C.2.1 dX9_isDigitAt_4 rfl (lv_at hl 1 rfl) ?_
  refine lv_bipush (v := 80) C.1 C.2.1 dX9_isDigitAt_5 (by decide) ?_
  refine lv_icmp_ge (tgt := 36) C.1 C.2.1 dX9_isDigitAt_7 (by decide) (fun c_2 => False.elim (by have c_2 : 80 ≤ x1.toInt := i_le c_2; omega)) (fun c_2 => ?_)
  replace c_2 : x1.toInt < 80 := i_nle c_2
  refine lv_aload_n C.1 C.2.1 dX9_isDigitAt_10 rfl (lv_at hl 0 rfl) ?_
  refine k_get (v := .ref (ad 51)) C hP 29 rfl rfl inlX9 1 (by decide) m_2_23 rfl dX9_isDigitAt_11 ?_
  refine lv_iload_n C.1 C.2.1 dX9_isDigitAt_14 rfl (lv_at hl 1 rfl) ?_
  have h_3 : (-128 : Int) ≤ (t.2.2.1 51 (x1 : Int32).toNatClampNeg).toInt ∧ (t.2.2.1 51 (x1 : Int32).toNatClampNeg).toInt ≤ 127 := hok.2.1 51 _
  refine k_bld (v := (t.2.2.1 51 (x1 : Int32).toNatClampNeg)) C hP 51 rfl (vp_in_iff.mpr ⟨by omega, by omega⟩) rfl dX9_isDigitAt_15 ?_
  refine lv_bipush (v := 48) C.1 C.2.1 dX9_isDigitAt_16 (by decide) ?_
  refine lv_icmp_lt (tgt := 36) C.1 C.2.1 dX9_isDigitAt_18 (by decide) (fun c_4 => ?_) (fun c_4 => ?_)
  · replace c_4 : (t.2.2.1 51 (x1 : Int32).toNatClampNeg).toInt < 48 := i_lt c_4
    refine lv_iconst (v := 0) C.1 C.2.1 dX9_isDigitAt_36 (by decide) ?_
    exact g_iret C hr hlocks hP hD hS (by decide) () rfl ⟨by decide, by decide, (show 0 = 1 → 0 ≤ x1.toInt ∧ x1.toInt < 80 from by omega), (show 0 = 1 → 48 ≤ (t.2.2.1 51 (x1 : Int32).toNatClampNeg).toInt ∧ (t.2.2.1 51 (x1 : Int32).toNatClampNeg).toInt ≤ 57 from by omega)⟩ (Nat.le_of_ble_eq_true rfl) (Nat.le_of_ble_eq_true rfl) dX9_isDigitAt_37
  · replace c_4 : 48 ≤ (t.2.2.1 51 (x1 : Int32).toNatClampNeg).toInt := i_nlt c_4
    refine lv_aload_n C.1 C.2.1 dX9_isDigitAt_21 rfl (lv_at hl 0 rfl) ?_
    refine k_get (v := .ref (ad 51)) C hP 29 rfl rfl inlX9 1 (by decide) m_2_23 rfl dX9_isDigitAt_22 ?_
    refine lv_iload_n C.1 C.2.1 dX9_isDigitAt_25 rfl (lv_at hl 1 rfl) ?_
    have h_5 : (-128 : Int) ≤ (t.2.2.1 51 (x1 : Int32).toNatClampNeg).toInt ∧ (t.2.2.1 51 (x1 : Int32).toNatClampNeg).toInt ≤ 127 := hok.2.1 51 _
    refine k_bld (v := (t.2.2.1 51 (x1 : Int32).toNatClampNeg)) C hP 51 rfl (vp_in_iff.mpr ⟨by omega, by omega⟩) rfl dX9_isDigitAt_26 ?_
    refine lv_bipush (v := 57) C.1 C.2.1 dX9_isDigitAt_27 (by decide) ?_
    refine lv_icmp_gt (tgt := 36) C.1 C.2.1 dX9_isDigitAt_29 (by decide) (fun c_6 => ?_) (fun c_6 => ?_)
    · replace c_6 : 57 < (t.2.2.1 51 (x1 : Int32).toNatClampNeg).toInt := i_lt c_6
      refine lv_iconst (v := 0) C.1 C.2.1 dX9_isDigitAt_36 (by decide) ?_
      exact g_iret C hr hlocks hP hD hS (by decide) () rfl ⟨by decide, by decide, (show 0 = 1 → 0 ≤ x1.toInt ∧ x1.toInt < 80 from by omega), (show 0 = 1 → 48 ≤ (t.2.2.1 51 (x1 : Int32).toNatClampNeg).toInt ∧ (t.2.2.1 51 (x1 : Int32).toNatClampNeg).toInt ≤ 57 from by omega)⟩ (Nat.le_of_ble_eq_true rfl) (Nat.le_of_ble_eq_true rfl) dX9_isDigitAt_37
    · replace c_6 : (t.2.2.1 51 (x1 : Int32).toNatClampNeg).toInt ≤ 57 := i_nlt c_6
      refine lv_iconst (v := 1) C.1 C.2.1 dX9_isDigitAt_32 (by decide) ?_
      refine lv_goto (tgt := 37) C.1 C.2.1 dX9_isDigitAt_33 (by decide) ?_
      exact g_iret C hr hlocks hP hD hS (by decide) () rfl ⟨by decide, by decide, (show 1 = 1 → 0 ≤ x1.toInt ∧ x1.toInt < 80 from by omega), (show 1 = 1 → 48 ≤ (t.2.2.1 51 (x1 : Int32).toNatClampNeg).toInt ∧ (t.2.2.1 51 (x1 : Int32).toNatClampNeg).toInt ≤ 57 from by omega)⟩ (Nat.le_of_ble_eq_true rfl) (Nat.le_of_ble_eq_true rfl) dX9_isDigitAt_37

theorem dX8_clear_0 : decode cX8_clear 0 = .ok (.aload_n 0, 1) := by decide +kernel
theorem dX8_clear_1 : decode cX8_clear 1 = .ok (.iconst 0, 1) := by decide +kernel
theorem dX8_clear_10 : decode cX8_clear 10 = .ok (.aload_n 0, 1) := by decide +kernel
theorem dX8_clear_11 : decode cX8_clear 11 = .ok (.iconst 0, 1) := by decide +kernel
theorem dX8_clear_12 : decode cX8_clear 12 = .ok (.putfield 51, 3) := by decide +kernel
theorem dX8_clear_15 : decode cX8_clear 15 = .ok (.iconst 0, 1) := by decide +kernel
theorem dX8_clear_16 : decode cX8_clear 16 = .ok (.istore_n 1, 1) := by decide +kernel
theorem dX8_clear_17 : decode cX8_clear 17 = .ok (.iload_n 1, 1) := by decide +kernel
theorem dX8_clear_18 : decode cX8_clear 18 = .ok (.bipush 10, 2) := by decide +kernel
theorem dX8_clear_2 : decode cX8_clear 2 = .ok (.putfield 44, 3) := by decide +kernel
theorem dX8_clear_20 : decode cX8_clear 20 = .ok (.if_icmp .ge 16, 3) := by decide +kernel
theorem dX8_clear_23 : decode cX8_clear 23 = .ok (.aload_n 0, 1) := by decide +kernel
theorem dX8_clear_24 : decode cX8_clear 24 = .ok (.getfield 31, 3) := by decide +kernel
theorem dX8_clear_27 : decode cX8_clear 27 = .ok (.iload_n 1, 1) := by decide +kernel
theorem dX8_clear_28 : decode cX8_clear 28 = .ok (.iconst 0, 1) := by decide +kernel
theorem dX8_clear_29 : decode cX8_clear 29 = .ok (.bastore, 1) := by decide +kernel
theorem dX8_clear_30 : decode cX8_clear 30 = .ok (.iinc 1 1, 3) := by decide +kernel
theorem dX8_clear_33 : decode cX8_clear 33 = .ok (.goto (-16), 3) := by decide +kernel
theorem dX8_clear_36 : decode cX8_clear 36 = .ok (.return_, 1) := by decide +kernel
theorem dX8_clear_5 : decode cX8_clear 5 = .ok (.aload_n 0, 1) := by decide +kernel
theorem dX8_clear_6 : decode cX8_clear 6 = .ok (.iconst 0, 1) := by decide +kernel
theorem dX8_clear_7 : decode cX8_clear 7 = .ok (.putfield 48, 3) := by decide +kernel
set_option maxHeartbeats 4000000 in
set_option maxRecDepth 100000 in
theorem T_X8_clear (l : Launch) (D : va_G) (K : Nat → ClassId) (Z Y : Nat → Nat) (ad : Nat → Nat) (d : dSt) (t : tSt) (hok : okX t)  : tMet l yX8_clear cX8_clear 2 none (rmD 0 0 0) D K Z Y [.ref (ad 23)] ((WX d) K ad t) (QV D K (fun (u : tSt) => okX u ∧ frA [(23, 3), (23, 6), (23, 12)] [] [47] [] t u) (fun (u : tSt) => (WX d) K ad u)) 0 0 := by
  refine t_met RX8 ⟨rfl, by decide +kernel⟩ (Nat.le_of_ble_eq_true rfl) ?_
  intro p e s m below meth c A ls C hE hZ hr hlocks hA hP hD hS hl
  have hl : lv_has ls 2 [(0, .ref (ad 23))] := hl
  have hokt := hok
  have hfr : frA [(23, 3), (23, 6), (23, 12)] [] [47] [] t t := frA_rf
  have L_17 : ∀ (fuel_17 : Nat) (t1 : tSt) (w17_1 : Int32) (H : Heap) (locs : List Loc) (ls : Array Slot), okX t1 → frA [(23, 3), (23, 6), (23, 12)] [] [47] [] t t1 → (0 : Int) ≤ w17_1.toInt ∧ w17_1.toInt ≤ 10 → (0 : Int) ≤ (t1.1 23 12).toInt ∧ (t1.1 23 12).toInt ≤ 0 → (0 : Int) ≤ (t1.1 23 3).toInt ∧ (t1.1 23 3).toInt ≤ 0 → (0 : Int) ≤ (t1.1 23 6).toInt ∧ (t1.1 23 6).toInt ≤ 0 → (10 : Int) - w17_1.toInt < (fuel_17 : Int) → va_P D vwCl ((WX d) K ad t1) H → va_D A ((WX d) K ad t1) → va_S A s.heap H locs → lv_has ls 2 [(0, .ref (ad 23)), (1, .int w17_1)] → W p l e (rmD 0 0 0) s m [.ref (ad 23)].toArray below meth c H locs 0 0 (MQ below (QV D K (fun (u : tSt) => okX u ∧ frA [(23, 3), (23, 6), (23, 12)] [] [47] [] t u) (fun (u : tSt) => (WX d) K ad u) A) [.ref (ad 23)].toArray s 0 0 A) (F0 m 17 ls []) := by
    intro fuel_17
    induction fuel_17 with
    | zero =>
      intro t1 w17_1 H locs ls hok hfr hw17_1 hf17_12 hf17_3 hf17_6 hm17_17 hP hD hS hl
      exact absurd hm17_17 (by omega)
    | succ fuel_17 ih_17 =>
      intro t1 w17_1 H locs ls hok hfr hw17_1 hf17_12 hf17_3 hf17_6 hm17_17 hP hD hS hl
      have hm17_17 : (10 : Int) - w17_1.toInt < (fuel_17 : Int) + 1 := by omega
      refine lv_iload_n C.1 C.2.1 dX8_clear_17 rfl (lv_at hl 1 rfl) ?_
      refine lv_bipush (v := 10) C.1 C.2.1 dX8_clear_18 (by decide) ?_
      refine lv_icmp_ge (tgt := 36) C.1 C.2.1 dX8_clear_20 (by decide) (fun c_1 => ?_) (fun c_1 => ?_)
      · replace c_1 : 10 ≤ w17_1.toInt := i_le c_1
        exact g_vret C hr hlocks hP hD hS t1 rfl ⟨hok, hfr⟩ (Nat.le_of_ble_eq_true rfl) (Nat.le_of_ble_eq_true rfl) dX8_clear_36
      · replace c_1 : w17_1.toInt < 10 := i_nle c_1
        refine lv_aload_n C.1 C.2.1 dX8_clear_23 rfl (lv_at hl 0 rfl) ?_
        refine k_get (v := .ref (ad 47)) C hP 23 rfl rfl inlX8 8 (by decide) m_5_5 rfl dX8_clear_24 ?_
        refine lv_iload_n C.1 C.2.1 dX8_clear_27 rfl (lv_at hl 1 rfl) ?_
        refine lv_iconst (v := 0) C.1 C.2.1 dX8_clear_28 (by decide) ?_
        obtain ⟨v_2, e_3⟩ : ∃ z, z = vp_nar .boolean 0 := ⟨_, rfl⟩
        have h_4 : (0 : Int) ≤ v_2.toInt ∧ v_2.toInt ≤ 1 := by rw [e_3]; exact nar_boolean _
        refine k_zst (ws' := (WX d) K ad (uB t1 47 (w17_1 : Int32).toNatClampNeg v_2)) (x' := v_2) C hP hD hS 47 rfl (vp_in_iff.mpr ⟨by omega, by omega⟩) rfl e_3.symm rfl dX8_clear_29 (fun H locs hP hD hS => ?_)
        have hok : okX (uB t1 47 (w17_1 : Int32).toNatClampNeg v_2) := ⟨hok.1, okB_B hok.2.1 47 _ v_2 (show (0 : Int) ≤ (v_2 : Int32).toInt ∧ (v_2 : Int32).toInt ≤ 1 from ⟨by omega, by omega⟩), trivial⟩
        have hfr : frA [(23, 3), (23, 6), (23, 12)] [] [47] [] t (uB t1 47 (w17_1 : Int32).toNatClampNeg v_2) := frA_B hfr 47 _ _ rfl
        obtain ⟨v_5, e_6⟩ : ∃ z, z = w17_1 + 1 := ⟨_, rfl⟩
        have h_7 : v_5.toInt = w17_1.toInt + 1 := by rw [e_6]; exact ti_iadd (by show (_ : Int) ≤ w17_1.toInt + 1; omega) (by show w17_1.toInt + 1 < (_ : Int); omega)
        refine lv_iinc (v := v_5) (lv' := [(1, .int v_5), (0, .ref (ad 23))]) C.1 C.2.1 dX8_clear_30 hl (k := 1) rfl e_6.symm (by decide) rfl (fun ls hl => ?_)
        have hl : lv_has ls 2 [(0, .ref (ad 23)), (1, .int v_5)] := lv_sub hl [1, 0] rfl
        refine lv_goto (tgt := 17) C.1 C.2.1 dX8_clear_33 (by decide) ?_
        exact ih_17 (uB t1 47 (w17_1 : Int32).toNatClampNeg v_2) v_5 _ _ _ hok hfr ⟨by omega, by omega⟩ (show (0 : Int) ≤ ((t1.1 23 12) : Int32).toInt ∧ ((t1.1 23 12) : Int32).toInt ≤ 0 from ⟨by omega, by omega⟩) (show (0 : Int) ≤ ((t1.1 23 3) : Int32).toInt ∧ ((t1.1 23 3) : Int32).toInt ≤ 0 from ⟨by omega, by omega⟩) (show (0 : Int) ≤ ((t1.1 23 6) : Int32).toInt ∧ ((t1.1 23 6) : Int32).toInt ≤ 0 from ⟨by omega, by omega⟩) (show (10 : Int) - v_5.toInt < (fuel_17 : Int) from by omega) hP hD hS (lv_sub hl [0, 1] rfl)
  refine lv_aload_n C.1 C.2.1 dX8_clear_0 rfl (lv_at hl 0 rfl) ?_
  refine lv_iconst (v := 0) C.1 C.2.1 dX8_clear_1 (by decide) ?_
  refine k_put (ws' := (WX d) K ad (uI t 23 3 0)) (v := .int 0) C hP hD hS 23 rfl rfl inlX8 tyX8_ok nmX8 3 (by decide) m_13_8 rfl rfl rfl rfl rfl dX8_clear_2 (fun H locs hP hD hS => ?_)
  have hok : okX (uI t 23 3 0) := ⟨okI_I hok.1 23 3 0 (show (0 : Int) ≤ (0 : Int32).toInt ∧ (0 : Int32).toInt ≤ 1024 from ⟨by decide, by decide⟩), hok.2.1, trivial⟩
  have hfr : frA [(23, 3), (23, 6), (23, 12)] [] [47] [] t (uI t 23 3 0) := frA_I hfr 23 3 _ rfl
  refine lv_aload_n C.1 C.2.1 dX8_clear_5 rfl (lv_at hl 0 rfl) ?_
  refine lv_iconst (v := 0) C.1 C.2.1 dX8_clear_6 (by decide) ?_
  refine k_put (ws' := (WX d) K ad (uI (uI t 23 3 0) 23 6 0)) (v := .int 0) C hP hD hS 23 rfl rfl inlX8 tyX8_ok nmX8 6 (by decide) m_13_9 rfl rfl rfl rfl rfl dX8_clear_7 (fun H locs hP hD hS => ?_)
  have hok : okX (uI (uI t 23 3 0) 23 6 0) := ⟨okI_I hok.1 23 6 0 (show (0 : Int) ≤ (0 : Int32).toInt ∧ (0 : Int32).toInt ≤ 4096 from ⟨by decide, by decide⟩), hok.2.1, trivial⟩
  have hfr : frA [(23, 3), (23, 6), (23, 12)] [] [47] [] t (uI (uI t 23 3 0) 23 6 0) := frA_I hfr 23 6 _ rfl
  refine lv_aload_n C.1 C.2.1 dX8_clear_10 rfl (lv_at hl 0 rfl) ?_
  refine lv_iconst (v := 0) C.1 C.2.1 dX8_clear_11 (by decide) ?_
  refine k_put (ws' := (WX d) K ad (uI (uI (uI t 23 3 0) 23 6 0) 23 12 0)) (v := .int 0) C hP hD hS 23 rfl rfl inlX8 tyX8_ok nmX8 12 (by decide) m_13_10 rfl rfl rfl rfl rfl dX8_clear_12 (fun H locs hP hD hS => ?_)
  have hok : okX (uI (uI (uI t 23 3 0) 23 6 0) 23 12 0) := ⟨okI_I hok.1 23 12 0 (show (0 : Int) ≤ (0 : Int32).toInt ∧ (0 : Int32).toInt ≤ 512 from ⟨by decide, by decide⟩), hok.2.1, trivial⟩
  have hfr : frA [(23, 3), (23, 6), (23, 12)] [] [47] [] t (uI (uI (uI t 23 3 0) 23 6 0) 23 12 0) := frA_I hfr 23 12 _ rfl
  refine lv_iconst (v := 0) C.1 C.2.1 dX8_clear_15 (by decide) ?_
  refine lv_istore_n (lv' := [(1, .int 0), (0, .ref (ad 23))]) C.1 C.2.1 dX8_clear_16 rfl hl (by decide) rfl (fun ls hl => ?_)
  have hl : lv_has ls 2 [(0, .ref (ad 23)), (1, .int 0)] := lv_sub hl [1, 0] rfl
  exact L_17 11 (uI (uI (uI t 23 3 0) 23 6 0) 23 12 0) 0 _ _ _ hok hfr ⟨by decide, by decide⟩ (show (0 : Int) ≤ (0 : Int32).toInt ∧ (0 : Int32).toInt ≤ 0 from ⟨by decide, by decide⟩) (show (0 : Int) ≤ (0 : Int32).toInt ∧ (0 : Int32).toInt ≤ 0 from ⟨by decide, by decide⟩) (show (0 : Int) ≤ (0 : Int32).toInt ∧ (0 : Int32).toInt ≤ 0 from ⟨by decide, by decide⟩) (show (10 : Int) - 0 < ((11 : Nat) : Int) from by omega) hP hD hS (lv_sub hl [0, 1] rfl)

theorem dX2_start_0 : decode cX2_start 0 = .ok (.aload_n 0, 1) := by decide +kernel
theorem dX2_start_1 : decode cX2_start 1 = .ok (.iload_n 1, 1) := by decide +kernel
theorem dX2_start_10 : decode cX2_start 10 = .ok (.iconst 1, 1) := by decide +kernel
theorem dX2_start_11 : decode cX2_start 11 = .ok (.goto 4, 3) := by decide +kernel
theorem dX2_start_14 : decode cX2_start 14 = .ok (.iconst 0, 1) := by decide +kernel
theorem dX2_start_15 : decode cX2_start 15 = .ok (.putfield 51, 3) := by decide +kernel
theorem dX2_start_18 : decode cX2_start 18 = .ok (.aload_n 0, 1) := by decide +kernel
theorem dX2_start_19 : decode cX2_start 19 = .ok (.aload_n 0, 1) := by decide +kernel
theorem dX2_start_2 : decode cX2_start 2 = .ok (.putfield 44, 3) := by decide +kernel
theorem dX2_start_20 : decode cX2_start 20 = .ok (.getfield 51, 3) := by decide +kernel
theorem dX2_start_23 : decode cX2_start 23 = .ok (.putfield 54, 3) := by decide +kernel
theorem dX2_start_26 : decode cX2_start 26 = .ok (.aload_n 0, 1) := by decide +kernel
theorem dX2_start_27 : decode cX2_start 27 = .ok (.ldc2_w 57, 3) := by decide +kernel
theorem dX2_start_30 : decode cX2_start 30 = .ok (.putfield 59, 3) := by decide +kernel
theorem dX2_start_33 : decode cX2_start 33 = .ok (.aload_n 0, 1) := by decide +kernel
theorem dX2_start_34 : decode cX2_start 34 = .ok (.iconst 0, 1) := by decide +kernel
theorem dX2_start_35 : decode cX2_start 35 = .ok (.putfield 15, 3) := by decide +kernel
theorem dX2_start_38 : decode cX2_start 38 = .ok (.return_, 1) := by decide +kernel
theorem dX2_start_5 : decode cX2_start 5 = .ok (.aload_n 0, 1) := by decide +kernel
theorem dX2_start_6 : decode cX2_start 6 = .ok (.iload_n 1, 1) := by decide +kernel
theorem dX2_start_7 : decode cX2_start 7 = .ok (.ifCond .ge 7, 3) := by decide +kernel
set_option maxHeartbeats 4000000 in
set_option maxRecDepth 100000 in
theorem T_X2_start (l : Launch) (D : va_G) (K : Nat → ClassId) (Z Y : Nat → Nat) (ad : Nat → Nat) (d : dSt) (t : tSt) (hok : okX t) (x1 : Int32) (hx1 : (-1073741824 : Int) ≤ x1.toInt ∧ x1.toInt ≤ 2147483647) : tMet l yX2_start cX2_start 2 none (rmD 0 0 0) D K Z Y [.ref (ad 4), .int x1] ((WX d) K ad t) (QV D K (fun (u : tSt) => okX u ∧ frA [(4, 5), (4, 8), (4, 9), (4, 10)] [(4, 7)] [] [] t u) (fun (u : tSt) => (WX d) K ad u)) 0 0 := by
  refine t_met RX2 ⟨rfl, by decide +kernel⟩ (Nat.le_of_ble_eq_true rfl) ?_
  intro p e s m below meth c A ls C hE hZ hr hlocks hA hP hD hS hl
  have hl : lv_has ls 2 [(0, .ref (ad 4)), (1, .int x1)] := hl
  have hokt := hok
  have hfr : frA [(4, 5), (4, 8), (4, 9), (4, 10)] [(4, 7)] [] [] t t := frA_rf
  have L_15 : ∀ (t1 : tSt) (k15_1 : Int32) (H : Heap) (locs : List Loc) (ls : Array Slot), okX t1 → frA [(4, 5), (4, 8), (4, 9), (4, 10)] [(4, 7)] [] [] t t1 → (0 : Int) ≤ k15_1.toInt ∧ k15_1.toInt ≤ 1 → (-1073741824 : Int) ≤ (t1.1 4 5).toInt ∧ (t1.1 4 5).toInt ≤ 2147483647 → va_P D vwCl ((WX d) K ad t1) H → va_D A ((WX d) K ad t1) → va_S A s.heap H locs → lv_has ls 2 [(0, .ref (ad 4)), (1, .int x1)] → W p l e (rmD 0 0 0) s m [.ref (ad 4), .int x1].toArray below meth c H locs 0 0 (MQ below (QV D K (fun (u : tSt) => okX u ∧ frA [(4, 5), (4, 8), (4, 9), (4, 10)] [(4, 7)] [] [] t u) (fun (u : tSt) => (WX d) K ad u) A) [.ref (ad 4), .int x1].toArray s 0 0 A) (F0 m 15 ls [.int k15_1, .ref (ad 4)]) := by
    intro t1 k15_1 H locs ls hok hfr hk15_1 hf15_5 hP hD hS hl
    refine k_put (ws' := (WX d) K ad (uI t1 4 9 k15_1)) (v := .int k15_1) C hP hD hS 4 rfl rfl inlX2 tyX2_ok nmX2 9 (by decide) m_11_8 rfl (nar01 (by omega) (by omega)) (fit01 (by omega) (by omega)) rfl rfl dX2_start_15 (fun H locs hP hD hS => ?_)
    have hok : okX (uI t1 4 9 k15_1) := ⟨okI_I hok.1 4 9 k15_1 (show (0 : Int) ≤ (k15_1 : Int32).toInt ∧ (k15_1 : Int32).toInt ≤ 1 from ⟨by omega, by omega⟩), hok.2.1, trivial⟩
    have hfr : frA [(4, 5), (4, 8), (4, 9), (4, 10)] [(4, 7)] [] [] t (uI t1 4 9 k15_1) := frA_I hfr 4 9 _ rfl
    refine lv_aload_n C.1 C.2.1 dX2_start_18 rfl (lv_at hl 0 rfl) ?_
    refine lv_aload_n C.1 C.2.1 dX2_start_19 rfl (lv_at hl 0 rfl) ?_
    refine k_get (v := .int k15_1) C hP 4 rfl rfl inlX2 9 (by decide) m_11_8 rfl dX2_start_20 ?_
    refine k_put (ws' := (WX d) K ad (uI (uI t1 4 9 k15_1) 4 10 k15_1)) (v := .int k15_1) C hP hD hS 4 rfl rfl inlX2 tyX2_ok nmX2 10 (by decide) m_11_9 rfl (nar01 (by omega) (by omega)) (fit01 (by omega) (by omega)) rfl rfl dX2_start_23 (fun H locs hP hD hS => ?_)
    have hok : okX (uI (uI t1 4 9 k15_1) 4 10 k15_1) := ⟨okI_I hok.1 4 10 k15_1 (show (0 : Int) ≤ (k15_1 : Int32).toInt ∧ (k15_1 : Int32).toInt ≤ 1 from ⟨by omega, by omega⟩), hok.2.1, trivial⟩
    have hfr : frA [(4, 5), (4, 8), (4, 9), (4, 10)] [(4, 7)] [] [] t (uI (uI t1 4 9 k15_1) 4 10 k15_1) := frA_I hfr 4 10 _ rfl
    refine lv_aload_n C.1 C.2.1 dX2_start_26 rfl (lv_at hl 0 rfl) ?_
    refine lv_ldc2 (v := 1152921504606846976) C.1 C.2.1 C.2.2.2.1 (C.2.2.2.2.1 _ m_28_16) dX2_start_27 ?_
    refine k_put (ws' := (WX d) K ad (uJ (uI (uI t1 4 9 k15_1) 4 10 k15_1) 4 7 1152921504606846976)) (v := .long 1152921504606846976) C hP hD hS 4 rfl rfl inlX2 tyX2_ok nmX2 7 (by decide) m_28_17 rfl rfl rfl rfl rfl dX2_start_30 (fun H locs hP hD hS => ?_)
    have hok : okX (uJ (uI (uI t1 4 9 k15_1) 4 10 k15_1) 4 7 1152921504606846976) := ⟨hok.1, hok.2.1, trivial⟩
    have hfr : frA [(4, 5), (4, 8), (4, 9), (4, 10)] [(4, 7)] [] [] t (uJ (uI (uI t1 4 9 k15_1) 4 10 k15_1) 4 7 1152921504606846976) := frA_J hfr 4 7 _ rfl
    refine lv_aload_n C.1 C.2.1 dX2_start_33 rfl (lv_at hl 0 rfl) ?_
    refine lv_iconst (v := 0) C.1 C.2.1 dX2_start_34 (by decide) ?_
    refine k_put (ws' := (WX d) K ad (uI (uJ (uI (uI t1 4 9 k15_1) 4 10 k15_1) 4 7 1152921504606846976) 4 8 0)) (v := .int 0) C hP hD hS 4 rfl rfl inlX2 tyX2_ok nmX2 8 (by decide) m_4_17 rfl rfl rfl rfl rfl dX2_start_35 (fun H locs hP hD hS => ?_)
    have hok : okX (uI (uJ (uI (uI t1 4 9 k15_1) 4 10 k15_1) 4 7 1152921504606846976) 4 8 0) := ⟨okI_I hok.1 4 8 0 (show (0 : Int) ≤ (0 : Int32).toInt ∧ (0 : Int32).toInt ≤ 9 from ⟨by decide, by decide⟩), hok.2.1, trivial⟩
    have hfr : frA [(4, 5), (4, 8), (4, 9), (4, 10)] [(4, 7)] [] [] t (uI (uJ (uI (uI t1 4 9 k15_1) 4 10 k15_1) 4 7 1152921504606846976) 4 8 0) := frA_I hfr 4 8 _ rfl
    exact g_vret C hr hlocks hP hD hS (uI (uJ (uI (uI t1 4 9 k15_1) 4 10 k15_1) 4 7 1152921504606846976) 4 8 0) rfl ⟨hok, hfr⟩ (Nat.le_of_ble_eq_true rfl) (Nat.le_of_ble_eq_true rfl) dX2_start_38
  refine lv_aload_n C.1 C.2.1 dX2_start_0 rfl (lv_at hl 0 rfl) ?_
  refine lv_iload_n C.1 C.2.1 dX2_start_1 rfl (lv_at hl 1 rfl) ?_
  refine k_put (ws' := (WX d) K ad (uI t 4 5 x1)) (v := .int x1) C hP hD hS 4 rfl rfl inlX2 tyX2_ok nmX2 5 (by decide) m_11_6 rfl rfl rfl rfl rfl dX2_start_2 (fun H locs hP hD hS => ?_)
  have hok : okX (uI t 4 5 x1) := ⟨okI_I hok.1 4 5 x1 (show (-2147483648 : Int) ≤ (x1 : Int32).toInt ∧ (x1 : Int32).toInt ≤ 2147483647 from (i_rng _)), hok.2.1, trivial⟩
  have hfr : frA [(4, 5), (4, 8), (4, 9), (4, 10)] [(4, 7)] [] [] t (uI t 4 5 x1) := frA_I hfr 4 5 _ rfl
  refine lv_aload_n C.1 C.2.1 dX2_start_5 rfl (lv_at hl 0 rfl) ?_
  refine lv_iload_n C.1 C.2.1 dX2_start_6 rfl (lv_at hl 1 rfl) ?_
  refine lv_if_ge (tgt := 14) C.1 C.2.1 dX2_start_7 (by decide) (fun c_1 => ?_) (fun c_1 => ?_)
  · replace c_1 : 0 ≤ x1.toInt := i_le c_1
    refine lv_iconst (v := 0) C.1 C.2.1 dX2_start_14 (by decide) ?_
    exact L_15 (uI t 4 5 x1) 0 _ _ _ hok hfr ⟨by decide, by decide⟩ (show (-1073741824 : Int) ≤ (x1 : Int32).toInt ∧ (x1 : Int32).toInt ≤ 2147483647 from ⟨by omega, (i_rng _).2⟩) hP hD hS (lv_sub hl [0, 1] rfl)
  · replace c_1 : x1.toInt < 0 := i_nle c_1
    refine lv_iconst (v := 1) C.1 C.2.1 dX2_start_10 (by decide) ?_
    refine lv_goto (tgt := 15) C.1 C.2.1 dX2_start_11 (by decide) ?_
    exact L_15 (uI t 4 5 x1) 1 _ _ _ hok hfr ⟨by decide, by decide⟩ (show (-1073741824 : Int) ≤ (x1 : Int32).toInt ∧ (x1 : Int32).toInt ≤ 2147483647 from ⟨by omega, (i_rng _).2⟩) hP hD hS (lv_sub hl [0, 1] rfl)

theorem dX3_wordOf_0 : decode cX3_wordOf 0 = .ok (.iload_n 0, 1) := by decide +kernel
theorem dX3_wordOf_1 : decode cX3_wordOf 1 = .ok (.tableswitch 43 0 3 #[31, 34, 37, 40], 31) := by decide +kernel
theorem dX3_wordOf_32 : decode cX3_wordOf 32 = .ok (.ldc 126, 2) := by decide +kernel
theorem dX3_wordOf_34 : decode cX3_wordOf 34 = .ok (.areturn, 1) := by decide +kernel
theorem dX3_wordOf_35 : decode cX3_wordOf 35 = .ok (.ldc 128, 2) := by decide +kernel
theorem dX3_wordOf_37 : decode cX3_wordOf 37 = .ok (.areturn, 1) := by decide +kernel
theorem dX3_wordOf_38 : decode cX3_wordOf 38 = .ok (.ldc 130, 2) := by decide +kernel
theorem dX3_wordOf_40 : decode cX3_wordOf 40 = .ok (.areturn, 1) := by decide +kernel
theorem dX3_wordOf_41 : decode cX3_wordOf 41 = .ok (.ldc 132, 2) := by decide +kernel
theorem dX3_wordOf_43 : decode cX3_wordOf 43 = .ok (.areturn, 1) := by decide +kernel
theorem dX3_wordOf_44 : decode cX3_wordOf 44 = .ok (.ldc 134, 2) := by decide +kernel
theorem dX3_wordOf_46 : decode cX3_wordOf 46 = .ok (.areturn, 1) := by decide +kernel
set_option maxHeartbeats 4000000 in
set_option maxRecDepth 100000 in
theorem T_X3_wordOf (l : Launch) (D : va_G) (K : Nat → ClassId) (Z Y : Nat → Nat) (ad : Nat → Nat) (d : dSt) (t : tSt) (hok : okX t) (x0 : Int32) (hx0 : (0 : Int) ≤ x0.toInt ∧ x0.toInt ≤ 4) : tMet l yX3_wordOf cX3_wordOf 1 (some (.object "java/lang/String")) (rmD 0 0 0) D K Z Y [.int x0] ((WX d) K ad t) (QR D K (fun (u : Nat) => sS u) (fun u => Z u) (fun (_ : Nat) => (WX d) K ad t)) 0 0 := by
  refine t_met RX3 ⟨rfl, by decide +kernel⟩ (Nat.le_of_ble_eq_true rfl) ?_
  intro p e s m below meth c A ls C hE hZ hr hlocks hA hP hD hS hl
  have hl : lv_has ls 1 [(0, .int x0)] := hl
  refine lv_iload_n C.1 C.2.1 dX3_wordOf_0 rfl (lv_at hl 0 rfl) ?_
  by_cases c_1 : x0 = 0
  · refine lv_tableIn (tgt := 32) (off := 31) C.1 C.2.1 dX3_wordOf_1 (by rw [c_1]; decide) (by rw [c_1]; decide) (by rw [c_1]; decide) (by decide) ?_
    replace c_1 : x0.toInt = 0 := i_eq c_1
    refine va_ldcS C.1 C.2.1 C.2.2.2.1 (hE.2 8 (by decide)) dX3_wordOf_32 ?_
    exact g_rret C hr hlocks hP hD hS (Or.inl ⟨_, rfl⟩) 8 rfl rfl (show sS 8 from ⟨by decide, by decide, by decide⟩) (Nat.le_of_ble_eq_true rfl) (Nat.le_of_ble_eq_true rfl) dX3_wordOf_34
  replace c_1 : ¬ x0.toInt = 0 := i_ne c_1
  by_cases c_2 : x0 = 1
  · refine lv_tableIn (tgt := 35) (off := 34) C.1 C.2.1 dX3_wordOf_1 (by rw [c_2]; decide) (by rw [c_2]; decide) (by rw [c_2]; decide) (by decide) ?_
    replace c_2 : x0.toInt = 1 := i_eq c_2
    refine va_ldcS C.1 C.2.1 C.2.2.2.1 (hE.2 9 (by decide)) dX3_wordOf_35 ?_
    exact g_rret C hr hlocks hP hD hS (Or.inl ⟨_, rfl⟩) 9 rfl rfl (show sS 9 from ⟨by decide, by decide, by decide⟩) (Nat.le_of_ble_eq_true rfl) (Nat.le_of_ble_eq_true rfl) dX3_wordOf_37
  replace c_2 : ¬ x0.toInt = 1 := i_ne c_2
  by_cases c_3 : x0 = 2
  · refine lv_tableIn (tgt := 38) (off := 37) C.1 C.2.1 dX3_wordOf_1 (by rw [c_3]; decide) (by rw [c_3]; decide) (by rw [c_3]; decide) (by decide) ?_
    replace c_3 : x0.toInt = 2 := i_eq c_3
    refine va_ldcS C.1 C.2.1 C.2.2.2.1 (hE.2 10 (by decide)) dX3_wordOf_38 ?_
    exact g_rret C hr hlocks hP hD hS (Or.inl ⟨_, rfl⟩) 10 rfl rfl (show sS 10 from ⟨by decide, by decide, by decide⟩) (Nat.le_of_ble_eq_true rfl) (Nat.le_of_ble_eq_true rfl) dX3_wordOf_40
  replace c_3 : ¬ x0.toInt = 2 := i_ne c_3
  by_cases c_4 : x0 = 3
  · refine lv_tableIn (tgt := 41) (off := 40) C.1 C.2.1 dX3_wordOf_1 (by rw [c_4]; decide) (by rw [c_4]; decide) (by rw [c_4]; decide) (by decide) ?_
    replace c_4 : x0.toInt = 3 := i_eq c_4
    refine va_ldcS C.1 C.2.1 C.2.2.2.1 (hE.2 11 (by decide)) dX3_wordOf_41 ?_
    exact g_rret C hr hlocks hP hD hS (Or.inl ⟨_, rfl⟩) 11 rfl rfl (show sS 11 from ⟨by decide, by decide, by decide⟩) (Nat.le_of_ble_eq_true rfl) (Nat.le_of_ble_eq_true rfl) dX3_wordOf_43
  replace c_4 : ¬ x0.toInt = 3 := i_ne c_4
  refine lv_tableOut (tgt := 44) C.1 C.2.1 dX3_wordOf_1 (by omega) (by decide) ?_
  refine va_ldcS C.1 C.2.1 C.2.2.2.1 (hE.2 12 (by decide)) dX3_wordOf_44 ?_
  exact g_rret C hr hlocks hP hD hS (Or.inl ⟨_, rfl⟩) 12 rfl rfl (show sS 12 from ⟨by decide, by decide, by decide⟩) (Nat.le_of_ble_eq_true rfl) (Nat.le_of_ble_eq_true rfl) dX3_wordOf_46

theorem dX9_isBlankAt_0 : decode cX9_isBlankAt 0 = .ok (.iload_n 1, 1) := by decide +kernel
theorem dX9_isBlankAt_1 : decode cX9_isBlankAt 1 = .ok (.bipush 80, 2) := by decide +kernel
theorem dX9_isBlankAt_10 : decode cX9_isBlankAt 10 = .ok (.aload_n 0, 1) := by decide +kernel
theorem dX9_isBlankAt_11 : decode cX9_isBlankAt 11 = .ok (.getfield 11, 3) := by decide +kernel
theorem dX9_isBlankAt_14 : decode cX9_isBlankAt 14 = .ok (.iload_n 1, 1) := by decide +kernel
theorem dX9_isBlankAt_15 : decode cX9_isBlankAt 15 = .ok (.baload, 1) := by decide +kernel
theorem dX9_isBlankAt_16 : decode cX9_isBlankAt 16 = .ok (.bipush 32, 2) := by decide +kernel
theorem dX9_isBlankAt_18 : decode cX9_isBlankAt 18 = .ok (.if_icmp .ne 7, 3) := by decide +kernel
theorem dX9_isBlankAt_21 : decode cX9_isBlankAt 21 = .ok (.iconst 1, 1) := by decide +kernel
theorem dX9_isBlankAt_22 : decode cX9_isBlankAt 22 = .ok (.goto 4, 3) := by decide +kernel
theorem dX9_isBlankAt_25 : decode cX9_isBlankAt 25 = .ok (.iconst 0, 1) := by decide +kernel
theorem dX9_isBlankAt_26 : decode cX9_isBlankAt 26 = .ok (.ireturn, 1) := by decide +kernel
theorem dX9_isBlankAt_3 : decode cX9_isBlankAt 3 = .ok (.if_icmp .ge 18, 3) := by decide +kernel
theorem dX9_isBlankAt_6 : decode cX9_isBlankAt 6 = .ok (.iload_n 1, 1) := by decide +kernel
theorem dX9_isBlankAt_7 : decode cX9_isBlankAt 7 = .ok (.ifCond .lt 18, 3) := by decide +kernel
set_option maxHeartbeats 4000000 in
set_option maxRecDepth 100000 in
theorem T_X9_isBlankAt (l : Launch) (D : va_G) (K : Nat → ClassId) (Z Y : Nat → Nat) (ad : Nat → Nat) (d : dSt) (t : tSt) (hok : okX t) (x1 : Int32) : tMet l yX9_isBlankAt cX9_isBlankAt 2 (some .boolean) (rmD 0 0 0) D K Z Y [.ref (ad 29), .int x1] ((WX d) K ad t) (QI D K (fun (r : Int32) (u : Unit) => (0 : Int) ≤ r.toInt ∧ r.toInt ≤ 1) (fun (_ : Unit) => (WX d) K ad t)) 0 0 := by
  refine t_met RX9 ⟨rfl, by decide +kernel⟩ (Nat.le_of_ble_eq_true rfl) ?_
  intro p e s m below meth c A ls C hE hZ hr hlocks hA hP hD hS hl
  have hl : lv_has ls 2 [(0, .ref (ad 29)), (1, .int x1)] := hl
  refine lv_iload_n C.1 C.2.1 dX9_isBlankAt_0 rfl (lv_at hl 1 rfl) ?_
  refine lv_bipush (v := 80) C.1 C.2.1 dX9_isBlankAt_1 (by decide) ?_
  refine lv_icmp_ge (tgt := 21) C.1 C.2.1 dX9_isBlankAt_3 (by decide) (fun c_1 => ?_) (fun c_1 => ?_)
  · replace c_1 : 80 ≤ x1.toInt := i_le c_1
    refine lv_iconst (v := 1) C.1 C.2.1 dX9_isBlankAt_21 (by decide) ?_
    refine lv_goto (tgt := 26) C.1 C.2.1 dX9_isBlankAt_22 (by decide) ?_
    exact g_iret C hr hlocks hP hD hS (by decide) () rfl ⟨by decide, by decide⟩ (Nat.le_of_ble_eq_true rfl) (Nat.le_of_ble_eq_true rfl) dX9_isBlankAt_26
  · replace c_1 : x1.toInt < 80 := i_nle c_1
    refine lv_iload_n C.1 C.2.1 dX9_isBlankAt_6 rfl (lv_at hl 1 rfl) ?_
    refine lv_if_lt (tgt := 25) C.1 C.2.1 dX9_isBlankAt_7 (by decide) (fun c_2 => ?_) (fun c_2 => ?_)
    · replace c_2 : x1.toInt < 0 := i_lt c_2
      refine lv_iconst (v := 0) C.1 C.2.1 dX9_isBlankAt_25 (by decide) ?_
      exact g_iret C hr hlocks hP hD hS (by decide) () rfl ⟨by decide, by decide⟩ (Nat.le_of_ble_eq_true rfl) (Nat.le_of_ble_eq_true rfl) dX9_isBlankAt_26
    · replace c_2 : 0 ≤ x1.toInt := i_nlt c_2
      refine lv_aload_n C.1 C.2.1 dX9_isBlankAt_10 rfl (lv_at hl 0 rfl) ?_
      refine k_get (v := .ref (ad 51)) C hP 29 rfl rfl inlX9 1 (by decide) m_2_23 rfl dX9_isBlankAt_11 ?_
      refine lv_iload_n C.1 C.2.1 dX9_isBlankAt_14 rfl (lv_at hl 1 rfl) ?_
      obtain ⟨v_3, e_4⟩ : ∃ z, z = (t.2.2.1 51 (x1 : Int32).toNatClampNeg) := ⟨_, rfl⟩
      have h_5 : (-128 : Int) ≤ v_3.toInt ∧ v_3.toInt ≤ 127 := by rw [e_4]; exact hok.2.1 51 _
      refine k_bld (v := v_3) C hP 51 rfl (vp_in_iff.mpr ⟨by omega, by omega⟩) e_4.symm dX9_isBlankAt_15 ?_
      refine lv_bipush (v := 32) C.1 C.2.1 dX9_isBlankAt_16 (by decide) ?_
      refine lv_icmp_ne (tgt := 25) C.1 C.2.1 dX9_isBlankAt_18 (by decide) (fun c_6 => ?_) (fun c_6 => ?_)
      · replace c_6 : ¬ v_3.toInt = 32 := i_ne c_6
        refine lv_iconst (v := 0) C.1 C.2.1 dX9_isBlankAt_25 (by decide) ?_
        exact g_iret C hr hlocks hP hD hS (by decide) () rfl ⟨by decide, by decide⟩ (Nat.le_of_ble_eq_true rfl) (Nat.le_of_ble_eq_true rfl) dX9_isBlankAt_26
      · replace c_6 : v_3.toInt = 32 := i_eq c_6
        refine lv_iconst (v := 1) C.1 C.2.1 dX9_isBlankAt_21 (by decide) ?_
        refine lv_goto (tgt := 26) C.1 C.2.1 dX9_isBlankAt_22 (by decide) ?_
        exact g_iret C hr hlocks hP hD hS (by decide) () rfl ⟨by decide, by decide⟩ (Nat.le_of_ble_eq_true rfl) (Nat.le_of_ble_eq_true rfl) dX9_isBlankAt_26

theorem dX9_advance_0 : decode cX9_advance 0 = .ok (.aload_n 0, 1) := by decide +kernel
theorem dX9_advance_1 : decode cX9_advance 1 = .ok (.dup, 1) := by decide +kernel
theorem dX9_advance_10 : decode cX9_advance 10 = .ok (.aload_n 0, 1) := by decide +kernel
theorem dX9_advance_101 : decode cX9_advance 101 = .ok (.if_icmp .ge 23, 3) := by decide +kernel
theorem dX9_advance_104 : decode cX9_advance 104 = .ok (.aload_n 0, 1) := by decide +kernel
theorem dX9_advance_105 : decode cX9_advance 105 = .ok (.getfield 15, 3) := by decide +kernel
theorem dX9_advance_108 : decode cX9_advance 108 = .ok (.aload_n 0, 1) := by decide +kernel
theorem dX9_advance_109 : decode cX9_advance 109 = .ok (.getfield 43, 3) := by decide +kernel
theorem dX9_advance_11 : decode cX9_advance 11 = .ok (.getfield 37, 3) := by decide +kernel
theorem dX9_advance_112 : decode cX9_advance 112 = .ok (.iload_n 2, 1) := by decide +kernel
theorem dX9_advance_113 : decode cX9_advance 113 = .ok (.iadd, 1) := by decide +kernel
theorem dX9_advance_114 : decode cX9_advance 114 = .ok (.baload, 1) := by decide +kernel
theorem dX9_advance_115 : decode cX9_advance 115 = .ok (.invokestatic 49, 3) := by decide +kernel
theorem dX9_advance_118 : decode cX9_advance 118 = .ok (.invokestatic 55, 3) := by decide +kernel
theorem dX9_advance_121 : decode cX9_advance 121 = .ok (.goto 5, 3) := by decide +kernel
theorem dX9_advance_124 : decode cX9_advance 124 = .ok (.bipush 32, 2) := by decide +kernel
theorem dX9_advance_126 : decode cX9_advance 126 = .ok (.i2b, 1) := by decide +kernel
theorem dX9_advance_127 : decode cX9_advance 127 = .ok (.bastore, 1) := by decide +kernel
theorem dX9_advance_128 : decode cX9_advance 128 = .ok (.iinc 2 1, 3) := by decide +kernel
theorem dX9_advance_131 : decode cX9_advance 131 = .ok (.goto (-46), 3) := by decide +kernel
theorem dX9_advance_134 : decode cX9_advance 134 = .ok (.iconst 1, 1) := by decide +kernel
theorem dX9_advance_135 : decode cX9_advance 135 = .ok (.ireturn, 1) := by decide +kernel
theorem dX9_advance_14 : decode cX9_advance 14 = .ok (.aload_n 0, 1) := by decide +kernel
theorem dX9_advance_15 : decode cX9_advance 15 = .ok (.getfield 31, 3) := by decide +kernel
theorem dX9_advance_18 : decode cX9_advance 18 = .ok (.if_icmp .lt 5, 3) := by decide +kernel
theorem dX9_advance_2 : decode cX9_advance 2 = .ok (.getfield 40, 3) := by decide +kernel
theorem dX9_advance_21 : decode cX9_advance 21 = .ok (.iconst 0, 1) := by decide +kernel
theorem dX9_advance_22 : decode cX9_advance 22 = .ok (.ireturn, 1) := by decide +kernel
theorem dX9_advance_23 : decode cX9_advance 23 = .ok (.aload_n 0, 1) := by decide +kernel
theorem dX9_advance_24 : decode cX9_advance 24 = .ok (.aload_n 0, 1) := by decide +kernel
theorem dX9_advance_25 : decode cX9_advance 25 = .ok (.getfield 37, 3) := by decide +kernel
theorem dX9_advance_28 : decode cX9_advance 28 = .ok (.putfield 43, 3) := by decide +kernel
theorem dX9_advance_31 : decode cX9_advance 31 = .ok (.aload_n 0, 1) := by decide +kernel
theorem dX9_advance_32 : decode cX9_advance 32 = .ok (.getfield 43, 3) := by decide +kernel
theorem dX9_advance_35 : decode cX9_advance 35 = .ok (.istore_n 1, 1) := by decide +kernel
theorem dX9_advance_36 : decode cX9_advance 36 = .ok (.iload_n 1, 1) := by decide +kernel
theorem dX9_advance_37 : decode cX9_advance 37 = .ok (.aload_n 0, 1) := by decide +kernel
theorem dX9_advance_38 : decode cX9_advance 38 = .ok (.getfield 31, 3) := by decide +kernel
theorem dX9_advance_41 : decode cX9_advance 41 = .ok (.if_icmp .ge 20, 3) := by decide +kernel
theorem dX9_advance_44 : decode cX9_advance 44 = .ok (.aload_n 0, 1) := by decide +kernel
theorem dX9_advance_45 : decode cX9_advance 45 = .ok (.getfield 15, 3) := by decide +kernel
theorem dX9_advance_48 : decode cX9_advance 48 = .ok (.iload_n 1, 1) := by decide +kernel
theorem dX9_advance_49 : decode cX9_advance 49 = .ok (.baload, 1) := by decide +kernel
theorem dX9_advance_5 : decode cX9_advance 5 = .ok (.iconst 1, 1) := by decide +kernel
theorem dX9_advance_50 : decode cX9_advance 50 = .ok (.bipush 10, 2) := by decide +kernel
theorem dX9_advance_52 : decode cX9_advance 52 = .ok (.if_icmp .eq 9, 3) := by decide +kernel
theorem dX9_advance_55 : decode cX9_advance 55 = .ok (.iinc 1 1, 3) := by decide +kernel
theorem dX9_advance_58 : decode cX9_advance 58 = .ok (.goto (-22), 3) := by decide +kernel
theorem dX9_advance_6 : decode cX9_advance 6 = .ok (.iadd, 1) := by decide +kernel
theorem dX9_advance_61 : decode cX9_advance 61 = .ok (.aload_n 0, 1) := by decide +kernel
theorem dX9_advance_62 : decode cX9_advance 62 = .ok (.iload_n 1, 1) := by decide +kernel
theorem dX9_advance_63 : decode cX9_advance 63 = .ok (.iconst 1, 1) := by decide +kernel
theorem dX9_advance_64 : decode cX9_advance 64 = .ok (.iadd, 1) := by decide +kernel
theorem dX9_advance_65 : decode cX9_advance 65 = .ok (.putfield 37, 3) := by decide +kernel
theorem dX9_advance_68 : decode cX9_advance 68 = .ok (.aload_n 0, 1) := by decide +kernel
theorem dX9_advance_69 : decode cX9_advance 69 = .ok (.iload_n 1, 1) := by decide +kernel
theorem dX9_advance_7 : decode cX9_advance 7 = .ok (.putfield 40, 3) := by decide +kernel
theorem dX9_advance_70 : decode cX9_advance 70 = .ok (.aload_n 0, 1) := by decide +kernel
theorem dX9_advance_71 : decode cX9_advance 71 = .ok (.getfield 43, 3) := by decide +kernel
theorem dX9_advance_74 : decode cX9_advance 74 = .ok (.isub, 1) := by decide +kernel
theorem dX9_advance_75 : decode cX9_advance 75 = .ok (.bipush 80, 2) := by decide +kernel
theorem dX9_advance_77 : decode cX9_advance 77 = .ok (.invokestatic 28, 3) := by decide +kernel
theorem dX9_advance_80 : decode cX9_advance 80 = .ok (.putfield 46, 3) := by decide +kernel
theorem dX9_advance_83 : decode cX9_advance 83 = .ok (.iconst 0, 1) := by decide +kernel
theorem dX9_advance_84 : decode cX9_advance 84 = .ok (.istore_n 2, 1) := by decide +kernel
theorem dX9_advance_85 : decode cX9_advance 85 = .ok (.iload_n 2, 1) := by decide +kernel
theorem dX9_advance_86 : decode cX9_advance 86 = .ok (.bipush 80, 2) := by decide +kernel
theorem dX9_advance_88 : decode cX9_advance 88 = .ok (.if_icmp .ge 46, 3) := by decide +kernel
theorem dX9_advance_91 : decode cX9_advance 91 = .ok (.aload_n 0, 1) := by decide +kernel
theorem dX9_advance_92 : decode cX9_advance 92 = .ok (.getfield 11, 3) := by decide +kernel
theorem dX9_advance_95 : decode cX9_advance 95 = .ok (.iload_n 2, 1) := by decide +kernel
theorem dX9_advance_96 : decode cX9_advance 96 = .ok (.iload_n 2, 1) := by decide +kernel
theorem dX9_advance_97 : decode cX9_advance 97 = .ok (.aload_n 0, 1) := by decide +kernel
theorem dX9_advance_98 : decode cX9_advance 98 = .ok (.getfield 46, 3) := by decide +kernel
set_option maxHeartbeats 4000000 in
set_option maxRecDepth 100000 in
theorem T_X9_advance_1 (l : Launch) (D : va_G) (K : Nat → ClassId) (Z Y : Nat → Nat) (ad : Nat → Nat) (d : dSt) (t : tSt) (hok : okX t)  : tMet l yX9_advance cX9_advance 3 (some .boolean) (rmD 6 0 0) D K Z Y [.ref (ad 2)] ((WX d) K ad t) (QI D K (fun (r : Int32) (u : tSt) => okX u ∧ frA [(2, 2), (2, 3), (2, 4), (2, 5)] [] [9] [] t u ∧ (0 : Int) ≤ r.toInt ∧ r.toInt ≤ 1 ∧ (r.toInt = 1 → (u.1 2 2).toInt + (u.1 2 3).toInt ≤ 1280) ∧ (r.toInt = 1 → (t.1 2 4).toInt + (u.1 2 3).toInt + 1 ≤ (u.1 2 4).toInt ∧ (u.1 2 4).toInt ≤ (t.1 2 7).toInt + 1)) (fun (u : tSt) => (WX d) K ad u)) 0 0 := by
  refine t_met RX9 ⟨rfl, by decide +kernel⟩ (Nat.le_of_ble_eq_true rfl) ?_
  intro p e s m below meth c A ls C hE hZ hr hlocks hA hP hD hS hl
  have hl : lv_has ls 3 [(0, .ref (ad 2))] := hl
  have hokt := hok
  have hfr : frA [(2, 2), (2, 3), (2, 4), (2, 5)] [] [9] [] t t := frA_rf
  have h_1 : (0 : Int) ≤ (t.1 2 2).toInt ∧ (t.1 2 2).toInt ≤ 1280 := hok.1 2 2
  have h_2 : (0 : Int) ≤ (t.1 2 3).toInt ∧ (t.1 2 3).toInt ≤ 80 := hok.1 2 3
  have h_3 : (0 : Int) ≤ (t.1 2 4).toInt ∧ (t.1 2 4).toInt ≤ 1281 := hok.1 2 4
  have h_4 : (0 : Int) ≤ (t.1 2 7).toInt ∧ (t.1 2 7).toInt ≤ 1280 := hok.1 2 7
  have L_85 : ∀ (fuel_85 : Nat) (t1 : tSt) (w85_1 : Int32) (w85_2 : Int32) (H : Heap) (locs : List Loc) (ls : Array Slot), okX t1 → frA [(2, 2), (2, 3), (2, 4), (2, 5)] [] [9] [] t t1 → (0 : Int) ≤ w85_1.toInt ∧ w85_1.toInt ≤ 1280 → (0 : Int) ≤ w85_2.toInt ∧ w85_2.toInt ≤ 80 → (0 : Int) ≤ (t1.1 2 2).toInt ∧ (t1.1 2 2).toInt ≤ 1279 → (1 : Int) ≤ (t1.1 2 4).toInt ∧ (t1.1 2 4).toInt ≤ 1281 → (1 : Int) ≤ (t1.1 2 7).toInt ∧ (t1.1 2 7).toInt ≤ 1280 → ((t1.1 2 2).toInt + (t1.1 2 3).toInt ≤ 1280) → ((t.1 2 4).toInt + (t1.1 2 3).toInt + 1 ≤ (t1.1 2 4).toInt) → ((t1.1 2 4).toInt ≤ (t.1 2 7).toInt + 1) → (80 : Int) - w85_2.toInt < (fuel_85 : Int) → va_P D vwCl ((WX d) K ad t1) H → va_D A ((WX d) K ad t1) → va_S A s.heap H locs → lv_has ls 3 [(0, .ref (ad 2)), (1, .int w85_1), (2, .int w85_2)] → W p l e (rmD 6 0 0) s m [.ref (ad 2)].toArray below meth c H locs 0 0 (MQ below (QI D K (fun (r : Int32) (u : tSt) => okX u ∧ frA [(2, 2), (2, 3), (2, 4), (2, 5)] [] [9] [] t u ∧ (0 : Int) ≤ r.toInt ∧ r.toInt ≤ 1 ∧ (r.toInt = 1 → (u.1 2 2).toInt + (u.1 2 3).toInt ≤ 1280) ∧ (r.toInt = 1 → (t.1 2 4).toInt + (u.1 2 3).toInt + 1 ≤ (u.1 2 4).toInt ∧ (u.1 2 4).toInt ≤ (t.1 2 7).toInt + 1)) (fun (u : tSt) => (WX d) K ad u) A) [.ref (ad 2)].toArray s 0 0 A) (F0 m 85 ls []) := by
    intro fuel_85
    induction fuel_85 with
    | zero =>
      intro t1 w85_1 w85_2 H locs ls hok hfr hw85_1 hw85_2 hf85_2 hf85_4 hf85_7 hi85_0 hi85_1 hi85_2 hm85_85 hP hD hS hl
      have h_5 : (t1.1 2 7).toInt = (t.1 2 7).toInt := ti_eq (hfr.1 2 7 rfl)
      have h_6 : (0 : Int) ≤ (t1.1 2 3).toInt ∧ (t1.1 2 3).toInt ≤ 80 := hok.1 2 3
      exact absurd hm85_85 (by omega)
    | succ fuel_85 ih_85 =>
      intro t1 w85_1 w85_2 H locs ls hok hfr hw85_1 hw85_2 hf85_2 hf85_4 hf85_7 hi85_0 hi85_1 hi85_2 hm85_85 hP hD hS hl
      have hm85_85 : (80 : Int) - w85_2.toInt < (fuel_85 : Int) + 1 := by omega
      have h_7 : (t1.1 2 7).toInt = (t.1 2 7).toInt := ti_eq (hfr.1 2 7 rfl)
      have h_8 : (0 : Int) ≤ (t1.1 2 3).toInt ∧ (t1.1 2 3).toInt ≤ 80 := hok.1 2 3
      have L_126 : ∀ (t1 : tSt) (w126_1 : Int32) (w126_2 : Int32) (k126_1 : Int32) (k126_2 : Int32) (H : Heap) (locs : List Loc) (ls : Array Slot), okX t1 → frA [(2, 2), (2, 3), (2, 4), (2, 5)] [] [9] [] t t1 → (0 : Int) ≤ w126_1.toInt ∧ w126_1.toInt ≤ 1280 → (0 : Int) ≤ w126_2.toInt ∧ w126_2.toInt ≤ 79 → (0 : Int) ≤ k126_1.toInt ∧ k126_1.toInt ≤ 79 → (0 : Int) ≤ k126_2.toInt ∧ k126_2.toInt ≤ 255 → (0 : Int) ≤ (t1.1 2 2).toInt ∧ (t1.1 2 2).toInt ≤ 1279 → (1 : Int) ≤ (t1.1 2 4).toInt ∧ (t1.1 2 4).toInt ≤ 1281 → (1 : Int) ≤ (t1.1 2 7).toInt ∧ (t1.1 2 7).toInt ≤ 1280 → ((t1.1 2 2).toInt + (t1.1 2 3).toInt ≤ 1280) → ((t.1 2 4).toInt + (t1.1 2 3).toInt + 1 ≤ (t1.1 2 4).toInt) → ((t1.1 2 4).toInt ≤ (t.1 2 7).toInt + 1) → (80 : Int) - w126_2.toInt < (fuel_85 : Int) + 1 → va_P D vwCl ((WX d) K ad t1) H → va_D A ((WX d) K ad t1) → va_S A s.heap H locs → lv_has ls 3 [(0, .ref (ad 2)), (1, .int w126_1), (2, .int w126_2)] → W p l e (rmD 6 0 0) s m [.ref (ad 2)].toArray below meth c H locs 0 0 (MQ below (QI D K (fun (r : Int32) (u : tSt) => okX u ∧ frA [(2, 2), (2, 3), (2, 4), (2, 5)] [] [9] [] t u ∧ (0 : Int) ≤ r.toInt ∧ r.toInt ≤ 1 ∧ (r.toInt = 1 → (u.1 2 2).toInt + (u.1 2 3).toInt ≤ 1280) ∧ (r.toInt = 1 → (t.1 2 4).toInt + (u.1 2 3).toInt + 1 ≤ (u.1 2 4).toInt ∧ (u.1 2 4).toInt ≤ (t.1 2 7).toInt + 1)) (fun (u : tSt) => (WX d) K ad u) A) [.ref (ad 2)].toArray s 0 0 A) (F0 m 126 ls [.int k126_2, .int k126_1, .ref (ad 9)]) := by
        intro t1 w126_1 w126_2 k126_1 k126_2 H locs ls hok hfr hw126_1 hw126_2 hk126_1 hk126_2 hf126_2 hf126_4 hf126_7 hi126_0 hi126_1 hi126_2 hm126_85 hP hD hS hl
        have h_9 : (t1.1 2 7).toInt = (t.1 2 7).toInt := ti_eq (hfr.1 2 7 rfl)
        have h_10 : (0 : Int) ≤ (t1.1 2 3).toInt ∧ (t1.1 2 3).toInt ≤ 80 := hok.1 2 3
        obtain ⟨v_11, e_12⟩ : ∃ z, z = (k126_2 : Int32).toInt8.toInt32 := ⟨_, rfl⟩
        have h_13 : (-128 : Int) ≤ v_11.toInt ∧ v_11.toInt ≤ 127 := by rw [e_12]; exact nar_byte _
        refine lv_i2b (v := v_11) C.1 C.2.1 dX9_advance_126 e_12.symm ?_
        obtain ⟨v_14, e_15⟩ : ∃ z, z = vp_nar .byte v_11 := ⟨_, rfl⟩
        have h_16 : (-128 : Int) ≤ v_14.toInt ∧ v_14.toInt ≤ 127 := by rw [e_15]; exact nar_byte _
        refine k_bst (ws' := (WX d) K ad (uB t1 9 (k126_1 : Int32).toNatClampNeg v_14)) (x' := v_14) C hP hD hS 9 rfl (vp_in_iff.mpr ⟨by omega, by omega⟩) rfl e_15.symm rfl dX9_advance_127 (fun H locs hP hD hS => ?_)
        have hok : okX (uB t1 9 (k126_1 : Int32).toNatClampNeg v_14) := ⟨hok.1, okB_B hok.2.1 9 _ v_14 (show (-128 : Int) ≤ (v_14 : Int32).toInt ∧ (v_14 : Int32).toInt ≤ 127 from ⟨by omega, by omega⟩), trivial⟩
        have hfr : frA [(2, 2), (2, 3), (2, 4), (2, 5)] [] [9] [] t (uB t1 9 (k126_1 : Int32).toNatClampNeg v_14) := frA_B hfr 9 _ _ rfl
        obtain ⟨v_17, e_18⟩ : ∃ z, z = w126_2 + 1 := ⟨_, rfl⟩
        have h_19 : v_17.toInt = w126_2.toInt + 1 := by rw [e_18]; exact ti_iadd (by show (_ : Int) ≤ w126_2.toInt + 1; omega) (by show w126_2.toInt + 1 < (_ : Int); omega)
        refine lv_iinc (v := v_17) (lv' := [(2, .int v_17), (0, .ref (ad 2)), (1, .int w126_1)]) C.1 C.2.1 dX9_advance_128 hl (k := 2) rfl e_18.symm (by decide) rfl (fun ls hl => ?_)
        have hl : lv_has ls 3 [(0, .ref (ad 2)), (1, .int w126_1), (2, .int v_17)] := lv_sub hl [1, 2, 0] rfl
        refine lv_goto (tgt := 85) C.1 C.2.1 dX9_advance_131 (by decide) ?_
        exact ih_85 (uB t1 9 (k126_1 : Int32).toNatClampNeg v_14) w126_1 v_17 _ _ _ hok hfr ⟨by omega, by omega⟩ ⟨by omega, by omega⟩ (show (0 : Int) ≤ ((t1.1 2 2) : Int32).toInt ∧ ((t1.1 2 2) : Int32).toInt ≤ 1279 from ⟨by omega, by omega⟩) (show (1 : Int) ≤ ((t1.1 2 4) : Int32).toInt ∧ ((t1.1 2 4) : Int32).toInt ≤ 1281 from ⟨by omega, by omega⟩) (show (1 : Int) ≤ ((t1.1 2 7) : Int32).toInt ∧ ((t1.1 2 7) : Int32).toInt ≤ 1280 from ⟨by omega, by omega⟩) (show (t1.1 2 2).toInt + (t1.1 2 3).toInt ≤ 1280 from by omega) (show (t.1 2 4).toInt + (t1.1 2 3).toInt + 1 ≤ (t1.1 2 4).toInt from by omega) (show (t1.1 2 4).toInt ≤ (t.1 2 7).toInt + 1 from by omega) (show (80 : Int) - v_17.toInt < (fuel_85 : Int) from by omega) hP hD hS (lv_sub hl [0, 1, 2] rfl)
      refine lv_iload_n C.1 C.2.1 dX9_advance_85 rfl (lv_at hl 2 rfl) ?_
      refine lv_bipush (v := 80) C.1 C.2.1 dX9_advance_86 (by decide) ?_
      refine lv_icmp_ge (tgt := 134) C.1 C.2.1 dX9_advance_88 (by decide) (fun c_20 => ?_) (fun c_20 => ?_)
      · replace c_20 : 80 ≤ w85_2.toInt := i_le c_20
        refine lv_iconst (v := 1) C.1 C.2.1 dX9_advance_134 (by decide) ?_
        exact g_iret C hr hlocks hP hD hS (by decide) t1 rfl ⟨hok, hfr, by decide, by decide, (show 1 = 1 → (t1.1 2 2).toInt + (t1.1 2 3).toInt ≤ 1280 from by omega), (show 1 = 1 → (t.1 2 4).toInt + (t1.1 2 3).toInt + 1 ≤ (t1.1 2 4).toInt ∧ (t1.1 2 4).toInt ≤ (t.1 2 7).toInt + 1 from by omega)⟩ (Nat.le_of_ble_eq_true rfl) (Nat.le_of_ble_eq_true rfl) dX9_advance_135
      · replace c_20 : w85_2.toInt < 80 := i_nle c_20
        refine lv_aload_n C.1 C.2.1 dX9_advance_91 rfl (lv_at hl 0 rfl) ?_
        refine k_get (v := .ref (ad 9)) C hP 2 rfl rfl inlX9 1 (by decide) m_2_23 rfl dX9_advance_92 ?_
        refine lv_iload_n C.1 C.2.1 dX9_advance_95 rfl (lv_at hl 2 rfl) ?_
        refine lv_iload_n C.1 C.2.1 dX9_advance_96 rfl (lv_at hl 2 rfl) ?_
        refine lv_aload_n C.1 C.2.1 dX9_advance_97 rfl (lv_at hl 0 rfl) ?_
        refine k_get (v := .int (t1.1 2 3)) C hP 2 rfl rfl inlX9 3 (by decide) m_13_23 rfl dX9_advance_98 ?_
        refine lv_icmp_ge (tgt := 124) C.1 C.2.1 dX9_advance_101 (by decide) (fun c_21 => ?_) (fun c_21 => ?_)
        · replace c_21 : (t1.1 2 3).toInt ≤ w85_2.toInt := i_le c_21
          refine lv_bipush (v := 32) C.1 C.2.1 dX9_advance_124 (by decide) ?_
          exact L_126 t1 w85_1 w85_2 w85_2 32 _ _ _ hok hfr ⟨by omega, by omega⟩ ⟨by omega, by omega⟩ ⟨by omega, by omega⟩ ⟨by decide, by decide⟩ (show (0 : Int) ≤ ((t1.1 2 2) : Int32).toInt ∧ ((t1.1 2 2) : Int32).toInt ≤ 1279 from ⟨by omega, by omega⟩) (show (1 : Int) ≤ ((t1.1 2 4) : Int32).toInt ∧ ((t1.1 2 4) : Int32).toInt ≤ 1281 from ⟨by omega, by omega⟩) (show (1 : Int) ≤ ((t1.1 2 7) : Int32).toInt ∧ ((t1.1 2 7) : Int32).toInt ≤ 1280 from ⟨by omega, by omega⟩) (show (t1.1 2 2).toInt + (t1.1 2 3).toInt ≤ 1280 from by omega) (show (t.1 2 4).toInt + (t1.1 2 3).toInt + 1 ≤ (t1.1 2 4).toInt from by omega) (show (t1.1 2 4).toInt ≤ (t.1 2 7).toInt + 1 from by omega) (show (80 : Int) - w85_2.toInt < (fuel_85 : Int) + 1 from by omega) hP hD hS (lv_sub hl [0, 1, 2] rfl)
        · replace c_21 : w85_2.toInt < (t1.1 2 3).toInt := i_nle c_21
          refine lv_aload_n C.1 C.2.1 dX9_advance_104 rfl (lv_at hl 0 rfl) ?_
          refine k_get (v := .ref (ad 8)) C hP 2 rfl rfl inlX9 0 (by decide) m_3_0 rfl dX9_advance_105 ?_
          refine lv_aload_n C.1 C.2.1 dX9_advance_108 rfl (lv_at hl 0 rfl) ?_
          refine k_get (v := .int (t1.1 2 2)) C hP 2 rfl rfl inlX9 2 (by decide) m_13_22 rfl dX9_advance_109 ?_
          refine lv_iload_n C.1 C.2.1 dX9_advance_112 rfl (lv_at hl 2 rfl) ?_
          obtain ⟨v_22, e_23⟩ : ∃ z, z = ((t1.1 2 2) : Int32) + (w85_2 : Int32) := ⟨_, rfl⟩
          have h_24 : v_22.toInt = (t1.1 2 2).toInt + w85_2.toInt := by rw [e_23]; exact ti_iadd (by show (_ : Int) ≤ (t1.1 2 2).toInt + w85_2.toInt; omega) (by show (t1.1 2 2).toInt + w85_2.toInt < (_ : Int); omega)
          refine k_iadd (v := v_22) C e_23.symm dX9_advance_113 ?_
          obtain ⟨v_25, e_26⟩ : ∃ z, z = (t1.2.2.1 8 (v_22 : Int32).toNatClampNeg) := ⟨_, rfl⟩
          have h_27 : (-128 : Int) ≤ v_25.toInt ∧ v_25.toInt ≤ 127 := by rw [e_26]; exact hok.2.1 8 _
          refine k_bld (v := v_25) C hP 8 rfl (vp_in_iff.mpr ⟨by omega, by omega⟩) e_26.symm dX9_advance_114 ?_
          refine g_Si (As := [.int v_25]) (rest := [.int w85_2, .ref (ad 9)]) C hP hD hS hA (T_X1_code l D K Z Y ad d t1 hok (v_25) (show (-128 : Int) ≤ (v_25 : Int32).toInt ∧ (v_25 : Int32).toInt ≤ 127 from ⟨by omega, by omega⟩)) hE hZ (uwS m_14_0 m_14_1 m_14_2 m_14_3) (hdS 1 (by decide +kernel) rfl) ⟨Nat.le_of_ble_eq_true rfl, Nat.le_of_ble_eq_true rfl⟩ rfl rfl rfl hl.1 (Nat.le_of_ble_eq_true rfl) dX9_advance_115 ⟨Nat.le_of_ble_eq_true rfl, Nat.le_of_ble_eq_true rfl⟩ (fun r_29 t_28 H locs hw hP hD hS => ?_)
          obtain ⟨h_31, h_32⟩ := hw
          refine g_Si (As := [.int r_29]) (rest := [.int w85_2, .ref (ad 9)]) C hP hD hS hA (T_X1_written l D K Z Y ad d t1 hok (r_29) (show (0 : Int) ≤ (r_29 : Int32).toInt ∧ (r_29 : Int32).toInt ≤ 399 from ⟨by omega, by omega⟩)) hE hZ (uwS m_17_17 m_17_18 m_14_2 m_17_19) (hdS 1 (by decide +kernel) rfl) ⟨Nat.le_of_ble_eq_true rfl, Nat.le_of_ble_eq_true rfl⟩ rfl rfl rfl hl.1 (Nat.le_of_ble_eq_true rfl) dX9_advance_118 ⟨Nat.le_of_ble_eq_true rfl, Nat.le_of_ble_eq_true rfl⟩ (fun r_34 t_33 H locs hw hP hD hS => ?_)
          obtain ⟨h_36, h_37⟩ := hw
          refine lv_goto (tgt := 126) C.1 C.2.1 dX9_advance_121 (by decide) ?_
          exact L_126 t1 w85_1 w85_2 w85_2 r_34 _ _ _ hok hfr ⟨by omega, by omega⟩ ⟨by omega, by omega⟩ ⟨by omega, by omega⟩ ⟨by omega, by omega⟩ (show (0 : Int) ≤ ((t1.1 2 2) : Int32).toInt ∧ ((t1.1 2 2) : Int32).toInt ≤ 1279 from ⟨by omega, by omega⟩) (show (1 : Int) ≤ ((t1.1 2 4) : Int32).toInt ∧ ((t1.1 2 4) : Int32).toInt ≤ 1281 from ⟨by omega, by omega⟩) (show (1 : Int) ≤ ((t1.1 2 7) : Int32).toInt ∧ ((t1.1 2 7) : Int32).toInt ≤ 1280 from ⟨by omega, by omega⟩) (show (t1.1 2 2).toInt + (t1.1 2 3).toInt ≤ 1280 from by omega) (show (t.1 2 4).toInt + (t1.1 2 3).toInt + 1 ≤ (t1.1 2 4).toInt from by omega) (show (t1.1 2 4).toInt ≤ (t.1 2 7).toInt + 1 from by omega) (show (80 : Int) - w85_2.toInt < (fuel_85 : Int) + 1 from by omega) hP hD hS (lv_sub hl [0, 1, 2] rfl)
  have L_61 : ∀ (t1 : tSt) (w61_1 : Int32) (H : Heap) (locs : List Loc) (ls : Array Slot), okX t1 → frA [(2, 2), (2, 3), (2, 4), (2, 5)] [] [9] [] t t1 → (0 : Int) ≤ w61_1.toInt ∧ w61_1.toInt ≤ 1280 → (0 : Int) ≤ (t1.1 2 2).toInt ∧ (t1.1 2 2).toInt ≤ 1279 → (0 : Int) ≤ (t1.1 2 4).toInt ∧ (t1.1 2 4).toInt ≤ 1279 → (1 : Int) ≤ (t1.1 2 7).toInt ∧ (t1.1 2 7).toInt ≤ 1280 → ((t1.1 2 2).toInt ≤ w61_1.toInt) → (w61_1.toInt ≤ (t1.1 2 7).toInt) → ((t1.1 2 2).toInt = (t.1 2 4).toInt) → va_P D vwCl ((WX d) K ad t1) H → va_D A ((WX d) K ad t1) → va_S A s.heap H locs → lv_has ls 3 [(0, .ref (ad 2)), (1, .int w61_1)] → W p l e (rmD 6 0 0) s m [.ref (ad 2)].toArray below meth c H locs 0 0 (MQ below (QI D K (fun (r : Int32) (u : tSt) => okX u ∧ frA [(2, 2), (2, 3), (2, 4), (2, 5)] [] [9] [] t u ∧ (0 : Int) ≤ r.toInt ∧ r.toInt ≤ 1 ∧ (r.toInt = 1 → (u.1 2 2).toInt + (u.1 2 3).toInt ≤ 1280) ∧ (r.toInt = 1 → (t.1 2 4).toInt + (u.1 2 3).toInt + 1 ≤ (u.1 2 4).toInt ∧ (u.1 2 4).toInt ≤ (t.1 2 7).toInt + 1)) (fun (u : tSt) => (WX d) K ad u) A) [.ref (ad 2)].toArray s 0 0 A) (F0 m 61 ls []) := by
    intro t1 w61_1 H locs ls hok hfr hw61_1 hf61_2 hf61_4 hf61_7 hi61_0 hi61_1 hi61_2 hP hD hS hl
    have h_38 : (t1.1 2 7).toInt = (t.1 2 7).toInt := ti_eq (hfr.1 2 7 rfl)
    have h_39 : (0 : Int) ≤ (t1.1 2 3).toInt ∧ (t1.1 2 3).toInt ≤ 80 := hok.1 2 3
    refine lv_aload_n C.1 C.2.1 dX9_advance_61 rfl (lv_at hl 0 rfl) ?_
    refine lv_iload_n C.1 C.2.1 dX9_advance_62 rfl (lv_at hl 1 rfl) ?_
    refine lv_iconst (v := 1) C.1 C.2.1 dX9_advance_63 (by decide) ?_
    obtain ⟨v_40, e_41⟩ : ∃ z, z = (w61_1 : Int32) + (1 : Int32) := ⟨_, rfl⟩
    have h_42 : v_40.toInt = w61_1.toInt + 1 := by rw [e_41]; exact ti_iadd (by show (_ : Int) ≤ w61_1.toInt + 1; omega) (by show w61_1.toInt + 1 < (_ : Int); omega)
    refine k_iadd (v := v_40) C e_41.symm dX9_advance_64 ?_
    refine k_put (ws' := (WX d) K ad (uI t1 2 4 v_40)) (v := .int v_40) C hP hD hS 2 rfl rfl inlX9 tyX9_ok nmX9 4 (by decide) m_13_2 rfl rfl rfl rfl rfl dX9_advance_65 (fun H locs hP hD hS => ?_)
    have hok : okX (uI t1 2 4 v_40) := ⟨okI_I hok.1 2 4 v_40 (show (0 : Int) ≤ (v_40 : Int32).toInt ∧ (v_40 : Int32).toInt ≤ 1281 from ⟨by omega, by omega⟩), hok.2.1, trivial⟩
    have hfr : frA [(2, 2), (2, 3), (2, 4), (2, 5)] [] [9] [] t (uI t1 2 4 v_40) := frA_I hfr 2 4 _ rfl
    refine lv_aload_n C.1 C.2.1 dX9_advance_68 rfl (lv_at hl 0 rfl) ?_
    refine lv_iload_n C.1 C.2.1 dX9_advance_69 rfl (lv_at hl 1 rfl) ?_
    refine lv_aload_n C.1 C.2.1 dX9_advance_70 rfl (lv_at hl 0 rfl) ?_
    refine k_get (v := .int (t1.1 2 2)) C hP 2 rfl rfl inlX9 2 (by decide) m_13_22 rfl dX9_advance_71 ?_
    obtain ⟨v_43, e_44⟩ : ∃ z, z = (w61_1 : Int32) - ((t1.1 2 2) : Int32) := ⟨_, rfl⟩
    have h_45 : v_43.toInt = w61_1.toInt - (t1.1 2 2).toInt := by rw [e_44]; exact ti_isub (by show (_ : Int) ≤ w61_1.toInt - (t1.1 2 2).toInt; omega) (by show w61_1.toInt - (t1.1 2 2).toInt < (_ : Int); omega)
    refine k_isub (v := v_43) C e_44.symm dX9_advance_74 ?_
    refine lv_bipush (v := 80) C.1 C.2.1 dX9_advance_75 (by decide) ?_
    obtain ⟨v_47, e_46⟩ : ∃ z, z = if (80 : Int32) < (v_43 : Int32) then (80 : Int32) else (v_43 : Int32) := ⟨_, rfl⟩
    have h_48 : (80 : Int32).toInt = 80 := rfl
    have h_49 := mn_r e_46
    refine k_mmin (v := v_47) C hl.1 m_12_18 m_12_19 m_12_15 m_12_20 (Nat.le_of_ble_eq_true rfl) (Nat.le_of_ble_eq_true rfl) (Nat.le_of_ble_eq_true rfl) (Nat.le_of_ble_eq_true rfl) e_46.symm dX9_advance_77 ?_
    refine k_put (ws' := (WX d) K ad (uI (uI t1 2 4 v_40) 2 3 v_47)) (v := .int v_47) C hP hD hS 2 rfl rfl inlX9 tyX9_ok nmX9 3 (by decide) m_13_23 rfl rfl rfl rfl rfl dX9_advance_80 (fun H locs hP hD hS => ?_)
    have hok : okX (uI (uI t1 2 4 v_40) 2 3 v_47) := ⟨okI_I hok.1 2 3 v_47 (show (0 : Int) ≤ (v_47 : Int32).toInt ∧ (v_47 : Int32).toInt ≤ 80 from ⟨by omega, by omega⟩), hok.2.1, trivial⟩
    have hfr : frA [(2, 2), (2, 3), (2, 4), (2, 5)] [] [9] [] t (uI (uI t1 2 4 v_40) 2 3 v_47) := frA_I hfr 2 3 _ rfl
    refine lv_iconst (v := 0) C.1 C.2.1 dX9_advance_83 (by decide) ?_
    refine lv_istore_n (lv' := [(2, .int 0), (0, .ref (ad 2)), (1, .int w61_1)]) C.1 C.2.1 dX9_advance_84 rfl hl (by decide) rfl (fun ls hl => ?_)
    have hl : lv_has ls 3 [(0, .ref (ad 2)), (1, .int w61_1), (2, .int 0)] := lv_sub hl [1, 2, 0] rfl
    exact L_85 81 (uI (uI t1 2 4 v_40) 2 3 v_47) w61_1 0 _ _ _ hok hfr ⟨by omega, by omega⟩ ⟨by decide, by decide⟩ (show (0 : Int) ≤ ((t1.1 2 2) : Int32).toInt ∧ ((t1.1 2 2) : Int32).toInt ≤ 1279 from ⟨by omega, by omega⟩) (show (1 : Int) ≤ (v_40 : Int32).toInt ∧ (v_40 : Int32).toInt ≤ 1281 from ⟨by omega, by omega⟩) (show (1 : Int) ≤ ((t1.1 2 7) : Int32).toInt ∧ ((t1.1 2 7) : Int32).toInt ≤ 1280 from ⟨by omega, by omega⟩) (show (t1.1 2 2).toInt + v_47.toInt ≤ 1280 from by omega) (show (t.1 2 4).toInt + v_47.toInt + 1 ≤ v_40.toInt from by omega) (show v_40.toInt ≤ (t.1 2 7).toInt + 1 from by omega) (show (80 : Int) - 0 < ((81 : Nat) : Int) from by omega) hP hD hS (lv_sub hl [0, 1, 2] rfl)
  have L_36 : ∀ (fuel_36 : Nat) (t1 : tSt) (w36_1 : Int32) (H : Heap) (locs : List Loc) (ls : Array Slot), okX t1 → frA [(2, 2), (2, 3), (2, 4), (2, 5)] [] [9] [] t t1 → (0 : Int) ≤ w36_1.toInt ∧ w36_1.toInt ≤ 1280 → (0 : Int) ≤ (t1.1 2 2).toInt ∧ (t1.1 2 2).toInt ≤ 1279 → (0 : Int) ≤ (t1.1 2 4).toInt ∧ (t1.1 2 4).toInt ≤ 1279 → (1 : Int) ≤ (t1.1 2 7).toInt ∧ (t1.1 2 7).toInt ≤ 1280 → ((t1.1 2 2).toInt ≤ w36_1.toInt) → (w36_1.toInt ≤ (t1.1 2 7).toInt) → ((t1.1 2 2).toInt = (t.1 2 4).toInt) → (1280 : Int) - w36_1.toInt < (fuel_36 : Int) → va_P D vwCl ((WX d) K ad t1) H → va_D A ((WX d) K ad t1) → va_S A s.heap H locs → lv_has ls 3 [(0, .ref (ad 2)), (1, .int w36_1)] → W p l e (rmD 6 0 0) s m [.ref (ad 2)].toArray below meth c H locs 0 0 (MQ below (QI D K (fun (r : Int32) (u : tSt) => okX u ∧ frA [(2, 2), (2, 3), (2, 4), (2, 5)] [] [9] [] t u ∧ (0 : Int) ≤ r.toInt ∧ r.toInt ≤ 1 ∧ (r.toInt = 1 → (u.1 2 2).toInt + (u.1 2 3).toInt ≤ 1280) ∧ (r.toInt = 1 → (t.1 2 4).toInt + (u.1 2 3).toInt + 1 ≤ (u.1 2 4).toInt ∧ (u.1 2 4).toInt ≤ (t.1 2 7).toInt + 1)) (fun (u : tSt) => (WX d) K ad u) A) [.ref (ad 2)].toArray s 0 0 A) (F0 m 36 ls []) := by
    intro fuel_36
    induction fuel_36 with
    | zero =>
      intro t1 w36_1 H locs ls hok hfr hw36_1 hf36_2 hf36_4 hf36_7 hi36_0 hi36_1 hi36_2 hm36_36 hP hD hS hl
      have h_50 : (t1.1 2 7).toInt = (t.1 2 7).toInt := ti_eq (hfr.1 2 7 rfl)
      have h_51 : (0 : Int) ≤ (t1.1 2 3).toInt ∧ (t1.1 2 3).toInt ≤ 80 := hok.1 2 3
      exact absurd hm36_36 (by omega)
    | succ fuel_36 ih_36 =>
      intro t1 w36_1 H locs ls hok hfr hw36_1 hf36_2 hf36_4 hf36_7 hi36_0 hi36_1 hi36_2 hm36_36 hP hD hS hl
      have hm36_36 : (1280 : Int) - w36_1.toInt < (fuel_36 : Int) + 1 := by omega
      have h_52 : (t1.1 2 7).toInt = (t.1 2 7).toInt := ti_eq (hfr.1 2 7 rfl)
      have h_53 : (0 : Int) ≤ (t1.1 2 3).toInt ∧ (t1.1 2 3).toInt ≤ 80 := hok.1 2 3
      refine lv_iload_n C.1 C.2.1 dX9_advance_36 rfl (lv_at hl 1 rfl) ?_
      refine lv_aload_n C.1 C.2.1 dX9_advance_37 rfl (lv_at hl 0 rfl) ?_
      refine k_get (v := .int (t1.1 2 7)) C hP 2 rfl rfl inlX9 7 (by decide) m_12_21 rfl dX9_advance_38 ?_
      refine lv_icmp_ge (tgt := 61) C.1 C.2.1 dX9_advance_41 (by decide) (fun c_54 => ?_) (fun c_54 => ?_)
      · replace c_54 : (t1.1 2 7).toInt ≤ w36_1.toInt := i_le c_54
        exact L_61 t1 w36_1 _ _ _ hok hfr ⟨by omega, by omega⟩ (show (0 : Int) ≤ ((t1.1 2 2) : Int32).toInt ∧ ((t1.1 2 2) : Int32).toInt ≤ 1279 from ⟨by omega, by omega⟩) (show (0 : Int) ≤ ((t1.1 2 4) : Int32).toInt ∧ ((t1.1 2 4) : Int32).toInt ≤ 1279 from ⟨by omega, by omega⟩) (show (1 : Int) ≤ ((t1.1 2 7) : Int32).toInt ∧ ((t1.1 2 7) : Int32).toInt ≤ 1280 from ⟨by omega, by omega⟩) (show (t1.1 2 2).toInt ≤ w36_1.toInt from by omega) (show w36_1.toInt ≤ (t1.1 2 7).toInt from by omega) (show (t1.1 2 2).toInt = (t.1 2 4).toInt from by omega) hP hD hS (lv_sub hl [0, 1] rfl)
      · replace c_54 : w36_1.toInt < (t1.1 2 7).toInt := i_nle c_54
        refine lv_aload_n C.1 C.2.1 dX9_advance_44 rfl (lv_at hl 0 rfl) ?_
        refine k_get (v := .ref (ad 8)) C hP 2 rfl rfl inlX9 0 (by decide) m_3_0 rfl dX9_advance_45 ?_
        refine lv_iload_n C.1 C.2.1 dX9_advance_48 rfl (lv_at hl 1 rfl) ?_
        obtain ⟨v_55, e_56⟩ : ∃ z, z = (t1.2.2.1 8 (w36_1 : Int32).toNatClampNeg) := ⟨_, rfl⟩
        have h_57 : (-128 : Int) ≤ v_55.toInt ∧ v_55.toInt ≤ 127 := by rw [e_56]; exact hok.2.1 8 _
        refine k_bld (v := v_55) C hP 8 rfl (vp_in_iff.mpr ⟨by omega, by omega⟩) e_56.symm dX9_advance_49 ?_
        refine lv_bipush (v := 10) C.1 C.2.1 dX9_advance_50 (by decide) ?_
        refine lv_icmp_eq (tgt := 61) C.1 C.2.1 dX9_advance_52 (by decide) (fun c_58 => ?_) (fun c_58 => ?_)
        · replace c_58 : v_55.toInt = 10 := i_eq c_58
          exact L_61 t1 w36_1 _ _ _ hok hfr ⟨by omega, by omega⟩ (show (0 : Int) ≤ ((t1.1 2 2) : Int32).toInt ∧ ((t1.1 2 2) : Int32).toInt ≤ 1279 from ⟨by omega, by omega⟩) (show (0 : Int) ≤ ((t1.1 2 4) : Int32).toInt ∧ ((t1.1 2 4) : Int32).toInt ≤ 1279 from ⟨by omega, by omega⟩) (show (1 : Int) ≤ ((t1.1 2 7) : Int32).toInt ∧ ((t1.1 2 7) : Int32).toInt ≤ 1280 from ⟨by omega, by omega⟩) (show (t1.1 2 2).toInt ≤ w36_1.toInt from by omega) (show w36_1.toInt ≤ (t1.1 2 7).toInt from by omega) (show (t1.1 2 2).toInt = (t.1 2 4).toInt from by omega) hP hD hS (lv_sub hl [0, 1] rfl)
        · replace c_58 : ¬ v_55.toInt = 10 := i_ne c_58
          obtain ⟨v_59, e_60⟩ : ∃ z, z = w36_1 + 1 := ⟨_, rfl⟩
          have h_61 : v_59.toInt = w36_1.toInt + 1 := by rw [e_60]; exact ti_iadd (by show (_ : Int) ≤ w36_1.toInt + 1; omega) (by show w36_1.toInt + 1 < (_ : Int); omega)
          refine lv_iinc (v := v_59) (lv' := [(1, .int v_59), (0, .ref (ad 2))]) C.1 C.2.1 dX9_advance_55 hl (k := 1) rfl e_60.symm (by decide) rfl (fun ls hl => ?_)
          have hl : lv_has ls 3 [(0, .ref (ad 2)), (1, .int v_59)] := lv_sub hl [1, 0] rfl
          refine lv_goto (tgt := 36) C.1 C.2.1 dX9_advance_58 (by decide) ?_
          exact ih_36 t1 v_59 _ _ _ hok hfr ⟨by omega, by omega⟩ (show (0 : Int) ≤ ((t1.1 2 2) : Int32).toInt ∧ ((t1.1 2 2) : Int32).toInt ≤ 1279 from ⟨by omega, by omega⟩) (show (0 : Int) ≤ ((t1.1 2 4) : Int32).toInt ∧ ((t1.1 2 4) : Int32).toInt ≤ 1279 from ⟨by omega, by omega⟩) (show (1 : Int) ≤ ((t1.1 2 7) : Int32).toInt ∧ ((t1.1 2 7) : Int32).toInt ≤ 1280 from ⟨by omega, by omega⟩) (show (t1.1 2 2).toInt ≤ v_59.toInt from by omega) (show v_59.toInt ≤ (t1.1 2 7).toInt from by omega) (show (t1.1 2 2).toInt = (t.1 2 4).toInt from by omega) (show (1280 : Int) - v_59.toInt < (fuel_36 : Int) from by omega) hP hD hS (lv_sub hl [0, 1] rfl)
  refine lv_aload_n C.1 C.2.1 dX9_advance_0 rfl (lv_at hl 0 rfl) ?_
  refine lv_dup C.1 C.2.1 dX9_advance_1 rfl ?_
  refine k_get (v := .int (t.1 2 5)) C hP 2 rfl rfl inlX9 5 (by decide) m_13_3 rfl dX9_advance_2 ?_
  refine lv_iconst (v := 1) C.1 C.2.1 dX9_advance_5 (by decide) ?_
  obtain ⟨v_62, e_63⟩ : ∃ z, z = ((t.1 2 5) : Int32) + (1 : Int32) := ⟨_, rfl⟩
  refine k_iadd (v := v_62) C e_63.symm dX9_advance_6 ?_
  refine k_put (ws' := (WX d) K ad (uI t 2 5 v_62)) (v := .int v_62) C hP hD hS 2 rfl rfl inlX9 tyX9_ok nmX9 5 (by decide) m_13_3 rfl rfl rfl rfl rfl dX9_advance_7 (fun H locs hP hD hS => ?_)
  have hok : okX (uI t 2 5 v_62) := ⟨okI_I hok.1 2 5 v_62 (show (-2147483648 : Int) ≤ (v_62 : Int32).toInt ∧ (v_62 : Int32).toInt ≤ 2147483647 from (i_rng _)), hok.2.1, trivial⟩
  have hfr : frA [(2, 2), (2, 3), (2, 4), (2, 5)] [] [9] [] t (uI t 2 5 v_62) := frA_I hfr 2 5 _ rfl
  refine lv_aload_n C.1 C.2.1 dX9_advance_10 rfl (lv_at hl 0 rfl) ?_
  refine k_get (v := .int (t.1 2 4)) C hP 2 rfl rfl inlX9 4 (by decide) m_13_2 rfl dX9_advance_11 ?_
  refine lv_aload_n C.1 C.2.1 dX9_advance_14 rfl (lv_at hl 0 rfl) ?_
  refine k_get (v := .int (t.1 2 7)) C hP 2 rfl rfl inlX9 7 (by decide) m_12_21 rfl dX9_advance_15 ?_
  refine lv_icmp_lt (tgt := 23) C.1 C.2.1 dX9_advance_18 (by decide) (fun c_65 => ?_) (fun c_65 => ?_)
  · replace c_65 : (t.1 2 4).toInt < (t.1 2 7).toInt := i_lt c_65
    refine lv_aload_n C.1 C.2.1 dX9_advance_23 rfl (lv_at hl 0 rfl) ?_
    refine lv_aload_n C.1 C.2.1 dX9_advance_24 rfl (lv_at hl 0 rfl) ?_
    refine k_get (v := .int (t.1 2 4)) C hP 2 rfl rfl inlX9 4 (by decide) m_13_2 rfl dX9_advance_25 ?_
    refine k_put (ws' := (WX d) K ad (uI (uI t 2 5 v_62) 2 2 (t.1 2 4))) (v := .int (t.1 2 4)) C hP hD hS 2 rfl rfl inlX9 tyX9_ok nmX9 2 (by decide) m_13_22 rfl rfl rfl rfl rfl dX9_advance_28 (fun H locs hP hD hS => ?_)
    have hok : okX (uI (uI t 2 5 v_62) 2 2 (t.1 2 4)) := ⟨okI_I hok.1 2 2 (t.1 2 4) (show (0 : Int) ≤ ((t.1 2 4) : Int32).toInt ∧ ((t.1 2 4) : Int32).toInt ≤ 1280 from ⟨by omega, by omega⟩), hok.2.1, trivial⟩
    have hfr : frA [(2, 2), (2, 3), (2, 4), (2, 5)] [] [9] [] t (uI (uI t 2 5 v_62) 2 2 (t.1 2 4)) := frA_I hfr 2 2 _ rfl
    refine lv_aload_n C.1 C.2.1 dX9_advance_31 rfl (lv_at hl 0 rfl) ?_
    refine k_get (v := .int (t.1 2 4)) C hP 2 rfl rfl inlX9 2 (by decide) m_13_22 rfl dX9_advance_32 ?_
    refine lv_istore_n (lv' := [(1, .int (t.1 2 4)), (0, .ref (ad 2))]) C.1 C.2.1 dX9_advance_35 rfl hl (by decide) rfl (fun ls hl => ?_)
    have hl : lv_has ls 3 [(0, .ref (ad 2)), (1, .int (t.1 2 4))] := lv_sub hl [1, 0] rfl
    exact L_36 1281 (uI (uI t 2 5 v_62) 2 2 (t.1 2 4)) (t.1 2 4) _ _ _ hok hfr ⟨by omega, by omega⟩ (show (0 : Int) ≤ ((t.1 2 4) : Int32).toInt ∧ ((t.1 2 4) : Int32).toInt ≤ 1279 from ⟨by omega, by omega⟩) (show (0 : Int) ≤ ((t.1 2 4) : Int32).toInt ∧ ((t.1 2 4) : Int32).toInt ≤ 1279 from ⟨by omega, by omega⟩) (show (1 : Int) ≤ ((t.1 2 7) : Int32).toInt ∧ ((t.1 2 7) : Int32).toInt ≤ 1280 from ⟨by omega, by omega⟩) (show (t.1 2 4).toInt ≤ (t.1 2 4).toInt from by omega) (show (t.1 2 4).toInt ≤ (t.1 2 7).toInt from by omega) (show (t.1 2 4).toInt = (t.1 2 4).toInt from by omega) (show (1280 : Int) - (t.1 2 4).toInt < ((1281 : Nat) : Int) from by omega) hP hD hS (lv_sub hl [0, 1] rfl)
  · replace c_65 : (t.1 2 7).toInt ≤ (t.1 2 4).toInt := i_nlt c_65
    refine lv_iconst (v := 0) C.1 C.2.1 dX9_advance_21 (by decide) ?_
    exact g_iret C hr hlocks hP hD hS (by decide) (uI t 2 5 v_62) rfl ⟨hok, hfr, by decide, by decide, (show 0 = 1 → (t.1 2 2).toInt + (t.1 2 3).toInt ≤ 1280 from by omega), (show 0 = 1 → (t.1 2 4).toInt + (t.1 2 3).toInt + 1 ≤ (t.1 2 4).toInt ∧ (t.1 2 4).toInt ≤ (t.1 2 7).toInt + 1 from by omega)⟩ (Nat.le_of_ble_eq_true rfl) (Nat.le_of_ble_eq_true rfl) dX9_advance_22

theorem dX2_isAddress_0 : decode cX2_isAddress 0 = .ok (.iload_n 1, 1) := by decide +kernel
theorem dX2_isAddress_1 : decode cX2_isAddress 1 = .ok (.aload_n 0, 1) := by decide +kernel
theorem dX2_isAddress_11 : decode cX2_isAddress 11 = .ok (.goto 4, 3) := by decide +kernel
theorem dX2_isAddress_14 : decode cX2_isAddress 14 = .ok (.iconst 0, 1) := by decide +kernel
theorem dX2_isAddress_15 : decode cX2_isAddress 15 = .ok (.if_icmp .lt 14, 3) := by decide +kernel
theorem dX2_isAddress_18 : decode cX2_isAddress 18 = .ok (.iload_n 1, 1) := by decide +kernel
theorem dX2_isAddress_19 : decode cX2_isAddress 19 = .ok (.sipush 3999, 3) := by decide +kernel
theorem dX2_isAddress_2 : decode cX2_isAddress 2 = .ok (.getfield 54, 3) := by decide +kernel
theorem dX2_isAddress_22 : decode cX2_isAddress 22 = .ok (.if_icmp .gt 7, 3) := by decide +kernel
theorem dX2_isAddress_25 : decode cX2_isAddress 25 = .ok (.iconst 1, 1) := by decide +kernel
theorem dX2_isAddress_26 : decode cX2_isAddress 26 = .ok (.goto 4, 3) := by decide +kernel
theorem dX2_isAddress_29 : decode cX2_isAddress 29 = .ok (.iconst 0, 1) := by decide +kernel
theorem dX2_isAddress_30 : decode cX2_isAddress 30 = .ok (.ireturn, 1) := by decide +kernel
theorem dX2_isAddress_5 : decode cX2_isAddress 5 = .ok (.ifCond .eq 9, 3) := by decide +kernel
theorem dX2_isAddress_8 : decode cX2_isAddress 8 = .ok (.sipush (-3999), 3) := by decide +kernel
set_option maxHeartbeats 4000000 in
set_option maxRecDepth 100000 in
theorem T_X2_isAddress (l : Launch) (D : va_G) (K : Nat → ClassId) (Z Y : Nat → Nat) (ad : Nat → Nat) (d : dSt) (t : tSt) (hok : okX t) (x1 : Int32) : tMet l yX2_isAddress cX2_isAddress 2 (some .boolean) (rmD 0 0 0) D K Z Y [.ref (ad 4), .int x1] ((WX d) K ad t) (QI D K (fun (r : Int32) (u : Unit) => (0 : Int) ≤ r.toInt ∧ r.toInt ≤ 1) (fun (_ : Unit) => (WX d) K ad t)) 0 0 := by
  refine t_met RX2 ⟨rfl, by decide +kernel⟩ (Nat.le_of_ble_eq_true rfl) ?_
  intro p e s m below meth c A ls C hE hZ hr hlocks hA hP hD hS hl
  have hl : lv_has ls 2 [(0, .ref (ad 4)), (1, .int x1)] := hl
  have L_15 : ∀ (k15_0 : Int32) (k15_1 : Int32) (H : Heap) (locs : List Loc) (ls : Array Slot), (-3999 : Int) ≤ k15_1.toInt ∧ k15_1.toInt ≤ 0 → va_P D vwCl ((WX d) K ad t) H → va_D A ((WX d) K ad t) → va_S A s.heap H locs → lv_has ls 2 [(0, .ref (ad 4)), (1, .int x1)] → W p l e (rmD 0 0 0) s m [.ref (ad 4), .int x1].toArray below meth c H locs 0 0 (MQ below (QI D K (fun (r : Int32) (u : Unit) => (0 : Int) ≤ r.toInt ∧ r.toInt ≤ 1) (fun (_ : Unit) => (WX d) K ad t) A) [.ref (ad 4), .int x1].toArray s 0 0 A) (F0 m 15 ls [.int k15_1, .int k15_0]) := by
    intro k15_0 k15_1 H locs ls hk15_1 hP hD hS hl
    refine lv_icmp_lt (tgt := 29) C.1 C.2.1 dX2_isAddress_15 (by decide) (fun c_1 => ?_) (fun c_1 => ?_)
    · replace c_1 : k15_0.toInt < k15_1.toInt := i_lt c_1
      refine lv_iconst (v := 0) C.1 C.2.1 dX2_isAddress_29 (by decide) ?_
      exact g_iret C hr hlocks hP hD hS (by decide) () rfl ⟨by decide, by decide⟩ (Nat.le_of_ble_eq_true rfl) (Nat.le_of_ble_eq_true rfl) dX2_isAddress_30
    · replace c_1 : k15_1.toInt ≤ k15_0.toInt := i_nlt c_1
      refine lv_iload_n C.1 C.2.1 dX2_isAddress_18 rfl (lv_at hl 1 rfl) ?_
      refine lv_sipush (v := 3999) C.1 C.2.1 dX2_isAddress_19 (by decide) ?_
      refine lv_icmp_gt (tgt := 29) C.1 C.2.1 dX2_isAddress_22 (by decide) (fun c_2 => ?_) (fun c_2 => ?_)
      · replace c_2 : 3999 < x1.toInt := i_lt c_2
        refine lv_iconst (v := 0) C.1 C.2.1 dX2_isAddress_29 (by decide) ?_
        exact g_iret C hr hlocks hP hD hS (by decide) () rfl ⟨by decide, by decide⟩ (Nat.le_of_ble_eq_true rfl) (Nat.le_of_ble_eq_true rfl) dX2_isAddress_30
      · replace c_2 : x1.toInt ≤ 3999 := i_nlt c_2
        refine lv_iconst (v := 1) C.1 C.2.1 dX2_isAddress_25 (by decide) ?_
        refine lv_goto (tgt := 30) C.1 C.2.1 dX2_isAddress_26 (by decide) ?_
        exact g_iret C hr hlocks hP hD hS (by decide) () rfl ⟨by decide, by decide⟩ (Nat.le_of_ble_eq_true rfl) (Nat.le_of_ble_eq_true rfl) dX2_isAddress_30
  refine lv_iload_n C.1 C.2.1 dX2_isAddress_0 rfl (lv_at hl 1 rfl) ?_
  refine lv_aload_n C.1 C.2.1 dX2_isAddress_1 rfl (lv_at hl 0 rfl) ?_
  have h_3 : (0 : Int) ≤ (t.1 4 10).toInt ∧ (t.1 4 10).toInt ≤ 1 := hok.1 4 10
  refine k_get (v := .int (t.1 4 10)) C hP 4 rfl rfl inlX2 10 (by decide) m_11_9 rfl dX2_isAddress_2 ?_
  refine lv_if_eq (tgt := 14) C.1 C.2.1 dX2_isAddress_5 (by decide) (fun c_4 => ?_) (fun c_4 => ?_)
  · replace c_4 : (t.1 4 10).toInt = 0 := i_eq c_4
    refine lv_iconst (v := 0) C.1 C.2.1 dX2_isAddress_14 (by decide) ?_
    exact L_15 x1 0 _ _ _ ⟨by decide, by decide⟩ hP hD hS (lv_sub hl [0, 1] rfl)
  · replace c_4 : ¬ (t.1 4 10).toInt = 0 := i_ne c_4
    refine lv_sipush (v := (-3999)) C.1 C.2.1 dX2_isAddress_8 (by decide) ?_
    refine lv_goto (tgt := 15) C.1 C.2.1 dX2_isAddress_11 (by decide) ?_
    exact L_15 x1 (-3999) _ _ _ ⟨by decide, by decide⟩ hP hD hS (lv_sub hl [0, 1] rfl)

theorem dX0_close_0 : decode cX0_close 0 = .ok (.aload_n 0, 1) := by decide +kernel
theorem dX0_close_1 : decode cX0_close 1 = .ok (.iload_n 1, 1) := by decide +kernel
theorem dX0_close_10 : decode cX0_close 10 = .ok (.iconst 1, 1) := by decide +kernel
theorem dX0_close_11 : decode cX0_close 11 = .ok (.goto 4, 3) := by decide +kernel
theorem dX0_close_14 : decode cX0_close 14 = .ok (.iconst 0, 1) := by decide +kernel
theorem dX0_close_15 : decode cX0_close 15 = .ok (.putfield 87, 3) := by decide +kernel
theorem dX0_close_18 : decode cX0_close 18 = .ok (.return_, 1) := by decide +kernel
theorem dX0_close_2 : decode cX0_close 2 = .ok (.putfield 91, 3) := by decide +kernel
theorem dX0_close_5 : decode cX0_close 5 = .ok (.aload_n 0, 1) := by decide +kernel
theorem dX0_close_6 : decode cX0_close 6 = .ok (.iload_n 1, 1) := by decide +kernel
theorem dX0_close_7 : decode cX0_close 7 = .ok (.ifCond .ne 7, 3) := by decide +kernel
set_option maxHeartbeats 4000000 in
set_option maxRecDepth 100000 in
theorem T_X0_close (l : Launch) (D : va_G) (K : Nat → ClassId) (Z Y : Nat → Nat) (ad : Nat → Nat) (d : dSt) (t : tSt) (hok : okX t) (x1 : Int32) (hx1 : (0 : Int) ≤ x1.toInt ∧ x1.toInt ≤ 8) : tMet l yX0_close cX0_close 2 none (rmD 0 0 0) D K Z Y [.ref (ad 5), .int x1] ((WX d) K ad t) (QV D K (fun (u : tSt) => okX u ∧ frA [(5, 18), (5, 19)] [] [] [] t u) (fun (u : tSt) => (WX d) K ad u)) 0 0 := by
  refine t_met RX0 ⟨rfl, by decide +kernel⟩ (Nat.le_of_ble_eq_true rfl) ?_
  intro p e s m below meth c A ls C hE hZ hr hlocks hA hP hD hS hl
  have hl : lv_has ls 2 [(0, .ref (ad 5)), (1, .int x1)] := hl
  have hokt := hok
  have hfr : frA [(5, 18), (5, 19)] [] [] [] t t := frA_rf
  refine lv_aload_n C.1 C.2.1 dX0_close_0 rfl (lv_at hl 0 rfl) ?_
  refine lv_iload_n C.1 C.2.1 dX0_close_1 rfl (lv_at hl 1 rfl) ?_
  refine k_put (ws' := (WX d) K ad (uI t 5 18 x1)) (v := .int x1) C hP hD hS 5 rfl rfl inlX0 tyX0_ok nmX0 18 (by decide) m_28_11 rfl rfl rfl rfl rfl dX0_close_2 (fun H locs hP hD hS => ?_)
  have hok : okX (uI t 5 18 x1) := ⟨okI_I hok.1 5 18 x1 (show (0 : Int) ≤ (x1 : Int32).toInt ∧ (x1 : Int32).toInt ≤ 8 from ⟨by omega, by omega⟩), hok.2.1, trivial⟩
  have hfr : frA [(5, 18), (5, 19)] [] [] [] t (uI t 5 18 x1) := frA_I hfr 5 18 _ rfl
  refine lv_aload_n C.1 C.2.1 dX0_close_5 rfl (lv_at hl 0 rfl) ?_
  refine lv_iload_n C.1 C.2.1 dX0_close_6 rfl (lv_at hl 1 rfl) ?_
  refine lv_if_ne (tgt := 14) C.1 C.2.1 dX0_close_7 (by decide) (fun c_1 => ?_) (fun c_1 => ?_)
  · replace c_1 : ¬ x1.toInt = 0 := i_ne c_1
    refine lv_iconst (v := 0) C.1 C.2.1 dX0_close_14 (by decide) ?_
    refine k_put (ws' := (WX d) K ad (uI (uI t 5 18 x1) 5 19 0)) (v := .int 0) C hP hD hS 5 rfl rfl inlX0 tyX0_ok nmX0 19 (by decide) m_12_8 rfl (by decide) (by decide) rfl rfl dX0_close_15 (fun H locs hP hD hS => ?_)
    have hok : okX (uI (uI t 5 18 x1) 5 19 0) := ⟨okI_I hok.1 5 19 0 (show (0 : Int) ≤ (0 : Int32).toInt ∧ (0 : Int32).toInt ≤ 1 from ⟨by decide, by decide⟩), hok.2.1, trivial⟩
    have hfr : frA [(5, 18), (5, 19)] [] [] [] t (uI (uI t 5 18 x1) 5 19 0) := frA_I hfr 5 19 _ rfl
    exact g_vret C hr hlocks hP hD hS (uI (uI t 5 18 x1) 5 19 0) rfl ⟨hok, hfr⟩ (Nat.le_of_ble_eq_true rfl) (Nat.le_of_ble_eq_true rfl) dX0_close_18
  · replace c_1 : x1.toInt = 0 := i_eq c_1
    refine lv_iconst (v := 1) C.1 C.2.1 dX0_close_10 (by decide) ?_
    refine lv_goto (tgt := 15) C.1 C.2.1 dX0_close_11 (by decide) ?_
    refine k_put (ws' := (WX d) K ad (uI (uI t 5 18 x1) 5 19 1)) (v := .int 1) C hP hD hS 5 rfl rfl inlX0 tyX0_ok nmX0 19 (by decide) m_12_8 rfl (by decide) (by decide) rfl rfl dX0_close_15 (fun H locs hP hD hS => ?_)
    have hok : okX (uI (uI t 5 18 x1) 5 19 1) := ⟨okI_I hok.1 5 19 1 (show (0 : Int) ≤ (1 : Int32).toInt ∧ (1 : Int32).toInt ≤ 1 from ⟨by decide, by decide⟩), hok.2.1, trivial⟩
    have hfr : frA [(5, 18), (5, 19)] [] [] [] t (uI (uI t 5 18 x1) 5 19 1) := frA_I hfr 5 19 _ rfl
    exact g_vret C hr hlocks hP hD hS (uI (uI t 5 18 x1) 5 19 1) rfl ⟨hok, hfr⟩ (Nat.le_of_ble_eq_true rfl) (Nat.le_of_ble_eq_true rfl) dX0_close_18

theorem dX9_digits_0 : decode cX9_digits 0 = .ok (.lconst 0, 1) := by decide +kernel
theorem dX9_digits_1 : decode cX9_digits 1 = .ok (.lstore_n 3, 1) := by decide +kernel
theorem dX9_digits_10 : decode cX9_digits 10 = .ok (.if_icmp .ge 41, 3) := by decide +kernel
theorem dX9_digits_13 : decode cX9_digits 13 = .ok (.aload_n 0, 1) := by decide +kernel
theorem dX9_digits_14 : decode cX9_digits 14 = .ok (.iload 5, 2) := by decide +kernel
theorem dX9_digits_16 : decode cX9_digits 16 = .ok (.invokevirtual 67, 3) := by decide +kernel
theorem dX9_digits_19 : decode cX9_digits 19 = .ok (.ifCond .ne 7, 3) := by decide +kernel
theorem dX9_digits_2 : decode cX9_digits 2 = .ok (.iload_n 1, 1) := by decide +kernel
theorem dX9_digits_22 : decode cX9_digits 22 = .ok (.ldc2_w 71, 3) := by decide +kernel
theorem dX9_digits_25 : decode cX9_digits 25 = .ok (.lreturn, 1) := by decide +kernel
theorem dX9_digits_26 : decode cX9_digits 26 = .ok (.ldc2_w 73, 3) := by decide +kernel
theorem dX9_digits_29 : decode cX9_digits 29 = .ok (.lload_n 3, 1) := by decide +kernel
theorem dX9_digits_3 : decode cX9_digits 3 = .ok (.istore 5, 2) := by decide +kernel
theorem dX9_digits_30 : decode cX9_digits 30 = .ok (.lmul, 1) := by decide +kernel
theorem dX9_digits_31 : decode cX9_digits 31 = .ok (.aload_n 0, 1) := by decide +kernel
theorem dX9_digits_32 : decode cX9_digits 32 = .ok (.getfield 11, 3) := by decide +kernel
theorem dX9_digits_35 : decode cX9_digits 35 = .ok (.iload 5, 2) := by decide +kernel
theorem dX9_digits_37 : decode cX9_digits 37 = .ok (.baload, 1) := by decide +kernel
theorem dX9_digits_38 : decode cX9_digits 38 = .ok (.i2l, 1) := by decide +kernel
theorem dX9_digits_39 : decode cX9_digits 39 = .ok (.ladd, 1) := by decide +kernel
theorem dX9_digits_40 : decode cX9_digits 40 = .ok (.ldc2_w 75, 3) := by decide +kernel
theorem dX9_digits_43 : decode cX9_digits 43 = .ok (.lsub, 1) := by decide +kernel
theorem dX9_digits_44 : decode cX9_digits 44 = .ok (.lstore_n 3, 1) := by decide +kernel
theorem dX9_digits_45 : decode cX9_digits 45 = .ok (.iinc 5 1, 3) := by decide +kernel
theorem dX9_digits_48 : decode cX9_digits 48 = .ok (.goto (-43), 3) := by decide +kernel
theorem dX9_digits_5 : decode cX9_digits 5 = .ok (.iload 5, 2) := by decide +kernel
theorem dX9_digits_51 : decode cX9_digits 51 = .ok (.lload_n 3, 1) := by decide +kernel
theorem dX9_digits_52 : decode cX9_digits 52 = .ok (.lreturn, 1) := by decide +kernel
theorem dX9_digits_7 : decode cX9_digits 7 = .ok (.iload_n 1, 1) := by decide +kernel
theorem dX9_digits_8 : decode cX9_digits 8 = .ok (.iload_n 2, 1) := by decide +kernel
theorem dX9_digits_9 : decode cX9_digits 9 = .ok (.iadd, 1) := by decide +kernel
set_option maxHeartbeats 4000000 in
set_option maxRecDepth 100000 in
theorem T_X9_digits (l : Launch) (D : va_G) (K : Nat → ClassId) (Z Y : Nat → Nat) (ad : Nat → Nat) (d : dSt) (t : tSt) (hok : okX t) (x1 : Int32) (hx1 : (6 : Int) ≤ x1.toInt ∧ x1.toInt ≤ 21) (x2 : Int32) (hx2 : (1 : Int) ≤ x2.toInt ∧ x2.toInt ≤ 5) (hs0 : 0 ≤ x2.toInt) : tMet l yX9_digits cX9_digits 6 (some .long) (rmD 1 0 0) D K Z Y [.ref (ad 29), .int x1, .int x2] ((WX d) K ad t) (QL D K (fun (r : Int64) (u : Unit) => (x2.toInt ≤ 4 → -1 ≤ r.toInt ∧ r.toInt ≤ 9999)) (fun (_ : Unit) => (WX d) K ad t)) 0 0 := by
  refine t_met RX9 ⟨rfl, by decide +kernel⟩ (Nat.le_of_ble_eq_true rfl) ?_
  intro p e s m below meth c A ls C hE hZ hr hlocks hA hP hD hS hl
  have hl : lv_has ls 6 [(0, .ref (ad 29)), (1, .int x1), (2, .int x2)] := hl
  have L_5 : ∀ (fuel_5 : Nat) (w5_3 : Int64) (w5_5 : Int32) (H : Heap) (locs : List Loc) (ls : Array Slot), (6 : Int) ≤ w5_5.toInt ∧ w5_5.toInt ≤ 31 → (x1.toInt ≤ w5_5.toInt) → (w5_5.toInt ≤ x1.toInt + x2.toInt) → (0 ≤ x2.toInt) → (x2.toInt ≤ 4 → (w5_5.toInt = x1.toInt ∧ w5_3.toInt = 0 ∨ w5_5.toInt = x1.toInt + 1 ∧ 0 ≤ w5_3.toInt ∧ w5_3.toInt ≤ 9 ∨ w5_5.toInt = x1.toInt + 2 ∧ 0 ≤ w5_3.toInt ∧ w5_3.toInt ≤ 99 ∨ w5_5.toInt = x1.toInt + 3 ∧ 0 ≤ w5_3.toInt ∧ w5_3.toInt ≤ 999 ∨ w5_5.toInt = x1.toInt + 4 ∧ 0 ≤ w5_3.toInt ∧ w5_3.toInt ≤ 9999)) → (31 : Int) - w5_5.toInt < (fuel_5 : Int) → va_P D vwCl ((WX d) K ad t) H → va_D A ((WX d) K ad t) → va_S A s.heap H locs → lv_has ls 6 [(0, .ref (ad 29)), (1, .int x1), (2, .int x2), (3, .long w5_3), (5, .int w5_5)] → W p l e (rmD 1 0 0) s m [.ref (ad 29), .int x1, .int x2].toArray below meth c H locs 0 0 (MQ below (QL D K (fun (r : Int64) (u : Unit) => (x2.toInt ≤ 4 → -1 ≤ r.toInt ∧ r.toInt ≤ 9999)) (fun (_ : Unit) => (WX d) K ad t) A) [.ref (ad 29), .int x1, .int x2].toArray s 0 0 A) (F0 m 5 ls []) := by
    intro fuel_5
    induction fuel_5 with
    | zero =>
      intro w5_3 w5_5 H locs ls hw5_5 hi5_0 hi5_1 hi5_2 hi5_3 hm5_5 hP hD hS hl
      exact absurd hm5_5 (by omega)
    | succ fuel_5 ih_5 =>
      intro w5_3 w5_5 H locs ls hw5_5 hi5_0 hi5_1 hi5_2 hi5_3 hm5_5 hP hD hS hl
      have hm5_5 : (31 : Int) - w5_5.toInt < (fuel_5 : Int) + 1 := by omega
      refine lv_iload C.1 C.2.1 dX9_digits_5 (lv_at hl 4 rfl) ?_
      refine lv_iload_n C.1 C.2.1 dX9_digits_7 rfl (lv_at hl 1 rfl) ?_
      refine lv_iload_n C.1 C.2.1 dX9_digits_8 rfl (lv_at hl 2 rfl) ?_
      obtain ⟨v_1, e_2⟩ : ∃ z, z = (x1 : Int32) + (x2 : Int32) := ⟨_, rfl⟩
      have h_3 : v_1.toInt = x1.toInt + x2.toInt := by rw [e_2]; exact ti_iadd (by show (_ : Int) ≤ x1.toInt + x2.toInt; omega) (by show x1.toInt + x2.toInt < (_ : Int); omega)
      refine k_iadd (v := v_1) C e_2.symm dX9_digits_9 ?_
      refine lv_icmp_ge (tgt := 51) C.1 C.2.1 dX9_digits_10 (by decide) (fun c_4 => ?_) (fun c_4 => ?_)
      · replace c_4 : v_1.toInt ≤ w5_5.toInt := i_le c_4
        refine lv_lload_n C.1 C.2.1 dX9_digits_51 rfl (lv_at hl 3 rfl) ?_
        exact g_lret C hr hlocks hP hD hS () rfl (show x2.toInt ≤ 4 → -1 ≤ w5_3.toInt ∧ w5_3.toInt ≤ 9999 from by omega) (Nat.le_of_ble_eq_true rfl) (Nat.le_of_ble_eq_true rfl) dX9_digits_52
      · replace c_4 : w5_5.toInt < v_1.toInt := i_nle c_4
        refine lv_aload_n C.1 C.2.1 dX9_digits_13 rfl (lv_at hl 0 rfl) ?_
        refine lv_iload C.1 C.2.1 dX9_digits_14 (lv_at hl 4 rfl) ?_
        refine g_Vi (As := [.int w5_5]) (rest := []) C hP hD hS hA (T_X9_isDigitAt l D K Z Y ad d t hok (w5_5) (show (6 : Int) ≤ (w5_5 : Int32).toInt ∧ (w5_5 : Int32).toInt ≤ 31 from ⟨by omega, by omega⟩)) hE hZ (uwV m_73_10 m_72_12 m_72_13 m_1_17 m_72_14) (hdV 1 (by decide +kernel) rfl) ⟨Nat.le_of_ble_eq_true rfl, Nat.le_of_ble_eq_true rfl⟩ rfl rfl (ci := 8) (q0 := 29) rfl rfl rfl hl.1 (Nat.le_of_ble_eq_true rfl) dX9_digits_16 ⟨Nat.le_of_ble_eq_true rfl, Nat.le_of_ble_eq_true rfl⟩ (fun r_6 t_5 H locs hw hP hD hS => ?_)
        obtain ⟨h_8, h_9, p_10, p_11⟩ := hw
        replace p_10 : r_6.toInt = 1 → 0 ≤ w5_5.toInt ∧ w5_5.toInt < 80 := p_10
        replace p_11 : r_6.toInt = 1 → 48 ≤ (t.2.2.1 51 (w5_5 : Int32).toNatClampNeg).toInt ∧ (t.2.2.1 51 (w5_5 : Int32).toNatClampNeg).toInt ≤ 57 := p_11
        refine lv_if_ne (tgt := 26) C.1 C.2.1 dX9_digits_19 (by decide) (fun c_12 => ?_) (fun c_12 => ?_)
        · replace c_12 : ¬ r_6.toInt = 0 := i_ne c_12
          refine lv_ldc2 (v := 10) C.1 C.2.1 C.2.2.2.1 (C.2.2.2.2.1 _ m_73_8) dX9_digits_26 ?_
          refine lv_lload_n C.1 C.2.1 dX9_digits_29 rfl (lv_at hl 3 rfl) ?_
          obtain ⟨v_13, e_14⟩ : ∃ z, z = (10 : Int64) * (w5_3 : Int64) := ⟨_, rfl⟩
          have hlm : x2.toInt ≤ 4 → v_13.toInt = 10 * w5_3.toInt := fun hq => by rw [e_14]; exact tl_mull (k := 10) (by decide) (by omega) (by omega)
          refine k_lmul (v := v_13) C e_14.symm dX9_digits_30 ?_
          refine lv_aload_n C.1 C.2.1 dX9_digits_31 rfl (lv_at hl 0 rfl) ?_
          refine k_get (v := .ref (ad 51)) C hP 29 rfl rfl inlX9 1 (by decide) m_2_23 rfl dX9_digits_32 ?_
          refine lv_iload C.1 C.2.1 dX9_digits_35 (lv_at hl 4 rfl) ?_
          have h_15 : (-128 : Int) ≤ (t.2.2.1 51 (w5_5 : Int32).toNatClampNeg).toInt ∧ (t.2.2.1 51 (w5_5 : Int32).toNatClampNeg).toInt ≤ 127 := hok.2.1 51 _
          refine k_bld (v := (t.2.2.1 51 (w5_5 : Int32).toNatClampNeg)) C hP 51 rfl (vp_in_iff.mpr ⟨by omega, by omega⟩) rfl dX9_digits_37 ?_
          obtain ⟨v_16, e_17⟩ : ∃ z, z = ((t.2.2.1 51 (w5_5 : Int32).toNatClampNeg) : Int32).toInt64 := ⟨_, rfl⟩
          have h_18 : v_16.toInt = (t.2.2.1 51 (w5_5 : Int32).toNatClampNeg).toInt := by rw [e_17]; exact Jvm.Kit.i64_of_i32 _
          refine lv_i2l (v := v_16) C.1 C.2.1 dX9_digits_38 e_17.symm ?_
          obtain ⟨v_19, e_20⟩ : ∃ z, z = (v_13 : Int64) + (v_16 : Int64) := ⟨_, rfl⟩
          have h_21 : -9223372036854775808 ≤ v_13.toInt + v_16.toInt → v_13.toInt + v_16.toInt < 9223372036854775808 → v_19.toInt = v_13.toInt + v_16.toInt := by rw [e_20]; exact fun h1 h2 => Jvm.Kit.i64_add h1 h2
          refine k_ladd (v := v_19) C e_20.symm dX9_digits_39 ?_
          refine lv_ldc2 (v := 48) C.1 C.2.1 C.2.2.2.1 (C.2.2.2.2.1 _ m_73_9) dX9_digits_40 ?_
          obtain ⟨v_22, e_23⟩ : ∃ z, z = (v_19 : Int64) - (48 : Int64) := ⟨_, rfl⟩
          have h_24 : -9223372036854775808 ≤ v_19.toInt - 48 → v_19.toInt - 48 < 9223372036854775808 → v_22.toInt = v_19.toInt - 48 := by rw [e_23]; exact fun h1 h2 => Jvm.Kit.i64_sub h1 h2
          refine k_lsub (v := v_22) C e_23.symm dX9_digits_43 ?_
          refine lv_lstore_n (lv' := [(3, .long v_22), (0, .ref (ad 29)), (1, .int x1), (2, .int x2), (5, .int w5_5)]) C.1 C.2.1 dX9_digits_44 rfl hl (by decide) rfl (fun ls hl => ?_)
          have hl : lv_has ls 6 [(0, .ref (ad 29)), (1, .int x1), (2, .int x2), (3, .long v_22), (5, .int w5_5)] := lv_sub hl [1, 2, 3, 0, 4] rfl
          obtain ⟨v_25, e_26⟩ : ∃ z, z = w5_5 + 1 := ⟨_, rfl⟩
          have h_27 : v_25.toInt = w5_5.toInt + 1 := by rw [e_26]; exact ti_iadd (by show (_ : Int) ≤ w5_5.toInt + 1; omega) (by show w5_5.toInt + 1 < (_ : Int); omega)
          refine lv_iinc (v := v_25) (lv' := [(5, .int v_25), (0, .ref (ad 29)), (1, .int x1), (2, .int x2), (3, .long v_22)]) C.1 C.2.1 dX9_digits_45 hl (k := 4) rfl e_26.symm (by decide) rfl (fun ls hl => ?_)
          have hl : lv_has ls 6 [(0, .ref (ad 29)), (1, .int x1), (2, .int x2), (3, .long v_22), (5, .int v_25)] := lv_sub hl [1, 2, 3, 4, 0] rfl
          refine lv_goto (tgt := 5) C.1 C.2.1 dX9_digits_48 (by decide) ?_
          exact ih_5 v_22 v_25 _ _ _ ⟨by omega, by omega⟩ (show x1.toInt ≤ v_25.toInt from by omega) (show v_25.toInt ≤ x1.toInt + x2.toInt from by omega) (show 0 ≤ x2.toInt from by omega) (show x2.toInt ≤ 4 → (v_25.toInt = x1.toInt ∧ v_22.toInt = 0 ∨ v_25.toInt = x1.toInt + 1 ∧ 0 ≤ v_22.toInt ∧ v_22.toInt ≤ 9 ∨ v_25.toInt = x1.toInt + 2 ∧ 0 ≤ v_22.toInt ∧ v_22.toInt ≤ 99 ∨ v_25.toInt = x1.toInt + 3 ∧ 0 ≤ v_22.toInt ∧ v_22.toInt ≤ 999 ∨ v_25.toInt = x1.toInt + 4 ∧ 0 ≤ v_22.toInt ∧ v_22.toInt ≤ 9999) from by omega) (show (31 : Int) - v_25.toInt < (fuel_5 : Int) from by omega) hP hD hS (lv_sub hl [0, 1, 2, 3, 4] rfl)
        · replace c_12 : r_6.toInt = 0 := i_eq c_12
          refine lv_ldc2 (v := (-1)) C.1 C.2.1 C.2.2.2.1 (C.2.2.2.2.1 _ m_73_7) dX9_digits_22 ?_
          exact g_lret C hr hlocks hP hD hS () rfl (show x2.toInt ≤ 4 → -1 ≤ (-1) ∧ (-1) ≤ 9999 from by omega) (Nat.le_of_ble_eq_true rfl) (Nat.le_of_ble_eq_true rfl) dX9_digits_25
  refine lv_lconst (v := 0) C.1 C.2.1 dX9_digits_0 (by decide) ?_
  refine lv_lstore_n (lv' := [(3, .long 0), (0, .ref (ad 29)), (1, .int x1), (2, .int x2)]) C.1 C.2.1 dX9_digits_1 rfl hl (by decide) rfl (fun ls hl => ?_)
  have hl : lv_has ls 6 [(0, .ref (ad 29)), (1, .int x1), (2, .int x2), (3, .long 0)] := lv_sub hl [1, 2, 3, 0] rfl
  refine lv_iload_n C.1 C.2.1 dX9_digits_2 rfl (lv_at hl 1 rfl) ?_
  refine lv_istore (lv' := [(5, .int x1), (0, .ref (ad 29)), (1, .int x1), (2, .int x2), (3, .long 0)]) C.1 C.2.1 dX9_digits_3 hl (by decide) rfl (fun ls hl => ?_)
  have hl : lv_has ls 6 [(0, .ref (ad 29)), (1, .int x1), (2, .int x2), (3, .long 0), (5, .int x1)] := lv_sub hl [1, 2, 3, 4, 0] rfl
  exact L_5 26 0 x1 _ _ _ ⟨by omega, by omega⟩ (show x1.toInt ≤ x1.toInt from by omega) (show x1.toInt ≤ x1.toInt + x2.toInt from by omega) (show 0 ≤ x2.toInt from by omega) (show x2.toInt ≤ 4 → (x1.toInt = x1.toInt ∧ 0 = 0 ∨ x1.toInt = x1.toInt + 1 ∧ 0 ≤ 0 ∧ 0 ≤ 9 ∨ x1.toInt = x1.toInt + 2 ∧ 0 ≤ 0 ∧ 0 ≤ 99 ∨ x1.toInt = x1.toInt + 3 ∧ 0 ≤ 0 ∧ 0 ≤ 999 ∨ x1.toInt = x1.toInt + 4 ∧ 0 ≤ 0 ∧ 0 ≤ 9999) from by omega) (show (31 : Int) - x1.toInt < ((26 : Nat) : Int) from by omega) hP hD hS (lv_sub hl [0, 1, 2, 3, 4] rfl)

theorem dX2_load_0 : decode cX2_load 0 = .ok (.iload_n 1, 1) := by decide +kernel
theorem dX2_load_1 : decode cX2_load 1 = .ok (.sipush 3999, 3) := by decide +kernel
theorem dX2_load_10 : decode cX2_load 10 = .ok (.iload_n 2, 1) := by decide +kernel
theorem dX2_load_11 : decode cX2_load 11 = .ok (.aload_n 0, 1) := by decide +kernel
theorem dX2_load_12 : decode cX2_load 12 = .ok (.getfield 19, 3) := by decide +kernel
theorem dX2_load_15 : decode cX2_load 15 = .ok (.arraylength, 1) := by decide +kernel
theorem dX2_load_16 : decode cX2_load 16 = .ok (.if_icmp .ge 12, 3) := by decide +kernel
theorem dX2_load_19 : decode cX2_load 19 = .ok (.aload_n 0, 1) := by decide +kernel
theorem dX2_load_20 : decode cX2_load 20 = .ok (.getfield 19, 3) := by decide +kernel
theorem dX2_load_23 : decode cX2_load 23 = .ok (.iload_n 2, 1) := by decide +kernel
theorem dX2_load_24 : decode cX2_load 24 = .ok (.iaload, 1) := by decide +kernel
theorem dX2_load_25 : decode cX2_load 25 = .ok (.goto 4, 3) := by decide +kernel
theorem dX2_load_28 : decode cX2_load 28 = .ok (.iconst 0, 1) := by decide +kernel
theorem dX2_load_29 : decode cX2_load 29 = .ok (.ireturn, 1) := by decide +kernel
theorem dX2_load_4 : decode cX2_load 4 = .ok (.iadd, 1) := by decide +kernel
theorem dX2_load_5 : decode cX2_load 5 = .ok (.istore_n 2, 1) := by decide +kernel
theorem dX2_load_6 : decode cX2_load 6 = .ok (.iload_n 2, 1) := by decide +kernel
theorem dX2_load_7 : decode cX2_load 7 = .ok (.ifCond .lt 21, 3) := by decide +kernel
set_option maxHeartbeats 4000000 in
set_option maxRecDepth 100000 in
theorem T_X2_load (l : Launch) (D : va_G) (K : Nat → ClassId) (Z Y : Nat → Nat) (ad : Nat → Nat) (d : dSt) (t : tSt) (hok : okX t) (x1 : Int32) : tMet l yX2_load cX2_load 3 (some .int) (rmD 0 0 0) D K Z Y [.ref (ad 4), .int x1] ((WX d) K ad t) (QI D K (fun (r : Int32) (u : Unit) => (-2147483648 : Int) ≤ r.toInt ∧ r.toInt ≤ 2147483647) (fun (_ : Unit) => (WX d) K ad t)) 0 0 := by
  refine t_met RX2 ⟨rfl, by decide +kernel⟩ (Nat.le_of_ble_eq_true rfl) ?_
  intro p e s m below meth c A ls C hE hZ hr hlocks hA hP hD hS hl
  have hl : lv_has ls 3 [(0, .ref (ad 4)), (1, .int x1)] := hl
  refine lv_iload_n C.1 C.2.1 dX2_load_0 rfl (lv_at hl 1 rfl) ?_
  refine lv_sipush (v := 3999) C.1 C.2.1 dX2_load_1 (by decide) ?_
  obtain ⟨v_1, e_2⟩ : ∃ z, z = (x1 : Int32) + (3999 : Int32) := ⟨_, rfl⟩
  refine k_iadd (v := v_1) C e_2.symm dX2_load_4 ?_
  refine lv_istore_n (lv' := [(2, .int v_1), (0, .ref (ad 4)), (1, .int x1)]) C.1 C.2.1 dX2_load_5 rfl hl (by decide) rfl (fun ls hl => ?_)
  have hl : lv_has ls 3 [(0, .ref (ad 4)), (1, .int x1), (2, .int v_1)] := lv_sub hl [1, 2, 0] rfl
  refine lv_iload_n C.1 C.2.1 dX2_load_6 rfl (lv_at hl 2 rfl) ?_
  refine lv_if_lt (tgt := 28) C.1 C.2.1 dX2_load_7 (by decide) (fun c_4 => ?_) (fun c_4 => ?_)
  · replace c_4 : v_1.toInt < 0 := i_lt c_4
    refine lv_iconst (v := 0) C.1 C.2.1 dX2_load_28 (by decide) ?_
    exact g_iret C hr hlocks hP hD hS rfl () rfl ⟨(i_rng _).1, (i_rng _).2⟩ (Nat.le_of_ble_eq_true rfl) (Nat.le_of_ble_eq_true rfl) dX2_load_29
  · replace c_4 : 0 ≤ v_1.toInt := i_nlt c_4
    refine lv_iload_n C.1 C.2.1 dX2_load_10 rfl (lv_at hl 2 rfl) ?_
    refine lv_aload_n C.1 C.2.1 dX2_load_11 rfl (lv_at hl 0 rfl) ?_
    refine k_get (v := .ref (ad 10)) C hP 4 rfl rfl inlX2 0 (by decide) m_4_18 rfl dX2_load_12 ?_
    refine k_len (v := 7999) C hP 10 0 rfl rfl rfl dX2_load_15 ?_
    refine lv_icmp_ge (tgt := 28) C.1 C.2.1 dX2_load_16 (by decide) (fun c_5 => ?_) (fun c_5 => ?_)
    · replace c_5 : 7999 ≤ v_1.toInt := i_le c_5
      refine lv_iconst (v := 0) C.1 C.2.1 dX2_load_28 (by decide) ?_
      exact g_iret C hr hlocks hP hD hS rfl () rfl ⟨(i_rng _).1, (i_rng _).2⟩ (Nat.le_of_ble_eq_true rfl) (Nat.le_of_ble_eq_true rfl) dX2_load_29
    · replace c_5 : v_1.toInt < 7999 := i_nle c_5
      refine lv_aload_n C.1 C.2.1 dX2_load_19 rfl (lv_at hl 0 rfl) ?_
      refine k_get (v := .ref (ad 10)) C hP 4 rfl rfl inlX2 0 (by decide) m_4_18 rfl dX2_load_20 ?_
      refine lv_iload_n C.1 C.2.1 dX2_load_23 rfl (lv_at hl 2 rfl) ?_
      obtain ⟨v_6, e_7⟩ : ∃ z, z = (t.2.2.1 10 (v_1 : Int32).toNatClampNeg) := ⟨_, rfl⟩
      refine k_ild (v := v_6) C hP 10 rfl (vp_in_iff.mpr ⟨by omega, by omega⟩) e_7.symm dX2_load_24 ?_
      refine lv_goto (tgt := 29) C.1 C.2.1 dX2_load_25 (by decide) ?_
      exact g_iret C hr hlocks hP hD hS rfl () rfl ⟨(i_rng _).1, (i_rng _).2⟩ (Nat.le_of_ble_eq_true rfl) (Nat.le_of_ble_eq_true rfl) dX2_load_29

theorem dX5_sizeOf_0 : decode cX5_sizeOf 0 = .ok (.iconst 0, 1) := by decide +kernel
theorem dX5_sizeOf_1 : decode cX5_sizeOf 1 = .ok (.istore_n 3, 1) := by decide +kernel
theorem dX5_sizeOf_11 : decode cX5_sizeOf 11 = .ok (.iload 4, 2) := by decide +kernel
theorem dX5_sizeOf_13 : decode cX5_sizeOf 13 = .ok (.aload_n 0, 1) := by decide +kernel
theorem dX5_sizeOf_14 : decode cX5_sizeOf 14 = .ok (.getfield 9, 3) := by decide +kernel
theorem dX5_sizeOf_17 : decode cX5_sizeOf 17 = .ok (.arraylength, 1) := by decide +kernel
theorem dX5_sizeOf_18 : decode cX5_sizeOf 18 = .ok (.if_icmp .ge 34, 3) := by decide +kernel
theorem dX5_sizeOf_2 : decode cX5_sizeOf 2 = .ok (.iload_n 1, 1) := by decide +kernel
theorem dX5_sizeOf_21 : decode cX5_sizeOf 21 = .ok (.aload_n 0, 1) := by decide +kernel
theorem dX5_sizeOf_22 : decode cX5_sizeOf 22 = .ok (.getfield 9, 3) := by decide +kernel
theorem dX5_sizeOf_25 : decode cX5_sizeOf 25 = .ok (.iload 4, 2) := by decide +kernel
theorem dX5_sizeOf_27 : decode cX5_sizeOf 27 = .ok (.baload, 1) := by decide +kernel
theorem dX5_sizeOf_28 : decode cX5_sizeOf 28 = .ok (.bipush 32, 2) := by decide +kernel
theorem dX5_sizeOf_3 : decode cX5_sizeOf 3 = .ok (.istore 4, 2) := by decide +kernel
theorem dX5_sizeOf_30 : decode cX5_sizeOf 30 = .ok (.if_icmp .eq 16, 3) := by decide +kernel
theorem dX5_sizeOf_33 : decode cX5_sizeOf 33 = .ok (.iload_n 3, 1) := by decide +kernel
theorem dX5_sizeOf_34 : decode cX5_sizeOf 34 = .ok (.iload 4, 2) := by decide +kernel
theorem dX5_sizeOf_36 : decode cX5_sizeOf 36 = .ok (.iload_n 1, 1) := by decide +kernel
theorem dX5_sizeOf_37 : decode cX5_sizeOf 37 = .ok (.isub, 1) := by decide +kernel
theorem dX5_sizeOf_38 : decode cX5_sizeOf 38 = .ok (.if_icmp .eq 5, 3) := by decide +kernel
theorem dX5_sizeOf_41 : decode cX5_sizeOf 41 = .ok (.iconst (-1), 1) := by decide +kernel
theorem dX5_sizeOf_42 : decode cX5_sizeOf 42 = .ok (.ireturn, 1) := by decide +kernel
theorem dX5_sizeOf_43 : decode cX5_sizeOf 43 = .ok (.iinc 3 1, 3) := by decide +kernel
theorem dX5_sizeOf_46 : decode cX5_sizeOf 46 = .ok (.iinc 4 1, 3) := by decide +kernel
theorem dX5_sizeOf_49 : decode cX5_sizeOf 49 = .ok (.goto (-44), 3) := by decide +kernel
theorem dX5_sizeOf_5 : decode cX5_sizeOf 5 = .ok (.iload 4, 2) := by decide +kernel
theorem dX5_sizeOf_52 : decode cX5_sizeOf 52 = .ok (.iload_n 3, 1) := by decide +kernel
theorem dX5_sizeOf_53 : decode cX5_sizeOf 53 = .ok (.ireturn, 1) := by decide +kernel
theorem dX5_sizeOf_7 : decode cX5_sizeOf 7 = .ok (.iload_n 2, 1) := by decide +kernel
theorem dX5_sizeOf_8 : decode cX5_sizeOf 8 = .ok (.if_icmp .ge 44, 3) := by decide +kernel
set_option maxHeartbeats 4000000 in
set_option maxRecDepth 100000 in
theorem T_X5_sizeOf (l : Launch) (D : va_G) (K : Nat → ClassId) (Z Y : Nat → Nat) (ad : Nat → Nat) (d : dSt) (t : tSt) (hok : okX t) (x1 : Int32) (hx1 : (0 : Int) ≤ x1.toInt ∧ x1.toInt ≤ 15) (x2 : Int32) (hx2 : (10 : Int) ≤ x2.toInt ∧ x2.toInt ≤ 15) : tMet l yX5_sizeOf cX5_sizeOf 5 (some .int) (rmD 0 0 0) D K Z Y [.ref (ad 24), .int x1, .int x2] ((WX d) K ad t) (QI D K (fun (r : Int32) (u : Unit) => (-1 : Int) ≤ r.toInt ∧ r.toInt ≤ 15) (fun (_ : Unit) => (WX d) K ad t)) 0 0 := by
  refine t_met RX5 ⟨rfl, by decide +kernel⟩ (Nat.le_of_ble_eq_true rfl) ?_
  intro p e s m below meth c A ls C hE hZ hr hlocks hA hP hD hS hl
  have hl : lv_has ls 5 [(0, .ref (ad 24)), (1, .int x1), (2, .int x2)] := hl
  have L_5 : ∀ (fuel_5 : Nat) (w5_3 : Int32) (w5_4 : Int32) (H : Heap) (locs : List Loc) (ls : Array Slot), (0 : Int) ≤ w5_3.toInt ∧ w5_3.toInt ≤ 15 → (0 : Int) ≤ w5_4.toInt ∧ w5_4.toInt ≤ 15 → (15 : Int) - w5_4.toInt < (fuel_5 : Int) → va_P D vwCl ((WX d) K ad t) H → va_D A ((WX d) K ad t) → va_S A s.heap H locs → lv_has ls 5 [(0, .ref (ad 24)), (1, .int x1), (2, .int x2), (3, .int w5_3), (4, .int w5_4)] → W p l e (rmD 0 0 0) s m [.ref (ad 24), .int x1, .int x2].toArray below meth c H locs 0 0 (MQ below (QI D K (fun (r : Int32) (u : Unit) => (-1 : Int) ≤ r.toInt ∧ r.toInt ≤ 15) (fun (_ : Unit) => (WX d) K ad t) A) [.ref (ad 24), .int x1, .int x2].toArray s 0 0 A) (F0 m 5 ls []) := by
    intro fuel_5
    induction fuel_5 with
    | zero =>
      intro w5_3 w5_4 H locs ls hw5_3 hw5_4 hm5_5 hP hD hS hl
      exact absurd hm5_5 (by omega)
    | succ fuel_5 ih_5 =>
      intro w5_3 w5_4 H locs ls hw5_3 hw5_4 hm5_5 hP hD hS hl
      have hm5_5 : (15 : Int) - w5_4.toInt < (fuel_5 : Int) + 1 := by omega
      have L_46 : ∀ (w46_3 : Int32) (w46_4 : Int32) (H : Heap) (locs : List Loc) (ls : Array Slot), (0 : Int) ≤ w46_3.toInt ∧ w46_3.toInt ≤ 15 → (0 : Int) ≤ w46_4.toInt ∧ w46_4.toInt ≤ 14 → (15 : Int) - w46_4.toInt < (fuel_5 : Int) + 1 → va_P D vwCl ((WX d) K ad t) H → va_D A ((WX d) K ad t) → va_S A s.heap H locs → lv_has ls 5 [(0, .ref (ad 24)), (1, .int x1), (2, .int x2), (3, .int w46_3), (4, .int w46_4)] → W p l e (rmD 0 0 0) s m [.ref (ad 24), .int x1, .int x2].toArray below meth c H locs 0 0 (MQ below (QI D K (fun (r : Int32) (u : Unit) => (-1 : Int) ≤ r.toInt ∧ r.toInt ≤ 15) (fun (_ : Unit) => (WX d) K ad t) A) [.ref (ad 24), .int x1, .int x2].toArray s 0 0 A) (F0 m 46 ls []) := by
        intro w46_3 w46_4 H locs ls hw46_3 hw46_4 hm46_5 hP hD hS hl
        obtain ⟨v_1, e_2⟩ : ∃ z, z = w46_4 + 1 := ⟨_, rfl⟩
        have h_3 : v_1.toInt = w46_4.toInt + 1 := by rw [e_2]; exact ti_iadd (by show (_ : Int) ≤ w46_4.toInt + 1; omega) (by show w46_4.toInt + 1 < (_ : Int); omega)
        refine lv_iinc (v := v_1) (lv' := [(4, .int v_1), (0, .ref (ad 24)), (1, .int x1), (2, .int x2), (3, .int w46_3)]) C.1 C.2.1 dX5_sizeOf_46 hl (k := 4) rfl e_2.symm (by decide) rfl (fun ls hl => ?_)
        have hl : lv_has ls 5 [(0, .ref (ad 24)), (1, .int x1), (2, .int x2), (3, .int w46_3), (4, .int v_1)] := lv_sub hl [1, 2, 3, 4, 0] rfl
        refine lv_goto (tgt := 5) C.1 C.2.1 dX5_sizeOf_49 (by decide) ?_
        exact ih_5 w46_3 v_1 _ _ _ ⟨by omega, by omega⟩ ⟨by omega, by omega⟩ (show (15 : Int) - v_1.toInt < (fuel_5 : Int) from by omega) hP hD hS (lv_sub hl [0, 1, 2, 3, 4] rfl)
      refine lv_iload C.1 C.2.1 dX5_sizeOf_5 (lv_at hl 4 rfl) ?_
      refine lv_iload_n C.1 C.2.1 dX5_sizeOf_7 rfl (lv_at hl 2 rfl) ?_
      refine lv_icmp_ge (tgt := 52) C.1 C.2.1 dX5_sizeOf_8 (by decide) (fun c_4 => ?_) (fun c_4 => ?_)
      · replace c_4 : x2.toInt ≤ w5_4.toInt := i_le c_4
        refine lv_iload_n C.1 C.2.1 dX5_sizeOf_52 rfl (lv_at hl 3 rfl) ?_
        exact g_iret C hr hlocks hP hD hS rfl () rfl ⟨by omega, by omega⟩ (Nat.le_of_ble_eq_true rfl) (Nat.le_of_ble_eq_true rfl) dX5_sizeOf_53
      · replace c_4 : w5_4.toInt < x2.toInt := i_nle c_4
        refine lv_iload C.1 C.2.1 dX5_sizeOf_11 (lv_at hl 4 rfl) ?_
        refine lv_aload_n C.1 C.2.1 dX5_sizeOf_13 rfl (lv_at hl 0 rfl) ?_
        refine k_get (v := .ref (ad 9)) C hP 24 rfl rfl inlX5 0 (by decide) m_6_5 rfl dX5_sizeOf_14 ?_
        refine k_len (v := 80) C hP 9 2 rfl rfl rfl dX5_sizeOf_17 ?_
        refine lv_icmp_ge (tgt := 52) C.1 C.2.1 dX5_sizeOf_18 (by decide) (fun c_5 => False.elim (by have c_5 : 80 ≤ w5_4.toInt := i_le c_5; omega)) (fun c_5 => ?_)
        replace c_5 : w5_4.toInt < 80 := i_nle c_5
        refine lv_aload_n C.1 C.2.1 dX5_sizeOf_21 rfl (lv_at hl 0 rfl) ?_
        refine k_get (v := .ref (ad 9)) C hP 24 rfl rfl inlX5 0 (by decide) m_6_5 rfl dX5_sizeOf_22 ?_
        refine lv_iload C.1 C.2.1 dX5_sizeOf_25 (lv_at hl 4 rfl) ?_
        obtain ⟨v_6, e_7⟩ : ∃ z, z = (t.2.2.1 9 (w5_4 : Int32).toNatClampNeg) := ⟨_, rfl⟩
        have h_8 : (-128 : Int) ≤ v_6.toInt ∧ v_6.toInt ≤ 127 := by rw [e_7]; exact hok.2.1 9 _
        refine k_bld (v := v_6) C hP 9 rfl (vp_in_iff.mpr ⟨by omega, by omega⟩) e_7.symm dX5_sizeOf_27 ?_
        refine lv_bipush (v := 32) C.1 C.2.1 dX5_sizeOf_28 (by decide) ?_
        refine lv_icmp_eq (tgt := 46) C.1 C.2.1 dX5_sizeOf_30 (by decide) (fun c_9 => ?_) (fun c_9 => ?_)
        · replace c_9 : v_6.toInt = 32 := i_eq c_9
          exact L_46 w5_3 w5_4 _ _ _ ⟨by omega, by omega⟩ ⟨by omega, by omega⟩ (show (15 : Int) - w5_4.toInt < (fuel_5 : Int) + 1 from by omega) hP hD hS (lv_sub hl [0, 1, 2, 3, 4] rfl)
        · replace c_9 : ¬ v_6.toInt = 32 := i_ne c_9
          refine lv_iload_n C.1 C.2.1 dX5_sizeOf_33 rfl (lv_at hl 3 rfl) ?_
          refine lv_iload C.1 C.2.1 dX5_sizeOf_34 (lv_at hl 4 rfl) ?_
          refine lv_iload_n C.1 C.2.1 dX5_sizeOf_36 rfl (lv_at hl 1 rfl) ?_
          obtain ⟨v_10, e_11⟩ : ∃ z, z = (w5_4 : Int32) - (x1 : Int32) := ⟨_, rfl⟩
          have h_12 : v_10.toInt = w5_4.toInt - x1.toInt := by rw [e_11]; exact ti_isub (by show (_ : Int) ≤ w5_4.toInt - x1.toInt; omega) (by show w5_4.toInt - x1.toInt < (_ : Int); omega)
          refine k_isub (v := v_10) C e_11.symm dX5_sizeOf_37 ?_
          refine lv_icmp_eq (tgt := 43) C.1 C.2.1 dX5_sizeOf_38 (by decide) (fun c_13 => ?_) (fun c_13 => ?_)
          · replace c_13 : w5_3.toInt = v_10.toInt := i_eq c_13
            obtain ⟨v_14, e_15⟩ : ∃ z, z = w5_3 + 1 := ⟨_, rfl⟩
            have h_16 : v_14.toInt = w5_3.toInt + 1 := by rw [e_15]; exact ti_iadd (by show (_ : Int) ≤ w5_3.toInt + 1; omega) (by show w5_3.toInt + 1 < (_ : Int); omega)
            refine lv_iinc (v := v_14) (lv' := [(3, .int v_14), (0, .ref (ad 24)), (1, .int x1), (2, .int x2), (4, .int w5_4)]) C.1 C.2.1 dX5_sizeOf_43 hl (k := 3) rfl e_15.symm (by decide) rfl (fun ls hl => ?_)
            have hl : lv_has ls 5 [(0, .ref (ad 24)), (1, .int x1), (2, .int x2), (3, .int v_14), (4, .int w5_4)] := lv_sub hl [1, 2, 3, 0, 4] rfl
            exact L_46 v_14 w5_4 _ _ _ ⟨by omega, by omega⟩ ⟨by omega, by omega⟩ (show (15 : Int) - w5_4.toInt < (fuel_5 : Int) + 1 from by omega) hP hD hS (lv_sub hl [0, 1, 2, 3, 4] rfl)
          · replace c_13 : ¬ w5_3.toInt = v_10.toInt := i_ne c_13
            refine lv_iconst (v := (-1)) C.1 C.2.1 dX5_sizeOf_41 (by decide) ?_
            exact g_iret C hr hlocks hP hD hS rfl () rfl ⟨by decide, by decide⟩ (Nat.le_of_ble_eq_true rfl) (Nat.le_of_ble_eq_true rfl) dX5_sizeOf_42
  refine lv_iconst (v := 0) C.1 C.2.1 dX5_sizeOf_0 (by decide) ?_
  refine lv_istore_n (lv' := [(3, .int 0), (0, .ref (ad 24)), (1, .int x1), (2, .int x2)]) C.1 C.2.1 dX5_sizeOf_1 rfl hl (by decide) rfl (fun ls hl => ?_)
  have hl : lv_has ls 5 [(0, .ref (ad 24)), (1, .int x1), (2, .int x2), (3, .int 0)] := lv_sub hl [1, 2, 3, 0] rfl
  refine lv_iload_n C.1 C.2.1 dX5_sizeOf_2 rfl (lv_at hl 1 rfl) ?_
  refine lv_istore (lv' := [(4, .int x1), (0, .ref (ad 24)), (1, .int x1), (2, .int x2), (3, .int 0)]) C.1 C.2.1 dX5_sizeOf_3 hl (by decide) rfl (fun ls hl => ?_)
  have hl : lv_has ls 5 [(0, .ref (ad 24)), (1, .int x1), (2, .int x2), (3, .int 0), (4, .int x1)] := lv_sub hl [1, 2, 3, 4, 0] rfl
  exact L_5 16 0 x1 _ _ _ ⟨by decide, by decide⟩ ⟨by omega, by omega⟩ (show (15 : Int) - x1.toInt < ((16 : Nat) : Int) from by omega) hP hD hS (lv_sub hl [0, 1, 2, 3, 4] rfl)

theorem dX4_mark_0 : decode cX4_mark 0 = .ok (.iload_n 1, 1) := by decide +kernel
theorem dX4_mark_1 : decode cX4_mark 1 = .ok (.iconst 1, 1) := by decide +kernel
theorem dX4_mark_11 : decode cX4_mark 11 = .ok (.aload_n 0, 1) := by decide +kernel
theorem dX4_mark_12 : decode cX4_mark 12 = .ok (.getfield 21, 3) := by decide +kernel
theorem dX4_mark_15 : decode cX4_mark 15 = .ok (.iload_n 1, 1) := by decide +kernel
theorem dX4_mark_16 : decode cX4_mark 16 = .ok (.iconst 1, 1) := by decide +kernel
theorem dX4_mark_17 : decode cX4_mark 17 = .ok (.isub, 1) := by decide +kernel
theorem dX4_mark_18 : decode cX4_mark 18 = .ok (.iload_n 2, 1) := by decide +kernel
theorem dX4_mark_19 : decode cX4_mark 19 = .ok (.i2b, 1) := by decide +kernel
theorem dX4_mark_2 : decode cX4_mark 2 = .ok (.if_icmp .lt 19, 3) := by decide +kernel
theorem dX4_mark_20 : decode cX4_mark 20 = .ok (.bastore, 1) := by decide +kernel
theorem dX4_mark_21 : decode cX4_mark 21 = .ok (.return_, 1) := by decide +kernel
theorem dX4_mark_5 : decode cX4_mark 5 = .ok (.iload_n 1, 1) := by decide +kernel
theorem dX4_mark_6 : decode cX4_mark 6 = .ok (.bipush 120, 2) := by decide +kernel
theorem dX4_mark_8 : decode cX4_mark 8 = .ok (.if_icmp .gt 13, 3) := by decide +kernel
set_option maxHeartbeats 4000000 in
set_option maxRecDepth 100000 in
theorem T_X4_mark (l : Launch) (D : va_G) (K : Nat → ClassId) (Z Y : Nat → Nat) (ad : Nat → Nat) (d : dSt) (t : tSt) (hok : okX t) (x1 : Int32) (x2 : Int32) (hx2 : (-128 : Int) ≤ x2.toInt ∧ x2.toInt ≤ 255) : tMet l yX4_mark cX4_mark 3 none (rmD 0 0 0) D K Z Y [.ref (ad 20), .int x1, .int x2] ((WX d) K ad t) (QV D K (fun (u : tSt) => okX u ∧ frA [] [] [37] [] t u) (fun (u : tSt) => (WX d) K ad u)) 0 0 := by
  refine t_met RX4 ⟨rfl, by decide +kernel⟩ (Nat.le_of_ble_eq_true rfl) ?_
  intro p e s m below meth c A ls C hE hZ hr hlocks hA hP hD hS hl
  have hl : lv_has ls 3 [(0, .ref (ad 20)), (1, .int x1), (2, .int x2)] := hl
  have hokt := hok
  have hfr : frA [] [] [37] [] t t := frA_rf
  refine lv_iload_n C.1 C.2.1 dX4_mark_0 rfl (lv_at hl 1 rfl) ?_
  refine lv_iconst (v := 1) C.1 C.2.1 dX4_mark_1 (by decide) ?_
  refine lv_icmp_lt (tgt := 21) C.1 C.2.1 dX4_mark_2 (by decide) (fun c_1 => ?_) (fun c_1 => ?_)
  · replace c_1 : x1.toInt < 1 := i_lt c_1
    exact g_vret C hr hlocks hP hD hS t rfl ⟨hok, hfr⟩ (Nat.le_of_ble_eq_true rfl) (Nat.le_of_ble_eq_true rfl) dX4_mark_21
  · replace c_1 : 1 ≤ x1.toInt := i_nlt c_1
    refine lv_iload_n C.1 C.2.1 dX4_mark_5 rfl (lv_at hl 1 rfl) ?_
    refine lv_bipush (v := 120) C.1 C.2.1 dX4_mark_6 (by decide) ?_
    refine lv_icmp_gt (tgt := 21) C.1 C.2.1 dX4_mark_8 (by decide) (fun c_2 => ?_) (fun c_2 => ?_)
    · replace c_2 : 120 < x1.toInt := i_lt c_2
      exact g_vret C hr hlocks hP hD hS t rfl ⟨hok, hfr⟩ (Nat.le_of_ble_eq_true rfl) (Nat.le_of_ble_eq_true rfl) dX4_mark_21
    · replace c_2 : x1.toInt ≤ 120 := i_nlt c_2
      refine lv_aload_n C.1 C.2.1 dX4_mark_11 rfl (lv_at hl 0 rfl) ?_
      refine k_get (v := .ref (ad 37)) C hP 20 rfl rfl inlX4 2 (by decide) m_4_11 rfl dX4_mark_12 ?_
      refine lv_iload_n C.1 C.2.1 dX4_mark_15 rfl (lv_at hl 1 rfl) ?_
      refine lv_iconst (v := 1) C.1 C.2.1 dX4_mark_16 (by decide) ?_
      obtain ⟨v_3, e_4⟩ : ∃ z, z = (x1 : Int32) - (1 : Int32) := ⟨_, rfl⟩
      have h_5 : v_3.toInt = x1.toInt - 1 := by rw [e_4]; exact ti_isub (by show (_ : Int) ≤ x1.toInt - 1; omega) (by show x1.toInt - 1 < (_ : Int); omega)
      refine k_isub (v := v_3) C e_4.symm dX4_mark_17 ?_
      refine lv_iload_n C.1 C.2.1 dX4_mark_18 rfl (lv_at hl 2 rfl) ?_
      obtain ⟨v_6, e_7⟩ : ∃ z, z = (x2 : Int32).toInt8.toInt32 := ⟨_, rfl⟩
      have h_8 : (-128 : Int) ≤ v_6.toInt ∧ v_6.toInt ≤ 127 := by rw [e_7]; exact nar_byte _
      refine lv_i2b (v := v_6) C.1 C.2.1 dX4_mark_19 e_7.symm ?_
      obtain ⟨v_9, e_10⟩ : ∃ z, z = vp_nar .byte v_6 := ⟨_, rfl⟩
      have h_11 : (-128 : Int) ≤ v_9.toInt ∧ v_9.toInt ≤ 127 := by rw [e_10]; exact nar_byte _
      refine k_bst (ws' := (WX d) K ad (uB t 37 (v_3 : Int32).toNatClampNeg v_9)) (x' := v_9) C hP hD hS 37 rfl (vp_in_iff.mpr ⟨by omega, by omega⟩) rfl e_10.symm rfl dX4_mark_20 (fun H locs hP hD hS => ?_)
      have hok : okX (uB t 37 (v_3 : Int32).toNatClampNeg v_9) := ⟨hok.1, okB_B hok.2.1 37 _ v_9 (show (-128 : Int) ≤ (v_9 : Int32).toInt ∧ (v_9 : Int32).toInt ≤ 127 from ⟨by omega, by omega⟩), trivial⟩
      have hfr : frA [] [] [37] [] t (uB t 37 (v_3 : Int32).toNatClampNeg v_9) := frA_B hfr 37 _ _ rfl
      exact g_vret C hr hlocks hP hD hS (uB t 37 (v_3 : Int32).toNatClampNeg v_9) rfl ⟨hok, hfr⟩ (Nat.le_of_ble_eq_true rfl) (Nat.le_of_ble_eq_true rfl) dX4_mark_21

theorem dX8_find_0 : decode cX8_find 0 = .ok (.iconst 0, 1) := by decide +kernel
theorem dX8_find_1 : decode cX8_find 1 = .ok (.istore_n 3, 1) := by decide +kernel
theorem dX8_find_10 : decode cX8_find 10 = .ok (.aload_n 0, 1) := by decide +kernel
theorem dX8_find_11 : decode cX8_find 11 = .ok (.getfield 11, 3) := by decide +kernel
theorem dX8_find_14 : decode cX8_find 14 = .ok (.iload_n 3, 1) := by decide +kernel
theorem dX8_find_15 : decode cX8_find 15 = .ok (.laload, 1) := by decide +kernel
theorem dX8_find_16 : decode cX8_find 16 = .ok (.lload_n 1, 1) := by decide +kernel
theorem dX8_find_17 : decode cX8_find 17 = .ok (.lcmp, 1) := by decide +kernel
theorem dX8_find_18 : decode cX8_find 18 = .ok (.ifCond .ne 5, 3) := by decide +kernel
theorem dX8_find_2 : decode cX8_find 2 = .ok (.iload_n 3, 1) := by decide +kernel
theorem dX8_find_21 : decode cX8_find 21 = .ok (.iload_n 3, 1) := by decide +kernel
theorem dX8_find_22 : decode cX8_find 22 = .ok (.ireturn, 1) := by decide +kernel
theorem dX8_find_23 : decode cX8_find 23 = .ok (.iinc 3 1, 3) := by decide +kernel
theorem dX8_find_26 : decode cX8_find 26 = .ok (.goto (-24), 3) := by decide +kernel
theorem dX8_find_29 : decode cX8_find 29 = .ok (.iconst (-1), 1) := by decide +kernel
theorem dX8_find_3 : decode cX8_find 3 = .ok (.aload_n 0, 1) := by decide +kernel
theorem dX8_find_30 : decode cX8_find 30 = .ok (.ireturn, 1) := by decide +kernel
theorem dX8_find_4 : decode cX8_find 4 = .ok (.getfield 44, 3) := by decide +kernel
theorem dX8_find_7 : decode cX8_find 7 = .ok (.if_icmp .ge 22, 3) := by decide +kernel
set_option maxHeartbeats 4000000 in
set_option maxRecDepth 100000 in
theorem T_X8_find (l : Launch) (D : va_G) (K : Nat → ClassId) (Z Y : Nat → Nat) (ad : Nat → Nat) (d : dSt) (t : tSt) (hok : okX t) (x1 : Int64) : tMet l yX8_find cX8_find 4 (some .int) (rmD 0 0 0) D K Z Y [.ref (ad 23), .long x1] ((WX d) K ad t) (QI D K (fun (r : Int32) (u : Unit) => (-1 : Int) ≤ r.toInt ∧ r.toInt ≤ 2147483647) (fun (_ : Unit) => (WX d) K ad t)) 0 0 := by
  refine t_met RX8 ⟨rfl, by decide +kernel⟩ (Nat.le_of_ble_eq_true rfl) ?_
  intro p e s m below meth c A ls C hE hZ hr hlocks hA hP hD hS hl
  have hl : lv_has ls 4 [(0, .ref (ad 23)), (1, .long x1)] := hl
  have L_2 : ∀ (fuel_2 : Nat) (w2_3 : Int32) (H : Heap) (locs : List Loc) (ls : Array Slot), (0 : Int) ≤ w2_3.toInt ∧ w2_3.toInt ≤ 1024 → (1024 : Int) - w2_3.toInt < (fuel_2 : Int) → va_P D vwCl ((WX d) K ad t) H → va_D A ((WX d) K ad t) → va_S A s.heap H locs → lv_has ls 4 [(0, .ref (ad 23)), (1, .long x1), (3, .int w2_3)] → W p l e (rmD 0 0 0) s m [.ref (ad 23), .long x1].toArray below meth c H locs 0 0 (MQ below (QI D K (fun (r : Int32) (u : Unit) => (-1 : Int) ≤ r.toInt ∧ r.toInt ≤ 2147483647) (fun (_ : Unit) => (WX d) K ad t) A) [.ref (ad 23), .long x1].toArray s 0 0 A) (F0 m 2 ls []) := by
    intro fuel_2
    induction fuel_2 with
    | zero =>
      intro w2_3 H locs ls hw2_3 hm2_2 hP hD hS hl
      exact absurd hm2_2 (by omega)
    | succ fuel_2 ih_2 =>
      intro w2_3 H locs ls hw2_3 hm2_2 hP hD hS hl
      have hm2_2 : (1024 : Int) - w2_3.toInt < (fuel_2 : Int) + 1 := by omega
      refine lv_iload_n C.1 C.2.1 dX8_find_2 rfl (lv_at hl 2 rfl) ?_
      refine lv_aload_n C.1 C.2.1 dX8_find_3 rfl (lv_at hl 0 rfl) ?_
      have h_1 : (0 : Int) ≤ (t.1 23 3).toInt ∧ (t.1 23 3).toInt ≤ 1024 := hok.1 23 3
      refine k_get (v := .int (t.1 23 3)) C hP 23 rfl rfl inlX8 3 (by decide) m_13_8 rfl dX8_find_4 ?_
      refine lv_icmp_ge (tgt := 29) C.1 C.2.1 dX8_find_7 (by decide) (fun c_2 => ?_) (fun c_2 => ?_)
      · replace c_2 : (t.1 23 3).toInt ≤ w2_3.toInt := i_le c_2
        refine lv_iconst (v := (-1)) C.1 C.2.1 dX8_find_29 (by decide) ?_
        exact g_iret C hr hlocks hP hD hS rfl () rfl ⟨by decide, by decide⟩ (Nat.le_of_ble_eq_true rfl) (Nat.le_of_ble_eq_true rfl) dX8_find_30
      · replace c_2 : w2_3.toInt < (t.1 23 3).toInt := i_nle c_2
        refine lv_aload_n C.1 C.2.1 dX8_find_10 rfl (lv_at hl 0 rfl) ?_
        refine k_get (v := .ref (ad 41)) C hP 23 rfl rfl inlX8 0 (by decide) m_4_23 rfl dX8_find_11 ?_
        refine lv_iload_n C.1 C.2.1 dX8_find_14 rfl (lv_at hl 2 rfl) ?_
        refine k_lld (v := (t.2.2.2 41 (w2_3 : Int32).toNatClampNeg)) C hP 41 rfl (vp_in_iff.mpr ⟨by omega, by omega⟩) rfl dX8_find_15 ?_
        refine lv_lload_n C.1 C.2.1 dX8_find_16 rfl (lv_at hl 1 rfl) ?_
        obtain ⟨v_3, e_4⟩ : ∃ z, z = lg_cmp ((t.2.2.2 41 (w2_3 : Int32).toNatClampNeg) : Int64) x1 := ⟨_, rfl⟩
        have h_5 : (-1 : Int) ≤ v_3.toInt ∧ v_3.toInt ≤ 1 := by rw [e_4]; exact cmp_rng _ _
        refine k_lcmp (v := v_3) C e_4.symm dX8_find_17 ?_
        refine lv_if_ne (tgt := 23) C.1 C.2.1 dX8_find_18 (by decide) (fun c_6 => ?_) (fun c_6 => ?_)
        · replace c_6 : ¬ v_3.toInt = 0 := i_ne c_6
          obtain ⟨v_7, e_8⟩ : ∃ z, z = w2_3 + 1 := ⟨_, rfl⟩
          have h_9 : v_7.toInt = w2_3.toInt + 1 := by rw [e_8]; exact ti_iadd (by show (_ : Int) ≤ w2_3.toInt + 1; omega) (by show w2_3.toInt + 1 < (_ : Int); omega)
          refine lv_iinc (v := v_7) (lv' := [(3, .int v_7), (0, .ref (ad 23)), (1, .long x1)]) C.1 C.2.1 dX8_find_23 hl (k := 2) rfl e_8.symm (by decide) rfl (fun ls hl => ?_)
          have hl : lv_has ls 4 [(0, .ref (ad 23)), (1, .long x1), (3, .int v_7)] := lv_sub hl [1, 2, 0] rfl
          refine lv_goto (tgt := 2) C.1 C.2.1 dX8_find_26 (by decide) ?_
          exact ih_2 v_7 _ _ _ ⟨by omega, by omega⟩ (show (1024 : Int) - v_7.toInt < (fuel_2 : Int) from by omega) hP hD hS (lv_sub hl [0, 1, 2] rfl)
        · replace c_6 : v_3.toInt = 0 := i_eq c_6
          refine lv_iload_n C.1 C.2.1 dX8_find_21 rfl (lv_at hl 2 rfl) ?_
          exact g_iret C hr hlocks hP hD hS rfl () rfl ⟨by omega, by omega⟩ (Nat.le_of_ble_eq_true rfl) (Nat.le_of_ble_eq_true rfl) dX8_find_22
  refine lv_iconst (v := 0) C.1 C.2.1 dX8_find_0 (by decide) ?_
  refine lv_istore_n (lv' := [(3, .int 0), (0, .ref (ad 23)), (1, .long x1)]) C.1 C.2.1 dX8_find_1 rfl hl (by decide) rfl (fun ls hl => ?_)
  have hl : lv_has ls 4 [(0, .ref (ad 23)), (1, .long x1), (3, .int 0)] := lv_sub hl [1, 2, 0] rfl
  exact L_2 1025 0 _ _ _ ⟨by decide, by decide⟩ (show (1024 : Int) - 0 < ((1025 : Nat) : Int) from by omega) hP hD hS (lv_sub hl [0, 1, 2] rfl)

theorem dX4_copy_0 : decode cX4_copy 0 = .ok (.iconst 0, 1) := by decide +kernel
theorem dX4_copy_1 : decode cX4_copy 1 = .ok (.istore_n 3, 1) := by decide +kernel
theorem dX4_copy_10 : decode cX4_copy 10 = .ok (.iload_n 3, 1) := by decide +kernel
theorem dX4_copy_11 : decode cX4_copy 11 = .ok (.iadd, 1) := by decide +kernel
theorem dX4_copy_12 : decode cX4_copy 12 = .ok (.aload_n 2, 1) := by decide +kernel
theorem dX4_copy_13 : decode cX4_copy 13 = .ok (.iload_n 3, 1) := by decide +kernel
theorem dX4_copy_14 : decode cX4_copy 14 = .ok (.baload, 1) := by decide +kernel
theorem dX4_copy_15 : decode cX4_copy 15 = .ok (.invokevirtual 34, 3) := by decide +kernel
theorem dX4_copy_18 : decode cX4_copy 18 = .ok (.iinc 3 1, 3) := by decide +kernel
theorem dX4_copy_2 : decode cX4_copy 2 = .ok (.iload_n 3, 1) := by decide +kernel
theorem dX4_copy_21 : decode cX4_copy 21 = .ok (.goto (-19), 3) := by decide +kernel
theorem dX4_copy_24 : decode cX4_copy 24 = .ok (.return_, 1) := by decide +kernel
theorem dX4_copy_3 : decode cX4_copy 3 = .ok (.aload_n 2, 1) := by decide +kernel
theorem dX4_copy_4 : decode cX4_copy 4 = .ok (.arraylength, 1) := by decide +kernel
theorem dX4_copy_5 : decode cX4_copy 5 = .ok (.if_icmp .ge 19, 3) := by decide +kernel
theorem dX4_copy_8 : decode cX4_copy 8 = .ok (.aload_n 0, 1) := by decide +kernel
theorem dX4_copy_9 : decode cX4_copy 9 = .ok (.iload_n 1, 1) := by decide +kernel
set_option maxHeartbeats 4000000 in
set_option maxRecDepth 100000 in
theorem T_X4_copy (l : Launch) (D : va_G) (K : Nat → ClassId) (Z Y : Nat → Nat) (ad : Nat → Nat) (d : dSt) (t : tSt) (hok : okX t) (x1 : Int32) (hx1 : (8 : Int) ≤ x1.toInt ∧ x1.toInt ≤ 31) : tMet l yX4_copy cX4_copy 4 none (rmD 1 0 0) D K Z Y [.ref (ad 20), .int x1, .ref (ad 9)] ((WX d) K ad t) (QV D K (fun (u : tSt) => okX u ∧ frA [] [] [37] [] t u) (fun (u : tSt) => (WX d) K ad u)) 0 0 := by
  refine t_met RX4 ⟨rfl, by decide +kernel⟩ (Nat.le_of_ble_eq_true rfl) ?_
  intro p e s m below meth c A ls C hE hZ hr hlocks hA hP hD hS hl
  have hl : lv_has ls 4 [(0, .ref (ad 20)), (1, .int x1), (2, .ref (ad 9))] := hl
  have hokt := hok
  have hfr : frA [] [] [37] [] t t := frA_rf
  have L_2 : ∀ (fuel_2 : Nat) (t1 : tSt) (w2_3 : Int32) (H : Heap) (locs : List Loc) (ls : Array Slot), okX t1 → frA [] [] [37] [] t t1 → (0 : Int) ≤ w2_3.toInt ∧ w2_3.toInt ≤ 80 → (80 : Int) - w2_3.toInt < (fuel_2 : Int) → va_P D vwCl ((WX d) K ad t1) H → va_D A ((WX d) K ad t1) → va_S A s.heap H locs → lv_has ls 4 [(0, .ref (ad 20)), (1, .int x1), (2, .ref (ad 9)), (3, .int w2_3)] → W p l e (rmD 1 0 0) s m [.ref (ad 20), .int x1, .ref (ad 9)].toArray below meth c H locs 0 0 (MQ below (QV D K (fun (u : tSt) => okX u ∧ frA [] [] [37] [] t u) (fun (u : tSt) => (WX d) K ad u) A) [.ref (ad 20), .int x1, .ref (ad 9)].toArray s 0 0 A) (F0 m 2 ls []) := by
    intro fuel_2
    induction fuel_2 with
    | zero =>
      intro t1 w2_3 H locs ls hok hfr hw2_3 hm2_2 hP hD hS hl
      exact absurd hm2_2 (by omega)
    | succ fuel_2 ih_2 =>
      intro t1 w2_3 H locs ls hok hfr hw2_3 hm2_2 hP hD hS hl
      have hm2_2 : (80 : Int) - w2_3.toInt < (fuel_2 : Int) + 1 := by omega
      refine lv_iload_n C.1 C.2.1 dX4_copy_2 rfl (lv_at hl 3 rfl) ?_
      refine lv_aload_n C.1 C.2.1 dX4_copy_3 rfl (lv_at hl 2 rfl) ?_
      refine k_len (v := 80) C hP 9 2 rfl rfl rfl dX4_copy_4 ?_
      refine lv_icmp_ge (tgt := 24) C.1 C.2.1 dX4_copy_5 (by decide) (fun c_1 => ?_) (fun c_1 => ?_)
      · replace c_1 : 80 ≤ w2_3.toInt := i_le c_1
        exact g_vret C hr hlocks hP hD hS t1 rfl ⟨hok, hfr⟩ (Nat.le_of_ble_eq_true rfl) (Nat.le_of_ble_eq_true rfl) dX4_copy_24
      · replace c_1 : w2_3.toInt < 80 := i_nle c_1
        refine lv_aload_n C.1 C.2.1 dX4_copy_8 rfl (lv_at hl 0 rfl) ?_
        refine lv_iload_n C.1 C.2.1 dX4_copy_9 rfl (lv_at hl 1 rfl) ?_
        refine lv_iload_n C.1 C.2.1 dX4_copy_10 rfl (lv_at hl 3 rfl) ?_
        obtain ⟨v_2, e_3⟩ : ∃ z, z = (x1 : Int32) + (w2_3 : Int32) := ⟨_, rfl⟩
        have h_4 : v_2.toInt = x1.toInt + w2_3.toInt := by rw [e_3]; exact ti_iadd (by show (_ : Int) ≤ x1.toInt + w2_3.toInt; omega) (by show x1.toInt + w2_3.toInt < (_ : Int); omega)
        refine k_iadd (v := v_2) C e_3.symm dX4_copy_11 ?_
        refine lv_aload_n C.1 C.2.1 dX4_copy_12 rfl (lv_at hl 2 rfl) ?_
        refine lv_iload_n C.1 C.2.1 dX4_copy_13 rfl (lv_at hl 3 rfl) ?_
        obtain ⟨v_5, e_6⟩ : ∃ z, z = (t1.2.2.1 9 (w2_3 : Int32).toNatClampNeg) := ⟨_, rfl⟩
        have h_7 : (-128 : Int) ≤ v_5.toInt ∧ v_5.toInt ≤ 127 := by rw [e_6]; exact hok.2.1 9 _
        refine k_bld (v := v_5) C hP 9 rfl (vp_in_iff.mpr ⟨by omega, by omega⟩) e_6.symm dX4_copy_14 ?_
        refine g_Vv (As := [.int v_2, .int v_5]) (rest := []) C hP hD hS hA (T_X4_mark l D K Z Y ad d t1 hok (v_2) (v_5) (show (-128 : Int) ≤ (v_5 : Int32).toInt ∧ (v_5 : Int32).toInt ≤ 255 from ⟨by omega, by omega⟩)) hE hZ (uwV m_40_23 m_41_0 m_41_1 m_3_20 m_41_2) (hdV 2 (by decide +kernel) rfl) ⟨Nat.le_of_ble_eq_true rfl, Nat.le_of_ble_eq_true rfl⟩ rfl rfl (ci := 3) (q0 := 20) rfl rfl rfl hl.1 (Nat.le_of_ble_eq_true rfl) dX4_copy_15 ⟨Nat.le_of_ble_eq_true rfl, Nat.le_of_ble_eq_true rfl⟩ (fun t_8 H locs hw hP hD hS => ?_)
        obtain ⟨hok, f_10⟩ := hw
        have hfr : frA [] [] [37] [] t t_8 := frA_tr hfr f_10 rfl
        obtain ⟨v_11, e_12⟩ : ∃ z, z = w2_3 + 1 := ⟨_, rfl⟩
        have h_13 : v_11.toInt = w2_3.toInt + 1 := by rw [e_12]; exact ti_iadd (by show (_ : Int) ≤ w2_3.toInt + 1; omega) (by show w2_3.toInt + 1 < (_ : Int); omega)
        refine lv_iinc (v := v_11) (lv' := [(3, .int v_11), (0, .ref (ad 20)), (1, .int x1), (2, .ref (ad 9))]) C.1 C.2.1 dX4_copy_18 hl (k := 3) rfl e_12.symm (by decide) rfl (fun ls hl => ?_)
        have hl : lv_has ls 4 [(0, .ref (ad 20)), (1, .int x1), (2, .ref (ad 9)), (3, .int v_11)] := lv_sub hl [1, 2, 3, 0] rfl
        refine lv_goto (tgt := 2) C.1 C.2.1 dX4_copy_21 (by decide) ?_
        exact ih_2 t_8 v_11 _ _ _ hok hfr ⟨by omega, by omega⟩ (show (80 : Int) - v_11.toInt < (fuel_2 : Int) from by omega) hP hD hS (lv_sub hl [0, 1, 2, 3] rfl)
  refine lv_iconst (v := 0) C.1 C.2.1 dX4_copy_0 (by decide) ?_
  refine lv_istore_n (lv' := [(3, .int 0), (0, .ref (ad 20)), (1, .int x1), (2, .ref (ad 9))]) C.1 C.2.1 dX4_copy_1 rfl hl (by decide) rfl (fun ls hl => ?_)
  have hl : lv_has ls 4 [(0, .ref (ad 20)), (1, .int x1), (2, .ref (ad 9)), (3, .int 0)] := lv_sub hl [1, 2, 3, 0] rfl
  exact L_2 81 t 0 _ _ _ hok hfr ⟨by decide, by decide⟩ (show (80 : Int) - 0 < ((81 : Nat) : Int) from by omega) hP hD hS (lv_sub hl [0, 1, 2, 3] rfl)

theorem dX0_isTouched_0 : decode cX0_isTouched 0 = .ok (.iload_n 1, 1) := by decide +kernel
theorem dX0_isTouched_1 : decode cX0_isTouched 1 = .ok (.ifCond .lt 35, 3) := by decide +kernel
theorem dX0_isTouched_11 : decode cX0_isTouched 11 = .ok (.aload_n 0, 1) := by decide +kernel
theorem dX0_isTouched_12 : decode cX0_isTouched 12 = .ok (.getfield 9, 3) := by decide +kernel
theorem dX0_isTouched_15 : decode cX0_isTouched 15 = .ok (.iload_n 1, 1) := by decide +kernel
theorem dX0_isTouched_16 : decode cX0_isTouched 16 = .ok (.bipush 6, 2) := by decide +kernel
theorem dX0_isTouched_18 : decode cX0_isTouched 18 = .ok (.ishr, 1) := by decide +kernel
theorem dX0_isTouched_19 : decode cX0_isTouched 19 = .ok (.laload, 1) := by decide +kernel
theorem dX0_isTouched_20 : decode cX0_isTouched 20 = .ok (.iload_n 1, 1) := by decide +kernel
theorem dX0_isTouched_21 : decode cX0_isTouched 21 = .ok (.bipush 63, 2) := by decide +kernel
theorem dX0_isTouched_23 : decode cX0_isTouched 23 = .ok (.iand, 1) := by decide +kernel
theorem dX0_isTouched_24 : decode cX0_isTouched 24 = .ok (.lshr, 1) := by decide +kernel
theorem dX0_isTouched_25 : decode cX0_isTouched 25 = .ok (.lconst 1, 1) := by decide +kernel
theorem dX0_isTouched_26 : decode cX0_isTouched 26 = .ok (.land, 1) := by decide +kernel
theorem dX0_isTouched_27 : decode cX0_isTouched 27 = .ok (.lconst 0, 1) := by decide +kernel
theorem dX0_isTouched_28 : decode cX0_isTouched 28 = .ok (.lcmp, 1) := by decide +kernel
theorem dX0_isTouched_29 : decode cX0_isTouched 29 = .ok (.ifCond .eq 7, 3) := by decide +kernel
theorem dX0_isTouched_32 : decode cX0_isTouched 32 = .ok (.iconst 1, 1) := by decide +kernel
theorem dX0_isTouched_33 : decode cX0_isTouched 33 = .ok (.goto 4, 3) := by decide +kernel
theorem dX0_isTouched_36 : decode cX0_isTouched 36 = .ok (.iconst 0, 1) := by decide +kernel
theorem dX0_isTouched_37 : decode cX0_isTouched 37 = .ok (.ireturn, 1) := by decide +kernel
theorem dX0_isTouched_4 : decode cX0_isTouched 4 = .ok (.iload_n 1, 1) := by decide +kernel
theorem dX0_isTouched_5 : decode cX0_isTouched 5 = .ok (.sipush 3999, 3) := by decide +kernel
theorem dX0_isTouched_8 : decode cX0_isTouched 8 = .ok (.if_icmp .gt 28, 3) := by decide +kernel
set_option maxHeartbeats 4000000 in
set_option maxRecDepth 100000 in
theorem T_X0_isTouched (l : Launch) (D : va_G) (K : Nat → ClassId) (Z Y : Nat → Nat) (ad : Nat → Nat) (d : dSt) (t : tSt) (hok : okX t) (x1 : Int32) (hx1 : (0 : Int) ≤ x1.toInt ∧ x1.toInt ≤ 2147483647) : tMet l yX0_isTouched cX0_isTouched 2 (some .boolean) (rmD 0 0 0) D K Z Y [.ref (ad 5), .int x1] ((WX d) K ad t) (QI D K (fun (r : Int32) (u : Unit) => (0 : Int) ≤ r.toInt ∧ r.toInt ≤ 1) (fun (_ : Unit) => (WX d) K ad t)) 0 0 := by
  refine t_met RX0 ⟨rfl, by decide +kernel⟩ (Nat.le_of_ble_eq_true rfl) ?_
  intro p e s m below meth c A ls C hE hZ hr hlocks hA hP hD hS hl
  have hl : lv_has ls 2 [(0, .ref (ad 5)), (1, .int x1)] := hl
  refine lv_iload_n C.1 C.2.1 dX0_isTouched_0 rfl (lv_at hl 1 rfl) ?_
  refine lv_if_lt (tgt := 36) C.1 C.2.1 dX0_isTouched_1 (by decide) (fun c_1 => False.elim (by have c_1 : x1.toInt < 0 := i_lt c_1; omega)) (fun c_1 => ?_)
  replace c_1 : 0 ≤ x1.toInt := i_nlt c_1
  refine lv_iload_n C.1 C.2.1 dX0_isTouched_4 rfl (lv_at hl 1 rfl) ?_
  refine lv_sipush (v := 3999) C.1 C.2.1 dX0_isTouched_5 (by decide) ?_
  refine lv_icmp_gt (tgt := 36) C.1 C.2.1 dX0_isTouched_8 (by decide) (fun c_2 => ?_) (fun c_2 => ?_)
  · replace c_2 : 3999 < x1.toInt := i_lt c_2
    refine lv_iconst (v := 0) C.1 C.2.1 dX0_isTouched_36 (by decide) ?_
    exact g_iret C hr hlocks hP hD hS (by decide) () rfl ⟨by decide, by decide⟩ (Nat.le_of_ble_eq_true rfl) (Nat.le_of_ble_eq_true rfl) dX0_isTouched_37
  · replace c_2 : x1.toInt ≤ 3999 := i_nlt c_2
    refine lv_aload_n C.1 C.2.1 dX0_isTouched_11 rfl (lv_at hl 0 rfl) ?_
    refine k_get (v := .ref (ad 25)) C hP 5 rfl rfl inlX0 4 (by decide) m_5_13 rfl dX0_isTouched_12 ?_
    refine lv_iload_n C.1 C.2.1 dX0_isTouched_15 rfl (lv_at hl 1 rfl) ?_
    refine lv_bipush (v := 6) C.1 C.2.1 dX0_isTouched_16 (by decide) ?_
    obtain ⟨v_3, e_4⟩ : ∃ z, z = (x1 : Int32) >>> ((6 : Int32) &&& 31) := ⟨_, rfl⟩
    have h_5 : v_3.toInt = x1.toInt / 2 ^ 6 := by rw [e_4]; exact Jvm.Kit.i32_shr _ _ (k := 6) (by decide)
    refine k_ishr (v := v_3) C e_4.symm dX0_isTouched_18 ?_
    refine k_lld (v := (t.2.2.2 25 (v_3 : Int32).toNatClampNeg)) C hP 25 rfl (vp_in_iff.mpr ⟨by omega, by omega⟩) rfl dX0_isTouched_19 ?_
    refine lv_iload_n C.1 C.2.1 dX0_isTouched_20 rfl (lv_at hl 1 rfl) ?_
    refine lv_bipush (v := 63) C.1 C.2.1 dX0_isTouched_21 (by decide) ?_
    obtain ⟨v_6, e_7⟩ : ∃ z, z = (x1 : Int32) &&& (63 : Int32) := ⟨_, rfl⟩
    have h_8 : v_6.toInt = x1.toInt % 2 ^ 6 := by rw [e_7]; exact Jvm.Kit.i32_mask _ _ (k := 6) (by decide) (by decide)
    refine k_iand (v := v_6) C e_7.symm dX0_isTouched_23 ?_
    obtain ⟨v_9, e_10⟩ : ∃ z, z = ((t.2.2.2 25 (v_3 : Int32).toNatClampNeg) : Int64) >>> ((v_6 : Int32).toInt64 &&& 63) := ⟨_, rfl⟩
    refine lv_lshr (v := v_9) C.1 C.2.1 dX0_isTouched_24 e_10.symm ?_
    refine lv_lconst (v := 1) C.1 C.2.1 dX0_isTouched_25 (by decide) ?_
    obtain ⟨v_11, e_12⟩ : ∃ z, z = (v_9 : Int64) &&& 1 := ⟨_, rfl⟩
    have h_13 : v_11.toInt = v_9.toInt % 2 ^ 1 := by rw [e_12]; exact Jvm.Kit.i64_mask _ _ (k := 1) (by decide) (by decide)
    refine lw_land (v := v_11) C.1 C.2.1 dX0_isTouched_26 e_12.symm ?_
    refine lv_lconst (v := 0) C.1 C.2.1 dX0_isTouched_27 (by decide) ?_
    obtain ⟨v_14, e_15⟩ : ∃ z, z = lg_cmp (v_11 : Int64) 0 := ⟨_, rfl⟩
    have h_16 : (-1 : Int) ≤ v_14.toInt ∧ v_14.toInt ≤ 1 := by rw [e_15]; exact cmp_rng _ _
    refine k_lcmp (v := v_14) C e_15.symm dX0_isTouched_28 ?_
    refine lv_if_eq (tgt := 36) C.1 C.2.1 dX0_isTouched_29 (by decide) (fun c_17 => ?_) (fun c_17 => ?_)
    · replace c_17 : v_14.toInt = 0 := i_eq c_17
      refine lv_iconst (v := 0) C.1 C.2.1 dX0_isTouched_36 (by decide) ?_
      exact g_iret C hr hlocks hP hD hS (by decide) () rfl ⟨by decide, by decide⟩ (Nat.le_of_ble_eq_true rfl) (Nat.le_of_ble_eq_true rfl) dX0_isTouched_37
    · replace c_17 : ¬ v_14.toInt = 0 := i_ne c_17
      refine lv_iconst (v := 1) C.1 C.2.1 dX0_isTouched_32 (by decide) ?_
      refine lv_goto (tgt := 37) C.1 C.2.1 dX0_isTouched_33 (by decide) ?_
      exact g_iret C hr hlocks hP hD hS (by decide) () rfl ⟨by decide, by decide⟩ (Nat.le_of_ble_eq_true rfl) (Nat.le_of_ble_eq_true rfl) dX0_isTouched_37

theorem dX0_putOf_0 : decode cX0_putOf 0 = .ok (.iconst 0, 1) := by decide +kernel
theorem dX0_putOf_1 : decode cX0_putOf 1 = .ok (.istore_n 2, 1) := by decide +kernel
theorem dX0_putOf_10 : decode cX0_putOf 10 = .ok (.aload_n 0, 1) := by decide +kernel
theorem dX0_putOf_11 : decode cX0_putOf 11 = .ok (.getfield 15, 3) := by decide +kernel
theorem dX0_putOf_14 : decode cX0_putOf 14 = .ok (.iload_n 2, 1) := by decide +kernel
theorem dX0_putOf_15 : decode cX0_putOf 15 = .ok (.iaload, 1) := by decide +kernel
theorem dX0_putOf_16 : decode cX0_putOf 16 = .ok (.iload_n 1, 1) := by decide +kernel
theorem dX0_putOf_17 : decode cX0_putOf 17 = .ok (.if_icmp .ne 10, 3) := by decide +kernel
theorem dX0_putOf_2 : decode cX0_putOf 2 = .ok (.iload_n 2, 1) := by decide +kernel
theorem dX0_putOf_20 : decode cX0_putOf 20 = .ok (.aload_n 0, 1) := by decide +kernel
theorem dX0_putOf_21 : decode cX0_putOf 21 = .ok (.getfield 19, 3) := by decide +kernel
theorem dX0_putOf_24 : decode cX0_putOf 24 = .ok (.iload_n 2, 1) := by decide +kernel
theorem dX0_putOf_25 : decode cX0_putOf 25 = .ok (.iaload, 1) := by decide +kernel
theorem dX0_putOf_26 : decode cX0_putOf 26 = .ok (.ireturn, 1) := by decide +kernel
theorem dX0_putOf_27 : decode cX0_putOf 27 = .ok (.iinc 2 1, 3) := by decide +kernel
theorem dX0_putOf_3 : decode cX0_putOf 3 = .ok (.aload_n 0, 1) := by decide +kernel
theorem dX0_putOf_30 : decode cX0_putOf 30 = .ok (.goto (-28), 3) := by decide +kernel
theorem dX0_putOf_33 : decode cX0_putOf 33 = .ok (.sipush 9999, 3) := by decide +kernel
theorem dX0_putOf_36 : decode cX0_putOf 36 = .ok (.ireturn, 1) := by decide +kernel
theorem dX0_putOf_4 : decode cX0_putOf 4 = .ok (.getfield 66, 3) := by decide +kernel
theorem dX0_putOf_7 : decode cX0_putOf 7 = .ok (.if_icmp .ge 26, 3) := by decide +kernel
set_option maxHeartbeats 4000000 in
set_option maxRecDepth 100000 in
theorem T_X0_putOf (l : Launch) (D : va_G) (K : Nat → ClassId) (Z Y : Nat → Nat) (ad : Nat → Nat) (d : dSt) (t : tSt) (hok : okX t) (x1 : Int32) : tMet l yX0_putOf cX0_putOf 3 (some .int) (rmD 0 0 0) D K Z Y [.ref (ad 5), .int x1] ((WX d) K ad t) (QI D K (fun (r : Int32) (u : Unit) => (-1073741824 : Int) ≤ r.toInt ∧ r.toInt ≤ 1073741824) (fun (_ : Unit) => (WX d) K ad t)) 0 0 := by
  refine t_met RX0 ⟨rfl, by decide +kernel⟩ (Nat.le_of_ble_eq_true rfl) ?_
  intro p e s m below meth c A ls C hE hZ hr hlocks hA hP hD hS hl
  have hl : lv_has ls 3 [(0, .ref (ad 5)), (1, .int x1)] := hl
  have L_2 : ∀ (fuel_2 : Nat) (w2_2 : Int32) (H : Heap) (locs : List Loc) (ls : Array Slot), (0 : Int) ≤ w2_2.toInt ∧ w2_2.toInt ≤ 1024 → (1024 : Int) - w2_2.toInt < (fuel_2 : Int) → va_P D vwCl ((WX d) K ad t) H → va_D A ((WX d) K ad t) → va_S A s.heap H locs → lv_has ls 3 [(0, .ref (ad 5)), (1, .int x1), (2, .int w2_2)] → W p l e (rmD 0 0 0) s m [.ref (ad 5), .int x1].toArray below meth c H locs 0 0 (MQ below (QI D K (fun (r : Int32) (u : Unit) => (-1073741824 : Int) ≤ r.toInt ∧ r.toInt ≤ 1073741824) (fun (_ : Unit) => (WX d) K ad t) A) [.ref (ad 5), .int x1].toArray s 0 0 A) (F0 m 2 ls []) := by
    intro fuel_2
    induction fuel_2 with
    | zero =>
      intro w2_2 H locs ls hw2_2 hm2_2 hP hD hS hl
      exact absurd hm2_2 (by omega)
    | succ fuel_2 ih_2 =>
      intro w2_2 H locs ls hw2_2 hm2_2 hP hD hS hl
      have hm2_2 : (1024 : Int) - w2_2.toInt < (fuel_2 : Int) + 1 := by omega
      refine lv_iload_n C.1 C.2.1 dX0_putOf_2 rfl (lv_at hl 2 rfl) ?_
      refine lv_aload_n C.1 C.2.1 dX0_putOf_3 rfl (lv_at hl 0 rfl) ?_
      have h_1 : (0 : Int) ≤ (t.1 5 7).toInt ∧ (t.1 5 7).toInt ≤ 1024 := hok.1 5 7
      refine k_get (v := .int (t.1 5 7)) C hP 5 rfl rfl inlX0 7 (by decide) m_12_2 rfl dX0_putOf_4 ?_
      refine lv_icmp_ge (tgt := 33) C.1 C.2.1 dX0_putOf_7 (by decide) (fun c_2 => ?_) (fun c_2 => ?_)
      · replace c_2 : (t.1 5 7).toInt ≤ w2_2.toInt := i_le c_2
        refine lv_sipush (v := 9999) C.1 C.2.1 dX0_putOf_33 (by decide) ?_
        exact g_iret C hr hlocks hP hD hS rfl () rfl ⟨by decide, by decide⟩ (Nat.le_of_ble_eq_true rfl) (Nat.le_of_ble_eq_true rfl) dX0_putOf_36
      · replace c_2 : w2_2.toInt < (t.1 5 7).toInt := i_nle c_2
        refine lv_aload_n C.1 C.2.1 dX0_putOf_10 rfl (lv_at hl 0 rfl) ?_
        refine k_get (v := .ref (ad 26)) C hP 5 rfl rfl inlX0 5 (by decide) m_5_14 rfl dX0_putOf_11 ?_
        refine lv_iload_n C.1 C.2.1 dX0_putOf_14 rfl (lv_at hl 2 rfl) ?_
        obtain ⟨v_3, e_4⟩ : ∃ z, z = (t.2.2.1 26 (w2_2 : Int32).toNatClampNeg) := ⟨_, rfl⟩
        refine k_ild (v := v_3) C hP 26 rfl (vp_in_iff.mpr ⟨by omega, by omega⟩) e_4.symm dX0_putOf_15 ?_
        refine lv_iload_n C.1 C.2.1 dX0_putOf_16 rfl (lv_at hl 1 rfl) ?_
        refine lv_icmp_ne (tgt := 27) C.1 C.2.1 dX0_putOf_17 (by decide) (fun c_5 => ?_) (fun c_5 => ?_)
        · replace c_5 : ¬ v_3.toInt = x1.toInt := i_ne c_5
          obtain ⟨v_6, e_7⟩ : ∃ z, z = w2_2 + 1 := ⟨_, rfl⟩
          have h_8 : v_6.toInt = w2_2.toInt + 1 := by rw [e_7]; exact ti_iadd (by show (_ : Int) ≤ w2_2.toInt + 1; omega) (by show w2_2.toInt + 1 < (_ : Int); omega)
          refine lv_iinc (v := v_6) (lv' := [(2, .int v_6), (0, .ref (ad 5)), (1, .int x1)]) C.1 C.2.1 dX0_putOf_27 hl (k := 2) rfl e_7.symm (by decide) rfl (fun ls hl => ?_)
          have hl : lv_has ls 3 [(0, .ref (ad 5)), (1, .int x1), (2, .int v_6)] := lv_sub hl [1, 2, 0] rfl
          refine lv_goto (tgt := 2) C.1 C.2.1 dX0_putOf_30 (by decide) ?_
          exact ih_2 v_6 _ _ _ ⟨by omega, by omega⟩ (show (1024 : Int) - v_6.toInt < (fuel_2 : Int) from by omega) hP hD hS (lv_sub hl [0, 1, 2] rfl)
        · replace c_5 : v_3.toInt = x1.toInt := i_eq c_5
          refine lv_aload_n C.1 C.2.1 dX0_putOf_20 rfl (lv_at hl 0 rfl) ?_
          refine k_get (v := .ref (ad 27)) C hP 5 rfl rfl inlX0 6 (by decide) m_5_15 rfl dX0_putOf_21 ?_
          refine lv_iload_n C.1 C.2.1 dX0_putOf_24 rfl (lv_at hl 2 rfl) ?_
          obtain ⟨v_9, e_10⟩ : ∃ z, z = (t.2.2.1 27 (w2_2 : Int32).toNatClampNeg) := ⟨_, rfl⟩
          have h_11 : (-1073741824 : Int) ≤ v_9.toInt ∧ v_9.toInt ≤ 1073741824 := by rw [e_10]; exact hok.2.1 27 _
          refine k_ild (v := v_9) C hP 27 rfl (vp_in_iff.mpr ⟨by omega, by omega⟩) e_10.symm dX0_putOf_25 ?_
          exact g_iret C hr hlocks hP hD hS rfl () rfl ⟨by omega, by omega⟩ (Nat.le_of_ble_eq_true rfl) (Nat.le_of_ble_eq_true rfl) dX0_putOf_26
  refine lv_iconst (v := 0) C.1 C.2.1 dX0_putOf_0 (by decide) ?_
  refine lv_istore_n (lv' := [(2, .int 0), (0, .ref (ad 5)), (1, .int x1)]) C.1 C.2.1 dX0_putOf_1 rfl hl (by decide) rfl (fun ls hl => ?_)
  have hl : lv_has ls 3 [(0, .ref (ad 5)), (1, .int x1), (2, .int 0)] := lv_sub hl [1, 2, 0] rfl
  exact L_2 1025 0 _ _ _ ⟨by decide, by decide⟩ (show (1024 : Int) - 0 < ((1025 : Nat) : Int) from by omega) hP hD hS (lv_sub hl [0, 1, 2] rfl)

theorem dX8_nextInOrder_0 : decode cX8_nextInOrder 0 = .ok (.iconst (-1), 1) := by decide +kernel
theorem dX8_nextInOrder_1 : decode cX8_nextInOrder 1 = .ok (.istore_n 3, 1) := by decide +kernel
theorem dX8_nextInOrder_11 : decode cX8_nextInOrder 11 = .ok (.if_icmp .ge 68, 3) := by decide +kernel
theorem dX8_nextInOrder_14 : decode cX8_nextInOrder 14 = .ok (.aload_n 0, 1) := by decide +kernel
theorem dX8_nextInOrder_15 : decode cX8_nextInOrder 15 = .ok (.getfield 19, 3) := by decide +kernel
theorem dX8_nextInOrder_18 : decode cX8_nextInOrder 18 = .ok (.iload 4, 2) := by decide +kernel
theorem dX8_nextInOrder_2 : decode cX8_nextInOrder 2 = .ok (.iconst 0, 1) := by decide +kernel
theorem dX8_nextInOrder_20 : decode cX8_nextInOrder 20 = .ok (.iaload, 1) := by decide +kernel
theorem dX8_nextInOrder_21 : decode cX8_nextInOrder 21 = .ok (.iconst 2, 1) := by decide +kernel
theorem dX8_nextInOrder_22 : decode cX8_nextInOrder 22 = .ok (.if_icmp .ne 19, 3) := by decide +kernel
theorem dX8_nextInOrder_25 : decode cX8_nextInOrder 25 = .ok (.aload_n 0, 1) := by decide +kernel
theorem dX8_nextInOrder_26 : decode cX8_nextInOrder 26 = .ok (.getfield 11, 3) := by decide +kernel
theorem dX8_nextInOrder_29 : decode cX8_nextInOrder 29 = .ok (.iload 4, 2) := by decide +kernel
theorem dX8_nextInOrder_3 : decode cX8_nextInOrder 3 = .ok (.istore 4, 2) := by decide +kernel
theorem dX8_nextInOrder_31 : decode cX8_nextInOrder 31 = .ok (.laload, 1) := by decide +kernel
theorem dX8_nextInOrder_32 : decode cX8_nextInOrder 32 = .ok (.lload_n 1, 1) := by decide +kernel
theorem dX8_nextInOrder_33 : decode cX8_nextInOrder 33 = .ok (.lcmp, 1) := by decide +kernel
theorem dX8_nextInOrder_34 : decode cX8_nextInOrder 34 = .ok (.ifCond .le 7, 3) := by decide +kernel
theorem dX8_nextInOrder_37 : decode cX8_nextInOrder 37 = .ok (.iconst 1, 1) := by decide +kernel
theorem dX8_nextInOrder_38 : decode cX8_nextInOrder 38 = .ok (.goto 4, 3) := by decide +kernel
theorem dX8_nextInOrder_41 : decode cX8_nextInOrder 41 = .ok (.iconst 0, 1) := by decide +kernel
theorem dX8_nextInOrder_42 : decode cX8_nextInOrder 42 = .ok (.istore 5, 2) := by decide +kernel
theorem dX8_nextInOrder_44 : decode cX8_nextInOrder 44 = .ok (.iload 5, 2) := by decide +kernel
theorem dX8_nextInOrder_46 : decode cX8_nextInOrder 46 = .ok (.ifCond .eq 27, 3) := by decide +kernel
theorem dX8_nextInOrder_49 : decode cX8_nextInOrder 49 = .ok (.iload_n 3, 1) := by decide +kernel
theorem dX8_nextInOrder_5 : decode cX8_nextInOrder 5 = .ok (.iload 4, 2) := by decide +kernel
theorem dX8_nextInOrder_50 : decode cX8_nextInOrder 50 = .ok (.ifCond .lt 20, 3) := by decide +kernel
theorem dX8_nextInOrder_53 : decode cX8_nextInOrder 53 = .ok (.aload_n 0, 1) := by decide +kernel
theorem dX8_nextInOrder_54 : decode cX8_nextInOrder 54 = .ok (.getfield 11, 3) := by decide +kernel
theorem dX8_nextInOrder_57 : decode cX8_nextInOrder 57 = .ok (.iload 4, 2) := by decide +kernel
theorem dX8_nextInOrder_59 : decode cX8_nextInOrder 59 = .ok (.laload, 1) := by decide +kernel
theorem dX8_nextInOrder_60 : decode cX8_nextInOrder 60 = .ok (.aload_n 0, 1) := by decide +kernel
theorem dX8_nextInOrder_61 : decode cX8_nextInOrder 61 = .ok (.getfield 11, 3) := by decide +kernel
theorem dX8_nextInOrder_64 : decode cX8_nextInOrder 64 = .ok (.iload_n 3, 1) := by decide +kernel
theorem dX8_nextInOrder_65 : decode cX8_nextInOrder 65 = .ok (.laload, 1) := by decide +kernel
theorem dX8_nextInOrder_66 : decode cX8_nextInOrder 66 = .ok (.lcmp, 1) := by decide +kernel
theorem dX8_nextInOrder_67 : decode cX8_nextInOrder 67 = .ok (.ifCond .ge 6, 3) := by decide +kernel
theorem dX8_nextInOrder_7 : decode cX8_nextInOrder 7 = .ok (.aload_n 0, 1) := by decide +kernel
theorem dX8_nextInOrder_70 : decode cX8_nextInOrder 70 = .ok (.iload 4, 2) := by decide +kernel
theorem dX8_nextInOrder_72 : decode cX8_nextInOrder 72 = .ok (.istore_n 3, 1) := by decide +kernel
theorem dX8_nextInOrder_73 : decode cX8_nextInOrder 73 = .ok (.iinc 4 1, 3) := by decide +kernel
theorem dX8_nextInOrder_76 : decode cX8_nextInOrder 76 = .ok (.goto (-71), 3) := by decide +kernel
theorem dX8_nextInOrder_79 : decode cX8_nextInOrder 79 = .ok (.iload_n 3, 1) := by decide +kernel
theorem dX8_nextInOrder_8 : decode cX8_nextInOrder 8 = .ok (.getfield 44, 3) := by decide +kernel
theorem dX8_nextInOrder_80 : decode cX8_nextInOrder 80 = .ok (.ireturn, 1) := by decide +kernel
set_option maxHeartbeats 4000000 in
set_option maxRecDepth 100000 in
theorem T_X8_nextInOrder (l : Launch) (D : va_G) (K : Nat → ClassId) (Z Y : Nat → Nat) (ad : Nat → Nat) (d : dSt) (t : tSt) (hok : okX t) (x1 : Int64) : tMet l yX8_nextInOrder cX8_nextInOrder 6 (some .int) (rmD 0 0 0) D K Z Y [.ref (ad 23), .long x1] ((WX d) K ad t) (QI D K (fun (r : Int32) (u : Unit) => (-1 : Int) ≤ r.toInt ∧ r.toInt ≤ 1023) (fun (_ : Unit) => (WX d) K ad t)) 0 0 := by
  refine t_met RX8 ⟨rfl, by decide +kernel⟩ (Nat.le_of_ble_eq_true rfl) ?_
  intro p e s m below meth c A ls C hE hZ hr hlocks hA hP hD hS hl
  have hl : lv_has ls 6 [(0, .ref (ad 23)), (1, .long x1)] := hl
  have L_5 : ∀ (fuel_5 : Nat) (w5_3 : Int32) (w5_4 : Int32) (H : Heap) (locs : List Loc) (ls : Array Slot), (-1 : Int) ≤ w5_3.toInt ∧ w5_3.toInt ≤ 1023 → (0 : Int) ≤ w5_4.toInt ∧ w5_4.toInt ≤ 1024 → (1024 : Int) - w5_4.toInt < (fuel_5 : Int) → va_P D vwCl ((WX d) K ad t) H → va_D A ((WX d) K ad t) → va_S A s.heap H locs → lv_has ls 6 [(0, .ref (ad 23)), (1, .long x1), (3, .int w5_3), (4, .int w5_4)] → W p l e (rmD 0 0 0) s m [.ref (ad 23), .long x1].toArray below meth c H locs 0 0 (MQ below (QI D K (fun (r : Int32) (u : Unit) => (-1 : Int) ≤ r.toInt ∧ r.toInt ≤ 1023) (fun (_ : Unit) => (WX d) K ad t) A) [.ref (ad 23), .long x1].toArray s 0 0 A) (F0 m 5 ls []) := by
    intro fuel_5
    induction fuel_5 with
    | zero =>
      intro w5_3 w5_4 H locs ls hw5_3 hw5_4 hm5_5 hP hD hS hl
      exact absurd hm5_5 (by omega)
    | succ fuel_5 ih_5 =>
      intro w5_3 w5_4 H locs ls hw5_3 hw5_4 hm5_5 hP hD hS hl
      have hm5_5 : (1024 : Int) - w5_4.toInt < (fuel_5 : Int) + 1 := by omega
      have L_73 : ∀ (w73_3 : Int32) (w73_4 : Int32) (w73_5 : Int32) (H : Heap) (locs : List Loc) (ls : Array Slot), (-1 : Int) ≤ w73_3.toInt ∧ w73_3.toInt ≤ 1023 → (0 : Int) ≤ w73_4.toInt ∧ w73_4.toInt ≤ 1023 → (0 : Int) ≤ w73_5.toInt ∧ w73_5.toInt ≤ 1 → (1 : Int) ≤ (t.1 23 3).toInt ∧ (t.1 23 3).toInt ≤ 1024 → (1024 : Int) - w73_4.toInt < (fuel_5 : Int) + 1 → va_P D vwCl ((WX d) K ad t) H → va_D A ((WX d) K ad t) → va_S A s.heap H locs → lv_has ls 6 [(0, .ref (ad 23)), (1, .long x1), (3, .int w73_3), (4, .int w73_4), (5, .int w73_5)] → W p l e (rmD 0 0 0) s m [.ref (ad 23), .long x1].toArray below meth c H locs 0 0 (MQ below (QI D K (fun (r : Int32) (u : Unit) => (-1 : Int) ≤ r.toInt ∧ r.toInt ≤ 1023) (fun (_ : Unit) => (WX d) K ad t) A) [.ref (ad 23), .long x1].toArray s 0 0 A) (F0 m 73 ls []) := by
        intro w73_3 w73_4 w73_5 H locs ls hw73_3 hw73_4 hw73_5 hf73_3 hm73_5 hP hD hS hl
        obtain ⟨v_1, e_2⟩ : ∃ z, z = w73_4 + 1 := ⟨_, rfl⟩
        have h_3 : v_1.toInt = w73_4.toInt + 1 := by rw [e_2]; exact ti_iadd (by show (_ : Int) ≤ w73_4.toInt + 1; omega) (by show w73_4.toInt + 1 < (_ : Int); omega)
        refine lv_iinc (v := v_1) (lv' := [(4, .int v_1), (0, .ref (ad 23)), (1, .long x1), (3, .int w73_3), (5, .int w73_5)]) C.1 C.2.1 dX8_nextInOrder_73 hl (k := 3) rfl e_2.symm (by decide) rfl (fun ls hl => ?_)
        have hl : lv_has ls 6 [(0, .ref (ad 23)), (1, .long x1), (3, .int w73_3), (4, .int v_1), (5, .int w73_5)] := lv_sub hl [1, 2, 3, 0, 4] rfl
        refine lv_goto (tgt := 5) C.1 C.2.1 dX8_nextInOrder_76 (by decide) ?_
        exact ih_5 w73_3 v_1 _ _ _ ⟨by omega, by omega⟩ ⟨by omega, by omega⟩ (show (1024 : Int) - v_1.toInt < (fuel_5 : Int) from by omega) hP hD hS (lv_sub hl [0, 1, 2, 3] rfl)
      have L_70 : ∀ (w70_3 : Int32) (w70_4 : Int32) (w70_5 : Int32) (H : Heap) (locs : List Loc) (ls : Array Slot), (-1 : Int) ≤ w70_3.toInt ∧ w70_3.toInt ≤ 1023 → (0 : Int) ≤ w70_4.toInt ∧ w70_4.toInt ≤ 1023 → (1 : Int) ≤ w70_5.toInt ∧ w70_5.toInt ≤ 1 → (1 : Int) ≤ (t.1 23 3).toInt ∧ (t.1 23 3).toInt ≤ 1024 → (1024 : Int) - w70_4.toInt < (fuel_5 : Int) + 1 → va_P D vwCl ((WX d) K ad t) H → va_D A ((WX d) K ad t) → va_S A s.heap H locs → lv_has ls 6 [(0, .ref (ad 23)), (1, .long x1), (3, .int w70_3), (4, .int w70_4), (5, .int w70_5)] → W p l e (rmD 0 0 0) s m [.ref (ad 23), .long x1].toArray below meth c H locs 0 0 (MQ below (QI D K (fun (r : Int32) (u : Unit) => (-1 : Int) ≤ r.toInt ∧ r.toInt ≤ 1023) (fun (_ : Unit) => (WX d) K ad t) A) [.ref (ad 23), .long x1].toArray s 0 0 A) (F0 m 70 ls []) := by
        intro w70_3 w70_4 w70_5 H locs ls hw70_3 hw70_4 hw70_5 hf70_3 hm70_5 hP hD hS hl
        refine lv_iload C.1 C.2.1 dX8_nextInOrder_70 (lv_at hl 3 rfl) ?_
        refine lv_istore_n (lv' := [(3, .int w70_4), (0, .ref (ad 23)), (1, .long x1), (4, .int w70_4), (5, .int w70_5)]) C.1 C.2.1 dX8_nextInOrder_72 rfl hl (by decide) rfl (fun ls hl => ?_)
        have hl : lv_has ls 6 [(0, .ref (ad 23)), (1, .long x1), (3, .int w70_4), (4, .int w70_4), (5, .int w70_5)] := lv_sub hl [1, 2, 0, 3, 4] rfl
        exact L_73 w70_4 w70_4 w70_5 _ _ _ ⟨by omega, by omega⟩ ⟨by omega, by omega⟩ ⟨by omega, by omega⟩ (show (1 : Int) ≤ ((t.1 23 3) : Int32).toInt ∧ ((t.1 23 3) : Int32).toInt ≤ 1024 from ⟨by omega, by omega⟩) (show (1024 : Int) - w70_4.toInt < (fuel_5 : Int) + 1 from by omega) hP hD hS (lv_sub hl [0, 1, 2, 3, 4] rfl)
      have L_42 : ∀ (w42_3 : Int32) (w42_4 : Int32) (k42_0 : Int32) (H : Heap) (locs : List Loc) (ls : Array Slot), (-1 : Int) ≤ w42_3.toInt ∧ w42_3.toInt ≤ 1023 → (0 : Int) ≤ w42_4.toInt ∧ w42_4.toInt ≤ 1023 → (0 : Int) ≤ k42_0.toInt ∧ k42_0.toInt ≤ 1 → (1 : Int) ≤ (t.1 23 3).toInt ∧ (t.1 23 3).toInt ≤ 1024 → (1024 : Int) - w42_4.toInt < (fuel_5 : Int) + 1 → va_P D vwCl ((WX d) K ad t) H → va_D A ((WX d) K ad t) → va_S A s.heap H locs → lv_has ls 6 [(0, .ref (ad 23)), (1, .long x1), (3, .int w42_3), (4, .int w42_4)] → W p l e (rmD 0 0 0) s m [.ref (ad 23), .long x1].toArray below meth c H locs 0 0 (MQ below (QI D K (fun (r : Int32) (u : Unit) => (-1 : Int) ≤ r.toInt ∧ r.toInt ≤ 1023) (fun (_ : Unit) => (WX d) K ad t) A) [.ref (ad 23), .long x1].toArray s 0 0 A) (F0 m 42 ls [.int k42_0]) := by
        intro w42_3 w42_4 k42_0 H locs ls hw42_3 hw42_4 hk42_0 hf42_3 hm42_5 hP hD hS hl
        refine lv_istore (lv' := [(5, .int k42_0), (0, .ref (ad 23)), (1, .long x1), (3, .int w42_3), (4, .int w42_4)]) C.1 C.2.1 dX8_nextInOrder_42 hl (by decide) rfl (fun ls hl => ?_)
        have hl : lv_has ls 6 [(0, .ref (ad 23)), (1, .long x1), (3, .int w42_3), (4, .int w42_4), (5, .int k42_0)] := lv_sub hl [1, 2, 3, 4, 0] rfl
        refine lv_iload C.1 C.2.1 dX8_nextInOrder_44 (lv_at hl 4 rfl) ?_
        refine lv_if_eq (tgt := 73) C.1 C.2.1 dX8_nextInOrder_46 (by decide) (fun c_4 => ?_) (fun c_4 => ?_)
        · replace c_4 : k42_0.toInt = 0 := i_eq c_4
          exact L_73 w42_3 w42_4 k42_0 _ _ _ ⟨by omega, by omega⟩ ⟨by omega, by omega⟩ ⟨by omega, by omega⟩ (show (1 : Int) ≤ ((t.1 23 3) : Int32).toInt ∧ ((t.1 23 3) : Int32).toInt ≤ 1024 from ⟨by omega, by omega⟩) (show (1024 : Int) - w42_4.toInt < (fuel_5 : Int) + 1 from by omega) hP hD hS (lv_sub hl [0, 1, 2, 3, 4] rfl)
        · replace c_4 : ¬ k42_0.toInt = 0 := i_ne c_4
          refine lv_iload_n C.1 C.2.1 dX8_nextInOrder_49 rfl (lv_at hl 2 rfl) ?_
          refine lv_if_lt (tgt := 70) C.1 C.2.1 dX8_nextInOrder_50 (by decide) (fun c_5 => ?_) (fun c_5 => ?_)
          · replace c_5 : w42_3.toInt < 0 := i_lt c_5
            exact L_70 w42_3 w42_4 k42_0 _ _ _ ⟨by omega, by omega⟩ ⟨by omega, by omega⟩ ⟨by omega, by omega⟩ (show (1 : Int) ≤ ((t.1 23 3) : Int32).toInt ∧ ((t.1 23 3) : Int32).toInt ≤ 1024 from ⟨by omega, by omega⟩) (show (1024 : Int) - w42_4.toInt < (fuel_5 : Int) + 1 from by omega) hP hD hS (lv_sub hl [0, 1, 2, 3, 4] rfl)
          · replace c_5 : 0 ≤ w42_3.toInt := i_nlt c_5
            refine lv_aload_n C.1 C.2.1 dX8_nextInOrder_53 rfl (lv_at hl 0 rfl) ?_
            refine k_get (v := .ref (ad 41)) C hP 23 rfl rfl inlX8 0 (by decide) m_4_23 rfl dX8_nextInOrder_54 ?_
            refine lv_iload C.1 C.2.1 dX8_nextInOrder_57 (lv_at hl 3 rfl) ?_
            refine k_lld (v := (t.2.2.2 41 (w42_4 : Int32).toNatClampNeg)) C hP 41 rfl (vp_in_iff.mpr ⟨by omega, by omega⟩) rfl dX8_nextInOrder_59 ?_
            refine lv_aload_n C.1 C.2.1 dX8_nextInOrder_60 rfl (lv_at hl 0 rfl) ?_
            refine k_get (v := .ref (ad 41)) C hP 23 rfl rfl inlX8 0 (by decide) m_4_23 rfl dX8_nextInOrder_61 ?_
            refine lv_iload_n C.1 C.2.1 dX8_nextInOrder_64 rfl (lv_at hl 2 rfl) ?_
            refine k_lld (v := (t.2.2.2 41 (w42_3 : Int32).toNatClampNeg)) C hP 41 rfl (vp_in_iff.mpr ⟨by omega, by omega⟩) rfl dX8_nextInOrder_65 ?_
            obtain ⟨v_6, e_7⟩ : ∃ z, z = lg_cmp ((t.2.2.2 41 (w42_4 : Int32).toNatClampNeg) : Int64) (t.2.2.2 41 (w42_3 : Int32).toNatClampNeg) := ⟨_, rfl⟩
            have h_8 : (-1 : Int) ≤ v_6.toInt ∧ v_6.toInt ≤ 1 := by rw [e_7]; exact cmp_rng _ _
            refine k_lcmp (v := v_6) C e_7.symm dX8_nextInOrder_66 ?_
            refine lv_if_ge (tgt := 73) C.1 C.2.1 dX8_nextInOrder_67 (by decide) (fun c_9 => ?_) (fun c_9 => ?_)
            · replace c_9 : 0 ≤ v_6.toInt := i_le c_9
              exact L_73 w42_3 w42_4 k42_0 _ _ _ ⟨by omega, by omega⟩ ⟨by omega, by omega⟩ ⟨by omega, by omega⟩ (show (1 : Int) ≤ ((t.1 23 3) : Int32).toInt ∧ ((t.1 23 3) : Int32).toInt ≤ 1024 from ⟨by omega, by omega⟩) (show (1024 : Int) - w42_4.toInt < (fuel_5 : Int) + 1 from by omega) hP hD hS (lv_sub hl [0, 1, 2, 3, 4] rfl)
            · replace c_9 : v_6.toInt < 0 := i_nle c_9
              exact L_70 w42_3 w42_4 k42_0 _ _ _ ⟨by omega, by omega⟩ ⟨by omega, by omega⟩ ⟨by omega, by omega⟩ (show (1 : Int) ≤ ((t.1 23 3) : Int32).toInt ∧ ((t.1 23 3) : Int32).toInt ≤ 1024 from ⟨by omega, by omega⟩) (show (1024 : Int) - w42_4.toInt < (fuel_5 : Int) + 1 from by omega) hP hD hS (lv_sub hl [0, 1, 2, 3, 4] rfl)
      have L_41 : ∀ (w41_3 : Int32) (w41_4 : Int32) (H : Heap) (locs : List Loc) (ls : Array Slot), (-1 : Int) ≤ w41_3.toInt ∧ w41_3.toInt ≤ 1023 → (0 : Int) ≤ w41_4.toInt ∧ w41_4.toInt ≤ 1023 → (1 : Int) ≤ (t.1 23 3).toInt ∧ (t.1 23 3).toInt ≤ 1024 → (1024 : Int) - w41_4.toInt < (fuel_5 : Int) + 1 → va_P D vwCl ((WX d) K ad t) H → va_D A ((WX d) K ad t) → va_S A s.heap H locs → lv_has ls 6 [(0, .ref (ad 23)), (1, .long x1), (3, .int w41_3), (4, .int w41_4)] → W p l e (rmD 0 0 0) s m [.ref (ad 23), .long x1].toArray below meth c H locs 0 0 (MQ below (QI D K (fun (r : Int32) (u : Unit) => (-1 : Int) ≤ r.toInt ∧ r.toInt ≤ 1023) (fun (_ : Unit) => (WX d) K ad t) A) [.ref (ad 23), .long x1].toArray s 0 0 A) (F0 m 41 ls []) := by
        intro w41_3 w41_4 H locs ls hw41_3 hw41_4 hf41_3 hm41_5 hP hD hS hl
        refine lv_iconst (v := 0) C.1 C.2.1 dX8_nextInOrder_41 (by decide) ?_
        exact L_42 w41_3 w41_4 0 _ _ _ ⟨by omega, by omega⟩ ⟨by omega, by omega⟩ ⟨by decide, by decide⟩ (show (1 : Int) ≤ ((t.1 23 3) : Int32).toInt ∧ ((t.1 23 3) : Int32).toInt ≤ 1024 from ⟨by omega, by omega⟩) (show (1024 : Int) - w41_4.toInt < (fuel_5 : Int) + 1 from by omega) hP hD hS (lv_sub hl [0, 1, 2, 3] rfl)
      refine lv_iload C.1 C.2.1 dX8_nextInOrder_5 (lv_at hl 3 rfl) ?_
      refine lv_aload_n C.1 C.2.1 dX8_nextInOrder_7 rfl (lv_at hl 0 rfl) ?_
      have h_10 : (0 : Int) ≤ (t.1 23 3).toInt ∧ (t.1 23 3).toInt ≤ 1024 := hok.1 23 3
      refine k_get (v := .int (t.1 23 3)) C hP 23 rfl rfl inlX8 3 (by decide) m_13_8 rfl dX8_nextInOrder_8 ?_
      refine lv_icmp_ge (tgt := 79) C.1 C.2.1 dX8_nextInOrder_11 (by decide) (fun c_11 => ?_) (fun c_11 => ?_)
      · replace c_11 : (t.1 23 3).toInt ≤ w5_4.toInt := i_le c_11
        refine lv_iload_n C.1 C.2.1 dX8_nextInOrder_79 rfl (lv_at hl 2 rfl) ?_
        exact g_iret C hr hlocks hP hD hS rfl () rfl ⟨by omega, by omega⟩ (Nat.le_of_ble_eq_true rfl) (Nat.le_of_ble_eq_true rfl) dX8_nextInOrder_80
      · replace c_11 : w5_4.toInt < (t.1 23 3).toInt := i_nle c_11
        refine lv_aload_n C.1 C.2.1 dX8_nextInOrder_14 rfl (lv_at hl 0 rfl) ?_
        refine k_get (v := .ref (ad 43)) C hP 23 rfl rfl inlX8 2 (by decide) m_5_1 rfl dX8_nextInOrder_15 ?_
        refine lv_iload C.1 C.2.1 dX8_nextInOrder_18 (lv_at hl 3 rfl) ?_
        obtain ⟨v_12, e_13⟩ : ∃ z, z = (t.2.2.1 43 (w5_4 : Int32).toNatClampNeg) := ⟨_, rfl⟩
        have h_14 : (0 : Int) ≤ v_12.toInt ∧ v_12.toInt ≤ 2 := by rw [e_13]; exact hok.2.1 43 _
        refine k_ild (v := v_12) C hP 43 rfl (vp_in_iff.mpr ⟨by omega, by omega⟩) e_13.symm dX8_nextInOrder_20 ?_
        refine lv_iconst (v := 2) C.1 C.2.1 dX8_nextInOrder_21 (by decide) ?_
        refine lv_icmp_ne (tgt := 41) C.1 C.2.1 dX8_nextInOrder_22 (by decide) (fun c_15 => ?_) (fun c_15 => ?_)
        · replace c_15 : ¬ v_12.toInt = 2 := i_ne c_15
          exact L_41 w5_3 w5_4 _ _ _ ⟨by omega, by omega⟩ ⟨by omega, by omega⟩ (show (1 : Int) ≤ ((t.1 23 3) : Int32).toInt ∧ ((t.1 23 3) : Int32).toInt ≤ 1024 from ⟨by omega, by omega⟩) (show (1024 : Int) - w5_4.toInt < (fuel_5 : Int) + 1 from by omega) hP hD hS (lv_sub hl [0, 1, 2, 3] rfl)
        · replace c_15 : v_12.toInt = 2 := i_eq c_15
          refine lv_aload_n C.1 C.2.1 dX8_nextInOrder_25 rfl (lv_at hl 0 rfl) ?_
          refine k_get (v := .ref (ad 41)) C hP 23 rfl rfl inlX8 0 (by decide) m_4_23 rfl dX8_nextInOrder_26 ?_
          refine lv_iload C.1 C.2.1 dX8_nextInOrder_29 (lv_at hl 3 rfl) ?_
          refine k_lld (v := (t.2.2.2 41 (w5_4 : Int32).toNatClampNeg)) C hP 41 rfl (vp_in_iff.mpr ⟨by omega, by omega⟩) rfl dX8_nextInOrder_31 ?_
          refine lv_lload_n C.1 C.2.1 dX8_nextInOrder_32 rfl (lv_at hl 1 rfl) ?_
          obtain ⟨v_16, e_17⟩ : ∃ z, z = lg_cmp ((t.2.2.2 41 (w5_4 : Int32).toNatClampNeg) : Int64) x1 := ⟨_, rfl⟩
          have h_18 : (-1 : Int) ≤ v_16.toInt ∧ v_16.toInt ≤ 1 := by rw [e_17]; exact cmp_rng _ _
          refine k_lcmp (v := v_16) C e_17.symm dX8_nextInOrder_33 ?_
          refine lv_if_le (tgt := 41) C.1 C.2.1 dX8_nextInOrder_34 (by decide) (fun c_19 => ?_) (fun c_19 => ?_)
          · replace c_19 : v_16.toInt ≤ 0 := i_le c_19
            exact L_41 w5_3 w5_4 _ _ _ ⟨by omega, by omega⟩ ⟨by omega, by omega⟩ (show (1 : Int) ≤ ((t.1 23 3) : Int32).toInt ∧ ((t.1 23 3) : Int32).toInt ≤ 1024 from ⟨by omega, by omega⟩) (show (1024 : Int) - w5_4.toInt < (fuel_5 : Int) + 1 from by omega) hP hD hS (lv_sub hl [0, 1, 2, 3] rfl)
          · replace c_19 : 0 < v_16.toInt := i_nle c_19
            refine lv_iconst (v := 1) C.1 C.2.1 dX8_nextInOrder_37 (by decide) ?_
            refine lv_goto (tgt := 42) C.1 C.2.1 dX8_nextInOrder_38 (by decide) ?_
            exact L_42 w5_3 w5_4 1 _ _ _ ⟨by omega, by omega⟩ ⟨by omega, by omega⟩ ⟨by decide, by decide⟩ (show (1 : Int) ≤ ((t.1 23 3) : Int32).toInt ∧ ((t.1 23 3) : Int32).toInt ≤ 1024 from ⟨by omega, by omega⟩) (show (1024 : Int) - w5_4.toInt < (fuel_5 : Int) + 1 from by omega) hP hD hS (lv_sub hl [0, 1, 2, 3] rfl)
  refine lv_iconst (v := (-1)) C.1 C.2.1 dX8_nextInOrder_0 (by decide) ?_
  refine lv_istore_n (lv' := [(3, .int (-1)), (0, .ref (ad 23)), (1, .long x1)]) C.1 C.2.1 dX8_nextInOrder_1 rfl hl (by decide) rfl (fun ls hl => ?_)
  have hl : lv_has ls 6 [(0, .ref (ad 23)), (1, .long x1), (3, .int (-1))] := lv_sub hl [1, 2, 0] rfl
  refine lv_iconst (v := 0) C.1 C.2.1 dX8_nextInOrder_2 (by decide) ?_
  refine lv_istore (lv' := [(4, .int 0), (0, .ref (ad 23)), (1, .long x1), (3, .int (-1))]) C.1 C.2.1 dX8_nextInOrder_3 hl (by decide) rfl (fun ls hl => ?_)
  have hl : lv_has ls 6 [(0, .ref (ad 23)), (1, .long x1), (3, .int (-1)), (4, .int 0)] := lv_sub hl [1, 2, 3, 0] rfl
  exact L_5 1025 (-1) 0 _ _ _ ⟨by decide, by decide⟩ ⟨by decide, by decide⟩ (show (1024 : Int) - 0 < ((1025 : Nat) : Int) from by omega) hP hD hS (lv_sub hl [0, 1, 2, 3] rfl)

theorem dX1_byteOf_0 : decode cX1_byteOf 0 = .ok (.iload_n 0, 1) := by decide +kernel
theorem dX1_byteOf_1 : decode cX1_byteOf 1 = .ok (.bipush 6, 2) := by decide +kernel
theorem dX1_byteOf_10 : decode cX1_byteOf 10 = .ok (.iand, 1) := by decide +kernel
theorem dX1_byteOf_11 : decode cX1_byteOf 11 = .ok (.ireturn, 1) := by decide +kernel
theorem dX1_byteOf_3 : decode cX1_byteOf 3 = .ok (.iconst 5, 1) := by decide +kernel
theorem dX1_byteOf_4 : decode cX1_byteOf 4 = .ok (.iload_n 1, 1) := by decide +kernel
theorem dX1_byteOf_5 : decode cX1_byteOf 5 = .ok (.isub, 1) := by decide +kernel
theorem dX1_byteOf_6 : decode cX1_byteOf 6 = .ok (.imul, 1) := by decide +kernel
theorem dX1_byteOf_7 : decode cX1_byteOf 7 = .ok (.ishr, 1) := by decide +kernel
theorem dX1_byteOf_8 : decode cX1_byteOf 8 = .ok (.bipush 63, 2) := by decide +kernel
set_option maxHeartbeats 4000000 in
set_option maxRecDepth 100000 in
theorem T_X1_byteOf (l : Launch) (D : va_G) (K : Nat → ClassId) (Z Y : Nat → Nat) (ad : Nat → Nat) (d : dSt) (t : tSt) (hok : okX t) (x0 : Int32) (x1 : Int32) (hx1 : (1 : Int) ≤ x1.toInt ∧ x1.toInt ≤ 5) : tMet l yX1_byteOf cX1_byteOf 2 (some .int) (rmD 0 0 0) D K Z Y [.int x0, .int x1] ((WX d) K ad t) (QI D K (fun (r : Int32) (u : Unit) => (0 : Int) ≤ r.toInt ∧ r.toInt ≤ 63) (fun (_ : Unit) => (WX d) K ad t)) 0 0 := by
  refine t_met RX1 ⟨rfl, by decide +kernel⟩ (Nat.le_of_ble_eq_true rfl) ?_
  intro p e s m below meth c A ls C hE hZ hr hlocks hA hP hD hS hl
  have hl : lv_has ls 2 [(0, .int x0), (1, .int x1)] := hl
  refine lv_iload_n C.1 C.2.1 dX1_byteOf_0 rfl (lv_at hl 0 rfl) ?_
  refine lv_bipush (v := 6) C.1 C.2.1 dX1_byteOf_1 (by decide) ?_
  refine lv_iconst (v := 5) C.1 C.2.1 dX1_byteOf_3 (by decide) ?_
  refine lv_iload_n C.1 C.2.1 dX1_byteOf_4 rfl (lv_at hl 1 rfl) ?_
  obtain ⟨v_1, e_2⟩ : ∃ z, z = (5 : Int32) - (x1 : Int32) := ⟨_, rfl⟩
  have h_3 : v_1.toInt = 5 - x1.toInt := by rw [e_2]; exact ti_isub (by show (_ : Int) ≤ 5 - x1.toInt; omega) (by show 5 - x1.toInt < (_ : Int); omega)
  refine k_isub (v := v_1) C e_2.symm dX1_byteOf_5 ?_
  obtain ⟨v_4, e_5⟩ : ∃ z, z = (6 : Int32) * (v_1 : Int32) := ⟨_, rfl⟩
  have h_6 : v_4.toInt = 6 * v_1.toInt := by rw [e_5]; exact ti_mull (k := 6) (by decide) (by omega) (by omega)
  refine k_imul (v := v_4) C e_5.symm dX1_byteOf_6 ?_
  obtain ⟨v_7, e_8⟩ : ∃ z, z = (x0 : Int32) >>> ((v_4 : Int32) &&& 31) := ⟨_, rfl⟩
  refine k_ishr (v := v_7) C e_8.symm dX1_byteOf_7 ?_
  refine lv_bipush (v := 63) C.1 C.2.1 dX1_byteOf_8 (by decide) ?_
  obtain ⟨v_10, e_11⟩ : ∃ z, z = (v_7 : Int32) &&& (63 : Int32) := ⟨_, rfl⟩
  have h_12 : v_10.toInt = v_7.toInt % 2 ^ 6 := by rw [e_11]; exact Jvm.Kit.i32_mask _ _ (k := 6) (by decide) (by decide)
  refine k_iand (v := v_10) C e_11.symm dX1_byteOf_10 ?_
  exact g_iret C hr hlocks hP hD hS rfl () rfl ⟨by omega, by omega⟩ (Nat.le_of_ble_eq_true rfl) (Nat.le_of_ble_eq_true rfl) dX1_byteOf_11

theorem dX5_token_0 : decode cX5_token 0 = .ok (.iconst 0, 1) := by decide +kernel
theorem dX5_token_1 : decode cX5_token 1 = .ok (.istore_n 1, 1) := by decide +kernel
theorem dX5_token_101 : decode cX5_token 101 = .ok (.baload, 1) := by decide +kernel
theorem dX5_token_102 : decode cX5_token 102 = .ok (.bipush 57, 2) := by decide +kernel
theorem dX5_token_104 : decode cX5_token 104 = .ok (.if_icmp .le 6, 3) := by decide +kernel
theorem dX5_token_107 : decode cX5_token 107 = .ok (.goto 121, 3) := by decide +kernel
theorem dX5_token_11 : decode cX5_token 11 = .ok (.aload_n 0, 1) := by decide +kernel
theorem dX5_token_110 : decode cX5_token 110 = .ok (.aload_n 0, 1) := by decide +kernel
theorem dX5_token_111 : decode cX5_token 111 = .ok (.getfield 9, 3) := by decide +kernel
theorem dX5_token_114 : decode cX5_token 114 = .ok (.aload_n 0, 1) := by decide +kernel
theorem dX5_token_115 : decode cX5_token 115 = .ok (.getfield 19, 3) := by decide +kernel
theorem dX5_token_118 : decode cX5_token 118 = .ok (.baload, 1) := by decide +kernel
theorem dX5_token_119 : decode cX5_token 119 = .ok (.istore_n 3, 1) := by decide +kernel
theorem dX5_token_12 : decode cX5_token 12 = .ok (.lconst 0, 1) := by decide +kernel
theorem dX5_token_120 : decode cX5_token 120 = .ok (.iinc 1 1, 3) := by decide +kernel
theorem dX5_token_123 : decode cX5_token 123 = .ok (.iload_n 2, 1) := by decide +kernel
theorem dX5_token_124 : decode cX5_token 124 = .ok (.iload 4, 2) := by decide +kernel
theorem dX5_token_126 : decode cX5_token 126 = .ok (.ifCond .eq 7, 3) := by decide +kernel
theorem dX5_token_129 : decode cX5_token 129 = .ok (.iconst 1, 1) := by decide +kernel
theorem dX5_token_13 : decode cX5_token 13 = .ok (.putfield 47, 3) := by decide +kernel
theorem dX5_token_130 : decode cX5_token 130 = .ok (.goto 4, 3) := by decide +kernel
theorem dX5_token_133 : decode cX5_token 133 = .ok (.iconst 0, 1) := by decide +kernel
theorem dX5_token_134 : decode cX5_token 134 = .ok (.iadd, 1) := by decide +kernel
theorem dX5_token_135 : decode cX5_token 135 = .ok (.istore_n 2, 1) := by decide +kernel
theorem dX5_token_136 : decode cX5_token 136 = .ok (.iload_n 1, 1) := by decide +kernel
theorem dX5_token_137 : decode cX5_token 137 = .ok (.bipush 10, 2) := by decide +kernel
theorem dX5_token_139 : decode cX5_token 139 = .ok (.if_icmp .gt 56, 3) := by decide +kernel
theorem dX5_token_142 : decode cX5_token 142 = .ok (.aload_n 0, 1) := by decide +kernel
theorem dX5_token_143 : decode cX5_token 143 = .ok (.aload_n 0, 1) := by decide +kernel
theorem dX5_token_144 : decode cX5_token 144 = .ok (.getfield 43, 3) := by decide +kernel
theorem dX5_token_147 : decode cX5_token 147 = .ok (.bipush 6, 2) := by decide +kernel
theorem dX5_token_149 : decode cX5_token 149 = .ok (.lshl, 1) := by decide +kernel
theorem dX5_token_150 : decode cX5_token 150 = .ok (.iload 4, 2) := by decide +kernel
theorem dX5_token_152 : decode cX5_token 152 = .ok (.ifCond .eq 13, 3) := by decide +kernel
theorem dX5_token_155 : decode cX5_token 155 = .ok (.iload_n 3, 1) := by decide +kernel
theorem dX5_token_156 : decode cX5_token 156 = .ok (.bipush 65, 2) := by decide +kernel
theorem dX5_token_158 : decode cX5_token 158 = .ok (.isub, 1) := by decide +kernel
theorem dX5_token_159 : decode cX5_token 159 = .ok (.bipush 11, 2) := by decide +kernel
theorem dX5_token_16 : decode cX5_token 16 = .ok (.aload_n 0, 1) := by decide +kernel
theorem dX5_token_161 : decode cX5_token 161 = .ok (.iadd, 1) := by decide +kernel
theorem dX5_token_162 : decode cX5_token 162 = .ok (.goto 9, 3) := by decide +kernel
theorem dX5_token_165 : decode cX5_token 165 = .ok (.iload_n 3, 1) := by decide +kernel
theorem dX5_token_166 : decode cX5_token 166 = .ok (.bipush 48, 2) := by decide +kernel
theorem dX5_token_168 : decode cX5_token 168 = .ok (.isub, 1) := by decide +kernel
theorem dX5_token_169 : decode cX5_token 169 = .ok (.iconst 1, 1) := by decide +kernel
theorem dX5_token_17 : decode cX5_token 17 = .ok (.getfield 19, 3) := by decide +kernel
theorem dX5_token_170 : decode cX5_token 170 = .ok (.iadd, 1) := by decide +kernel
theorem dX5_token_171 : decode cX5_token 171 = .ok (.i2l, 1) := by decide +kernel
theorem dX5_token_172 : decode cX5_token 172 = .ok (.lor, 1) := by decide +kernel
theorem dX5_token_173 : decode cX5_token 173 = .ok (.putfield 43, 3) := by decide +kernel
theorem dX5_token_176 : decode cX5_token 176 = .ok (.aload_n 0, 1) := by decide +kernel
theorem dX5_token_177 : decode cX5_token 177 = .ok (.ldc2_w 50, 3) := by decide +kernel
theorem dX5_token_180 : decode cX5_token 180 = .ok (.aload_n 0, 1) := by decide +kernel
theorem dX5_token_181 : decode cX5_token 181 = .ok (.getfield 47, 3) := by decide +kernel
theorem dX5_token_184 : decode cX5_token 184 = .ok (.lmul, 1) := by decide +kernel
theorem dX5_token_185 : decode cX5_token 185 = .ok (.iload_n 3, 1) := by decide +kernel
theorem dX5_token_186 : decode cX5_token 186 = .ok (.i2l, 1) := by decide +kernel
theorem dX5_token_187 : decode cX5_token 187 = .ok (.ladd, 1) := by decide +kernel
theorem dX5_token_188 : decode cX5_token 188 = .ok (.ldc2_w 52, 3) := by decide +kernel
theorem dX5_token_191 : decode cX5_token 191 = .ok (.lsub, 1) := by decide +kernel
theorem dX5_token_192 : decode cX5_token 192 = .ok (.putfield 47, 3) := by decide +kernel
theorem dX5_token_195 : decode cX5_token 195 = .ok (.aload_n 0, 1) := by decide +kernel
theorem dX5_token_196 : decode cX5_token 196 = .ok (.iload_n 1, 1) := by decide +kernel
theorem dX5_token_197 : decode cX5_token 197 = .ok (.iconst 1, 1) := by decide +kernel
theorem dX5_token_198 : decode cX5_token 198 = .ok (.if_icmp .ne 10, 3) := by decide +kernel
theorem dX5_token_2 : decode cX5_token 2 = .ok (.iconst 0, 1) := by decide +kernel
theorem dX5_token_20 : decode cX5_token 20 = .ok (.aload_n 0, 1) := by decide +kernel
theorem dX5_token_201 : decode cX5_token 201 = .ok (.iload_n 3, 1) := by decide +kernel
theorem dX5_token_202 : decode cX5_token 202 = .ok (.bipush 48, 2) := by decide +kernel
theorem dX5_token_204 : decode cX5_token 204 = .ok (.isub, 1) := by decide +kernel
theorem dX5_token_205 : decode cX5_token 205 = .ok (.goto 7, 3) := by decide +kernel
theorem dX5_token_208 : decode cX5_token 208 = .ok (.aload_n 0, 1) := by decide +kernel
theorem dX5_token_209 : decode cX5_token 209 = .ok (.getfield 54, 3) := by decide +kernel
theorem dX5_token_21 : decode cX5_token 21 = .ok (.getfield 23, 3) := by decide +kernel
theorem dX5_token_212 : decode cX5_token 212 = .ok (.putfield 54, 3) := by decide +kernel
theorem dX5_token_215 : decode cX5_token 215 = .ok (.aload_n 0, 1) := by decide +kernel
theorem dX5_token_216 : decode cX5_token 216 = .ok (.dup, 1) := by decide +kernel
theorem dX5_token_217 : decode cX5_token 217 = .ok (.getfield 19, 3) := by decide +kernel
theorem dX5_token_220 : decode cX5_token 220 = .ok (.iconst 1, 1) := by decide +kernel
theorem dX5_token_221 : decode cX5_token 221 = .ok (.iadd, 1) := by decide +kernel
theorem dX5_token_222 : decode cX5_token 222 = .ok (.putfield 19, 3) := by decide +kernel
theorem dX5_token_225 : decode cX5_token 225 = .ok (.goto (-209), 3) := by decide +kernel
theorem dX5_token_228 : decode cX5_token 228 = .ok (.iload_n 1, 1) := by decide +kernel
theorem dX5_token_229 : decode cX5_token 229 = .ok (.ifCond .eq 9, 3) := by decide +kernel
theorem dX5_token_232 : decode cX5_token 232 = .ok (.iload_n 1, 1) := by decide +kernel
theorem dX5_token_233 : decode cX5_token 233 = .ok (.bipush 10, 2) := by decide +kernel
theorem dX5_token_235 : decode cX5_token 235 = .ok (.if_icmp .le 5, 3) := by decide +kernel
theorem dX5_token_238 : decode cX5_token 238 = .ok (.iconst 0, 1) := by decide +kernel
theorem dX5_token_239 : decode cX5_token 239 = .ok (.ireturn, 1) := by decide +kernel
theorem dX5_token_24 : decode cX5_token 24 = .ok (.if_icmp .ge 204, 3) := by decide +kernel
theorem dX5_token_240 : decode cX5_token 240 = .ok (.aload_n 0, 1) := by decide +kernel
theorem dX5_token_241 : decode cX5_token 241 = .ok (.dup, 1) := by decide +kernel
theorem dX5_token_242 : decode cX5_token 242 = .ok (.getfield 43, 3) := by decide +kernel
theorem dX5_token_245 : decode cX5_token 245 = .ok (.bipush 6, 2) := by decide +kernel
theorem dX5_token_247 : decode cX5_token 247 = .ok (.bipush 10, 2) := by decide +kernel
theorem dX5_token_249 : decode cX5_token 249 = .ok (.iload_n 1, 1) := by decide +kernel
theorem dX5_token_250 : decode cX5_token 250 = .ok (.isub, 1) := by decide +kernel
theorem dX5_token_251 : decode cX5_token 251 = .ok (.imul, 1) := by decide +kernel
theorem dX5_token_252 : decode cX5_token 252 = .ok (.lshl, 1) := by decide +kernel
theorem dX5_token_253 : decode cX5_token 253 = .ok (.putfield 43, 3) := by decide +kernel
theorem dX5_token_256 : decode cX5_token 256 = .ok (.iload_n 2, 1) := by decide +kernel
theorem dX5_token_257 : decode cX5_token 257 = .ok (.ifCond .ne 5, 3) := by decide +kernel
theorem dX5_token_260 : decode cX5_token 260 = .ok (.iconst 1, 1) := by decide +kernel
theorem dX5_token_261 : decode cX5_token 261 = .ok (.ireturn, 1) := by decide +kernel
theorem dX5_token_262 : decode cX5_token 262 = .ok (.iload_n 1, 1) := by decide +kernel
theorem dX5_token_263 : decode cX5_token 263 = .ok (.iconst 2, 1) := by decide +kernel
theorem dX5_token_264 : decode cX5_token 264 = .ok (.if_icmp .ne 52, 3) := by decide +kernel
theorem dX5_token_267 : decode cX5_token 267 = .ok (.aload_n 0, 1) := by decide +kernel
theorem dX5_token_268 : decode cX5_token 268 = .ok (.getfield 54, 3) := by decide +kernel
theorem dX5_token_27 : decode cX5_token 27 = .ok (.aload_n 0, 1) := by decide +kernel
theorem dX5_token_271 : decode cX5_token 271 = .ok (.bipush 10, 2) := by decide +kernel
theorem dX5_token_273 : decode cX5_token 273 = .ok (.if_icmp .ge 43, 3) := by decide +kernel
theorem dX5_token_276 : decode cX5_token 276 = .ok (.iload_n 3, 1) := by decide +kernel
theorem dX5_token_277 : decode cX5_token 277 = .ok (.bipush 72, 2) := by decide +kernel
theorem dX5_token_279 : decode cX5_token 279 = .ok (.if_icmp .eq 15, 3) := by decide +kernel
theorem dX5_token_28 : decode cX5_token 28 = .ok (.getfield 19, 3) := by decide +kernel
theorem dX5_token_282 : decode cX5_token 282 = .ok (.iload_n 3, 1) := by decide +kernel
theorem dX5_token_283 : decode cX5_token 283 = .ok (.bipush 66, 2) := by decide +kernel
theorem dX5_token_285 : decode cX5_token 285 = .ok (.if_icmp .eq 9, 3) := by decide +kernel
theorem dX5_token_288 : decode cX5_token 288 = .ok (.iload_n 3, 1) := by decide +kernel
theorem dX5_token_289 : decode cX5_token 289 = .ok (.bipush 70, 2) := by decide +kernel
theorem dX5_token_291 : decode cX5_token 291 = .ok (.if_icmp .ne 25, 3) := by decide +kernel
theorem dX5_token_294 : decode cX5_token 294 = .ok (.iload_n 3, 1) := by decide +kernel
theorem dX5_token_295 : decode cX5_token 295 = .ok (.bipush 72, 2) := by decide +kernel
theorem dX5_token_297 : decode cX5_token 297 = .ok (.if_icmp .ne 7, 3) := by decide +kernel
theorem dX5_token_3 : decode cX5_token 3 = .ok (.istore_n 2, 1) := by decide +kernel
theorem dX5_token_300 : decode cX5_token 300 = .ok (.iconst 3, 1) := by decide +kernel
theorem dX5_token_301 : decode cX5_token 301 = .ok (.goto 14, 3) := by decide +kernel
theorem dX5_token_304 : decode cX5_token 304 = .ok (.iload_n 3, 1) := by decide +kernel
theorem dX5_token_305 : decode cX5_token 305 = .ok (.bipush 66, 2) := by decide +kernel
theorem dX5_token_307 : decode cX5_token 307 = .ok (.if_icmp .ne 7, 3) := by decide +kernel
theorem dX5_token_31 : decode cX5_token 31 = .ok (.aload_n 0, 1) := by decide +kernel
theorem dX5_token_310 : decode cX5_token 310 = .ok (.iconst 4, 1) := by decide +kernel
theorem dX5_token_311 : decode cX5_token 311 = .ok (.goto 4, 3) := by decide +kernel
theorem dX5_token_314 : decode cX5_token 314 = .ok (.iconst 5, 1) := by decide +kernel
theorem dX5_token_315 : decode cX5_token 315 = .ok (.ireturn, 1) := by decide +kernel
theorem dX5_token_316 : decode cX5_token 316 = .ok (.iconst 2, 1) := by decide +kernel
theorem dX5_token_317 : decode cX5_token 317 = .ok (.ireturn, 1) := by decide +kernel
theorem dX5_token_32 : decode cX5_token 32 = .ok (.getfield 9, 3) := by decide +kernel
theorem dX5_token_35 : decode cX5_token 35 = .ok (.arraylength, 1) := by decide +kernel
theorem dX5_token_36 : decode cX5_token 36 = .ok (.if_icmp .ge 192, 3) := by decide +kernel
theorem dX5_token_39 : decode cX5_token 39 = .ok (.aload_n 0, 1) := by decide +kernel
theorem dX5_token_4 : decode cX5_token 4 = .ok (.iconst 0, 1) := by decide +kernel
theorem dX5_token_40 : decode cX5_token 40 = .ok (.getfield 9, 3) := by decide +kernel
theorem dX5_token_43 : decode cX5_token 43 = .ok (.aload_n 0, 1) := by decide +kernel
theorem dX5_token_44 : decode cX5_token 44 = .ok (.getfield 19, 3) := by decide +kernel
theorem dX5_token_47 : decode cX5_token 47 = .ok (.baload, 1) := by decide +kernel
theorem dX5_token_48 : decode cX5_token 48 = .ok (.bipush 65, 2) := by decide +kernel
theorem dX5_token_5 : decode cX5_token 5 = .ok (.istore_n 3, 1) := by decide +kernel
theorem dX5_token_50 : decode cX5_token 50 = .ok (.if_icmp .lt 21, 3) := by decide +kernel
theorem dX5_token_53 : decode cX5_token 53 = .ok (.aload_n 0, 1) := by decide +kernel
theorem dX5_token_54 : decode cX5_token 54 = .ok (.getfield 9, 3) := by decide +kernel
theorem dX5_token_57 : decode cX5_token 57 = .ok (.aload_n 0, 1) := by decide +kernel
theorem dX5_token_58 : decode cX5_token 58 = .ok (.getfield 19, 3) := by decide +kernel
theorem dX5_token_6 : decode cX5_token 6 = .ok (.aload_n 0, 1) := by decide +kernel
theorem dX5_token_61 : decode cX5_token 61 = .ok (.baload, 1) := by decide +kernel
theorem dX5_token_62 : decode cX5_token 62 = .ok (.bipush 90, 2) := by decide +kernel
theorem dX5_token_64 : decode cX5_token 64 = .ok (.if_icmp .gt 7, 3) := by decide +kernel
theorem dX5_token_67 : decode cX5_token 67 = .ok (.iconst 1, 1) := by decide +kernel
theorem dX5_token_68 : decode cX5_token 68 = .ok (.goto 4, 3) := by decide +kernel
theorem dX5_token_7 : decode cX5_token 7 = .ok (.lconst 0, 1) := by decide +kernel
theorem dX5_token_71 : decode cX5_token 71 = .ok (.iconst 0, 1) := by decide +kernel
theorem dX5_token_72 : decode cX5_token 72 = .ok (.istore 4, 2) := by decide +kernel
theorem dX5_token_74 : decode cX5_token 74 = .ok (.iload 4, 2) := by decide +kernel
theorem dX5_token_76 : decode cX5_token 76 = .ok (.ifCond .ne 34, 3) := by decide +kernel
theorem dX5_token_79 : decode cX5_token 79 = .ok (.aload_n 0, 1) := by decide +kernel
theorem dX5_token_8 : decode cX5_token 8 = .ok (.putfield 43, 3) := by decide +kernel
theorem dX5_token_80 : decode cX5_token 80 = .ok (.getfield 9, 3) := by decide +kernel
theorem dX5_token_83 : decode cX5_token 83 = .ok (.aload_n 0, 1) := by decide +kernel
theorem dX5_token_84 : decode cX5_token 84 = .ok (.getfield 19, 3) := by decide +kernel
theorem dX5_token_87 : decode cX5_token 87 = .ok (.baload, 1) := by decide +kernel
theorem dX5_token_88 : decode cX5_token 88 = .ok (.bipush 48, 2) := by decide +kernel
theorem dX5_token_90 : decode cX5_token 90 = .ok (.if_icmp .lt 138, 3) := by decide +kernel
theorem dX5_token_93 : decode cX5_token 93 = .ok (.aload_n 0, 1) := by decide +kernel
theorem dX5_token_94 : decode cX5_token 94 = .ok (.getfield 9, 3) := by decide +kernel
theorem dX5_token_97 : decode cX5_token 97 = .ok (.aload_n 0, 1) := by decide +kernel
theorem dX5_token_98 : decode cX5_token 98 = .ok (.getfield 19, 3) := by decide +kernel
set_option maxHeartbeats 4000000 in
set_option maxRecDepth 100000 in
theorem T_X5_token (l : Launch) (D : va_G) (K : Nat → ClassId) (Z Y : Nat → Nat) (ad : Nat → Nat) (d : dSt) (t : tSt) (hok : okX t)  : tMet l yX5_token cX5_token 5 (some .int) (rmD 0 0 0) D K Z Y [.ref (ad 24)] ((WX d) K ad t) (QI D K (fun (r : Int32) (u : tSt) => okX u ∧ frA [(24, 2), (24, 8)] [(24, 7), (24, 9)] [] [] t u ∧ (0 : Int) ≤ r.toInt ∧ r.toInt ≤ 5) (fun (u : tSt) => (WX d) K ad u)) 0 0 := by
  refine t_met RX5 ⟨rfl, by decide +kernel⟩ (Nat.le_of_ble_eq_true rfl) ?_
  intro p e s m below meth c A ls C hE hZ hr hlocks hA hP hD hS hl
  have hl : lv_has ls 5 [(0, .ref (ad 24))] := hl
  have hokt := hok
  have hfr : frA [(24, 2), (24, 8)] [(24, 7), (24, 9)] [] [] t t := frA_rf
  have h_1 : (0 : Int) ≤ (t.1 24 2).toInt ∧ (t.1 24 2).toInt ≤ 81 := hok.1 24 2
  have L_294 : ∀ (t1 : tSt) (w294_1 : Int32) (w294_2 : Int32) (w294_3 : Int32) (H : Heap) (locs : List Loc) (ls : Array Slot), okX t1 → frA [(24, 2), (24, 8)] [(24, 7), (24, 9)] [] [] t t1 → (2 : Int) ≤ w294_1.toInt ∧ w294_1.toInt ≤ 2 → (66 : Int) ≤ w294_3.toInt ∧ w294_3.toInt ≤ 72 → (-3999 : Int) ≤ (t1.1 24 8).toInt ∧ (t1.1 24 8).toInt ≤ 9 → va_P D vwCl ((WX d) K ad t1) H → va_D A ((WX d) K ad t1) → va_S A s.heap H locs → lv_has ls 5 [(0, .ref (ad 24)), (1, .int w294_1), (2, .int w294_2), (3, .int w294_3)] → W p l e (rmD 0 0 0) s m [.ref (ad 24)].toArray below meth c H locs 0 0 (MQ below (QI D K (fun (r : Int32) (u : tSt) => okX u ∧ frA [(24, 2), (24, 8)] [(24, 7), (24, 9)] [] [] t u ∧ (0 : Int) ≤ r.toInt ∧ r.toInt ≤ 5) (fun (u : tSt) => (WX d) K ad u) A) [.ref (ad 24)].toArray s 0 0 A) (F0 m 294 ls []) := by
    intro t1 w294_1 w294_2 w294_3 H locs ls hok hfr hw294_1 hw294_3 hf294_8 hP hD hS hl
    have h_2 : (0 : Int) ≤ (t1.1 24 2).toInt ∧ (t1.1 24 2).toInt ≤ 81 := hok.1 24 2
    refine lv_iload_n C.1 C.2.1 dX5_token_294 rfl (lv_at hl 3 rfl) ?_
    refine lv_bipush (v := 72) C.1 C.2.1 dX5_token_295 (by decide) ?_
    refine lv_icmp_ne (tgt := 304) C.1 C.2.1 dX5_token_297 (by decide) (fun c_3 => ?_) (fun c_3 => ?_)
    · replace c_3 : ¬ w294_3.toInt = 72 := i_ne c_3
      refine lv_iload_n C.1 C.2.1 dX5_token_304 rfl (lv_at hl 3 rfl) ?_
      refine lv_bipush (v := 66) C.1 C.2.1 dX5_token_305 (by decide) ?_
      refine lv_icmp_ne (tgt := 314) C.1 C.2.1 dX5_token_307 (by decide) (fun c_4 => ?_) (fun c_4 => ?_)
      · replace c_4 : ¬ w294_3.toInt = 66 := i_ne c_4
        refine lv_iconst (v := 5) C.1 C.2.1 dX5_token_314 (by decide) ?_
        exact g_iret C hr hlocks hP hD hS rfl t1 rfl ⟨hok, hfr, by decide, by decide⟩ (Nat.le_of_ble_eq_true rfl) (Nat.le_of_ble_eq_true rfl) dX5_token_315
      · replace c_4 : w294_3.toInt = 66 := i_eq c_4
        refine lv_iconst (v := 4) C.1 C.2.1 dX5_token_310 (by decide) ?_
        refine lv_goto (tgt := 315) C.1 C.2.1 dX5_token_311 (by decide) ?_
        exact g_iret C hr hlocks hP hD hS rfl t1 rfl ⟨hok, hfr, by decide, by decide⟩ (Nat.le_of_ble_eq_true rfl) (Nat.le_of_ble_eq_true rfl) dX5_token_315
    · replace c_3 : w294_3.toInt = 72 := i_eq c_3
      refine lv_iconst (v := 3) C.1 C.2.1 dX5_token_300 (by decide) ?_
      refine lv_goto (tgt := 315) C.1 C.2.1 dX5_token_301 (by decide) ?_
      exact g_iret C hr hlocks hP hD hS rfl t1 rfl ⟨hok, hfr, by decide, by decide⟩ (Nat.le_of_ble_eq_true rfl) (Nat.le_of_ble_eq_true rfl) dX5_token_315
  have L_228 : ∀ (t1 : tSt) (w228_1 : Int32) (w228_2 : Int32) (w228_3 : Int32) (H : Heap) (locs : List Loc) (ls : Array Slot), okX t1 → frA [(24, 2), (24, 8)] [(24, 7), (24, 9)] [] [] t t1 → (-128 : Int) ≤ w228_3.toInt ∧ w228_3.toInt ≤ 127 → va_P D vwCl ((WX d) K ad t1) H → va_D A ((WX d) K ad t1) → va_S A s.heap H locs → lv_has ls 5 [(0, .ref (ad 24)), (1, .int w228_1), (2, .int w228_2), (3, .int w228_3)] → W p l e (rmD 0 0 0) s m [.ref (ad 24)].toArray below meth c H locs 0 0 (MQ below (QI D K (fun (r : Int32) (u : tSt) => okX u ∧ frA [(24, 2), (24, 8)] [(24, 7), (24, 9)] [] [] t u ∧ (0 : Int) ≤ r.toInt ∧ r.toInt ≤ 5) (fun (u : tSt) => (WX d) K ad u) A) [.ref (ad 24)].toArray s 0 0 A) (F0 m 228 ls []) := by
    intro t1 w228_1 w228_2 w228_3 H locs ls hok hfr hw228_3 hP hD hS hl
    have h_5 : (0 : Int) ≤ (t1.1 24 2).toInt ∧ (t1.1 24 2).toInt ≤ 81 := hok.1 24 2
    refine lv_iload_n C.1 C.2.1 dX5_token_228 rfl (lv_at hl 1 rfl) ?_
    refine lv_if_eq (tgt := 238) C.1 C.2.1 dX5_token_229 (by decide) (fun c_6 => ?_) (fun c_6 => ?_)
    · replace c_6 : w228_1.toInt = 0 := i_eq c_6
      refine lv_iconst (v := 0) C.1 C.2.1 dX5_token_238 (by decide) ?_
      exact g_iret C hr hlocks hP hD hS rfl t1 rfl ⟨hok, hfr, by decide, by decide⟩ (Nat.le_of_ble_eq_true rfl) (Nat.le_of_ble_eq_true rfl) dX5_token_239
    · replace c_6 : ¬ w228_1.toInt = 0 := i_ne c_6
      refine lv_iload_n C.1 C.2.1 dX5_token_232 rfl (lv_at hl 1 rfl) ?_
      refine lv_bipush (v := 10) C.1 C.2.1 dX5_token_233 (by decide) ?_
      refine lv_icmp_le (tgt := 240) C.1 C.2.1 dX5_token_235 (by decide) (fun c_7 => ?_) (fun c_7 => ?_)
      · replace c_7 : w228_1.toInt ≤ 10 := i_le c_7
        refine lv_aload_n C.1 C.2.1 dX5_token_240 rfl (lv_at hl 0 rfl) ?_
        refine lv_dup C.1 C.2.1 dX5_token_241 rfl ?_
        refine k_get (v := .long (t1.2.1 24 7)) C hP 24 rfl rfl inlX5 7 (by decide) m_19_15 rfl dX5_token_242 ?_
        refine lv_bipush (v := 6) C.1 C.2.1 dX5_token_245 (by decide) ?_
        refine lv_bipush (v := 10) C.1 C.2.1 dX5_token_247 (by decide) ?_
        refine lv_iload_n C.1 C.2.1 dX5_token_249 rfl (lv_at hl 1 rfl) ?_
        obtain ⟨v_8, e_9⟩ : ∃ z, z = (10 : Int32) - (w228_1 : Int32) := ⟨_, rfl⟩
        refine k_isub (v := v_8) C e_9.symm dX5_token_250 ?_
        obtain ⟨v_11, e_12⟩ : ∃ z, z = (6 : Int32) * (v_8 : Int32) := ⟨_, rfl⟩
        refine k_imul (v := v_11) C e_12.symm dX5_token_251 ?_
        obtain ⟨v_14, e_15⟩ : ∃ z, z = ((t1.2.1 24 7) : Int64) <<< ((v_11 : Int32).toInt64 &&& 63) := ⟨_, rfl⟩
        refine lv_lshl (v := v_14) C.1 C.2.1 dX5_token_252 e_15.symm ?_
        refine k_put (ws' := (WX d) K ad (uJ t1 24 7 v_14)) (v := .long v_14) C hP hD hS 24 rfl rfl inlX5 tyX5_ok nmX5 7 (by decide) m_19_15 rfl rfl rfl rfl rfl dX5_token_253 (fun H locs hP hD hS => ?_)
        have hok : okX (uJ t1 24 7 v_14) := ⟨hok.1, hok.2.1, trivial⟩
        have hfr : frA [(24, 2), (24, 8)] [(24, 7), (24, 9)] [] [] t (uJ t1 24 7 v_14) := frA_J hfr 24 7 _ rfl
        refine lv_iload_n C.1 C.2.1 dX5_token_256 rfl (lv_at hl 2 rfl) ?_
        refine lv_if_ne (tgt := 262) C.1 C.2.1 dX5_token_257 (by decide) (fun c_16 => ?_) (fun c_16 => ?_)
        · replace c_16 : ¬ w228_2.toInt = 0 := i_ne c_16
          refine lv_iload_n C.1 C.2.1 dX5_token_262 rfl (lv_at hl 1 rfl) ?_
          refine lv_iconst (v := 2) C.1 C.2.1 dX5_token_263 (by decide) ?_
          refine lv_icmp_ne (tgt := 316) C.1 C.2.1 dX5_token_264 (by decide) (fun c_17 => ?_) (fun c_17 => ?_)
          · replace c_17 : ¬ w228_1.toInt = 2 := i_ne c_17
            refine lv_iconst (v := 2) C.1 C.2.1 dX5_token_316 (by decide) ?_
            exact g_iret C hr hlocks hP hD hS rfl (uJ t1 24 7 v_14) rfl ⟨hok, hfr, by decide, by decide⟩ (Nat.le_of_ble_eq_true rfl) (Nat.le_of_ble_eq_true rfl) dX5_token_317
          · replace c_17 : w228_1.toInt = 2 := i_eq c_17
            refine lv_aload_n C.1 C.2.1 dX5_token_267 rfl (lv_at hl 0 rfl) ?_
            have h_18 : (-3999 : Int) ≤ (t1.1 24 8).toInt ∧ (t1.1 24 8).toInt ≤ 79 := hok.1 24 8
            refine k_get (v := .int (t1.1 24 8)) C hP 24 rfl rfl inlX5 8 (by decide) m_19_19 rfl dX5_token_268 ?_
            refine lv_bipush (v := 10) C.1 C.2.1 dX5_token_271 (by decide) ?_
            refine lv_icmp_ge (tgt := 316) C.1 C.2.1 dX5_token_273 (by decide) (fun c_19 => ?_) (fun c_19 => ?_)
            · replace c_19 : 10 ≤ (t1.1 24 8).toInt := i_le c_19
              refine lv_iconst (v := 2) C.1 C.2.1 dX5_token_316 (by decide) ?_
              exact g_iret C hr hlocks hP hD hS rfl (uJ t1 24 7 v_14) rfl ⟨hok, hfr, by decide, by decide⟩ (Nat.le_of_ble_eq_true rfl) (Nat.le_of_ble_eq_true rfl) dX5_token_317
            · replace c_19 : (t1.1 24 8).toInt < 10 := i_nle c_19
              refine lv_iload_n C.1 C.2.1 dX5_token_276 rfl (lv_at hl 3 rfl) ?_
              refine lv_bipush (v := 72) C.1 C.2.1 dX5_token_277 (by decide) ?_
              refine lv_icmp_eq (tgt := 294) C.1 C.2.1 dX5_token_279 (by decide) (fun c_20 => ?_) (fun c_20 => ?_)
              · replace c_20 : w228_3.toInt = 72 := i_eq c_20
                exact L_294 (uJ t1 24 7 v_14) w228_1 w228_2 w228_3 _ _ _ hok hfr ⟨by omega, by omega⟩ ⟨by omega, by omega⟩ (show (-3999 : Int) ≤ ((t1.1 24 8) : Int32).toInt ∧ ((t1.1 24 8) : Int32).toInt ≤ 9 from ⟨by omega, by omega⟩) hP hD hS (lv_sub hl [0, 1, 2, 3] rfl)
              · replace c_20 : ¬ w228_3.toInt = 72 := i_ne c_20
                refine lv_iload_n C.1 C.2.1 dX5_token_282 rfl (lv_at hl 3 rfl) ?_
                refine lv_bipush (v := 66) C.1 C.2.1 dX5_token_283 (by decide) ?_
                refine lv_icmp_eq (tgt := 294) C.1 C.2.1 dX5_token_285 (by decide) (fun c_21 => ?_) (fun c_21 => ?_)
                · replace c_21 : w228_3.toInt = 66 := i_eq c_21
                  exact L_294 (uJ t1 24 7 v_14) w228_1 w228_2 w228_3 _ _ _ hok hfr ⟨by omega, by omega⟩ ⟨by omega, by omega⟩ (show (-3999 : Int) ≤ ((t1.1 24 8) : Int32).toInt ∧ ((t1.1 24 8) : Int32).toInt ≤ 9 from ⟨by omega, by omega⟩) hP hD hS (lv_sub hl [0, 1, 2, 3] rfl)
                · replace c_21 : ¬ w228_3.toInt = 66 := i_ne c_21
                  refine lv_iload_n C.1 C.2.1 dX5_token_288 rfl (lv_at hl 3 rfl) ?_
                  refine lv_bipush (v := 70) C.1 C.2.1 dX5_token_289 (by decide) ?_
                  refine lv_icmp_ne (tgt := 316) C.1 C.2.1 dX5_token_291 (by decide) (fun c_22 => ?_) (fun c_22 => ?_)
                  · replace c_22 : ¬ w228_3.toInt = 70 := i_ne c_22
                    refine lv_iconst (v := 2) C.1 C.2.1 dX5_token_316 (by decide) ?_
                    exact g_iret C hr hlocks hP hD hS rfl (uJ t1 24 7 v_14) rfl ⟨hok, hfr, by decide, by decide⟩ (Nat.le_of_ble_eq_true rfl) (Nat.le_of_ble_eq_true rfl) dX5_token_317
                  · replace c_22 : w228_3.toInt = 70 := i_eq c_22
                    exact L_294 (uJ t1 24 7 v_14) w228_1 w228_2 w228_3 _ _ _ hok hfr ⟨by omega, by omega⟩ ⟨by omega, by omega⟩ (show (-3999 : Int) ≤ ((t1.1 24 8) : Int32).toInt ∧ ((t1.1 24 8) : Int32).toInt ≤ 9 from ⟨by omega, by omega⟩) hP hD hS (lv_sub hl [0, 1, 2, 3] rfl)
        · replace c_16 : w228_2.toInt = 0 := i_eq c_16
          refine lv_iconst (v := 1) C.1 C.2.1 dX5_token_260 (by decide) ?_
          exact g_iret C hr hlocks hP hD hS rfl (uJ t1 24 7 v_14) rfl ⟨hok, hfr, by decide, by decide⟩ (Nat.le_of_ble_eq_true rfl) (Nat.le_of_ble_eq_true rfl) dX5_token_261
      · replace c_7 : 10 < w228_1.toInt := i_nle c_7
        refine lv_iconst (v := 0) C.1 C.2.1 dX5_token_238 (by decide) ?_
        exact g_iret C hr hlocks hP hD hS rfl t1 rfl ⟨hok, hfr, by decide, by decide⟩ (Nat.le_of_ble_eq_true rfl) (Nat.le_of_ble_eq_true rfl) dX5_token_239
  have L_16 : ∀ (fuel_16 : Nat) (t1 : tSt) (w16_1 : Int32) (w16_2 : Int32) (w16_3 : Int32) (H : Heap) (locs : List Loc) (ls : Array Slot), okX t1 → frA [(24, 2), (24, 8)] [(24, 7), (24, 9)] [] [] t t1 → (-128 : Int) ≤ w16_3.toInt ∧ w16_3.toInt ≤ 127 → ((t1.1 24 2).toInt ≤ 81) → (82 - (t1.1 24 2).toInt) < (fuel_16 : Int) → va_P D vwCl ((WX d) K ad t1) H → va_D A ((WX d) K ad t1) → va_S A s.heap H locs → lv_has ls 5 [(0, .ref (ad 24)), (1, .int w16_1), (2, .int w16_2), (3, .int w16_3)] → W p l e (rmD 0 0 0) s m [.ref (ad 24)].toArray below meth c H locs 0 0 (MQ below (QI D K (fun (r : Int32) (u : tSt) => okX u ∧ frA [(24, 2), (24, 8)] [(24, 7), (24, 9)] [] [] t u ∧ (0 : Int) ≤ r.toInt ∧ r.toInt ≤ 5) (fun (u : tSt) => (WX d) K ad u) A) [.ref (ad 24)].toArray s 0 0 A) (F0 m 16 ls []) := by
    intro fuel_16
    induction fuel_16 with
    | zero =>
      intro t1 w16_1 w16_2 w16_3 H locs ls hok hfr hw16_3 hi16_0 hm16_16 hP hD hS hl
      have h_23 : (0 : Int) ≤ (t1.1 24 2).toInt ∧ (t1.1 24 2).toInt ≤ 81 := hok.1 24 2
      exact absurd hm16_16 (by omega)
    | succ fuel_16 ih_16 =>
      intro t1 w16_1 w16_2 w16_3 H locs ls hok hfr hw16_3 hi16_0 hm16_16 hP hD hS hl
      have hm16_16 : (82 - (t1.1 24 2).toInt) < (fuel_16 : Int) + 1 := by omega
      have h_24 : (0 : Int) ≤ (t1.1 24 2).toInt ∧ (t1.1 24 2).toInt ≤ 81 := hok.1 24 2
      have L_212 : ∀ (t1 : tSt) (w212_1 : Int32) (w212_2 : Int32) (w212_3 : Int32) (w212_4 : Int32) (k212_1 : Int32) (H : Heap) (locs : List Loc) (ls : Array Slot), okX t1 → frA [(24, 2), (24, 8)] [(24, 7), (24, 9)] [] [] t t1 → (-128 : Int) ≤ w212_3.toInt ∧ w212_3.toInt ≤ 127 → (0 : Int) ≤ w212_4.toInt ∧ w212_4.toInt ≤ 1 → (-3999 : Int) ≤ k212_1.toInt ∧ k212_1.toInt ≤ 79 → (0 : Int) ≤ (t1.1 24 2).toInt ∧ (t1.1 24 2).toInt ≤ 79 → (1 : Int) ≤ (t1.1 24 3).toInt ∧ (t1.1 24 3).toInt ≤ 80 → (82 - (t1.1 24 2).toInt) < (fuel_16 : Int) + 1 → va_P D vwCl ((WX d) K ad t1) H → va_D A ((WX d) K ad t1) → va_S A s.heap H locs → lv_has ls 5 [(0, .ref (ad 24)), (1, .int w212_1), (2, .int w212_2), (3, .int w212_3), (4, .int w212_4)] → W p l e (rmD 0 0 0) s m [.ref (ad 24)].toArray below meth c H locs 0 0 (MQ below (QI D K (fun (r : Int32) (u : tSt) => okX u ∧ frA [(24, 2), (24, 8)] [(24, 7), (24, 9)] [] [] t u ∧ (0 : Int) ≤ r.toInt ∧ r.toInt ≤ 5) (fun (u : tSt) => (WX d) K ad u) A) [.ref (ad 24)].toArray s 0 0 A) (F0 m 212 ls [.int k212_1, .ref (ad 24)]) := by
        intro t1 w212_1 w212_2 w212_3 w212_4 k212_1 H locs ls hok hfr hw212_3 hw212_4 hk212_1 hf212_2 hf212_3 hm212_16 hP hD hS hl
        refine k_put (ws' := (WX d) K ad (uI t1 24 8 k212_1)) (v := .int k212_1) C hP hD hS 24 rfl rfl inlX5 tyX5_ok nmX5 8 (by decide) m_19_19 rfl rfl rfl rfl rfl dX5_token_212 (fun H locs hP hD hS => ?_)
        have hok : okX (uI t1 24 8 k212_1) := ⟨okI_I hok.1 24 8 k212_1 (show (-3999 : Int) ≤ (k212_1 : Int32).toInt ∧ (k212_1 : Int32).toInt ≤ 79 from ⟨by omega, by omega⟩), hok.2.1, trivial⟩
        have hfr : frA [(24, 2), (24, 8)] [(24, 7), (24, 9)] [] [] t (uI t1 24 8 k212_1) := frA_I hfr 24 8 _ rfl
        refine lv_aload_n C.1 C.2.1 dX5_token_215 rfl (lv_at hl 0 rfl) ?_
        refine lv_dup C.1 C.2.1 dX5_token_216 rfl ?_
        refine k_get (v := .int (t1.1 24 2)) C hP 24 rfl rfl inlX5 2 (by decide) m_19_9 rfl dX5_token_217 ?_
        refine lv_iconst (v := 1) C.1 C.2.1 dX5_token_220 (by decide) ?_
        obtain ⟨v_25, e_26⟩ : ∃ z, z = ((t1.1 24 2) : Int32) + (1 : Int32) := ⟨_, rfl⟩
        have h_27 : v_25.toInt = (t1.1 24 2).toInt + 1 := by rw [e_26]; exact ti_iadd (by show (_ : Int) ≤ (t1.1 24 2).toInt + 1; omega) (by show (t1.1 24 2).toInt + 1 < (_ : Int); omega)
        refine k_iadd (v := v_25) C e_26.symm dX5_token_221 ?_
        refine k_put (ws' := (WX d) K ad (uI (uI t1 24 8 k212_1) 24 2 v_25)) (v := .int v_25) C hP hD hS 24 rfl rfl inlX5 tyX5_ok nmX5 2 (by decide) m_19_9 rfl rfl rfl rfl rfl dX5_token_222 (fun H locs hP hD hS => ?_)
        have hok : okX (uI (uI t1 24 8 k212_1) 24 2 v_25) := ⟨okI_I hok.1 24 2 v_25 (show (0 : Int) ≤ (v_25 : Int32).toInt ∧ (v_25 : Int32).toInt ≤ 81 from ⟨by omega, by omega⟩), hok.2.1, trivial⟩
        have hfr : frA [(24, 2), (24, 8)] [(24, 7), (24, 9)] [] [] t (uI (uI t1 24 8 k212_1) 24 2 v_25) := frA_I hfr 24 2 _ rfl
        refine lv_goto (tgt := 16) C.1 C.2.1 dX5_token_225 (by decide) ?_
        exact ih_16 (uI (uI t1 24 8 k212_1) 24 2 v_25) w212_1 w212_2 w212_3 _ _ _ hok hfr ⟨by omega, by omega⟩ (show v_25.toInt ≤ 81 from by omega) (show (82 - v_25.toInt) < (fuel_16 : Int) from by omega) hP hD hS (lv_sub hl [0, 1, 2, 3] rfl)
      have L_195 : ∀ (t1 : tSt) (w195_1 : Int32) (w195_2 : Int32) (w195_3 : Int32) (w195_4 : Int32) (H : Heap) (locs : List Loc) (ls : Array Slot), okX t1 → frA [(24, 2), (24, 8)] [(24, 7), (24, 9)] [] [] t t1 → (-128 : Int) ≤ w195_3.toInt ∧ w195_3.toInt ≤ 127 → (0 : Int) ≤ w195_4.toInt ∧ w195_4.toInt ≤ 1 → (0 : Int) ≤ (t1.1 24 2).toInt ∧ (t1.1 24 2).toInt ≤ 79 → (1 : Int) ≤ (t1.1 24 3).toInt ∧ (t1.1 24 3).toInt ≤ 80 → (82 - (t1.1 24 2).toInt) < (fuel_16 : Int) + 1 → va_P D vwCl ((WX d) K ad t1) H → va_D A ((WX d) K ad t1) → va_S A s.heap H locs → lv_has ls 5 [(0, .ref (ad 24)), (1, .int w195_1), (2, .int w195_2), (3, .int w195_3), (4, .int w195_4)] → W p l e (rmD 0 0 0) s m [.ref (ad 24)].toArray below meth c H locs 0 0 (MQ below (QI D K (fun (r : Int32) (u : tSt) => okX u ∧ frA [(24, 2), (24, 8)] [(24, 7), (24, 9)] [] [] t u ∧ (0 : Int) ≤ r.toInt ∧ r.toInt ≤ 5) (fun (u : tSt) => (WX d) K ad u) A) [.ref (ad 24)].toArray s 0 0 A) (F0 m 195 ls []) := by
        intro t1 w195_1 w195_2 w195_3 w195_4 H locs ls hok hfr hw195_3 hw195_4 hf195_2 hf195_3 hm195_16 hP hD hS hl
        refine lv_aload_n C.1 C.2.1 dX5_token_195 rfl (lv_at hl 0 rfl) ?_
        refine lv_iload_n C.1 C.2.1 dX5_token_196 rfl (lv_at hl 1 rfl) ?_
        refine lv_iconst (v := 1) C.1 C.2.1 dX5_token_197 (by decide) ?_
        refine lv_icmp_ne (tgt := 208) C.1 C.2.1 dX5_token_198 (by decide) (fun c_28 => ?_) (fun c_28 => ?_)
        · replace c_28 : ¬ w195_1.toInt = 1 := i_ne c_28
          refine lv_aload_n C.1 C.2.1 dX5_token_208 rfl (lv_at hl 0 rfl) ?_
          have h_29 : (-3999 : Int) ≤ (t1.1 24 8).toInt ∧ (t1.1 24 8).toInt ≤ 79 := hok.1 24 8
          refine k_get (v := .int (t1.1 24 8)) C hP 24 rfl rfl inlX5 8 (by decide) m_19_19 rfl dX5_token_209 ?_
          exact L_212 t1 w195_1 w195_2 w195_3 w195_4 (t1.1 24 8) _ _ _ hok hfr ⟨by omega, by omega⟩ ⟨by omega, by omega⟩ ⟨by omega, by omega⟩ (show (0 : Int) ≤ ((t1.1 24 2) : Int32).toInt ∧ ((t1.1 24 2) : Int32).toInt ≤ 79 from ⟨by omega, by omega⟩) (show (1 : Int) ≤ ((t1.1 24 3) : Int32).toInt ∧ ((t1.1 24 3) : Int32).toInt ≤ 80 from ⟨by omega, by omega⟩) (show (82 - (t1.1 24 2).toInt) < (fuel_16 : Int) + 1 from by omega) hP hD hS (lv_sub hl [0, 1, 2, 3, 4] rfl)
        · replace c_28 : w195_1.toInt = 1 := i_eq c_28
          refine lv_iload_n C.1 C.2.1 dX5_token_201 rfl (lv_at hl 3 rfl) ?_
          refine lv_bipush (v := 48) C.1 C.2.1 dX5_token_202 (by decide) ?_
          obtain ⟨v_30, e_31⟩ : ∃ z, z = (w195_3 : Int32) - (48 : Int32) := ⟨_, rfl⟩
          have h_32 : v_30.toInt = w195_3.toInt - 48 := by rw [e_31]; exact ti_isub (by show (_ : Int) ≤ w195_3.toInt - 48; omega) (by show w195_3.toInt - 48 < (_ : Int); omega)
          refine k_isub (v := v_30) C e_31.symm dX5_token_204 ?_
          refine lv_goto (tgt := 212) C.1 C.2.1 dX5_token_205 (by decide) ?_
          exact L_212 t1 w195_1 w195_2 w195_3 w195_4 v_30 _ _ _ hok hfr ⟨by omega, by omega⟩ ⟨by omega, by omega⟩ ⟨by omega, by omega⟩ (show (0 : Int) ≤ ((t1.1 24 2) : Int32).toInt ∧ ((t1.1 24 2) : Int32).toInt ≤ 79 from ⟨by omega, by omega⟩) (show (1 : Int) ≤ ((t1.1 24 3) : Int32).toInt ∧ ((t1.1 24 3) : Int32).toInt ≤ 80 from ⟨by omega, by omega⟩) (show (82 - (t1.1 24 2).toInt) < (fuel_16 : Int) + 1 from by omega) hP hD hS (lv_sub hl [0, 1, 2, 3, 4] rfl)
      have L_171 : ∀ (t1 : tSt) (w171_1 : Int32) (w171_2 : Int32) (w171_3 : Int32) (w171_4 : Int32) (k171_1 : Int64) (k171_2 : Int32) (H : Heap) (locs : List Loc) (ls : Array Slot), okX t1 → frA [(24, 2), (24, 8)] [(24, 7), (24, 9)] [] [] t t1 → (-2147483648 : Int) ≤ w171_1.toInt ∧ w171_1.toInt ≤ 10 → (-128 : Int) ≤ w171_3.toInt ∧ w171_3.toInt ≤ 127 → (0 : Int) ≤ w171_4.toInt ∧ w171_4.toInt ≤ 1 → (-182 : Int) ≤ k171_2.toInt ∧ k171_2.toInt ≤ 80 → (0 : Int) ≤ (t1.1 24 2).toInt ∧ (t1.1 24 2).toInt ≤ 79 → (1 : Int) ≤ (t1.1 24 3).toInt ∧ (t1.1 24 3).toInt ≤ 80 → (82 - (t1.1 24 2).toInt) < (fuel_16 : Int) + 1 → va_P D vwCl ((WX d) K ad t1) H → va_D A ((WX d) K ad t1) → va_S A s.heap H locs → lv_has ls 5 [(0, .ref (ad 24)), (1, .int w171_1), (2, .int w171_2), (3, .int w171_3), (4, .int w171_4)] → W p l e (rmD 0 0 0) s m [.ref (ad 24)].toArray below meth c H locs 0 0 (MQ below (QI D K (fun (r : Int32) (u : tSt) => okX u ∧ frA [(24, 2), (24, 8)] [(24, 7), (24, 9)] [] [] t u ∧ (0 : Int) ≤ r.toInt ∧ r.toInt ≤ 5) (fun (u : tSt) => (WX d) K ad u) A) [.ref (ad 24)].toArray s 0 0 A) (F0 m 171 ls [.int k171_2, .long k171_1, .ref (ad 24)]) := by
        intro t1 w171_1 w171_2 w171_3 w171_4 k171_1 k171_2 H locs ls hok hfr hw171_1 hw171_3 hw171_4 hk171_2 hf171_2 hf171_3 hm171_16 hP hD hS hl
        obtain ⟨v_33, e_34⟩ : ∃ z, z = (k171_2 : Int32).toInt64 := ⟨_, rfl⟩
        have h_35 : v_33.toInt = k171_2.toInt := by rw [e_34]; exact Jvm.Kit.i64_of_i32 _
        refine lv_i2l (v := v_33) C.1 C.2.1 dX5_token_171 e_34.symm ?_
        obtain ⟨v_36, e_37⟩ : ∃ z, z = (k171_1 : Int64) ||| v_33 := ⟨_, rfl⟩
        refine lw_lor (v := v_36) C.1 C.2.1 dX5_token_172 e_37.symm ?_
        refine k_put (ws' := (WX d) K ad (uJ t1 24 7 v_36)) (v := .long v_36) C hP hD hS 24 rfl rfl inlX5 tyX5_ok nmX5 7 (by decide) m_19_15 rfl rfl rfl rfl rfl dX5_token_173 (fun H locs hP hD hS => ?_)
        have hok : okX (uJ t1 24 7 v_36) := ⟨hok.1, hok.2.1, trivial⟩
        have hfr : frA [(24, 2), (24, 8)] [(24, 7), (24, 9)] [] [] t (uJ t1 24 7 v_36) := frA_J hfr 24 7 _ rfl
        refine lv_aload_n C.1 C.2.1 dX5_token_176 rfl (lv_at hl 0 rfl) ?_
        refine lv_ldc2 (v := 10) C.1 C.2.1 C.2.2.2.1 (C.2.2.2.2.1 _ m_19_17) dX5_token_177 ?_
        refine lv_aload_n C.1 C.2.1 dX5_token_180 rfl (lv_at hl 0 rfl) ?_
        refine k_get (v := .long (t1.2.1 24 9)) C hP 24 rfl rfl inlX5 9 (by decide) m_19_16 rfl dX5_token_181 ?_
        obtain ⟨v_38, e_39⟩ : ∃ z, z = (10 : Int64) * ((t1.2.1 24 9) : Int64) := ⟨_, rfl⟩
        refine k_lmul (v := v_38) C e_39.symm dX5_token_184 ?_
        refine lv_iload_n C.1 C.2.1 dX5_token_185 rfl (lv_at hl 3 rfl) ?_
        obtain ⟨v_40, e_41⟩ : ∃ z, z = (w171_3 : Int32).toInt64 := ⟨_, rfl⟩
        have h_42 : v_40.toInt = w171_3.toInt := by rw [e_41]; exact Jvm.Kit.i64_of_i32 _
        refine lv_i2l (v := v_40) C.1 C.2.1 dX5_token_186 e_41.symm ?_
        obtain ⟨v_43, e_44⟩ : ∃ z, z = (v_38 : Int64) + (v_40 : Int64) := ⟨_, rfl⟩
        refine k_ladd (v := v_43) C e_44.symm dX5_token_187 ?_
        refine lv_ldc2 (v := 48) C.1 C.2.1 C.2.2.2.1 (C.2.2.2.2.1 _ m_19_18) dX5_token_188 ?_
        obtain ⟨v_45, e_46⟩ : ∃ z, z = (v_43 : Int64) - (48 : Int64) := ⟨_, rfl⟩
        refine k_lsub (v := v_45) C e_46.symm dX5_token_191 ?_
        refine k_put (ws' := (WX d) K ad (uJ (uJ t1 24 7 v_36) 24 9 v_45)) (v := .long v_45) C hP hD hS 24 rfl rfl inlX5 tyX5_ok nmX5 9 (by decide) m_19_16 rfl rfl rfl rfl rfl dX5_token_192 (fun H locs hP hD hS => ?_)
        have hok : okX (uJ (uJ t1 24 7 v_36) 24 9 v_45) := ⟨hok.1, hok.2.1, trivial⟩
        have hfr : frA [(24, 2), (24, 8)] [(24, 7), (24, 9)] [] [] t (uJ (uJ t1 24 7 v_36) 24 9 v_45) := frA_J hfr 24 9 _ rfl
        exact L_195 (uJ (uJ t1 24 7 v_36) 24 9 v_45) w171_1 w171_2 w171_3 w171_4 _ _ _ hok hfr ⟨by omega, by omega⟩ ⟨by omega, by omega⟩ (show (0 : Int) ≤ ((t1.1 24 2) : Int32).toInt ∧ ((t1.1 24 2) : Int32).toInt ≤ 79 from ⟨by omega, by omega⟩) (show (1 : Int) ≤ ((t1.1 24 3) : Int32).toInt ∧ ((t1.1 24 3) : Int32).toInt ≤ 80 from ⟨by omega, by omega⟩) (show (82 - (t1.1 24 2).toInt) < (fuel_16 : Int) + 1 from by omega) hP hD hS (lv_sub hl [0, 1, 2, 3, 4] rfl)
      have L_134 : ∀ (t1 : tSt) (w134_1 : Int32) (w134_2 : Int32) (w134_3 : Int32) (w134_4 : Int32) (k134_0 : Int32) (k134_1 : Int32) (H : Heap) (locs : List Loc) (ls : Array Slot), okX t1 → frA [(24, 2), (24, 8)] [(24, 7), (24, 9)] [] [] t t1 → (-128 : Int) ≤ w134_3.toInt ∧ w134_3.toInt ≤ 127 → (0 : Int) ≤ w134_4.toInt ∧ w134_4.toInt ≤ 1 → (0 : Int) ≤ k134_1.toInt ∧ k134_1.toInt ≤ 1 → (0 : Int) ≤ (t1.1 24 2).toInt ∧ (t1.1 24 2).toInt ≤ 79 → (1 : Int) ≤ (t1.1 24 3).toInt ∧ (t1.1 24 3).toInt ≤ 80 → (82 - (t1.1 24 2).toInt) < (fuel_16 : Int) + 1 → va_P D vwCl ((WX d) K ad t1) H → va_D A ((WX d) K ad t1) → va_S A s.heap H locs → lv_has ls 5 [(0, .ref (ad 24)), (1, .int w134_1), (2, .int w134_2), (3, .int w134_3), (4, .int w134_4)] → W p l e (rmD 0 0 0) s m [.ref (ad 24)].toArray below meth c H locs 0 0 (MQ below (QI D K (fun (r : Int32) (u : tSt) => okX u ∧ frA [(24, 2), (24, 8)] [(24, 7), (24, 9)] [] [] t u ∧ (0 : Int) ≤ r.toInt ∧ r.toInt ≤ 5) (fun (u : tSt) => (WX d) K ad u) A) [.ref (ad 24)].toArray s 0 0 A) (F0 m 134 ls [.int k134_1, .int k134_0]) := by
        intro t1 w134_1 w134_2 w134_3 w134_4 k134_0 k134_1 H locs ls hok hfr hw134_3 hw134_4 hk134_1 hf134_2 hf134_3 hm134_16 hP hD hS hl
        obtain ⟨v_47, e_48⟩ : ∃ z, z = (k134_0 : Int32) + (k134_1 : Int32) := ⟨_, rfl⟩
        refine k_iadd (v := v_47) C e_48.symm dX5_token_134 ?_
        refine lv_istore_n (lv' := [(2, .int v_47), (0, .ref (ad 24)), (1, .int w134_1), (3, .int w134_3), (4, .int w134_4)]) C.1 C.2.1 dX5_token_135 rfl hl (by decide) rfl (fun ls hl => ?_)
        have hl : lv_has ls 5 [(0, .ref (ad 24)), (1, .int w134_1), (2, .int v_47), (3, .int w134_3), (4, .int w134_4)] := lv_sub hl [1, 2, 0, 3, 4] rfl
        refine lv_iload_n C.1 C.2.1 dX5_token_136 rfl (lv_at hl 1 rfl) ?_
        refine lv_bipush (v := 10) C.1 C.2.1 dX5_token_137 (by decide) ?_
        refine lv_icmp_gt (tgt := 195) C.1 C.2.1 dX5_token_139 (by decide) (fun c_50 => ?_) (fun c_50 => ?_)
        · replace c_50 : 10 < w134_1.toInt := i_lt c_50
          exact L_195 t1 w134_1 v_47 w134_3 w134_4 _ _ _ hok hfr ⟨by omega, by omega⟩ ⟨by omega, by omega⟩ (show (0 : Int) ≤ ((t1.1 24 2) : Int32).toInt ∧ ((t1.1 24 2) : Int32).toInt ≤ 79 from ⟨by omega, by omega⟩) (show (1 : Int) ≤ ((t1.1 24 3) : Int32).toInt ∧ ((t1.1 24 3) : Int32).toInt ≤ 80 from ⟨by omega, by omega⟩) (show (82 - (t1.1 24 2).toInt) < (fuel_16 : Int) + 1 from by omega) hP hD hS (lv_sub hl [0, 1, 2, 3, 4] rfl)
        · replace c_50 : w134_1.toInt ≤ 10 := i_nlt c_50
          refine lv_aload_n C.1 C.2.1 dX5_token_142 rfl (lv_at hl 0 rfl) ?_
          refine lv_aload_n C.1 C.2.1 dX5_token_143 rfl (lv_at hl 0 rfl) ?_
          refine k_get (v := .long (t1.2.1 24 7)) C hP 24 rfl rfl inlX5 7 (by decide) m_19_15 rfl dX5_token_144 ?_
          refine lv_bipush (v := 6) C.1 C.2.1 dX5_token_147 (by decide) ?_
          obtain ⟨v_51, e_52⟩ : ∃ z, z = ((t1.2.1 24 7) : Int64) <<< ((6 : Int32).toInt64 &&& 63) := ⟨_, rfl⟩
          refine lv_lshl (v := v_51) C.1 C.2.1 dX5_token_149 e_52.symm ?_
          refine lv_iload C.1 C.2.1 dX5_token_150 (lv_at hl 4 rfl) ?_
          refine lv_if_eq (tgt := 165) C.1 C.2.1 dX5_token_152 (by decide) (fun c_53 => ?_) (fun c_53 => ?_)
          · replace c_53 : w134_4.toInt = 0 := i_eq c_53
            refine lv_iload_n C.1 C.2.1 dX5_token_165 rfl (lv_at hl 3 rfl) ?_
            refine lv_bipush (v := 48) C.1 C.2.1 dX5_token_166 (by decide) ?_
            obtain ⟨v_54, e_55⟩ : ∃ z, z = (w134_3 : Int32) - (48 : Int32) := ⟨_, rfl⟩
            have h_56 : v_54.toInt = w134_3.toInt - 48 := by rw [e_55]; exact ti_isub (by show (_ : Int) ≤ w134_3.toInt - 48; omega) (by show w134_3.toInt - 48 < (_ : Int); omega)
            refine k_isub (v := v_54) C e_55.symm dX5_token_168 ?_
            refine lv_iconst (v := 1) C.1 C.2.1 dX5_token_169 (by decide) ?_
            obtain ⟨v_57, e_58⟩ : ∃ z, z = (v_54 : Int32) + (1 : Int32) := ⟨_, rfl⟩
            have h_59 : v_57.toInt = v_54.toInt + 1 := by rw [e_58]; exact ti_iadd (by show (_ : Int) ≤ v_54.toInt + 1; omega) (by show v_54.toInt + 1 < (_ : Int); omega)
            refine k_iadd (v := v_57) C e_58.symm dX5_token_170 ?_
            exact L_171 t1 w134_1 v_47 w134_3 w134_4 v_51 v_57 _ _ _ hok hfr ⟨(i_rng _).1, by omega⟩ ⟨by omega, by omega⟩ ⟨by omega, by omega⟩ ⟨by omega, by omega⟩ (show (0 : Int) ≤ ((t1.1 24 2) : Int32).toInt ∧ ((t1.1 24 2) : Int32).toInt ≤ 79 from ⟨by omega, by omega⟩) (show (1 : Int) ≤ ((t1.1 24 3) : Int32).toInt ∧ ((t1.1 24 3) : Int32).toInt ≤ 80 from ⟨by omega, by omega⟩) (show (82 - (t1.1 24 2).toInt) < (fuel_16 : Int) + 1 from by omega) hP hD hS (lv_sub hl [0, 1, 2, 3, 4] rfl)
          · replace c_53 : ¬ w134_4.toInt = 0 := i_ne c_53
            refine lv_iload_n C.1 C.2.1 dX5_token_155 rfl (lv_at hl 3 rfl) ?_
            refine lv_bipush (v := 65) C.1 C.2.1 dX5_token_156 (by decide) ?_
            obtain ⟨v_60, e_61⟩ : ∃ z, z = (w134_3 : Int32) - (65 : Int32) := ⟨_, rfl⟩
            have h_62 : v_60.toInt = w134_3.toInt - 65 := by rw [e_61]; exact ti_isub (by show (_ : Int) ≤ w134_3.toInt - 65; omega) (by show w134_3.toInt - 65 < (_ : Int); omega)
            refine k_isub (v := v_60) C e_61.symm dX5_token_158 ?_
            refine lv_bipush (v := 11) C.1 C.2.1 dX5_token_159 (by decide) ?_
            obtain ⟨v_63, e_64⟩ : ∃ z, z = (v_60 : Int32) + (11 : Int32) := ⟨_, rfl⟩
            have h_65 : v_63.toInt = v_60.toInt + 11 := by rw [e_64]; exact ti_iadd (by show (_ : Int) ≤ v_60.toInt + 11; omega) (by show v_60.toInt + 11 < (_ : Int); omega)
            refine k_iadd (v := v_63) C e_64.symm dX5_token_161 ?_
            refine lv_goto (tgt := 171) C.1 C.2.1 dX5_token_162 (by decide) ?_
            exact L_171 t1 w134_1 v_47 w134_3 w134_4 v_51 v_63 _ _ _ hok hfr ⟨(i_rng _).1, by omega⟩ ⟨by omega, by omega⟩ ⟨by omega, by omega⟩ ⟨by omega, by omega⟩ (show (0 : Int) ≤ ((t1.1 24 2) : Int32).toInt ∧ ((t1.1 24 2) : Int32).toInt ≤ 79 from ⟨by omega, by omega⟩) (show (1 : Int) ≤ ((t1.1 24 3) : Int32).toInt ∧ ((t1.1 24 3) : Int32).toInt ≤ 80 from ⟨by omega, by omega⟩) (show (82 - (t1.1 24 2).toInt) < (fuel_16 : Int) + 1 from by omega) hP hD hS (lv_sub hl [0, 1, 2, 3, 4] rfl)
      have L_110 : ∀ (t1 : tSt) (w110_1 : Int32) (w110_2 : Int32) (w110_3 : Int32) (w110_4 : Int32) (H : Heap) (locs : List Loc) (ls : Array Slot), okX t1 → frA [(24, 2), (24, 8)] [(24, 7), (24, 9)] [] [] t t1 → (-128 : Int) ≤ w110_3.toInt ∧ w110_3.toInt ≤ 127 → (0 : Int) ≤ w110_4.toInt ∧ w110_4.toInt ≤ 1 → (0 : Int) ≤ (t1.1 24 2).toInt ∧ (t1.1 24 2).toInt ≤ 79 → (1 : Int) ≤ (t1.1 24 3).toInt ∧ (t1.1 24 3).toInt ≤ 80 → (82 - (t1.1 24 2).toInt) < (fuel_16 : Int) + 1 → va_P D vwCl ((WX d) K ad t1) H → va_D A ((WX d) K ad t1) → va_S A s.heap H locs → lv_has ls 5 [(0, .ref (ad 24)), (1, .int w110_1), (2, .int w110_2), (3, .int w110_3), (4, .int w110_4)] → W p l e (rmD 0 0 0) s m [.ref (ad 24)].toArray below meth c H locs 0 0 (MQ below (QI D K (fun (r : Int32) (u : tSt) => okX u ∧ frA [(24, 2), (24, 8)] [(24, 7), (24, 9)] [] [] t u ∧ (0 : Int) ≤ r.toInt ∧ r.toInt ≤ 5) (fun (u : tSt) => (WX d) K ad u) A) [.ref (ad 24)].toArray s 0 0 A) (F0 m 110 ls []) := by
        intro t1 w110_1 w110_2 w110_3 w110_4 H locs ls hok hfr hw110_3 hw110_4 hf110_2 hf110_3 hm110_16 hP hD hS hl
        refine lv_aload_n C.1 C.2.1 dX5_token_110 rfl (lv_at hl 0 rfl) ?_
        refine k_get (v := .ref (ad 9)) C hP 24 rfl rfl inlX5 0 (by decide) m_6_5 rfl dX5_token_111 ?_
        refine lv_aload_n C.1 C.2.1 dX5_token_114 rfl (lv_at hl 0 rfl) ?_
        refine k_get (v := .int (t1.1 24 2)) C hP 24 rfl rfl inlX5 2 (by decide) m_19_9 rfl dX5_token_115 ?_
        obtain ⟨v_66, e_67⟩ : ∃ z, z = (t1.2.2.1 9 ((t1.1 24 2) : Int32).toNatClampNeg) := ⟨_, rfl⟩
        have h_68 : (-128 : Int) ≤ v_66.toInt ∧ v_66.toInt ≤ 127 := by rw [e_67]; exact hok.2.1 9 _
        refine k_bld (v := v_66) C hP 9 rfl (vp_in_iff.mpr ⟨by omega, by omega⟩) e_67.symm dX5_token_118 ?_
        refine lv_istore_n (lv' := [(3, .int v_66), (0, .ref (ad 24)), (1, .int w110_1), (2, .int w110_2), (4, .int w110_4)]) C.1 C.2.1 dX5_token_119 rfl hl (by decide) rfl (fun ls hl => ?_)
        have hl : lv_has ls 5 [(0, .ref (ad 24)), (1, .int w110_1), (2, .int w110_2), (3, .int v_66), (4, .int w110_4)] := lv_sub hl [1, 2, 3, 0, 4] rfl
        obtain ⟨v_69, e_70⟩ : ∃ z, z = w110_1 + 1 := ⟨_, rfl⟩
        refine lv_iinc (v := v_69) (lv' := [(1, .int v_69), (0, .ref (ad 24)), (2, .int w110_2), (3, .int v_66), (4, .int w110_4)]) C.1 C.2.1 dX5_token_120 hl (k := 1) rfl e_70.symm (by decide) rfl (fun ls hl => ?_)
        have hl : lv_has ls 5 [(0, .ref (ad 24)), (1, .int v_69), (2, .int w110_2), (3, .int v_66), (4, .int w110_4)] := lv_sub hl [1, 0, 2, 3, 4] rfl
        refine lv_iload_n C.1 C.2.1 dX5_token_123 rfl (lv_at hl 2 rfl) ?_
        refine lv_iload C.1 C.2.1 dX5_token_124 (lv_at hl 4 rfl) ?_
        refine lv_if_eq (tgt := 133) C.1 C.2.1 dX5_token_126 (by decide) (fun c_71 => ?_) (fun c_71 => ?_)
        · replace c_71 : w110_4.toInt = 0 := i_eq c_71
          refine lv_iconst (v := 0) C.1 C.2.1 dX5_token_133 (by decide) ?_
          exact L_134 t1 v_69 w110_2 v_66 w110_4 w110_2 0 _ _ _ hok hfr ⟨by omega, by omega⟩ ⟨by omega, by omega⟩ ⟨by decide, by decide⟩ (show (0 : Int) ≤ ((t1.1 24 2) : Int32).toInt ∧ ((t1.1 24 2) : Int32).toInt ≤ 79 from ⟨by omega, by omega⟩) (show (1 : Int) ≤ ((t1.1 24 3) : Int32).toInt ∧ ((t1.1 24 3) : Int32).toInt ≤ 80 from ⟨by omega, by omega⟩) (show (82 - (t1.1 24 2).toInt) < (fuel_16 : Int) + 1 from by omega) hP hD hS (lv_sub hl [0, 1, 2, 3, 4] rfl)
        · replace c_71 : ¬ w110_4.toInt = 0 := i_ne c_71
          refine lv_iconst (v := 1) C.1 C.2.1 dX5_token_129 (by decide) ?_
          refine lv_goto (tgt := 134) C.1 C.2.1 dX5_token_130 (by decide) ?_
          exact L_134 t1 v_69 w110_2 v_66 w110_4 w110_2 1 _ _ _ hok hfr ⟨by omega, by omega⟩ ⟨by omega, by omega⟩ ⟨by decide, by decide⟩ (show (0 : Int) ≤ ((t1.1 24 2) : Int32).toInt ∧ ((t1.1 24 2) : Int32).toInt ≤ 79 from ⟨by omega, by omega⟩) (show (1 : Int) ≤ ((t1.1 24 3) : Int32).toInt ∧ ((t1.1 24 3) : Int32).toInt ≤ 80 from ⟨by omega, by omega⟩) (show (82 - (t1.1 24 2).toInt) < (fuel_16 : Int) + 1 from by omega) hP hD hS (lv_sub hl [0, 1, 2, 3, 4] rfl)
      have L_72 : ∀ (t1 : tSt) (w72_1 : Int32) (w72_2 : Int32) (w72_3 : Int32) (k72_0 : Int32) (H : Heap) (locs : List Loc) (ls : Array Slot), okX t1 → frA [(24, 2), (24, 8)] [(24, 7), (24, 9)] [] [] t t1 → (-128 : Int) ≤ w72_3.toInt ∧ w72_3.toInt ≤ 127 → (0 : Int) ≤ k72_0.toInt ∧ k72_0.toInt ≤ 1 → (0 : Int) ≤ (t1.1 24 2).toInt ∧ (t1.1 24 2).toInt ≤ 79 → (1 : Int) ≤ (t1.1 24 3).toInt ∧ (t1.1 24 3).toInt ≤ 80 → (82 - (t1.1 24 2).toInt) < (fuel_16 : Int) + 1 → va_P D vwCl ((WX d) K ad t1) H → va_D A ((WX d) K ad t1) → va_S A s.heap H locs → lv_has ls 5 [(0, .ref (ad 24)), (1, .int w72_1), (2, .int w72_2), (3, .int w72_3)] → W p l e (rmD 0 0 0) s m [.ref (ad 24)].toArray below meth c H locs 0 0 (MQ below (QI D K (fun (r : Int32) (u : tSt) => okX u ∧ frA [(24, 2), (24, 8)] [(24, 7), (24, 9)] [] [] t u ∧ (0 : Int) ≤ r.toInt ∧ r.toInt ≤ 5) (fun (u : tSt) => (WX d) K ad u) A) [.ref (ad 24)].toArray s 0 0 A) (F0 m 72 ls [.int k72_0]) := by
        intro t1 w72_1 w72_2 w72_3 k72_0 H locs ls hok hfr hw72_3 hk72_0 hf72_2 hf72_3 hm72_16 hP hD hS hl
        refine lv_istore (lv' := [(4, .int k72_0), (0, .ref (ad 24)), (1, .int w72_1), (2, .int w72_2), (3, .int w72_3)]) C.1 C.2.1 dX5_token_72 hl (by decide) rfl (fun ls hl => ?_)
        have hl : lv_has ls 5 [(0, .ref (ad 24)), (1, .int w72_1), (2, .int w72_2), (3, .int w72_3), (4, .int k72_0)] := lv_sub hl [1, 2, 3, 4, 0] rfl
        refine lv_iload C.1 C.2.1 dX5_token_74 (lv_at hl 4 rfl) ?_
        refine lv_if_ne (tgt := 110) C.1 C.2.1 dX5_token_76 (by decide) (fun c_72 => ?_) (fun c_72 => ?_)
        · replace c_72 : ¬ k72_0.toInt = 0 := i_ne c_72
          exact L_110 t1 w72_1 w72_2 w72_3 k72_0 _ _ _ hok hfr ⟨by omega, by omega⟩ ⟨by omega, by omega⟩ (show (0 : Int) ≤ ((t1.1 24 2) : Int32).toInt ∧ ((t1.1 24 2) : Int32).toInt ≤ 79 from ⟨by omega, by omega⟩) (show (1 : Int) ≤ ((t1.1 24 3) : Int32).toInt ∧ ((t1.1 24 3) : Int32).toInt ≤ 80 from ⟨by omega, by omega⟩) (show (82 - (t1.1 24 2).toInt) < (fuel_16 : Int) + 1 from by omega) hP hD hS (lv_sub hl [0, 1, 2, 3, 4] rfl)
        · replace c_72 : k72_0.toInt = 0 := i_eq c_72
          refine lv_aload_n C.1 C.2.1 dX5_token_79 rfl (lv_at hl 0 rfl) ?_
          refine k_get (v := .ref (ad 9)) C hP 24 rfl rfl inlX5 0 (by decide) m_6_5 rfl dX5_token_80 ?_
          refine lv_aload_n C.1 C.2.1 dX5_token_83 rfl (lv_at hl 0 rfl) ?_
          refine k_get (v := .int (t1.1 24 2)) C hP 24 rfl rfl inlX5 2 (by decide) m_19_9 rfl dX5_token_84 ?_
          obtain ⟨v_73, e_74⟩ : ∃ z, z = (t1.2.2.1 9 ((t1.1 24 2) : Int32).toNatClampNeg) := ⟨_, rfl⟩
          have h_75 : (-128 : Int) ≤ v_73.toInt ∧ v_73.toInt ≤ 127 := by rw [e_74]; exact hok.2.1 9 _
          refine k_bld (v := v_73) C hP 9 rfl (vp_in_iff.mpr ⟨by omega, by omega⟩) e_74.symm dX5_token_87 ?_
          refine lv_bipush (v := 48) C.1 C.2.1 dX5_token_88 (by decide) ?_
          refine lv_icmp_lt (tgt := 228) C.1 C.2.1 dX5_token_90 (by decide) (fun c_76 => ?_) (fun c_76 => ?_)
          · replace c_76 : v_73.toInt < 48 := i_lt c_76
            exact L_228 t1 w72_1 w72_2 w72_3 _ _ _ hok hfr ⟨by omega, by omega⟩ hP hD hS (lv_sub hl [0, 1, 2, 3] rfl)
          · replace c_76 : 48 ≤ v_73.toInt := i_nlt c_76
            refine lv_aload_n C.1 C.2.1 dX5_token_93 rfl (lv_at hl 0 rfl) ?_
            refine k_get (v := .ref (ad 9)) C hP 24 rfl rfl inlX5 0 (by decide) m_6_5 rfl dX5_token_94 ?_
            refine lv_aload_n C.1 C.2.1 dX5_token_97 rfl (lv_at hl 0 rfl) ?_
            refine k_get (v := .int (t1.1 24 2)) C hP 24 rfl rfl inlX5 2 (by decide) m_19_9 rfl dX5_token_98 ?_
            obtain ⟨v_77, e_78⟩ : ∃ z, z = (t1.2.2.1 9 ((t1.1 24 2) : Int32).toNatClampNeg) := ⟨_, rfl⟩
            have h_79 : (-128 : Int) ≤ v_77.toInt ∧ v_77.toInt ≤ 127 := by rw [e_78]; exact hok.2.1 9 _
            refine k_bld (v := v_77) C hP 9 rfl (vp_in_iff.mpr ⟨by omega, by omega⟩) e_78.symm dX5_token_101 ?_
            refine lv_bipush (v := 57) C.1 C.2.1 dX5_token_102 (by decide) ?_
            refine lv_icmp_le (tgt := 110) C.1 C.2.1 dX5_token_104 (by decide) (fun c_80 => ?_) (fun c_80 => ?_)
            · replace c_80 : v_77.toInt ≤ 57 := i_le c_80
              exact L_110 t1 w72_1 w72_2 w72_3 k72_0 _ _ _ hok hfr ⟨by omega, by omega⟩ ⟨by omega, by omega⟩ (show (0 : Int) ≤ ((t1.1 24 2) : Int32).toInt ∧ ((t1.1 24 2) : Int32).toInt ≤ 79 from ⟨by omega, by omega⟩) (show (1 : Int) ≤ ((t1.1 24 3) : Int32).toInt ∧ ((t1.1 24 3) : Int32).toInt ≤ 80 from ⟨by omega, by omega⟩) (show (82 - (t1.1 24 2).toInt) < (fuel_16 : Int) + 1 from by omega) hP hD hS (lv_sub hl [0, 1, 2, 3, 4] rfl)
            · replace c_80 : 57 < v_77.toInt := i_nle c_80
              refine lv_goto (tgt := 228) C.1 C.2.1 dX5_token_107 (by decide) ?_
              exact L_228 t1 w72_1 w72_2 w72_3 _ _ _ hok hfr ⟨by omega, by omega⟩ hP hD hS (lv_sub hl [0, 1, 2, 3] rfl)
      have L_71 : ∀ (t1 : tSt) (w71_1 : Int32) (w71_2 : Int32) (w71_3 : Int32) (H : Heap) (locs : List Loc) (ls : Array Slot), okX t1 → frA [(24, 2), (24, 8)] [(24, 7), (24, 9)] [] [] t t1 → (-128 : Int) ≤ w71_3.toInt ∧ w71_3.toInt ≤ 127 → (0 : Int) ≤ (t1.1 24 2).toInt ∧ (t1.1 24 2).toInt ≤ 79 → (1 : Int) ≤ (t1.1 24 3).toInt ∧ (t1.1 24 3).toInt ≤ 80 → (82 - (t1.1 24 2).toInt) < (fuel_16 : Int) + 1 → va_P D vwCl ((WX d) K ad t1) H → va_D A ((WX d) K ad t1) → va_S A s.heap H locs → lv_has ls 5 [(0, .ref (ad 24)), (1, .int w71_1), (2, .int w71_2), (3, .int w71_3)] → W p l e (rmD 0 0 0) s m [.ref (ad 24)].toArray below meth c H locs 0 0 (MQ below (QI D K (fun (r : Int32) (u : tSt) => okX u ∧ frA [(24, 2), (24, 8)] [(24, 7), (24, 9)] [] [] t u ∧ (0 : Int) ≤ r.toInt ∧ r.toInt ≤ 5) (fun (u : tSt) => (WX d) K ad u) A) [.ref (ad 24)].toArray s 0 0 A) (F0 m 71 ls []) := by
        intro t1 w71_1 w71_2 w71_3 H locs ls hok hfr hw71_3 hf71_2 hf71_3 hm71_16 hP hD hS hl
        refine lv_iconst (v := 0) C.1 C.2.1 dX5_token_71 (by decide) ?_
        exact L_72 t1 w71_1 w71_2 w71_3 0 _ _ _ hok hfr ⟨by omega, by omega⟩ ⟨by decide, by decide⟩ (show (0 : Int) ≤ ((t1.1 24 2) : Int32).toInt ∧ ((t1.1 24 2) : Int32).toInt ≤ 79 from ⟨by omega, by omega⟩) (show (1 : Int) ≤ ((t1.1 24 3) : Int32).toInt ∧ ((t1.1 24 3) : Int32).toInt ≤ 80 from ⟨by omega, by omega⟩) (show (82 - (t1.1 24 2).toInt) < (fuel_16 : Int) + 1 from by omega) hP hD hS (lv_sub hl [0, 1, 2, 3] rfl)
      refine lv_aload_n C.1 C.2.1 dX5_token_16 rfl (lv_at hl 0 rfl) ?_
      refine k_get (v := .int (t1.1 24 2)) C hP 24 rfl rfl inlX5 2 (by decide) m_19_9 rfl dX5_token_17 ?_
      refine lv_aload_n C.1 C.2.1 dX5_token_20 rfl (lv_at hl 0 rfl) ?_
      have h_81 : (-1 : Int) ≤ (t1.1 24 3).toInt ∧ (t1.1 24 3).toInt ≤ 80 := hok.1 24 3
      refine k_get (v := .int (t1.1 24 3)) C hP 24 rfl rfl inlX5 3 (by decide) m_19_10 rfl dX5_token_21 ?_
      refine lv_icmp_ge (tgt := 228) C.1 C.2.1 dX5_token_24 (by decide) (fun c_82 => ?_) (fun c_82 => ?_)
      · replace c_82 : (t1.1 24 3).toInt ≤ (t1.1 24 2).toInt := i_le c_82
        exact L_228 t1 w16_1 w16_2 w16_3 _ _ _ hok hfr ⟨by omega, by omega⟩ hP hD hS (lv_sub hl [0, 1, 2, 3] rfl)
      · replace c_82 : (t1.1 24 2).toInt < (t1.1 24 3).toInt := i_nle c_82
        refine lv_aload_n C.1 C.2.1 dX5_token_27 rfl (lv_at hl 0 rfl) ?_
        refine k_get (v := .int (t1.1 24 2)) C hP 24 rfl rfl inlX5 2 (by decide) m_19_9 rfl dX5_token_28 ?_
        refine lv_aload_n C.1 C.2.1 dX5_token_31 rfl (lv_at hl 0 rfl) ?_
        refine k_get (v := .ref (ad 9)) C hP 24 rfl rfl inlX5 0 (by decide) m_6_5 rfl dX5_token_32 ?_
        refine k_len (v := 80) C hP 9 2 rfl rfl rfl dX5_token_35 ?_
        refine lv_icmp_ge (tgt := 228) C.1 C.2.1 dX5_token_36 (by decide) (fun c_83 => False.elim (by have c_83 : 80 ≤ (t1.1 24 2).toInt := i_le c_83; omega)) (fun c_83 => ?_)
        replace c_83 : (t1.1 24 2).toInt < 80 := i_nle c_83
        refine lv_aload_n C.1 C.2.1 dX5_token_39 rfl (lv_at hl 0 rfl) ?_
        refine k_get (v := .ref (ad 9)) C hP 24 rfl rfl inlX5 0 (by decide) m_6_5 rfl dX5_token_40 ?_
        refine lv_aload_n C.1 C.2.1 dX5_token_43 rfl (lv_at hl 0 rfl) ?_
        refine k_get (v := .int (t1.1 24 2)) C hP 24 rfl rfl inlX5 2 (by decide) m_19_9 rfl dX5_token_44 ?_
        obtain ⟨v_84, e_85⟩ : ∃ z, z = (t1.2.2.1 9 ((t1.1 24 2) : Int32).toNatClampNeg) := ⟨_, rfl⟩
        have h_86 : (-128 : Int) ≤ v_84.toInt ∧ v_84.toInt ≤ 127 := by rw [e_85]; exact hok.2.1 9 _
        refine k_bld (v := v_84) C hP 9 rfl (vp_in_iff.mpr ⟨by omega, by omega⟩) e_85.symm dX5_token_47 ?_
        refine lv_bipush (v := 65) C.1 C.2.1 dX5_token_48 (by decide) ?_
        refine lv_icmp_lt (tgt := 71) C.1 C.2.1 dX5_token_50 (by decide) (fun c_87 => ?_) (fun c_87 => ?_)
        · replace c_87 : v_84.toInt < 65 := i_lt c_87
          exact L_71 t1 w16_1 w16_2 w16_3 _ _ _ hok hfr ⟨by omega, by omega⟩ (show (0 : Int) ≤ ((t1.1 24 2) : Int32).toInt ∧ ((t1.1 24 2) : Int32).toInt ≤ 79 from ⟨by omega, by omega⟩) (show (1 : Int) ≤ ((t1.1 24 3) : Int32).toInt ∧ ((t1.1 24 3) : Int32).toInt ≤ 80 from ⟨by omega, by omega⟩) (show (82 - (t1.1 24 2).toInt) < (fuel_16 : Int) + 1 from by omega) hP hD hS (lv_sub hl [0, 1, 2, 3] rfl)
        · replace c_87 : 65 ≤ v_84.toInt := i_nlt c_87
          refine lv_aload_n C.1 C.2.1 dX5_token_53 rfl (lv_at hl 0 rfl) ?_
          refine k_get (v := .ref (ad 9)) C hP 24 rfl rfl inlX5 0 (by decide) m_6_5 rfl dX5_token_54 ?_
          refine lv_aload_n C.1 C.2.1 dX5_token_57 rfl (lv_at hl 0 rfl) ?_
          refine k_get (v := .int (t1.1 24 2)) C hP 24 rfl rfl inlX5 2 (by decide) m_19_9 rfl dX5_token_58 ?_
          obtain ⟨v_88, e_89⟩ : ∃ z, z = (t1.2.2.1 9 ((t1.1 24 2) : Int32).toNatClampNeg) := ⟨_, rfl⟩
          have h_90 : (-128 : Int) ≤ v_88.toInt ∧ v_88.toInt ≤ 127 := by rw [e_89]; exact hok.2.1 9 _
          refine k_bld (v := v_88) C hP 9 rfl (vp_in_iff.mpr ⟨by omega, by omega⟩) e_89.symm dX5_token_61 ?_
          refine lv_bipush (v := 90) C.1 C.2.1 dX5_token_62 (by decide) ?_
          refine lv_icmp_gt (tgt := 71) C.1 C.2.1 dX5_token_64 (by decide) (fun c_91 => ?_) (fun c_91 => ?_)
          · replace c_91 : 90 < v_88.toInt := i_lt c_91
            exact L_71 t1 w16_1 w16_2 w16_3 _ _ _ hok hfr ⟨by omega, by omega⟩ (show (0 : Int) ≤ ((t1.1 24 2) : Int32).toInt ∧ ((t1.1 24 2) : Int32).toInt ≤ 79 from ⟨by omega, by omega⟩) (show (1 : Int) ≤ ((t1.1 24 3) : Int32).toInt ∧ ((t1.1 24 3) : Int32).toInt ≤ 80 from ⟨by omega, by omega⟩) (show (82 - (t1.1 24 2).toInt) < (fuel_16 : Int) + 1 from by omega) hP hD hS (lv_sub hl [0, 1, 2, 3] rfl)
          · replace c_91 : v_88.toInt ≤ 90 := i_nlt c_91
            refine lv_iconst (v := 1) C.1 C.2.1 dX5_token_67 (by decide) ?_
            refine lv_goto (tgt := 72) C.1 C.2.1 dX5_token_68 (by decide) ?_
            exact L_72 t1 w16_1 w16_2 w16_3 1 _ _ _ hok hfr ⟨by omega, by omega⟩ ⟨by decide, by decide⟩ (show (0 : Int) ≤ ((t1.1 24 2) : Int32).toInt ∧ ((t1.1 24 2) : Int32).toInt ≤ 79 from ⟨by omega, by omega⟩) (show (1 : Int) ≤ ((t1.1 24 3) : Int32).toInt ∧ ((t1.1 24 3) : Int32).toInt ≤ 80 from ⟨by omega, by omega⟩) (show (82 - (t1.1 24 2).toInt) < (fuel_16 : Int) + 1 from by omega) hP hD hS (lv_sub hl [0, 1, 2, 3] rfl)
  refine lv_iconst (v := 0) C.1 C.2.1 dX5_token_0 (by decide) ?_
  refine lv_istore_n (lv' := [(1, .int 0), (0, .ref (ad 24))]) C.1 C.2.1 dX5_token_1 rfl hl (by decide) rfl (fun ls hl => ?_)
  have hl : lv_has ls 5 [(0, .ref (ad 24)), (1, .int 0)] := lv_sub hl [1, 0] rfl
  refine lv_iconst (v := 0) C.1 C.2.1 dX5_token_2 (by decide) ?_
  refine lv_istore_n (lv' := [(2, .int 0), (0, .ref (ad 24)), (1, .int 0)]) C.1 C.2.1 dX5_token_3 rfl hl (by decide) rfl (fun ls hl => ?_)
  have hl : lv_has ls 5 [(0, .ref (ad 24)), (1, .int 0), (2, .int 0)] := lv_sub hl [1, 2, 0] rfl
  refine lv_iconst (v := 0) C.1 C.2.1 dX5_token_4 (by decide) ?_
  refine lv_istore_n (lv' := [(3, .int 0), (0, .ref (ad 24)), (1, .int 0), (2, .int 0)]) C.1 C.2.1 dX5_token_5 rfl hl (by decide) rfl (fun ls hl => ?_)
  have hl : lv_has ls 5 [(0, .ref (ad 24)), (1, .int 0), (2, .int 0), (3, .int 0)] := lv_sub hl [1, 2, 3, 0] rfl
  refine lv_aload_n C.1 C.2.1 dX5_token_6 rfl (lv_at hl 0 rfl) ?_
  refine lv_lconst (v := 0) C.1 C.2.1 dX5_token_7 (by decide) ?_
  refine k_put (ws' := (WX d) K ad (uJ t 24 7 0)) (v := .long 0) C hP hD hS 24 rfl rfl inlX5 tyX5_ok nmX5 7 (by decide) m_19_15 rfl rfl rfl rfl rfl dX5_token_8 (fun H locs hP hD hS => ?_)
  have hok : okX (uJ t 24 7 0) := ⟨hok.1, hok.2.1, trivial⟩
  have hfr : frA [(24, 2), (24, 8)] [(24, 7), (24, 9)] [] [] t (uJ t 24 7 0) := frA_J hfr 24 7 _ rfl
  refine lv_aload_n C.1 C.2.1 dX5_token_11 rfl (lv_at hl 0 rfl) ?_
  refine lv_lconst (v := 0) C.1 C.2.1 dX5_token_12 (by decide) ?_
  refine k_put (ws' := (WX d) K ad (uJ (uJ t 24 7 0) 24 9 0)) (v := .long 0) C hP hD hS 24 rfl rfl inlX5 tyX5_ok nmX5 9 (by decide) m_19_16 rfl rfl rfl rfl rfl dX5_token_13 (fun H locs hP hD hS => ?_)
  have hok : okX (uJ (uJ t 24 7 0) 24 9 0) := ⟨hok.1, hok.2.1, trivial⟩
  have hfr : frA [(24, 2), (24, 8)] [(24, 7), (24, 9)] [] [] t (uJ (uJ t 24 7 0) 24 9 0) := frA_J hfr 24 9 _ rfl
  exact L_16 100 (uJ (uJ t 24 7 0) 24 9 0) 0 0 0 _ _ _ hok hfr ⟨by decide, by decide⟩ (show (t.1 24 2).toInt ≤ 81 from by omega) (show (82 - (t.1 24 2).toInt) < ((100 : Nat) : Int) from by omega) hP hD hS (lv_sub hl [0, 1, 2, 3] rfl)

theorem dX3_isCard_0 : decode cX3_isCard 0 = .ok (.aload_n 0, 1) := by decide +kernel
theorem dX3_isCard_1 : decode cX3_isCard 1 = .ok (.getfield 21, 3) := by decide +kernel
theorem dX3_isCard_12 : decode cX3_isCard 12 = .ok (.aload_n 0, 1) := by decide +kernel
theorem dX3_isCard_13 : decode cX3_isCard 13 = .ok (.getfield 21, 3) := by decide +kernel
theorem dX3_isCard_16 : decode cX3_isCard 16 = .ok (.aload_n 1, 1) := by decide +kernel
theorem dX3_isCard_17 : decode cX3_isCard 17 = .ok (.invokevirtual 89, 3) := by decide +kernel
theorem dX3_isCard_20 : decode cX3_isCard 20 = .ok (.invokevirtual 94, 3) := by decide +kernel
theorem dX3_isCard_23 : decode cX3_isCard 23 = .ok (.ifCond .eq 7, 3) := by decide +kernel
theorem dX3_isCard_26 : decode cX3_isCard 26 = .ok (.iconst 1, 1) := by decide +kernel
theorem dX3_isCard_27 : decode cX3_isCard 27 = .ok (.goto 4, 3) := by decide +kernel
theorem dX3_isCard_30 : decode cX3_isCard 30 = .ok (.iconst 0, 1) := by decide +kernel
theorem dX3_isCard_31 : decode cX3_isCard 31 = .ok (.ireturn, 1) := by decide +kernel
theorem dX3_isCard_4 : decode cX3_isCard 4 = .ok (.iconst 0, 1) := by decide +kernel
theorem dX3_isCard_5 : decode cX3_isCard 5 = .ok (.aload_n 1, 1) := by decide +kernel
theorem dX3_isCard_6 : decode cX3_isCard 6 = .ok (.invokevirtual 85, 3) := by decide +kernel
theorem dX3_isCard_9 : decode cX3_isCard 9 = .ok (.ifCond .eq 21, 3) := by decide +kernel
set_option maxHeartbeats 4000000 in
set_option maxRecDepth 100000 in
theorem T_X3_isCard (l : Launch) (D : va_G) (K : Nat → ClassId) (Z Y : Nat → Nat) (ad : Nat → Nat) (d : dSt) (t : tSt) (hok : okX t) (i1 : Nat) (hi1 : sS i1) : tMet l yX3_isCard cX3_isCard 2 (some .boolean) (rmD 5 0 0) D K Z Y [.ref (ad 7), .ref (Z i1)] ((WX d) K ad t) (QI D K (fun (r : Int32) (u : Unit) => (0 : Int) ≤ r.toInt ∧ r.toInt ≤ 1) (fun (_ : Unit) => (WX d) K ad t)) 0 0 := by
  refine t_met RX3 ⟨rfl, by decide +kernel⟩ (Nat.le_of_ble_eq_true rfl) ?_
  intro p e s m below meth c A ls C hE hZ hr hlocks hA hP hD hS hl
  have hl : lv_has ls 2 [(0, .ref (ad 7)), (1, .ref (Z i1))] := hl
  refine lv_aload_n C.1 C.2.1 dX3_isCard_0 rfl (lv_at hl 0 rfl) ?_
  refine k_get (v := .ref (ad 29)) C hP 7 rfl rfl inlX3 0 (by decide) m_6_23 rfl dX3_isCard_1 ?_
  refine lv_iconst (v := 0) C.1 C.2.1 dX3_isCard_4 (by decide) ?_
  refine lv_aload_n C.1 C.2.1 dX3_isCard_5 rfl (lv_at hl 1 rfl) ?_
  refine g_Vi (As := [.int 0, .ref (Z i1)]) (rest := []) C hP hD hS hA (T_X9_isAt l D K Z Y ad d t hok 0 (show (0 : Int) ≤ (0 : Int32).toInt ∧ (0 : Int32).toInt ≤ 100 from ⟨by decide, by decide⟩) (i1) hi1) hE hZ (uwV m_72_2 m_72_3 m_72_4 m_1_17 m_72_5) (hdV 2 (by decide +kernel) rfl) ⟨Nat.le_of_ble_eq_true rfl, Nat.le_of_ble_eq_true rfl⟩ rfl rfl (ci := 8) (q0 := 29) rfl rfl rfl hl.1 (Nat.le_of_ble_eq_true rfl) dX3_isCard_6 ⟨Nat.le_of_ble_eq_true rfl, Nat.le_of_ble_eq_true rfl⟩ (fun r_2 t_1 H locs hw hP hD hS => ?_)
  obtain ⟨h_4, h_5⟩ := hw
  refine lv_if_eq (tgt := 30) C.1 C.2.1 dX3_isCard_9 (by decide) (fun c_6 => ?_) (fun c_6 => ?_)
  · replace c_6 : r_2.toInt = 0 := i_eq c_6
    refine lv_iconst (v := 0) C.1 C.2.1 dX3_isCard_30 (by decide) ?_
    exact g_iret C hr hlocks hP hD hS (by decide) () rfl ⟨by decide, by decide⟩ (Nat.le_of_ble_eq_true rfl) (Nat.le_of_ble_eq_true rfl) dX3_isCard_31
  · replace c_6 : ¬ r_2.toInt = 0 := i_ne c_6
    refine lv_aload_n C.1 C.2.1 dX3_isCard_12 rfl (lv_at hl 0 rfl) ?_
    refine k_get (v := .ref (ad 29)) C hP 7 rfl rfl inlX3 0 (by decide) m_6_23 rfl dX3_isCard_13 ?_
    refine lv_aload_n C.1 C.2.1 dX3_isCard_16 rfl (lv_at hl 1 rfl) ?_
    refine g_Ti (As := []) (rest := [.ref (ad 29)]) C hP hD hS hA (TJ_length l D K Z Y ((WX d) K ad t) i1 (sS_lt hi1)) hE hZ (uwV m_73_2 m_14_22 m_14_23 m_14_8 m_15_0) (hdV 0 (by decide +kernel) rfl) ⟨Nat.le_of_ble_eq_true rfl, Nat.le_of_ble_eq_true rfl⟩ rfl rfl (i0 := i1) (sS_lt hi1) rfl rfl hl.1 (Nat.le_of_ble_eq_true rfl) dX3_isCard_17 ⟨Nat.le_of_ble_eq_true rfl, Nat.le_of_ble_eq_true rfl⟩ (fun r_7 u_r_7 H locs hw hP hD hS => ?_)
    have h_8 : r_7.toInt = sL i1 := hw
    have h_9 := sS_len hi1
    refine g_Vi (As := [.int r_7]) (rest := []) C hP hD hS hA (T_X9_isBlankAt l D K Z Y ad d t hok (r_7)) hE hZ (uwV m_72_22 m_72_23 m_73_0 m_1_17 m_73_1) (hdV 1 (by decide +kernel) rfl) ⟨Nat.le_of_ble_eq_true rfl, Nat.le_of_ble_eq_true rfl⟩ rfl rfl (ci := 8) (q0 := 29) rfl rfl rfl hl.1 (Nat.le_of_ble_eq_true rfl) dX3_isCard_20 ⟨Nat.le_of_ble_eq_true rfl, Nat.le_of_ble_eq_true rfl⟩ (fun r_11 t_10 H locs hw hP hD hS => ?_)
    obtain ⟨h_13, h_14⟩ := hw
    refine lv_if_eq (tgt := 30) C.1 C.2.1 dX3_isCard_23 (by decide) (fun c_15 => ?_) (fun c_15 => ?_)
    · replace c_15 : r_11.toInt = 0 := i_eq c_15
      refine lv_iconst (v := 0) C.1 C.2.1 dX3_isCard_30 (by decide) ?_
      exact g_iret C hr hlocks hP hD hS (by decide) () rfl ⟨by decide, by decide⟩ (Nat.le_of_ble_eq_true rfl) (Nat.le_of_ble_eq_true rfl) dX3_isCard_31
    · replace c_15 : ¬ r_11.toInt = 0 := i_ne c_15
      refine lv_iconst (v := 1) C.1 C.2.1 dX3_isCard_26 (by decide) ?_
      refine lv_goto (tgt := 31) C.1 C.2.1 dX3_isCard_27 (by decide) ?_
      exact g_iret C hr hlocks hP hD hS (by decide) () rfl ⟨by decide, by decide⟩ (Nat.le_of_ble_eq_true rfl) (Nat.le_of_ble_eq_true rfl) dX3_isCard_31

theorem dX5_pass_0 : decode cX5_pass 0 = .ok (.aload_n 0, 1) := by decide +kernel
theorem dX5_pass_1 : decode cX5_pass 1 = .ok (.getfield 19, 3) := by decide +kernel
theorem dX5_pass_11 : decode cX5_pass 11 = .ok (.aload_n 0, 1) := by decide +kernel
theorem dX5_pass_12 : decode cX5_pass 12 = .ok (.getfield 23, 3) := by decide +kernel
theorem dX5_pass_15 : decode cX5_pass 15 = .ok (.if_icmp .ge 32, 3) := by decide +kernel
theorem dX5_pass_18 : decode cX5_pass 18 = .ok (.aload_n 0, 1) := by decide +kernel
theorem dX5_pass_19 : decode cX5_pass 19 = .ok (.getfield 19, 3) := by decide +kernel
theorem dX5_pass_22 : decode cX5_pass 22 = .ok (.aload_n 0, 1) := by decide +kernel
theorem dX5_pass_23 : decode cX5_pass 23 = .ok (.getfield 9, 3) := by decide +kernel
theorem dX5_pass_26 : decode cX5_pass 26 = .ok (.arraylength, 1) := by decide +kernel
theorem dX5_pass_27 : decode cX5_pass 27 = .ok (.if_icmp .ge 20, 3) := by decide +kernel
theorem dX5_pass_30 : decode cX5_pass 30 = .ok (.aload_n 0, 1) := by decide +kernel
theorem dX5_pass_31 : decode cX5_pass 31 = .ok (.getfield 9, 3) := by decide +kernel
theorem dX5_pass_34 : decode cX5_pass 34 = .ok (.aload_n 0, 1) := by decide +kernel
theorem dX5_pass_35 : decode cX5_pass 35 = .ok (.getfield 19, 3) := by decide +kernel
theorem dX5_pass_38 : decode cX5_pass 38 = .ok (.baload, 1) := by decide +kernel
theorem dX5_pass_39 : decode cX5_pass 39 = .ok (.iload_n 1, 1) := by decide +kernel
theorem dX5_pass_4 : decode cX5_pass 4 = .ok (.ifCond .lt 43, 3) := by decide +kernel
theorem dX5_pass_40 : decode cX5_pass 40 = .ok (.if_icmp .ne 7, 3) := by decide +kernel
theorem dX5_pass_43 : decode cX5_pass 43 = .ok (.iconst 1, 1) := by decide +kernel
theorem dX5_pass_44 : decode cX5_pass 44 = .ok (.goto 4, 3) := by decide +kernel
theorem dX5_pass_47 : decode cX5_pass 47 = .ok (.iconst 0, 1) := by decide +kernel
theorem dX5_pass_48 : decode cX5_pass 48 = .ok (.istore_n 2, 1) := by decide +kernel
theorem dX5_pass_49 : decode cX5_pass 49 = .ok (.aload_n 0, 1) := by decide +kernel
theorem dX5_pass_50 : decode cX5_pass 50 = .ok (.dup, 1) := by decide +kernel
theorem dX5_pass_51 : decode cX5_pass 51 = .ok (.getfield 19, 3) := by decide +kernel
theorem dX5_pass_54 : decode cX5_pass 54 = .ok (.iload_n 2, 1) := by decide +kernel
theorem dX5_pass_55 : decode cX5_pass 55 = .ok (.ifCond .eq 7, 3) := by decide +kernel
theorem dX5_pass_58 : decode cX5_pass 58 = .ok (.iconst 1, 1) := by decide +kernel
theorem dX5_pass_59 : decode cX5_pass 59 = .ok (.goto 4, 3) := by decide +kernel
theorem dX5_pass_62 : decode cX5_pass 62 = .ok (.iconst 0, 1) := by decide +kernel
theorem dX5_pass_63 : decode cX5_pass 63 = .ok (.iadd, 1) := by decide +kernel
theorem dX5_pass_64 : decode cX5_pass 64 = .ok (.putfield 19, 3) := by decide +kernel
theorem dX5_pass_67 : decode cX5_pass 67 = .ok (.iload_n 2, 1) := by decide +kernel
theorem dX5_pass_68 : decode cX5_pass 68 = .ok (.ireturn, 1) := by decide +kernel
theorem dX5_pass_7 : decode cX5_pass 7 = .ok (.aload_n 0, 1) := by decide +kernel
theorem dX5_pass_8 : decode cX5_pass 8 = .ok (.getfield 19, 3) := by decide +kernel
set_option maxHeartbeats 4000000 in
set_option maxRecDepth 100000 in
theorem T_X5_pass (l : Launch) (D : va_G) (K : Nat → ClassId) (Z Y : Nat → Nat) (ad : Nat → Nat) (d : dSt) (t : tSt) (hok : okX t) (x1 : Int32) (hx1 : (32 : Int) ≤ x1.toInt ∧ x1.toInt ≤ 61) : tMet l yX5_pass cX5_pass 3 (some .boolean) (rmD 0 0 0) D K Z Y [.ref (ad 24), .int x1] ((WX d) K ad t) (QI D K (fun (r : Int32) (u : tSt) => okX u ∧ frA [(24, 2)] [] [] [] t u ∧ (0 : Int) ≤ r.toInt ∧ r.toInt ≤ 1) (fun (u : tSt) => (WX d) K ad u)) 0 0 := by
  refine t_met RX5 ⟨rfl, by decide +kernel⟩ (Nat.le_of_ble_eq_true rfl) ?_
  intro p e s m below meth c A ls C hE hZ hr hlocks hA hP hD hS hl
  have hl : lv_has ls 3 [(0, .ref (ad 24)), (1, .int x1)] := hl
  have hokt := hok
  have hfr : frA [(24, 2)] [] [] [] t t := frA_rf
  refine lv_aload_n C.1 C.2.1 dX5_pass_0 rfl (lv_at hl 0 rfl) ?_
  have h_1 : (0 : Int) ≤ (t.1 24 2).toInt ∧ (t.1 24 2).toInt ≤ 81 := hok.1 24 2
  refine k_get (v := .int (t.1 24 2)) C hP 24 rfl rfl inlX5 2 (by decide) m_19_9 rfl dX5_pass_1 ?_
  refine lv_if_lt (tgt := 47) C.1 C.2.1 dX5_pass_4 (by decide) (fun c_2 => False.elim (by have c_2 : (t.1 24 2).toInt < 0 := i_lt c_2; omega)) (fun c_2 => ?_)
  replace c_2 : 0 ≤ (t.1 24 2).toInt := i_nlt c_2
  refine lv_aload_n C.1 C.2.1 dX5_pass_7 rfl (lv_at hl 0 rfl) ?_
  refine k_get (v := .int (t.1 24 2)) C hP 24 rfl rfl inlX5 2 (by decide) m_19_9 rfl dX5_pass_8 ?_
  refine lv_aload_n C.1 C.2.1 dX5_pass_11 rfl (lv_at hl 0 rfl) ?_
  have h_3 : (-1 : Int) ≤ (t.1 24 3).toInt ∧ (t.1 24 3).toInt ≤ 80 := hok.1 24 3
  refine k_get (v := .int (t.1 24 3)) C hP 24 rfl rfl inlX5 3 (by decide) m_19_10 rfl dX5_pass_12 ?_
  refine lv_icmp_ge (tgt := 47) C.1 C.2.1 dX5_pass_15 (by decide) (fun c_4 => ?_) (fun c_4 => ?_)
  · replace c_4 : (t.1 24 3).toInt ≤ (t.1 24 2).toInt := i_le c_4
    refine lv_iconst (v := 0) C.1 C.2.1 dX5_pass_47 (by decide) ?_
    refine lv_istore_n (lv' := [(2, .int 0), (0, .ref (ad 24)), (1, .int x1)]) C.1 C.2.1 dX5_pass_48 rfl hl (by decide) rfl (fun ls hl => ?_)
    have hl : lv_has ls 3 [(0, .ref (ad 24)), (1, .int x1), (2, .int 0)] := lv_sub hl [1, 2, 0] rfl
    refine lv_aload_n C.1 C.2.1 dX5_pass_49 rfl (lv_at hl 0 rfl) ?_
    refine lv_dup C.1 C.2.1 dX5_pass_50 rfl ?_
    refine k_get (v := .int (t.1 24 2)) C hP 24 rfl rfl inlX5 2 (by decide) m_19_9 rfl dX5_pass_51 ?_
    refine lv_iload_n C.1 C.2.1 dX5_pass_54 rfl (lv_at hl 2 rfl) ?_
    refine lv_if_eq (tgt := 62) C.1 C.2.1 dX5_pass_55 (by decide) (fun _ => ?_) (fun h => absurd (by decide) h)
    refine lv_iconst (v := 0) C.1 C.2.1 dX5_pass_62 (by decide) ?_
    obtain ⟨v_5, e_6⟩ : ∃ z, z = ((t.1 24 2) : Int32) + (0 : Int32) := ⟨_, rfl⟩
    have h_7 : v_5.toInt = (t.1 24 2).toInt + 0 := by rw [e_6]; exact ti_iadd (by show (_ : Int) ≤ (t.1 24 2).toInt + 0; omega) (by show (t.1 24 2).toInt + 0 < (_ : Int); omega)
    refine k_iadd (v := v_5) C e_6.symm dX5_pass_63 ?_
    refine k_put (ws' := (WX d) K ad (uI t 24 2 v_5)) (v := .int v_5) C hP hD hS 24 rfl rfl inlX5 tyX5_ok nmX5 2 (by decide) m_19_9 rfl rfl rfl rfl rfl dX5_pass_64 (fun H locs hP hD hS => ?_)
    have hok : okX (uI t 24 2 v_5) := ⟨okI_I hok.1 24 2 v_5 (show (0 : Int) ≤ (v_5 : Int32).toInt ∧ (v_5 : Int32).toInt ≤ 81 from ⟨by omega, by omega⟩), hok.2.1, trivial⟩
    have hfr : frA [(24, 2)] [] [] [] t (uI t 24 2 v_5) := frA_I hfr 24 2 _ rfl
    refine lv_iload_n C.1 C.2.1 dX5_pass_67 rfl (lv_at hl 2 rfl) ?_
    exact g_iret C hr hlocks hP hD hS (by decide) (uI t 24 2 v_5) rfl ⟨hok, hfr, by decide, by decide⟩ (Nat.le_of_ble_eq_true rfl) (Nat.le_of_ble_eq_true rfl) dX5_pass_68
  · replace c_4 : (t.1 24 2).toInt < (t.1 24 3).toInt := i_nle c_4
    refine lv_aload_n C.1 C.2.1 dX5_pass_18 rfl (lv_at hl 0 rfl) ?_
    refine k_get (v := .int (t.1 24 2)) C hP 24 rfl rfl inlX5 2 (by decide) m_19_9 rfl dX5_pass_19 ?_
    refine lv_aload_n C.1 C.2.1 dX5_pass_22 rfl (lv_at hl 0 rfl) ?_
    refine k_get (v := .ref (ad 9)) C hP 24 rfl rfl inlX5 0 (by decide) m_6_5 rfl dX5_pass_23 ?_
    refine k_len (v := 80) C hP 9 2 rfl rfl rfl dX5_pass_26 ?_
    refine lv_icmp_ge (tgt := 47) C.1 C.2.1 dX5_pass_27 (by decide) (fun c_8 => False.elim (by have c_8 : 80 ≤ (t.1 24 2).toInt := i_le c_8; omega)) (fun c_8 => ?_)
    replace c_8 : (t.1 24 2).toInt < 80 := i_nle c_8
    refine lv_aload_n C.1 C.2.1 dX5_pass_30 rfl (lv_at hl 0 rfl) ?_
    refine k_get (v := .ref (ad 9)) C hP 24 rfl rfl inlX5 0 (by decide) m_6_5 rfl dX5_pass_31 ?_
    refine lv_aload_n C.1 C.2.1 dX5_pass_34 rfl (lv_at hl 0 rfl) ?_
    refine k_get (v := .int (t.1 24 2)) C hP 24 rfl rfl inlX5 2 (by decide) m_19_9 rfl dX5_pass_35 ?_
    obtain ⟨v_9, e_10⟩ : ∃ z, z = (t.2.2.1 9 ((t.1 24 2) : Int32).toNatClampNeg) := ⟨_, rfl⟩
    have h_11 : (-128 : Int) ≤ v_9.toInt ∧ v_9.toInt ≤ 127 := by rw [e_10]; exact hok.2.1 9 _
    refine k_bld (v := v_9) C hP 9 rfl (vp_in_iff.mpr ⟨by omega, by omega⟩) e_10.symm dX5_pass_38 ?_
    refine lv_iload_n C.1 C.2.1 dX5_pass_39 rfl (lv_at hl 1 rfl) ?_
    refine lv_icmp_ne (tgt := 47) C.1 C.2.1 dX5_pass_40 (by decide) (fun c_12 => ?_) (fun c_12 => ?_)
    · replace c_12 : ¬ v_9.toInt = x1.toInt := i_ne c_12
      refine lv_iconst (v := 0) C.1 C.2.1 dX5_pass_47 (by decide) ?_
      refine lv_istore_n (lv' := [(2, .int 0), (0, .ref (ad 24)), (1, .int x1)]) C.1 C.2.1 dX5_pass_48 rfl hl (by decide) rfl (fun ls hl => ?_)
      have hl : lv_has ls 3 [(0, .ref (ad 24)), (1, .int x1), (2, .int 0)] := lv_sub hl [1, 2, 0] rfl
      refine lv_aload_n C.1 C.2.1 dX5_pass_49 rfl (lv_at hl 0 rfl) ?_
      refine lv_dup C.1 C.2.1 dX5_pass_50 rfl ?_
      refine k_get (v := .int (t.1 24 2)) C hP 24 rfl rfl inlX5 2 (by decide) m_19_9 rfl dX5_pass_51 ?_
      refine lv_iload_n C.1 C.2.1 dX5_pass_54 rfl (lv_at hl 2 rfl) ?_
      refine lv_if_eq (tgt := 62) C.1 C.2.1 dX5_pass_55 (by decide) (fun _ => ?_) (fun h => absurd (by decide) h)
      refine lv_iconst (v := 0) C.1 C.2.1 dX5_pass_62 (by decide) ?_
      obtain ⟨v_13, e_14⟩ : ∃ z, z = ((t.1 24 2) : Int32) + (0 : Int32) := ⟨_, rfl⟩
      have h_15 : v_13.toInt = (t.1 24 2).toInt + 0 := by rw [e_14]; exact ti_iadd (by show (_ : Int) ≤ (t.1 24 2).toInt + 0; omega) (by show (t.1 24 2).toInt + 0 < (_ : Int); omega)
      refine k_iadd (v := v_13) C e_14.symm dX5_pass_63 ?_
      refine k_put (ws' := (WX d) K ad (uI t 24 2 v_13)) (v := .int v_13) C hP hD hS 24 rfl rfl inlX5 tyX5_ok nmX5 2 (by decide) m_19_9 rfl rfl rfl rfl rfl dX5_pass_64 (fun H locs hP hD hS => ?_)
      have hok : okX (uI t 24 2 v_13) := ⟨okI_I hok.1 24 2 v_13 (show (0 : Int) ≤ (v_13 : Int32).toInt ∧ (v_13 : Int32).toInt ≤ 81 from ⟨by omega, by omega⟩), hok.2.1, trivial⟩
      have hfr : frA [(24, 2)] [] [] [] t (uI t 24 2 v_13) := frA_I hfr 24 2 _ rfl
      refine lv_iload_n C.1 C.2.1 dX5_pass_67 rfl (lv_at hl 2 rfl) ?_
      exact g_iret C hr hlocks hP hD hS (by decide) (uI t 24 2 v_13) rfl ⟨hok, hfr, by decide, by decide⟩ (Nat.le_of_ble_eq_true rfl) (Nat.le_of_ble_eq_true rfl) dX5_pass_68
    · replace c_12 : v_9.toInt = x1.toInt := i_eq c_12
      refine lv_iconst (v := 1) C.1 C.2.1 dX5_pass_43 (by decide) ?_
      refine lv_goto (tgt := 48) C.1 C.2.1 dX5_pass_44 (by decide) ?_
      refine lv_istore_n (lv' := [(2, .int 1), (0, .ref (ad 24)), (1, .int x1)]) C.1 C.2.1 dX5_pass_48 rfl hl (by decide) rfl (fun ls hl => ?_)
      have hl : lv_has ls 3 [(0, .ref (ad 24)), (1, .int x1), (2, .int 1)] := lv_sub hl [1, 2, 0] rfl
      refine lv_aload_n C.1 C.2.1 dX5_pass_49 rfl (lv_at hl 0 rfl) ?_
      refine lv_dup C.1 C.2.1 dX5_pass_50 rfl ?_
      refine k_get (v := .int (t.1 24 2)) C hP 24 rfl rfl inlX5 2 (by decide) m_19_9 rfl dX5_pass_51 ?_
      refine lv_iload_n C.1 C.2.1 dX5_pass_54 rfl (lv_at hl 2 rfl) ?_
      refine lv_if_eq (tgt := 62) C.1 C.2.1 dX5_pass_55 (by decide) (fun h => absurd h (by decide)) (fun _ => ?_)
      refine lv_iconst (v := 1) C.1 C.2.1 dX5_pass_58 (by decide) ?_
      refine lv_goto (tgt := 63) C.1 C.2.1 dX5_pass_59 (by decide) ?_
      obtain ⟨v_16, e_17⟩ : ∃ z, z = ((t.1 24 2) : Int32) + (1 : Int32) := ⟨_, rfl⟩
      have h_18 : v_16.toInt = (t.1 24 2).toInt + 1 := by rw [e_17]; exact ti_iadd (by show (_ : Int) ≤ (t.1 24 2).toInt + 1; omega) (by show (t.1 24 2).toInt + 1 < (_ : Int); omega)
      refine k_iadd (v := v_16) C e_17.symm dX5_pass_63 ?_
      refine k_put (ws' := (WX d) K ad (uI t 24 2 v_16)) (v := .int v_16) C hP hD hS 24 rfl rfl inlX5 tyX5_ok nmX5 2 (by decide) m_19_9 rfl rfl rfl rfl rfl dX5_pass_64 (fun H locs hP hD hS => ?_)
      have hok : okX (uI t 24 2 v_16) := ⟨okI_I hok.1 24 2 v_16 (show (0 : Int) ≤ (v_16 : Int32).toInt ∧ (v_16 : Int32).toInt ≤ 81 from ⟨by omega, by omega⟩), hok.2.1, trivial⟩
      have hfr : frA [(24, 2)] [] [] [] t (uI t 24 2 v_16) := frA_I hfr 24 2 _ rfl
      refine lv_iload_n C.1 C.2.1 dX5_pass_67 rfl (lv_at hl 2 rfl) ?_
      exact g_iret C hr hlocks hP hD hS (by decide) (uI t 24 2 v_16) rfl ⟨hok, hfr, by decide, by decide⟩ (Nat.le_of_ble_eq_true rfl) (Nat.le_of_ble_eq_true rfl) dX5_pass_68

theorem dX1_letterIn_0 : decode cX1_letterIn 0 = .ok (.iconst 4, 1) := by decide +kernel
theorem dX1_letterIn_1 : decode cX1_letterIn 1 = .ok (.iload_n 1, 1) := by decide +kernel
theorem dX1_letterIn_10 : decode cX1_letterIn 10 = .ok (.iload_n 3, 1) := by decide +kernel
theorem dX1_letterIn_11 : decode cX1_letterIn 11 = .ok (.aload_n 0, 1) := by decide +kernel
theorem dX1_letterIn_12 : decode cX1_letterIn 12 = .ok (.invokevirtual 60, 3) := by decide +kernel
theorem dX1_letterIn_15 : decode cX1_letterIn 15 = .ok (.if_icmp .ge 11, 3) := by decide +kernel
theorem dX1_letterIn_18 : decode cX1_letterIn 18 = .ok (.aload_n 0, 1) := by decide +kernel
theorem dX1_letterIn_19 : decode cX1_letterIn 19 = .ok (.iload_n 3, 1) := by decide +kernel
theorem dX1_letterIn_2 : decode cX1_letterIn 2 = .ok (.imul, 1) := by decide +kernel
theorem dX1_letterIn_20 : decode cX1_letterIn 20 = .ok (.invokevirtual 40, 3) := by decide +kernel
theorem dX1_letterIn_23 : decode cX1_letterIn 23 = .ok (.goto 5, 3) := by decide +kernel
theorem dX1_letterIn_26 : decode cX1_letterIn 26 = .ok (.bipush 32, 2) := by decide +kernel
theorem dX1_letterIn_28 : decode cX1_letterIn 28 = .ok (.ireturn, 1) := by decide +kernel
theorem dX1_letterIn_3 : decode cX1_letterIn 3 = .ok (.iload_n 2, 1) := by decide +kernel
theorem dX1_letterIn_4 : decode cX1_letterIn 4 = .ok (.iadd, 1) := by decide +kernel
theorem dX1_letterIn_5 : decode cX1_letterIn 5 = .ok (.istore_n 3, 1) := by decide +kernel
theorem dX1_letterIn_6 : decode cX1_letterIn 6 = .ok (.iload_n 3, 1) := by decide +kernel
theorem dX1_letterIn_7 : decode cX1_letterIn 7 = .ok (.ifCond .lt 19, 3) := by decide +kernel
set_option maxHeartbeats 4000000 in
set_option maxRecDepth 100000 in
theorem T_X1_letterIn (l : Launch) (D : va_G) (K : Nat → ClassId) (Z Y : Nat → Nat) (ad : Nat → Nat) (d : dSt) (t : tSt) (hok : okX t) (i0 : Nat) (hi0 : sG i0) (x1 : Int32) (hx1 : (0 : Int) ≤ x1.toInt ∧ x1.toInt ≤ 2147483647) (x2 : Int32) (hx2 : (0 : Int) ≤ x2.toInt ∧ x2.toInt ≤ 3) : tMet l yX1_letterIn cX1_letterIn 4 (some .int) (rmD 4 0 0) D K Z Y [.ref (Z i0), .int x1, .int x2] ((WX d) K ad t) (QI D K (fun (r : Int32) (u : Unit) => (0 : Int) ≤ r.toInt ∧ r.toInt ≤ 255) (fun (_ : Unit) => (WX d) K ad t)) 0 0 := by
  refine t_met RX1 ⟨rfl, by decide +kernel⟩ (Nat.le_of_ble_eq_true rfl) ?_
  intro p e s m below meth c A ls C hE hZ hr hlocks hA hP hD hS hl
  have hl : lv_has ls 4 [(0, .ref (Z i0)), (1, .int x1), (2, .int x2)] := hl
  refine lv_iconst (v := 4) C.1 C.2.1 dX1_letterIn_0 (by decide) ?_
  refine lv_iload_n C.1 C.2.1 dX1_letterIn_1 rfl (lv_at hl 1 rfl) ?_
  obtain ⟨v_1, e_2⟩ : ∃ z, z = (4 : Int32) * (x1 : Int32) := ⟨_, rfl⟩
  refine k_imul (v := v_1) C e_2.symm dX1_letterIn_2 ?_
  refine lv_iload_n C.1 C.2.1 dX1_letterIn_3 rfl (lv_at hl 2 rfl) ?_
  obtain ⟨v_4, e_5⟩ : ∃ z, z = (v_1 : Int32) + (x2 : Int32) := ⟨_, rfl⟩
  refine k_iadd (v := v_4) C e_5.symm dX1_letterIn_4 ?_
  refine lv_istore_n (lv' := [(3, .int v_4), (0, .ref (Z i0)), (1, .int x1), (2, .int x2)]) C.1 C.2.1 dX1_letterIn_5 rfl hl (by decide) rfl (fun ls hl => ?_)
  have hl : lv_has ls 4 [(0, .ref (Z i0)), (1, .int x1), (2, .int x2), (3, .int v_4)] := lv_sub hl [1, 2, 3, 0] rfl
  refine lv_iload_n C.1 C.2.1 dX1_letterIn_6 rfl (lv_at hl 3 rfl) ?_
  refine lv_if_lt (tgt := 26) C.1 C.2.1 dX1_letterIn_7 (by decide) (fun c_7 => ?_) (fun c_7 => ?_)
  · replace c_7 : v_4.toInt < 0 := i_lt c_7
    refine lv_bipush (v := 32) C.1 C.2.1 dX1_letterIn_26 (by decide) ?_
    exact g_iret C hr hlocks hP hD hS rfl () rfl ⟨by decide, by decide⟩ (Nat.le_of_ble_eq_true rfl) (Nat.le_of_ble_eq_true rfl) dX1_letterIn_28
  · replace c_7 : 0 ≤ v_4.toInt := i_nlt c_7
    refine lv_iload_n C.1 C.2.1 dX1_letterIn_10 rfl (lv_at hl 3 rfl) ?_
    refine lv_aload_n C.1 C.2.1 dX1_letterIn_11 rfl (lv_at hl 0 rfl) ?_
    refine g_Ti (As := []) (rest := [.int v_4]) C hP hD hS hA (TJ_length l D K Z Y ((WX d) K ad t) i0 (sG_lt hi0)) hE hZ (uwV m_20_10 m_14_22 m_14_23 m_14_8 m_15_0) (hdV 0 (by decide +kernel) rfl) ⟨Nat.le_of_ble_eq_true rfl, Nat.le_of_ble_eq_true rfl⟩ rfl rfl (i0 := i0) (sG_lt hi0) rfl rfl hl.1 (Nat.le_of_ble_eq_true rfl) dX1_letterIn_12 ⟨Nat.le_of_ble_eq_true rfl, Nat.le_of_ble_eq_true rfl⟩ (fun r_8 u_r_8 H locs hw hP hD hS => ?_)
    have h_9 : r_8.toInt = sL i0 := hw
    have h_10 := sG_len hi0
    refine lv_icmp_ge (tgt := 26) C.1 C.2.1 dX1_letterIn_15 (by decide) (fun c_11 => ?_) (fun c_11 => ?_)
    · replace c_11 : r_8.toInt ≤ v_4.toInt := i_le c_11
      refine lv_bipush (v := 32) C.1 C.2.1 dX1_letterIn_26 (by decide) ?_
      exact g_iret C hr hlocks hP hD hS rfl () rfl ⟨by decide, by decide⟩ (Nat.le_of_ble_eq_true rfl) (Nat.le_of_ble_eq_true rfl) dX1_letterIn_28
    · replace c_11 : v_4.toInt < r_8.toInt := i_nle c_11
      refine lv_aload_n C.1 C.2.1 dX1_letterIn_18 rfl (lv_at hl 0 rfl) ?_
      refine lv_iload_n C.1 C.2.1 dX1_letterIn_19 rfl (lv_at hl 3 rfl) ?_
      refine g_Ti (As := [.int v_4]) (rest := []) C hP hD hS hA (TJ_charAt l D K Z Y ((WX d) K ad t) i0 (sG_lt hi0) v_4 (show 0 ≤ v_4.toInt ∧ v_4.toInt < sL i0 from by omega)) hE hZ (uwV m_17_20 m_17_21 m_17_22 m_14_8 m_17_23) (hdV 1 (by decide +kernel) rfl) ⟨Nat.le_of_ble_eq_true rfl, Nat.le_of_ble_eq_true rfl⟩ rfl rfl (i0 := i0) (sG_lt hi0) rfl rfl hl.1 (Nat.le_of_ble_eq_true rfl) dX1_letterIn_20 ⟨Nat.le_of_ble_eq_true rfl, Nat.le_of_ble_eq_true rfl⟩ (fun r_12 u_r_12 H locs hw hP hD hS => ?_)
      have er_12 : r_12 = (sByt i0).getD (v_4 : Int32).toNatClampNeg 0 := hw
      have h_13 : (32 : Int) ≤ r_12.toInt ∧ r_12.toInt ≤ 126 := by rw [er_12]; exact sByt_rr (sG_lt hi0) (by omega) (by omega)
      refine lv_goto (tgt := 28) C.1 C.2.1 dX1_letterIn_23 (by decide) ?_
      exact g_iret C hr hlocks hP hD hS rfl () rfl ⟨by omega, by omega⟩ (Nat.le_of_ble_eq_true rfl) (Nat.le_of_ble_eq_true rfl) dX1_letterIn_28

theorem dX1_opOf_0 : decode cX1_opOf 0 = .ok (.iload_n 0, 1) := by decide +kernel
theorem dX1_opOf_1 : decode cX1_opOf 1 = .ok (.iconst 5, 1) := by decide +kernel
theorem dX1_opOf_100 : decode cX1_opOf 100 = .ok (.iload_n 1, 1) := by decide +kernel
theorem dX1_opOf_101 : decode cX1_opOf 101 = .ok (.iadd, 1) := by decide +kernel
theorem dX1_opOf_102 : decode cX1_opOf 102 = .ok (.goto 4, 3) := by decide +kernel
theorem dX1_opOf_105 : decode cX1_opOf 105 = .ok (.iconst (-1), 1) := by decide +kernel
theorem dX1_opOf_106 : decode cX1_opOf 106 = .ok (.ireturn, 1) := by decide +kernel
theorem dX1_opOf_107 : decode cX1_opOf 107 = .ok (.iload_n 0, 1) := by decide +kernel
theorem dX1_opOf_108 : decode cX1_opOf 108 = .ok (.bipush 56, 2) := by decide +kernel
theorem dX1_opOf_110 : decode cX1_opOf 110 = .ok (.if_icmp .ge 24, 3) := by decide +kernel
theorem dX1_opOf_113 : decode cX1_opOf 113 = .ok (.iload_n 1, 1) := by decide +kernel
theorem dX1_opOf_114 : decode cX1_opOf 114 = .ok (.iconst 4, 1) := by decide +kernel
theorem dX1_opOf_115 : decode cX1_opOf 115 = .ok (.if_icmp .ge 17, 3) := by decide +kernel
theorem dX1_opOf_118 : decode cX1_opOf 118 = .ok (.bipush 105, 2) := by decide +kernel
theorem dX1_opOf_12 : decode cX1_opOf 12 = .ok (.iload_n 1, 1) := by decide +kernel
theorem dX1_opOf_120 : decode cX1_opOf 120 = .ok (.iconst 4, 1) := by decide +kernel
theorem dX1_opOf_121 : decode cX1_opOf 121 = .ok (.iload_n 0, 1) := by decide +kernel
theorem dX1_opOf_122 : decode cX1_opOf 122 = .ok (.bipush 48, 2) := by decide +kernel
theorem dX1_opOf_124 : decode cX1_opOf 124 = .ok (.isub, 1) := by decide +kernel
theorem dX1_opOf_125 : decode cX1_opOf 125 = .ok (.imul, 1) := by decide +kernel
theorem dX1_opOf_126 : decode cX1_opOf 126 = .ok (.iadd, 1) := by decide +kernel
theorem dX1_opOf_127 : decode cX1_opOf 127 = .ok (.iload_n 1, 1) := by decide +kernel
theorem dX1_opOf_128 : decode cX1_opOf 128 = .ok (.iadd, 1) := by decide +kernel
theorem dX1_opOf_129 : decode cX1_opOf 129 = .ok (.goto 4, 3) := by decide +kernel
theorem dX1_opOf_13 : decode cX1_opOf 13 = .ok (.iconst 4, 1) := by decide +kernel
theorem dX1_opOf_132 : decode cX1_opOf 132 = .ok (.iconst (-1), 1) := by decide +kernel
theorem dX1_opOf_133 : decode cX1_opOf 133 = .ok (.ireturn, 1) := by decide +kernel
theorem dX1_opOf_134 : decode cX1_opOf 134 = .ok (.iload_n 0, 1) := by decide +kernel
theorem dX1_opOf_135 : decode cX1_opOf 135 = .ok (.bipush 81, 2) := by decide +kernel
theorem dX1_opOf_137 : decode cX1_opOf 137 = .ok (.iadd, 1) := by decide +kernel
theorem dX1_opOf_138 : decode cX1_opOf 138 = .ok (.ireturn, 1) := by decide +kernel
theorem dX1_opOf_14 : decode cX1_opOf 14 = .ok (.if_icmp .ge 9, 3) := by decide +kernel
theorem dX1_opOf_17 : decode cX1_opOf 17 = .ok (.iconst 5, 1) := by decide +kernel
theorem dX1_opOf_18 : decode cX1_opOf 18 = .ok (.iload_n 1, 1) := by decide +kernel
theorem dX1_opOf_19 : decode cX1_opOf 19 = .ok (.iadd, 1) := by decide +kernel
theorem dX1_opOf_2 : decode cX1_opOf 2 = .ok (.if_icmp .ge 5, 3) := by decide +kernel
theorem dX1_opOf_20 : decode cX1_opOf 20 = .ok (.goto 4, 3) := by decide +kernel
theorem dX1_opOf_23 : decode cX1_opOf 23 = .ok (.iconst (-1), 1) := by decide +kernel
theorem dX1_opOf_24 : decode cX1_opOf 24 = .ok (.ireturn, 1) := by decide +kernel
theorem dX1_opOf_25 : decode cX1_opOf 25 = .ok (.iload_n 0, 1) := by decide +kernel
theorem dX1_opOf_26 : decode cX1_opOf 26 = .ok (.bipush 6, 2) := by decide +kernel
theorem dX1_opOf_28 : decode cX1_opOf 28 = .ok (.if_icmp .ne 18, 3) := by decide +kernel
theorem dX1_opOf_31 : decode cX1_opOf 31 = .ok (.iload_n 1, 1) := by decide +kernel
theorem dX1_opOf_32 : decode cX1_opOf 32 = .ok (.bipush 6, 2) := by decide +kernel
theorem dX1_opOf_34 : decode cX1_opOf 34 = .ok (.if_icmp .ge 10, 3) := by decide +kernel
theorem dX1_opOf_37 : decode cX1_opOf 37 = .ok (.bipush 9, 2) := by decide +kernel
theorem dX1_opOf_39 : decode cX1_opOf 39 = .ok (.iload_n 1, 1) := by decide +kernel
theorem dX1_opOf_40 : decode cX1_opOf 40 = .ok (.iadd, 1) := by decide +kernel
theorem dX1_opOf_41 : decode cX1_opOf 41 = .ok (.goto 4, 3) := by decide +kernel
theorem dX1_opOf_44 : decode cX1_opOf 44 = .ok (.iconst (-1), 1) := by decide +kernel
theorem dX1_opOf_45 : decode cX1_opOf 45 = .ok (.ireturn, 1) := by decide +kernel
theorem dX1_opOf_46 : decode cX1_opOf 46 = .ok (.iload_n 0, 1) := by decide +kernel
theorem dX1_opOf_47 : decode cX1_opOf 47 = .ok (.bipush 39, 2) := by decide +kernel
theorem dX1_opOf_49 : decode cX1_opOf 49 = .ok (.if_icmp .ge 8, 3) := by decide +kernel
theorem dX1_opOf_5 : decode cX1_opOf 5 = .ok (.iload_n 0, 1) := by decide +kernel
theorem dX1_opOf_52 : decode cX1_opOf 52 = .ok (.iload_n 0, 1) := by decide +kernel
theorem dX1_opOf_53 : decode cX1_opOf 53 = .ok (.bipush 8, 2) := by decide +kernel
theorem dX1_opOf_55 : decode cX1_opOf 55 = .ok (.iadd, 1) := by decide +kernel
theorem dX1_opOf_56 : decode cX1_opOf 56 = .ok (.ireturn, 1) := by decide +kernel
theorem dX1_opOf_57 : decode cX1_opOf 57 = .ok (.iload_n 0, 1) := by decide +kernel
theorem dX1_opOf_58 : decode cX1_opOf 58 = .ok (.bipush 39, 2) := by decide +kernel
theorem dX1_opOf_6 : decode cX1_opOf 6 = .ok (.ireturn, 1) := by decide +kernel
theorem dX1_opOf_60 : decode cX1_opOf 60 = .ok (.if_icmp .ne 18, 3) := by decide +kernel
theorem dX1_opOf_63 : decode cX1_opOf 63 = .ok (.iload_n 1, 1) := by decide +kernel
theorem dX1_opOf_64 : decode cX1_opOf 64 = .ok (.bipush 10, 2) := by decide +kernel
theorem dX1_opOf_66 : decode cX1_opOf 66 = .ok (.if_icmp .ge 10, 3) := by decide +kernel
theorem dX1_opOf_69 : decode cX1_opOf 69 = .ok (.bipush 47, 2) := by decide +kernel
theorem dX1_opOf_7 : decode cX1_opOf 7 = .ok (.iload_n 0, 1) := by decide +kernel
theorem dX1_opOf_71 : decode cX1_opOf 71 = .ok (.iload_n 1, 1) := by decide +kernel
theorem dX1_opOf_72 : decode cX1_opOf 72 = .ok (.iadd, 1) := by decide +kernel
theorem dX1_opOf_73 : decode cX1_opOf 73 = .ok (.goto 4, 3) := by decide +kernel
theorem dX1_opOf_76 : decode cX1_opOf 76 = .ok (.iconst (-1), 1) := by decide +kernel
theorem dX1_opOf_77 : decode cX1_opOf 77 = .ok (.ireturn, 1) := by decide +kernel
theorem dX1_opOf_78 : decode cX1_opOf 78 = .ok (.iload_n 0, 1) := by decide +kernel
theorem dX1_opOf_79 : decode cX1_opOf 79 = .ok (.bipush 48, 2) := by decide +kernel
theorem dX1_opOf_8 : decode cX1_opOf 8 = .ok (.iconst 5, 1) := by decide +kernel
theorem dX1_opOf_81 : decode cX1_opOf 81 = .ok (.if_icmp .ge 26, 3) := by decide +kernel
theorem dX1_opOf_84 : decode cX1_opOf 84 = .ok (.iload_n 1, 1) := by decide +kernel
theorem dX1_opOf_85 : decode cX1_opOf 85 = .ok (.bipush 6, 2) := by decide +kernel
theorem dX1_opOf_87 : decode cX1_opOf 87 = .ok (.if_icmp .ge 18, 3) := by decide +kernel
theorem dX1_opOf_9 : decode cX1_opOf 9 = .ok (.if_icmp .ne 16, 3) := by decide +kernel
theorem dX1_opOf_90 : decode cX1_opOf 90 = .ok (.bipush 57, 2) := by decide +kernel
theorem dX1_opOf_92 : decode cX1_opOf 92 = .ok (.bipush 6, 2) := by decide +kernel
theorem dX1_opOf_94 : decode cX1_opOf 94 = .ok (.iload_n 0, 1) := by decide +kernel
theorem dX1_opOf_95 : decode cX1_opOf 95 = .ok (.bipush 40, 2) := by decide +kernel
theorem dX1_opOf_97 : decode cX1_opOf 97 = .ok (.isub, 1) := by decide +kernel
theorem dX1_opOf_98 : decode cX1_opOf 98 = .ok (.imul, 1) := by decide +kernel
theorem dX1_opOf_99 : decode cX1_opOf 99 = .ok (.iadd, 1) := by decide +kernel
set_option maxHeartbeats 4000000 in
set_option maxRecDepth 100000 in
theorem T_X1_opOf (l : Launch) (D : va_G) (K : Nat → ClassId) (Z Y : Nat → Nat) (ad : Nat → Nat) (d : dSt) (t : tSt) (hok : okX t) (x0 : Int32) (hx0 : (0 : Int) ≤ x0.toInt ∧ x0.toInt ≤ 63) (x1 : Int32) (hx1 : (0 : Int) ≤ x1.toInt ∧ x1.toInt ≤ 63) : tMet l yX1_opOf cX1_opOf 2 (some .int) (rmD 0 0 0) D K Z Y [.int x0, .int x1] ((WX d) K ad t) (QI D K (fun (r : Int32) (u : Unit) => (-1 : Int) ≤ r.toInt ∧ r.toInt ≤ 255) (fun (_ : Unit) => (WX d) K ad t)) 0 0 := by
  refine t_met RX1 ⟨rfl, by decide +kernel⟩ (Nat.le_of_ble_eq_true rfl) ?_
  intro p e s m below meth c A ls C hE hZ hr hlocks hA hP hD hS hl
  have hl : lv_has ls 2 [(0, .int x0), (1, .int x1)] := hl
  refine lv_iload_n C.1 C.2.1 dX1_opOf_0 rfl (lv_at hl 0 rfl) ?_
  refine lv_iconst (v := 5) C.1 C.2.1 dX1_opOf_1 (by decide) ?_
  refine lv_icmp_ge (tgt := 7) C.1 C.2.1 dX1_opOf_2 (by decide) (fun c_1 => ?_) (fun c_1 => ?_)
  · replace c_1 : 5 ≤ x0.toInt := i_le c_1
    refine lv_iload_n C.1 C.2.1 dX1_opOf_7 rfl (lv_at hl 0 rfl) ?_
    refine lv_iconst (v := 5) C.1 C.2.1 dX1_opOf_8 (by decide) ?_
    refine lv_icmp_ne (tgt := 25) C.1 C.2.1 dX1_opOf_9 (by decide) (fun c_2 => ?_) (fun c_2 => ?_)
    · replace c_2 : ¬ x0.toInt = 5 := i_ne c_2
      refine lv_iload_n C.1 C.2.1 dX1_opOf_25 rfl (lv_at hl 0 rfl) ?_
      refine lv_bipush (v := 6) C.1 C.2.1 dX1_opOf_26 (by decide) ?_
      refine lv_icmp_ne (tgt := 46) C.1 C.2.1 dX1_opOf_28 (by decide) (fun c_3 => ?_) (fun c_3 => ?_)
      · replace c_3 : ¬ x0.toInt = 6 := i_ne c_3
        refine lv_iload_n C.1 C.2.1 dX1_opOf_46 rfl (lv_at hl 0 rfl) ?_
        refine lv_bipush (v := 39) C.1 C.2.1 dX1_opOf_47 (by decide) ?_
        refine lv_icmp_ge (tgt := 57) C.1 C.2.1 dX1_opOf_49 (by decide) (fun c_4 => ?_) (fun c_4 => ?_)
        · replace c_4 : 39 ≤ x0.toInt := i_le c_4
          refine lv_iload_n C.1 C.2.1 dX1_opOf_57 rfl (lv_at hl 0 rfl) ?_
          refine lv_bipush (v := 39) C.1 C.2.1 dX1_opOf_58 (by decide) ?_
          refine lv_icmp_ne (tgt := 78) C.1 C.2.1 dX1_opOf_60 (by decide) (fun c_5 => ?_) (fun c_5 => ?_)
          · replace c_5 : ¬ x0.toInt = 39 := i_ne c_5
            refine lv_iload_n C.1 C.2.1 dX1_opOf_78 rfl (lv_at hl 0 rfl) ?_
            refine lv_bipush (v := 48) C.1 C.2.1 dX1_opOf_79 (by decide) ?_
            refine lv_icmp_ge (tgt := 107) C.1 C.2.1 dX1_opOf_81 (by decide) (fun c_6 => ?_) (fun c_6 => ?_)
            · replace c_6 : 48 ≤ x0.toInt := i_le c_6
              refine lv_iload_n C.1 C.2.1 dX1_opOf_107 rfl (lv_at hl 0 rfl) ?_
              refine lv_bipush (v := 56) C.1 C.2.1 dX1_opOf_108 (by decide) ?_
              refine lv_icmp_ge (tgt := 134) C.1 C.2.1 dX1_opOf_110 (by decide) (fun c_7 => ?_) (fun c_7 => ?_)
              · replace c_7 : 56 ≤ x0.toInt := i_le c_7
                refine lv_iload_n C.1 C.2.1 dX1_opOf_134 rfl (lv_at hl 0 rfl) ?_
                refine lv_bipush (v := 81) C.1 C.2.1 dX1_opOf_135 (by decide) ?_
                obtain ⟨v_8, e_9⟩ : ∃ z, z = (x0 : Int32) + (81 : Int32) := ⟨_, rfl⟩
                have h_10 : v_8.toInt = x0.toInt + 81 := by rw [e_9]; exact ti_iadd (by show (_ : Int) ≤ x0.toInt + 81; omega) (by show x0.toInt + 81 < (_ : Int); omega)
                refine k_iadd (v := v_8) C e_9.symm dX1_opOf_137 ?_
                exact g_iret C hr hlocks hP hD hS rfl () rfl ⟨by omega, by omega⟩ (Nat.le_of_ble_eq_true rfl) (Nat.le_of_ble_eq_true rfl) dX1_opOf_138
              · replace c_7 : x0.toInt < 56 := i_nle c_7
                refine lv_iload_n C.1 C.2.1 dX1_opOf_113 rfl (lv_at hl 1 rfl) ?_
                refine lv_iconst (v := 4) C.1 C.2.1 dX1_opOf_114 (by decide) ?_
                refine lv_icmp_ge (tgt := 132) C.1 C.2.1 dX1_opOf_115 (by decide) (fun c_11 => ?_) (fun c_11 => ?_)
                · replace c_11 : 4 ≤ x1.toInt := i_le c_11
                  refine lv_iconst (v := (-1)) C.1 C.2.1 dX1_opOf_132 (by decide) ?_
                  exact g_iret C hr hlocks hP hD hS rfl () rfl ⟨by decide, by decide⟩ (Nat.le_of_ble_eq_true rfl) (Nat.le_of_ble_eq_true rfl) dX1_opOf_133
                · replace c_11 : x1.toInt < 4 := i_nle c_11
                  refine lv_bipush (v := 105) C.1 C.2.1 dX1_opOf_118 (by decide) ?_
                  refine lv_iconst (v := 4) C.1 C.2.1 dX1_opOf_120 (by decide) ?_
                  refine lv_iload_n C.1 C.2.1 dX1_opOf_121 rfl (lv_at hl 0 rfl) ?_
                  refine lv_bipush (v := 48) C.1 C.2.1 dX1_opOf_122 (by decide) ?_
                  obtain ⟨v_12, e_13⟩ : ∃ z, z = (x0 : Int32) - (48 : Int32) := ⟨_, rfl⟩
                  have h_14 : v_12.toInt = x0.toInt - 48 := by rw [e_13]; exact ti_isub (by show (_ : Int) ≤ x0.toInt - 48; omega) (by show x0.toInt - 48 < (_ : Int); omega)
                  refine k_isub (v := v_12) C e_13.symm dX1_opOf_124 ?_
                  obtain ⟨v_15, e_16⟩ : ∃ z, z = (4 : Int32) * (v_12 : Int32) := ⟨_, rfl⟩
                  have h_17 : v_15.toInt = 4 * v_12.toInt := by rw [e_16]; exact ti_mull (k := 4) (by decide) (by omega) (by omega)
                  refine k_imul (v := v_15) C e_16.symm dX1_opOf_125 ?_
                  obtain ⟨v_18, e_19⟩ : ∃ z, z = (105 : Int32) + (v_15 : Int32) := ⟨_, rfl⟩
                  have h_20 : v_18.toInt = 105 + v_15.toInt := by rw [e_19]; exact ti_iadd (by show (_ : Int) ≤ 105 + v_15.toInt; omega) (by show 105 + v_15.toInt < (_ : Int); omega)
                  refine k_iadd (v := v_18) C e_19.symm dX1_opOf_126 ?_
                  refine lv_iload_n C.1 C.2.1 dX1_opOf_127 rfl (lv_at hl 1 rfl) ?_
                  obtain ⟨v_21, e_22⟩ : ∃ z, z = (v_18 : Int32) + (x1 : Int32) := ⟨_, rfl⟩
                  have h_23 : v_21.toInt = v_18.toInt + x1.toInt := by rw [e_22]; exact ti_iadd (by show (_ : Int) ≤ v_18.toInt + x1.toInt; omega) (by show v_18.toInt + x1.toInt < (_ : Int); omega)
                  refine k_iadd (v := v_21) C e_22.symm dX1_opOf_128 ?_
                  refine lv_goto (tgt := 133) C.1 C.2.1 dX1_opOf_129 (by decide) ?_
                  exact g_iret C hr hlocks hP hD hS rfl () rfl ⟨by omega, by omega⟩ (Nat.le_of_ble_eq_true rfl) (Nat.le_of_ble_eq_true rfl) dX1_opOf_133
            · replace c_6 : x0.toInt < 48 := i_nle c_6
              refine lv_iload_n C.1 C.2.1 dX1_opOf_84 rfl (lv_at hl 1 rfl) ?_
              refine lv_bipush (v := 6) C.1 C.2.1 dX1_opOf_85 (by decide) ?_
              refine lv_icmp_ge (tgt := 105) C.1 C.2.1 dX1_opOf_87 (by decide) (fun c_24 => ?_) (fun c_24 => ?_)
              · replace c_24 : 6 ≤ x1.toInt := i_le c_24
                refine lv_iconst (v := (-1)) C.1 C.2.1 dX1_opOf_105 (by decide) ?_
                exact g_iret C hr hlocks hP hD hS rfl () rfl ⟨by decide, by decide⟩ (Nat.le_of_ble_eq_true rfl) (Nat.le_of_ble_eq_true rfl) dX1_opOf_106
              · replace c_24 : x1.toInt < 6 := i_nle c_24
                refine lv_bipush (v := 57) C.1 C.2.1 dX1_opOf_90 (by decide) ?_
                refine lv_bipush (v := 6) C.1 C.2.1 dX1_opOf_92 (by decide) ?_
                refine lv_iload_n C.1 C.2.1 dX1_opOf_94 rfl (lv_at hl 0 rfl) ?_
                refine lv_bipush (v := 40) C.1 C.2.1 dX1_opOf_95 (by decide) ?_
                obtain ⟨v_25, e_26⟩ : ∃ z, z = (x0 : Int32) - (40 : Int32) := ⟨_, rfl⟩
                have h_27 : v_25.toInt = x0.toInt - 40 := by rw [e_26]; exact ti_isub (by show (_ : Int) ≤ x0.toInt - 40; omega) (by show x0.toInt - 40 < (_ : Int); omega)
                refine k_isub (v := v_25) C e_26.symm dX1_opOf_97 ?_
                obtain ⟨v_28, e_29⟩ : ∃ z, z = (6 : Int32) * (v_25 : Int32) := ⟨_, rfl⟩
                have h_30 : v_28.toInt = 6 * v_25.toInt := by rw [e_29]; exact ti_mull (k := 6) (by decide) (by omega) (by omega)
                refine k_imul (v := v_28) C e_29.symm dX1_opOf_98 ?_
                obtain ⟨v_31, e_32⟩ : ∃ z, z = (57 : Int32) + (v_28 : Int32) := ⟨_, rfl⟩
                have h_33 : v_31.toInt = 57 + v_28.toInt := by rw [e_32]; exact ti_iadd (by show (_ : Int) ≤ 57 + v_28.toInt; omega) (by show 57 + v_28.toInt < (_ : Int); omega)
                refine k_iadd (v := v_31) C e_32.symm dX1_opOf_99 ?_
                refine lv_iload_n C.1 C.2.1 dX1_opOf_100 rfl (lv_at hl 1 rfl) ?_
                obtain ⟨v_34, e_35⟩ : ∃ z, z = (v_31 : Int32) + (x1 : Int32) := ⟨_, rfl⟩
                have h_36 : v_34.toInt = v_31.toInt + x1.toInt := by rw [e_35]; exact ti_iadd (by show (_ : Int) ≤ v_31.toInt + x1.toInt; omega) (by show v_31.toInt + x1.toInt < (_ : Int); omega)
                refine k_iadd (v := v_34) C e_35.symm dX1_opOf_101 ?_
                refine lv_goto (tgt := 106) C.1 C.2.1 dX1_opOf_102 (by decide) ?_
                exact g_iret C hr hlocks hP hD hS rfl () rfl ⟨by omega, by omega⟩ (Nat.le_of_ble_eq_true rfl) (Nat.le_of_ble_eq_true rfl) dX1_opOf_106
          · replace c_5 : x0.toInt = 39 := i_eq c_5
            refine lv_iload_n C.1 C.2.1 dX1_opOf_63 rfl (lv_at hl 1 rfl) ?_
            refine lv_bipush (v := 10) C.1 C.2.1 dX1_opOf_64 (by decide) ?_
            refine lv_icmp_ge (tgt := 76) C.1 C.2.1 dX1_opOf_66 (by decide) (fun c_37 => ?_) (fun c_37 => ?_)
            · replace c_37 : 10 ≤ x1.toInt := i_le c_37
              refine lv_iconst (v := (-1)) C.1 C.2.1 dX1_opOf_76 (by decide) ?_
              exact g_iret C hr hlocks hP hD hS rfl () rfl ⟨by decide, by decide⟩ (Nat.le_of_ble_eq_true rfl) (Nat.le_of_ble_eq_true rfl) dX1_opOf_77
            · replace c_37 : x1.toInt < 10 := i_nle c_37
              refine lv_bipush (v := 47) C.1 C.2.1 dX1_opOf_69 (by decide) ?_
              refine lv_iload_n C.1 C.2.1 dX1_opOf_71 rfl (lv_at hl 1 rfl) ?_
              obtain ⟨v_38, e_39⟩ : ∃ z, z = (47 : Int32) + (x1 : Int32) := ⟨_, rfl⟩
              have h_40 : v_38.toInt = 47 + x1.toInt := by rw [e_39]; exact ti_iadd (by show (_ : Int) ≤ 47 + x1.toInt; omega) (by show 47 + x1.toInt < (_ : Int); omega)
              refine k_iadd (v := v_38) C e_39.symm dX1_opOf_72 ?_
              refine lv_goto (tgt := 77) C.1 C.2.1 dX1_opOf_73 (by decide) ?_
              exact g_iret C hr hlocks hP hD hS rfl () rfl ⟨by omega, by omega⟩ (Nat.le_of_ble_eq_true rfl) (Nat.le_of_ble_eq_true rfl) dX1_opOf_77
        · replace c_4 : x0.toInt < 39 := i_nle c_4
          refine lv_iload_n C.1 C.2.1 dX1_opOf_52 rfl (lv_at hl 0 rfl) ?_
          refine lv_bipush (v := 8) C.1 C.2.1 dX1_opOf_53 (by decide) ?_
          obtain ⟨v_41, e_42⟩ : ∃ z, z = (x0 : Int32) + (8 : Int32) := ⟨_, rfl⟩
          have h_43 : v_41.toInt = x0.toInt + 8 := by rw [e_42]; exact ti_iadd (by show (_ : Int) ≤ x0.toInt + 8; omega) (by show x0.toInt + 8 < (_ : Int); omega)
          refine k_iadd (v := v_41) C e_42.symm dX1_opOf_55 ?_
          exact g_iret C hr hlocks hP hD hS rfl () rfl ⟨by omega, by omega⟩ (Nat.le_of_ble_eq_true rfl) (Nat.le_of_ble_eq_true rfl) dX1_opOf_56
      · replace c_3 : x0.toInt = 6 := i_eq c_3
        refine lv_iload_n C.1 C.2.1 dX1_opOf_31 rfl (lv_at hl 1 rfl) ?_
        refine lv_bipush (v := 6) C.1 C.2.1 dX1_opOf_32 (by decide) ?_
        refine lv_icmp_ge (tgt := 44) C.1 C.2.1 dX1_opOf_34 (by decide) (fun c_44 => ?_) (fun c_44 => ?_)
        · replace c_44 : 6 ≤ x1.toInt := i_le c_44
          refine lv_iconst (v := (-1)) C.1 C.2.1 dX1_opOf_44 (by decide) ?_
          exact g_iret C hr hlocks hP hD hS rfl () rfl ⟨by decide, by decide⟩ (Nat.le_of_ble_eq_true rfl) (Nat.le_of_ble_eq_true rfl) dX1_opOf_45
        · replace c_44 : x1.toInt < 6 := i_nle c_44
          refine lv_bipush (v := 9) C.1 C.2.1 dX1_opOf_37 (by decide) ?_
          refine lv_iload_n C.1 C.2.1 dX1_opOf_39 rfl (lv_at hl 1 rfl) ?_
          obtain ⟨v_45, e_46⟩ : ∃ z, z = (9 : Int32) + (x1 : Int32) := ⟨_, rfl⟩
          have h_47 : v_45.toInt = 9 + x1.toInt := by rw [e_46]; exact ti_iadd (by show (_ : Int) ≤ 9 + x1.toInt; omega) (by show 9 + x1.toInt < (_ : Int); omega)
          refine k_iadd (v := v_45) C e_46.symm dX1_opOf_40 ?_
          refine lv_goto (tgt := 45) C.1 C.2.1 dX1_opOf_41 (by decide) ?_
          exact g_iret C hr hlocks hP hD hS rfl () rfl ⟨by omega, by omega⟩ (Nat.le_of_ble_eq_true rfl) (Nat.le_of_ble_eq_true rfl) dX1_opOf_45
    · replace c_2 : x0.toInt = 5 := i_eq c_2
      refine lv_iload_n C.1 C.2.1 dX1_opOf_12 rfl (lv_at hl 1 rfl) ?_
      refine lv_iconst (v := 4) C.1 C.2.1 dX1_opOf_13 (by decide) ?_
      refine lv_icmp_ge (tgt := 23) C.1 C.2.1 dX1_opOf_14 (by decide) (fun c_48 => ?_) (fun c_48 => ?_)
      · replace c_48 : 4 ≤ x1.toInt := i_le c_48
        refine lv_iconst (v := (-1)) C.1 C.2.1 dX1_opOf_23 (by decide) ?_
        exact g_iret C hr hlocks hP hD hS rfl () rfl ⟨by decide, by decide⟩ (Nat.le_of_ble_eq_true rfl) (Nat.le_of_ble_eq_true rfl) dX1_opOf_24
      · replace c_48 : x1.toInt < 4 := i_nle c_48
        refine lv_iconst (v := 5) C.1 C.2.1 dX1_opOf_17 (by decide) ?_
        refine lv_iload_n C.1 C.2.1 dX1_opOf_18 rfl (lv_at hl 1 rfl) ?_
        obtain ⟨v_49, e_50⟩ : ∃ z, z = (5 : Int32) + (x1 : Int32) := ⟨_, rfl⟩
        have h_51 : v_49.toInt = 5 + x1.toInt := by rw [e_50]; exact ti_iadd (by show (_ : Int) ≤ 5 + x1.toInt; omega) (by show 5 + x1.toInt < (_ : Int); omega)
        refine k_iadd (v := v_49) C e_50.symm dX1_opOf_19 ?_
        refine lv_goto (tgt := 24) C.1 C.2.1 dX1_opOf_20 (by decide) ?_
        exact g_iret C hr hlocks hP hD hS rfl () rfl ⟨by omega, by omega⟩ (Nat.le_of_ble_eq_true rfl) (Nat.le_of_ble_eq_true rfl) dX1_opOf_24
  · replace c_1 : x0.toInt < 5 := i_nle c_1
    refine lv_iload_n C.1 C.2.1 dX1_opOf_5 rfl (lv_at hl 0 rfl) ?_
    exact g_iret C hr hlocks hP hD hS rfl () rfl ⟨by omega, by omega⟩ (Nat.le_of_ble_eq_true rfl) (Nat.le_of_ble_eq_true rfl) dX1_opOf_6

theorem dX5_isAtEnd_0 : decode cX5_isAtEnd 0 = .ok (.aload_n 0, 1) := by decide +kernel
theorem dX5_isAtEnd_1 : decode cX5_isAtEnd 1 = .ok (.getfield 19, 3) := by decide +kernel
theorem dX5_isAtEnd_11 : decode cX5_isAtEnd 11 = .ok (.iconst 1, 1) := by decide +kernel
theorem dX5_isAtEnd_12 : decode cX5_isAtEnd 12 = .ok (.goto 4, 3) := by decide +kernel
theorem dX5_isAtEnd_15 : decode cX5_isAtEnd 15 = .ok (.iconst 0, 1) := by decide +kernel
theorem dX5_isAtEnd_16 : decode cX5_isAtEnd 16 = .ok (.ireturn, 1) := by decide +kernel
theorem dX5_isAtEnd_4 : decode cX5_isAtEnd 4 = .ok (.aload_n 0, 1) := by decide +kernel
theorem dX5_isAtEnd_5 : decode cX5_isAtEnd 5 = .ok (.getfield 23, 3) := by decide +kernel
theorem dX5_isAtEnd_8 : decode cX5_isAtEnd 8 = .ok (.if_icmp .lt 7, 3) := by decide +kernel
set_option maxHeartbeats 4000000 in
set_option maxRecDepth 100000 in
theorem T_X5_isAtEnd (l : Launch) (D : va_G) (K : Nat → ClassId) (Z Y : Nat → Nat) (ad : Nat → Nat) (d : dSt) (t : tSt) (hok : okX t)  : tMet l yX5_isAtEnd cX5_isAtEnd 1 (some .boolean) (rmD 0 0 0) D K Z Y [.ref (ad 24)] ((WX d) K ad t) (QI D K (fun (r : Int32) (u : Unit) => (0 : Int) ≤ r.toInt ∧ r.toInt ≤ 1) (fun (_ : Unit) => (WX d) K ad t)) 0 0 := by
  refine t_met RX5 ⟨rfl, by decide +kernel⟩ (Nat.le_of_ble_eq_true rfl) ?_
  intro p e s m below meth c A ls C hE hZ hr hlocks hA hP hD hS hl
  have hl : lv_has ls 1 [(0, .ref (ad 24))] := hl
  refine lv_aload_n C.1 C.2.1 dX5_isAtEnd_0 rfl (lv_at hl 0 rfl) ?_
  have h_1 : (0 : Int) ≤ (t.1 24 2).toInt ∧ (t.1 24 2).toInt ≤ 81 := hok.1 24 2
  refine k_get (v := .int (t.1 24 2)) C hP 24 rfl rfl inlX5 2 (by decide) m_19_9 rfl dX5_isAtEnd_1 ?_
  refine lv_aload_n C.1 C.2.1 dX5_isAtEnd_4 rfl (lv_at hl 0 rfl) ?_
  have h_2 : (-1 : Int) ≤ (t.1 24 3).toInt ∧ (t.1 24 3).toInt ≤ 80 := hok.1 24 3
  refine k_get (v := .int (t.1 24 3)) C hP 24 rfl rfl inlX5 3 (by decide) m_19_10 rfl dX5_isAtEnd_5 ?_
  refine lv_icmp_lt (tgt := 15) C.1 C.2.1 dX5_isAtEnd_8 (by decide) (fun c_3 => ?_) (fun c_3 => ?_)
  · replace c_3 : (t.1 24 2).toInt < (t.1 24 3).toInt := i_lt c_3
    refine lv_iconst (v := 0) C.1 C.2.1 dX5_isAtEnd_15 (by decide) ?_
    exact g_iret C hr hlocks hP hD hS (by decide) () rfl ⟨by decide, by decide⟩ (Nat.le_of_ble_eq_true rfl) (Nat.le_of_ble_eq_true rfl) dX5_isAtEnd_16
  · replace c_3 : (t.1 24 3).toInt ≤ (t.1 24 2).toInt := i_nlt c_3
    refine lv_iconst (v := 1) C.1 C.2.1 dX5_isAtEnd_11 (by decide) ?_
    refine lv_goto (tgt := 16) C.1 C.2.1 dX5_isAtEnd_12 (by decide) ?_
    exact g_iret C hr hlocks hP hD hS (by decide) () rfl ⟨by decide, by decide⟩ (Nat.le_of_ble_eq_true rfl) (Nat.le_of_ble_eq_true rfl) dX5_isAtEnd_16

theorem dX3_openData_0 : decode cX3_openData 0 = .ok (.aload_n 0, 1) := by decide +kernel
theorem dX3_openData_1 : decode cX3_openData 1 = .ok (.aload_n 0, 1) := by decide +kernel
theorem dX3_openData_11 : decode cX3_openData 11 = .ok (.aload_n 0, 1) := by decide +kernel
theorem dX3_openData_12 : decode cX3_openData 12 = .ok (.aload_n 0, 1) := by decide +kernel
theorem dX3_openData_13 : decode cX3_openData 13 = .ok (.getfield 21, 3) := by decide +kernel
theorem dX3_openData_16 : decode cX3_openData 16 = .ok (.getfield 74, 3) := by decide +kernel
theorem dX3_openData_19 : decode cX3_openData 19 = .ok (.putfield 82, 3) := by decide +kernel
theorem dX3_openData_2 : decode cX3_openData 2 = .ok (.getfield 21, 3) := by decide +kernel
theorem dX3_openData_22 : decode cX3_openData 22 = .ok (.iconst 3, 1) := by decide +kernel
theorem dX3_openData_23 : decode cX3_openData 23 = .ok (.ireturn, 1) := by decide +kernel
theorem dX3_openData_5 : decode cX3_openData 5 = .ok (.getfield 60, 3) := by decide +kernel
theorem dX3_openData_8 : decode cX3_openData 8 = .ok (.putfield 79, 3) := by decide +kernel
set_option maxHeartbeats 4000000 in
set_option maxRecDepth 100000 in
theorem T_X3_openData (l : Launch) (D : va_G) (K : Nat → ClassId) (Z Y : Nat → Nat) (ad : Nat → Nat) (d : dSt) (t : tSt) (hok : okX t)  : tMet l yX3_openData cX3_openData 1 (some .int) (rmD 0 0 0) D K Z Y [.ref (ad 7)] ((WX d) K ad t) (QI D K (fun (r : Int32) (u : tSt) => okX u ∧ frA [(7, 6), (7, 7)] [] [] [] t u ∧ (3 : Int) ≤ r.toInt ∧ r.toInt ≤ 3) (fun (u : tSt) => (WX d) K ad u)) 0 0 := by
  refine t_met RX3 ⟨rfl, by decide +kernel⟩ (Nat.le_of_ble_eq_true rfl) ?_
  intro p e s m below meth c A ls C hE hZ hr hlocks hA hP hD hS hl
  have hl : lv_has ls 1 [(0, .ref (ad 7))] := hl
  have hokt := hok
  have hfr : frA [(7, 6), (7, 7)] [] [] [] t t := frA_rf
  refine lv_aload_n C.1 C.2.1 dX3_openData_0 rfl (lv_at hl 0 rfl) ?_
  refine lv_aload_n C.1 C.2.1 dX3_openData_1 rfl (lv_at hl 0 rfl) ?_
  refine k_get (v := .ref (ad 29)) C hP 7 rfl rfl inlX3 0 (by decide) m_6_23 rfl dX3_openData_2 ?_
  have h_1 : (0 : Int) ≤ (t.1 29 2).toInt ∧ (t.1 29 2).toInt ≤ 1280 := hok.1 29 2
  refine k_get (v := .int (t.1 29 2)) C hP 29 rfl rfl inlX9 2 (by decide) m_71_16 rfl dX3_openData_5 ?_
  refine k_put (ws' := (WX d) K ad (uI t 7 6 (t.1 29 2))) (v := .int (t.1 29 2)) C hP hD hS 7 rfl rfl inlX3 tyX3_ok nmX3 6 (by decide) m_74_2 rfl rfl rfl rfl rfl dX3_openData_8 (fun H locs hP hD hS => ?_)
  have hok : okX (uI t 7 6 (t.1 29 2)) := ⟨okI_I hok.1 7 6 (t.1 29 2) (show (0 : Int) ≤ ((t.1 29 2) : Int32).toInt ∧ ((t.1 29 2) : Int32).toInt ≤ 1280 from ⟨by omega, by omega⟩), hok.2.1, trivial⟩
  have hfr : frA [(7, 6), (7, 7)] [] [] [] t (uI t 7 6 (t.1 29 2)) := frA_I hfr 7 6 _ rfl
  refine lv_aload_n C.1 C.2.1 dX3_openData_11 rfl (lv_at hl 0 rfl) ?_
  refine lv_aload_n C.1 C.2.1 dX3_openData_12 rfl (lv_at hl 0 rfl) ?_
  refine k_get (v := .ref (ad 29)) C hP 7 rfl rfl inlX3 0 (by decide) m_6_23 rfl dX3_openData_13 ?_
  have h_2 : (0 : Int) ≤ (t.1 29 4).toInt ∧ (t.1 29 4).toInt ≤ 1281 := hok.1 29 4
  refine k_get (v := .int (t.1 29 4)) C hP 29 rfl rfl inlX9 4 (by decide) m_73_17 rfl dX3_openData_16 ?_
  refine k_put (ws' := (WX d) K ad (uI (uI t 7 6 (t.1 29 2)) 7 7 (t.1 29 4))) (v := .int (t.1 29 4)) C hP hD hS 7 rfl rfl inlX3 tyX3_ok nmX3 7 (by decide) m_74_3 rfl rfl rfl rfl rfl dX3_openData_19 (fun H locs hP hD hS => ?_)
  have hok : okX (uI (uI t 7 6 (t.1 29 2)) 7 7 (t.1 29 4)) := ⟨okI_I hok.1 7 7 (t.1 29 4) (show (0 : Int) ≤ ((t.1 29 4) : Int32).toInt ∧ ((t.1 29 4) : Int32).toInt ≤ 1281 from ⟨by omega, by omega⟩), hok.2.1, trivial⟩
  have hfr : frA [(7, 6), (7, 7)] [] [] [] t (uI (uI t 7 6 (t.1 29 2)) 7 7 (t.1 29 4)) := frA_I hfr 7 7 _ rfl
  refine lv_iconst (v := 3) C.1 C.2.1 dX3_openData_22 (by decide) ?_
  exact g_iret C hr hlocks hP hD hS rfl (uI (uI t 7 6 (t.1 29 2)) 7 7 (t.1 29 4)) rfl ⟨hok, hfr, by decide, by decide⟩ (Nat.le_of_ble_eq_true rfl) (Nat.le_of_ble_eq_true rfl) dX3_openData_23
