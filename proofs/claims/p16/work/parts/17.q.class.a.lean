set_option maxHeartbeats 4000000 in
set_option maxRecDepth 100000 in
theorem U_X1_code (l : Launch) (D : va_G) (K : Nat → ClassId) (Z Y : Nat → Nat) (ad : Nat → Nat) (d : dSt) (t : tSt) (hok : okX t) (x0 : Int32) (hx0 : (-128 : Int) ≤ x0.toInt ∧ x0.toInt ≤ 127) : tMet l yX1_code cX1_code 2 (some .int) (rmD 5 0 0) D K Z Y [.int x0] ((WX d) K ad t) (QI D K (fun (r : Int32) (u : Unit) => (0 : Int) ≤ r.toInt ∧ r.toInt ≤ 399 ∧ (r = bO x0)) (fun (_ : Unit) => (WX d) K ad t)) 0 0 := by
  refine t_met RX1 ⟨rfl, by decide +kernel⟩ (Nat.le_of_ble_eq_true rfl) ?_
  intro p e s m below meth c A ls C hE hZ hr hlocks hA hP hD hS hl
  have hl : lv_has ls 2 [(0, .int x0)] := hl
  have L_21 : ∀ (w21_1 : Int32) (H : Heap) (locs : List Loc) (ls : Array Slot), (0 : Int) ≤ w21_1.toInt ∧ w21_1.toInt ≤ 255 → (w21_1 = bU x0) → va_P D vwCl ((WX d) K ad t) H → va_D A ((WX d) K ad t) → va_S A s.heap H locs → lv_has ls 2 [(0, .int x0), (1, .int w21_1)] → W p l e (rmD 5 0 0) s m [.int x0].toArray below meth c H locs 0 0 (MQ below (QI D K (fun (r : Int32) (u : Unit) => (0 : Int) ≤ r.toInt ∧ r.toInt ≤ 399 ∧ (r = bO x0)) (fun (_ : Unit) => (WX d) K ad t) A) [.int x0].toArray s 0 0 A) (F0 m 21 ls []) := by
    intro w21_1 H locs ls hw21_1 hi21_0 hP hD hS hl
    refine va_ldcS C.1 C.2.1 C.2.2.2.1 (hE.2 0 (by decide)) dX1_code_21 ?_
    refine lv_iload_n C.1 C.2.1 dX1_code_23 rfl (lv_at hl 1 rfl) ?_
    obtain ⟨v_1, e_2⟩ : ∃ z, z = ((w21_1 : Int32).toUInt32 % 65536).toInt32 := ⟨_, rfl⟩
    have h_3 : (0 : Int) ≤ v_1.toInt ∧ v_1.toInt ≤ 65535 := by rw [e_2]; exact nar_char _
    refine lv_i2c (v := v_1) C.1 C.2.1 dX1_code_24 e_2.symm ?_
    refine g_Ti (As := [.int v_1]) (rest := []) C hP hD hS hA (TJ_indexOf l D K Z Y ((WX d) K ad t) 0 (by decide) (by decide) v_1) hE hZ (uwV m_14_5 m_14_6 m_14_7 m_14_8 m_14_9) (hdV 1 (by decide +kernel) rfl) ⟨Nat.le_of_ble_eq_true rfl, Nat.le_of_ble_eq_true rfl⟩ rfl rfl (i0 := 0) (by decide) rfl rfl hl.1 (Nat.le_of_ble_eq_true rfl) dX1_code_25 ⟨Nat.le_of_ble_eq_true rfl, Nat.le_of_ble_eq_true rfl⟩ (fun r_4 u_r_4 H locs hw hP hD hS => ?_)
    have er_4 : r_4 = sIx 0 (v_1) := hw
    have h_5 : (-1 : Int) ≤ r_4.toInt ∧ r_4.toInt ≤ 55 := by rw [er_4]; exact sIx_r0 _
    refine lv_iconst (v := 0) C.1 C.2.1 dX1_code_28 (by decide) ?_
    obtain ⟨v_7, e_6⟩ : ∃ z, z = if (r_4 : Int32) < (0 : Int32) then (0 : Int32) else (r_4 : Int32) := ⟨_, rfl⟩
    have h_8 : (0 : Int32).toInt = 0 := rfl
    have h_9 := mx_r e_6
    refine k_mmax (v := v_7) C hl.1 m_14_4 m_12_14 m_12_15 m_12_16 (Nat.le_of_ble_eq_true rfl) (Nat.le_of_ble_eq_true rfl) (Nat.le_of_ble_eq_true rfl) (Nat.le_of_ble_eq_true rfl) e_6.symm dX1_code_29 ?_
    exact g_iret C hr hlocks hP hD hS rfl () rfl ⟨by omega, by omega, (show v_7 = bO x0 from by exact bO_c hi21_0 hw21_1 (by assumption) (by assumption) (by assumption))⟩ (Nat.le_of_ble_eq_true rfl) (Nat.le_of_ble_eq_true rfl) dX1_code_32
  refine lv_iload_n C.1 C.2.1 dX1_code_0 rfl (lv_at hl 0 rfl) ?_
  refine lv_sipush (v := 255) C.1 C.2.1 dX1_code_1 (by decide) ?_
  obtain ⟨v_10, e_11⟩ : ∃ z, z = (x0 : Int32) &&& (255 : Int32) := ⟨_, rfl⟩
  have h_12 : v_10.toInt = x0.toInt % 2 ^ 8 := by rw [e_11]; exact Jvm.Kit.i32_mask _ _ (k := 8) (by decide) (by decide)
  refine k_iand (v := v_10) C e_11.symm dX1_code_4 ?_
  refine lv_istore_n (lv' := [(1, .int v_10), (0, .int x0)]) C.1 C.2.1 dX1_code_5 rfl hl (by decide) rfl (fun ls hl => ?_)
  have hl : lv_has ls 2 [(0, .int x0), (1, .int v_10)] := lv_sub hl [1, 0] rfl
  have hkv : v_10 = x0 &&& 255 := by assumption
  refine lv_iload_n C.1 C.2.1 dX1_code_6 rfl (lv_at hl 1 rfl) ?_
  refine lv_bipush (v := 97) C.1 C.2.1 dX1_code_7 (by decide) ?_
  refine lv_icmp_lt (tgt := 21) C.1 C.2.1 dX1_code_9 (by decide) (fun c_13 => ?_) (fun c_13 => ?_)
  · replace c_13 : v_10.toInt < 97 := i_lt c_13
    exact L_21 v_10 _ _ _ ⟨by omega, by omega⟩ (show v_10 = bU x0 from by first | exact bU_dn hkv (by omega) (by assumption) | exact bU_no hkv (by omega)) hP hD hS (lv_sub hl [0, 1] rfl)
  · replace c_13 : 97 ≤ v_10.toInt := i_nlt c_13
    refine lv_iload_n C.1 C.2.1 dX1_code_12 rfl (lv_at hl 1 rfl) ?_
    refine lv_bipush (v := 122) C.1 C.2.1 dX1_code_13 (by decide) ?_
    refine lv_icmp_gt (tgt := 21) C.1 C.2.1 dX1_code_15 (by decide) (fun c_14 => ?_) (fun c_14 => ?_)
    · replace c_14 : 122 < v_10.toInt := i_lt c_14
      exact L_21 v_10 _ _ _ ⟨by omega, by omega⟩ (show v_10 = bU x0 from by first | exact bU_dn hkv (by omega) (by assumption) | exact bU_no hkv (by omega)) hP hD hS (lv_sub hl [0, 1] rfl)
    · replace c_14 : v_10.toInt ≤ 122 := i_nlt c_14
      obtain ⟨v_15, e_16⟩ : ∃ z, z = v_10 + (-32) := ⟨_, rfl⟩
      have h_17 : v_15.toInt = v_10.toInt + (-32) := by rw [e_16]; exact ti_iadd (by show (_ : Int) ≤ v_10.toInt + (-32); omega) (by show v_10.toInt + (-32) < (_ : Int); omega)
      refine lv_iinc (v := v_15) (lv' := [(1, .int v_15), (0, .int x0)]) C.1 C.2.1 dX1_code_18 hl (k := 1) rfl e_16.symm (by decide) rfl (fun ls hl => ?_)
      have hl : lv_has ls 2 [(0, .int x0), (1, .int v_15)] := lv_sub hl [1, 0] rfl
      exact L_21 v_15 _ _ _ ⟨by omega, by omega⟩ (show v_15 = bU x0 from by first | exact bU_dn hkv (by omega) (by assumption) | exact bU_no hkv (by omega)) hP hD hS (lv_sub hl [0, 1] rfl)

set_option maxHeartbeats 4000000 in
set_option maxRecDepth 100000 in
theorem U_X1_written (l : Launch) (D : va_G) (K : Nat → ClassId) (Z Y : Nat → Nat) (ad : Nat → Nat) (d : dSt) (t : tSt) (hok : okX t) (x0 : Int32) (hx0 : (0 : Int) ≤ x0.toInt ∧ x0.toInt ≤ 399) : tMet l yX1_written cX1_written 1 (some .int) (rmD 4 0 0) D K Z Y [.int x0] ((WX d) K ad t) (QI D K (fun (r : Int32) (u : Unit) => (0 : Int) ≤ r.toInt ∧ r.toInt ≤ 255 ∧ (0 ≤ x0.toInt → x0.toInt < 56 → r = (sByt 23).getD (x0 : Int32).toNatClampNeg 0)) (fun (_ : Unit) => (WX d) K ad t)) 0 0 := by
  refine t_met RX1 ⟨rfl, by decide +kernel⟩ (Nat.le_of_ble_eq_true rfl) ?_
  intro p e s m below meth c A ls C hE hZ hr hlocks hA hP hD hS hl
  have hl : lv_has ls 1 [(0, .int x0)] := hl
  refine lv_iload_n C.1 C.2.1 dX1_written_0 rfl (lv_at hl 0 rfl) ?_
  refine lv_if_lt (tgt := 19) C.1 C.2.1 dX1_written_1 (by decide) (fun c_1 => False.elim (by have c_1 : x0.toInt < 0 := i_lt c_1; omega)) (fun c_1 => ?_)
  replace c_1 : 0 ≤ x0.toInt := i_nlt c_1
  refine lv_iload_n C.1 C.2.1 dX1_written_4 rfl (lv_at hl 0 rfl) ?_
  refine lv_bipush (v := 56) C.1 C.2.1 dX1_written_5 (by decide) ?_
  refine lv_icmp_ge (tgt := 19) C.1 C.2.1 dX1_written_7 (by decide) (fun c_2 => ?_) (fun c_2 => ?_)
  · replace c_2 : 56 ≤ x0.toInt := i_le c_2
    refine lv_bipush (v := 63) C.1 C.2.1 dX1_written_19 (by decide) ?_
    exact g_iret C hr hlocks hP hD hS rfl () rfl ⟨by decide, by decide, (show 0 ≤ x0.toInt → x0.toInt < 56 → 63 = (sByt 23).getD (x0 : Int32).toNatClampNeg 0 from by intro hz1 hz2; first | (exfalso; omega) | (rw [← sB_23]; assumption))⟩ (Nat.le_of_ble_eq_true rfl) (Nat.le_of_ble_eq_true rfl) dX1_written_21
  · replace c_2 : x0.toInt < 56 := i_nle c_2
    refine va_ldcS C.1 C.2.1 C.2.2.2.1 (hE.2 0 (by decide)) dX1_written_10 ?_
    refine lv_iload_n C.1 C.2.1 dX1_written_12 rfl (lv_at hl 0 rfl) ?_
    refine g_Ti (As := [.int x0]) (rest := []) C hP hD hS hA (TJ_charAt l D K Z Y ((WX d) K ad t) 0 (by decide) x0 (show 0 ≤ x0.toInt ∧ x0.toInt < sL 0 from by have hsl : sL 0 = 56 := rfl; omega)) hE hZ (uwV m_17_20 m_17_21 m_17_22 m_14_8 m_17_23) (hdV 1 (by decide +kernel) rfl) ⟨Nat.le_of_ble_eq_true rfl, Nat.le_of_ble_eq_true rfl⟩ rfl rfl (i0 := 0) (by decide) rfl rfl hl.1 (Nat.le_of_ble_eq_true rfl) dX1_written_13 ⟨Nat.le_of_ble_eq_true rfl, Nat.le_of_ble_eq_true rfl⟩ (fun r_3 u_r_3 H locs hw hP hD hS => ?_)
    have er_3 : r_3 = (sByt 0).getD (x0 : Int32).toNatClampNeg 0 := hw
    have h_4 : (32 : Int) ≤ r_3.toInt ∧ r_3.toInt ≤ 126 := by rw [er_3]; exact sByt_r 0 (by decide) (by omega) (by have hsl : sL 0 = 56 := rfl; omega)
    refine lv_goto (tgt := 21) C.1 C.2.1 dX1_written_16 (by decide) ?_
    exact g_iret C hr hlocks hP hD hS rfl () rfl ⟨by omega, by omega, (show 0 ≤ x0.toInt → x0.toInt < 56 → r_3 = (sByt 23).getD (x0 : Int32).toNatClampNeg 0 from by intro hz1 hz2; first | (exfalso; omega) | (rw [← sB_23]; assumption))⟩ (Nat.le_of_ble_eq_true rfl) (Nat.le_of_ble_eq_true rfl) dX1_written_21

set_option maxHeartbeats 4000000 in
set_option maxRecDepth 100000 in
theorem U_X1_rank (l : Launch) (D : va_G) (K : Nat → ClassId) (Z Y : Nat → Nat) (ad : Nat → Nat) (d : dSt) (t : tSt) (hok : okX t) (x0 : Int32) (hx0 : (-128 : Int) ≤ x0.toInt ∧ x0.toInt ≤ 127) : tMet l yX1_rank cX1_rank 1 (some .int) (rmD 0 0 0) D K Z Y [.int x0] ((WX d) K ad t) (QI D K (fun (r : Int32) (u : Unit) => (0 : Int) ≤ r.toInt ∧ r.toInt ≤ 63 ∧ (0 < r.toInt ↔ anL x0)) (fun (_ : Unit) => (WX d) K ad t)) 0 0 := by
  refine t_met RX1 ⟨rfl, by decide +kernel⟩ (Nat.le_of_ble_eq_true rfl) ?_
  intro p e s m below meth c A ls C hE hZ hr hlocks hA hP hD hS hl
  have hl : lv_has ls 1 [(0, .int x0)] := hl
  refine lv_iload_n C.1 C.2.1 dX1_rank_0 rfl (lv_at hl 0 rfl) ?_
  refine lv_bipush (v := 48) C.1 C.2.1 dX1_rank_1 (by decide) ?_
  refine lv_icmp_lt (tgt := 19) C.1 C.2.1 dX1_rank_3 (by decide) (fun c_1 => ?_) (fun c_1 => ?_)
  · replace c_1 : x0.toInt < 48 := i_lt c_1
    refine lv_iload_n C.1 C.2.1 dX1_rank_19 rfl (lv_at hl 0 rfl) ?_
    refine lv_bipush (v := 65) C.1 C.2.1 dX1_rank_20 (by decide) ?_
    refine lv_icmp_lt (tgt := 41) C.1 C.2.1 dX1_rank_22 (by decide) (fun c_2 => ?_) (fun c_2 => False.elim (by have c_2 : 65 ≤ x0.toInt := i_nlt c_2; omega))
    replace c_2 : x0.toInt < 65 := i_lt c_2
    refine lv_iconst (v := 0) C.1 C.2.1 dX1_rank_41 (by decide) ?_
    exact g_iret C hr hlocks hP hD hS rfl () rfl ⟨by decide, by decide, (show 0 < 0 ↔ anL x0 from by unfold anL; omega)⟩ (Nat.le_of_ble_eq_true rfl) (Nat.le_of_ble_eq_true rfl) dX1_rank_42
  · replace c_1 : 48 ≤ x0.toInt := i_nlt c_1
    refine lv_iload_n C.1 C.2.1 dX1_rank_6 rfl (lv_at hl 0 rfl) ?_
    refine lv_bipush (v := 57) C.1 C.2.1 dX1_rank_7 (by decide) ?_
    refine lv_icmp_gt (tgt := 19) C.1 C.2.1 dX1_rank_9 (by decide) (fun c_3 => ?_) (fun c_3 => ?_)
    · replace c_3 : 57 < x0.toInt := i_lt c_3
      refine lv_iload_n C.1 C.2.1 dX1_rank_19 rfl (lv_at hl 0 rfl) ?_
      refine lv_bipush (v := 65) C.1 C.2.1 dX1_rank_20 (by decide) ?_
      refine lv_icmp_lt (tgt := 41) C.1 C.2.1 dX1_rank_22 (by decide) (fun c_4 => ?_) (fun c_4 => ?_)
      · replace c_4 : x0.toInt < 65 := i_lt c_4
        refine lv_iconst (v := 0) C.1 C.2.1 dX1_rank_41 (by decide) ?_
        exact g_iret C hr hlocks hP hD hS rfl () rfl ⟨by decide, by decide, (show 0 < 0 ↔ anL x0 from by unfold anL; omega)⟩ (Nat.le_of_ble_eq_true rfl) (Nat.le_of_ble_eq_true rfl) dX1_rank_42
      · replace c_4 : 65 ≤ x0.toInt := i_nlt c_4
        refine lv_iload_n C.1 C.2.1 dX1_rank_25 rfl (lv_at hl 0 rfl) ?_
        refine lv_bipush (v := 90) C.1 C.2.1 dX1_rank_26 (by decide) ?_
        refine lv_icmp_gt (tgt := 41) C.1 C.2.1 dX1_rank_28 (by decide) (fun c_5 => ?_) (fun c_5 => ?_)
        · replace c_5 : 90 < x0.toInt := i_lt c_5
          refine lv_iconst (v := 0) C.1 C.2.1 dX1_rank_41 (by decide) ?_
          exact g_iret C hr hlocks hP hD hS rfl () rfl ⟨by decide, by decide, (show 0 < 0 ↔ anL x0 from by unfold anL; omega)⟩ (Nat.le_of_ble_eq_true rfl) (Nat.le_of_ble_eq_true rfl) dX1_rank_42
        · replace c_5 : x0.toInt ≤ 90 := i_nlt c_5
          refine lv_iload_n C.1 C.2.1 dX1_rank_31 rfl (lv_at hl 0 rfl) ?_
          refine lv_bipush (v := 65) C.1 C.2.1 dX1_rank_32 (by decide) ?_
          obtain ⟨v_6, e_7⟩ : ∃ z, z = (x0 : Int32) - (65 : Int32) := ⟨_, rfl⟩
          have h_8 : v_6.toInt = x0.toInt - 65 := by rw [e_7]; exact ti_isub (by show (_ : Int) ≤ x0.toInt - 65; omega) (by show x0.toInt - 65 < (_ : Int); omega)
          refine k_isub (v := v_6) C e_7.symm dX1_rank_34 ?_
          refine lv_bipush (v := 11) C.1 C.2.1 dX1_rank_35 (by decide) ?_
          obtain ⟨v_9, e_10⟩ : ∃ z, z = (v_6 : Int32) + (11 : Int32) := ⟨_, rfl⟩
          have h_11 : v_9.toInt = v_6.toInt + 11 := by rw [e_10]; exact ti_iadd (by show (_ : Int) ≤ v_6.toInt + 11; omega) (by show v_6.toInt + 11 < (_ : Int); omega)
          refine k_iadd (v := v_9) C e_10.symm dX1_rank_37 ?_
          refine lv_goto (tgt := 42) C.1 C.2.1 dX1_rank_38 (by decide) ?_
          exact g_iret C hr hlocks hP hD hS rfl () rfl ⟨by omega, by omega, (show 0 < v_9.toInt ↔ anL x0 from by unfold anL; omega)⟩ (Nat.le_of_ble_eq_true rfl) (Nat.le_of_ble_eq_true rfl) dX1_rank_42
    · replace c_3 : x0.toInt ≤ 57 := i_nlt c_3
      refine lv_iload_n C.1 C.2.1 dX1_rank_12 rfl (lv_at hl 0 rfl) ?_
      refine lv_bipush (v := 48) C.1 C.2.1 dX1_rank_13 (by decide) ?_
      obtain ⟨v_12, e_13⟩ : ∃ z, z = (x0 : Int32) - (48 : Int32) := ⟨_, rfl⟩
      have h_14 : v_12.toInt = x0.toInt - 48 := by rw [e_13]; exact ti_isub (by show (_ : Int) ≤ x0.toInt - 48; omega) (by show x0.toInt - 48 < (_ : Int); omega)
      refine k_isub (v := v_12) C e_13.symm dX1_rank_15 ?_
      refine lv_iconst (v := 1) C.1 C.2.1 dX1_rank_16 (by decide) ?_
      obtain ⟨v_15, e_16⟩ : ∃ z, z = (v_12 : Int32) + (1 : Int32) := ⟨_, rfl⟩
      have h_17 : v_15.toInt = v_12.toInt + 1 := by rw [e_16]; exact ti_iadd (by show (_ : Int) ≤ v_12.toInt + 1; omega) (by show v_12.toInt + 1 < (_ : Int); omega)
      refine k_iadd (v := v_15) C e_16.symm dX1_rank_17 ?_
      exact g_iret C hr hlocks hP hD hS rfl () rfl ⟨by omega, by omega, (show 0 < v_15.toInt ↔ anL x0 from by unfold anL; omega)⟩ (Nat.le_of_ble_eq_true rfl) (Nat.le_of_ble_eq_true rfl) dX1_rank_18

set_option maxHeartbeats 4000000 in
set_option maxRecDepth 100000 in
theorem U_X9_isBlankAt (l : Launch) (D : va_G) (K : Nat → ClassId) (Z Y : Nat → Nat) (ad : Nat → Nat) (d : dSt) (t : tSt) (hok : okX t) (x1 : Int32) : tMet l yX9_isBlankAt cX9_isBlankAt 2 (some .boolean) (rmD 0 0 0) D K Z Y [.ref (ad 29), .int x1] ((WX d) K ad t) (QI D K (fun (r : Int32) (u : Unit) => (0 : Int) ≤ r.toInt ∧ r.toInt ≤ 1 ∧ (r.toInt = 1 ↔ (80 ≤ x1.toInt ∨ 0 ≤ x1.toInt ∧ (t.2.2.1 51 (x1 : Int32).toNatClampNeg).toInt = 32))) (fun (_ : Unit) => (WX d) K ad t)) 0 0 := by
  refine t_met RX9 ⟨rfl, by decide +kernel⟩ (Nat.le_of_ble_eq_true rfl) ?_
  intro p e s m below meth c A ls C hE hZ hr hlocks hA hP hD hS hl
  have hl : lv_has ls 2 [(0, .ref (ad 29)), (1, .int x1)] := hl
  refine lv_iload_n C.1 C.2.1 dX9_isBlankAt_0 rfl (lv_at hl 1 rfl) ?_
  refine lv_bipush (v := 80) C.1 C.2.1 dX9_isBlankAt_1 (by decide) ?_
  refine lv_icmp_ge (tgt := 21) C.1 C.2.1 dX9_isBlankAt_3 (by decide) (fun c_1 => ?_) (fun c_1 => ?_)
  · replace c_1 : 80 ≤ x1.toInt := i_le c_1
    refine lv_iconst (v := 1) C.1 C.2.1 dX9_isBlankAt_21 (by decide) ?_
    refine lv_goto (tgt := 26) C.1 C.2.1 dX9_isBlankAt_22 (by decide) ?_
    exact g_iret C hr hlocks hP hD hS (by decide) () rfl ⟨by decide, by decide, (show 1 = 1 ↔ (80 ≤ x1.toInt ∨ 0 ≤ x1.toInt ∧ (t.2.2.1 51 (x1 : Int32).toNatClampNeg).toInt = 32) from by omega)⟩ (Nat.le_of_ble_eq_true rfl) (Nat.le_of_ble_eq_true rfl) dX9_isBlankAt_26
  · replace c_1 : x1.toInt < 80 := i_nle c_1
    refine lv_iload_n C.1 C.2.1 dX9_isBlankAt_6 rfl (lv_at hl 1 rfl) ?_
    refine lv_if_lt (tgt := 25) C.1 C.2.1 dX9_isBlankAt_7 (by decide) (fun c_2 => ?_) (fun c_2 => ?_)
    · replace c_2 : x1.toInt < 0 := i_lt c_2
      refine lv_iconst (v := 0) C.1 C.2.1 dX9_isBlankAt_25 (by decide) ?_
      exact g_iret C hr hlocks hP hD hS (by decide) () rfl ⟨by decide, by decide, (show 0 = 1 ↔ (80 ≤ x1.toInt ∨ 0 ≤ x1.toInt ∧ (t.2.2.1 51 (x1 : Int32).toNatClampNeg).toInt = 32) from by omega)⟩ (Nat.le_of_ble_eq_true rfl) (Nat.le_of_ble_eq_true rfl) dX9_isBlankAt_26
    · replace c_2 : 0 ≤ x1.toInt := i_nlt c_2
      refine lv_aload_n C.1 C.2.1 dX9_isBlankAt_10 rfl (lv_at hl 0 rfl) ?_
      refine k_get (v := .ref (ad 51)) C hP 29 rfl rfl inlX9 1 (by decide) m_2_23 rfl dX9_isBlankAt_11 ?_
      refine lv_iload_n C.1 C.2.1 dX9_isBlankAt_14 rfl (lv_at hl 1 rfl) ?_
      have h_3 : (-128 : Int) ≤ (t.2.2.1 51 (x1 : Int32).toNatClampNeg).toInt ∧ (t.2.2.1 51 (x1 : Int32).toNatClampNeg).toInt ≤ 127 := hok.2.1 51 _
      refine k_bld (v := (t.2.2.1 51 (x1 : Int32).toNatClampNeg)) C hP 51 rfl (vp_in_iff.mpr ⟨by omega, by omega⟩) rfl dX9_isBlankAt_15 ?_
      refine lv_bipush (v := 32) C.1 C.2.1 dX9_isBlankAt_16 (by decide) ?_
      refine lv_icmp_ne (tgt := 25) C.1 C.2.1 dX9_isBlankAt_18 (by decide) (fun c_4 => ?_) (fun c_4 => ?_)
      · replace c_4 : ¬ (t.2.2.1 51 (x1 : Int32).toNatClampNeg).toInt = 32 := i_ne c_4
        refine lv_iconst (v := 0) C.1 C.2.1 dX9_isBlankAt_25 (by decide) ?_
        exact g_iret C hr hlocks hP hD hS (by decide) () rfl ⟨by decide, by decide, (show 0 = 1 ↔ (80 ≤ x1.toInt ∨ 0 ≤ x1.toInt ∧ (t.2.2.1 51 (x1 : Int32).toNatClampNeg).toInt = 32) from by omega)⟩ (Nat.le_of_ble_eq_true rfl) (Nat.le_of_ble_eq_true rfl) dX9_isBlankAt_26
      · replace c_4 : (t.2.2.1 51 (x1 : Int32).toNatClampNeg).toInt = 32 := i_eq c_4
        refine lv_iconst (v := 1) C.1 C.2.1 dX9_isBlankAt_21 (by decide) ?_
        refine lv_goto (tgt := 26) C.1 C.2.1 dX9_isBlankAt_22 (by decide) ?_
        exact g_iret C hr hlocks hP hD hS (by decide) () rfl ⟨by decide, by decide, (show 1 = 1 ↔ (80 ≤ x1.toInt ∨ 0 ≤ x1.toInt ∧ (t.2.2.1 51 (x1 : Int32).toNatClampNeg).toInt = 32) from by omega)⟩ (Nat.le_of_ble_eq_true rfl) (Nat.le_of_ble_eq_true rfl) dX9_isBlankAt_26

set_option maxHeartbeats 4000000 in
set_option maxRecDepth 100000 in
theorem U_X9_isDigitAt (l : Launch) (D : va_G) (K : Nat → ClassId) (Z Y : Nat → Nat) (ad : Nat → Nat) (d : dSt) (t : tSt) (hok : okX t) (x1 : Int32) (hx1 : (6 : Int) ≤ x1.toInt ∧ x1.toInt ≤ 31) : tMet l yX9_isDigitAt cX9_isDigitAt 2 (some .boolean) (rmD 0 0 0) D K Z Y [.ref (ad 29), .int x1] ((WX d) K ad t) (QI D K (fun (r : Int32) (u : Unit) => (0 : Int) ≤ r.toInt ∧ r.toInt ≤ 1 ∧ (r.toInt = 1 ↔ (0 ≤ x1.toInt ∧ x1.toInt < 80 ∧ 48 ≤ (t.2.2.1 51 (x1 : Int32).toNatClampNeg).toInt ∧ (t.2.2.1 51 (x1 : Int32).toNatClampNeg).toInt ≤ 57))) (fun (_ : Unit) => (WX d) K ad t)) 0 0 := by
  refine t_met RX9 ⟨rfl, by decide +kernel⟩ (Nat.le_of_ble_eq_true rfl) ?_
  intro p e s m below meth c A ls C hE hZ hr hlocks hA hP hD hS hl
  have hl : lv_has ls 2 [(0, .ref (ad 29)), (1, .int x1)] := hl
  refine lv_iload_n C.1 C.2.1 dX9_isDigitAt_0 rfl (lv_at hl 1 rfl) ?_
  refine lv_if_lt (tgt := 36) C.1 C.2.1 dX9_isDigitAt_1 (by decide) (fun c_1 => False.elim (by have c_1 : x1.toInt < 0 := i_lt c_1; omega)) (fun c_1 => ?_)
  replace c_1 : 0 ≤ x1.toInt := i_nlt c_1
  refine lv_iload_n C.1 C.2.1 dX9_isDigitAt_4 rfl (lv_at hl 1 rfl) ?_
  refine lv_bipush (v := 80) C.1 C.2.1 dX9_isDigitAt_5 (by decide) ?_
  refine lv_icmp_ge (tgt := 36) C.1 C.2.1 dX9_isDigitAt_7 (by decide) (fun c_2 => False.elim (by have c_2 : 80 ≤ x1.toInt := i_le c_2; omega)) (fun c_2 => ?_)
  replace c_2 : x1.toInt < 80 := i_nle c_2
  refine lv_aload_n C.1 C.2.1 dX9_isDigitAt_10 rfl (lv_at hl 0 rfl) ?_
  refine k_get (v := .ref (ad 51)) C hP 29 rfl rfl inlX9 1 (by decide) m_2_23 rfl dX9_isDigitAt_11 ?_
  refine lv_iload_n C.1 C.2.1 dX9_isDigitAt_14 rfl (lv_at hl 1 rfl) ?_
  have h_3 : (-128 : Int) ≤ (t.2.2.1 51 (x1 : Int32).toNatClampNeg).toInt ∧ (t.2.2.1 51 (x1 : Int32).toNatClampNeg).toInt ≤ 127 := hok.2.1 51 _
  refine k_bld (v := (t.2.2.1 51 (x1 : Int32).toNatClampNeg)) C hP 51 rfl (vp_in_iff.mpr ⟨by omega, by omega⟩) rfl dX9_isDigitAt_15 ?_
  refine lv_bipush (v := 48) C.1 C.2.1 dX9_isDigitAt_16 (by decide) ?_
  refine lv_icmp_lt (tgt := 36) C.1 C.2.1 dX9_isDigitAt_18 (by decide) (fun c_4 => ?_) (fun c_4 => ?_)
  · replace c_4 : (t.2.2.1 51 (x1 : Int32).toNatClampNeg).toInt < 48 := i_lt c_4
    refine lv_iconst (v := 0) C.1 C.2.1 dX9_isDigitAt_36 (by decide) ?_
    exact g_iret C hr hlocks hP hD hS (by decide) () rfl ⟨by decide, by decide, (show 0 = 1 ↔ (0 ≤ x1.toInt ∧ x1.toInt < 80 ∧ 48 ≤ (t.2.2.1 51 (x1 : Int32).toNatClampNeg).toInt ∧ (t.2.2.1 51 (x1 : Int32).toNatClampNeg).toInt ≤ 57) from by omega)⟩ (Nat.le_of_ble_eq_true rfl) (Nat.le_of_ble_eq_true rfl) dX9_isDigitAt_37
  · replace c_4 : 48 ≤ (t.2.2.1 51 (x1 : Int32).toNatClampNeg).toInt := i_nlt c_4
    refine lv_aload_n C.1 C.2.1 dX9_isDigitAt_21 rfl (lv_at hl 0 rfl) ?_
    refine k_get (v := .ref (ad 51)) C hP 29 rfl rfl inlX9 1 (by decide) m_2_23 rfl dX9_isDigitAt_22 ?_
    refine lv_iload_n C.1 C.2.1 dX9_isDigitAt_25 rfl (lv_at hl 1 rfl) ?_
    have h_5 : (-128 : Int) ≤ (t.2.2.1 51 (x1 : Int32).toNatClampNeg).toInt ∧ (t.2.2.1 51 (x1 : Int32).toNatClampNeg).toInt ≤ 127 := hok.2.1 51 _
    refine k_bld (v := (t.2.2.1 51 (x1 : Int32).toNatClampNeg)) C hP 51 rfl (vp_in_iff.mpr ⟨by omega, by omega⟩) rfl dX9_isDigitAt_26 ?_
    refine lv_bipush (v := 57) C.1 C.2.1 dX9_isDigitAt_27 (by decide) ?_
    refine lv_icmp_gt (tgt := 36) C.1 C.2.1 dX9_isDigitAt_29 (by decide) (fun c_6 => ?_) (fun c_6 => ?_)
    · replace c_6 : 57 < (t.2.2.1 51 (x1 : Int32).toNatClampNeg).toInt := i_lt c_6
      refine lv_iconst (v := 0) C.1 C.2.1 dX9_isDigitAt_36 (by decide) ?_
      exact g_iret C hr hlocks hP hD hS (by decide) () rfl ⟨by decide, by decide, (show 0 = 1 ↔ (0 ≤ x1.toInt ∧ x1.toInt < 80 ∧ 48 ≤ (t.2.2.1 51 (x1 : Int32).toNatClampNeg).toInt ∧ (t.2.2.1 51 (x1 : Int32).toNatClampNeg).toInt ≤ 57) from by omega)⟩ (Nat.le_of_ble_eq_true rfl) (Nat.le_of_ble_eq_true rfl) dX9_isDigitAt_37
    · replace c_6 : (t.2.2.1 51 (x1 : Int32).toNatClampNeg).toInt ≤ 57 := i_nlt c_6
      refine lv_iconst (v := 1) C.1 C.2.1 dX9_isDigitAt_32 (by decide) ?_
      refine lv_goto (tgt := 37) C.1 C.2.1 dX9_isDigitAt_33 (by decide) ?_
      exact g_iret C hr hlocks hP hD hS (by decide) () rfl ⟨by decide, by decide, (show 1 = 1 ↔ (0 ≤ x1.toInt ∧ x1.toInt < 80 ∧ 48 ≤ (t.2.2.1 51 (x1 : Int32).toNatClampNeg).toInt ∧ (t.2.2.1 51 (x1 : Int32).toNatClampNeg).toInt ≤ 57) from by omega)⟩ (Nat.le_of_ble_eq_true rfl) (Nat.le_of_ble_eq_true rfl) dX9_isDigitAt_37

set_option maxHeartbeats 4000000 in
set_option maxRecDepth 100000 in
theorem U_X9_isAt (l : Launch) (D : va_G) (K : Nat → ClassId) (Z Y : Nat → Nat) (ad : Nat → Nat) (d : dSt) (t : tSt) (hok : okX t) (x1 : Int32) (hx1 : (0 : Int) ≤ x1.toInt ∧ x1.toInt ≤ 100) (i2 : Nat) (hi2 : sS i2) : tMet l yX9_isAt cX9_isAt 4 (some .boolean) (rmD 4 0 0) D K Z Y [.ref (ad 29), .int x1, .ref (Z i2)] ((WX d) K ad t) (QI D K (fun (r : Int32) (u : Unit) => (0 : Int) ≤ r.toInt ∧ r.toInt ≤ 1 ∧ (r.toInt = 1 ↔ aW (t.2.2.1 51) x1.toInt i2)) (fun (_ : Unit) => (WX d) K ad t)) 0 0 := by
  refine t_met RX9 ⟨rfl, by decide +kernel⟩ (Nat.le_of_ble_eq_true rfl) ?_
  intro p e s m below meth c A ls C hE hZ hr hlocks hA hP hD hS hl
  have hl : lv_has ls 4 [(0, .ref (ad 29)), (1, .int x1), (2, .ref (Z i2))] := hl
  have L_2 : ∀ (fuel_2 : Nat) (w2_3 : Int32) (H : Heap) (locs : List Loc) (ls : Array Slot), (0 : Int) ≤ w2_3.toInt ∧ w2_3.toInt ≤ 400 → (0 ≤ w2_3.toInt) → (∀ k : Nat, (k : Int) < w2_3.toInt → x1.toInt + (k : Int) < 80 ∧ (t.2.2.1 51) (x1.toInt + (k : Int)).toNat = (sByt i2).getD k 0) → (400 : Int) - w2_3.toInt < (fuel_2 : Int) → va_P D vwCl ((WX d) K ad t) H → va_D A ((WX d) K ad t) → va_S A s.heap H locs → lv_has ls 4 [(0, .ref (ad 29)), (1, .int x1), (2, .ref (Z i2)), (3, .int w2_3)] → W p l e (rmD 4 0 0) s m [.ref (ad 29), .int x1, .ref (Z i2)].toArray below meth c H locs 0 0 (MQ below (QI D K (fun (r : Int32) (u : Unit) => (0 : Int) ≤ r.toInt ∧ r.toInt ≤ 1 ∧ (r.toInt = 1 ↔ aW (t.2.2.1 51) x1.toInt i2)) (fun (_ : Unit) => (WX d) K ad t) A) [.ref (ad 29), .int x1, .ref (Z i2)].toArray s 0 0 A) (F0 m 2 ls []) := by
    intro fuel_2
    induction fuel_2 with
    | zero =>
      intro w2_3 H locs ls hw2_3 hi2_0 hi2_1 hm2_2 hP hD hS hl
      exact absurd hm2_2 (by omega)
    | succ fuel_2 ih_2 =>
      intro w2_3 H locs ls hw2_3 hi2_0 hi2_1 hm2_2 hP hD hS hl
      have hm2_2 : (400 : Int) - w2_3.toInt < (fuel_2 : Int) + 1 := by omega
      refine lv_iload_n C.1 C.2.1 dX9_isAt_2 rfl (lv_at hl 3 rfl) ?_
      refine lv_aload_n C.1 C.2.1 dX9_isAt_3 rfl (lv_at hl 2 rfl) ?_
      refine g_Ti (As := []) (rest := [.int w2_3]) C hP hD hS hA (TJ_length l D K Z Y ((WX d) K ad t) i2 (sS_lt hi2)) hE hZ (uwV m_72_6 m_14_22 m_14_23 m_14_8 m_15_0) (hdV 0 (by decide +kernel) rfl) ⟨Nat.le_of_ble_eq_true rfl, Nat.le_of_ble_eq_true rfl⟩ rfl rfl (i0 := i2) (sS_lt hi2) rfl rfl hl.1 (Nat.le_of_ble_eq_true rfl) dX9_isAt_4 ⟨Nat.le_of_ble_eq_true rfl, Nat.le_of_ble_eq_true rfl⟩ (fun r_1 u_r_1 H locs hw hP hD hS => ?_)
      have h_2 : r_1.toInt = sL i2 := hw
      have h_3 := sS_len hi2
      refine lv_icmp_ge (tgt := 42) C.1 C.2.1 dX9_isAt_7 (by decide) (fun c_4 => ?_) (fun c_4 => ?_)
      · replace c_4 : r_1.toInt ≤ w2_3.toInt := i_le c_4
        refine lv_iconst (v := 1) C.1 C.2.1 dX9_isAt_42 (by decide) ?_
        exact g_iret C hr hlocks hP hD hS (by decide) () rfl ⟨by decide, by decide, (show 1 = 1 ↔ aW (t.2.2.1 51) x1.toInt i2 from by constructor <;> intro hz <;> first | exact absurd hz (by decide) | (intro k hk; exact hi2_1 k (by have hq : sL i2 = ((sByt i2).length : Int) := rfl; omega)) | rfl | (exfalso; first | exact aW_out hz (by omega) (by omega) (by assumption) (by omega) | exact aW_no hz (by omega) (by omega) (by omega) (by assumption) (by assumption) (by assumption) (by assumption)))⟩ (Nat.le_of_ble_eq_true rfl) (Nat.le_of_ble_eq_true rfl) dX9_isAt_43
      · replace c_4 : w2_3.toInt < r_1.toInt := i_nle c_4
        refine lv_iload_n C.1 C.2.1 dX9_isAt_10 rfl (lv_at hl 1 rfl) ?_
        refine lv_iload_n C.1 C.2.1 dX9_isAt_11 rfl (lv_at hl 3 rfl) ?_
        obtain ⟨v_5, e_6⟩ : ∃ z, z = (x1 : Int32) + (w2_3 : Int32) := ⟨_, rfl⟩
        have h_7 : v_5.toInt = x1.toInt + w2_3.toInt := by rw [e_6]; exact ti_iadd (by show (_ : Int) ≤ x1.toInt + w2_3.toInt; omega) (by show x1.toInt + w2_3.toInt < (_ : Int); omega)
        refine k_iadd (v := v_5) C e_6.symm dX9_isAt_12 ?_
        refine lv_bipush (v := 80) C.1 C.2.1 dX9_isAt_13 (by decide) ?_
        refine lv_icmp_ge (tgt := 34) C.1 C.2.1 dX9_isAt_15 (by decide) (fun c_8 => ?_) (fun c_8 => ?_)
        · replace c_8 : 80 ≤ v_5.toInt := i_le c_8
          refine lv_iconst (v := 0) C.1 C.2.1 dX9_isAt_34 (by decide) ?_
          exact g_iret C hr hlocks hP hD hS (by decide) () rfl ⟨by decide, by decide, (show 0 = 1 ↔ aW (t.2.2.1 51) x1.toInt i2 from by constructor <;> intro hz <;> first | exact absurd hz (by decide) | (intro k hk; exact hi2_1 k (by have hq : sL i2 = ((sByt i2).length : Int) := rfl; omega)) | rfl | (exfalso; first | exact aW_out hz (by omega) (by omega) (by assumption) (by omega) | exact aW_no hz (by omega) (by omega) (by omega) (by assumption) (by assumption) (by assumption) (by assumption)))⟩ (Nat.le_of_ble_eq_true rfl) (Nat.le_of_ble_eq_true rfl) dX9_isAt_35
        · replace c_8 : v_5.toInt < 80 := i_nle c_8
          refine lv_aload_n C.1 C.2.1 dX9_isAt_18 rfl (lv_at hl 0 rfl) ?_
          refine k_get (v := .ref (ad 51)) C hP 29 rfl rfl inlX9 1 (by decide) m_2_23 rfl dX9_isAt_19 ?_
          refine lv_iload_n C.1 C.2.1 dX9_isAt_22 rfl (lv_at hl 1 rfl) ?_
          refine lv_iload_n C.1 C.2.1 dX9_isAt_23 rfl (lv_at hl 3 rfl) ?_
          obtain ⟨v_9, e_10⟩ : ∃ z, z = (x1 : Int32) + (w2_3 : Int32) := ⟨_, rfl⟩
          have h_11 : v_9.toInt = x1.toInt + w2_3.toInt := by rw [e_10]; exact ti_iadd (by show (_ : Int) ≤ x1.toInt + w2_3.toInt; omega) (by show x1.toInt + w2_3.toInt < (_ : Int); omega)
          refine k_iadd (v := v_9) C e_10.symm dX9_isAt_24 ?_
          obtain ⟨v_12, e_13⟩ : ∃ z, z = (t.2.2.1 51 (v_9 : Int32).toNatClampNeg) := ⟨_, rfl⟩
          have h_14 : (-128 : Int) ≤ v_12.toInt ∧ v_12.toInt ≤ 127 := by rw [e_13]; exact hok.2.1 51 _
          refine k_bld (v := v_12) C hP 51 rfl (vp_in_iff.mpr ⟨by omega, by omega⟩) e_13.symm dX9_isAt_25 ?_
          refine lv_aload_n C.1 C.2.1 dX9_isAt_26 rfl (lv_at hl 2 rfl) ?_
          refine lv_iload_n C.1 C.2.1 dX9_isAt_27 rfl (lv_at hl 3 rfl) ?_
          refine g_Ti (As := [.int w2_3]) (rest := [.int v_12]) C hP hD hS hA (TJ_charAt l D K Z Y ((WX d) K ad t) i2 (sS_lt hi2) w2_3 (show 0 ≤ w2_3.toInt ∧ w2_3.toInt < sL i2 from by omega)) hE hZ (uwV m_72_7 m_17_21 m_17_22 m_14_8 m_17_23) (hdV 1 (by decide +kernel) rfl) ⟨Nat.le_of_ble_eq_true rfl, Nat.le_of_ble_eq_true rfl⟩ rfl rfl (i0 := i2) (sS_lt hi2) rfl rfl hl.1 (Nat.le_of_ble_eq_true rfl) dX9_isAt_28 ⟨Nat.le_of_ble_eq_true rfl, Nat.le_of_ble_eq_true rfl⟩ (fun r_15 u_r_15 H locs hw hP hD hS => ?_)
          have er_15 : r_15 = (sByt i2).getD (w2_3 : Int32).toNatClampNeg 0 := hw
          have h_16 : (32 : Int) ≤ r_15.toInt ∧ r_15.toInt ≤ 126 := by rw [er_15]; exact sByt_rr (sS_lt hi2) (by omega) (by omega)
          refine lv_icmp_eq (tgt := 36) C.1 C.2.1 dX9_isAt_31 (by decide) (fun c_17 => ?_) (fun c_17 => ?_)
          · replace c_17 : v_12.toInt = r_15.toInt := i_eq c_17
            obtain ⟨v_18, e_19⟩ : ∃ z, z = w2_3 + 1 := ⟨_, rfl⟩
            have h_20 : v_18.toInt = w2_3.toInt + 1 := by rw [e_19]; exact ti_iadd (by show (_ : Int) ≤ w2_3.toInt + 1; omega) (by show w2_3.toInt + 1 < (_ : Int); omega)
            refine lv_iinc (v := v_18) (lv' := [(3, .int v_18), (0, .ref (ad 29)), (1, .int x1), (2, .ref (Z i2))]) C.1 C.2.1 dX9_isAt_36 hl (k := 3) rfl e_19.symm (by decide) rfl (fun ls hl => ?_)
            have hl : lv_has ls 4 [(0, .ref (ad 29)), (1, .int x1), (2, .ref (Z i2)), (3, .int v_18)] := lv_sub hl [1, 2, 3, 0] rfl
            refine lv_goto (tgt := 2) C.1 C.2.1 dX9_isAt_39 (by decide) ?_
            exact ih_2 v_18 _ _ _ ⟨by omega, by omega⟩ (show 0 ≤ v_18.toInt from by omega) (show ∀ k : Nat, (k : Int) < v_18.toInt → x1.toInt + (k : Int) < 80 ∧ (t.2.2.1 51) (x1.toInt + (k : Int)).toNat = (sByt i2).getD k 0 from by intro k hk; first | (exfalso; omega) | (rcases Int.lt_or_eq_of_le (show (k : Int) ≤ w2_3.toInt from by omega) with h9 | h9 <;> first | exact hi2_1 k h9 | exact aW_new h9 (by omega) (by assumption) (by assumption) (by omega) (by assumption) (by assumption))) (show (400 : Int) - v_18.toInt < (fuel_2 : Int) from by omega) hP hD hS (lv_sub hl [0, 1, 2, 3] rfl)
          · replace c_17 : ¬ v_12.toInt = r_15.toInt := i_ne c_17
            refine lv_iconst (v := 0) C.1 C.2.1 dX9_isAt_34 (by decide) ?_
            exact g_iret C hr hlocks hP hD hS (by decide) () rfl ⟨by decide, by decide, (show 0 = 1 ↔ aW (t.2.2.1 51) x1.toInt i2 from by constructor <;> intro hz <;> first | exact absurd hz (by decide) | (intro k hk; exact hi2_1 k (by have hq : sL i2 = ((sByt i2).length : Int) := rfl; omega)) | rfl | (exfalso; first | exact aW_out hz (by omega) (by omega) (by assumption) (by omega) | exact aW_no hz (by omega) (by omega) (by omega) (by assumption) (by assumption) (by assumption) (by assumption)))⟩ (Nat.le_of_ble_eq_true rfl) (Nat.le_of_ble_eq_true rfl) dX9_isAt_35
  refine lv_iconst (v := 0) C.1 C.2.1 dX9_isAt_0 (by decide) ?_
  refine lv_istore_n (lv' := [(3, .int 0), (0, .ref (ad 29)), (1, .int x1), (2, .ref (Z i2))]) C.1 C.2.1 dX9_isAt_1 rfl hl (by decide) rfl (fun ls hl => ?_)
  have hl : lv_has ls 4 [(0, .ref (ad 29)), (1, .int x1), (2, .ref (Z i2)), (3, .int 0)] := lv_sub hl [1, 2, 3, 0] rfl
  exact L_2 401 0 _ _ _ ⟨by decide, by decide⟩ (show 0 ≤ 0 from by omega) (show ∀ k : Nat, (k : Int) < 0 → x1.toInt + (k : Int) < 80 ∧ (t.2.2.1 51) (x1.toInt + (k : Int)).toNat = (sByt i2).getD k 0 from by intro k hk; first | (exfalso; omega) | (rcases Int.lt_or_eq_of_le (show (k : Int) ≤ w2_3.toInt from by omega) with h9 | h9 <;> first | exact hi2_1 k h9 | exact aW_new h9 (by omega) (by assumption) (by assumption) (by omega) (by assumption) (by assumption))) (show (400 : Int) - 0 < ((401 : Nat) : Int) from by omega) hP hD hS (lv_sub hl [0, 1, 2, 3] rfl)

set_option maxHeartbeats 4000000 in
set_option maxRecDepth 100000 in
theorem U_X9_advance (l : Launch) (D : va_G) (K : Nat → ClassId) (Z Y : Nat → Nat) (ad : Nat → Nat) (d : dSt) (t : tSt) (hok : okX t)  : tMet l yX9_advance cX9_advance 3 (some .boolean) (rmD 6 0 0) D K Z Y [.ref (ad 29)] ((WX d) K ad t) (QI D K (fun (r : Int32) (u : tSt) => okX u ∧ frA [(29, 2), (29, 3), (29, 4), (29, 5)] [] [51] [] t u ∧ (0 : Int) ≤ r.toInt ∧ r.toInt ≤ 1 ∧ (r.toInt = 0 → (t.1 29 7).toInt ≤ (t.1 29 4).toInt) ∧ (r.toInt = 1 → (t.1 29 4).toInt < (t.1 29 7).toInt ∧ (u.1 29 4).toInt = ((lE (t.2.2.1 1) ((t.1 29 7).toInt).toNat ((t.1 29 4).toInt).toNat : Nat) : Int) + 1 ∧ (u.1 29 2).toInt = (t.1 29 4).toInt) ∧ (r.toInt = 1 → gR (u.2.2.1 51) = gT (t.2.2.1 1) ((t.1 29 4).toInt).toNat (lE (t.2.2.1 1) ((t.1 29 7).toInt).toNat ((t.1 29 4).toInt).toNat)) ∧ (r.toInt = 1 → (t.1 29 4).toInt + 1 ≤ (u.1 29 4).toInt ∧ (u.1 29 4).toInt ≤ 1281)) (fun (u : tSt) => (WX d) K ad u)) 0 0 := by
  refine t_met RX9 ⟨rfl, by decide +kernel⟩ (Nat.le_of_ble_eq_true rfl) ?_
  intro p e s m below meth c A ls C hE hZ hr hlocks hA hP hD hS hl
  have hl : lv_has ls 3 [(0, .ref (ad 29))] := hl
  have hokt := hok
  have hfr : frA [(29, 2), (29, 3), (29, 4), (29, 5)] [] [51] [] t t := frA_rf
  have h_1 : (0 : Int) ≤ (t.1 29 2).toInt ∧ (t.1 29 2).toInt ≤ 1280 := hok.1 29 2
  have h_2 : (0 : Int) ≤ (t.1 29 3).toInt ∧ (t.1 29 3).toInt ≤ 80 := hok.1 29 3
  have h_3 : (0 : Int) ≤ (t.1 29 4).toInt ∧ (t.1 29 4).toInt ≤ 1281 := hok.1 29 4
  have h_4 : (0 : Int) ≤ (t.1 29 7).toInt ∧ (t.1 29 7).toInt ≤ 1280 := hok.1 29 7
  have L_85 : ∀ (fuel_85 : Nat) (t1 : tSt) (w85_1 : Int32) (w85_2 : Int32) (H : Heap) (locs : List Loc) (ls : Array Slot), okX t1 → frA [(29, 2), (29, 3), (29, 4), (29, 5)] [] [51] [] t t1 → (0 : Int) ≤ w85_1.toInt ∧ w85_1.toInt ≤ 1280 → (0 : Int) ≤ w85_2.toInt ∧ w85_2.toInt ≤ 80 → (0 : Int) ≤ (t1.1 29 2).toInt ∧ (t1.1 29 2).toInt ≤ 1279 → (1 : Int) ≤ (t1.1 29 4).toInt ∧ (t1.1 29 4).toInt ≤ 1281 → (1 : Int) ≤ (t1.1 29 7).toInt ∧ (t1.1 29 7).toInt ≤ 1280 → ((t1.1 29 2).toInt + (t1.1 29 3).toInt ≤ 1280) → ((t.1 29 4).toInt + (t1.1 29 3).toInt + 1 ≤ (t1.1 29 4).toInt) → ((t1.1 29 4).toInt ≤ (t.1 29 7).toInt + 1) → (w85_1.toInt = ((lE (t.2.2.1 1) ((t.1 29 7).toInt).toNat ((t.1 29 4).toInt).toNat : Nat) : Int)) → ((t1.1 29 2).toInt = (t.1 29 4).toInt) → ((t1.1 29 4).toInt = w85_1.toInt + 1) → ((w85_1.toInt - (t1.1 29 2).toInt ≤ 80 ∧ (t1.1 29 3).toInt = w85_1.toInt - (t1.1 29 2).toInt) ∨ (80 < w85_1.toInt - (t1.1 29 2).toInt ∧ (t1.1 29 3).toInt = 80)) → (∀ j : Nat, (j : Int) < w85_2.toInt → (t1.2.2.1 51) j = gT (t.2.2.1 1) ((t.1 29 4).toInt).toNat (lE (t.2.2.1 1) ((t.1 29 7).toInt).toNat ((t.1 29 4).toInt).toNat) j) → ((t.1 29 4).toInt < (t.1 29 7).toInt) → (80 : Int) - w85_2.toInt < (fuel_85 : Int) → va_P D vwCl ((WX d) K ad t1) H → va_D A ((WX d) K ad t1) → va_S A s.heap H locs → lv_has ls 3 [(0, .ref (ad 29)), (1, .int w85_1), (2, .int w85_2)] → W p l e (rmD 6 0 0) s m [.ref (ad 29)].toArray below meth c H locs 0 0 (MQ below (QI D K (fun (r : Int32) (u : tSt) => okX u ∧ frA [(29, 2), (29, 3), (29, 4), (29, 5)] [] [51] [] t u ∧ (0 : Int) ≤ r.toInt ∧ r.toInt ≤ 1 ∧ (r.toInt = 0 → (t.1 29 7).toInt ≤ (t.1 29 4).toInt) ∧ (r.toInt = 1 → (t.1 29 4).toInt < (t.1 29 7).toInt ∧ (u.1 29 4).toInt = ((lE (t.2.2.1 1) ((t.1 29 7).toInt).toNat ((t.1 29 4).toInt).toNat : Nat) : Int) + 1 ∧ (u.1 29 2).toInt = (t.1 29 4).toInt) ∧ (r.toInt = 1 → gR (u.2.2.1 51) = gT (t.2.2.1 1) ((t.1 29 4).toInt).toNat (lE (t.2.2.1 1) ((t.1 29 7).toInt).toNat ((t.1 29 4).toInt).toNat)) ∧ (r.toInt = 1 → (t.1 29 4).toInt + 1 ≤ (u.1 29 4).toInt ∧ (u.1 29 4).toInt ≤ 1281)) (fun (u : tSt) => (WX d) K ad u) A) [.ref (ad 29)].toArray s 0 0 A) (F0 m 85 ls []) := by
    intro fuel_85
    induction fuel_85 with
    | zero =>
      intro t1 w85_1 w85_2 H locs ls hok hfr hw85_1 hw85_2 hf85_2 hf85_4 hf85_7 hi85_0 hi85_1 hi85_2 hi85_3 hi85_4 hi85_5 hi85_6 hi85_7 hi85_8 hm85_85 hP hD hS hl
      have h_5 : (t1.1 29 7).toInt = (t.1 29 7).toInt := ti_eq (hfr.1 29 7 rfl)
      have e_6 : t1.2.2.1 1 = t.2.2.1 1 := hfr.2.2.1 1 rfl
      have h_7 : (0 : Int) ≤ (t1.1 29 3).toInt ∧ (t1.1 29 3).toInt ≤ 80 := hok.1 29 3
      exact absurd hm85_85 (by omega)
    | succ fuel_85 ih_85 =>
      intro t1 w85_1 w85_2 H locs ls hok hfr hw85_1 hw85_2 hf85_2 hf85_4 hf85_7 hi85_0 hi85_1 hi85_2 hi85_3 hi85_4 hi85_5 hi85_6 hi85_7 hi85_8 hm85_85 hP hD hS hl
      have hm85_85 : (80 : Int) - w85_2.toInt < (fuel_85 : Int) + 1 := by omega
      have h_8 : (t1.1 29 7).toInt = (t.1 29 7).toInt := ti_eq (hfr.1 29 7 rfl)
      have e_9 : t1.2.2.1 1 = t.2.2.1 1 := hfr.2.2.1 1 rfl
      have h_10 : (0 : Int) ≤ (t1.1 29 3).toInt ∧ (t1.1 29 3).toInt ≤ 80 := hok.1 29 3
      refine lv_iload_n C.1 C.2.1 dX9_advance_85 rfl (lv_at hl 2 rfl) ?_
      refine lv_bipush (v := 80) C.1 C.2.1 dX9_advance_86 (by decide) ?_
      refine lv_icmp_ge (tgt := 134) C.1 C.2.1 dX9_advance_88 (by decide) (fun c_11 => ?_) (fun c_11 => ?_)
      · replace c_11 : 80 ≤ w85_2.toInt := i_le c_11
        refine lv_iconst (v := 1) C.1 C.2.1 dX9_advance_134 (by decide) ?_
        exact g_iret C hr hlocks hP hD hS (by decide) t1 rfl ⟨hok, hfr, by decide, by decide, (show 1 = 0 → (t.1 29 7).toInt ≤ (t.1 29 4).toInt from by omega), (show 1 = 1 → (t.1 29 4).toInt < (t.1 29 7).toInt ∧ (t1.1 29 4).toInt = ((lE (t.2.2.1 1) ((t.1 29 7).toInt).toNat ((t.1 29 4).toInt).toNat : Nat) : Int) + 1 ∧ (t1.1 29 2).toInt = (t.1 29 4).toInt from by intro hz; first | (exact absurd hz (by decide)) | exact ⟨by omega, by omega, by omega⟩), (show 1 = 1 → gR (t1.2.2.1 51) = gT (t.2.2.1 1) ((t.1 29 4).toInt).toNat (lE (t.2.2.1 1) ((t.1 29 7).toInt).toNat ((t.1 29 4).toInt).toNat) from by intro hz; first | (exact absurd hz (by decide)) | exact gR_gT (fun j hj => hi85_7 j (by omega))), (show 1 = 1 → (t.1 29 4).toInt + 1 ≤ (t1.1 29 4).toInt ∧ (t1.1 29 4).toInt ≤ 1281 from by intro hz; first | (exact absurd hz (by decide)) | omega)⟩ (Nat.le_of_ble_eq_true rfl) (Nat.le_of_ble_eq_true rfl) dX9_advance_135
      · replace c_11 : w85_2.toInt < 80 := i_nle c_11
        refine lv_aload_n C.1 C.2.1 dX9_advance_91 rfl (lv_at hl 0 rfl) ?_
        refine k_get (v := .ref (ad 51)) C hP 29 rfl rfl inlX9 1 (by decide) m_2_23 rfl dX9_advance_92 ?_
        refine lv_iload_n C.1 C.2.1 dX9_advance_95 rfl (lv_at hl 2 rfl) ?_
        refine lv_iload_n C.1 C.2.1 dX9_advance_96 rfl (lv_at hl 2 rfl) ?_
        refine lv_aload_n C.1 C.2.1 dX9_advance_97 rfl (lv_at hl 0 rfl) ?_
        refine k_get (v := .int (t1.1 29 3)) C hP 29 rfl rfl inlX9 3 (by decide) m_13_23 rfl dX9_advance_98 ?_
        refine lv_icmp_ge (tgt := 124) C.1 C.2.1 dX9_advance_101 (by decide) (fun c_12 => ?_) (fun c_12 => ?_)
        · replace c_12 : (t1.1 29 3).toInt ≤ w85_2.toInt := i_le c_12
          refine lv_bipush (v := 32) C.1 C.2.1 dX9_advance_124 (by decide) ?_
          obtain ⟨v_13, e_14⟩ : ∃ z, z = (32 : Int32).toInt8.toInt32 := ⟨_, rfl⟩
          have h_15 : (-128 : Int) ≤ v_13.toInt ∧ v_13.toInt ≤ 127 := by rw [e_14]; exact nar_byte _
          refine lv_i2b (v := v_13) C.1 C.2.1 dX9_advance_126 e_14.symm ?_
          obtain ⟨v_16, e_17⟩ : ∃ z, z = vp_nar .byte v_13 := ⟨_, rfl⟩
          have h_18 : (-128 : Int) ≤ v_16.toInt ∧ v_16.toInt ≤ 127 := by rw [e_17]; exact nar_byte _
          refine k_bst (ws' := (WX d) K ad (uB t1 51 (w85_2 : Int32).toNatClampNeg v_16)) (x' := v_16) C hP hD hS 51 rfl (vp_in_iff.mpr ⟨by omega, by omega⟩) rfl e_17.symm rfl dX9_advance_127 (fun H locs hP hD hS => ?_)
          have hok : okX (uB t1 51 (w85_2 : Int32).toNatClampNeg v_16) := ⟨hok.1, okB_B hok.2.1 51 _ v_16 (show (-128 : Int) ≤ (v_16 : Int32).toInt ∧ (v_16 : Int32).toInt ≤ 127 from ⟨by omega, by omega⟩), trivial⟩
          have hfr : frA [(29, 2), (29, 3), (29, 4), (29, 5)] [] [51] [] t (uB t1 51 (w85_2 : Int32).toNatClampNeg v_16) := frA_B hfr 51 _ _ rfl
          obtain ⟨v_19, e_20⟩ : ∃ z, z = w85_2 + 1 := ⟨_, rfl⟩
          have h_21 : v_19.toInt = w85_2.toInt + 1 := by rw [e_20]; exact ti_iadd (by show (_ : Int) ≤ w85_2.toInt + 1; omega) (by show w85_2.toInt + 1 < (_ : Int); omega)
          refine lv_iinc (v := v_19) (lv' := [(2, .int v_19), (0, .ref (ad 29)), (1, .int w85_1)]) C.1 C.2.1 dX9_advance_128 hl (k := 2) rfl e_20.symm (by decide) rfl (fun ls hl => ?_)
          have hl : lv_has ls 3 [(0, .ref (ad 29)), (1, .int w85_1), (2, .int v_19)] := lv_sub hl [1, 2, 0] rfl
          refine lv_goto (tgt := 85) C.1 C.2.1 dX9_advance_131 (by decide) ?_
          exact ih_85 (uB t1 51 (w85_2 : Int32).toNatClampNeg v_16) w85_1 v_19 _ _ _ hok hfr ⟨by omega, by omega⟩ ⟨by omega, by omega⟩ (show (0 : Int) ≤ ((t1.1 29 2) : Int32).toInt ∧ ((t1.1 29 2) : Int32).toInt ≤ 1279 from ⟨by omega, by omega⟩) (show (1 : Int) ≤ ((t1.1 29 4) : Int32).toInt ∧ ((t1.1 29 4) : Int32).toInt ≤ 1281 from ⟨by omega, by omega⟩) (show (1 : Int) ≤ ((t1.1 29 7) : Int32).toInt ∧ ((t1.1 29 7) : Int32).toInt ≤ 1280 from ⟨by omega, by omega⟩) (show (t1.1 29 2).toInt + (t1.1 29 3).toInt ≤ 1280 from by omega) (show (t.1 29 4).toInt + (t1.1 29 3).toInt + 1 ≤ (t1.1 29 4).toInt from by omega) (show (t1.1 29 4).toInt ≤ (t.1 29 7).toInt + 1 from by omega) (show w85_1.toInt = ((lE (t.2.2.1 1) ((t.1 29 7).toInt).toNat ((t.1 29 4).toInt).toNat : Nat) : Int) from by first | exact hi61_4 | exact hi85_3) (show (t1.1 29 2).toInt = (t.1 29 4).toInt from by omega) (show (t1.1 29 4).toInt = w85_1.toInt + 1 from by omega) (show (w85_1.toInt - (t1.1 29 2).toInt ≤ 80 ∧ (t1.1 29 3).toInt = w85_1.toInt - (t1.1 29 2).toInt) ∨ (80 < w85_1.toInt - (t1.1 29 2).toInt ∧ (t1.1 29 3).toInt = 80) from by omega) (show ∀ j : Nat, (j : Int) < v_19.toInt → ((uB t1 51 (w85_2 : Int32).toNatClampNeg v_16).2.2.1 51) j = gT (t.2.2.1 1) ((t.1 29 4).toInt).toNat (lE (t.2.2.1 1) ((t.1 29 7).toInt).toNat ((t.1 29 4).toInt).toNat) j from by intro j hj; first | (exfalso; omega) | (rcases Int.lt_or_eq_of_le (show (j : Int) ≤ w85_2.toInt from by omega) with h9 | h9 <;> first | exact row_old h9 (hi85_7 j h9) | exact row_new h9 (let_out h9 (by omega) (by omega) (by assumption) (by assumption)) | exact row_new h9 (let_in h9 (by omega) (by omega) (by omega) (by assumption) (by assumption) (by assumption) (by assumption) (by omega)))) (show (t.1 29 4).toInt < (t.1 29 7).toInt from by omega) (show (80 : Int) - v_19.toInt < (fuel_85 : Int) from by omega) hP hD hS (lv_sub hl [0, 1, 2] rfl)
        · replace c_12 : w85_2.toInt < (t1.1 29 3).toInt := i_nle c_12
          refine lv_aload_n C.1 C.2.1 dX9_advance_104 rfl (lv_at hl 0 rfl) ?_
          refine k_get (v := .ref (ad 1)) C hP 29 rfl rfl inlX9 0 (by decide) m_3_0 rfl dX9_advance_105 ?_
          refine lv_aload_n C.1 C.2.1 dX9_advance_108 rfl (lv_at hl 0 rfl) ?_
          refine k_get (v := .int (t1.1 29 2)) C hP 29 rfl rfl inlX9 2 (by decide) m_13_22 rfl dX9_advance_109 ?_
          refine lv_iload_n C.1 C.2.1 dX9_advance_112 rfl (lv_at hl 2 rfl) ?_
          obtain ⟨v_22, e_23⟩ : ∃ z, z = ((t1.1 29 2) : Int32) + (w85_2 : Int32) := ⟨_, rfl⟩
          have h_24 : v_22.toInt = (t1.1 29 2).toInt + w85_2.toInt := by rw [e_23]; exact ti_iadd (by show (_ : Int) ≤ (t1.1 29 2).toInt + w85_2.toInt; omega) (by show (t1.1 29 2).toInt + w85_2.toInt < (_ : Int); omega)
          refine k_iadd (v := v_22) C e_23.symm dX9_advance_113 ?_
          have h_25 : (-128 : Int) ≤ (t.2.2.1 1 (v_22 : Int32).toNatClampNeg).toInt ∧ (t.2.2.1 1 (v_22 : Int32).toNatClampNeg).toInt ≤ 127 := by rw [← e_9]; exact hok.2.1 1 _
          refine k_bld (v := (t.2.2.1 1 (v_22 : Int32).toNatClampNeg)) C hP 1 rfl (vp_in_iff.mpr ⟨by omega, by omega⟩) (congrFun e_9 _) dX9_advance_114 ?_
          refine g_Si (As := [.int (t.2.2.1 1 (v_22 : Int32).toNatClampNeg)]) (rest := [.int w85_2, .ref (ad 51)]) C hP hD hS hA (U_X1_code l D K Z Y ad d t1 hok ((t.2.2.1 1 (v_22 : Int32).toNatClampNeg)) (show (-128 : Int) ≤ ((t.2.2.1 1 (v_22 : Int32).toNatClampNeg) : Int32).toInt ∧ ((t.2.2.1 1 (v_22 : Int32).toNatClampNeg) : Int32).toInt ≤ 127 from ⟨by omega, by omega⟩)) hE hZ (uwS m_14_0 m_14_1 m_14_2 m_14_3) (hdS 1 (by decide +kernel) rfl) ⟨Nat.le_of_ble_eq_true rfl, Nat.le_of_ble_eq_true rfl⟩ rfl rfl rfl hl.1 (Nat.le_of_ble_eq_true rfl) dX9_advance_115 ⟨Nat.le_of_ble_eq_true rfl, Nat.le_of_ble_eq_true rfl⟩ (fun r_27 t_26 H locs hw hP hD hS => ?_)
          obtain ⟨h_29, h_30, p_31⟩ := hw
          replace p_31 : r_27 = bO (t.2.2.1 1 (v_22 : Int32).toNatClampNeg) := p_31
          refine g_Si (As := [.int r_27]) (rest := [.int w85_2, .ref (ad 51)]) C hP hD hS hA (U_X1_written l D K Z Y ad d t1 hok (r_27) (show (0 : Int) ≤ (r_27 : Int32).toInt ∧ (r_27 : Int32).toInt ≤ 399 from ⟨by omega, by omega⟩)) hE hZ (uwS m_17_17 m_17_18 m_14_2 m_17_19) (hdS 1 (by decide +kernel) rfl) ⟨Nat.le_of_ble_eq_true rfl, Nat.le_of_ble_eq_true rfl⟩ rfl rfl rfl hl.1 (Nat.le_of_ble_eq_true rfl) dX9_advance_118 ⟨Nat.le_of_ble_eq_true rfl, Nat.le_of_ble_eq_true rfl⟩ (fun r_33 t_32 H locs hw hP hD hS => ?_)
          obtain ⟨h_35, h_36, p_37⟩ := hw
          replace p_37 : 0 ≤ r_27.toInt → r_27.toInt < 56 → r_33 = (sByt 23).getD (r_27 : Int32).toNatClampNeg 0 := p_37
          refine lv_goto (tgt := 126) C.1 C.2.1 dX9_advance_121 (by decide) ?_
          obtain ⟨v_38, e_39⟩ : ∃ z, z = (r_33 : Int32).toInt8.toInt32 := ⟨_, rfl⟩
          have h_40 : (-128 : Int) ≤ v_38.toInt ∧ v_38.toInt ≤ 127 := by rw [e_39]; exact nar_byte _
          refine lv_i2b (v := v_38) C.1 C.2.1 dX9_advance_126 e_39.symm ?_
          obtain ⟨v_41, e_42⟩ : ∃ z, z = vp_nar .byte v_38 := ⟨_, rfl⟩
          have h_43 : (-128 : Int) ≤ v_41.toInt ∧ v_41.toInt ≤ 127 := by rw [e_42]; exact nar_byte _
          refine k_bst (ws' := (WX d) K ad (uB t1 51 (w85_2 : Int32).toNatClampNeg v_41)) (x' := v_41) C hP hD hS 51 rfl (vp_in_iff.mpr ⟨by omega, by omega⟩) rfl e_42.symm rfl dX9_advance_127 (fun H locs hP hD hS => ?_)
          have hok : okX (uB t1 51 (w85_2 : Int32).toNatClampNeg v_41) := ⟨hok.1, okB_B hok.2.1 51 _ v_41 (show (-128 : Int) ≤ (v_41 : Int32).toInt ∧ (v_41 : Int32).toInt ≤ 127 from ⟨by omega, by omega⟩), trivial⟩
          have hfr : frA [(29, 2), (29, 3), (29, 4), (29, 5)] [] [51] [] t (uB t1 51 (w85_2 : Int32).toNatClampNeg v_41) := frA_B hfr 51 _ _ rfl
          obtain ⟨v_44, e_45⟩ : ∃ z, z = w85_2 + 1 := ⟨_, rfl⟩
          have h_46 : v_44.toInt = w85_2.toInt + 1 := by rw [e_45]; exact ti_iadd (by show (_ : Int) ≤ w85_2.toInt + 1; omega) (by show w85_2.toInt + 1 < (_ : Int); omega)
          refine lv_iinc (v := v_44) (lv' := [(2, .int v_44), (0, .ref (ad 29)), (1, .int w85_1)]) C.1 C.2.1 dX9_advance_128 hl (k := 2) rfl e_45.symm (by decide) rfl (fun ls hl => ?_)
          have hl : lv_has ls 3 [(0, .ref (ad 29)), (1, .int w85_1), (2, .int v_44)] := lv_sub hl [1, 2, 0] rfl
          refine lv_goto (tgt := 85) C.1 C.2.1 dX9_advance_131 (by decide) ?_
          exact ih_85 (uB t1 51 (w85_2 : Int32).toNatClampNeg v_41) w85_1 v_44 _ _ _ hok hfr ⟨by omega, by omega⟩ ⟨by omega, by omega⟩ (show (0 : Int) ≤ ((t1.1 29 2) : Int32).toInt ∧ ((t1.1 29 2) : Int32).toInt ≤ 1279 from ⟨by omega, by omega⟩) (show (1 : Int) ≤ ((t1.1 29 4) : Int32).toInt ∧ ((t1.1 29 4) : Int32).toInt ≤ 1281 from ⟨by omega, by omega⟩) (show (1 : Int) ≤ ((t1.1 29 7) : Int32).toInt ∧ ((t1.1 29 7) : Int32).toInt ≤ 1280 from ⟨by omega, by omega⟩) (show (t1.1 29 2).toInt + (t1.1 29 3).toInt ≤ 1280 from by omega) (show (t.1 29 4).toInt + (t1.1 29 3).toInt + 1 ≤ (t1.1 29 4).toInt from by omega) (show (t1.1 29 4).toInt ≤ (t.1 29 7).toInt + 1 from by omega) (show w85_1.toInt = ((lE (t.2.2.1 1) ((t.1 29 7).toInt).toNat ((t.1 29 4).toInt).toNat : Nat) : Int) from by first | exact hi61_4 | exact hi85_3) (show (t1.1 29 2).toInt = (t.1 29 4).toInt from by omega) (show (t1.1 29 4).toInt = w85_1.toInt + 1 from by omega) (show (w85_1.toInt - (t1.1 29 2).toInt ≤ 80 ∧ (t1.1 29 3).toInt = w85_1.toInt - (t1.1 29 2).toInt) ∨ (80 < w85_1.toInt - (t1.1 29 2).toInt ∧ (t1.1 29 3).toInt = 80) from by omega) (show ∀ j : Nat, (j : Int) < v_44.toInt → ((uB t1 51 (w85_2 : Int32).toNatClampNeg v_41).2.2.1 51) j = gT (t.2.2.1 1) ((t.1 29 4).toInt).toNat (lE (t.2.2.1 1) ((t.1 29 7).toInt).toNat ((t.1 29 4).toInt).toNat) j from by intro j hj; first | (exfalso; omega) | (rcases Int.lt_or_eq_of_le (show (j : Int) ≤ w85_2.toInt from by omega) with h9 | h9 <;> first | exact row_old h9 (hi85_7 j h9) | exact row_new h9 (let_out h9 (by omega) (by omega) (by assumption) (by assumption)) | exact row_new h9 (let_in h9 (by omega) (by omega) (by omega) (by assumption) (by assumption) (by assumption) (by assumption) (by omega)))) (show (t.1 29 4).toInt < (t.1 29 7).toInt from by omega) (show (80 : Int) - v_44.toInt < (fuel_85 : Int) from by omega) hP hD hS (lv_sub hl [0, 1, 2] rfl)
  have L_61 : ∀ (t1 : tSt) (w61_1 : Int32) (H : Heap) (locs : List Loc) (ls : Array Slot), okX t1 → frA [(29, 2), (29, 3), (29, 4), (29, 5)] [] [51] [] t t1 → (0 : Int) ≤ w61_1.toInt ∧ w61_1.toInt ≤ 1280 → (0 : Int) ≤ (t1.1 29 2).toInt ∧ (t1.1 29 2).toInt ≤ 1279 → (0 : Int) ≤ (t1.1 29 4).toInt ∧ (t1.1 29 4).toInt ≤ 1279 → (1 : Int) ≤ (t1.1 29 7).toInt ∧ (t1.1 29 7).toInt ≤ 1280 → ((t1.1 29 2).toInt ≤ w61_1.toInt) → (w61_1.toInt ≤ (t1.1 29 7).toInt) → ((t1.1 29 2).toInt = (t.1 29 4).toInt) → ((t.1 29 4).toInt < (t.1 29 7).toInt) → (w61_1.toInt = ((lE (t.2.2.1 1) ((t.1 29 7).toInt).toNat ((t.1 29 4).toInt).toNat : Nat) : Int)) → va_P D vwCl ((WX d) K ad t1) H → va_D A ((WX d) K ad t1) → va_S A s.heap H locs → lv_has ls 3 [(0, .ref (ad 29)), (1, .int w61_1)] → W p l e (rmD 6 0 0) s m [.ref (ad 29)].toArray below meth c H locs 0 0 (MQ below (QI D K (fun (r : Int32) (u : tSt) => okX u ∧ frA [(29, 2), (29, 3), (29, 4), (29, 5)] [] [51] [] t u ∧ (0 : Int) ≤ r.toInt ∧ r.toInt ≤ 1 ∧ (r.toInt = 0 → (t.1 29 7).toInt ≤ (t.1 29 4).toInt) ∧ (r.toInt = 1 → (t.1 29 4).toInt < (t.1 29 7).toInt ∧ (u.1 29 4).toInt = ((lE (t.2.2.1 1) ((t.1 29 7).toInt).toNat ((t.1 29 4).toInt).toNat : Nat) : Int) + 1 ∧ (u.1 29 2).toInt = (t.1 29 4).toInt) ∧ (r.toInt = 1 → gR (u.2.2.1 51) = gT (t.2.2.1 1) ((t.1 29 4).toInt).toNat (lE (t.2.2.1 1) ((t.1 29 7).toInt).toNat ((t.1 29 4).toInt).toNat)) ∧ (r.toInt = 1 → (t.1 29 4).toInt + 1 ≤ (u.1 29 4).toInt ∧ (u.1 29 4).toInt ≤ 1281)) (fun (u : tSt) => (WX d) K ad u) A) [.ref (ad 29)].toArray s 0 0 A) (F0 m 61 ls []) := by
    intro t1 w61_1 H locs ls hok hfr hw61_1 hf61_2 hf61_4 hf61_7 hi61_0 hi61_1 hi61_2 hi61_3 hi61_4 hP hD hS hl
    have h_47 : (t1.1 29 7).toInt = (t.1 29 7).toInt := ti_eq (hfr.1 29 7 rfl)
    have e_48 : t1.2.2.1 1 = t.2.2.1 1 := hfr.2.2.1 1 rfl
    have h_49 : (0 : Int) ≤ (t1.1 29 3).toInt ∧ (t1.1 29 3).toInt ≤ 80 := hok.1 29 3
    refine lv_aload_n C.1 C.2.1 dX9_advance_61 rfl (lv_at hl 0 rfl) ?_
    refine lv_iload_n C.1 C.2.1 dX9_advance_62 rfl (lv_at hl 1 rfl) ?_
    refine lv_iconst (v := 1) C.1 C.2.1 dX9_advance_63 (by decide) ?_
    obtain ⟨v_50, e_51⟩ : ∃ z, z = (w61_1 : Int32) + (1 : Int32) := ⟨_, rfl⟩
    have h_52 : v_50.toInt = w61_1.toInt + 1 := by rw [e_51]; exact ti_iadd (by show (_ : Int) ≤ w61_1.toInt + 1; omega) (by show w61_1.toInt + 1 < (_ : Int); omega)
    refine k_iadd (v := v_50) C e_51.symm dX9_advance_64 ?_
    refine k_put (ws' := (WX d) K ad (uI t1 29 4 v_50)) (v := .int v_50) C hP hD hS 29 rfl rfl inlX9 tyX9_ok nmX9 4 (by decide) m_13_2 rfl rfl rfl rfl rfl dX9_advance_65 (fun H locs hP hD hS => ?_)
    have hok : okX (uI t1 29 4 v_50) := ⟨okI_I hok.1 29 4 v_50 (show (0 : Int) ≤ (v_50 : Int32).toInt ∧ (v_50 : Int32).toInt ≤ 1281 from ⟨by omega, by omega⟩), hok.2.1, trivial⟩
    have hfr : frA [(29, 2), (29, 3), (29, 4), (29, 5)] [] [51] [] t (uI t1 29 4 v_50) := frA_I hfr 29 4 _ rfl
    refine lv_aload_n C.1 C.2.1 dX9_advance_68 rfl (lv_at hl 0 rfl) ?_
    refine lv_iload_n C.1 C.2.1 dX9_advance_69 rfl (lv_at hl 1 rfl) ?_
    refine lv_aload_n C.1 C.2.1 dX9_advance_70 rfl (lv_at hl 0 rfl) ?_
    refine k_get (v := .int (t1.1 29 2)) C hP 29 rfl rfl inlX9 2 (by decide) m_13_22 rfl dX9_advance_71 ?_
    obtain ⟨v_53, e_54⟩ : ∃ z, z = (w61_1 : Int32) - ((t1.1 29 2) : Int32) := ⟨_, rfl⟩
    have h_55 : v_53.toInt = w61_1.toInt - (t1.1 29 2).toInt := by rw [e_54]; exact ti_isub (by show (_ : Int) ≤ w61_1.toInt - (t1.1 29 2).toInt; omega) (by show w61_1.toInt - (t1.1 29 2).toInt < (_ : Int); omega)
    refine k_isub (v := v_53) C e_54.symm dX9_advance_74 ?_
    refine lv_bipush (v := 80) C.1 C.2.1 dX9_advance_75 (by decide) ?_
    obtain ⟨v_57, e_56⟩ : ∃ z, z = if (80 : Int32) < (v_53 : Int32) then (80 : Int32) else (v_53 : Int32) := ⟨_, rfl⟩
    have h_58 : (80 : Int32).toInt = 80 := rfl
    have h_59 := mn_r e_56
    refine k_mmin (v := v_57) C hl.1 m_12_18 m_12_19 m_12_15 m_12_20 (Nat.le_of_ble_eq_true rfl) (Nat.le_of_ble_eq_true rfl) (Nat.le_of_ble_eq_true rfl) (Nat.le_of_ble_eq_true rfl) e_56.symm dX9_advance_77 ?_
    refine k_put (ws' := (WX d) K ad (uI (uI t1 29 4 v_50) 29 3 v_57)) (v := .int v_57) C hP hD hS 29 rfl rfl inlX9 tyX9_ok nmX9 3 (by decide) m_13_23 rfl rfl rfl rfl rfl dX9_advance_80 (fun H locs hP hD hS => ?_)
    have hok : okX (uI (uI t1 29 4 v_50) 29 3 v_57) := ⟨okI_I hok.1 29 3 v_57 (show (0 : Int) ≤ (v_57 : Int32).toInt ∧ (v_57 : Int32).toInt ≤ 80 from ⟨by omega, by omega⟩), hok.2.1, trivial⟩
    have hfr : frA [(29, 2), (29, 3), (29, 4), (29, 5)] [] [51] [] t (uI (uI t1 29 4 v_50) 29 3 v_57) := frA_I hfr 29 3 _ rfl
    refine lv_iconst (v := 0) C.1 C.2.1 dX9_advance_83 (by decide) ?_
    refine lv_istore_n (lv' := [(2, .int 0), (0, .ref (ad 29)), (1, .int w61_1)]) C.1 C.2.1 dX9_advance_84 rfl hl (by decide) rfl (fun ls hl => ?_)
    have hl : lv_has ls 3 [(0, .ref (ad 29)), (1, .int w61_1), (2, .int 0)] := lv_sub hl [1, 2, 0] rfl
    exact L_85 81 (uI (uI t1 29 4 v_50) 29 3 v_57) w61_1 0 _ _ _ hok hfr ⟨by omega, by omega⟩ ⟨by decide, by decide⟩ (show (0 : Int) ≤ ((t1.1 29 2) : Int32).toInt ∧ ((t1.1 29 2) : Int32).toInt ≤ 1279 from ⟨by omega, by omega⟩) (show (1 : Int) ≤ (v_50 : Int32).toInt ∧ (v_50 : Int32).toInt ≤ 1281 from ⟨by omega, by omega⟩) (show (1 : Int) ≤ ((t1.1 29 7) : Int32).toInt ∧ ((t1.1 29 7) : Int32).toInt ≤ 1280 from ⟨by omega, by omega⟩) (show (t1.1 29 2).toInt + v_57.toInt ≤ 1280 from by omega) (show (t.1 29 4).toInt + v_57.toInt + 1 ≤ v_50.toInt from by omega) (show v_50.toInt ≤ (t.1 29 7).toInt + 1 from by omega) (show w61_1.toInt = ((lE (t.2.2.1 1) ((t.1 29 7).toInt).toNat ((t.1 29 4).toInt).toNat : Nat) : Int) from by first | exact hi61_4 | exact hi85_3) (show (t1.1 29 2).toInt = (t.1 29 4).toInt from by omega) (show v_50.toInt = w61_1.toInt + 1 from by omega) (show (w61_1.toInt - (t1.1 29 2).toInt ≤ 80 ∧ v_57.toInt = w61_1.toInt - (t1.1 29 2).toInt) ∨ (80 < w61_1.toInt - (t1.1 29 2).toInt ∧ v_57.toInt = 80) from by omega) (show ∀ j : Nat, (j : Int) < 0 → (t1.2.2.1 51) j = gT (t.2.2.1 1) ((t.1 29 4).toInt).toNat (lE (t.2.2.1 1) ((t.1 29 7).toInt).toNat ((t.1 29 4).toInt).toNat) j from by intro j hj; first | (exfalso; omega) | (rcases Int.lt_or_eq_of_le (show (j : Int) ≤ w85_2.toInt from by omega) with h9 | h9 <;> first | exact row_old h9 (hi85_7 j h9) | exact row_new h9 (let_out h9 (by omega) (by omega) (by assumption) (by assumption)) | exact row_new h9 (let_in h9 (by omega) (by omega) (by omega) (by assumption) (by assumption) (by assumption) (by assumption) (by omega)))) (show (t.1 29 4).toInt < (t.1 29 7).toInt from by omega) (show (80 : Int) - 0 < ((81 : Nat) : Int) from by omega) hP hD hS (lv_sub hl [0, 1, 2] rfl)
  have L_36 : ∀ (fuel_36 : Nat) (t1 : tSt) (w36_1 : Int32) (H : Heap) (locs : List Loc) (ls : Array Slot), okX t1 → frA [(29, 2), (29, 3), (29, 4), (29, 5)] [] [51] [] t t1 → (0 : Int) ≤ w36_1.toInt ∧ w36_1.toInt ≤ 1280 → (0 : Int) ≤ (t1.1 29 2).toInt ∧ (t1.1 29 2).toInt ≤ 1279 → (0 : Int) ≤ (t1.1 29 4).toInt ∧ (t1.1 29 4).toInt ≤ 1279 → (1 : Int) ≤ (t1.1 29 7).toInt ∧ (t1.1 29 7).toInt ≤ 1280 → ((t1.1 29 2).toInt ≤ w36_1.toInt) → (w36_1.toInt ≤ (t1.1 29 7).toInt) → ((t1.1 29 2).toInt = (t.1 29 4).toInt) → ((t.1 29 4).toInt < (t.1 29 7).toInt) → (∀ j : Nat, (t.1 29 4).toInt ≤ (j : Int) → (j : Int) < w36_1.toInt → (j : Int) < (t.1 29 7).toInt ∧ ¬ (t.2.2.1 1) j = 10) → (1280 : Int) - w36_1.toInt < (fuel_36 : Int) → va_P D vwCl ((WX d) K ad t1) H → va_D A ((WX d) K ad t1) → va_S A s.heap H locs → lv_has ls 3 [(0, .ref (ad 29)), (1, .int w36_1)] → W p l e (rmD 6 0 0) s m [.ref (ad 29)].toArray below meth c H locs 0 0 (MQ below (QI D K (fun (r : Int32) (u : tSt) => okX u ∧ frA [(29, 2), (29, 3), (29, 4), (29, 5)] [] [51] [] t u ∧ (0 : Int) ≤ r.toInt ∧ r.toInt ≤ 1 ∧ (r.toInt = 0 → (t.1 29 7).toInt ≤ (t.1 29 4).toInt) ∧ (r.toInt = 1 → (t.1 29 4).toInt < (t.1 29 7).toInt ∧ (u.1 29 4).toInt = ((lE (t.2.2.1 1) ((t.1 29 7).toInt).toNat ((t.1 29 4).toInt).toNat : Nat) : Int) + 1 ∧ (u.1 29 2).toInt = (t.1 29 4).toInt) ∧ (r.toInt = 1 → gR (u.2.2.1 51) = gT (t.2.2.1 1) ((t.1 29 4).toInt).toNat (lE (t.2.2.1 1) ((t.1 29 7).toInt).toNat ((t.1 29 4).toInt).toNat)) ∧ (r.toInt = 1 → (t.1 29 4).toInt + 1 ≤ (u.1 29 4).toInt ∧ (u.1 29 4).toInt ≤ 1281)) (fun (u : tSt) => (WX d) K ad u) A) [.ref (ad 29)].toArray s 0 0 A) (F0 m 36 ls []) := by
    intro fuel_36
    induction fuel_36 with
    | zero =>
      intro t1 w36_1 H locs ls hok hfr hw36_1 hf36_2 hf36_4 hf36_7 hi36_0 hi36_1 hi36_2 hi36_3 hi36_4 hm36_36 hP hD hS hl
      have h_60 : (t1.1 29 7).toInt = (t.1 29 7).toInt := ti_eq (hfr.1 29 7 rfl)
      have e_61 : t1.2.2.1 1 = t.2.2.1 1 := hfr.2.2.1 1 rfl
      have h_62 : (0 : Int) ≤ (t1.1 29 3).toInt ∧ (t1.1 29 3).toInt ≤ 80 := hok.1 29 3
      exact absurd hm36_36 (by omega)
    | succ fuel_36 ih_36 =>
      intro t1 w36_1 H locs ls hok hfr hw36_1 hf36_2 hf36_4 hf36_7 hi36_0 hi36_1 hi36_2 hi36_3 hi36_4 hm36_36 hP hD hS hl
      have hm36_36 : (1280 : Int) - w36_1.toInt < (fuel_36 : Int) + 1 := by omega
      have h_63 : (t1.1 29 7).toInt = (t.1 29 7).toInt := ti_eq (hfr.1 29 7 rfl)
      have e_64 : t1.2.2.1 1 = t.2.2.1 1 := hfr.2.2.1 1 rfl
      have h_65 : (0 : Int) ≤ (t1.1 29 3).toInt ∧ (t1.1 29 3).toInt ≤ 80 := hok.1 29 3
      refine lv_iload_n C.1 C.2.1 dX9_advance_36 rfl (lv_at hl 1 rfl) ?_
      refine lv_aload_n C.1 C.2.1 dX9_advance_37 rfl (lv_at hl 0 rfl) ?_
      refine k_get (v := .int (t1.1 29 7)) C hP 29 rfl rfl inlX9 7 (by decide) m_12_21 rfl dX9_advance_38 ?_
      refine lv_icmp_ge (tgt := 61) C.1 C.2.1 dX9_advance_41 (by decide) (fun c_66 => ?_) (fun c_66 => ?_)
      · replace c_66 : (t1.1 29 7).toInt ≤ w36_1.toInt := i_le c_66
        exact L_61 t1 w36_1 _ _ _ hok hfr ⟨by omega, by omega⟩ (show (0 : Int) ≤ ((t1.1 29 2) : Int32).toInt ∧ ((t1.1 29 2) : Int32).toInt ≤ 1279 from ⟨by omega, by omega⟩) (show (0 : Int) ≤ ((t1.1 29 4) : Int32).toInt ∧ ((t1.1 29 4) : Int32).toInt ≤ 1279 from ⟨by omega, by omega⟩) (show (1 : Int) ≤ ((t1.1 29 7) : Int32).toInt ∧ ((t1.1 29 7) : Int32).toInt ≤ 1280 from ⟨by omega, by omega⟩) (show (t1.1 29 2).toInt ≤ w36_1.toInt from by omega) (show w36_1.toInt ≤ (t1.1 29 7).toInt from by omega) (show (t1.1 29 2).toInt = (t.1 29 4).toInt from by omega) (show (t.1 29 4).toInt < (t.1 29 7).toInt from by omega) (show w36_1.toInt = ((lE (t.2.2.1 1) ((t.1 29 7).toInt).toNat ((t.1 29 4).toInt).toNat : Nat) : Int) from by exact adv_end hi36_4 (by omega) (by omega) (by first | exact Or.inl (by omega) | exact Or.inr (adv_eq (by assumption) rfl))) hP hD hS (lv_sub hl [0, 1] rfl)
      · replace c_66 : w36_1.toInt < (t1.1 29 7).toInt := i_nle c_66
        refine lv_aload_n C.1 C.2.1 dX9_advance_44 rfl (lv_at hl 0 rfl) ?_
        refine k_get (v := .ref (ad 1)) C hP 29 rfl rfl inlX9 0 (by decide) m_3_0 rfl dX9_advance_45 ?_
        refine lv_iload_n C.1 C.2.1 dX9_advance_48 rfl (lv_at hl 1 rfl) ?_
        have h_67 : (-128 : Int) ≤ (t.2.2.1 1 (w36_1 : Int32).toNatClampNeg).toInt ∧ (t.2.2.1 1 (w36_1 : Int32).toNatClampNeg).toInt ≤ 127 := by rw [← e_64]; exact hok.2.1 1 _
        refine k_bld (v := (t.2.2.1 1 (w36_1 : Int32).toNatClampNeg)) C hP 1 rfl (vp_in_iff.mpr ⟨by omega, by omega⟩) (congrFun e_64 _) dX9_advance_49 ?_
        refine lv_bipush (v := 10) C.1 C.2.1 dX9_advance_50 (by decide) ?_
        refine lv_icmp_eq (tgt := 61) C.1 C.2.1 dX9_advance_52 (by decide) (fun c_68 => ?_) (fun c_68 => ?_)
        · replace c_68 : (t.2.2.1 1 (w36_1 : Int32).toNatClampNeg).toInt = 10 := i_eq c_68
          exact L_61 t1 w36_1 _ _ _ hok hfr ⟨by omega, by omega⟩ (show (0 : Int) ≤ ((t1.1 29 2) : Int32).toInt ∧ ((t1.1 29 2) : Int32).toInt ≤ 1279 from ⟨by omega, by omega⟩) (show (0 : Int) ≤ ((t1.1 29 4) : Int32).toInt ∧ ((t1.1 29 4) : Int32).toInt ≤ 1279 from ⟨by omega, by omega⟩) (show (1 : Int) ≤ ((t1.1 29 7) : Int32).toInt ∧ ((t1.1 29 7) : Int32).toInt ≤ 1280 from ⟨by omega, by omega⟩) (show (t1.1 29 2).toInt ≤ w36_1.toInt from by omega) (show w36_1.toInt ≤ (t1.1 29 7).toInt from by omega) (show (t1.1 29 2).toInt = (t.1 29 4).toInt from by omega) (show (t.1 29 4).toInt < (t.1 29 7).toInt from by omega) (show w36_1.toInt = ((lE (t.2.2.1 1) ((t.1 29 7).toInt).toNat ((t.1 29 4).toInt).toNat : Nat) : Int) from by exact adv_end hi36_4 (by omega) (by omega) (by first | exact Or.inl (by omega) | exact Or.inr (adv_eq (by assumption) rfl))) hP hD hS (lv_sub hl [0, 1] rfl)
        · replace c_68 : ¬ (t.2.2.1 1 (w36_1 : Int32).toNatClampNeg).toInt = 10 := i_ne c_68
          obtain ⟨v_69, e_70⟩ : ∃ z, z = w36_1 + 1 := ⟨_, rfl⟩
          have h_71 : v_69.toInt = w36_1.toInt + 1 := by rw [e_70]; exact ti_iadd (by show (_ : Int) ≤ w36_1.toInt + 1; omega) (by show w36_1.toInt + 1 < (_ : Int); omega)
          refine lv_iinc (v := v_69) (lv' := [(1, .int v_69), (0, .ref (ad 29))]) C.1 C.2.1 dX9_advance_55 hl (k := 1) rfl e_70.symm (by decide) rfl (fun ls hl => ?_)
          have hl : lv_has ls 3 [(0, .ref (ad 29)), (1, .int v_69)] := lv_sub hl [1, 0] rfl
          refine lv_goto (tgt := 36) C.1 C.2.1 dX9_advance_58 (by decide) ?_
          exact ih_36 t1 v_69 _ _ _ hok hfr ⟨by omega, by omega⟩ (show (0 : Int) ≤ ((t1.1 29 2) : Int32).toInt ∧ ((t1.1 29 2) : Int32).toInt ≤ 1279 from ⟨by omega, by omega⟩) (show (0 : Int) ≤ ((t1.1 29 4) : Int32).toInt ∧ ((t1.1 29 4) : Int32).toInt ≤ 1279 from ⟨by omega, by omega⟩) (show (1 : Int) ≤ ((t1.1 29 7) : Int32).toInt ∧ ((t1.1 29 7) : Int32).toInt ≤ 1280 from ⟨by omega, by omega⟩) (show (t1.1 29 2).toInt ≤ v_69.toInt from by omega) (show v_69.toInt ≤ (t1.1 29 7).toInt from by omega) (show (t1.1 29 2).toInt = (t.1 29 4).toInt from by omega) (show (t.1 29 4).toInt < (t.1 29 7).toInt from by omega) (show ∀ j : Nat, (t.1 29 4).toInt ≤ (j : Int) → (j : Int) < v_69.toInt → (j : Int) < (t.1 29 7).toInt ∧ ¬ (t.2.2.1 1) j = 10 from by intro j h1 h2; first | (exfalso; omega) | (rcases Int.lt_or_eq_of_le (show (j : Int) ≤ w36_1.toInt from by omega) with h9 | h9 <;> first | exact hi36_4 j h1 h9 | exact ⟨by omega, adv_ne h9 (by assumption) rfl⟩)) (show (1280 : Int) - v_69.toInt < (fuel_36 : Int) from by omega) hP hD hS (lv_sub hl [0, 1] rfl)
  refine lv_aload_n C.1 C.2.1 dX9_advance_0 rfl (lv_at hl 0 rfl) ?_
  refine lv_dup C.1 C.2.1 dX9_advance_1 rfl ?_
  refine k_get (v := .int (t.1 29 5)) C hP 29 rfl rfl inlX9 5 (by decide) m_13_3 rfl dX9_advance_2 ?_
  refine lv_iconst (v := 1) C.1 C.2.1 dX9_advance_5 (by decide) ?_
  obtain ⟨v_72, e_73⟩ : ∃ z, z = ((t.1 29 5) : Int32) + (1 : Int32) := ⟨_, rfl⟩
  refine k_iadd (v := v_72) C e_73.symm dX9_advance_6 ?_
  refine k_put (ws' := (WX d) K ad (uI t 29 5 v_72)) (v := .int v_72) C hP hD hS 29 rfl rfl inlX9 tyX9_ok nmX9 5 (by decide) m_13_3 rfl rfl rfl rfl rfl dX9_advance_7 (fun H locs hP hD hS => ?_)
  have hok : okX (uI t 29 5 v_72) := ⟨okI_I hok.1 29 5 v_72 (show (-2147483648 : Int) ≤ (v_72 : Int32).toInt ∧ (v_72 : Int32).toInt ≤ 2147483647 from (i_rng _)), hok.2.1, trivial⟩
  have hfr : frA [(29, 2), (29, 3), (29, 4), (29, 5)] [] [51] [] t (uI t 29 5 v_72) := frA_I hfr 29 5 _ rfl
  refine lv_aload_n C.1 C.2.1 dX9_advance_10 rfl (lv_at hl 0 rfl) ?_
  refine k_get (v := .int (t.1 29 4)) C hP 29 rfl rfl inlX9 4 (by decide) m_13_2 rfl dX9_advance_11 ?_
  refine lv_aload_n C.1 C.2.1 dX9_advance_14 rfl (lv_at hl 0 rfl) ?_
  refine k_get (v := .int (t.1 29 7)) C hP 29 rfl rfl inlX9 7 (by decide) m_12_21 rfl dX9_advance_15 ?_
  refine lv_icmp_lt (tgt := 23) C.1 C.2.1 dX9_advance_18 (by decide) (fun c_75 => ?_) (fun c_75 => ?_)
  · replace c_75 : (t.1 29 4).toInt < (t.1 29 7).toInt := i_lt c_75
    refine lv_aload_n C.1 C.2.1 dX9_advance_23 rfl (lv_at hl 0 rfl) ?_
    refine lv_aload_n C.1 C.2.1 dX9_advance_24 rfl (lv_at hl 0 rfl) ?_
    refine k_get (v := .int (t.1 29 4)) C hP 29 rfl rfl inlX9 4 (by decide) m_13_2 rfl dX9_advance_25 ?_
    refine k_put (ws' := (WX d) K ad (uI (uI t 29 5 v_72) 29 2 (t.1 29 4))) (v := .int (t.1 29 4)) C hP hD hS 29 rfl rfl inlX9 tyX9_ok nmX9 2 (by decide) m_13_22 rfl rfl rfl rfl rfl dX9_advance_28 (fun H locs hP hD hS => ?_)
    have hok : okX (uI (uI t 29 5 v_72) 29 2 (t.1 29 4)) := ⟨okI_I hok.1 29 2 (t.1 29 4) (show (0 : Int) ≤ ((t.1 29 4) : Int32).toInt ∧ ((t.1 29 4) : Int32).toInt ≤ 1280 from ⟨by omega, by omega⟩), hok.2.1, trivial⟩
    have hfr : frA [(29, 2), (29, 3), (29, 4), (29, 5)] [] [51] [] t (uI (uI t 29 5 v_72) 29 2 (t.1 29 4)) := frA_I hfr 29 2 _ rfl
    refine lv_aload_n C.1 C.2.1 dX9_advance_31 rfl (lv_at hl 0 rfl) ?_
    refine k_get (v := .int (t.1 29 4)) C hP 29 rfl rfl inlX9 2 (by decide) m_13_22 rfl dX9_advance_32 ?_
    refine lv_istore_n (lv' := [(1, .int (t.1 29 4)), (0, .ref (ad 29))]) C.1 C.2.1 dX9_advance_35 rfl hl (by decide) rfl (fun ls hl => ?_)
    have hl : lv_has ls 3 [(0, .ref (ad 29)), (1, .int (t.1 29 4))] := lv_sub hl [1, 0] rfl
    exact L_36 1281 (uI (uI t 29 5 v_72) 29 2 (t.1 29 4)) (t.1 29 4) _ _ _ hok hfr ⟨by omega, by omega⟩ (show (0 : Int) ≤ ((t.1 29 4) : Int32).toInt ∧ ((t.1 29 4) : Int32).toInt ≤ 1279 from ⟨by omega, by omega⟩) (show (0 : Int) ≤ ((t.1 29 4) : Int32).toInt ∧ ((t.1 29 4) : Int32).toInt ≤ 1279 from ⟨by omega, by omega⟩) (show (1 : Int) ≤ ((t.1 29 7) : Int32).toInt ∧ ((t.1 29 7) : Int32).toInt ≤ 1280 from ⟨by omega, by omega⟩) (show (t.1 29 4).toInt ≤ (t.1 29 4).toInt from by omega) (show (t.1 29 4).toInt ≤ (t.1 29 7).toInt from by omega) (show (t.1 29 4).toInt = (t.1 29 4).toInt from by omega) (show (t.1 29 4).toInt < (t.1 29 7).toInt from by omega) (show ∀ j : Nat, (t.1 29 4).toInt ≤ (j : Int) → (j : Int) < (t.1 29 4).toInt → (j : Int) < (t.1 29 7).toInt ∧ ¬ (t.2.2.1 1) j = 10 from by intro j h1 h2; first | (exfalso; omega) | (rcases Int.lt_or_eq_of_le (show (j : Int) ≤ w36_1.toInt from by omega) with h9 | h9 <;> first | exact hi36_4 j h1 h9 | exact ⟨by omega, adv_ne h9 (by assumption) rfl⟩)) (show (1280 : Int) - (t.1 29 4).toInt < ((1281 : Nat) : Int) from by omega) hP hD hS (lv_sub hl [0, 1] rfl)
  · replace c_75 : (t.1 29 7).toInt ≤ (t.1 29 4).toInt := i_nlt c_75
    refine lv_iconst (v := 0) C.1 C.2.1 dX9_advance_21 (by decide) ?_
    exact g_iret C hr hlocks hP hD hS (by decide) (uI t 29 5 v_72) rfl ⟨hok, hfr, by decide, by decide, (show 0 = 0 → (t.1 29 7).toInt ≤ (t.1 29 4).toInt from by omega), (show 0 = 1 → (t.1 29 4).toInt < (t.1 29 7).toInt ∧ (t.1 29 4).toInt = ((lE (t.2.2.1 1) ((t.1 29 7).toInt).toNat ((t.1 29 4).toInt).toNat : Nat) : Int) + 1 ∧ (t.1 29 2).toInt = (t.1 29 4).toInt from by intro hz; first | (exact absurd hz (by decide)) | exact ⟨by omega, by omega, by omega⟩), (show 0 = 1 → gR (t.2.2.1 51) = gT (t.2.2.1 1) ((t.1 29 4).toInt).toNat (lE (t.2.2.1 1) ((t.1 29 7).toInt).toNat ((t.1 29 4).toInt).toNat) from by intro hz; first | (exact absurd hz (by decide)) | exact gR_gT (fun j hj => hi85_7 j (by omega))), (show 0 = 1 → (t.1 29 4).toInt + 1 ≤ (t.1 29 4).toInt ∧ (t.1 29 4).toInt ≤ 1281 from by intro hz; first | (exact absurd hz (by decide)) | omega)⟩ (Nat.le_of_ble_eq_true rfl) (Nat.le_of_ble_eq_true rfl) dX9_advance_22
