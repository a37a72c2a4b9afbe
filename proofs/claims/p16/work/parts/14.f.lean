theorem dX12_isName_0 : decode cX12_isName 0 = .ok (.iconst 0, 1) := by decide +kernel
theorem dX12_isName_1 : decode cX12_isName 1 = .ok (.istore_n 3, 1) := by decide +kernel
theorem dX12_isName_11 : decode cX12_isName 11 = .ok (.aload_n 0, 1) := by decide +kernel
theorem dX12_isName_12 : decode cX12_isName 12 = .ok (.iload 4, 2) := by decide +kernel
theorem dX12_isName_14 : decode cX12_isName 14 = .ok (.invokevirtual 446, 3) := by decide +kernel
theorem dX12_isName_17 : decode cX12_isName 17 = .ok (.invokestatic 452, 3) := by decide +kernel
theorem dX12_isName_2 : decode cX12_isName 2 = .ok (.iload_n 1, 1) := by decide +kernel
theorem dX12_isName_20 : decode cX12_isName 20 = .ok (.ifCond .ne 17, 3) := by decide +kernel
theorem dX12_isName_23 : decode cX12_isName 23 = .ok (.aload_n 0, 1) := by decide +kernel
theorem dX12_isName_24 : decode cX12_isName 24 = .ok (.iload 4, 2) := by decide +kernel
theorem dX12_isName_26 : decode cX12_isName 26 = .ok (.invokevirtual 446, 3) := by decide +kernel
theorem dX12_isName_29 : decode cX12_isName 29 = .ok (.invokestatic 455, 3) := by decide +kernel
theorem dX12_isName_3 : decode cX12_isName 3 = .ok (.istore 4, 2) := by decide +kernel
theorem dX12_isName_32 : decode cX12_isName 32 = .ok (.ifCond .ne 5, 3) := by decide +kernel
theorem dX12_isName_35 : decode cX12_isName 35 = .ok (.iconst 0, 1) := by decide +kernel
theorem dX12_isName_36 : decode cX12_isName 36 = .ok (.ireturn, 1) := by decide +kernel
theorem dX12_isName_37 : decode cX12_isName 37 = .ok (.iload_n 3, 1) := by decide +kernel
theorem dX12_isName_38 : decode cX12_isName 38 = .ok (.ifCond .ne 15, 3) := by decide +kernel
theorem dX12_isName_41 : decode cX12_isName 41 = .ok (.aload_n 0, 1) := by decide +kernel
theorem dX12_isName_42 : decode cX12_isName 42 = .ok (.iload 4, 2) := by decide +kernel
theorem dX12_isName_44 : decode cX12_isName 44 = .ok (.invokevirtual 446, 3) := by decide +kernel
theorem dX12_isName_47 : decode cX12_isName 47 = .ok (.invokestatic 452, 3) := by decide +kernel
theorem dX12_isName_5 : decode cX12_isName 5 = .ok (.iload 4, 2) := by decide +kernel
theorem dX12_isName_50 : decode cX12_isName 50 = .ok (.ifCond .eq 7, 3) := by decide +kernel
theorem dX12_isName_53 : decode cX12_isName 53 = .ok (.iconst 1, 1) := by decide +kernel
theorem dX12_isName_54 : decode cX12_isName 54 = .ok (.goto 4, 3) := by decide +kernel
theorem dX12_isName_57 : decode cX12_isName 57 = .ok (.iconst 0, 1) := by decide +kernel
theorem dX12_isName_58 : decode cX12_isName 58 = .ok (.istore_n 3, 1) := by decide +kernel
theorem dX12_isName_59 : decode cX12_isName 59 = .ok (.iinc 4 1, 3) := by decide +kernel
theorem dX12_isName_62 : decode cX12_isName 62 = .ok (.goto (-57), 3) := by decide +kernel
theorem dX12_isName_65 : decode cX12_isName 65 = .ok (.iload_n 3, 1) := by decide +kernel
theorem dX12_isName_66 : decode cX12_isName 66 = .ok (.ifCond .eq 15, 3) := by decide +kernel
theorem dX12_isName_69 : decode cX12_isName 69 = .ok (.iload_n 2, 1) := by decide +kernel
theorem dX12_isName_7 : decode cX12_isName 7 = .ok (.iload_n 2, 1) := by decide +kernel
theorem dX12_isName_70 : decode cX12_isName 70 = .ok (.iload_n 1, 1) := by decide +kernel
theorem dX12_isName_71 : decode cX12_isName 71 = .ok (.isub, 1) := by decide +kernel
theorem dX12_isName_72 : decode cX12_isName 72 = .ok (.bipush 11, 2) := by decide +kernel
theorem dX12_isName_74 : decode cX12_isName 74 = .ok (.if_icmp .ge 7, 3) := by decide +kernel
theorem dX12_isName_77 : decode cX12_isName 77 = .ok (.iconst 1, 1) := by decide +kernel
theorem dX12_isName_78 : decode cX12_isName 78 = .ok (.goto 4, 3) := by decide +kernel
theorem dX12_isName_8 : decode cX12_isName 8 = .ok (.if_icmp .ge 57, 3) := by decide +kernel
theorem dX12_isName_81 : decode cX12_isName 81 = .ok (.iconst 0, 1) := by decide +kernel
theorem dX12_isName_82 : decode cX12_isName 82 = .ok (.ireturn, 1) := by decide +kernel
set_option maxHeartbeats 4000000 in
set_option maxRecDepth 100000 in
theorem T_X12_isName (l : Launch) (D : va_G) (K : Nat → ClassId) (Z Y : Nat → Nat) (ad : Nat → Nat) (t : tSt) (hok : okM t) (x1 : Int32) (hx1 : (1 : Int) ≤ x1.toInt ∧ x1.toInt ≤ 81) (x2 : Int32) (hx2 : (0 : Int) ≤ x2.toInt ∧ x2.toInt ≤ 81) : tMet l yX12_isName cX12_isName 5 (some .boolean) (rmD 8 0 0) D K Z Y [.ref (ad 0), .int x1, .int x2] (WM K ad t) (QI D K (fun (r : Int32) (u : Unit) => (0 : Int) ≤ r.toInt ∧ r.toInt ≤ 1) (fun (_ : Unit) => WM K ad t)) 0 0 := by
  refine t_met RX12 ⟨rfl, by decide +kernel⟩ (Nat.le_of_ble_eq_true rfl) ?_
  intro p e s m below meth c A ls C hE hZ hr hlocks hA hP hD hS hl
  have hl : lv_has ls 5 [(0, .ref (ad 0)), (1, .int x1), (2, .int x2)] := hl
  have h_1 : (0 : Int) ≤ (t.1 0 67).toInt ∧ (t.1 0 67).toInt ≤ 1281 := hok.1 0 67
  have L_5 : ∀ (fuel_5 : Nat) (w5_3 : Int32) (w5_4 : Int32) (H : Heap) (locs : List Loc) (ls : Array Slot), (0 : Int) ≤ w5_3.toInt ∧ w5_3.toInt ≤ 1 → (1 : Int) ≤ w5_4.toInt ∧ w5_4.toInt ≤ 81 → (x1.toInt ≤ w5_4.toInt) → (81 : Int) - w5_4.toInt < (fuel_5 : Int) → va_P D vwCl (WM K ad t) H → va_D A (WM K ad t) → va_S A s.heap H locs → lv_has ls 5 [(0, .ref (ad 0)), (1, .int x1), (2, .int x2), (3, .int w5_3), (4, .int w5_4)] → W p l e (rmD 8 0 0) s m [.ref (ad 0), .int x1, .int x2].toArray below meth c H locs 0 0 (MQ below (QI D K (fun (r : Int32) (u : Unit) => (0 : Int) ≤ r.toInt ∧ r.toInt ≤ 1) (fun (_ : Unit) => WM K ad t) A) [.ref (ad 0), .int x1, .int x2].toArray s 0 0 A) (F0 m 5 ls []) := by
    intro fuel_5
    induction fuel_5 with
    | zero =>
      intro w5_3 w5_4 H locs ls hw5_3 hw5_4 hi5_0 hm5_5 hP hD hS hl
      have h_2 : (0 : Int) ≤ (t.1 0 67).toInt ∧ (t.1 0 67).toInt ≤ 1281 := hok.1 0 67
      exact absurd hm5_5 (by omega)
    | succ fuel_5 ih_5 =>
      intro w5_3 w5_4 H locs ls hw5_3 hw5_4 hi5_0 hm5_5 hP hD hS hl
      have hm5_5 : (81 : Int) - w5_4.toInt < (fuel_5 : Int) + 1 := by omega
      have h_3 : (0 : Int) ≤ (t.1 0 67).toInt ∧ (t.1 0 67).toInt ≤ 1281 := hok.1 0 67
      have L_58 : ∀ (w58_3 : Int32) (w58_4 : Int32) (k58_0 : Int32) (H : Heap) (locs : List Loc) (ls : Array Slot), (2 : Int) ≤ x2.toInt ∧ x2.toInt ≤ 81 → (0 : Int) ≤ w58_3.toInt ∧ w58_3.toInt ≤ 1 → (1 : Int) ≤ w58_4.toInt ∧ w58_4.toInt ≤ 80 → (0 : Int) ≤ k58_0.toInt ∧ k58_0.toInt ≤ 1 → (x1.toInt ≤ w58_4.toInt) → (w58_4.toInt < x2.toInt) → (81 : Int) - w58_4.toInt < (fuel_5 : Int) + 1 → va_P D vwCl (WM K ad t) H → va_D A (WM K ad t) → va_S A s.heap H locs → lv_has ls 5 [(0, .ref (ad 0)), (1, .int x1), (2, .int x2), (3, .int w58_3), (4, .int w58_4)] → W p l e (rmD 8 0 0) s m [.ref (ad 0), .int x1, .int x2].toArray below meth c H locs 0 0 (MQ below (QI D K (fun (r : Int32) (u : Unit) => (0 : Int) ≤ r.toInt ∧ r.toInt ≤ 1) (fun (_ : Unit) => WM K ad t) A) [.ref (ad 0), .int x1, .int x2].toArray s 0 0 A) (F0 m 58 ls [.int k58_0]) := by
        intro w58_3 w58_4 k58_0 H locs ls hx58_2 hw58_3 hw58_4 hk58_0 hi58_0 hi58_1 hm58_5 hP hD hS hl
        have h_4 : (0 : Int) ≤ (t.1 0 67).toInt ∧ (t.1 0 67).toInt ≤ 1281 := hok.1 0 67
        refine lv_istore_n (lv' := [(3, .int k58_0), (0, .ref (ad 0)), (1, .int x1), (2, .int x2), (4, .int w58_4)]) C.1 C.2.1 dX12_isName_58 rfl hl (by decide) rfl (fun ls hl => ?_)
        have hl : lv_has ls 5 [(0, .ref (ad 0)), (1, .int x1), (2, .int x2), (3, .int k58_0), (4, .int w58_4)] := lv_sub hl [1, 2, 3, 0, 4] rfl
        obtain ⟨v_5, e_6⟩ : ∃ z, z = w58_4 + 1 := ⟨_, rfl⟩
        have h_7 : v_5.toInt = w58_4.toInt + 1 := by rw [e_6]; exact ti_iadd (by show (_ : Int) ≤ w58_4.toInt + 1; omega) (by show w58_4.toInt + 1 < (_ : Int); omega)
        refine lv_iinc (v := v_5) (lv' := [(4, .int v_5), (0, .ref (ad 0)), (1, .int x1), (2, .int x2), (3, .int k58_0)]) C.1 C.2.1 dX12_isName_59 hl (k := 4) rfl e_6.symm (by decide) rfl (fun ls hl => ?_)
        have hl : lv_has ls 5 [(0, .ref (ad 0)), (1, .int x1), (2, .int x2), (3, .int k58_0), (4, .int v_5)] := lv_sub hl [1, 2, 3, 4, 0] rfl
        refine lv_goto (tgt := 5) C.1 C.2.1 dX12_isName_62 (by decide) ?_
        exact ih_5 k58_0 v_5 _ _ _ ⟨by omega, by omega⟩ ⟨by omega, by omega⟩ (show x1.toInt ≤ v_5.toInt from by omega) (show (81 : Int) - v_5.toInt < (fuel_5 : Int) from by omega) hP hD hS (lv_sub hl [0, 1, 2, 3, 4] rfl)
      have L_53 : ∀ (w53_3 : Int32) (w53_4 : Int32) (H : Heap) (locs : List Loc) (ls : Array Slot), (2 : Int) ≤ x2.toInt ∧ x2.toInt ≤ 81 → (0 : Int) ≤ w53_3.toInt ∧ w53_3.toInt ≤ 1 → (1 : Int) ≤ w53_4.toInt ∧ w53_4.toInt ≤ 80 → (x1.toInt ≤ w53_4.toInt) → (w53_4.toInt < x2.toInt) → (81 : Int) - w53_4.toInt < (fuel_5 : Int) + 1 → va_P D vwCl (WM K ad t) H → va_D A (WM K ad t) → va_S A s.heap H locs → lv_has ls 5 [(0, .ref (ad 0)), (1, .int x1), (2, .int x2), (3, .int w53_3), (4, .int w53_4)] → W p l e (rmD 8 0 0) s m [.ref (ad 0), .int x1, .int x2].toArray below meth c H locs 0 0 (MQ below (QI D K (fun (r : Int32) (u : Unit) => (0 : Int) ≤ r.toInt ∧ r.toInt ≤ 1) (fun (_ : Unit) => WM K ad t) A) [.ref (ad 0), .int x1, .int x2].toArray s 0 0 A) (F0 m 53 ls []) := by
        intro w53_3 w53_4 H locs ls hx53_2 hw53_3 hw53_4 hi53_0 hi53_1 hm53_5 hP hD hS hl
        have h_8 : (0 : Int) ≤ (t.1 0 67).toInt ∧ (t.1 0 67).toInt ≤ 1281 := hok.1 0 67
        refine lv_iconst (v := 1) C.1 C.2.1 dX12_isName_53 (by decide) ?_
        refine lv_goto (tgt := 58) C.1 C.2.1 dX12_isName_54 (by decide) ?_
        exact L_58 w53_3 w53_4 1 _ _ _ ⟨by omega, by omega⟩ ⟨by omega, by omega⟩ ⟨by omega, by omega⟩ ⟨by decide, by decide⟩ (show x1.toInt ≤ w53_4.toInt from by omega) (show w53_4.toInt < x2.toInt from by omega) (show (81 : Int) - w53_4.toInt < (fuel_5 : Int) + 1 from by omega) hP hD hS (lv_sub hl [0, 1, 2, 3, 4] rfl)
      have L_37 : ∀ (w37_3 : Int32) (w37_4 : Int32) (H : Heap) (locs : List Loc) (ls : Array Slot), (2 : Int) ≤ x2.toInt ∧ x2.toInt ≤ 81 → (0 : Int) ≤ w37_3.toInt ∧ w37_3.toInt ≤ 1 → (1 : Int) ≤ w37_4.toInt ∧ w37_4.toInt ≤ 80 → (x1.toInt ≤ w37_4.toInt) → (w37_4.toInt < x2.toInt) → (81 : Int) - w37_4.toInt < (fuel_5 : Int) + 1 → va_P D vwCl (WM K ad t) H → va_D A (WM K ad t) → va_S A s.heap H locs → lv_has ls 5 [(0, .ref (ad 0)), (1, .int x1), (2, .int x2), (3, .int w37_3), (4, .int w37_4)] → W p l e (rmD 8 0 0) s m [.ref (ad 0), .int x1, .int x2].toArray below meth c H locs 0 0 (MQ below (QI D K (fun (r : Int32) (u : Unit) => (0 : Int) ≤ r.toInt ∧ r.toInt ≤ 1) (fun (_ : Unit) => WM K ad t) A) [.ref (ad 0), .int x1, .int x2].toArray s 0 0 A) (F0 m 37 ls []) := by
        intro w37_3 w37_4 H locs ls hx37_2 hw37_3 hw37_4 hi37_0 hi37_1 hm37_5 hP hD hS hl
        have h_9 : (0 : Int) ≤ (t.1 0 67).toInt ∧ (t.1 0 67).toInt ≤ 1281 := hok.1 0 67
        refine lv_iload_n C.1 C.2.1 dX12_isName_37 rfl (lv_at hl 3 rfl) ?_
        refine lv_if_ne (tgt := 53) C.1 C.2.1 dX12_isName_38 (by decide) (fun c_10 => ?_) (fun c_10 => ?_)
        · replace c_10 : ¬ w37_3.toInt = 0 := i_ne c_10
          exact L_53 w37_3 w37_4 _ _ _ ⟨by omega, by omega⟩ ⟨by omega, by omega⟩ ⟨by omega, by omega⟩ (show x1.toInt ≤ w37_4.toInt from by omega) (show w37_4.toInt < x2.toInt from by omega) (show (81 : Int) - w37_4.toInt < (fuel_5 : Int) + 1 from by omega) hP hD hS (lv_sub hl [0, 1, 2, 3, 4] rfl)
        · replace c_10 : w37_3.toInt = 0 := i_eq c_10
          refine lv_aload_n C.1 C.2.1 dX12_isName_41 rfl (lv_at hl 0 rfl) ?_
          refine lv_iload C.1 C.2.1 dX12_isName_42 (lv_at hl 4 rfl) ?_
          refine g_Vi (As := [.int w37_4]) (rest := []) C hP hD hS hA (T_X12_letterAt l D K Z Y ad t hok (w37_4) (show (1 : Int) ≤ (w37_4 : Int32).toInt ∧ (w37_4 : Int32).toInt ≤ 100 from ⟨by omega, by omega⟩)) hE hZ (uwV m_31_8 m_31_9 m_31_10 m_1_5 m_31_11) (hdV 1 (by decide +kernel) rfl) ⟨Nat.le_of_ble_eq_true rfl, Nat.le_of_ble_eq_true rfl⟩ rfl rfl (ci := 11) (q0 := 0) rfl rfl rfl hl.1 (Nat.le_of_ble_eq_true rfl) dX12_isName_44 ⟨Nat.le_of_ble_eq_true rfl, Nat.le_of_ble_eq_true rfl⟩ (fun r_12 t_11 H locs hw hP hD hS => ?_)
          obtain ⟨h_14, h_15, p_16, p_17, p_18, p_19⟩ := hw
          replace p_16 : r_12 = fLet t w37_4 := p_16
          replace p_17 : r_12.toInt = (fLet t w37_4).toInt := p_17
          replace p_18 : ¬ r_12.toInt = 32 → (t.2.2.1 19 ((t.1 0 67) : Int32).toNatClampNeg).toInt + w37_4.toInt ≤ (t.2.2.1 20 ((t.1 0 67) : Int32).toNatClampNeg).toInt := p_18
          replace p_19 : 81 ≤ w37_4.toInt → r_12.toInt = 32 := p_19
          refine g_Si (As := [.int r_12]) (rest := []) C hP hD hS hA (T_X12_isGreat l D K Z Y ad t hok (r_12) (show (0 : Int) ≤ (r_12 : Int32).toInt ∧ (r_12 : Int32).toInt ≤ 255 from ⟨by omega, by omega⟩)) hE hZ (uwS m_32_12 m_32_13 m_1_5 m_32_14) (hdS 1 (by decide +kernel) rfl) ⟨Nat.le_of_ble_eq_true rfl, Nat.le_of_ble_eq_true rfl⟩ rfl rfl rfl hl.1 (Nat.le_of_ble_eq_true rfl) dX12_isName_47 ⟨Nat.le_of_ble_eq_true rfl, Nat.le_of_ble_eq_true rfl⟩ (fun r_21 t_20 H locs hw hP hD hS => ?_)
          obtain ⟨h_23, h_24, p_25⟩ := hw
          replace p_25 : r_21.toInt = 1 → 65 ≤ r_12.toInt ∧ r_12.toInt ≤ 90 := p_25
          refine lv_if_eq (tgt := 57) C.1 C.2.1 dX12_isName_50 (by decide) (fun c_26 => ?_) (fun c_26 => ?_)
          · replace c_26 : r_21.toInt = 0 := i_eq c_26
            refine lv_iconst (v := 0) C.1 C.2.1 dX12_isName_57 (by decide) ?_
            exact L_58 w37_3 w37_4 0 _ _ _ ⟨by omega, by omega⟩ ⟨by omega, by omega⟩ ⟨by omega, by omega⟩ ⟨by decide, by decide⟩ (show x1.toInt ≤ w37_4.toInt from by omega) (show w37_4.toInt < x2.toInt from by omega) (show (81 : Int) - w37_4.toInt < (fuel_5 : Int) + 1 from by omega) hP hD hS (lv_sub hl [0, 1, 2, 3, 4] rfl)
          · replace c_26 : ¬ r_21.toInt = 0 := i_ne c_26
            exact L_53 w37_3 w37_4 _ _ _ ⟨by omega, by omega⟩ ⟨by omega, by omega⟩ ⟨by omega, by omega⟩ (show x1.toInt ≤ w37_4.toInt from by omega) (show w37_4.toInt < x2.toInt from by omega) (show (81 : Int) - w37_4.toInt < (fuel_5 : Int) + 1 from by omega) hP hD hS (lv_sub hl [0, 1, 2, 3, 4] rfl)
      refine lv_iload C.1 C.2.1 dX12_isName_5 (lv_at hl 4 rfl) ?_
      refine lv_iload_n C.1 C.2.1 dX12_isName_7 rfl (lv_at hl 2 rfl) ?_
      refine lv_icmp_ge (tgt := 65) C.1 C.2.1 dX12_isName_8 (by decide) (fun c_27 => ?_) (fun c_27 => ?_)
      · replace c_27 : x2.toInt ≤ w5_4.toInt := i_le c_27
        refine lv_iload_n C.1 C.2.1 dX12_isName_65 rfl (lv_at hl 3 rfl) ?_
        refine lv_if_eq (tgt := 81) C.1 C.2.1 dX12_isName_66 (by decide) (fun c_28 => ?_) (fun c_28 => ?_)
        · replace c_28 : w5_3.toInt = 0 := i_eq c_28
          refine lv_iconst (v := 0) C.1 C.2.1 dX12_isName_81 (by decide) ?_
          exact g_iret C hr hlocks hP hD hS (by decide) () rfl ⟨by decide, by decide⟩ (Nat.le_of_ble_eq_true rfl) (Nat.le_of_ble_eq_true rfl) dX12_isName_82
        · replace c_28 : ¬ w5_3.toInt = 0 := i_ne c_28
          refine lv_iload_n C.1 C.2.1 dX12_isName_69 rfl (lv_at hl 2 rfl) ?_
          refine lv_iload_n C.1 C.2.1 dX12_isName_70 rfl (lv_at hl 1 rfl) ?_
          obtain ⟨v_29, e_30⟩ : ∃ z, z = (x2 : Int32) - (x1 : Int32) := ⟨_, rfl⟩
          have h_31 : v_29.toInt = x2.toInt - x1.toInt := by rw [e_30]; exact ti_isub (by show (_ : Int) ≤ x2.toInt - x1.toInt; omega) (by show x2.toInt - x1.toInt < (_ : Int); omega)
          refine k_isub (v := v_29) C e_30.symm dX12_isName_71 ?_
          refine lv_bipush (v := 11) C.1 C.2.1 dX12_isName_72 (by decide) ?_
          refine lv_icmp_ge (tgt := 81) C.1 C.2.1 dX12_isName_74 (by decide) (fun c_32 => ?_) (fun c_32 => ?_)
          · replace c_32 : 11 ≤ v_29.toInt := i_le c_32
            refine lv_iconst (v := 0) C.1 C.2.1 dX12_isName_81 (by decide) ?_
            exact g_iret C hr hlocks hP hD hS (by decide) () rfl ⟨by decide, by decide⟩ (Nat.le_of_ble_eq_true rfl) (Nat.le_of_ble_eq_true rfl) dX12_isName_82
          · replace c_32 : v_29.toInt < 11 := i_nle c_32
            refine lv_iconst (v := 1) C.1 C.2.1 dX12_isName_77 (by decide) ?_
            refine lv_goto (tgt := 82) C.1 C.2.1 dX12_isName_78 (by decide) ?_
            exact g_iret C hr hlocks hP hD hS (by decide) () rfl ⟨by decide, by decide⟩ (Nat.le_of_ble_eq_true rfl) (Nat.le_of_ble_eq_true rfl) dX12_isName_82
      · replace c_27 : w5_4.toInt < x2.toInt := i_nle c_27
        refine lv_aload_n C.1 C.2.1 dX12_isName_11 rfl (lv_at hl 0 rfl) ?_
        refine lv_iload C.1 C.2.1 dX12_isName_12 (lv_at hl 4 rfl) ?_
        refine g_Vi (As := [.int w5_4]) (rest := []) C hP hD hS hA (T_X12_letterAt l D K Z Y ad t hok (w5_4) (show (1 : Int) ≤ (w5_4 : Int32).toInt ∧ (w5_4 : Int32).toInt ≤ 100 from ⟨by omega, by omega⟩)) hE hZ (uwV m_31_8 m_31_9 m_31_10 m_1_5 m_31_11) (hdV 1 (by decide +kernel) rfl) ⟨Nat.le_of_ble_eq_true rfl, Nat.le_of_ble_eq_true rfl⟩ rfl rfl (ci := 11) (q0 := 0) rfl rfl rfl hl.1 (Nat.le_of_ble_eq_true rfl) dX12_isName_14 ⟨Nat.le_of_ble_eq_true rfl, Nat.le_of_ble_eq_true rfl⟩ (fun r_34 t_33 H locs hw hP hD hS => ?_)
        obtain ⟨h_36, h_37, p_38, p_39, p_40, p_41⟩ := hw
        replace p_38 : r_34 = fLet t w5_4 := p_38
        replace p_39 : r_34.toInt = (fLet t w5_4).toInt := p_39
        replace p_40 : ¬ r_34.toInt = 32 → (t.2.2.1 19 ((t.1 0 67) : Int32).toNatClampNeg).toInt + w5_4.toInt ≤ (t.2.2.1 20 ((t.1 0 67) : Int32).toNatClampNeg).toInt := p_40
        replace p_41 : 81 ≤ w5_4.toInt → r_34.toInt = 32 := p_41
        refine g_Si (As := [.int r_34]) (rest := []) C hP hD hS hA (T_X12_isGreat l D K Z Y ad t hok (r_34) (show (0 : Int) ≤ (r_34 : Int32).toInt ∧ (r_34 : Int32).toInt ≤ 255 from ⟨by omega, by omega⟩)) hE hZ (uwS m_32_12 m_32_13 m_1_5 m_32_14) (hdS 1 (by decide +kernel) rfl) ⟨Nat.le_of_ble_eq_true rfl, Nat.le_of_ble_eq_true rfl⟩ rfl rfl rfl hl.1 (Nat.le_of_ble_eq_true rfl) dX12_isName_17 ⟨Nat.le_of_ble_eq_true rfl, Nat.le_of_ble_eq_true rfl⟩ (fun r_43 t_42 H locs hw hP hD hS => ?_)
        obtain ⟨h_45, h_46, p_47⟩ := hw
        replace p_47 : r_43.toInt = 1 → 65 ≤ r_34.toInt ∧ r_34.toInt ≤ 90 := p_47
        refine lv_if_ne (tgt := 37) C.1 C.2.1 dX12_isName_20 (by decide) (fun c_48 => ?_) (fun c_48 => ?_)
        · replace c_48 : ¬ r_43.toInt = 0 := i_ne c_48
          exact L_37 w5_3 w5_4 _ _ _ ⟨by omega, by omega⟩ ⟨by omega, by omega⟩ ⟨by omega, by omega⟩ (show x1.toInt ≤ w5_4.toInt from by omega) (show w5_4.toInt < x2.toInt from by omega) (show (81 : Int) - w5_4.toInt < (fuel_5 : Int) + 1 from by omega) hP hD hS (lv_sub hl [0, 1, 2, 3, 4] rfl)
        · replace c_48 : r_43.toInt = 0 := i_eq c_48
          refine lv_aload_n C.1 C.2.1 dX12_isName_23 rfl (lv_at hl 0 rfl) ?_
          refine lv_iload C.1 C.2.1 dX12_isName_24 (lv_at hl 4 rfl) ?_
          refine g_Vi (As := [.int w5_4]) (rest := []) C hP hD hS hA (T_X12_letterAt l D K Z Y ad t hok (w5_4) (show (1 : Int) ≤ (w5_4 : Int32).toInt ∧ (w5_4 : Int32).toInt ≤ 100 from ⟨by omega, by omega⟩)) hE hZ (uwV m_31_8 m_31_9 m_31_10 m_1_5 m_31_11) (hdV 1 (by decide +kernel) rfl) ⟨Nat.le_of_ble_eq_true rfl, Nat.le_of_ble_eq_true rfl⟩ rfl rfl (ci := 11) (q0 := 0) rfl rfl rfl hl.1 (Nat.le_of_ble_eq_true rfl) dX12_isName_26 ⟨Nat.le_of_ble_eq_true rfl, Nat.le_of_ble_eq_true rfl⟩ (fun r_50 t_49 H locs hw hP hD hS => ?_)
          obtain ⟨h_52, h_53, p_54, p_55, p_56, p_57⟩ := hw
          replace p_54 : r_50 = fLet t w5_4 := p_54
          replace p_55 : r_50.toInt = (fLet t w5_4).toInt := p_55
          replace p_56 : ¬ r_50.toInt = 32 → (t.2.2.1 19 ((t.1 0 67) : Int32).toNatClampNeg).toInt + w5_4.toInt ≤ (t.2.2.1 20 ((t.1 0 67) : Int32).toNatClampNeg).toInt := p_56
          replace p_57 : 81 ≤ w5_4.toInt → r_50.toInt = 32 := p_57
          refine g_Si (As := [.int r_50]) (rest := []) C hP hD hS hA (T_X12_isDigit l D K Z Y ad t hok (r_50) (show (0 : Int) ≤ (r_50 : Int32).toInt ∧ (r_50 : Int32).toInt ≤ 255 from ⟨by omega, by omega⟩)) hE hZ (uwS m_32_15 m_32_16 m_1_5 m_32_17) (hdS 1 (by decide +kernel) rfl) ⟨Nat.le_of_ble_eq_true rfl, Nat.le_of_ble_eq_true rfl⟩ rfl rfl rfl hl.1 (Nat.le_of_ble_eq_true rfl) dX12_isName_29 ⟨Nat.le_of_ble_eq_true rfl, Nat.le_of_ble_eq_true rfl⟩ (fun r_59 t_58 H locs hw hP hD hS => ?_)
          obtain ⟨h_61, h_62, p_63⟩ := hw
          replace p_63 : r_59.toInt = 1 → 48 ≤ r_50.toInt ∧ r_50.toInt ≤ 57 := p_63
          refine lv_if_ne (tgt := 37) C.1 C.2.1 dX12_isName_32 (by decide) (fun c_64 => ?_) (fun c_64 => ?_)
          · replace c_64 : ¬ r_59.toInt = 0 := i_ne c_64
            exact L_37 w5_3 w5_4 _ _ _ ⟨by omega, by omega⟩ ⟨by omega, by omega⟩ ⟨by omega, by omega⟩ (show x1.toInt ≤ w5_4.toInt from by omega) (show w5_4.toInt < x2.toInt from by omega) (show (81 : Int) - w5_4.toInt < (fuel_5 : Int) + 1 from by omega) hP hD hS (lv_sub hl [0, 1, 2, 3, 4] rfl)
          · replace c_64 : r_59.toInt = 0 := i_eq c_64
            refine lv_iconst (v := 0) C.1 C.2.1 dX12_isName_35 (by decide) ?_
            exact g_iret C hr hlocks hP hD hS (by decide) () rfl ⟨by decide, by decide⟩ (Nat.le_of_ble_eq_true rfl) (Nat.le_of_ble_eq_true rfl) dX12_isName_36
  refine lv_iconst (v := 0) C.1 C.2.1 dX12_isName_0 (by decide) ?_
  refine lv_istore_n (lv' := [(3, .int 0), (0, .ref (ad 0)), (1, .int x1), (2, .int x2)]) C.1 C.2.1 dX12_isName_1 rfl hl (by decide) rfl (fun ls hl => ?_)
  have hl : lv_has ls 5 [(0, .ref (ad 0)), (1, .int x1), (2, .int x2), (3, .int 0)] := lv_sub hl [1, 2, 3, 0] rfl
  refine lv_iload_n C.1 C.2.1 dX12_isName_2 rfl (lv_at hl 1 rfl) ?_
  refine lv_istore (lv' := [(4, .int x1), (0, .ref (ad 0)), (1, .int x1), (2, .int x2), (3, .int 0)]) C.1 C.2.1 dX12_isName_3 hl (by decide) rfl (fun ls hl => ?_)
  have hl : lv_has ls 5 [(0, .ref (ad 0)), (1, .int x1), (2, .int x2), (3, .int 0), (4, .int x1)] := lv_sub hl [1, 2, 3, 4, 0] rfl
  exact L_5 81 0 x1 _ _ _ ⟨by decide, by decide⟩ ⟨by omega, by omega⟩ (show x1.toInt ≤ x1.toInt from by omega) (show (81 : Int) - x1.toInt < ((81 : Nat) : Int) from by omega) hP hD hS (lv_sub hl [0, 1, 2, 3, 4] rfl)

theorem dX12_localKind_0 : decode cX12_localKind 0 = .ok (.iload_n 2, 1) := by decide +kernel
theorem dX12_localKind_1 : decode cX12_localKind 1 = .ok (.iload_n 1, 1) := by decide +kernel
theorem dX12_localKind_12 : decode cX12_localKind 12 = .ok (.invokestatic 455, 3) := by decide +kernel
theorem dX12_localKind_15 : decode cX12_localKind 15 = .ok (.ifCond .ne 5, 3) := by decide +kernel
theorem dX12_localKind_18 : decode cX12_localKind 18 = .ok (.iconst 0, 1) := by decide +kernel
theorem dX12_localKind_19 : decode cX12_localKind 19 = .ok (.ireturn, 1) := by decide +kernel
theorem dX12_localKind_2 : decode cX12_localKind 2 = .ok (.isub, 1) := by decide +kernel
theorem dX12_localKind_20 : decode cX12_localKind 20 = .ok (.aload_n 0, 1) := by decide +kernel
theorem dX12_localKind_21 : decode cX12_localKind 21 = .ok (.iload_n 1, 1) := by decide +kernel
theorem dX12_localKind_22 : decode cX12_localKind 22 = .ok (.iconst 1, 1) := by decide +kernel
theorem dX12_localKind_23 : decode cX12_localKind 23 = .ok (.iadd, 1) := by decide +kernel
theorem dX12_localKind_24 : decode cX12_localKind 24 = .ok (.invokevirtual 446, 3) := by decide +kernel
theorem dX12_localKind_27 : decode cX12_localKind 27 = .ok (.istore_n 3, 1) := by decide +kernel
theorem dX12_localKind_28 : decode cX12_localKind 28 = .ok (.iload_n 3, 1) := by decide +kernel
theorem dX12_localKind_29 : decode cX12_localKind 29 = .ok (.bipush 72, 2) := by decide +kernel
theorem dX12_localKind_3 : decode cX12_localKind 3 = .ok (.iconst 2, 1) := by decide +kernel
theorem dX12_localKind_31 : decode cX12_localKind 31 = .ok (.if_icmp .eq 15, 3) := by decide +kernel
theorem dX12_localKind_34 : decode cX12_localKind 34 = .ok (.iload_n 3, 1) := by decide +kernel
theorem dX12_localKind_35 : decode cX12_localKind 35 = .ok (.bipush 66, 2) := by decide +kernel
theorem dX12_localKind_37 : decode cX12_localKind 37 = .ok (.if_icmp .eq 9, 3) := by decide +kernel
theorem dX12_localKind_4 : decode cX12_localKind 4 = .ok (.if_icmp .ne 14, 3) := by decide +kernel
theorem dX12_localKind_40 : decode cX12_localKind 40 = .ok (.iload_n 3, 1) := by decide +kernel
theorem dX12_localKind_41 : decode cX12_localKind 41 = .ok (.bipush 70, 2) := by decide +kernel
theorem dX12_localKind_43 : decode cX12_localKind 43 = .ok (.if_icmp .ne 7, 3) := by decide +kernel
theorem dX12_localKind_46 : decode cX12_localKind 46 = .ok (.iload_n 3, 1) := by decide +kernel
theorem dX12_localKind_47 : decode cX12_localKind 47 = .ok (.goto 4, 3) := by decide +kernel
theorem dX12_localKind_50 : decode cX12_localKind 50 = .ok (.iconst 0, 1) := by decide +kernel
theorem dX12_localKind_51 : decode cX12_localKind 51 = .ok (.ireturn, 1) := by decide +kernel
theorem dX12_localKind_7 : decode cX12_localKind 7 = .ok (.aload_n 0, 1) := by decide +kernel
theorem dX12_localKind_8 : decode cX12_localKind 8 = .ok (.iload_n 1, 1) := by decide +kernel
theorem dX12_localKind_9 : decode cX12_localKind 9 = .ok (.invokevirtual 446, 3) := by decide +kernel
set_option maxHeartbeats 4000000 in
set_option maxRecDepth 100000 in
theorem T_X12_localKind (l : Launch) (D : va_G) (K : Nat → ClassId) (Z Y : Nat → Nat) (ad : Nat → Nat) (t : tSt) (hok : okM t) (x1 : Int32) (hx1 : (1 : Int) ≤ x1.toInt ∧ x1.toInt ≤ 81) (x2 : Int32) (hx2 : (0 : Int) ≤ x2.toInt ∧ x2.toInt ≤ 81) : tMet l yX12_localKind cX12_localKind 4 (some .int) (rmD 8 0 0) D K Z Y [.ref (ad 0), .int x1, .int x2] (WM K ad t) (QI D K (fun (r : Int32) (u : Unit) => (0 : Int) ≤ r.toInt ∧ r.toInt ≤ 72 ∧ (¬ r.toInt = 0 → 48 ≤ (fLet t x1).toInt ∧ (fLet t x1).toInt ≤ 57)) (fun (_ : Unit) => WM K ad t)) 0 0 := by
  refine t_met RX12 ⟨rfl, by decide +kernel⟩ (Nat.le_of_ble_eq_true rfl) ?_
  intro p e s m below meth c A ls C hE hZ hr hlocks hA hP hD hS hl
  have hl : lv_has ls 4 [(0, .ref (ad 0)), (1, .int x1), (2, .int x2)] := hl
  have h_1 : (0 : Int) ≤ (t.1 0 67).toInt ∧ (t.1 0 67).toInt ≤ 1281 := hok.1 0 67
  refine lv_iload_n C.1 C.2.1 dX12_localKind_0 rfl (lv_at hl 2 rfl) ?_
  refine lv_iload_n C.1 C.2.1 dX12_localKind_1 rfl (lv_at hl 1 rfl) ?_
  obtain ⟨v_2, e_3⟩ : ∃ z, z = (x2 : Int32) - (x1 : Int32) := ⟨_, rfl⟩
  have h_4 : v_2.toInt = x2.toInt - x1.toInt := by rw [e_3]; exact ti_isub (by show (_ : Int) ≤ x2.toInt - x1.toInt; omega) (by show x2.toInt - x1.toInt < (_ : Int); omega)
  refine k_isub (v := v_2) C e_3.symm dX12_localKind_2 ?_
  refine lv_iconst (v := 2) C.1 C.2.1 dX12_localKind_3 (by decide) ?_
  refine lv_icmp_ne (tgt := 18) C.1 C.2.1 dX12_localKind_4 (by decide) (fun c_5 => ?_) (fun c_5 => ?_)
  · replace c_5 : ¬ v_2.toInt = 2 := i_ne c_5
    refine lv_iconst (v := 0) C.1 C.2.1 dX12_localKind_18 (by decide) ?_
    exact g_iret C hr hlocks hP hD hS rfl () rfl ⟨by decide, by decide, (show ¬ 0 = 0 → 48 ≤ (fLet t x1).toInt ∧ (fLet t x1).toInt ≤ 57 from by omega)⟩ (Nat.le_of_ble_eq_true rfl) (Nat.le_of_ble_eq_true rfl) dX12_localKind_19
  · replace c_5 : v_2.toInt = 2 := i_eq c_5
    refine lv_aload_n C.1 C.2.1 dX12_localKind_7 rfl (lv_at hl 0 rfl) ?_
    refine lv_iload_n C.1 C.2.1 dX12_localKind_8 rfl (lv_at hl 1 rfl) ?_
    refine g_Vi (As := [.int x1]) (rest := []) C hP hD hS hA (T_X12_letterAt l D K Z Y ad t hok (x1) (show (1 : Int) ≤ (x1 : Int32).toInt ∧ (x1 : Int32).toInt ≤ 100 from ⟨by omega, by omega⟩)) hE hZ (uwV m_31_8 m_31_9 m_31_10 m_1_5 m_31_11) (hdV 1 (by decide +kernel) rfl) ⟨Nat.le_of_ble_eq_true rfl, Nat.le_of_ble_eq_true rfl⟩ rfl rfl (ci := 11) (q0 := 0) rfl rfl rfl hl.1 (Nat.le_of_ble_eq_true rfl) dX12_localKind_9 ⟨Nat.le_of_ble_eq_true rfl, Nat.le_of_ble_eq_true rfl⟩ (fun r_7 t_6 H locs hw hP hD hS => ?_)
    obtain ⟨h_9, h_10, p_11, p_12, p_13, p_14⟩ := hw
    replace p_11 : r_7 = fLet t x1 := p_11
    replace p_12 : r_7.toInt = (fLet t x1).toInt := p_12
    replace p_13 : ¬ r_7.toInt = 32 → (t.2.2.1 19 ((t.1 0 67) : Int32).toNatClampNeg).toInt + x1.toInt ≤ (t.2.2.1 20 ((t.1 0 67) : Int32).toNatClampNeg).toInt := p_13
    replace p_14 : 81 ≤ x1.toInt → r_7.toInt = 32 := p_14
    refine g_Si (As := [.int r_7]) (rest := []) C hP hD hS hA (T_X12_isDigit l D K Z Y ad t hok (r_7) (show (0 : Int) ≤ (r_7 : Int32).toInt ∧ (r_7 : Int32).toInt ≤ 255 from ⟨by omega, by omega⟩)) hE hZ (uwS m_32_15 m_32_16 m_1_5 m_32_17) (hdS 1 (by decide +kernel) rfl) ⟨Nat.le_of_ble_eq_true rfl, Nat.le_of_ble_eq_true rfl⟩ rfl rfl rfl hl.1 (Nat.le_of_ble_eq_true rfl) dX12_localKind_12 ⟨Nat.le_of_ble_eq_true rfl, Nat.le_of_ble_eq_true rfl⟩ (fun r_16 t_15 H locs hw hP hD hS => ?_)
    obtain ⟨h_18, h_19, p_20⟩ := hw
    replace p_20 : r_16.toInt = 1 → 48 ≤ r_7.toInt ∧ r_7.toInt ≤ 57 := p_20
    refine lv_if_ne (tgt := 20) C.1 C.2.1 dX12_localKind_15 (by decide) (fun c_21 => ?_) (fun c_21 => ?_)
    · replace c_21 : ¬ r_16.toInt = 0 := i_ne c_21
      refine lv_aload_n C.1 C.2.1 dX12_localKind_20 rfl (lv_at hl 0 rfl) ?_
      refine lv_iload_n C.1 C.2.1 dX12_localKind_21 rfl (lv_at hl 1 rfl) ?_
      refine lv_iconst (v := 1) C.1 C.2.1 dX12_localKind_22 (by decide) ?_
      obtain ⟨v_22, e_23⟩ : ∃ z, z = (x1 : Int32) + (1 : Int32) := ⟨_, rfl⟩
      have h_24 : v_22.toInt = x1.toInt + 1 := by rw [e_23]; exact ti_iadd (by show (_ : Int) ≤ x1.toInt + 1; omega) (by show x1.toInt + 1 < (_ : Int); omega)
      refine k_iadd (v := v_22) C e_23.symm dX12_localKind_23 ?_
      refine g_Vi (As := [.int v_22]) (rest := []) C hP hD hS hA (T_X12_letterAt l D K Z Y ad t hok (v_22) (show (1 : Int) ≤ (v_22 : Int32).toInt ∧ (v_22 : Int32).toInt ≤ 100 from ⟨by omega, by omega⟩)) hE hZ (uwV m_31_8 m_31_9 m_31_10 m_1_5 m_31_11) (hdV 1 (by decide +kernel) rfl) ⟨Nat.le_of_ble_eq_true rfl, Nat.le_of_ble_eq_true rfl⟩ rfl rfl (ci := 11) (q0 := 0) rfl rfl rfl hl.1 (Nat.le_of_ble_eq_true rfl) dX12_localKind_24 ⟨Nat.le_of_ble_eq_true rfl, Nat.le_of_ble_eq_true rfl⟩ (fun r_26 t_25 H locs hw hP hD hS => ?_)
      obtain ⟨h_28, h_29, p_30, p_31, p_32, p_33⟩ := hw
      replace p_30 : r_26 = fLet t v_22 := p_30
      replace p_31 : r_26.toInt = (fLet t v_22).toInt := p_31
      replace p_32 : ¬ r_26.toInt = 32 → (t.2.2.1 19 ((t.1 0 67) : Int32).toNatClampNeg).toInt + v_22.toInt ≤ (t.2.2.1 20 ((t.1 0 67) : Int32).toNatClampNeg).toInt := p_32
      replace p_33 : 81 ≤ v_22.toInt → r_26.toInt = 32 := p_33
      refine lv_istore_n (lv' := [(3, .int r_26), (0, .ref (ad 0)), (1, .int x1), (2, .int x2)]) C.1 C.2.1 dX12_localKind_27 rfl hl (by decide) rfl (fun ls hl => ?_)
      have hl : lv_has ls 4 [(0, .ref (ad 0)), (1, .int x1), (2, .int x2), (3, .int r_26)] := lv_sub hl [1, 2, 3, 0] rfl
      refine lv_iload_n C.1 C.2.1 dX12_localKind_28 rfl (lv_at hl 3 rfl) ?_
      refine lv_bipush (v := 72) C.1 C.2.1 dX12_localKind_29 (by decide) ?_
      refine lv_icmp_eq (tgt := 46) C.1 C.2.1 dX12_localKind_31 (by decide) (fun c_34 => ?_) (fun c_34 => ?_)
      · replace c_34 : r_26.toInt = 72 := i_eq c_34
        refine lv_iload_n C.1 C.2.1 dX12_localKind_46 rfl (lv_at hl 3 rfl) ?_
        refine lv_goto (tgt := 51) C.1 C.2.1 dX12_localKind_47 (by decide) ?_
        exact g_iret C hr hlocks hP hD hS rfl () rfl ⟨by omega, by omega, (show ¬ r_26.toInt = 0 → 48 ≤ (fLet t x1).toInt ∧ (fLet t x1).toInt ≤ 57 from by omega)⟩ (Nat.le_of_ble_eq_true rfl) (Nat.le_of_ble_eq_true rfl) dX12_localKind_51
      · replace c_34 : ¬ r_26.toInt = 72 := i_ne c_34
        refine lv_iload_n C.1 C.2.1 dX12_localKind_34 rfl (lv_at hl 3 rfl) ?_
        refine lv_bipush (v := 66) C.1 C.2.1 dX12_localKind_35 (by decide) ?_
        refine lv_icmp_eq (tgt := 46) C.1 C.2.1 dX12_localKind_37 (by decide) (fun c_35 => ?_) (fun c_35 => ?_)
        · replace c_35 : r_26.toInt = 66 := i_eq c_35
          refine lv_iload_n C.1 C.2.1 dX12_localKind_46 rfl (lv_at hl 3 rfl) ?_
          refine lv_goto (tgt := 51) C.1 C.2.1 dX12_localKind_47 (by decide) ?_
          exact g_iret C hr hlocks hP hD hS rfl () rfl ⟨by omega, by omega, (show ¬ r_26.toInt = 0 → 48 ≤ (fLet t x1).toInt ∧ (fLet t x1).toInt ≤ 57 from by omega)⟩ (Nat.le_of_ble_eq_true rfl) (Nat.le_of_ble_eq_true rfl) dX12_localKind_51
        · replace c_35 : ¬ r_26.toInt = 66 := i_ne c_35
          refine lv_iload_n C.1 C.2.1 dX12_localKind_40 rfl (lv_at hl 3 rfl) ?_
          refine lv_bipush (v := 70) C.1 C.2.1 dX12_localKind_41 (by decide) ?_
          refine lv_icmp_ne (tgt := 50) C.1 C.2.1 dX12_localKind_43 (by decide) (fun c_36 => ?_) (fun c_36 => ?_)
          · replace c_36 : ¬ r_26.toInt = 70 := i_ne c_36
            refine lv_iconst (v := 0) C.1 C.2.1 dX12_localKind_50 (by decide) ?_
            exact g_iret C hr hlocks hP hD hS rfl () rfl ⟨by decide, by decide, (show ¬ 0 = 0 → 48 ≤ (fLet t x1).toInt ∧ (fLet t x1).toInt ≤ 57 from by omega)⟩ (Nat.le_of_ble_eq_true rfl) (Nat.le_of_ble_eq_true rfl) dX12_localKind_51
          · replace c_36 : r_26.toInt = 70 := i_eq c_36
            refine lv_iload_n C.1 C.2.1 dX12_localKind_46 rfl (lv_at hl 3 rfl) ?_
            refine lv_goto (tgt := 51) C.1 C.2.1 dX12_localKind_47 (by decide) ?_
            exact g_iret C hr hlocks hP hD hS rfl () rfl ⟨by omega, by omega, (show ¬ r_26.toInt = 0 → 48 ≤ (fLet t x1).toInt ∧ (fLet t x1).toInt ≤ 57 from by omega)⟩ (Nat.le_of_ble_eq_true rfl) (Nat.le_of_ble_eq_true rfl) dX12_localKind_51
    · replace c_21 : r_16.toInt = 0 := i_eq c_21
      refine lv_iconst (v := 0) C.1 C.2.1 dX12_localKind_18 (by decide) ?_
      exact g_iret C hr hlocks hP hD hS rfl () rfl ⟨by decide, by decide, (show ¬ 0 = 0 → 48 ≤ (fLet t x1).toInt ∧ (fLet t x1).toInt ≤ 57 from by omega)⟩ (Nat.le_of_ble_eq_true rfl) (Nat.le_of_ble_eq_true rfl) dX12_localKind_19

theorem dX12_addressFault_0 : decode cX12_addressFault 0 = .ok (.aload_n 0, 1) := by decide +kernel
theorem dX12_addressFault_1 : decode cX12_addressFault 1 = .ok (.getfield 282, 3) := by decide +kernel
theorem dX12_addressFault_10 : decode cX12_addressFault 10 = .ok (.getfield 251, 3) := by decide +kernel
theorem dX12_addressFault_100 : decode cX12_addressFault 100 = .ok (.bipush 34, 2) := by decide +kernel
theorem dX12_addressFault_102 : decode cX12_addressFault 102 = .ok (.if_icmp .lt 12, 3) := by decide +kernel
theorem dX12_addressFault_105 : decode cX12_addressFault 105 = .ok (.aload_n 0, 1) := by decide +kernel
theorem dX12_addressFault_106 : decode cX12_addressFault 106 = .ok (.getfield 282, 3) := by decide +kernel
theorem dX12_addressFault_109 : decode cX12_addressFault 109 = .ok (.bipush 55, 2) := by decide +kernel
theorem dX12_addressFault_111 : decode cX12_addressFault 111 = .ok (.if_icmp .le 7, 3) := by decide +kernel
theorem dX12_addressFault_114 : decode cX12_addressFault 114 = .ok (.iconst 1, 1) := by decide +kernel
theorem dX12_addressFault_115 : decode cX12_addressFault 115 = .ok (.goto 4, 3) := by decide +kernel
theorem dX12_addressFault_118 : decode cX12_addressFault 118 = .ok (.iconst 0, 1) := by decide +kernel
theorem dX12_addressFault_119 : decode cX12_addressFault 119 = .ok (.istore_n 1, 1) := by decide +kernel
theorem dX12_addressFault_120 : decode cX12_addressFault 120 = .ok (.iload_n 1, 1) := by decide +kernel
theorem dX12_addressFault_121 : decode cX12_addressFault 121 = .ok (.ifCond .eq 20, 3) := by decide +kernel
theorem dX12_addressFault_124 : decode cX12_addressFault 124 = .ok (.aload_n 0, 1) := by decide +kernel
theorem dX12_addressFault_125 : decode cX12_addressFault 125 = .ok (.aload_n 0, 1) := by decide +kernel
theorem dX12_addressFault_126 : decode cX12_addressFault 126 = .ok (.getfield 251, 3) := by decide +kernel
theorem dX12_addressFault_129 : decode cX12_addressFault 129 = .ok (.invokevirtual 295, 3) := by decide +kernel
theorem dX12_addressFault_13 : decode cX12_addressFault 13 = .ok (.ifCond .ge 7, 3) := by decide +kernel
theorem dX12_addressFault_132 : decode cX12_addressFault 132 = .ok (.ifCond .eq 7, 3) := by decide +kernel
theorem dX12_addressFault_135 : decode cX12_addressFault 135 = .ok (.iconst 0, 1) := by decide +kernel
theorem dX12_addressFault_136 : decode cX12_addressFault 136 = .ok (.goto 4, 3) := by decide +kernel
theorem dX12_addressFault_139 : decode cX12_addressFault 139 = .ok (.iconst 2, 1) := by decide +kernel
theorem dX12_addressFault_140 : decode cX12_addressFault 140 = .ok (.ireturn, 1) := by decide +kernel
theorem dX12_addressFault_141 : decode cX12_addressFault 141 = .ok (.aload_n 0, 1) := by decide +kernel
theorem dX12_addressFault_142 : decode cX12_addressFault 142 = .ok (.getfield 282, 3) := by decide +kernel
theorem dX12_addressFault_145 : decode cX12_addressFault 145 = .ok (.bipush 36, 2) := by decide +kernel
theorem dX12_addressFault_147 : decode cX12_addressFault 147 = .ok (.if_icmp .eq 14, 3) := by decide +kernel
theorem dX12_addressFault_150 : decode cX12_addressFault 150 = .ok (.aload_n 0, 1) := by decide +kernel
theorem dX12_addressFault_151 : decode cX12_addressFault 151 = .ok (.getfield 282, 3) := by decide +kernel
theorem dX12_addressFault_154 : decode cX12_addressFault 154 = .ok (.bipush 37, 2) := by decide +kernel
theorem dX12_addressFault_156 : decode cX12_addressFault 156 = .ok (.if_icmp .eq 5, 3) := by decide +kernel
theorem dX12_addressFault_159 : decode cX12_addressFault 159 = .ok (.iconst 0, 1) := by decide +kernel
theorem dX12_addressFault_16 : decode cX12_addressFault 16 = .ok (.iconst 2, 1) := by decide +kernel
theorem dX12_addressFault_160 : decode cX12_addressFault 160 = .ok (.ireturn, 1) := by decide +kernel
theorem dX12_addressFault_161 : decode cX12_addressFault 161 = .ok (.aload_n 0, 1) := by decide +kernel
theorem dX12_addressFault_162 : decode cX12_addressFault 162 = .ok (.aload_n 0, 1) := by decide +kernel
theorem dX12_addressFault_163 : decode cX12_addressFault 163 = .ok (.getfield 251, 3) := by decide +kernel
theorem dX12_addressFault_166 : decode cX12_addressFault 166 = .ok (.aload_n 0, 1) := by decide +kernel
theorem dX12_addressFault_167 : decode cX12_addressFault 167 = .ok (.getfield 289, 3) := by decide +kernel
theorem dX12_addressFault_17 : decode cX12_addressFault 17 = .ok (.goto 4, 3) := by decide +kernel
theorem dX12_addressFault_170 : decode cX12_addressFault 170 = .ok (.bipush 20, 2) := by decide +kernel
theorem dX12_addressFault_172 : decode cX12_addressFault 172 = .ok (.if_icmp .ge 13, 3) := by decide +kernel
theorem dX12_addressFault_175 : decode cX12_addressFault 175 = .ok (.aload_n 0, 1) := by decide +kernel
theorem dX12_addressFault_176 : decode cX12_addressFault 176 = .ok (.getfield 289, 3) := by decide +kernel
theorem dX12_addressFault_179 : decode cX12_addressFault 179 = .ok (.invokestatic 211, 3) := by decide +kernel
theorem dX12_addressFault_182 : decode cX12_addressFault 182 = .ok (.goto 4, 3) := by decide +kernel
theorem dX12_addressFault_185 : decode cX12_addressFault 185 = .ok (.iconst 1, 1) := by decide +kernel
theorem dX12_addressFault_186 : decode cX12_addressFault 186 = .ok (.invokevirtual 299, 3) := by decide +kernel
theorem dX12_addressFault_189 : decode cX12_addressFault 189 = .ok (.ifCond .eq 7, 3) := by decide +kernel
theorem dX12_addressFault_192 : decode cX12_addressFault 192 = .ok (.iconst 0, 1) := by decide +kernel
theorem dX12_addressFault_193 : decode cX12_addressFault 193 = .ok (.goto 4, 3) := by decide +kernel
theorem dX12_addressFault_196 : decode cX12_addressFault 196 = .ok (.iconst 2, 1) := by decide +kernel
theorem dX12_addressFault_197 : decode cX12_addressFault 197 = .ok (.ireturn, 1) := by decide +kernel
theorem dX12_addressFault_20 : decode cX12_addressFault 20 = .ok (.iconst 0, 1) := by decide +kernel
theorem dX12_addressFault_21 : decode cX12_addressFault 21 = .ok (.ireturn, 1) := by decide +kernel
theorem dX12_addressFault_22 : decode cX12_addressFault 22 = .ok (.aload_n 0, 1) := by decide +kernel
theorem dX12_addressFault_23 : decode cX12_addressFault 23 = .ok (.getfield 282, 3) := by decide +kernel
theorem dX12_addressFault_26 : decode cX12_addressFault 26 = .ok (.bipush 7, 2) := by decide +kernel
theorem dX12_addressFault_28 : decode cX12_addressFault 28 = .ok (.if_icmp .ne 44, 3) := by decide +kernel
theorem dX12_addressFault_31 : decode cX12_addressFault 31 = .ok (.aload_n 0, 1) := by decide +kernel
theorem dX12_addressFault_32 : decode cX12_addressFault 32 = .ok (.aload_n 0, 1) := by decide +kernel
theorem dX12_addressFault_33 : decode cX12_addressFault 33 = .ok (.getfield 251, 3) := by decide +kernel
theorem dX12_addressFault_36 : decode cX12_addressFault 36 = .ok (.aload_n 0, 1) := by decide +kernel
theorem dX12_addressFault_37 : decode cX12_addressFault 37 = .ok (.getfield 289, 3) := by decide +kernel
theorem dX12_addressFault_4 : decode cX12_addressFault 4 = .ok (.bipush 6, 2) := by decide +kernel
theorem dX12_addressFault_40 : decode cX12_addressFault 40 = .ok (.invokevirtual 299, 3) := by decide +kernel
theorem dX12_addressFault_43 : decode cX12_addressFault 43 = .ok (.ifCond .eq 27, 3) := by decide +kernel
theorem dX12_addressFault_46 : decode cX12_addressFault 46 = .ok (.aload_n 0, 1) := by decide +kernel
theorem dX12_addressFault_47 : decode cX12_addressFault 47 = .ok (.aload_n 0, 1) := by decide +kernel
theorem dX12_addressFault_48 : decode cX12_addressFault 48 = .ok (.getfield 17, 3) := by decide +kernel
theorem dX12_addressFault_51 : decode cX12_addressFault 51 = .ok (.iconst 1, 1) := by decide +kernel
theorem dX12_addressFault_52 : decode cX12_addressFault 52 = .ok (.iaload, 1) := by decide +kernel
theorem dX12_addressFault_53 : decode cX12_addressFault 53 = .ok (.invokestatic 161, 3) := by decide +kernel
theorem dX12_addressFault_56 : decode cX12_addressFault 56 = .ok (.aload_n 0, 1) := by decide +kernel
theorem dX12_addressFault_57 : decode cX12_addressFault 57 = .ok (.getfield 289, 3) := by decide +kernel
theorem dX12_addressFault_6 : decode cX12_addressFault 6 = .ok (.if_icmp .ne 16, 3) := by decide +kernel
theorem dX12_addressFault_60 : decode cX12_addressFault 60 = .ok (.invokevirtual 299, 3) := by decide +kernel
theorem dX12_addressFault_63 : decode cX12_addressFault 63 = .ok (.ifCond .eq 7, 3) := by decide +kernel
theorem dX12_addressFault_66 : decode cX12_addressFault 66 = .ok (.iconst 0, 1) := by decide +kernel
theorem dX12_addressFault_67 : decode cX12_addressFault 67 = .ok (.goto 4, 3) := by decide +kernel
theorem dX12_addressFault_70 : decode cX12_addressFault 70 = .ok (.iconst 2, 1) := by decide +kernel
theorem dX12_addressFault_71 : decode cX12_addressFault 71 = .ok (.ireturn, 1) := by decide +kernel
theorem dX12_addressFault_72 : decode cX12_addressFault 72 = .ok (.aload_n 0, 1) := by decide +kernel
theorem dX12_addressFault_73 : decode cX12_addressFault 73 = .ok (.getfield 282, 3) := by decide +kernel
theorem dX12_addressFault_76 : decode cX12_addressFault 76 = .ok (.ifCond .le 11, 3) := by decide +kernel
theorem dX12_addressFault_79 : decode cX12_addressFault 79 = .ok (.aload_n 0, 1) := by decide +kernel
theorem dX12_addressFault_80 : decode cX12_addressFault 80 = .ok (.getfield 282, 3) := by decide +kernel
theorem dX12_addressFault_83 : decode cX12_addressFault 83 = .ok (.iconst 5, 1) := by decide +kernel
theorem dX12_addressFault_84 : decode cX12_addressFault 84 = .ok (.if_icmp .lt 30, 3) := by decide +kernel
theorem dX12_addressFault_87 : decode cX12_addressFault 87 = .ok (.aload_n 0, 1) := by decide +kernel
theorem dX12_addressFault_88 : decode cX12_addressFault 88 = .ok (.getfield 282, 3) := by decide +kernel
theorem dX12_addressFault_9 : decode cX12_addressFault 9 = .ok (.aload_n 0, 1) := by decide +kernel
theorem dX12_addressFault_91 : decode cX12_addressFault 91 = .ok (.bipush 7, 2) := by decide +kernel
theorem dX12_addressFault_93 : decode cX12_addressFault 93 = .ok (.if_icmp .le 12, 3) := by decide +kernel
theorem dX12_addressFault_96 : decode cX12_addressFault 96 = .ok (.aload_n 0, 1) := by decide +kernel
theorem dX12_addressFault_97 : decode cX12_addressFault 97 = .ok (.getfield 282, 3) := by decide +kernel
set_option maxHeartbeats 4000000 in
set_option maxRecDepth 100000 in
theorem T_X12_addressFault (l : Launch) (D : va_G) (K : Nat → ClassId) (Z Y : Nat → Nat) (ad : Nat → Nat) (t : tSt) (hok : okM t)  : tMet l yX12_addressFault cX12_addressFault 2 (some .int) (rmD 2 0 0) D K Z Y [.ref (ad 0)] (WM K ad t) (QI D K (fun (r : Int32) (u : Unit) => (0 : Int) ≤ r.toInt ∧ r.toInt ≤ 2 ∧ (r.toInt = 0 → gdA (t.1 0 16) (t.1 0 17) (t.1 0 18) (t.2.2.1 3))) (fun (_ : Unit) => WM K ad t)) 0 0 := by
  refine t_met RX12 ⟨rfl, by decide +kernel⟩ (Nat.le_of_ble_eq_true rfl) ?_
  intro p e s m below meth c A ls C hE hZ hr hlocks hA hP hD hS hl
  have hl : lv_has ls 2 [(0, .ref (ad 0))] := hl
  have h_1 : (0 : Int) ≤ (t.1 0 10).toInt ∧ (t.1 0 10).toInt ≤ 1 := hok.1 0 10
  have h_2 : (0 : Int) ≤ (t.1 0 16).toInt ∧ (t.1 0 16).toInt ≤ 63 := hok.1 0 16
  have h_3 : (0 : Int) ≤ (t.1 0 17).toInt ∧ (t.1 0 17).toInt ≤ 63 := hok.1 0 17
  refine lv_aload_n C.1 C.2.1 dX12_addressFault_0 rfl (lv_at hl 0 rfl) ?_
  refine k_get (v := .int (t.1 0 16)) C hP 0 rfl rfl inlX12 16 (by decide) m_57_3 rfl dX12_addressFault_1 ?_
  refine lv_bipush (v := 6) C.1 C.2.1 dX12_addressFault_4 (by decide) ?_
  refine lv_icmp_ne (tgt := 22) C.1 C.2.1 dX12_addressFault_6 (by decide) (fun c_4 => ?_) (fun c_4 => ?_)
  · replace c_4 : ¬ (t.1 0 16).toInt = 6 := i_ne c_4
    refine lv_aload_n C.1 C.2.1 dX12_addressFault_22 rfl (lv_at hl 0 rfl) ?_
    refine k_get (v := .int (t.1 0 16)) C hP 0 rfl rfl inlX12 16 (by decide) m_57_3 rfl dX12_addressFault_23 ?_
    refine lv_bipush (v := 7) C.1 C.2.1 dX12_addressFault_26 (by decide) ?_
    refine lv_icmp_ne (tgt := 72) C.1 C.2.1 dX12_addressFault_28 (by decide) (fun c_5 => ?_) (fun c_5 => ?_)
    · replace c_5 : ¬ (t.1 0 16).toInt = 7 := i_ne c_5
      refine lv_aload_n C.1 C.2.1 dX12_addressFault_72 rfl (lv_at hl 0 rfl) ?_
      refine k_get (v := .int (t.1 0 16)) C hP 0 rfl rfl inlX12 16 (by decide) m_57_3 rfl dX12_addressFault_73 ?_
      refine lv_if_le (tgt := 87) C.1 C.2.1 dX12_addressFault_76 (by decide) (fun c_6 => ?_) (fun c_6 => ?_)
      · replace c_6 : (t.1 0 16).toInt ≤ 0 := i_le c_6
        refine lv_aload_n C.1 C.2.1 dX12_addressFault_87 rfl (lv_at hl 0 rfl) ?_
        refine k_get (v := .int (t.1 0 16)) C hP 0 rfl rfl inlX12 16 (by decide) m_57_3 rfl dX12_addressFault_88 ?_
        refine lv_bipush (v := 7) C.1 C.2.1 dX12_addressFault_91 (by decide) ?_
        refine lv_icmp_le (tgt := 105) C.1 C.2.1 dX12_addressFault_93 (by decide) (fun c_7 => ?_) (fun c_7 => False.elim (by have c_7 : 7 < (t.1 0 16).toInt := i_nle c_7; omega))
        replace c_7 : (t.1 0 16).toInt ≤ 7 := i_le c_7
        refine lv_aload_n C.1 C.2.1 dX12_addressFault_105 rfl (lv_at hl 0 rfl) ?_
        refine k_get (v := .int (t.1 0 16)) C hP 0 rfl rfl inlX12 16 (by decide) m_57_3 rfl dX12_addressFault_106 ?_
        refine lv_bipush (v := 55) C.1 C.2.1 dX12_addressFault_109 (by decide) ?_
        refine lv_icmp_le (tgt := 118) C.1 C.2.1 dX12_addressFault_111 (by decide) (fun c_8 => ?_) (fun c_8 => False.elim (by have c_8 : 55 < (t.1 0 16).toInt := i_nle c_8; omega))
        replace c_8 : (t.1 0 16).toInt ≤ 55 := i_le c_8
        refine lv_iconst (v := 0) C.1 C.2.1 dX12_addressFault_118 (by decide) ?_
        refine lv_istore_n (lv' := [(1, .int 0), (0, .ref (ad 0))]) C.1 C.2.1 dX12_addressFault_119 rfl hl (by decide) rfl (fun ls hl => ?_)
        have hl : lv_has ls 2 [(0, .ref (ad 0)), (1, .int 0)] := lv_sub hl [1, 0] rfl
        refine lv_iload_n C.1 C.2.1 dX12_addressFault_120 rfl (lv_at hl 1 rfl) ?_
        refine lv_if_eq (tgt := 141) C.1 C.2.1 dX12_addressFault_121 (by decide) (fun _ => ?_) (fun h => absurd (by decide) h)
        refine lv_aload_n C.1 C.2.1 dX12_addressFault_141 rfl (lv_at hl 0 rfl) ?_
        refine k_get (v := .int (t.1 0 16)) C hP 0 rfl rfl inlX12 16 (by decide) m_57_3 rfl dX12_addressFault_142 ?_
        refine lv_bipush (v := 36) C.1 C.2.1 dX12_addressFault_145 (by decide) ?_
        refine lv_icmp_eq (tgt := 161) C.1 C.2.1 dX12_addressFault_147 (by decide) (fun c_9 => False.elim (by have c_9 : (t.1 0 16).toInt = 36 := i_eq c_9; omega)) (fun c_9 => ?_)
        replace c_9 : ¬ (t.1 0 16).toInt = 36 := i_ne c_9
        refine lv_aload_n C.1 C.2.1 dX12_addressFault_150 rfl (lv_at hl 0 rfl) ?_
        refine k_get (v := .int (t.1 0 16)) C hP 0 rfl rfl inlX12 16 (by decide) m_57_3 rfl dX12_addressFault_151 ?_
        refine lv_bipush (v := 37) C.1 C.2.1 dX12_addressFault_154 (by decide) ?_
        refine lv_icmp_eq (tgt := 161) C.1 C.2.1 dX12_addressFault_156 (by decide) (fun c_10 => False.elim (by have c_10 : (t.1 0 16).toInt = 37 := i_eq c_10; omega)) (fun c_10 => ?_)
        replace c_10 : ¬ (t.1 0 16).toInt = 37 := i_ne c_10
        refine lv_iconst (v := 0) C.1 C.2.1 dX12_addressFault_159 (by decide) ?_
        exact g_iret C hr hlocks hP hD hS rfl () rfl ⟨by decide, by decide, (show 0 = 0 → gdA (t.1 0 16) (t.1 0 17) (t.1 0 18) (t.2.2.1 3) from by intro h0; refine ⟨fun _ => ?_, fun _ => ?_, fun _ => ?_, fun _ _ => ?_⟩ <;> omega)⟩ (Nat.le_of_ble_eq_true rfl) (Nat.le_of_ble_eq_true rfl) dX12_addressFault_160
      · replace c_6 : 0 < (t.1 0 16).toInt := i_nle c_6
        refine lv_aload_n C.1 C.2.1 dX12_addressFault_79 rfl (lv_at hl 0 rfl) ?_
        refine k_get (v := .int (t.1 0 16)) C hP 0 rfl rfl inlX12 16 (by decide) m_57_3 rfl dX12_addressFault_80 ?_
        refine lv_iconst (v := 5) C.1 C.2.1 dX12_addressFault_83 (by decide) ?_
        refine lv_icmp_lt (tgt := 114) C.1 C.2.1 dX12_addressFault_84 (by decide) (fun c_11 => ?_) (fun c_11 => ?_)
        · replace c_11 : (t.1 0 16).toInt < 5 := i_lt c_11
          refine lv_iconst (v := 1) C.1 C.2.1 dX12_addressFault_114 (by decide) ?_
          refine lv_goto (tgt := 119) C.1 C.2.1 dX12_addressFault_115 (by decide) ?_
          refine lv_istore_n (lv' := [(1, .int 1), (0, .ref (ad 0))]) C.1 C.2.1 dX12_addressFault_119 rfl hl (by decide) rfl (fun ls hl => ?_)
          have hl : lv_has ls 2 [(0, .ref (ad 0)), (1, .int 1)] := lv_sub hl [1, 0] rfl
          refine lv_iload_n C.1 C.2.1 dX12_addressFault_120 rfl (lv_at hl 1 rfl) ?_
          refine lv_if_eq (tgt := 141) C.1 C.2.1 dX12_addressFault_121 (by decide) (fun h => absurd h (by decide)) (fun _ => ?_)
          refine lv_aload_n C.1 C.2.1 dX12_addressFault_124 rfl (lv_at hl 0 rfl) ?_
          refine lv_aload_n C.1 C.2.1 dX12_addressFault_125 rfl (lv_at hl 0 rfl) ?_
          refine k_get (v := .int (t.1 0 18)) C hP 0 rfl rfl inlX12 18 (by decide) m_57_5 rfl dX12_addressFault_126 ?_
          refine g_Vi (As := [.int (t.1 0 18)]) (rest := []) C hP hD hS hA (T_X12_isHere l D K Z Y ad t hok ((t.1 0 18))) hE hZ (uwV m_57_7 m_57_8 m_57_9 m_1_5 m_57_10) (hdV 1 (by decide +kernel) rfl) ⟨Nat.le_of_ble_eq_true rfl, Nat.le_of_ble_eq_true rfl⟩ rfl rfl (ci := 11) (q0 := 0) rfl rfl rfl hl.1 (Nat.le_of_ble_eq_true rfl) dX12_addressFault_129 ⟨Nat.le_of_ble_eq_true rfl, Nat.le_of_ble_eq_true rfl⟩ (fun r_13 t_12 H locs hw hP hD hS => ?_)
          obtain ⟨h_15, h_16, p_17, p_18⟩ := hw
          replace p_17 : r_13.toInt = 1 → -3999 ≤ (t.1 0 18).toInt ∧ (t.1 0 18).toInt ≤ 3999 := p_17
          replace p_18 : r_13.toInt = 1 → (t.1 0 10).toInt = 0 → 0 ≤ (t.1 0 18).toInt := p_18
          refine lv_if_eq (tgt := 139) C.1 C.2.1 dX12_addressFault_132 (by decide) (fun c_19 => ?_) (fun c_19 => ?_)
          · replace c_19 : r_13.toInt = 0 := i_eq c_19
            refine lv_iconst (v := 2) C.1 C.2.1 dX12_addressFault_139 (by decide) ?_
            exact g_iret C hr hlocks hP hD hS rfl () rfl ⟨by decide, by decide, (show 2 = 0 → gdA (t.1 0 16) (t.1 0 17) (t.1 0 18) (t.2.2.1 3) from by intro h0; refine ⟨fun _ => ?_, fun _ => ?_, fun _ => ?_, fun _ _ => ?_⟩ <;> omega)⟩ (Nat.le_of_ble_eq_true rfl) (Nat.le_of_ble_eq_true rfl) dX12_addressFault_140
          · replace c_19 : ¬ r_13.toInt = 0 := i_ne c_19
            refine lv_iconst (v := 0) C.1 C.2.1 dX12_addressFault_135 (by decide) ?_
            refine lv_goto (tgt := 140) C.1 C.2.1 dX12_addressFault_136 (by decide) ?_
            exact g_iret C hr hlocks hP hD hS rfl () rfl ⟨by decide, by decide, (show 0 = 0 → gdA (t.1 0 16) (t.1 0 17) (t.1 0 18) (t.2.2.1 3) from by intro h0; refine ⟨fun _ => ?_, fun _ => ?_, fun _ => ?_, fun _ _ => ?_⟩ <;> omega)⟩ (Nat.le_of_ble_eq_true rfl) (Nat.le_of_ble_eq_true rfl) dX12_addressFault_140
        · replace c_11 : 5 ≤ (t.1 0 16).toInt := i_nlt c_11
          refine lv_aload_n C.1 C.2.1 dX12_addressFault_87 rfl (lv_at hl 0 rfl) ?_
          refine k_get (v := .int (t.1 0 16)) C hP 0 rfl rfl inlX12 16 (by decide) m_57_3 rfl dX12_addressFault_88 ?_
          refine lv_bipush (v := 7) C.1 C.2.1 dX12_addressFault_91 (by decide) ?_
          refine lv_icmp_le (tgt := 105) C.1 C.2.1 dX12_addressFault_93 (by decide) (fun c_20 => ?_) (fun c_20 => ?_)
          · replace c_20 : (t.1 0 16).toInt ≤ 7 := i_le c_20
            refine lv_aload_n C.1 C.2.1 dX12_addressFault_105 rfl (lv_at hl 0 rfl) ?_
            refine k_get (v := .int (t.1 0 16)) C hP 0 rfl rfl inlX12 16 (by decide) m_57_3 rfl dX12_addressFault_106 ?_
            refine lv_bipush (v := 55) C.1 C.2.1 dX12_addressFault_109 (by decide) ?_
            refine lv_icmp_le (tgt := 118) C.1 C.2.1 dX12_addressFault_111 (by decide) (fun c_21 => ?_) (fun c_21 => False.elim (by have c_21 : 55 < (t.1 0 16).toInt := i_nle c_21; omega))
            replace c_21 : (t.1 0 16).toInt ≤ 55 := i_le c_21
            refine lv_iconst (v := 0) C.1 C.2.1 dX12_addressFault_118 (by decide) ?_
            refine lv_istore_n (lv' := [(1, .int 0), (0, .ref (ad 0))]) C.1 C.2.1 dX12_addressFault_119 rfl hl (by decide) rfl (fun ls hl => ?_)
            have hl : lv_has ls 2 [(0, .ref (ad 0)), (1, .int 0)] := lv_sub hl [1, 0] rfl
            refine lv_iload_n C.1 C.2.1 dX12_addressFault_120 rfl (lv_at hl 1 rfl) ?_
            refine lv_if_eq (tgt := 141) C.1 C.2.1 dX12_addressFault_121 (by decide) (fun _ => ?_) (fun h => absurd (by decide) h)
            refine lv_aload_n C.1 C.2.1 dX12_addressFault_141 rfl (lv_at hl 0 rfl) ?_
            refine k_get (v := .int (t.1 0 16)) C hP 0 rfl rfl inlX12 16 (by decide) m_57_3 rfl dX12_addressFault_142 ?_
            refine lv_bipush (v := 36) C.1 C.2.1 dX12_addressFault_145 (by decide) ?_
            refine lv_icmp_eq (tgt := 161) C.1 C.2.1 dX12_addressFault_147 (by decide) (fun c_22 => False.elim (by have c_22 : (t.1 0 16).toInt = 36 := i_eq c_22; omega)) (fun c_22 => ?_)
            replace c_22 : ¬ (t.1 0 16).toInt = 36 := i_ne c_22
            refine lv_aload_n C.1 C.2.1 dX12_addressFault_150 rfl (lv_at hl 0 rfl) ?_
            refine k_get (v := .int (t.1 0 16)) C hP 0 rfl rfl inlX12 16 (by decide) m_57_3 rfl dX12_addressFault_151 ?_
            refine lv_bipush (v := 37) C.1 C.2.1 dX12_addressFault_154 (by decide) ?_
            refine lv_icmp_eq (tgt := 161) C.1 C.2.1 dX12_addressFault_156 (by decide) (fun c_23 => False.elim (by have c_23 : (t.1 0 16).toInt = 37 := i_eq c_23; omega)) (fun c_23 => ?_)
            replace c_23 : ¬ (t.1 0 16).toInt = 37 := i_ne c_23
            refine lv_iconst (v := 0) C.1 C.2.1 dX12_addressFault_159 (by decide) ?_
            exact g_iret C hr hlocks hP hD hS rfl () rfl ⟨by decide, by decide, (show 0 = 0 → gdA (t.1 0 16) (t.1 0 17) (t.1 0 18) (t.2.2.1 3) from by intro h0; refine ⟨fun _ => ?_, fun _ => ?_, fun _ => ?_, fun _ _ => ?_⟩ <;> omega)⟩ (Nat.le_of_ble_eq_true rfl) (Nat.le_of_ble_eq_true rfl) dX12_addressFault_160
          · replace c_20 : 7 < (t.1 0 16).toInt := i_nle c_20
            refine lv_aload_n C.1 C.2.1 dX12_addressFault_96 rfl (lv_at hl 0 rfl) ?_
            refine k_get (v := .int (t.1 0 16)) C hP 0 rfl rfl inlX12 16 (by decide) m_57_3 rfl dX12_addressFault_97 ?_
            refine lv_bipush (v := 34) C.1 C.2.1 dX12_addressFault_100 (by decide) ?_
            refine lv_icmp_lt (tgt := 114) C.1 C.2.1 dX12_addressFault_102 (by decide) (fun c_24 => ?_) (fun c_24 => ?_)
            · replace c_24 : (t.1 0 16).toInt < 34 := i_lt c_24
              refine lv_iconst (v := 1) C.1 C.2.1 dX12_addressFault_114 (by decide) ?_
              refine lv_goto (tgt := 119) C.1 C.2.1 dX12_addressFault_115 (by decide) ?_
              refine lv_istore_n (lv' := [(1, .int 1), (0, .ref (ad 0))]) C.1 C.2.1 dX12_addressFault_119 rfl hl (by decide) rfl (fun ls hl => ?_)
              have hl : lv_has ls 2 [(0, .ref (ad 0)), (1, .int 1)] := lv_sub hl [1, 0] rfl
              refine lv_iload_n C.1 C.2.1 dX12_addressFault_120 rfl (lv_at hl 1 rfl) ?_
              refine lv_if_eq (tgt := 141) C.1 C.2.1 dX12_addressFault_121 (by decide) (fun h => absurd h (by decide)) (fun _ => ?_)
              refine lv_aload_n C.1 C.2.1 dX12_addressFault_124 rfl (lv_at hl 0 rfl) ?_
              refine lv_aload_n C.1 C.2.1 dX12_addressFault_125 rfl (lv_at hl 0 rfl) ?_
              refine k_get (v := .int (t.1 0 18)) C hP 0 rfl rfl inlX12 18 (by decide) m_57_5 rfl dX12_addressFault_126 ?_
              refine g_Vi (As := [.int (t.1 0 18)]) (rest := []) C hP hD hS hA (T_X12_isHere l D K Z Y ad t hok ((t.1 0 18))) hE hZ (uwV m_57_7 m_57_8 m_57_9 m_1_5 m_57_10) (hdV 1 (by decide +kernel) rfl) ⟨Nat.le_of_ble_eq_true rfl, Nat.le_of_ble_eq_true rfl⟩ rfl rfl (ci := 11) (q0 := 0) rfl rfl rfl hl.1 (Nat.le_of_ble_eq_true rfl) dX12_addressFault_129 ⟨Nat.le_of_ble_eq_true rfl, Nat.le_of_ble_eq_true rfl⟩ (fun r_26 t_25 H locs hw hP hD hS => ?_)
              obtain ⟨h_28, h_29, p_30, p_31⟩ := hw
              replace p_30 : r_26.toInt = 1 → -3999 ≤ (t.1 0 18).toInt ∧ (t.1 0 18).toInt ≤ 3999 := p_30
              replace p_31 : r_26.toInt = 1 → (t.1 0 10).toInt = 0 → 0 ≤ (t.1 0 18).toInt := p_31
              refine lv_if_eq (tgt := 139) C.1 C.2.1 dX12_addressFault_132 (by decide) (fun c_32 => ?_) (fun c_32 => ?_)
              · replace c_32 : r_26.toInt = 0 := i_eq c_32
                refine lv_iconst (v := 2) C.1 C.2.1 dX12_addressFault_139 (by decide) ?_
                exact g_iret C hr hlocks hP hD hS rfl () rfl ⟨by decide, by decide, (show 2 = 0 → gdA (t.1 0 16) (t.1 0 17) (t.1 0 18) (t.2.2.1 3) from by intro h0; refine ⟨fun _ => ?_, fun _ => ?_, fun _ => ?_, fun _ _ => ?_⟩ <;> omega)⟩ (Nat.le_of_ble_eq_true rfl) (Nat.le_of_ble_eq_true rfl) dX12_addressFault_140
              · replace c_32 : ¬ r_26.toInt = 0 := i_ne c_32
                refine lv_iconst (v := 0) C.1 C.2.1 dX12_addressFault_135 (by decide) ?_
                refine lv_goto (tgt := 140) C.1 C.2.1 dX12_addressFault_136 (by decide) ?_
                exact g_iret C hr hlocks hP hD hS rfl () rfl ⟨by decide, by decide, (show 0 = 0 → gdA (t.1 0 16) (t.1 0 17) (t.1 0 18) (t.2.2.1 3) from by intro h0; refine ⟨fun _ => ?_, fun _ => ?_, fun _ => ?_, fun _ _ => ?_⟩ <;> omega)⟩ (Nat.le_of_ble_eq_true rfl) (Nat.le_of_ble_eq_true rfl) dX12_addressFault_140
            · replace c_24 : 34 ≤ (t.1 0 16).toInt := i_nlt c_24
              refine lv_aload_n C.1 C.2.1 dX12_addressFault_105 rfl (lv_at hl 0 rfl) ?_
              refine k_get (v := .int (t.1 0 16)) C hP 0 rfl rfl inlX12 16 (by decide) m_57_3 rfl dX12_addressFault_106 ?_
              refine lv_bipush (v := 55) C.1 C.2.1 dX12_addressFault_109 (by decide) ?_
              refine lv_icmp_le (tgt := 118) C.1 C.2.1 dX12_addressFault_111 (by decide) (fun c_33 => ?_) (fun c_33 => ?_)
              · replace c_33 : (t.1 0 16).toInt ≤ 55 := i_le c_33
                refine lv_iconst (v := 0) C.1 C.2.1 dX12_addressFault_118 (by decide) ?_
                refine lv_istore_n (lv' := [(1, .int 0), (0, .ref (ad 0))]) C.1 C.2.1 dX12_addressFault_119 rfl hl (by decide) rfl (fun ls hl => ?_)
                have hl : lv_has ls 2 [(0, .ref (ad 0)), (1, .int 0)] := lv_sub hl [1, 0] rfl
                refine lv_iload_n C.1 C.2.1 dX12_addressFault_120 rfl (lv_at hl 1 rfl) ?_
                refine lv_if_eq (tgt := 141) C.1 C.2.1 dX12_addressFault_121 (by decide) (fun _ => ?_) (fun h => absurd (by decide) h)
                refine lv_aload_n C.1 C.2.1 dX12_addressFault_141 rfl (lv_at hl 0 rfl) ?_
                refine k_get (v := .int (t.1 0 16)) C hP 0 rfl rfl inlX12 16 (by decide) m_57_3 rfl dX12_addressFault_142 ?_
                refine lv_bipush (v := 36) C.1 C.2.1 dX12_addressFault_145 (by decide) ?_
                refine lv_icmp_eq (tgt := 161) C.1 C.2.1 dX12_addressFault_147 (by decide) (fun c_34 => ?_) (fun c_34 => ?_)
                · replace c_34 : (t.1 0 16).toInt = 36 := i_eq c_34
                  refine lv_aload_n C.1 C.2.1 dX12_addressFault_161 rfl (lv_at hl 0 rfl) ?_
                  refine lv_aload_n C.1 C.2.1 dX12_addressFault_162 rfl (lv_at hl 0 rfl) ?_
                  refine k_get (v := .int (t.1 0 18)) C hP 0 rfl rfl inlX12 18 (by decide) m_57_5 rfl dX12_addressFault_163 ?_
                  refine lv_aload_n C.1 C.2.1 dX12_addressFault_166 rfl (lv_at hl 0 rfl) ?_
                  refine k_get (v := .int (t.1 0 17)) C hP 0 rfl rfl inlX12 17 (by decide) m_57_4 rfl dX12_addressFault_167 ?_
                  refine lv_bipush (v := 20) C.1 C.2.1 dX12_addressFault_170 (by decide) ?_
                  refine lv_icmp_ge (tgt := 185) C.1 C.2.1 dX12_addressFault_172 (by decide) (fun c_35 => ?_) (fun c_35 => ?_)
                  · replace c_35 : 20 ≤ (t.1 0 17).toInt := i_le c_35
                    refine lv_iconst (v := 1) C.1 C.2.1 dX12_addressFault_185 (by decide) ?_
                    have h_36 : (1 : Int32).toInt = 1 := rfl
                    refine g_Vi (As := [.int (t.1 0 18), .int 1]) (rest := []) C hP hD hS hA (T_X12_areHere l D K Z Y ad t hok ((t.1 0 18)) 1 (show (0 : Int) ≤ (1 : Int32).toInt ∧ (1 : Int32).toInt ≤ 100 from ⟨by decide, by decide⟩)) hE hZ (uwV m_58_5 m_58_6 m_58_7 m_1_5 m_58_8) (hdV 2 (by decide +kernel) rfl) ⟨Nat.le_of_ble_eq_true rfl, Nat.le_of_ble_eq_true rfl⟩ rfl rfl (ci := 11) (q0 := 0) rfl rfl rfl hl.1 (Nat.le_of_ble_eq_true rfl) dX12_addressFault_186 ⟨Nat.le_of_ble_eq_true rfl, Nat.le_of_ble_eq_true rfl⟩ (fun r_38 t_37 H locs hw hP hD hS => ?_)
                    obtain ⟨h_40, h_41, p_42⟩ := hw
                    replace p_42 : r_38.toInt = 1 → (1 : Int32).toInt < 1 ∨ (-3999 ≤ (t.1 0 18).toInt ∧ (t.1 0 18).toInt + (1 : Int32).toInt ≤ 4000) := p_42
                    refine lv_if_eq (tgt := 196) C.1 C.2.1 dX12_addressFault_189 (by decide) (fun c_43 => ?_) (fun c_43 => ?_)
                    · replace c_43 : r_38.toInt = 0 := i_eq c_43
                      refine lv_iconst (v := 2) C.1 C.2.1 dX12_addressFault_196 (by decide) ?_
                      exact g_iret C hr hlocks hP hD hS rfl () rfl ⟨by decide, by decide, (show 2 = 0 → gdA (t.1 0 16) (t.1 0 17) (t.1 0 18) (t.2.2.1 3) from by intro h0; refine ⟨fun _ => ?_, fun _ => ?_, fun _ => ?_, fun _ _ => ?_⟩ <;> omega)⟩ (Nat.le_of_ble_eq_true rfl) (Nat.le_of_ble_eq_true rfl) dX12_addressFault_197
                    · replace c_43 : ¬ r_38.toInt = 0 := i_ne c_43
                      refine lv_iconst (v := 0) C.1 C.2.1 dX12_addressFault_192 (by decide) ?_
                      refine lv_goto (tgt := 197) C.1 C.2.1 dX12_addressFault_193 (by decide) ?_
                      exact g_iret C hr hlocks hP hD hS rfl () rfl ⟨by decide, by decide, (show 0 = 0 → gdA (t.1 0 16) (t.1 0 17) (t.1 0 18) (t.2.2.1 3) from by intro h0; refine ⟨fun _ => ?_, fun _ => ?_, fun _ => ?_, fun _ _ => ?_⟩ <;> omega)⟩ (Nat.le_of_ble_eq_true rfl) (Nat.le_of_ble_eq_true rfl) dX12_addressFault_197
                  · replace c_35 : (t.1 0 17).toInt < 20 := i_nle c_35
                    refine lv_aload_n C.1 C.2.1 dX12_addressFault_175 rfl (lv_at hl 0 rfl) ?_
                    refine k_get (v := .int (t.1 0 17)) C hP 0 rfl rfl inlX12 17 (by decide) m_57_4 rfl dX12_addressFault_176 ?_
                    refine g_Si (As := [.int (t.1 0 17)]) (rest := [.int (t.1 0 18), .ref (ad 0)]) C hP hD hS hA (T_X12_sizeOf l D K Z Y ad t hok ((t.1 0 17)) (show (-1 : Int) ≤ ((t.1 0 17) : Int32).toInt ∧ ((t.1 0 17) : Int32).toInt ≤ 19 from ⟨by omega, by omega⟩)) hE hZ (uwS m_56_19 m_56_20 m_1_5 m_56_21) (hdS 1 (by decide +kernel) rfl) ⟨Nat.le_of_ble_eq_true rfl, Nat.le_of_ble_eq_true rfl⟩ rfl rfl rfl hl.1 (Nat.le_of_ble_eq_true rfl) dX12_addressFault_179 ⟨Nat.le_of_ble_eq_true rfl, Nat.le_of_ble_eq_true rfl⟩ (fun r_45 t_44 H locs hw hP hD hS => ?_)
                    obtain ⟨h_47, h_48, p_49, p_50, p_51, p_52⟩ := hw
                    replace p_49 : (t.1 0 17).toInt < 16 → r_45.toInt = 100 := p_49
                    replace p_50 : (t.1 0 17).toInt = 16 ∨ (t.1 0 17).toInt = 17 → r_45.toInt = 16 := p_50
                    replace p_51 : (t.1 0 17).toInt = 18 → r_45.toInt = 24 := p_51
                    replace p_52 : (t.1 0 17).toInt = 19 → r_45.toInt = 14 := p_52
                    refine lv_goto (tgt := 186) C.1 C.2.1 dX12_addressFault_182 (by decide) ?_
                    refine g_Vi (As := [.int (t.1 0 18), .int r_45]) (rest := []) C hP hD hS hA (T_X12_areHere l D K Z Y ad t hok ((t.1 0 18)) (r_45) (show (0 : Int) ≤ (r_45 : Int32).toInt ∧ (r_45 : Int32).toInt ≤ 100 from ⟨by omega, by omega⟩)) hE hZ (uwV m_58_5 m_58_6 m_58_7 m_1_5 m_58_8) (hdV 2 (by decide +kernel) rfl) ⟨Nat.le_of_ble_eq_true rfl, Nat.le_of_ble_eq_true rfl⟩ rfl rfl (ci := 11) (q0 := 0) rfl rfl rfl hl.1 (Nat.le_of_ble_eq_true rfl) dX12_addressFault_186 ⟨Nat.le_of_ble_eq_true rfl, Nat.le_of_ble_eq_true rfl⟩ (fun r_54 t_53 H locs hw hP hD hS => ?_)
                    obtain ⟨h_56, h_57, p_58⟩ := hw
                    replace p_58 : r_54.toInt = 1 → r_45.toInt < 1 ∨ (-3999 ≤ (t.1 0 18).toInt ∧ (t.1 0 18).toInt + r_45.toInt ≤ 4000) := p_58
                    refine lv_if_eq (tgt := 196) C.1 C.2.1 dX12_addressFault_189 (by decide) (fun c_59 => ?_) (fun c_59 => ?_)
                    · replace c_59 : r_54.toInt = 0 := i_eq c_59
                      refine lv_iconst (v := 2) C.1 C.2.1 dX12_addressFault_196 (by decide) ?_
                      exact g_iret C hr hlocks hP hD hS rfl () rfl ⟨by decide, by decide, (show 2 = 0 → gdA (t.1 0 16) (t.1 0 17) (t.1 0 18) (t.2.2.1 3) from by intro h0; refine ⟨fun _ => ?_, fun _ => ?_, fun _ => ?_, fun _ _ => ?_⟩ <;> omega)⟩ (Nat.le_of_ble_eq_true rfl) (Nat.le_of_ble_eq_true rfl) dX12_addressFault_197
                    · replace c_59 : ¬ r_54.toInt = 0 := i_ne c_59
                      refine lv_iconst (v := 0) C.1 C.2.1 dX12_addressFault_192 (by decide) ?_
                      refine lv_goto (tgt := 197) C.1 C.2.1 dX12_addressFault_193 (by decide) ?_
                      exact g_iret C hr hlocks hP hD hS rfl () rfl ⟨by decide, by decide, (show 0 = 0 → gdA (t.1 0 16) (t.1 0 17) (t.1 0 18) (t.2.2.1 3) from by intro h0; refine ⟨fun _ => ?_, fun _ => ?_, fun _ => ?_, fun _ _ => ?_⟩ <;> omega)⟩ (Nat.le_of_ble_eq_true rfl) (Nat.le_of_ble_eq_true rfl) dX12_addressFault_197
                · replace c_34 : ¬ (t.1 0 16).toInt = 36 := i_ne c_34
                  refine lv_aload_n C.1 C.2.1 dX12_addressFault_150 rfl (lv_at hl 0 rfl) ?_
                  refine k_get (v := .int (t.1 0 16)) C hP 0 rfl rfl inlX12 16 (by decide) m_57_3 rfl dX12_addressFault_151 ?_
                  refine lv_bipush (v := 37) C.1 C.2.1 dX12_addressFault_154 (by decide) ?_
                  refine lv_icmp_eq (tgt := 161) C.1 C.2.1 dX12_addressFault_156 (by decide) (fun c_60 => ?_) (fun c_60 => ?_)
                  · replace c_60 : (t.1 0 16).toInt = 37 := i_eq c_60
                    refine lv_aload_n C.1 C.2.1 dX12_addressFault_161 rfl (lv_at hl 0 rfl) ?_
                    refine lv_aload_n C.1 C.2.1 dX12_addressFault_162 rfl (lv_at hl 0 rfl) ?_
                    refine k_get (v := .int (t.1 0 18)) C hP 0 rfl rfl inlX12 18 (by decide) m_57_5 rfl dX12_addressFault_163 ?_
                    refine lv_aload_n C.1 C.2.1 dX12_addressFault_166 rfl (lv_at hl 0 rfl) ?_
                    refine k_get (v := .int (t.1 0 17)) C hP 0 rfl rfl inlX12 17 (by decide) m_57_4 rfl dX12_addressFault_167 ?_
                    refine lv_bipush (v := 20) C.1 C.2.1 dX12_addressFault_170 (by decide) ?_
                    refine lv_icmp_ge (tgt := 185) C.1 C.2.1 dX12_addressFault_172 (by decide) (fun c_61 => ?_) (fun c_61 => ?_)
                    · replace c_61 : 20 ≤ (t.1 0 17).toInt := i_le c_61
                      refine lv_iconst (v := 1) C.1 C.2.1 dX12_addressFault_185 (by decide) ?_
                      have h_62 : (1 : Int32).toInt = 1 := rfl
                      refine g_Vi (As := [.int (t.1 0 18), .int 1]) (rest := []) C hP hD hS hA (T_X12_areHere l D K Z Y ad t hok ((t.1 0 18)) 1 (show (0 : Int) ≤ (1 : Int32).toInt ∧ (1 : Int32).toInt ≤ 100 from ⟨by decide, by decide⟩)) hE hZ (uwV m_58_5 m_58_6 m_58_7 m_1_5 m_58_8) (hdV 2 (by decide +kernel) rfl) ⟨Nat.le_of_ble_eq_true rfl, Nat.le_of_ble_eq_true rfl⟩ rfl rfl (ci := 11) (q0 := 0) rfl rfl rfl hl.1 (Nat.le_of_ble_eq_true rfl) dX12_addressFault_186 ⟨Nat.le_of_ble_eq_true rfl, Nat.le_of_ble_eq_true rfl⟩ (fun r_64 t_63 H locs hw hP hD hS => ?_)
                      obtain ⟨h_66, h_67, p_68⟩ := hw
                      replace p_68 : r_64.toInt = 1 → (1 : Int32).toInt < 1 ∨ (-3999 ≤ (t.1 0 18).toInt ∧ (t.1 0 18).toInt + (1 : Int32).toInt ≤ 4000) := p_68
                      refine lv_if_eq (tgt := 196) C.1 C.2.1 dX12_addressFault_189 (by decide) (fun c_69 => ?_) (fun c_69 => ?_)
                      · replace c_69 : r_64.toInt = 0 := i_eq c_69
                        refine lv_iconst (v := 2) C.1 C.2.1 dX12_addressFault_196 (by decide) ?_
                        exact g_iret C hr hlocks hP hD hS rfl () rfl ⟨by decide, by decide, (show 2 = 0 → gdA (t.1 0 16) (t.1 0 17) (t.1 0 18) (t.2.2.1 3) from by intro h0; refine ⟨fun _ => ?_, fun _ => ?_, fun _ => ?_, fun _ _ => ?_⟩ <;> omega)⟩ (Nat.le_of_ble_eq_true rfl) (Nat.le_of_ble_eq_true rfl) dX12_addressFault_197
                      · replace c_69 : ¬ r_64.toInt = 0 := i_ne c_69
                        refine lv_iconst (v := 0) C.1 C.2.1 dX12_addressFault_192 (by decide) ?_
                        refine lv_goto (tgt := 197) C.1 C.2.1 dX12_addressFault_193 (by decide) ?_
                        exact g_iret C hr hlocks hP hD hS rfl () rfl ⟨by decide, by decide, (show 0 = 0 → gdA (t.1 0 16) (t.1 0 17) (t.1 0 18) (t.2.2.1 3) from by intro h0; refine ⟨fun _ => ?_, fun _ => ?_, fun _ => ?_, fun _ _ => ?_⟩ <;> omega)⟩ (Nat.le_of_ble_eq_true rfl) (Nat.le_of_ble_eq_true rfl) dX12_addressFault_197
                    · replace c_61 : (t.1 0 17).toInt < 20 := i_nle c_61
                      refine lv_aload_n C.1 C.2.1 dX12_addressFault_175 rfl (lv_at hl 0 rfl) ?_
                      refine k_get (v := .int (t.1 0 17)) C hP 0 rfl rfl inlX12 17 (by decide) m_57_4 rfl dX12_addressFault_176 ?_
                      refine g_Si (As := [.int (t.1 0 17)]) (rest := [.int (t.1 0 18), .ref (ad 0)]) C hP hD hS hA (T_X12_sizeOf l D K Z Y ad t hok ((t.1 0 17)) (show (-1 : Int) ≤ ((t.1 0 17) : Int32).toInt ∧ ((t.1 0 17) : Int32).toInt ≤ 19 from ⟨by omega, by omega⟩)) hE hZ (uwS m_56_19 m_56_20 m_1_5 m_56_21) (hdS 1 (by decide +kernel) rfl) ⟨Nat.le_of_ble_eq_true rfl, Nat.le_of_ble_eq_true rfl⟩ rfl rfl rfl hl.1 (Nat.le_of_ble_eq_true rfl) dX12_addressFault_179 ⟨Nat.le_of_ble_eq_true rfl, Nat.le_of_ble_eq_true rfl⟩ (fun r_71 t_70 H locs hw hP hD hS => ?_)
                      obtain ⟨h_73, h_74, p_75, p_76, p_77, p_78⟩ := hw
                      replace p_75 : (t.1 0 17).toInt < 16 → r_71.toInt = 100 := p_75
                      replace p_76 : (t.1 0 17).toInt = 16 ∨ (t.1 0 17).toInt = 17 → r_71.toInt = 16 := p_76
                      replace p_77 : (t.1 0 17).toInt = 18 → r_71.toInt = 24 := p_77
                      replace p_78 : (t.1 0 17).toInt = 19 → r_71.toInt = 14 := p_78
                      refine lv_goto (tgt := 186) C.1 C.2.1 dX12_addressFault_182 (by decide) ?_
                      refine g_Vi (As := [.int (t.1 0 18), .int r_71]) (rest := []) C hP hD hS hA (T_X12_areHere l D K Z Y ad t hok ((t.1 0 18)) (r_71) (show (0 : Int) ≤ (r_71 : Int32).toInt ∧ (r_71 : Int32).toInt ≤ 100 from ⟨by omega, by omega⟩)) hE hZ (uwV m_58_5 m_58_6 m_58_7 m_1_5 m_58_8) (hdV 2 (by decide +kernel) rfl) ⟨Nat.le_of_ble_eq_true rfl, Nat.le_of_ble_eq_true rfl⟩ rfl rfl (ci := 11) (q0 := 0) rfl rfl rfl hl.1 (Nat.le_of_ble_eq_true rfl) dX12_addressFault_186 ⟨Nat.le_of_ble_eq_true rfl, Nat.le_of_ble_eq_true rfl⟩ (fun r_80 t_79 H locs hw hP hD hS => ?_)
                      obtain ⟨h_82, h_83, p_84⟩ := hw
                      replace p_84 : r_80.toInt = 1 → r_71.toInt < 1 ∨ (-3999 ≤ (t.1 0 18).toInt ∧ (t.1 0 18).toInt + r_71.toInt ≤ 4000) := p_84
                      refine lv_if_eq (tgt := 196) C.1 C.2.1 dX12_addressFault_189 (by decide) (fun c_85 => ?_) (fun c_85 => ?_)
                      · replace c_85 : r_80.toInt = 0 := i_eq c_85
                        refine lv_iconst (v := 2) C.1 C.2.1 dX12_addressFault_196 (by decide) ?_
                        exact g_iret C hr hlocks hP hD hS rfl () rfl ⟨by decide, by decide, (show 2 = 0 → gdA (t.1 0 16) (t.1 0 17) (t.1 0 18) (t.2.2.1 3) from by intro h0; refine ⟨fun _ => ?_, fun _ => ?_, fun _ => ?_, fun _ _ => ?_⟩ <;> omega)⟩ (Nat.le_of_ble_eq_true rfl) (Nat.le_of_ble_eq_true rfl) dX12_addressFault_197
                      · replace c_85 : ¬ r_80.toInt = 0 := i_ne c_85
                        refine lv_iconst (v := 0) C.1 C.2.1 dX12_addressFault_192 (by decide) ?_
                        refine lv_goto (tgt := 197) C.1 C.2.1 dX12_addressFault_193 (by decide) ?_
                        exact g_iret C hr hlocks hP hD hS rfl () rfl ⟨by decide, by decide, (show 0 = 0 → gdA (t.1 0 16) (t.1 0 17) (t.1 0 18) (t.2.2.1 3) from by intro h0; refine ⟨fun _ => ?_, fun _ => ?_, fun _ => ?_, fun _ _ => ?_⟩ <;> omega)⟩ (Nat.le_of_ble_eq_true rfl) (Nat.le_of_ble_eq_true rfl) dX12_addressFault_197
                  · replace c_60 : ¬ (t.1 0 16).toInt = 37 := i_ne c_60
                    refine lv_iconst (v := 0) C.1 C.2.1 dX12_addressFault_159 (by decide) ?_
                    exact g_iret C hr hlocks hP hD hS rfl () rfl ⟨by decide, by decide, (show 0 = 0 → gdA (t.1 0 16) (t.1 0 17) (t.1 0 18) (t.2.2.1 3) from by intro h0; refine ⟨fun _ => ?_, fun _ => ?_, fun _ => ?_, fun _ _ => ?_⟩ <;> omega)⟩ (Nat.le_of_ble_eq_true rfl) (Nat.le_of_ble_eq_true rfl) dX12_addressFault_160
              · replace c_33 : 55 < (t.1 0 16).toInt := i_nle c_33
                refine lv_iconst (v := 1) C.1 C.2.1 dX12_addressFault_114 (by decide) ?_
                refine lv_goto (tgt := 119) C.1 C.2.1 dX12_addressFault_115 (by decide) ?_
                refine lv_istore_n (lv' := [(1, .int 1), (0, .ref (ad 0))]) C.1 C.2.1 dX12_addressFault_119 rfl hl (by decide) rfl (fun ls hl => ?_)
                have hl : lv_has ls 2 [(0, .ref (ad 0)), (1, .int 1)] := lv_sub hl [1, 0] rfl
                refine lv_iload_n C.1 C.2.1 dX12_addressFault_120 rfl (lv_at hl 1 rfl) ?_
                refine lv_if_eq (tgt := 141) C.1 C.2.1 dX12_addressFault_121 (by decide) (fun h => absurd h (by decide)) (fun _ => ?_)
                refine lv_aload_n C.1 C.2.1 dX12_addressFault_124 rfl (lv_at hl 0 rfl) ?_
                refine lv_aload_n C.1 C.2.1 dX12_addressFault_125 rfl (lv_at hl 0 rfl) ?_
                refine k_get (v := .int (t.1 0 18)) C hP 0 rfl rfl inlX12 18 (by decide) m_57_5 rfl dX12_addressFault_126 ?_
                refine g_Vi (As := [.int (t.1 0 18)]) (rest := []) C hP hD hS hA (T_X12_isHere l D K Z Y ad t hok ((t.1 0 18))) hE hZ (uwV m_57_7 m_57_8 m_57_9 m_1_5 m_57_10) (hdV 1 (by decide +kernel) rfl) ⟨Nat.le_of_ble_eq_true rfl, Nat.le_of_ble_eq_true rfl⟩ rfl rfl (ci := 11) (q0 := 0) rfl rfl rfl hl.1 (Nat.le_of_ble_eq_true rfl) dX12_addressFault_129 ⟨Nat.le_of_ble_eq_true rfl, Nat.le_of_ble_eq_true rfl⟩ (fun r_87 t_86 H locs hw hP hD hS => ?_)
                obtain ⟨h_89, h_90, p_91, p_92⟩ := hw
                replace p_91 : r_87.toInt = 1 → -3999 ≤ (t.1 0 18).toInt ∧ (t.1 0 18).toInt ≤ 3999 := p_91
                replace p_92 : r_87.toInt = 1 → (t.1 0 10).toInt = 0 → 0 ≤ (t.1 0 18).toInt := p_92
                refine lv_if_eq (tgt := 139) C.1 C.2.1 dX12_addressFault_132 (by decide) (fun c_93 => ?_) (fun c_93 => ?_)
                · replace c_93 : r_87.toInt = 0 := i_eq c_93
                  refine lv_iconst (v := 2) C.1 C.2.1 dX12_addressFault_139 (by decide) ?_
                  exact g_iret C hr hlocks hP hD hS rfl () rfl ⟨by decide, by decide, (show 2 = 0 → gdA (t.1 0 16) (t.1 0 17) (t.1 0 18) (t.2.2.1 3) from by intro h0; refine ⟨fun _ => ?_, fun _ => ?_, fun _ => ?_, fun _ _ => ?_⟩ <;> omega)⟩ (Nat.le_of_ble_eq_true rfl) (Nat.le_of_ble_eq_true rfl) dX12_addressFault_140
                · replace c_93 : ¬ r_87.toInt = 0 := i_ne c_93
                  refine lv_iconst (v := 0) C.1 C.2.1 dX12_addressFault_135 (by decide) ?_
                  refine lv_goto (tgt := 140) C.1 C.2.1 dX12_addressFault_136 (by decide) ?_
                  exact g_iret C hr hlocks hP hD hS rfl () rfl ⟨by decide, by decide, (show 0 = 0 → gdA (t.1 0 16) (t.1 0 17) (t.1 0 18) (t.2.2.1 3) from by intro h0; refine ⟨fun _ => ?_, fun _ => ?_, fun _ => ?_, fun _ _ => ?_⟩ <;> omega)⟩ (Nat.le_of_ble_eq_true rfl) (Nat.le_of_ble_eq_true rfl) dX12_addressFault_140
    · replace c_5 : (t.1 0 16).toInt = 7 := i_eq c_5
      refine lv_aload_n C.1 C.2.1 dX12_addressFault_31 rfl (lv_at hl 0 rfl) ?_
      refine lv_aload_n C.1 C.2.1 dX12_addressFault_32 rfl (lv_at hl 0 rfl) ?_
      refine k_get (v := .int (t.1 0 18)) C hP 0 rfl rfl inlX12 18 (by decide) m_57_5 rfl dX12_addressFault_33 ?_
      refine lv_aload_n C.1 C.2.1 dX12_addressFault_36 rfl (lv_at hl 0 rfl) ?_
      refine k_get (v := .int (t.1 0 17)) C hP 0 rfl rfl inlX12 17 (by decide) m_57_4 rfl dX12_addressFault_37 ?_
      refine g_Vi (As := [.int (t.1 0 18), .int (t.1 0 17)]) (rest := []) C hP hD hS hA (T_X12_areHere l D K Z Y ad t hok ((t.1 0 18)) ((t.1 0 17)) (show (0 : Int) ≤ ((t.1 0 17) : Int32).toInt ∧ ((t.1 0 17) : Int32).toInt ≤ 100 from ⟨by omega, by omega⟩)) hE hZ (uwV m_58_5 m_58_6 m_58_7 m_1_5 m_58_8) (hdV 2 (by decide +kernel) rfl) ⟨Nat.le_of_ble_eq_true rfl, Nat.le_of_ble_eq_true rfl⟩ rfl rfl (ci := 11) (q0 := 0) rfl rfl rfl hl.1 (Nat.le_of_ble_eq_true rfl) dX12_addressFault_40 ⟨Nat.le_of_ble_eq_true rfl, Nat.le_of_ble_eq_true rfl⟩ (fun r_95 t_94 H locs hw hP hD hS => ?_)
      obtain ⟨h_97, h_98, p_99⟩ := hw
      replace p_99 : r_95.toInt = 1 → (t.1 0 17).toInt < 1 ∨ (-3999 ≤ (t.1 0 18).toInt ∧ (t.1 0 18).toInt + (t.1 0 17).toInt ≤ 4000) := p_99
      refine lv_if_eq (tgt := 70) C.1 C.2.1 dX12_addressFault_43 (by decide) (fun c_100 => ?_) (fun c_100 => ?_)
      · replace c_100 : r_95.toInt = 0 := i_eq c_100
        refine lv_iconst (v := 2) C.1 C.2.1 dX12_addressFault_70 (by decide) ?_
        exact g_iret C hr hlocks hP hD hS rfl () rfl ⟨by decide, by decide, (show 2 = 0 → gdA (t.1 0 16) (t.1 0 17) (t.1 0 18) (t.2.2.1 3) from by intro h0; refine ⟨fun _ => ?_, fun _ => ?_, fun _ => ?_, fun _ _ => ?_⟩ <;> omega)⟩ (Nat.le_of_ble_eq_true rfl) (Nat.le_of_ble_eq_true rfl) dX12_addressFault_71
      · replace c_100 : ¬ r_95.toInt = 0 := i_ne c_100
        refine lv_aload_n C.1 C.2.1 dX12_addressFault_46 rfl (lv_at hl 0 rfl) ?_
        refine lv_aload_n C.1 C.2.1 dX12_addressFault_47 rfl (lv_at hl 0 rfl) ?_
        refine k_get (v := .ref (ad 3)) C hP 0 rfl rfl inlX12 4 (by decide) m_7_6 rfl dX12_addressFault_48 ?_
        refine lv_iconst (v := 1) C.1 C.2.1 dX12_addressFault_51 (by decide) ?_
        refine k_ild (v := (t.2.2.1 3 (1 : Int32).toNatClampNeg)) C hP 3 rfl (vin (by decide)) rfl dX12_addressFault_52 ?_
        refine g_Si (As := [.int (t.2.2.1 3 (1 : Int32).toNatClampNeg)]) (rest := [.ref (ad 0)]) C hP hD hS hA (T_X12_value l D K Z Y ad t hok ((t.2.2.1 3 (1 : Int32).toNatClampNeg))) hE hZ (uwS m_36_9 m_36_10 m_1_5 m_36_11) (hdS 1 (by decide +kernel) rfl) ⟨Nat.le_of_ble_eq_true rfl, Nat.le_of_ble_eq_true rfl⟩ rfl rfl rfl hl.1 (Nat.le_of_ble_eq_true rfl) dX12_addressFault_53 ⟨Nat.le_of_ble_eq_true rfl, Nat.le_of_ble_eq_true rfl⟩ (fun r_102 t_101 H locs hw hP hD hS => ?_)
        obtain ⟨h_104, h_105, p_106⟩ := hw
        replace p_106 : r_102.toInt = (vO (t.2.2.1 3 (1 : Int32).toNatClampNeg)).toInt := p_106
        refine lv_aload_n C.1 C.2.1 dX12_addressFault_56 rfl (lv_at hl 0 rfl) ?_
        refine k_get (v := .int (t.1 0 17)) C hP 0 rfl rfl inlX12 17 (by decide) m_57_4 rfl dX12_addressFault_57 ?_
        refine g_Vi (As := [.int r_102, .int (t.1 0 17)]) (rest := []) C hP hD hS hA (T_X12_areHere l D K Z Y ad t hok (r_102) ((t.1 0 17)) (show (0 : Int) ≤ ((t.1 0 17) : Int32).toInt ∧ ((t.1 0 17) : Int32).toInt ≤ 100 from ⟨by omega, by omega⟩)) hE hZ (uwV m_58_5 m_58_6 m_58_7 m_1_5 m_58_8) (hdV 2 (by decide +kernel) rfl) ⟨Nat.le_of_ble_eq_true rfl, Nat.le_of_ble_eq_true rfl⟩ rfl rfl (ci := 11) (q0 := 0) rfl rfl rfl hl.1 (Nat.le_of_ble_eq_true rfl) dX12_addressFault_60 ⟨Nat.le_of_ble_eq_true rfl, Nat.le_of_ble_eq_true rfl⟩ (fun r_108 t_107 H locs hw hP hD hS => ?_)
        obtain ⟨h_110, h_111, p_112⟩ := hw
        replace p_112 : r_108.toInt = 1 → (t.1 0 17).toInt < 1 ∨ (-3999 ≤ r_102.toInt ∧ r_102.toInt + (t.1 0 17).toInt ≤ 4000) := p_112
        refine lv_if_eq (tgt := 70) C.1 C.2.1 dX12_addressFault_63 (by decide) (fun c_113 => ?_) (fun c_113 => ?_)
        · replace c_113 : r_108.toInt = 0 := i_eq c_113
          refine lv_iconst (v := 2) C.1 C.2.1 dX12_addressFault_70 (by decide) ?_
          exact g_iret C hr hlocks hP hD hS rfl () rfl ⟨by decide, by decide, (show 2 = 0 → gdA (t.1 0 16) (t.1 0 17) (t.1 0 18) (t.2.2.1 3) from by intro h0; refine ⟨fun _ => ?_, fun _ => ?_, fun _ => ?_, fun _ _ => ?_⟩ <;> omega)⟩ (Nat.le_of_ble_eq_true rfl) (Nat.le_of_ble_eq_true rfl) dX12_addressFault_71
        · replace c_113 : ¬ r_108.toInt = 0 := i_ne c_113
          refine lv_iconst (v := 0) C.1 C.2.1 dX12_addressFault_66 (by decide) ?_
          refine lv_goto (tgt := 71) C.1 C.2.1 dX12_addressFault_67 (by decide) ?_
          exact g_iret C hr hlocks hP hD hS rfl () rfl ⟨by decide, by decide, (show 0 = 0 → gdA (t.1 0 16) (t.1 0 17) (t.1 0 18) (t.2.2.1 3) from by intro h0; refine ⟨fun _ => ?_, fun _ => ?_, fun _ => ?_, fun _ _ => ?_⟩ <;> omega)⟩ (Nat.le_of_ble_eq_true rfl) (Nat.le_of_ble_eq_true rfl) dX12_addressFault_71
  · replace c_4 : (t.1 0 16).toInt = 6 := i_eq c_4
    refine lv_aload_n C.1 C.2.1 dX12_addressFault_9 rfl (lv_at hl 0 rfl) ?_
    refine k_get (v := .int (t.1 0 18)) C hP 0 rfl rfl inlX12 18 (by decide) m_57_5 rfl dX12_addressFault_10 ?_
    refine lv_if_ge (tgt := 20) C.1 C.2.1 dX12_addressFault_13 (by decide) (fun c_114 => ?_) (fun c_114 => ?_)
    · replace c_114 : 0 ≤ (t.1 0 18).toInt := i_le c_114
      refine lv_iconst (v := 0) C.1 C.2.1 dX12_addressFault_20 (by decide) ?_
      exact g_iret C hr hlocks hP hD hS rfl () rfl ⟨by decide, by decide, (show 0 = 0 → gdA (t.1 0 16) (t.1 0 17) (t.1 0 18) (t.2.2.1 3) from by intro h0; refine ⟨fun _ => ?_, fun _ => ?_, fun _ => ?_, fun _ _ => ?_⟩ <;> omega)⟩ (Nat.le_of_ble_eq_true rfl) (Nat.le_of_ble_eq_true rfl) dX12_addressFault_21
    · replace c_114 : (t.1 0 18).toInt < 0 := i_nle c_114
      refine lv_iconst (v := 2) C.1 C.2.1 dX12_addressFault_16 (by decide) ?_
      refine lv_goto (tgt := 21) C.1 C.2.1 dX12_addressFault_17 (by decide) ?_
      exact g_iret C hr hlocks hP hD hS rfl () rfl ⟨by decide, by decide, (show 2 = 0 → gdA (t.1 0 16) (t.1 0 17) (t.1 0 18) (t.2.2.1 3) from by intro h0; refine ⟨fun _ => ?_, fun _ => ?_, fun _ => ?_, fun _ _ => ?_⟩ <;> omega)⟩ (Nat.le_of_ble_eq_true rfl) (Nat.le_of_ble_eq_true rfl) dX12_addressFault_21

theorem dX12_keyOf_0 : decode cX12_keyOf 0 = .ok (.lconst 0, 1) := by decide +kernel
theorem dX12_keyOf_1 : decode cX12_keyOf 1 = .ok (.lstore_n 3, 1) := by decide +kernel
theorem dX12_keyOf_12 : decode cX12_keyOf 12 = .ok (.ldc2_w 458, 3) := by decide +kernel
theorem dX12_keyOf_15 : decode cX12_keyOf 15 = .ok (.lload_n 3, 1) := by decide +kernel
theorem dX12_keyOf_16 : decode cX12_keyOf 16 = .ok (.lmul, 1) := by decide +kernel
theorem dX12_keyOf_17 : decode cX12_keyOf 17 = .ok (.iload_n 1, 1) := by decide +kernel
theorem dX12_keyOf_18 : decode cX12_keyOf 18 = .ok (.iload 5, 2) := by decide +kernel
theorem dX12_keyOf_2 : decode cX12_keyOf 2 = .ok (.iconst 0, 1) := by decide +kernel
theorem dX12_keyOf_20 : decode cX12_keyOf 20 = .ok (.iadd, 1) := by decide +kernel
theorem dX12_keyOf_21 : decode cX12_keyOf 21 = .ok (.iload_n 2, 1) := by decide +kernel
theorem dX12_keyOf_22 : decode cX12_keyOf 22 = .ok (.if_icmp .ge 17, 3) := by decide +kernel
theorem dX12_keyOf_25 : decode cX12_keyOf 25 = .ok (.aload_n 0, 1) := by decide +kernel
theorem dX12_keyOf_26 : decode cX12_keyOf 26 = .ok (.iload_n 1, 1) := by decide +kernel
theorem dX12_keyOf_27 : decode cX12_keyOf 27 = .ok (.iload 5, 2) := by decide +kernel
theorem dX12_keyOf_29 : decode cX12_keyOf 29 = .ok (.iadd, 1) := by decide +kernel
theorem dX12_keyOf_3 : decode cX12_keyOf 3 = .ok (.istore 5, 2) := by decide +kernel
theorem dX12_keyOf_30 : decode cX12_keyOf 30 = .ok (.invokevirtual 446, 3) := by decide +kernel
theorem dX12_keyOf_33 : decode cX12_keyOf 33 = .ok (.invokestatic 460, 3) := by decide +kernel
theorem dX12_keyOf_36 : decode cX12_keyOf 36 = .ok (.goto 4, 3) := by decide +kernel
theorem dX12_keyOf_39 : decode cX12_keyOf 39 = .ok (.iconst 0, 1) := by decide +kernel
theorem dX12_keyOf_40 : decode cX12_keyOf 40 = .ok (.i2l, 1) := by decide +kernel
theorem dX12_keyOf_41 : decode cX12_keyOf 41 = .ok (.ladd, 1) := by decide +kernel
theorem dX12_keyOf_42 : decode cX12_keyOf 42 = .ok (.lstore_n 3, 1) := by decide +kernel
theorem dX12_keyOf_43 : decode cX12_keyOf 43 = .ok (.iinc 5 1, 3) := by decide +kernel
theorem dX12_keyOf_46 : decode cX12_keyOf 46 = .ok (.goto (-41), 3) := by decide +kernel
theorem dX12_keyOf_49 : decode cX12_keyOf 49 = .ok (.lload_n 3, 1) := by decide +kernel
theorem dX12_keyOf_5 : decode cX12_keyOf 5 = .ok (.iload 5, 2) := by decide +kernel
theorem dX12_keyOf_50 : decode cX12_keyOf 50 = .ok (.lreturn, 1) := by decide +kernel
theorem dX12_keyOf_7 : decode cX12_keyOf 7 = .ok (.bipush 10, 2) := by decide +kernel
theorem dX12_keyOf_9 : decode cX12_keyOf 9 = .ok (.if_icmp .ge 40, 3) := by decide +kernel
set_option maxHeartbeats 4000000 in
set_option maxRecDepth 100000 in
theorem T_X12_keyOf (l : Launch) (D : va_G) (K : Nat → ClassId) (Z Y : Nat → Nat) (ad : Nat → Nat) (t : tSt) (hok : okM t) (x1 : Int32) (hx1 : (1 : Int) ≤ x1.toInt ∧ x1.toInt ≤ 81) (x2 : Int32) (hx2 : (0 : Int) ≤ x2.toInt ∧ x2.toInt ≤ 81) : tMet l yX12_keyOf cX12_keyOf 6 (some .long) (rmD 8 0 0) D K Z Y [.ref (ad 0), .int x1, .int x2] (WM K ad t) (QL D K (fun (r : Int64) (u : Unit) => True) (fun (_ : Unit) => WM K ad t)) 0 0 := by
  refine t_met RX12 ⟨rfl, by decide +kernel⟩ (Nat.le_of_ble_eq_true rfl) ?_
  intro p e s m below meth c A ls C hE hZ hr hlocks hA hP hD hS hl
  have hl : lv_has ls 6 [(0, .ref (ad 0)), (1, .int x1), (2, .int x2)] := hl
  have h_1 : (0 : Int) ≤ (t.1 0 67).toInt ∧ (t.1 0 67).toInt ≤ 1281 := hok.1 0 67
  have L_5 : ∀ (fuel_5 : Nat) (w5_3 : Int64) (w5_5 : Int32) (H : Heap) (locs : List Loc) (ls : Array Slot), (0 : Int) ≤ w5_5.toInt ∧ w5_5.toInt ≤ 10 → (w5_5.toInt ≤ 10) → (10 : Int) - w5_5.toInt < (fuel_5 : Int) → va_P D vwCl (WM K ad t) H → va_D A (WM K ad t) → va_S A s.heap H locs → lv_has ls 6 [(0, .ref (ad 0)), (1, .int x1), (2, .int x2), (3, .long w5_3), (5, .int w5_5)] → W p l e (rmD 8 0 0) s m [.ref (ad 0), .int x1, .int x2].toArray below meth c H locs 0 0 (MQ below (QL D K (fun (r : Int64) (u : Unit) => True) (fun (_ : Unit) => WM K ad t) A) [.ref (ad 0), .int x1, .int x2].toArray s 0 0 A) (F0 m 5 ls []) := by
    intro fuel_5
    induction fuel_5 with
    | zero =>
      intro w5_3 w5_5 H locs ls hw5_5 hi5_0 hm5_5 hP hD hS hl
      have h_2 : (0 : Int) ≤ (t.1 0 67).toInt ∧ (t.1 0 67).toInt ≤ 1281 := hok.1 0 67
      exact absurd hm5_5 (by omega)
    | succ fuel_5 ih_5 =>
      intro w5_3 w5_5 H locs ls hw5_5 hi5_0 hm5_5 hP hD hS hl
      have hm5_5 : (10 : Int) - w5_5.toInt < (fuel_5 : Int) + 1 := by omega
      have h_3 : (0 : Int) ≤ (t.1 0 67).toInt ∧ (t.1 0 67).toInt ≤ 1281 := hok.1 0 67
      have L_40 : ∀ (w40_3 : Int64) (w40_5 : Int32) (k40_0 : Int64) (k40_1 : Int32) (H : Heap) (locs : List Loc) (ls : Array Slot), (0 : Int) ≤ w40_5.toInt ∧ w40_5.toInt ≤ 9 → (-54 : Int) ≤ k40_1.toInt ∧ k40_1.toInt ≤ 208 → (w40_5.toInt ≤ 9) → (10 : Int) - w40_5.toInt < (fuel_5 : Int) + 1 → va_P D vwCl (WM K ad t) H → va_D A (WM K ad t) → va_S A s.heap H locs → lv_has ls 6 [(0, .ref (ad 0)), (1, .int x1), (2, .int x2), (3, .long w40_3), (5, .int w40_5)] → W p l e (rmD 8 0 0) s m [.ref (ad 0), .int x1, .int x2].toArray below meth c H locs 0 0 (MQ below (QL D K (fun (r : Int64) (u : Unit) => True) (fun (_ : Unit) => WM K ad t) A) [.ref (ad 0), .int x1, .int x2].toArray s 0 0 A) (F0 m 40 ls [.int k40_1, .long k40_0]) := by
        intro w40_3 w40_5 k40_0 k40_1 H locs ls hw40_5 hk40_1 hi40_0 hm40_5 hP hD hS hl
        have h_4 : (0 : Int) ≤ (t.1 0 67).toInt ∧ (t.1 0 67).toInt ≤ 1281 := hok.1 0 67
        obtain ⟨v_5, e_6⟩ : ∃ z, z = (k40_1 : Int32).toInt64 := ⟨_, rfl⟩
        have h_7 : v_5.toInt = k40_1.toInt := by rw [e_6]; exact Jvm.Kit.i64_of_i32 _
        refine lv_i2l (v := v_5) C.1 C.2.1 dX12_keyOf_40 e_6.symm ?_
        obtain ⟨v_8, e_9⟩ : ∃ z, z = (k40_0 : Int64) + (v_5 : Int64) := ⟨_, rfl⟩
        refine k_ladd (v := v_8) C e_9.symm dX12_keyOf_41 ?_
        refine lv_lstore_n (lv' := [(3, .long v_8), (0, .ref (ad 0)), (1, .int x1), (2, .int x2), (5, .int w40_5)]) C.1 C.2.1 dX12_keyOf_42 rfl hl (by decide) rfl (fun ls hl => ?_)
        have hl : lv_has ls 6 [(0, .ref (ad 0)), (1, .int x1), (2, .int x2), (3, .long v_8), (5, .int w40_5)] := lv_sub hl [1, 2, 3, 0, 4] rfl
        obtain ⟨v_10, e_11⟩ : ∃ z, z = w40_5 + 1 := ⟨_, rfl⟩
        have h_12 : v_10.toInt = w40_5.toInt + 1 := by rw [e_11]; exact ti_iadd (by show (_ : Int) ≤ w40_5.toInt + 1; omega) (by show w40_5.toInt + 1 < (_ : Int); omega)
        refine lv_iinc (v := v_10) (lv' := [(5, .int v_10), (0, .ref (ad 0)), (1, .int x1), (2, .int x2), (3, .long v_8)]) C.1 C.2.1 dX12_keyOf_43 hl (k := 4) rfl e_11.symm (by decide) rfl (fun ls hl => ?_)
        have hl : lv_has ls 6 [(0, .ref (ad 0)), (1, .int x1), (2, .int x2), (3, .long v_8), (5, .int v_10)] := lv_sub hl [1, 2, 3, 4, 0] rfl
        refine lv_goto (tgt := 5) C.1 C.2.1 dX12_keyOf_46 (by decide) ?_
        exact ih_5 v_8 v_10 _ _ _ ⟨by omega, by omega⟩ (show v_10.toInt ≤ 10 from by omega) (show (10 : Int) - v_10.toInt < (fuel_5 : Int) from by omega) hP hD hS (lv_sub hl [0, 1, 2, 3, 4] rfl)
      refine lv_iload C.1 C.2.1 dX12_keyOf_5 (lv_at hl 4 rfl) ?_
      refine lv_bipush (v := 10) C.1 C.2.1 dX12_keyOf_7 (by decide) ?_
      refine lv_icmp_ge (tgt := 49) C.1 C.2.1 dX12_keyOf_9 (by decide) (fun c_13 => ?_) (fun c_13 => ?_)
      · replace c_13 : 10 ≤ w5_5.toInt := i_le c_13
        refine lv_lload_n C.1 C.2.1 dX12_keyOf_49 rfl (lv_at hl 3 rfl) ?_
        exact g_lret C hr hlocks hP hD hS () rfl trivial (Nat.le_of_ble_eq_true rfl) (Nat.le_of_ble_eq_true rfl) dX12_keyOf_50
      · replace c_13 : w5_5.toInt < 10 := i_nle c_13
        refine lv_ldc2 (v := 37) C.1 C.2.1 C.2.2.2.1 (C.2.2.2.2.1 _ m_33_18) dX12_keyOf_12 ?_
        refine lv_lload_n C.1 C.2.1 dX12_keyOf_15 rfl (lv_at hl 3 rfl) ?_
        obtain ⟨v_14, e_15⟩ : ∃ z, z = (37 : Int64) * (w5_3 : Int64) := ⟨_, rfl⟩
        refine k_lmul (v := v_14) C e_15.symm dX12_keyOf_16 ?_
        refine lv_iload_n C.1 C.2.1 dX12_keyOf_17 rfl (lv_at hl 1 rfl) ?_
        refine lv_iload C.1 C.2.1 dX12_keyOf_18 (lv_at hl 4 rfl) ?_
        obtain ⟨v_16, e_17⟩ : ∃ z, z = (x1 : Int32) + (w5_5 : Int32) := ⟨_, rfl⟩
        have h_18 : v_16.toInt = x1.toInt + w5_5.toInt := by rw [e_17]; exact ti_iadd (by show (_ : Int) ≤ x1.toInt + w5_5.toInt; omega) (by show x1.toInt + w5_5.toInt < (_ : Int); omega)
        refine k_iadd (v := v_16) C e_17.symm dX12_keyOf_20 ?_
        refine lv_iload_n C.1 C.2.1 dX12_keyOf_21 rfl (lv_at hl 2 rfl) ?_
        refine lv_icmp_ge (tgt := 39) C.1 C.2.1 dX12_keyOf_22 (by decide) (fun c_19 => ?_) (fun c_19 => ?_)
        · replace c_19 : x2.toInt ≤ v_16.toInt := i_le c_19
          refine lv_iconst (v := 0) C.1 C.2.1 dX12_keyOf_39 (by decide) ?_
          exact L_40 w5_3 w5_5 v_14 0 _ _ _ ⟨by omega, by omega⟩ ⟨by decide, by decide⟩ (show w5_5.toInt ≤ 9 from by omega) (show (10 : Int) - w5_5.toInt < (fuel_5 : Int) + 1 from by omega) hP hD hS (lv_sub hl [0, 1, 2, 3, 4] rfl)
        · replace c_19 : v_16.toInt < x2.toInt := i_nle c_19
          refine lv_aload_n C.1 C.2.1 dX12_keyOf_25 rfl (lv_at hl 0 rfl) ?_
          refine lv_iload_n C.1 C.2.1 dX12_keyOf_26 rfl (lv_at hl 1 rfl) ?_
          refine lv_iload C.1 C.2.1 dX12_keyOf_27 (lv_at hl 4 rfl) ?_
          obtain ⟨v_20, e_21⟩ : ∃ z, z = (x1 : Int32) + (w5_5 : Int32) := ⟨_, rfl⟩
          have h_22 : v_20.toInt = x1.toInt + w5_5.toInt := by rw [e_21]; exact ti_iadd (by show (_ : Int) ≤ x1.toInt + w5_5.toInt; omega) (by show x1.toInt + w5_5.toInt < (_ : Int); omega)
          refine k_iadd (v := v_20) C e_21.symm dX12_keyOf_29 ?_
          refine g_Vi (As := [.int v_20]) (rest := [.long v_14]) C hP hD hS hA (T_X12_letterAt l D K Z Y ad t hok (v_20) (show (1 : Int) ≤ (v_20 : Int32).toInt ∧ (v_20 : Int32).toInt ≤ 100 from ⟨by omega, by omega⟩)) hE hZ (uwV m_31_8 m_31_9 m_31_10 m_1_5 m_31_11) (hdV 1 (by decide +kernel) rfl) ⟨Nat.le_of_ble_eq_true rfl, Nat.le_of_ble_eq_true rfl⟩ rfl rfl (ci := 11) (q0 := 0) rfl rfl rfl hl.1 (Nat.le_of_ble_eq_true rfl) dX12_keyOf_30 ⟨Nat.le_of_ble_eq_true rfl, Nat.le_of_ble_eq_true rfl⟩ (fun r_24 t_23 H locs hw hP hD hS => ?_)
          obtain ⟨h_26, h_27, p_28, p_29, p_30, p_31⟩ := hw
          replace p_28 : r_24 = fLet t v_20 := p_28
          replace p_29 : r_24.toInt = (fLet t v_20).toInt := p_29
          replace p_30 : ¬ r_24.toInt = 32 → (t.2.2.1 19 ((t.1 0 67) : Int32).toNatClampNeg).toInt + v_20.toInt ≤ (t.2.2.1 20 ((t.1 0 67) : Int32).toNatClampNeg).toInt := p_30
          replace p_31 : 81 ≤ v_20.toInt → r_24.toInt = 32 := p_31
          refine g_Si (As := [.int r_24]) (rest := [.long v_14]) C hP hD hS hA (T_X12_signOf l D K Z Y ad t hok (r_24) (show (0 : Int) ≤ (r_24 : Int32).toInt ∧ (r_24 : Int32).toInt ≤ 255 from ⟨by omega, by omega⟩)) hE hZ (uwS m_33_19 m_33_20 m_1_5 m_33_21) (hdS 1 (by decide +kernel) rfl) ⟨Nat.le_of_ble_eq_true rfl, Nat.le_of_ble_eq_true rfl⟩ rfl rfl rfl hl.1 (Nat.le_of_ble_eq_true rfl) dX12_keyOf_33 ⟨Nat.le_of_ble_eq_true rfl, Nat.le_of_ble_eq_true rfl⟩ (fun r_33 t_32 H locs hw hP hD hS => ?_)
          obtain ⟨h_35, h_36⟩ := hw
          refine lv_goto (tgt := 40) C.1 C.2.1 dX12_keyOf_36 (by decide) ?_
          exact L_40 w5_3 w5_5 v_14 r_33 _ _ _ ⟨by omega, by omega⟩ ⟨by omega, by omega⟩ (show w5_5.toInt ≤ 9 from by omega) (show (10 : Int) - w5_5.toInt < (fuel_5 : Int) + 1 from by omega) hP hD hS (lv_sub hl [0, 1, 2, 3, 4] rfl)
  refine lv_lconst (v := 0) C.1 C.2.1 dX12_keyOf_0 (by decide) ?_
  refine lv_lstore_n (lv' := [(3, .long 0), (0, .ref (ad 0)), (1, .int x1), (2, .int x2)]) C.1 C.2.1 dX12_keyOf_1 rfl hl (by decide) rfl (fun ls hl => ?_)
  have hl : lv_has ls 6 [(0, .ref (ad 0)), (1, .int x1), (2, .int x2), (3, .long 0)] := lv_sub hl [1, 2, 3, 0] rfl
  refine lv_iconst (v := 0) C.1 C.2.1 dX12_keyOf_2 (by decide) ?_
  refine lv_istore (lv' := [(5, .int 0), (0, .ref (ad 0)), (1, .int x1), (2, .int x2), (3, .long 0)]) C.1 C.2.1 dX12_keyOf_3 hl (by decide) rfl (fun ls hl => ?_)
  have hl : lv_has ls 6 [(0, .ref (ad 0)), (1, .int x1), (2, .int x2), (3, .long 0), (5, .int 0)] := lv_sub hl [1, 2, 3, 4, 0] rfl
  exact L_5 11 0 0 _ _ _ ⟨by decide, by decide⟩ (show 0 ≤ 10 from by omega) (show (10 : Int) - 0 < ((11 : Nat) : Int) from by omega) hP hD hS (lv_sub hl [0, 1, 2, 3, 4] rfl)

theorem dX12_stop_0 : decode cX12_stop 0 = .ok (.aload_n 0, 1) := by decide +kernel
theorem dX12_stop_1 : decode cX12_stop 1 = .ok (.ldc2_w 220, 3) := by decide +kernel
theorem dX12_stop_12 : decode cX12_stop 12 = .ok (.return_, 1) := by decide +kernel
theorem dX12_stop_4 : decode cX12_stop 4 = .ok (.invokevirtual 222, 3) := by decide +kernel
theorem dX12_stop_7 : decode cX12_stop 7 = .ok (.aload_n 0, 1) := by decide +kernel
theorem dX12_stop_8 : decode cX12_stop 8 = .ok (.iload_n 1, 1) := by decide +kernel
theorem dX12_stop_9 : decode cX12_stop 9 = .ok (.putfield 24, 3) := by decide +kernel
set_option maxHeartbeats 4000000 in
set_option maxRecDepth 100000 in
theorem T_X12_stop (l : Launch) (D : va_G) (K : Nat → ClassId) (Z Y : Nat → Nat) (ad : Nat → Nat) (t : tSt) (hok : okM t) (x1 : Int32) (hx1 : (1 : Int) ≤ x1.toInt ∧ x1.toInt ≤ 10) : tMet l yX12_stop cX12_stop 2 none (rmD 2 0 0) D K Z Y [.ref (ad 0), .int x1] (WM K ad t) (QV D K (fun (u : tSt) => okM u ∧ frA [(0, 9)] [] [2, 5] [] t u ∧ ((u.1 0 9).toInt = x1.toInt)) (fun (u : tSt) => WM K ad u)) 0 0 := by
  refine t_met RX12 ⟨rfl, by decide +kernel⟩ (Nat.le_of_ble_eq_true rfl) ?_
  intro p e s m below meth c A ls C hE hZ hr hlocks hA hP hD hS hl
  have hl : lv_has ls 2 [(0, .ref (ad 0)), (1, .int x1)] := hl
  have hokt := hok
  have hfr : frA [(0, 9)] [] [2, 5] [] t t := frA_rf
  have h_1 : (0 : Int) ≤ (t.1 0 9).toInt ∧ (t.1 0 9).toInt ≤ 10 := hok.1 0 9
  refine lv_aload_n C.1 C.2.1 dX12_stop_0 rfl (lv_at hl 0 rfl) ?_
  refine lv_ldc2 (v := 9223372036854775807) C.1 C.2.1 C.2.2.2.1 (C.2.2.2.2.1 _ m_59_15) dX12_stop_1 ?_
  refine g_Vv (As := [.long 9223372036854775807]) (rest := []) C hP hD hS hA (T_X12_settle l D K Z Y ad t hok 9223372036854775807) hE hZ (uwV m_56_15 m_56_16 m_56_17 m_1_5 m_56_18) (hdV 1 (by decide +kernel) rfl) ⟨Nat.le_of_ble_eq_true rfl, Nat.le_of_ble_eq_true rfl⟩ rfl rfl (ci := 11) (q0 := 0) rfl rfl rfl hl.1 (Nat.le_of_ble_eq_true rfl) dX12_stop_4 ⟨Nat.le_of_ble_eq_true rfl, Nat.le_of_ble_eq_true rfl⟩ (fun t_2 H locs hw hP hD hS => ?_)
  obtain ⟨hok, f_4⟩ := hw
  have hfr : frA [(0, 9)] [] [2, 5] [] t t_2 := frA_tr hfr f_4 rfl
  have h_5 : (t_2.1 0 9).toInt = (t.1 0 9).toInt := ti_eq (f_4.1 0 9 rfl)
  have h_6 : (0 : Int) ≤ (t_2.1 0 9).toInt ∧ (t_2.1 0 9).toInt ≤ 10 := hok.1 0 9
  refine lv_aload_n C.1 C.2.1 dX12_stop_7 rfl (lv_at hl 0 rfl) ?_
  refine lv_iload_n C.1 C.2.1 dX12_stop_8 rfl (lv_at hl 1 rfl) ?_
  refine k_put (ws' := WM K ad (uI t_2 0 9 x1)) (v := .int x1) C hP hD hS 0 rfl rfl inlX12 tyX12_ok nmX12 9 (by decide) m_7_8 rfl rfl rfl rfl rfl dX12_stop_9 (fun H locs hP hD hS => ?_)
  have hok : okM (uI t_2 0 9 x1) := ⟨okI_I hok.1 0 9 x1 (show (0 : Int) ≤ (x1 : Int32).toInt ∧ (x1 : Int32).toInt ≤ 10 from ⟨by omega, by omega⟩), hok.2.1, hok.2.2.1, hok.2.2.2.1, hok.2.2.2.2.1, hok.2.2.2.2.2.1, hok.2.2.2.2.2.2.1, trivial⟩
  have hfr : frA [(0, 9)] [] [2, 5] [] t (uI t_2 0 9 x1) := frA_I hfr 0 9 _ rfl
  exact g_vret C hr hlocks hP hD hS (uI t_2 0 9 x1) rfl ⟨hok, hfr, (show x1.toInt = x1.toInt from by omega)⟩ (Nat.le_of_ble_eq_true rfl) (Nat.le_of_ble_eq_true rfl) dX12_stop_12

theorem dX12_dump_0 : decode cX12_dump 0 = .ok (.iconst 0, 1) := by decide +kernel
theorem dX12_dump_1 : decode cX12_dump 1 = .ok (.istore_n 1, 1) := by decide +kernel
theorem dX12_dump_100 : decode cX12_dump 100 = .ok (.iload_n 2, 1) := by decide +kernel
theorem dX12_dump_101 : decode cX12_dump 101 = .ok (.ifCond .ne 13, 3) := by decide +kernel
theorem dX12_dump_104 : decode cX12_dump 104 = .ok (.aload_n 0, 1) := by decide +kernel
theorem dX12_dump_105 : decode cX12_dump 105 = .ok (.iload_n 1, 1) := by decide +kernel
theorem dX12_dump_106 : decode cX12_dump 106 = .ok (.iload_n 3, 1) := by decide +kernel
theorem dX12_dump_107 : decode cX12_dump 107 = .ok (.iadd, 1) := by decide +kernel
theorem dX12_dump_108 : decode cX12_dump 108 = .ok (.invokevirtual 260, 3) := by decide +kernel
theorem dX12_dump_111 : decode cX12_dump 111 = .ok (.ifCond .eq 7, 3) := by decide +kernel
theorem dX12_dump_114 : decode cX12_dump 114 = .ok (.iconst 1, 1) := by decide +kernel
theorem dX12_dump_115 : decode cX12_dump 115 = .ok (.goto 4, 3) := by decide +kernel
theorem dX12_dump_118 : decode cX12_dump 118 = .ok (.iconst 0, 1) := by decide +kernel
theorem dX12_dump_119 : decode cX12_dump 119 = .ok (.istore_n 2, 1) := by decide +kernel
theorem dX12_dump_12 : decode cX12_dump 12 = .ok (.iload_n 1, 1) := by decide +kernel
theorem dX12_dump_120 : decode cX12_dump 120 = .ok (.iinc 3 1, 3) := by decide +kernel
theorem dX12_dump_123 : decode cX12_dump 123 = .ok (.goto (-28), 3) := by decide +kernel
theorem dX12_dump_126 : decode cX12_dump 126 = .ok (.iload_n 2, 1) := by decide +kernel
theorem dX12_dump_127 : decode cX12_dump 127 = .ok (.ifCond .ne 6, 3) := by decide +kernel
theorem dX12_dump_13 : decode cX12_dump 13 = .ok (.ifCond .eq 9, 3) := by decide +kernel
theorem dX12_dump_130 : decode cX12_dump 130 = .ok (.goto 60, 3) := by decide +kernel
theorem dX12_dump_133 : decode cX12_dump 133 = .ok (.aload_n 0, 1) := by decide +kernel
theorem dX12_dump_134 : decode cX12_dump 134 = .ok (.invokevirtual 263, 3) := by decide +kernel
theorem dX12_dump_137 : decode cX12_dump 137 = .ok (.aload_n 0, 1) := by decide +kernel
theorem dX12_dump_138 : decode cX12_dump 138 = .ok (.iconst 2, 1) := by decide +kernel
theorem dX12_dump_139 : decode cX12_dump 139 = .ok (.invokevirtual 667, 3) := by decide +kernel
theorem dX12_dump_142 : decode cX12_dump 142 = .ok (.aload_n 0, 1) := by decide +kernel
theorem dX12_dump_143 : decode cX12_dump 143 = .ok (.iload_n 1, 1) := by decide +kernel
theorem dX12_dump_144 : decode cX12_dump 144 = .ok (.i2l, 1) := by decide +kernel
theorem dX12_dump_145 : decode cX12_dump 145 = .ok (.iconst 4, 1) := by decide +kernel
theorem dX12_dump_146 : decode cX12_dump 146 = .ok (.invokevirtual 199, 3) := by decide +kernel
theorem dX12_dump_149 : decode cX12_dump 149 = .ok (.iconst 0, 1) := by decide +kernel
theorem dX12_dump_150 : decode cX12_dump 150 = .ok (.istore_n 3, 1) := by decide +kernel
theorem dX12_dump_151 : decode cX12_dump 151 = .ok (.iload_n 3, 1) := by decide +kernel
theorem dX12_dump_152 : decode cX12_dump 152 = .ok (.iconst 4, 1) := by decide +kernel
theorem dX12_dump_153 : decode cX12_dump 153 = .ok (.if_icmp .ge 31, 3) := by decide +kernel
theorem dX12_dump_156 : decode cX12_dump 156 = .ok (.aload_n 0, 1) := by decide +kernel
theorem dX12_dump_157 : decode cX12_dump 157 = .ok (.bipush 10, 2) := by decide +kernel
theorem dX12_dump_159 : decode cX12_dump 159 = .ok (.bipush 15, 2) := by decide +kernel
theorem dX12_dump_16 : decode cX12_dump 16 = .ok (.iload_n 1, 1) := by decide +kernel
theorem dX12_dump_161 : decode cX12_dump 161 = .ok (.iload_n 3, 1) := by decide +kernel
theorem dX12_dump_162 : decode cX12_dump 162 = .ok (.imul, 1) := by decide +kernel
theorem dX12_dump_163 : decode cX12_dump 163 = .ok (.iadd, 1) := by decide +kernel
theorem dX12_dump_164 : decode cX12_dump 164 = .ok (.invokevirtual 667, 3) := by decide +kernel
theorem dX12_dump_167 : decode cX12_dump 167 = .ok (.aload_n 0, 1) := by decide +kernel
theorem dX12_dump_168 : decode cX12_dump 168 = .ok (.aload_n 0, 1) := by decide +kernel
theorem dX12_dump_169 : decode cX12_dump 169 = .ok (.iload_n 1, 1) := by decide +kernel
theorem dX12_dump_17 : decode cX12_dump 17 = .ok (.bipush 7, 2) := by decide +kernel
theorem dX12_dump_170 : decode cX12_dump 170 = .ok (.iload_n 3, 1) := by decide +kernel
theorem dX12_dump_171 : decode cX12_dump 171 = .ok (.iadd, 1) := by decide +kernel
theorem dX12_dump_172 : decode cX12_dump 172 = .ok (.invokevirtual 260, 3) := by decide +kernel
theorem dX12_dump_175 : decode cX12_dump 175 = .ok (.invokevirtual 697, 3) := by decide +kernel
theorem dX12_dump_178 : decode cX12_dump 178 = .ok (.iinc 3 1, 3) := by decide +kernel
theorem dX12_dump_181 : decode cX12_dump 181 = .ok (.goto (-30), 3) := by decide +kernel
theorem dX12_dump_184 : decode cX12_dump 184 = .ok (.aload_n 0, 1) := by decide +kernel
theorem dX12_dump_185 : decode cX12_dump 185 = .ok (.bipush 18, 2) := by decide +kernel
theorem dX12_dump_187 : decode cX12_dump 187 = .ok (.invokevirtual 269, 3) := by decide +kernel
theorem dX12_dump_19 : decode cX12_dump 19 = .ok (.if_icmp .ne 21, 3) := by decide +kernel
theorem dX12_dump_190 : decode cX12_dump 190 = .ok (.iinc 1 4, 3) := by decide +kernel
theorem dX12_dump_193 : decode cX12_dump 193 = .ok (.goto (-109), 3) := by decide +kernel
theorem dX12_dump_196 : decode cX12_dump 196 = .ok (.return_, 1) := by decide +kernel
theorem dX12_dump_2 : decode cX12_dump 2 = .ok (.iload_n 1, 1) := by decide +kernel
theorem dX12_dump_22 : decode cX12_dump 22 = .ok (.aload_n 0, 1) := by decide +kernel
theorem dX12_dump_23 : decode cX12_dump 23 = .ok (.iload_n 1, 1) := by decide +kernel
theorem dX12_dump_24 : decode cX12_dump 24 = .ok (.ifCond .ne 8, 3) := by decide +kernel
theorem dX12_dump_27 : decode cX12_dump 27 = .ok (.bipush 65, 2) := by decide +kernel
theorem dX12_dump_29 : decode cX12_dump 29 = .ok (.goto 5, 3) := by decide +kernel
theorem dX12_dump_3 : decode cX12_dump 3 = .ok (.bipush 8, 2) := by decide +kernel
theorem dX12_dump_32 : decode cX12_dump 32 = .ok (.bipush 88, 2) := by decide +kernel
theorem dX12_dump_34 : decode cX12_dump 34 = .ok (.invokevirtual 189, 3) := by decide +kernel
theorem dX12_dump_37 : decode cX12_dump 37 = .ok (.goto 17, 3) := by decide +kernel
theorem dX12_dump_40 : decode cX12_dump 40 = .ok (.aload_n 0, 1) := by decide +kernel
theorem dX12_dump_41 : decode cX12_dump 41 = .ok (.bipush 73, 2) := by decide +kernel
theorem dX12_dump_43 : decode cX12_dump 43 = .ok (.invokevirtual 189, 3) := by decide +kernel
theorem dX12_dump_46 : decode cX12_dump 46 = .ok (.aload_n 0, 1) := by decide +kernel
theorem dX12_dump_47 : decode cX12_dump 47 = .ok (.bipush 48, 2) := by decide +kernel
theorem dX12_dump_49 : decode cX12_dump 49 = .ok (.iload_n 1, 1) := by decide +kernel
theorem dX12_dump_5 : decode cX12_dump 5 = .ok (.if_icmp .ge 77, 3) := by decide +kernel
theorem dX12_dump_50 : decode cX12_dump 50 = .ok (.iadd, 1) := by decide +kernel
theorem dX12_dump_51 : decode cX12_dump 51 = .ok (.invokevirtual 189, 3) := by decide +kernel
theorem dX12_dump_54 : decode cX12_dump 54 = .ok (.aload_n 0, 1) := by decide +kernel
theorem dX12_dump_55 : decode cX12_dump 55 = .ok (.bipush 10, 2) := by decide +kernel
theorem dX12_dump_57 : decode cX12_dump 57 = .ok (.invokevirtual 667, 3) := by decide +kernel
theorem dX12_dump_60 : decode cX12_dump 60 = .ok (.aload_n 0, 1) := by decide +kernel
theorem dX12_dump_61 : decode cX12_dump 61 = .ok (.aload_n 0, 1) := by decide +kernel
theorem dX12_dump_62 : decode cX12_dump 62 = .ok (.getfield 17, 3) := by decide +kernel
theorem dX12_dump_65 : decode cX12_dump 65 = .ok (.iload_n 1, 1) := by decide +kernel
theorem dX12_dump_66 : decode cX12_dump 66 = .ok (.iaload, 1) := by decide +kernel
theorem dX12_dump_67 : decode cX12_dump 67 = .ok (.invokevirtual 697, 3) := by decide +kernel
theorem dX12_dump_70 : decode cX12_dump 70 = .ok (.aload_n 0, 1) := by decide +kernel
theorem dX12_dump_71 : decode cX12_dump 71 = .ok (.bipush 18, 2) := by decide +kernel
theorem dX12_dump_73 : decode cX12_dump 73 = .ok (.invokevirtual 269, 3) := by decide +kernel
theorem dX12_dump_76 : decode cX12_dump 76 = .ok (.iinc 1 1, 3) := by decide +kernel
theorem dX12_dump_79 : decode cX12_dump 79 = .ok (.goto (-77), 3) := by decide +kernel
theorem dX12_dump_8 : decode cX12_dump 8 = .ok (.aload_n 0, 1) := by decide +kernel
theorem dX12_dump_82 : decode cX12_dump 82 = .ok (.iconst 0, 1) := by decide +kernel
theorem dX12_dump_83 : decode cX12_dump 83 = .ok (.istore_n 1, 1) := by decide +kernel
theorem dX12_dump_84 : decode cX12_dump 84 = .ok (.iload_n 1, 1) := by decide +kernel
theorem dX12_dump_85 : decode cX12_dump 85 = .ok (.sipush 3999, 3) := by decide +kernel
theorem dX12_dump_88 : decode cX12_dump 88 = .ok (.if_icmp .gt 108, 3) := by decide +kernel
theorem dX12_dump_9 : decode cX12_dump 9 = .ok (.invokevirtual 263, 3) := by decide +kernel
theorem dX12_dump_91 : decode cX12_dump 91 = .ok (.iconst 0, 1) := by decide +kernel
theorem dX12_dump_92 : decode cX12_dump 92 = .ok (.istore_n 2, 1) := by decide +kernel
theorem dX12_dump_93 : decode cX12_dump 93 = .ok (.iconst 0, 1) := by decide +kernel
theorem dX12_dump_94 : decode cX12_dump 94 = .ok (.istore_n 3, 1) := by decide +kernel
theorem dX12_dump_95 : decode cX12_dump 95 = .ok (.iload_n 3, 1) := by decide +kernel
theorem dX12_dump_96 : decode cX12_dump 96 = .ok (.iconst 4, 1) := by decide +kernel
theorem dX12_dump_97 : decode cX12_dump 97 = .ok (.if_icmp .ge 29, 3) := by decide +kernel
set_option maxHeartbeats 4000000 in
set_option maxRecDepth 100000 in
theorem T_X12_dump (l : Launch) (D : va_G) (K : Nat → ClassId) (Z Y : Nat → Nat) (ad : Nat → Nat) (t : tSt) (hok : okM t)  : tMet l yX12_dump cX12_dump 4 none (rmD 3 0 0) D K Z Y [.ref (ad 0)] (WM K ad t) (QV D K (fun (u : tSt) => okM u ∧ frA [(0, 30)] [] [11, 12, 13, 14] [] t u) (fun (u : tSt) => WM K ad u)) 0 0 := by
  refine t_met RX12 ⟨rfl, by decide +kernel⟩ (Nat.le_of_ble_eq_true rfl) ?_
  intro p e s m below meth c A ls C hE hZ hr hlocks hA hP hD hS hl
  have hl : lv_has ls 4 [(0, .ref (ad 0))] := hl
  have hokt := hok
  have hfr : frA [(0, 30)] [] [11, 12, 13, 14] [] t t := frA_rf
  have h_1 : (0 : Int) ≤ (t.1 0 30).toInt ∧ (t.1 0 30).toInt ≤ 120 := hok.1 0 30
  have L_84 : ∀ (fuel_84 : Nat) (t1 : tSt) (w84_1 : Int32) (H : Heap) (locs : List Loc) (ls : Array Slot), okM t1 → frA [(0, 30)] [] [11, 12, 13, 14] [] t t1 → (0 : Int) ≤ w84_1.toInt ∧ w84_1.toInt ≤ 4095 → (w84_1.toInt % 4 = 0) → (4095 : Int) - w84_1.toInt < (fuel_84 : Int) → va_P D vwCl (WM K ad t1) H → va_D A (WM K ad t1) → va_S A s.heap H locs → lv_has ls 4 [(0, .ref (ad 0)), (1, .int w84_1)] → W p l e (rmD 3 0 0) s m [.ref (ad 0)].toArray below meth c H locs 0 0 (MQ below (QV D K (fun (u : tSt) => okM u ∧ frA [(0, 30)] [] [11, 12, 13, 14] [] t u) (fun (u : tSt) => WM K ad u) A) [.ref (ad 0)].toArray s 0 0 A) (F0 m 84 ls []) := by
    intro fuel_84
    induction fuel_84 with
    | zero =>
      intro t1 w84_1 H locs ls hok hfr hw84_1 hi84_0 hm84_84 hP hD hS hl
      have h_2 : (0 : Int) ≤ (t1.1 0 30).toInt ∧ (t1.1 0 30).toInt ≤ 120 := hok.1 0 30
      exact absurd hm84_84 (by omega)
    | succ fuel_84 ih_84 =>
      intro t1 w84_1 H locs ls hok hfr hw84_1 hi84_0 hm84_84 hP hD hS hl
      have hm84_84 : (4095 : Int) - w84_1.toInt < (fuel_84 : Int) + 1 := by omega
      have h_3 : (0 : Int) ≤ (t1.1 0 30).toInt ∧ (t1.1 0 30).toInt ≤ 120 := hok.1 0 30
      have L_190 : ∀ (t1 : tSt) (w190_1 : Int32) (w190_2 : Int32) (w190_3 : Int32) (H : Heap) (locs : List Loc) (ls : Array Slot), okM t1 → frA [(0, 30)] [] [11, 12, 13, 14] [] t t1 → (0 : Int) ≤ w190_1.toInt ∧ w190_1.toInt ≤ 3999 → (0 : Int) ≤ w190_2.toInt ∧ w190_2.toInt ≤ 1 → (4 : Int) ≤ w190_3.toInt ∧ w190_3.toInt ≤ 4 → (w190_1.toInt % 4 = 0) → (w190_1.toInt ≤ 3999) → (4095 : Int) - w190_1.toInt < (fuel_84 : Int) + 1 → va_P D vwCl (WM K ad t1) H → va_D A (WM K ad t1) → va_S A s.heap H locs → lv_has ls 4 [(0, .ref (ad 0)), (1, .int w190_1), (2, .int w190_2), (3, .int w190_3)] → W p l e (rmD 3 0 0) s m [.ref (ad 0)].toArray below meth c H locs 0 0 (MQ below (QV D K (fun (u : tSt) => okM u ∧ frA [(0, 30)] [] [11, 12, 13, 14] [] t u) (fun (u : tSt) => WM K ad u) A) [.ref (ad 0)].toArray s 0 0 A) (F0 m 190 ls []) := by
        intro t1 w190_1 w190_2 w190_3 H locs ls hok hfr hw190_1 hw190_2 hw190_3 hi190_0 hi190_1 hm190_84 hP hD hS hl
        have h_4 : (0 : Int) ≤ (t1.1 0 30).toInt ∧ (t1.1 0 30).toInt ≤ 120 := hok.1 0 30
        obtain ⟨v_5, e_6⟩ : ∃ z, z = w190_1 + 4 := ⟨_, rfl⟩
        have h_7 : v_5.toInt = w190_1.toInt + 4 := by rw [e_6]; exact ti_iadd (by show (_ : Int) ≤ w190_1.toInt + 4; omega) (by show w190_1.toInt + 4 < (_ : Int); omega)
        refine lv_iinc (v := v_5) (lv' := [(1, .int v_5), (0, .ref (ad 0)), (2, .int w190_2), (3, .int w190_3)]) C.1 C.2.1 dX12_dump_190 hl (k := 1) rfl e_6.symm (by decide) rfl (fun ls hl => ?_)
        have hl : lv_has ls 4 [(0, .ref (ad 0)), (1, .int v_5), (2, .int w190_2), (3, .int w190_3)] := lv_sub hl [1, 0, 2, 3] rfl
        refine lv_goto (tgt := 84) C.1 C.2.1 dX12_dump_193 (by decide) ?_
        exact ih_84 t1 v_5 _ _ _ hok hfr ⟨by omega, by omega⟩ (show v_5.toInt % 4 = 0 from by omega) (show (4095 : Int) - v_5.toInt < (fuel_84 : Int) from by omega) hP hD hS (lv_sub hl [0, 1] rfl)
      have L_151 : ∀ (fuel_151 : Nat) (t1 : tSt) (w151_1 : Int32) (w151_2 : Int32) (w151_3 : Int32) (H : Heap) (locs : List Loc) (ls : Array Slot), okM t1 → frA [(0, 30)] [] [11, 12, 13, 14] [] t t1 → (0 : Int) ≤ w151_1.toInt ∧ w151_1.toInt ≤ 3999 → (1 : Int) ≤ w151_2.toInt ∧ w151_2.toInt ≤ 1 → (0 : Int) ≤ w151_3.toInt ∧ w151_3.toInt ≤ 4 → (w151_1.toInt % 4 = 0) → (w151_1.toInt ≤ 3999) → ((t1.1 0 30).toInt ≤ 5 + 15 * w151_3.toInt) → (4095 : Int) - w151_1.toInt < (fuel_84 : Int) + 1 → (4 : Int) - w151_3.toInt < (fuel_151 : Int) → va_P D vwCl (WM K ad t1) H → va_D A (WM K ad t1) → va_S A s.heap H locs → lv_has ls 4 [(0, .ref (ad 0)), (1, .int w151_1), (2, .int w151_2), (3, .int w151_3)] → W p l e (rmD 3 0 0) s m [.ref (ad 0)].toArray below meth c H locs 0 0 (MQ below (QV D K (fun (u : tSt) => okM u ∧ frA [(0, 30)] [] [11, 12, 13, 14] [] t u) (fun (u : tSt) => WM K ad u) A) [.ref (ad 0)].toArray s 0 0 A) (F0 m 151 ls []) := by
        intro fuel_151
        induction fuel_151 with
        | zero =>
          intro t1 w151_1 w151_2 w151_3 H locs ls hok hfr hw151_1 hw151_2 hw151_3 hi151_0 hi151_1 hi151_2 hm151_84 hm151_151 hP hD hS hl
          have h_8 : (0 : Int) ≤ (t1.1 0 30).toInt ∧ (t1.1 0 30).toInt ≤ 120 := hok.1 0 30
          exact absurd hm151_151 (by omega)
        | succ fuel_151 ih_151 =>
          intro t1 w151_1 w151_2 w151_3 H locs ls hok hfr hw151_1 hw151_2 hw151_3 hi151_0 hi151_1 hi151_2 hm151_84 hm151_151 hP hD hS hl
          have hm151_151 : (4 : Int) - w151_3.toInt < (fuel_151 : Int) + 1 := by omega
          have h_9 : (0 : Int) ≤ (t1.1 0 30).toInt ∧ (t1.1 0 30).toInt ≤ 120 := hok.1 0 30
          refine lv_iload_n C.1 C.2.1 dX12_dump_151 rfl (lv_at hl 3 rfl) ?_
          refine lv_iconst (v := 4) C.1 C.2.1 dX12_dump_152 (by decide) ?_
          refine lv_icmp_ge (tgt := 184) C.1 C.2.1 dX12_dump_153 (by decide) (fun c_10 => ?_) (fun c_10 => ?_)
          · replace c_10 : 4 ≤ w151_3.toInt := i_le c_10
            refine lv_aload_n C.1 C.2.1 dX12_dump_184 rfl (lv_at hl 0 rfl) ?_
            refine lv_bipush (v := 18) C.1 C.2.1 dX12_dump_185 (by decide) ?_
            refine g_Vv (As := [.int 18]) (rest := []) C hP hD hS hA (T_X12_print l D K Z Y ad t1 hok 18 (show (17 : Int) ≤ (18 : Int32).toInt ∧ (18 : Int32).toInt ≤ 19 from ⟨by decide, by decide⟩)) hE hZ (uwV m_42_21 m_42_22 m_42_23 m_1_5 m_43_0) (hdV 1 (by decide +kernel) rfl) ⟨Nat.le_of_ble_eq_true rfl, Nat.le_of_ble_eq_true rfl⟩ rfl rfl (ci := 11) (q0 := 0) rfl rfl rfl hl.1 (Nat.le_of_ble_eq_true rfl) dX12_dump_187 ⟨Nat.le_of_ble_eq_true rfl, Nat.le_of_ble_eq_true rfl⟩ (fun t_11 H locs hw hP hD hS => ?_)
            obtain ⟨hok, f_13⟩ := hw
            have hfr : frA [(0, 30)] [] [11, 12, 13, 14] [] t t_11 := frA_tr hfr f_13 rfl
            have h_14 : (0 : Int) ≤ (t_11.1 0 30).toInt ∧ (t_11.1 0 30).toInt ≤ 120 := hok.1 0 30
            exact L_190 t_11 w151_1 w151_2 w151_3 _ _ _ hok hfr ⟨by omega, by omega⟩ ⟨by omega, by omega⟩ ⟨by omega, by omega⟩ (show w151_1.toInt % 4 = 0 from by omega) (show w151_1.toInt ≤ 3999 from by omega) (show (4095 : Int) - w151_1.toInt < (fuel_84 : Int) + 1 from by omega) hP hD hS (lv_sub hl [0, 1, 2, 3] rfl)
          · replace c_10 : w151_3.toInt < 4 := i_nle c_10
            refine lv_aload_n C.1 C.2.1 dX12_dump_156 rfl (lv_at hl 0 rfl) ?_
            refine lv_bipush (v := 10) C.1 C.2.1 dX12_dump_157 (by decide) ?_
            refine lv_bipush (v := 15) C.1 C.2.1 dX12_dump_159 (by decide) ?_
            refine lv_iload_n C.1 C.2.1 dX12_dump_161 rfl (lv_at hl 3 rfl) ?_
            obtain ⟨v_15, e_16⟩ : ∃ z, z = (15 : Int32) * (w151_3 : Int32) := ⟨_, rfl⟩
            have h_17 : v_15.toInt = 15 * w151_3.toInt := by rw [e_16]; exact ti_mull (k := 15) (by decide) (by omega) (by omega)
            refine k_imul (v := v_15) C e_16.symm dX12_dump_162 ?_
            obtain ⟨v_18, e_19⟩ : ∃ z, z = (10 : Int32) + (v_15 : Int32) := ⟨_, rfl⟩
            have h_20 : v_18.toInt = 10 + v_15.toInt := by rw [e_19]; exact ti_iadd (by show (_ : Int) ≤ 10 + v_15.toInt; omega) (by show 10 + v_15.toInt < (_ : Int); omega)
            refine k_iadd (v := v_18) C e_19.symm dX12_dump_163 ?_
            refine g_Vv (As := [.int v_18]) (rest := []) C hP hD hS hA (T_X12_toColumn l D K Z Y ad t1 hok (v_18) (show (2 : Int) ≤ (v_18 : Int32).toInt ∧ (v_18 : Int32).toInt ≤ 63 from ⟨by omega, by omega⟩) (show v_18.toInt ≤ 121 from by omega)) hE hZ (uwV m_42_17 m_42_18 m_42_19 m_1_5 m_42_20) (hdV 1 (by decide +kernel) rfl) ⟨Nat.le_of_ble_eq_true rfl, Nat.le_of_ble_eq_true rfl⟩ rfl rfl (ci := 11) (q0 := 0) rfl rfl rfl hl.1 (Nat.le_of_ble_eq_true rfl) dX12_dump_164 ⟨Nat.le_of_ble_eq_true rfl, Nat.le_of_ble_eq_true rfl⟩ (fun t_21 H locs hw hP hD hS => ?_)
            obtain ⟨hok, f_23, p_24, p_25⟩ := hw
            have hfr : frA [(0, 30)] [] [11, 12, 13, 14] [] t t_21 := frA_tr hfr f_23 rfl
            have h_26 : (0 : Int) ≤ (t_21.1 0 30).toInt ∧ (t_21.1 0 30).toInt ≤ 120 := hok.1 0 30
            replace p_24 : (t1.1 0 30).toInt ≤ (t_21.1 0 30).toInt := p_24
            replace p_25 : (t_21.1 0 30).toInt ≤ (t1.1 0 30).toInt ∨ (t_21.1 0 30).toInt ≤ v_18.toInt - 1 := p_25
            refine lv_aload_n C.1 C.2.1 dX12_dump_167 rfl (lv_at hl 0 rfl) ?_
            refine lv_aload_n C.1 C.2.1 dX12_dump_168 rfl (lv_at hl 0 rfl) ?_
            refine lv_iload_n C.1 C.2.1 dX12_dump_169 rfl (lv_at hl 1 rfl) ?_
            refine lv_iload_n C.1 C.2.1 dX12_dump_170 rfl (lv_at hl 3 rfl) ?_
            obtain ⟨v_27, e_28⟩ : ∃ z, z = (w151_1 : Int32) + (w151_3 : Int32) := ⟨_, rfl⟩
            have h_29 : v_27.toInt = w151_1.toInt + w151_3.toInt := by rw [e_28]; exact ti_iadd (by show (_ : Int) ≤ w151_1.toInt + w151_3.toInt; omega) (by show w151_1.toInt + w151_3.toInt < (_ : Int); omega)
            refine k_iadd (v := v_27) C e_28.symm dX12_dump_171 ?_
            refine g_Vi (As := [.int v_27]) (rest := [.ref (ad 0)]) C hP hD hS hA (T_X12_memoryAt l D K Z Y ad t_21 hok (v_27) (show (-3999 : Int) ≤ (v_27 : Int32).toInt ∧ (v_27 : Int32).toInt ≤ 3999 from ⟨by omega, by omega⟩)) hE hZ (uwV m_38_19 m_38_20 m_38_21 m_1_5 m_38_22) (hdV 1 (by decide +kernel) rfl) ⟨Nat.le_of_ble_eq_true rfl, Nat.le_of_ble_eq_true rfl⟩ rfl rfl (ci := 11) (q0 := 0) rfl rfl rfl hl.1 (Nat.le_of_ble_eq_true rfl) dX12_dump_172 ⟨Nat.le_of_ble_eq_true rfl, Nat.le_of_ble_eq_true rfl⟩ (fun r_31 t_30 H locs hw hP hD hS => ?_)
            obtain ⟨h_33, h_34⟩ := hw
            refine g_Vv (As := [.int r_31]) (rest := []) C hP hD hS hA (T_X12_sayWord l D K Z Y ad t_21 hok (r_31) (show (t_21.1 0 30).toInt ≤ 109 from by omega)) hE hZ (uwV m_64_8 m_64_9 m_64_10 m_1_5 m_64_11) (hdV 1 (by decide +kernel) rfl) ⟨Nat.le_of_ble_eq_true rfl, Nat.le_of_ble_eq_true rfl⟩ rfl rfl (ci := 11) (q0 := 0) rfl rfl rfl hl.1 (Nat.le_of_ble_eq_true rfl) dX12_dump_175 ⟨Nat.le_of_ble_eq_true rfl, Nat.le_of_ble_eq_true rfl⟩ (fun t_35 H locs hw hP hD hS => ?_)
            obtain ⟨hok, f_37, p_38⟩ := hw
            have hfr : frA [(0, 30)] [] [11, 12, 13, 14] [] t t_35 := frA_tr hfr f_37 rfl
            have h_39 : (0 : Int) ≤ (t_35.1 0 30).toInt ∧ (t_35.1 0 30).toInt ≤ 120 := hok.1 0 30
            replace p_38 : (t_35.1 0 30).toInt = (t_21.1 0 30).toInt + 11 := p_38
            obtain ⟨v_40, e_41⟩ : ∃ z, z = w151_3 + 1 := ⟨_, rfl⟩
            have h_42 : v_40.toInt = w151_3.toInt + 1 := by rw [e_41]; exact ti_iadd (by show (_ : Int) ≤ w151_3.toInt + 1; omega) (by show w151_3.toInt + 1 < (_ : Int); omega)
            refine lv_iinc (v := v_40) (lv' := [(3, .int v_40), (0, .ref (ad 0)), (1, .int w151_1), (2, .int w151_2)]) C.1 C.2.1 dX12_dump_178 hl (k := 3) rfl e_41.symm (by decide) rfl (fun ls hl => ?_)
            have hl : lv_has ls 4 [(0, .ref (ad 0)), (1, .int w151_1), (2, .int w151_2), (3, .int v_40)] := lv_sub hl [1, 2, 3, 0] rfl
            refine lv_goto (tgt := 151) C.1 C.2.1 dX12_dump_181 (by decide) ?_
            exact ih_151 t_35 w151_1 w151_2 v_40 _ _ _ hok hfr ⟨by omega, by omega⟩ ⟨by omega, by omega⟩ ⟨by omega, by omega⟩ (show w151_1.toInt % 4 = 0 from by omega) (show w151_1.toInt ≤ 3999 from by omega) (show (t_35.1 0 30).toInt ≤ 5 + 15 * v_40.toInt from by omega) (show (4095 : Int) - w151_1.toInt < (fuel_84 : Int) + 1 from by omega) (show (4 : Int) - v_40.toInt < (fuel_151 : Int) from by omega) hP hD hS (lv_sub hl [0, 1, 2, 3] rfl)
      have L_95 : ∀ (fuel_95 : Nat) (t1 : tSt) (w95_1 : Int32) (w95_2 : Int32) (w95_3 : Int32) (H : Heap) (locs : List Loc) (ls : Array Slot), okM t1 → frA [(0, 30)] [] [11, 12, 13, 14] [] t t1 → (0 : Int) ≤ w95_1.toInt ∧ w95_1.toInt ≤ 3999 → (0 : Int) ≤ w95_2.toInt ∧ w95_2.toInt ≤ 1 → (0 : Int) ≤ w95_3.toInt ∧ w95_3.toInt ≤ 4 → (w95_1.toInt % 4 = 0) → (w95_1.toInt ≤ 3999) → (4095 : Int) - w95_1.toInt < (fuel_84 : Int) + 1 → (4 : Int) - w95_3.toInt < (fuel_95 : Int) → va_P D vwCl (WM K ad t1) H → va_D A (WM K ad t1) → va_S A s.heap H locs → lv_has ls 4 [(0, .ref (ad 0)), (1, .int w95_1), (2, .int w95_2), (3, .int w95_3)] → W p l e (rmD 3 0 0) s m [.ref (ad 0)].toArray below meth c H locs 0 0 (MQ below (QV D K (fun (u : tSt) => okM u ∧ frA [(0, 30)] [] [11, 12, 13, 14] [] t u) (fun (u : tSt) => WM K ad u) A) [.ref (ad 0)].toArray s 0 0 A) (F0 m 95 ls []) := by
        intro fuel_95
        induction fuel_95 with
        | zero =>
          intro t1 w95_1 w95_2 w95_3 H locs ls hok hfr hw95_1 hw95_2 hw95_3 hi95_0 hi95_1 hm95_84 hm95_95 hP hD hS hl
          have h_43 : (0 : Int) ≤ (t1.1 0 30).toInt ∧ (t1.1 0 30).toInt ≤ 120 := hok.1 0 30
          exact absurd hm95_95 (by omega)
        | succ fuel_95 ih_95 =>
          intro t1 w95_1 w95_2 w95_3 H locs ls hok hfr hw95_1 hw95_2 hw95_3 hi95_0 hi95_1 hm95_84 hm95_95 hP hD hS hl
          have hm95_95 : (4 : Int) - w95_3.toInt < (fuel_95 : Int) + 1 := by omega
          have h_44 : (0 : Int) ≤ (t1.1 0 30).toInt ∧ (t1.1 0 30).toInt ≤ 120 := hok.1 0 30
          have L_119 : ∀ (t1 : tSt) (w119_1 : Int32) (w119_2 : Int32) (w119_3 : Int32) (k119_0 : Int32) (H : Heap) (locs : List Loc) (ls : Array Slot), okM t1 → frA [(0, 30)] [] [11, 12, 13, 14] [] t t1 → (0 : Int) ≤ w119_1.toInt ∧ w119_1.toInt ≤ 3999 → (0 : Int) ≤ w119_2.toInt ∧ w119_2.toInt ≤ 1 → (0 : Int) ≤ w119_3.toInt ∧ w119_3.toInt ≤ 3 → (0 : Int) ≤ k119_0.toInt ∧ k119_0.toInt ≤ 1 → (w119_1.toInt % 4 = 0) → (w119_1.toInt ≤ 3999) → (4095 : Int) - w119_1.toInt < (fuel_84 : Int) + 1 → (4 : Int) - w119_3.toInt < (fuel_95 : Int) + 1 → va_P D vwCl (WM K ad t1) H → va_D A (WM K ad t1) → va_S A s.heap H locs → lv_has ls 4 [(0, .ref (ad 0)), (1, .int w119_1), (2, .int w119_2), (3, .int w119_3)] → W p l e (rmD 3 0 0) s m [.ref (ad 0)].toArray below meth c H locs 0 0 (MQ below (QV D K (fun (u : tSt) => okM u ∧ frA [(0, 30)] [] [11, 12, 13, 14] [] t u) (fun (u : tSt) => WM K ad u) A) [.ref (ad 0)].toArray s 0 0 A) (F0 m 119 ls [.int k119_0]) := by
            intro t1 w119_1 w119_2 w119_3 k119_0 H locs ls hok hfr hw119_1 hw119_2 hw119_3 hk119_0 hi119_0 hi119_1 hm119_84 hm119_95 hP hD hS hl
            have h_45 : (0 : Int) ≤ (t1.1 0 30).toInt ∧ (t1.1 0 30).toInt ≤ 120 := hok.1 0 30
            refine lv_istore_n (lv' := [(2, .int k119_0), (0, .ref (ad 0)), (1, .int w119_1), (3, .int w119_3)]) C.1 C.2.1 dX12_dump_119 rfl hl (by decide) rfl (fun ls hl => ?_)
            have hl : lv_has ls 4 [(0, .ref (ad 0)), (1, .int w119_1), (2, .int k119_0), (3, .int w119_3)] := lv_sub hl [1, 2, 0, 3] rfl
            obtain ⟨v_46, e_47⟩ : ∃ z, z = w119_3 + 1 := ⟨_, rfl⟩
            have h_48 : v_46.toInt = w119_3.toInt + 1 := by rw [e_47]; exact ti_iadd (by show (_ : Int) ≤ w119_3.toInt + 1; omega) (by show w119_3.toInt + 1 < (_ : Int); omega)
            refine lv_iinc (v := v_46) (lv' := [(3, .int v_46), (0, .ref (ad 0)), (1, .int w119_1), (2, .int k119_0)]) C.1 C.2.1 dX12_dump_120 hl (k := 3) rfl e_47.symm (by decide) rfl (fun ls hl => ?_)
            have hl : lv_has ls 4 [(0, .ref (ad 0)), (1, .int w119_1), (2, .int k119_0), (3, .int v_46)] := lv_sub hl [1, 2, 3, 0] rfl
            refine lv_goto (tgt := 95) C.1 C.2.1 dX12_dump_123 (by decide) ?_
            exact ih_95 t1 w119_1 k119_0 v_46 _ _ _ hok hfr ⟨by omega, by omega⟩ ⟨by omega, by omega⟩ ⟨by omega, by omega⟩ (show w119_1.toInt % 4 = 0 from by omega) (show w119_1.toInt ≤ 3999 from by omega) (show (4095 : Int) - w119_1.toInt < (fuel_84 : Int) + 1 from by omega) (show (4 : Int) - v_46.toInt < (fuel_95 : Int) from by omega) hP hD hS (lv_sub hl [0, 1, 2, 3] rfl)
          have L_114 : ∀ (t1 : tSt) (w114_1 : Int32) (w114_2 : Int32) (w114_3 : Int32) (H : Heap) (locs : List Loc) (ls : Array Slot), okM t1 → frA [(0, 30)] [] [11, 12, 13, 14] [] t t1 → (0 : Int) ≤ w114_1.toInt ∧ w114_1.toInt ≤ 3999 → (0 : Int) ≤ w114_2.toInt ∧ w114_2.toInt ≤ 1 → (0 : Int) ≤ w114_3.toInt ∧ w114_3.toInt ≤ 3 → (w114_1.toInt % 4 = 0) → (w114_1.toInt ≤ 3999) → (4095 : Int) - w114_1.toInt < (fuel_84 : Int) + 1 → (4 : Int) - w114_3.toInt < (fuel_95 : Int) + 1 → va_P D vwCl (WM K ad t1) H → va_D A (WM K ad t1) → va_S A s.heap H locs → lv_has ls 4 [(0, .ref (ad 0)), (1, .int w114_1), (2, .int w114_2), (3, .int w114_3)] → W p l e (rmD 3 0 0) s m [.ref (ad 0)].toArray below meth c H locs 0 0 (MQ below (QV D K (fun (u : tSt) => okM u ∧ frA [(0, 30)] [] [11, 12, 13, 14] [] t u) (fun (u : tSt) => WM K ad u) A) [.ref (ad 0)].toArray s 0 0 A) (F0 m 114 ls []) := by
            intro t1 w114_1 w114_2 w114_3 H locs ls hok hfr hw114_1 hw114_2 hw114_3 hi114_0 hi114_1 hm114_84 hm114_95 hP hD hS hl
            have h_49 : (0 : Int) ≤ (t1.1 0 30).toInt ∧ (t1.1 0 30).toInt ≤ 120 := hok.1 0 30
            refine lv_iconst (v := 1) C.1 C.2.1 dX12_dump_114 (by decide) ?_
            refine lv_goto (tgt := 119) C.1 C.2.1 dX12_dump_115 (by decide) ?_
            exact L_119 t1 w114_1 w114_2 w114_3 1 _ _ _ hok hfr ⟨by omega, by omega⟩ ⟨by omega, by omega⟩ ⟨by omega, by omega⟩ ⟨by decide, by decide⟩ (show w114_1.toInt % 4 = 0 from by omega) (show w114_1.toInt ≤ 3999 from by omega) (show (4095 : Int) - w114_1.toInt < (fuel_84 : Int) + 1 from by omega) (show (4 : Int) - w114_3.toInt < (fuel_95 : Int) + 1 from by omega) hP hD hS (lv_sub hl [0, 1, 2, 3] rfl)
          refine lv_iload_n C.1 C.2.1 dX12_dump_95 rfl (lv_at hl 3 rfl) ?_
          refine lv_iconst (v := 4) C.1 C.2.1 dX12_dump_96 (by decide) ?_
          refine lv_icmp_ge (tgt := 126) C.1 C.2.1 dX12_dump_97 (by decide) (fun c_50 => ?_) (fun c_50 => ?_)
          · replace c_50 : 4 ≤ w95_3.toInt := i_le c_50
            refine lv_iload_n C.1 C.2.1 dX12_dump_126 rfl (lv_at hl 2 rfl) ?_
            refine lv_if_ne (tgt := 133) C.1 C.2.1 dX12_dump_127 (by decide) (fun c_51 => ?_) (fun c_51 => ?_)
            · replace c_51 : ¬ w95_2.toInt = 0 := i_ne c_51
              refine lv_aload_n C.1 C.2.1 dX12_dump_133 rfl (lv_at hl 0 rfl) ?_
              refine g_Vv (As := []) (rest := []) C hP hD hS hA (T_X12_begin l D K Z Y ad t1 hok ) hE hZ (uwV m_42_4 m_42_5 m_42_6 m_1_5 m_42_7) (hdV 0 (by decide +kernel) rfl) ⟨Nat.le_of_ble_eq_true rfl, Nat.le_of_ble_eq_true rfl⟩ rfl rfl (ci := 11) (q0 := 0) rfl rfl rfl hl.1 (Nat.le_of_ble_eq_true rfl) dX12_dump_134 ⟨Nat.le_of_ble_eq_true rfl, Nat.le_of_ble_eq_true rfl⟩ (fun t_52 H locs hw hP hD hS => ?_)
              obtain ⟨hok, f_54, p_55⟩ := hw
              have hfr : frA [(0, 30)] [] [11, 12, 13, 14] [] t t_52 := frA_tr hfr f_54 rfl
              have h_56 : (0 : Int) ≤ (t_52.1 0 30).toInt ∧ (t_52.1 0 30).toInt ≤ 120 := hok.1 0 30
              replace p_55 : (t_52.1 0 30).toInt = 0 := p_55
              refine lv_aload_n C.1 C.2.1 dX12_dump_137 rfl (lv_at hl 0 rfl) ?_
              refine lv_iconst (v := 2) C.1 C.2.1 dX12_dump_138 (by decide) ?_
              have h_57 : (2 : Int32).toInt = 2 := rfl
              refine g_Vv (As := [.int 2]) (rest := []) C hP hD hS hA (T_X12_toColumn l D K Z Y ad t_52 hok 2 (show (2 : Int) ≤ (2 : Int32).toInt ∧ (2 : Int32).toInt ≤ 63 from ⟨by decide, by decide⟩) (show (2 : Int32).toInt ≤ 121 from by omega)) hE hZ (uwV m_42_17 m_42_18 m_42_19 m_1_5 m_42_20) (hdV 1 (by decide +kernel) rfl) ⟨Nat.le_of_ble_eq_true rfl, Nat.le_of_ble_eq_true rfl⟩ rfl rfl (ci := 11) (q0 := 0) rfl rfl rfl hl.1 (Nat.le_of_ble_eq_true rfl) dX12_dump_139 ⟨Nat.le_of_ble_eq_true rfl, Nat.le_of_ble_eq_true rfl⟩ (fun t_58 H locs hw hP hD hS => ?_)
              obtain ⟨hok, f_60, p_61, p_62⟩ := hw
              have hfr : frA [(0, 30)] [] [11, 12, 13, 14] [] t t_58 := frA_tr hfr f_60 rfl
              have h_63 : (0 : Int) ≤ (t_58.1 0 30).toInt ∧ (t_58.1 0 30).toInt ≤ 120 := hok.1 0 30
              replace p_61 : (t_52.1 0 30).toInt ≤ (t_58.1 0 30).toInt := p_61
              replace p_62 : (t_58.1 0 30).toInt ≤ (t_52.1 0 30).toInt ∨ (t_58.1 0 30).toInt ≤ (2 : Int32).toInt - 1 := p_62
              refine lv_aload_n C.1 C.2.1 dX12_dump_142 rfl (lv_at hl 0 rfl) ?_
              refine lv_iload_n C.1 C.2.1 dX12_dump_143 rfl (lv_at hl 1 rfl) ?_
              obtain ⟨v_64, e_65⟩ : ∃ z, z = (w95_1 : Int32).toInt64 := ⟨_, rfl⟩
              have h_66 : v_64.toInt = w95_1.toInt := by rw [e_65]; exact Jvm.Kit.i64_of_i32 _
              refine lv_i2l (v := v_64) C.1 C.2.1 dX12_dump_144 e_65.symm ?_
              refine lv_iconst (v := 4) C.1 C.2.1 dX12_dump_145 (by decide) ?_
              have h_67 : (4 : Int32).toInt = 4 := rfl
              refine g_Vv (As := [.long v_64, .int 4]) (rest := []) C hP hD hS hA (T_X12_sayDigits l D K Z Y ad t_58 hok (v_64) 4 (show (1 : Int) ≤ (4 : Int32).toInt ∧ (4 : Int32).toInt ≤ 10 from ⟨by decide, by decide⟩) (show (t_58.1 0 30).toInt + (4 : Int32).toInt ≤ 120 from by omega) (show 1 ≤ (4 : Int32).toInt from by omega) (show (4 : Int32).toInt ≤ 10 from by omega)) hE hZ (uwV m_42_9 m_42_10 m_42_11 m_1_5 m_42_12) (hdV 2 (by decide +kernel) rfl) ⟨Nat.le_of_ble_eq_true rfl, Nat.le_of_ble_eq_true rfl⟩ rfl rfl (ci := 11) (q0 := 0) rfl rfl rfl hl.1 (Nat.le_of_ble_eq_true rfl) dX12_dump_146 ⟨Nat.le_of_ble_eq_true rfl, Nat.le_of_ble_eq_true rfl⟩ (fun t_68 H locs hw hP hD hS => ?_)
              obtain ⟨hok, f_70, p_71⟩ := hw
              have hfr : frA [(0, 30)] [] [11, 12, 13, 14] [] t t_68 := frA_tr hfr f_70 rfl
              have h_72 : (0 : Int) ≤ (t_68.1 0 30).toInt ∧ (t_68.1 0 30).toInt ≤ 120 := hok.1 0 30
              replace p_71 : (t_68.1 0 30).toInt = (t_58.1 0 30).toInt + (4 : Int32).toInt := p_71
              refine lv_iconst (v := 0) C.1 C.2.1 dX12_dump_149 (by decide) ?_
              refine lv_istore_n (lv' := [(3, .int 0), (0, .ref (ad 0)), (1, .int w95_1), (2, .int w95_2)]) C.1 C.2.1 dX12_dump_150 rfl hl (by decide) rfl (fun ls hl => ?_)
              have hl : lv_has ls 4 [(0, .ref (ad 0)), (1, .int w95_1), (2, .int w95_2), (3, .int 0)] := lv_sub hl [1, 2, 3, 0] rfl
              exact L_151 5 t_68 w95_1 w95_2 0 _ _ _ hok hfr ⟨by omega, by omega⟩ ⟨by omega, by omega⟩ ⟨by decide, by decide⟩ (show w95_1.toInt % 4 = 0 from by omega) (show w95_1.toInt ≤ 3999 from by omega) (show (t_68.1 0 30).toInt ≤ 5 + 15 * 0 from by omega) (show (4095 : Int) - w95_1.toInt < (fuel_84 : Int) + 1 from by omega) (show (4 : Int) - 0 < ((5 : Nat) : Int) from by omega) hP hD hS (lv_sub hl [0, 1, 2, 3] rfl)
            · replace c_51 : w95_2.toInt = 0 := i_eq c_51
              refine lv_goto (tgt := 190) C.1 C.2.1 dX12_dump_130 (by decide) ?_
              exact L_190 t1 w95_1 w95_2 w95_3 _ _ _ hok hfr ⟨by omega, by omega⟩ ⟨by omega, by omega⟩ ⟨by omega, by omega⟩ (show w95_1.toInt % 4 = 0 from by omega) (show w95_1.toInt ≤ 3999 from by omega) (show (4095 : Int) - w95_1.toInt < (fuel_84 : Int) + 1 from by omega) hP hD hS (lv_sub hl [0, 1, 2, 3] rfl)
          · replace c_50 : w95_3.toInt < 4 := i_nle c_50
            refine lv_iload_n C.1 C.2.1 dX12_dump_100 rfl (lv_at hl 2 rfl) ?_
            refine lv_if_ne (tgt := 114) C.1 C.2.1 dX12_dump_101 (by decide) (fun c_73 => ?_) (fun c_73 => ?_)
            · replace c_73 : ¬ w95_2.toInt = 0 := i_ne c_73
              exact L_114 t1 w95_1 w95_2 w95_3 _ _ _ hok hfr ⟨by omega, by omega⟩ ⟨by omega, by omega⟩ ⟨by omega, by omega⟩ (show w95_1.toInt % 4 = 0 from by omega) (show w95_1.toInt ≤ 3999 from by omega) (show (4095 : Int) - w95_1.toInt < (fuel_84 : Int) + 1 from by omega) (show (4 : Int) - w95_3.toInt < (fuel_95 : Int) + 1 from by omega) hP hD hS (lv_sub hl [0, 1, 2, 3] rfl)
            · replace c_73 : w95_2.toInt = 0 := i_eq c_73
              refine lv_aload_n C.1 C.2.1 dX12_dump_104 rfl (lv_at hl 0 rfl) ?_
              refine lv_iload_n C.1 C.2.1 dX12_dump_105 rfl (lv_at hl 1 rfl) ?_
              refine lv_iload_n C.1 C.2.1 dX12_dump_106 rfl (lv_at hl 3 rfl) ?_
              obtain ⟨v_74, e_75⟩ : ∃ z, z = (w95_1 : Int32) + (w95_3 : Int32) := ⟨_, rfl⟩
              have h_76 : v_74.toInt = w95_1.toInt + w95_3.toInt := by rw [e_75]; exact ti_iadd (by show (_ : Int) ≤ w95_1.toInt + w95_3.toInt; omega) (by show w95_1.toInt + w95_3.toInt < (_ : Int); omega)
              refine k_iadd (v := v_74) C e_75.symm dX12_dump_107 ?_
              refine g_Vi (As := [.int v_74]) (rest := []) C hP hD hS hA (T_X12_memoryAt l D K Z Y ad t1 hok (v_74) (show (-3999 : Int) ≤ (v_74 : Int32).toInt ∧ (v_74 : Int32).toInt ≤ 3999 from ⟨by omega, by omega⟩)) hE hZ (uwV m_38_19 m_38_20 m_38_21 m_1_5 m_38_22) (hdV 1 (by decide +kernel) rfl) ⟨Nat.le_of_ble_eq_true rfl, Nat.le_of_ble_eq_true rfl⟩ rfl rfl (ci := 11) (q0 := 0) rfl rfl rfl hl.1 (Nat.le_of_ble_eq_true rfl) dX12_dump_108 ⟨Nat.le_of_ble_eq_true rfl, Nat.le_of_ble_eq_true rfl⟩ (fun r_78 t_77 H locs hw hP hD hS => ?_)
              obtain ⟨h_80, h_81⟩ := hw
              refine lv_if_eq (tgt := 118) C.1 C.2.1 dX12_dump_111 (by decide) (fun c_82 => ?_) (fun c_82 => ?_)
              · replace c_82 : r_78.toInt = 0 := i_eq c_82
                refine lv_iconst (v := 0) C.1 C.2.1 dX12_dump_118 (by decide) ?_
                exact L_119 t1 w95_1 w95_2 w95_3 0 _ _ _ hok hfr ⟨by omega, by omega⟩ ⟨by omega, by omega⟩ ⟨by omega, by omega⟩ ⟨by decide, by decide⟩ (show w95_1.toInt % 4 = 0 from by omega) (show w95_1.toInt ≤ 3999 from by omega) (show (4095 : Int) - w95_1.toInt < (fuel_84 : Int) + 1 from by omega) (show (4 : Int) - w95_3.toInt < (fuel_95 : Int) + 1 from by omega) hP hD hS (lv_sub hl [0, 1, 2, 3] rfl)
              · replace c_82 : ¬ r_78.toInt = 0 := i_ne c_82
                exact L_114 t1 w95_1 w95_2 w95_3 _ _ _ hok hfr ⟨by omega, by omega⟩ ⟨by omega, by omega⟩ ⟨by omega, by omega⟩ (show w95_1.toInt % 4 = 0 from by omega) (show w95_1.toInt ≤ 3999 from by omega) (show (4095 : Int) - w95_1.toInt < (fuel_84 : Int) + 1 from by omega) (show (4 : Int) - w95_3.toInt < (fuel_95 : Int) + 1 from by omega) hP hD hS (lv_sub hl [0, 1, 2, 3] rfl)
      refine lv_iload_n C.1 C.2.1 dX12_dump_84 rfl (lv_at hl 1 rfl) ?_
      refine lv_sipush (v := 3999) C.1 C.2.1 dX12_dump_85 (by decide) ?_
      refine lv_icmp_gt (tgt := 196) C.1 C.2.1 dX12_dump_88 (by decide) (fun c_83 => ?_) (fun c_83 => ?_)
      · replace c_83 : 3999 < w84_1.toInt := i_lt c_83
        exact g_vret C hr hlocks hP hD hS t1 rfl ⟨hok, hfr⟩ (Nat.le_of_ble_eq_true rfl) (Nat.le_of_ble_eq_true rfl) dX12_dump_196
      · replace c_83 : w84_1.toInt ≤ 3999 := i_nlt c_83
        refine lv_iconst (v := 0) C.1 C.2.1 dX12_dump_91 (by decide) ?_
        refine lv_istore_n (lv' := [(2, .int 0), (0, .ref (ad 0)), (1, .int w84_1)]) C.1 C.2.1 dX12_dump_92 rfl hl (by decide) rfl (fun ls hl => ?_)
        have hl : lv_has ls 4 [(0, .ref (ad 0)), (1, .int w84_1), (2, .int 0)] := lv_sub hl [1, 2, 0] rfl
        refine lv_iconst (v := 0) C.1 C.2.1 dX12_dump_93 (by decide) ?_
        refine lv_istore_n (lv' := [(3, .int 0), (0, .ref (ad 0)), (1, .int w84_1), (2, .int 0)]) C.1 C.2.1 dX12_dump_94 rfl hl (by decide) rfl (fun ls hl => ?_)
        have hl : lv_has ls 4 [(0, .ref (ad 0)), (1, .int w84_1), (2, .int 0), (3, .int 0)] := lv_sub hl [1, 2, 3, 0] rfl
        exact L_95 5 t1 w84_1 0 0 _ _ _ hok hfr ⟨by omega, by omega⟩ ⟨by decide, by decide⟩ ⟨by decide, by decide⟩ (show w84_1.toInt % 4 = 0 from by omega) (show w84_1.toInt ≤ 3999 from by omega) (show (4095 : Int) - w84_1.toInt < (fuel_84 : Int) + 1 from by omega) (show (4 : Int) - 0 < ((5 : Nat) : Int) from by omega) hP hD hS (lv_sub hl [0, 1, 2, 3] rfl)
  have L_2 : ∀ (fuel_2 : Nat) (t1 : tSt) (w2_1 : Int32) (H : Heap) (locs : List Loc) (ls : Array Slot), okM t1 → frA [(0, 30)] [] [11, 12, 13, 14] [] t t1 → (0 : Int) ≤ w2_1.toInt ∧ w2_1.toInt ≤ 8 → (8 : Int) - w2_1.toInt < (fuel_2 : Int) → va_P D vwCl (WM K ad t1) H → va_D A (WM K ad t1) → va_S A s.heap H locs → lv_has ls 4 [(0, .ref (ad 0)), (1, .int w2_1)] → W p l e (rmD 3 0 0) s m [.ref (ad 0)].toArray below meth c H locs 0 0 (MQ below (QV D K (fun (u : tSt) => okM u ∧ frA [(0, 30)] [] [11, 12, 13, 14] [] t u) (fun (u : tSt) => WM K ad u) A) [.ref (ad 0)].toArray s 0 0 A) (F0 m 2 ls []) := by
    intro fuel_2
    induction fuel_2 with
    | zero =>
      intro t1 w2_1 H locs ls hok hfr hw2_1 hm2_2 hP hD hS hl
      have h_84 : (0 : Int) ≤ (t1.1 0 30).toInt ∧ (t1.1 0 30).toInt ≤ 120 := hok.1 0 30
      exact absurd hm2_2 (by omega)
    | succ fuel_2 ih_2 =>
      intro t1 w2_1 H locs ls hok hfr hw2_1 hm2_2 hP hD hS hl
      have hm2_2 : (8 : Int) - w2_1.toInt < (fuel_2 : Int) + 1 := by omega
      have h_85 : (0 : Int) ≤ (t1.1 0 30).toInt ∧ (t1.1 0 30).toInt ≤ 120 := hok.1 0 30
      have L_54 : ∀ (t1 : tSt) (w54_1 : Int32) (H : Heap) (locs : List Loc) (ls : Array Slot), okM t1 → frA [(0, 30)] [] [11, 12, 13, 14] [] t t1 → (0 : Int) ≤ w54_1.toInt ∧ w54_1.toInt ≤ 7 → ((t1.1 0 30).toInt ≤ 2) → (8 : Int) - w54_1.toInt < (fuel_2 : Int) + 1 → va_P D vwCl (WM K ad t1) H → va_D A (WM K ad t1) → va_S A s.heap H locs → lv_has ls 4 [(0, .ref (ad 0)), (1, .int w54_1)] → W p l e (rmD 3 0 0) s m [.ref (ad 0)].toArray below meth c H locs 0 0 (MQ below (QV D K (fun (u : tSt) => okM u ∧ frA [(0, 30)] [] [11, 12, 13, 14] [] t u) (fun (u : tSt) => WM K ad u) A) [.ref (ad 0)].toArray s 0 0 A) (F0 m 54 ls []) := by
        intro t1 w54_1 H locs ls hok hfr hw54_1 hi54_0 hm54_2 hP hD hS hl
        have h_86 : (0 : Int) ≤ (t1.1 0 30).toInt ∧ (t1.1 0 30).toInt ≤ 120 := hok.1 0 30
        refine lv_aload_n C.1 C.2.1 dX12_dump_54 rfl (lv_at hl 0 rfl) ?_
        refine lv_bipush (v := 10) C.1 C.2.1 dX12_dump_55 (by decide) ?_
        have h_87 : (10 : Int32).toInt = 10 := rfl
        refine g_Vv (As := [.int 10]) (rest := []) C hP hD hS hA (T_X12_toColumn l D K Z Y ad t1 hok 10 (show (2 : Int) ≤ (10 : Int32).toInt ∧ (10 : Int32).toInt ≤ 63 from ⟨by decide, by decide⟩) (show (10 : Int32).toInt ≤ 121 from by omega)) hE hZ (uwV m_42_17 m_42_18 m_42_19 m_1_5 m_42_20) (hdV 1 (by decide +kernel) rfl) ⟨Nat.le_of_ble_eq_true rfl, Nat.le_of_ble_eq_true rfl⟩ rfl rfl (ci := 11) (q0 := 0) rfl rfl rfl hl.1 (Nat.le_of_ble_eq_true rfl) dX12_dump_57 ⟨Nat.le_of_ble_eq_true rfl, Nat.le_of_ble_eq_true rfl⟩ (fun t_88 H locs hw hP hD hS => ?_)
        obtain ⟨hok, f_90, p_91, p_92⟩ := hw
        have hfr : frA [(0, 30)] [] [11, 12, 13, 14] [] t t_88 := frA_tr hfr f_90 rfl
        have h_93 : (0 : Int) ≤ (t_88.1 0 30).toInt ∧ (t_88.1 0 30).toInt ≤ 120 := hok.1 0 30
        replace p_91 : (t1.1 0 30).toInt ≤ (t_88.1 0 30).toInt := p_91
        replace p_92 : (t_88.1 0 30).toInt ≤ (t1.1 0 30).toInt ∨ (t_88.1 0 30).toInt ≤ (10 : Int32).toInt - 1 := p_92
        refine lv_aload_n C.1 C.2.1 dX12_dump_60 rfl (lv_at hl 0 rfl) ?_
        refine lv_aload_n C.1 C.2.1 dX12_dump_61 rfl (lv_at hl 0 rfl) ?_
        refine k_get (v := .ref (ad 3)) C hP 0 rfl rfl inlX12 4 (by decide) m_7_6 rfl dX12_dump_62 ?_
        refine lv_iload_n C.1 C.2.1 dX12_dump_65 rfl (lv_at hl 1 rfl) ?_
        obtain ⟨v_94, e_95⟩ : ∃ z, z = (t_88.2.2.1 3 (w54_1 : Int32).toNatClampNeg) := ⟨_, rfl⟩
        refine k_ild (v := v_94) C hP 3 rfl (vp_in_iff.mpr ⟨by omega, by omega⟩) e_95.symm dX12_dump_66 ?_
        refine g_Vv (As := [.int v_94]) (rest := []) C hP hD hS hA (T_X12_sayWord l D K Z Y ad t_88 hok (v_94) (show (t_88.1 0 30).toInt ≤ 109 from by omega)) hE hZ (uwV m_64_8 m_64_9 m_64_10 m_1_5 m_64_11) (hdV 1 (by decide +kernel) rfl) ⟨Nat.le_of_ble_eq_true rfl, Nat.le_of_ble_eq_true rfl⟩ rfl rfl (ci := 11) (q0 := 0) rfl rfl rfl hl.1 (Nat.le_of_ble_eq_true rfl) dX12_dump_67 ⟨Nat.le_of_ble_eq_true rfl, Nat.le_of_ble_eq_true rfl⟩ (fun t_96 H locs hw hP hD hS => ?_)
        obtain ⟨hok, f_98, p_99⟩ := hw
        have hfr : frA [(0, 30)] [] [11, 12, 13, 14] [] t t_96 := frA_tr hfr f_98 rfl
        have h_100 : (0 : Int) ≤ (t_96.1 0 30).toInt ∧ (t_96.1 0 30).toInt ≤ 120 := hok.1 0 30
        replace p_99 : (t_96.1 0 30).toInt = (t_88.1 0 30).toInt + 11 := p_99
        refine lv_aload_n C.1 C.2.1 dX12_dump_70 rfl (lv_at hl 0 rfl) ?_
        refine lv_bipush (v := 18) C.1 C.2.1 dX12_dump_71 (by decide) ?_
        refine g_Vv (As := [.int 18]) (rest := []) C hP hD hS hA (T_X12_print l D K Z Y ad t_96 hok 18 (show (17 : Int) ≤ (18 : Int32).toInt ∧ (18 : Int32).toInt ≤ 19 from ⟨by decide, by decide⟩)) hE hZ (uwV m_42_21 m_42_22 m_42_23 m_1_5 m_43_0) (hdV 1 (by decide +kernel) rfl) ⟨Nat.le_of_ble_eq_true rfl, Nat.le_of_ble_eq_true rfl⟩ rfl rfl (ci := 11) (q0 := 0) rfl rfl rfl hl.1 (Nat.le_of_ble_eq_true rfl) dX12_dump_73 ⟨Nat.le_of_ble_eq_true rfl, Nat.le_of_ble_eq_true rfl⟩ (fun t_101 H locs hw hP hD hS => ?_)
        obtain ⟨hok, f_103⟩ := hw
        have hfr : frA [(0, 30)] [] [11, 12, 13, 14] [] t t_101 := frA_tr hfr f_103 rfl
        have h_104 : (0 : Int) ≤ (t_101.1 0 30).toInt ∧ (t_101.1 0 30).toInt ≤ 120 := hok.1 0 30
        obtain ⟨v_105, e_106⟩ : ∃ z, z = w54_1 + 1 := ⟨_, rfl⟩
        have h_107 : v_105.toInt = w54_1.toInt + 1 := by rw [e_106]; exact ti_iadd (by show (_ : Int) ≤ w54_1.toInt + 1; omega) (by show w54_1.toInt + 1 < (_ : Int); omega)
        refine lv_iinc (v := v_105) (lv' := [(1, .int v_105), (0, .ref (ad 0))]) C.1 C.2.1 dX12_dump_76 hl (k := 1) rfl e_106.symm (by decide) rfl (fun ls hl => ?_)
        have hl : lv_has ls 4 [(0, .ref (ad 0)), (1, .int v_105)] := lv_sub hl [1, 0] rfl
        refine lv_goto (tgt := 2) C.1 C.2.1 dX12_dump_79 (by decide) ?_
        exact ih_2 t_101 v_105 _ _ _ hok hfr ⟨by omega, by omega⟩ (show (8 : Int) - v_105.toInt < (fuel_2 : Int) from by omega) hP hD hS (lv_sub hl [0, 1] rfl)
      have L_22 : ∀ (t1 : tSt) (w22_1 : Int32) (H : Heap) (locs : List Loc) (ls : Array Slot), okM t1 → frA [(0, 30)] [] [11, 12, 13, 14] [] t t1 → (0 : Int) ≤ w22_1.toInt ∧ w22_1.toInt ≤ 7 → ((t1.1 0 30).toInt = 0) → (8 : Int) - w22_1.toInt < (fuel_2 : Int) + 1 → va_P D vwCl (WM K ad t1) H → va_D A (WM K ad t1) → va_S A s.heap H locs → lv_has ls 4 [(0, .ref (ad 0)), (1, .int w22_1)] → W p l e (rmD 3 0 0) s m [.ref (ad 0)].toArray below meth c H locs 0 0 (MQ below (QV D K (fun (u : tSt) => okM u ∧ frA [(0, 30)] [] [11, 12, 13, 14] [] t u) (fun (u : tSt) => WM K ad u) A) [.ref (ad 0)].toArray s 0 0 A) (F0 m 22 ls []) := by
        intro t1 w22_1 H locs ls hok hfr hw22_1 hi22_0 hm22_2 hP hD hS hl
        have h_108 : (0 : Int) ≤ (t1.1 0 30).toInt ∧ (t1.1 0 30).toInt ≤ 120 := hok.1 0 30
        refine lv_aload_n C.1 C.2.1 dX12_dump_22 rfl (lv_at hl 0 rfl) ?_
        refine lv_iload_n C.1 C.2.1 dX12_dump_23 rfl (lv_at hl 1 rfl) ?_
        refine lv_if_ne (tgt := 32) C.1 C.2.1 dX12_dump_24 (by decide) (fun c_109 => ?_) (fun c_109 => ?_)
        · replace c_109 : ¬ w22_1.toInt = 0 := i_ne c_109
          refine lv_bipush (v := 88) C.1 C.2.1 dX12_dump_32 (by decide) ?_
          refine g_Vv (As := [.int 88]) (rest := []) C hP hD hS hA (T_X12_say l D K Z Y ad t1 hok 88 (show (t1.1 0 30).toInt ≤ 119 from by omega)) hE hZ (uwV m_42_13 m_42_14 m_42_15 m_1_5 m_42_16) (hdV 1 (by decide +kernel) rfl) ⟨Nat.le_of_ble_eq_true rfl, Nat.le_of_ble_eq_true rfl⟩ rfl rfl (ci := 11) (q0 := 0) rfl rfl rfl hl.1 (Nat.le_of_ble_eq_true rfl) dX12_dump_34 ⟨Nat.le_of_ble_eq_true rfl, Nat.le_of_ble_eq_true rfl⟩ (fun t_110 H locs hw hP hD hS => ?_)
          obtain ⟨hok, f_112, p_113⟩ := hw
          have hfr : frA [(0, 30)] [] [11, 12, 13, 14] [] t t_110 := frA_tr hfr f_112 rfl
          have h_114 : (0 : Int) ≤ (t_110.1 0 30).toInt ∧ (t_110.1 0 30).toInt ≤ 120 := hok.1 0 30
          replace p_113 : (t_110.1 0 30).toInt = (t1.1 0 30).toInt + 1 := p_113
          refine lv_goto (tgt := 54) C.1 C.2.1 dX12_dump_37 (by decide) ?_
          exact L_54 t_110 w22_1 _ _ _ hok hfr ⟨by omega, by omega⟩ (show (t_110.1 0 30).toInt ≤ 2 from by omega) (show (8 : Int) - w22_1.toInt < (fuel_2 : Int) + 1 from by omega) hP hD hS (lv_sub hl [0, 1] rfl)
        · replace c_109 : w22_1.toInt = 0 := i_eq c_109
          refine lv_bipush (v := 65) C.1 C.2.1 dX12_dump_27 (by decide) ?_
          refine lv_goto (tgt := 34) C.1 C.2.1 dX12_dump_29 (by decide) ?_
          refine g_Vv (As := [.int 65]) (rest := []) C hP hD hS hA (T_X12_say l D K Z Y ad t1 hok 65 (show (t1.1 0 30).toInt ≤ 119 from by omega)) hE hZ (uwV m_42_13 m_42_14 m_42_15 m_1_5 m_42_16) (hdV 1 (by decide +kernel) rfl) ⟨Nat.le_of_ble_eq_true rfl, Nat.le_of_ble_eq_true rfl⟩ rfl rfl (ci := 11) (q0 := 0) rfl rfl rfl hl.1 (Nat.le_of_ble_eq_true rfl) dX12_dump_34 ⟨Nat.le_of_ble_eq_true rfl, Nat.le_of_ble_eq_true rfl⟩ (fun t_115 H locs hw hP hD hS => ?_)
          obtain ⟨hok, f_117, p_118⟩ := hw
          have hfr : frA [(0, 30)] [] [11, 12, 13, 14] [] t t_115 := frA_tr hfr f_117 rfl
          have h_119 : (0 : Int) ≤ (t_115.1 0 30).toInt ∧ (t_115.1 0 30).toInt ≤ 120 := hok.1 0 30
          replace p_118 : (t_115.1 0 30).toInt = (t1.1 0 30).toInt + 1 := p_118
          refine lv_goto (tgt := 54) C.1 C.2.1 dX12_dump_37 (by decide) ?_
          exact L_54 t_115 w22_1 _ _ _ hok hfr ⟨by omega, by omega⟩ (show (t_115.1 0 30).toInt ≤ 2 from by omega) (show (8 : Int) - w22_1.toInt < (fuel_2 : Int) + 1 from by omega) hP hD hS (lv_sub hl [0, 1] rfl)
      refine lv_iload_n C.1 C.2.1 dX12_dump_2 rfl (lv_at hl 1 rfl) ?_
      refine lv_bipush (v := 8) C.1 C.2.1 dX12_dump_3 (by decide) ?_
      refine lv_icmp_ge (tgt := 82) C.1 C.2.1 dX12_dump_5 (by decide) (fun c_120 => ?_) (fun c_120 => ?_)
      · replace c_120 : 8 ≤ w2_1.toInt := i_le c_120
        refine lv_iconst (v := 0) C.1 C.2.1 dX12_dump_82 (by decide) ?_
        refine lv_istore_n (lv' := [(1, .int 0), (0, .ref (ad 0))]) C.1 C.2.1 dX12_dump_83 rfl hl (by decide) rfl (fun ls hl => ?_)
        have hl : lv_has ls 4 [(0, .ref (ad 0)), (1, .int 0)] := lv_sub hl [1, 0] rfl
        exact L_84 4096 t1 0 _ _ _ hok hfr ⟨by decide, by decide⟩ (show 0 % 4 = 0 from by omega) (show (4095 : Int) - 0 < ((4096 : Nat) : Int) from by omega) hP hD hS (lv_sub hl [0, 1] rfl)
      · replace c_120 : w2_1.toInt < 8 := i_nle c_120
        refine lv_aload_n C.1 C.2.1 dX12_dump_8 rfl (lv_at hl 0 rfl) ?_
        refine g_Vv (As := []) (rest := []) C hP hD hS hA (T_X12_begin l D K Z Y ad t1 hok ) hE hZ (uwV m_42_4 m_42_5 m_42_6 m_1_5 m_42_7) (hdV 0 (by decide +kernel) rfl) ⟨Nat.le_of_ble_eq_true rfl, Nat.le_of_ble_eq_true rfl⟩ rfl rfl (ci := 11) (q0 := 0) rfl rfl rfl hl.1 (Nat.le_of_ble_eq_true rfl) dX12_dump_9 ⟨Nat.le_of_ble_eq_true rfl, Nat.le_of_ble_eq_true rfl⟩ (fun t_121 H locs hw hP hD hS => ?_)
        obtain ⟨hok, f_123, p_124⟩ := hw
        have hfr : frA [(0, 30)] [] [11, 12, 13, 14] [] t t_121 := frA_tr hfr f_123 rfl
        have h_125 : (0 : Int) ≤ (t_121.1 0 30).toInt ∧ (t_121.1 0 30).toInt ≤ 120 := hok.1 0 30
        replace p_124 : (t_121.1 0 30).toInt = 0 := p_124
        refine lv_iload_n C.1 C.2.1 dX12_dump_12 rfl (lv_at hl 1 rfl) ?_
        refine lv_if_eq (tgt := 22) C.1 C.2.1 dX12_dump_13 (by decide) (fun c_126 => ?_) (fun c_126 => ?_)
        · replace c_126 : w2_1.toInt = 0 := i_eq c_126
          exact L_22 t_121 w2_1 _ _ _ hok hfr ⟨by omega, by omega⟩ (show (t_121.1 0 30).toInt = 0 from by omega) (show (8 : Int) - w2_1.toInt < (fuel_2 : Int) + 1 from by omega) hP hD hS (lv_sub hl [0, 1] rfl)
        · replace c_126 : ¬ w2_1.toInt = 0 := i_ne c_126
          refine lv_iload_n C.1 C.2.1 dX12_dump_16 rfl (lv_at hl 1 rfl) ?_
          refine lv_bipush (v := 7) C.1 C.2.1 dX12_dump_17 (by decide) ?_
          refine lv_icmp_ne (tgt := 40) C.1 C.2.1 dX12_dump_19 (by decide) (fun c_127 => ?_) (fun c_127 => ?_)
          · replace c_127 : ¬ w2_1.toInt = 7 := i_ne c_127
            refine lv_aload_n C.1 C.2.1 dX12_dump_40 rfl (lv_at hl 0 rfl) ?_
            refine lv_bipush (v := 73) C.1 C.2.1 dX12_dump_41 (by decide) ?_
            refine g_Vv (As := [.int 73]) (rest := []) C hP hD hS hA (T_X12_say l D K Z Y ad t_121 hok 73 (show (t_121.1 0 30).toInt ≤ 119 from by omega)) hE hZ (uwV m_42_13 m_42_14 m_42_15 m_1_5 m_42_16) (hdV 1 (by decide +kernel) rfl) ⟨Nat.le_of_ble_eq_true rfl, Nat.le_of_ble_eq_true rfl⟩ rfl rfl (ci := 11) (q0 := 0) rfl rfl rfl hl.1 (Nat.le_of_ble_eq_true rfl) dX12_dump_43 ⟨Nat.le_of_ble_eq_true rfl, Nat.le_of_ble_eq_true rfl⟩ (fun t_128 H locs hw hP hD hS => ?_)
            obtain ⟨hok, f_130, p_131⟩ := hw
            have hfr : frA [(0, 30)] [] [11, 12, 13, 14] [] t t_128 := frA_tr hfr f_130 rfl
            have h_132 : (0 : Int) ≤ (t_128.1 0 30).toInt ∧ (t_128.1 0 30).toInt ≤ 120 := hok.1 0 30
            replace p_131 : (t_128.1 0 30).toInt = (t_121.1 0 30).toInt + 1 := p_131
            refine lv_aload_n C.1 C.2.1 dX12_dump_46 rfl (lv_at hl 0 rfl) ?_
            refine lv_bipush (v := 48) C.1 C.2.1 dX12_dump_47 (by decide) ?_
            refine lv_iload_n C.1 C.2.1 dX12_dump_49 rfl (lv_at hl 1 rfl) ?_
            obtain ⟨v_133, e_134⟩ : ∃ z, z = (48 : Int32) + (w2_1 : Int32) := ⟨_, rfl⟩
            have h_135 : v_133.toInt = 48 + w2_1.toInt := by rw [e_134]; exact ti_iadd (by show (_ : Int) ≤ 48 + w2_1.toInt; omega) (by show 48 + w2_1.toInt < (_ : Int); omega)
            refine k_iadd (v := v_133) C e_134.symm dX12_dump_50 ?_
            refine g_Vv (As := [.int v_133]) (rest := []) C hP hD hS hA (T_X12_say l D K Z Y ad t_128 hok (v_133) (show (t_128.1 0 30).toInt ≤ 119 from by omega)) hE hZ (uwV m_42_13 m_42_14 m_42_15 m_1_5 m_42_16) (hdV 1 (by decide +kernel) rfl) ⟨Nat.le_of_ble_eq_true rfl, Nat.le_of_ble_eq_true rfl⟩ rfl rfl (ci := 11) (q0 := 0) rfl rfl rfl hl.1 (Nat.le_of_ble_eq_true rfl) dX12_dump_51 ⟨Nat.le_of_ble_eq_true rfl, Nat.le_of_ble_eq_true rfl⟩ (fun t_136 H locs hw hP hD hS => ?_)
            obtain ⟨hok, f_138, p_139⟩ := hw
            have hfr : frA [(0, 30)] [] [11, 12, 13, 14] [] t t_136 := frA_tr hfr f_138 rfl
            have h_140 : (0 : Int) ≤ (t_136.1 0 30).toInt ∧ (t_136.1 0 30).toInt ≤ 120 := hok.1 0 30
            replace p_139 : (t_136.1 0 30).toInt = (t_128.1 0 30).toInt + 1 := p_139
            exact L_54 t_136 w2_1 _ _ _ hok hfr ⟨by omega, by omega⟩ (show (t_136.1 0 30).toInt ≤ 2 from by omega) (show (8 : Int) - w2_1.toInt < (fuel_2 : Int) + 1 from by omega) hP hD hS (lv_sub hl [0, 1] rfl)
          · replace c_127 : w2_1.toInt = 7 := i_eq c_127
            exact L_22 t_121 w2_1 _ _ _ hok hfr ⟨by omega, by omega⟩ (show (t_121.1 0 30).toInt = 0 from by omega) (show (8 : Int) - w2_1.toInt < (fuel_2 : Int) + 1 from by omega) hP hD hS (lv_sub hl [0, 1] rfl)
  refine lv_iconst (v := 0) C.1 C.2.1 dX12_dump_0 (by decide) ?_
  refine lv_istore_n (lv' := [(1, .int 0), (0, .ref (ad 0))]) C.1 C.2.1 dX12_dump_1 rfl hl (by decide) rfl (fun ls hl => ?_)
  have hl : lv_has ls 4 [(0, .ref (ad 0)), (1, .int 0)] := lv_sub hl [1, 0] rfl
  exact L_2 9 t 0 _ _ _ hok hfr ⟨by decide, by decide⟩ (show (8 : Int) - 0 < ((9 : Nat) : Int) from by omega) hP hD hS (lv_sub hl [0, 1] rfl)

theorem dX12_fiveLetters_0 : decode cX12_fiveLetters 0 = .ok (.iconst 0, 1) := by decide +kernel
theorem dX12_fiveLetters_1 : decode cX12_fiveLetters 1 = .ok (.istore_n 1, 1) := by decide +kernel
theorem dX12_fiveLetters_11 : decode cX12_fiveLetters 11 = .ok (.iload_n 1, 1) := by decide +kernel
theorem dX12_fiveLetters_12 : decode cX12_fiveLetters 12 = .ok (.bipush 6, 2) := by decide +kernel
theorem dX12_fiveLetters_14 : decode cX12_fiveLetters 14 = .ok (.ishl, 1) := by decide +kernel
theorem dX12_fiveLetters_15 : decode cX12_fiveLetters 15 = .ok (.aload_n 0, 1) := by decide +kernel
theorem dX12_fiveLetters_16 : decode cX12_fiveLetters 16 = .ok (.iload_n 2, 1) := by decide +kernel
theorem dX12_fiveLetters_17 : decode cX12_fiveLetters 17 = .ok (.invokevirtual 446, 3) := by decide +kernel
theorem dX12_fiveLetters_2 : decode cX12_fiveLetters 2 = .ok (.bipush 17, 2) := by decide +kernel
theorem dX12_fiveLetters_20 : decode cX12_fiveLetters 20 = .ok (.invokestatic 183, 3) := by decide +kernel
theorem dX12_fiveLetters_23 : decode cX12_fiveLetters 23 = .ok (.ior, 1) := by decide +kernel
theorem dX12_fiveLetters_24 : decode cX12_fiveLetters 24 = .ok (.istore_n 1, 1) := by decide +kernel
theorem dX12_fiveLetters_25 : decode cX12_fiveLetters 25 = .ok (.iinc 2 1, 3) := by decide +kernel
theorem dX12_fiveLetters_28 : decode cX12_fiveLetters 28 = .ok (.goto (-23), 3) := by decide +kernel
theorem dX12_fiveLetters_31 : decode cX12_fiveLetters 31 = .ok (.iload_n 1, 1) := by decide +kernel
theorem dX12_fiveLetters_32 : decode cX12_fiveLetters 32 = .ok (.ireturn, 1) := by decide +kernel
theorem dX12_fiveLetters_4 : decode cX12_fiveLetters 4 = .ok (.istore_n 2, 1) := by decide +kernel
theorem dX12_fiveLetters_5 : decode cX12_fiveLetters 5 = .ok (.iload_n 2, 1) := by decide +kernel
theorem dX12_fiveLetters_6 : decode cX12_fiveLetters 6 = .ok (.bipush 22, 2) := by decide +kernel
theorem dX12_fiveLetters_8 : decode cX12_fiveLetters 8 = .ok (.if_icmp .ge 23, 3) := by decide +kernel
set_option maxHeartbeats 4000000 in
set_option maxRecDepth 100000 in
theorem T_X12_fiveLetters (l : Launch) (D : va_G) (K : Nat → ClassId) (Z Y : Nat → Nat) (ad : Nat → Nat) (t : tSt) (hok : okM t)  : tMet l yX12_fiveLetters cX12_fiveLetters 3 (some .int) (rmD 8 0 0) D K Z Y [.ref (ad 0)] (WM K ad t) (QI D K (fun (r : Int32) (u : Unit) => (-2147483648 : Int) ≤ r.toInt ∧ r.toInt ≤ 2147483647) (fun (_ : Unit) => WM K ad t)) 0 0 := by
  refine t_met RX12 ⟨rfl, by decide +kernel⟩ (Nat.le_of_ble_eq_true rfl) ?_
  intro p e s m below meth c A ls C hE hZ hr hlocks hA hP hD hS hl
  have hl : lv_has ls 3 [(0, .ref (ad 0))] := hl
  have h_1 : (0 : Int) ≤ (t.1 0 67).toInt ∧ (t.1 0 67).toInt ≤ 1281 := hok.1 0 67
  have L_5 : ∀ (fuel_5 : Nat) (w5_1 : Int32) (w5_2 : Int32) (H : Heap) (locs : List Loc) (ls : Array Slot), (17 : Int) ≤ w5_2.toInt ∧ w5_2.toInt ≤ 31 → (31 : Int) - w5_2.toInt < (fuel_5 : Int) → va_P D vwCl (WM K ad t) H → va_D A (WM K ad t) → va_S A s.heap H locs → lv_has ls 3 [(0, .ref (ad 0)), (1, .int w5_1), (2, .int w5_2)] → W p l e (rmD 8 0 0) s m [.ref (ad 0)].toArray below meth c H locs 0 0 (MQ below (QI D K (fun (r : Int32) (u : Unit) => (-2147483648 : Int) ≤ r.toInt ∧ r.toInt ≤ 2147483647) (fun (_ : Unit) => WM K ad t) A) [.ref (ad 0)].toArray s 0 0 A) (F0 m 5 ls []) := by
    intro fuel_5
    induction fuel_5 with
    | zero =>
      intro w5_1 w5_2 H locs ls hw5_2 hm5_5 hP hD hS hl
      have h_2 : (0 : Int) ≤ (t.1 0 67).toInt ∧ (t.1 0 67).toInt ≤ 1281 := hok.1 0 67
      exact absurd hm5_5 (by omega)
    | succ fuel_5 ih_5 =>
      intro w5_1 w5_2 H locs ls hw5_2 hm5_5 hP hD hS hl
      have hm5_5 : (31 : Int) - w5_2.toInt < (fuel_5 : Int) + 1 := by omega
      have h_3 : (0 : Int) ≤ (t.1 0 67).toInt ∧ (t.1 0 67).toInt ≤ 1281 := hok.1 0 67
      refine lv_iload_n C.1 C.2.1 dX12_fiveLetters_5 rfl (lv_at hl 2 rfl) ?_
      refine lv_bipush (v := 22) C.1 C.2.1 dX12_fiveLetters_6 (by decide) ?_
      refine lv_icmp_ge (tgt := 31) C.1 C.2.1 dX12_fiveLetters_8 (by decide) (fun c_4 => ?_) (fun c_4 => ?_)
      · replace c_4 : 22 ≤ w5_2.toInt := i_le c_4
        refine lv_iload_n C.1 C.2.1 dX12_fiveLetters_31 rfl (lv_at hl 1 rfl) ?_
        exact g_iret C hr hlocks hP hD hS rfl () rfl ⟨(i_rng _).1, (i_rng _).2⟩ (Nat.le_of_ble_eq_true rfl) (Nat.le_of_ble_eq_true rfl) dX12_fiveLetters_32
      · replace c_4 : w5_2.toInt < 22 := i_nle c_4
        refine lv_iload_n C.1 C.2.1 dX12_fiveLetters_11 rfl (lv_at hl 1 rfl) ?_
        refine lv_bipush (v := 6) C.1 C.2.1 dX12_fiveLetters_12 (by decide) ?_
        obtain ⟨v_5, e_6⟩ : ∃ z, z = (w5_1 : Int32) <<< ((6 : Int32) &&& 31) := ⟨_, rfl⟩
        refine k_ishl (v := v_5) C e_6.symm dX12_fiveLetters_14 ?_
        refine lv_aload_n C.1 C.2.1 dX12_fiveLetters_15 rfl (lv_at hl 0 rfl) ?_
        refine lv_iload_n C.1 C.2.1 dX12_fiveLetters_16 rfl (lv_at hl 2 rfl) ?_
        refine g_Vi (As := [.int w5_2]) (rest := [.int v_5]) C hP hD hS hA (T_X12_letterAt l D K Z Y ad t hok (w5_2) (show (1 : Int) ≤ (w5_2 : Int32).toInt ∧ (w5_2 : Int32).toInt ≤ 100 from ⟨by omega, by omega⟩)) hE hZ (uwV m_31_8 m_31_9 m_31_10 m_1_5 m_31_11) (hdV 1 (by decide +kernel) rfl) ⟨Nat.le_of_ble_eq_true rfl, Nat.le_of_ble_eq_true rfl⟩ rfl rfl (ci := 11) (q0 := 0) rfl rfl rfl hl.1 (Nat.le_of_ble_eq_true rfl) dX12_fiveLetters_17 ⟨Nat.le_of_ble_eq_true rfl, Nat.le_of_ble_eq_true rfl⟩ (fun r_9 t_8 H locs hw hP hD hS => ?_)
        obtain ⟨h_11, h_12, p_13, p_14, p_15, p_16⟩ := hw
        replace p_13 : r_9 = fLet t w5_2 := p_13
        replace p_14 : r_9.toInt = (fLet t w5_2).toInt := p_14
        replace p_15 : ¬ r_9.toInt = 32 → (t.2.2.1 19 ((t.1 0 67) : Int32).toNatClampNeg).toInt + w5_2.toInt ≤ (t.2.2.1 20 ((t.1 0 67) : Int32).toNatClampNeg).toInt := p_15
        replace p_16 : 81 ≤ w5_2.toInt → r_9.toInt = 32 := p_16
        refine g_Si (As := [.int r_9]) (rest := [.int v_5]) C hP hD hS hA (T_X12_byteOf l D K Z Y ad t hok (r_9) (show (-3999 : Int) ≤ (r_9 : Int32).toInt ∧ (r_9 : Int32).toInt ≤ 255 from ⟨by omega, by omega⟩)) hE hZ (uwS m_31_15 m_31_16 m_1_5 m_31_17) (hdS 1 (by decide +kernel) rfl) ⟨Nat.le_of_ble_eq_true rfl, Nat.le_of_ble_eq_true rfl⟩ rfl rfl rfl hl.1 (Nat.le_of_ble_eq_true rfl) dX12_fiveLetters_20 ⟨Nat.le_of_ble_eq_true rfl, Nat.le_of_ble_eq_true rfl⟩ (fun r_18 t_17 H locs hw hP hD hS => ?_)
        obtain ⟨h_20, h_21, p_22⟩ := hw
        replace p_22 : r_18 = bO r_9 := p_22
        obtain ⟨v_23, e_24⟩ : ∃ z, z = (v_5 : Int32) ||| (r_18 : Int32) := ⟨_, rfl⟩
        refine k_ior (v := v_23) C e_24.symm dX12_fiveLetters_23 ?_
        refine lv_istore_n (lv' := [(1, .int v_23), (0, .ref (ad 0)), (2, .int w5_2)]) C.1 C.2.1 dX12_fiveLetters_24 rfl hl (by decide) rfl (fun ls hl => ?_)
        have hl : lv_has ls 3 [(0, .ref (ad 0)), (1, .int v_23), (2, .int w5_2)] := lv_sub hl [1, 0, 2] rfl
        obtain ⟨v_26, e_27⟩ : ∃ z, z = w5_2 + 1 := ⟨_, rfl⟩
        have h_28 : v_26.toInt = w5_2.toInt + 1 := by rw [e_27]; exact ti_iadd (by show (_ : Int) ≤ w5_2.toInt + 1; omega) (by show w5_2.toInt + 1 < (_ : Int); omega)
        refine lv_iinc (v := v_26) (lv' := [(2, .int v_26), (0, .ref (ad 0)), (1, .int v_23)]) C.1 C.2.1 dX12_fiveLetters_25 hl (k := 2) rfl e_27.symm (by decide) rfl (fun ls hl => ?_)
        have hl : lv_has ls 3 [(0, .ref (ad 0)), (1, .int v_23), (2, .int v_26)] := lv_sub hl [1, 2, 0] rfl
        refine lv_goto (tgt := 5) C.1 C.2.1 dX12_fiveLetters_28 (by decide) ?_
        exact ih_5 v_23 v_26 _ _ _ ⟨by omega, by omega⟩ (show (31 : Int) - v_26.toInt < (fuel_5 : Int) from by omega) hP hD hS (lv_sub hl [0, 1, 2] rfl)
  refine lv_iconst (v := 0) C.1 C.2.1 dX12_fiveLetters_0 (by decide) ?_
  refine lv_istore_n (lv' := [(1, .int 0), (0, .ref (ad 0))]) C.1 C.2.1 dX12_fiveLetters_1 rfl hl (by decide) rfl (fun ls hl => ?_)
  have hl : lv_has ls 3 [(0, .ref (ad 0)), (1, .int 0)] := lv_sub hl [1, 0] rfl
  refine lv_bipush (v := 17) C.1 C.2.1 dX12_fiveLetters_2 (by decide) ?_
  refine lv_istore_n (lv' := [(2, .int 17), (0, .ref (ad 0)), (1, .int 0)]) C.1 C.2.1 dX12_fiveLetters_4 rfl hl (by decide) rfl (fun ls hl => ?_)
  have hl : lv_has ls 3 [(0, .ref (ad 0)), (1, .int 0), (2, .int 17)] := lv_sub hl [1, 2, 0] rfl
  exact L_5 15 0 17 _ _ _ ⟨by decide, by decide⟩ (show (31 : Int) - 17 < ((15 : Nat) : Int) from by omega) hP hD hS (lv_sub hl [0, 1, 2] rfl)

theorem dX12_isTooMuch_0 : decode cX12_isTooMuch 0 = .ok (.aload_n 0, 1) := by decide +kernel
theorem dX12_isTooMuch_1 : decode cX12_isTooMuch 1 = .ok (.getfield 282, 3) := by decide +kernel
theorem dX12_isTooMuch_10 : decode cX12_isTooMuch 10 = .ok (.getfield 282, 3) := by decide +kernel
theorem dX12_isTooMuch_100 : decode cX12_isTooMuch 100 = .ok (.aload_n 0, 1) := by decide +kernel
theorem dX12_isTooMuch_101 : decode cX12_isTooMuch 101 = .ok (.getfield 282, 3) := by decide +kernel
theorem dX12_isTooMuch_104 : decode cX12_isTooMuch 104 = .ok (.bipush 48, 2) := by decide +kernel
theorem dX12_isTooMuch_106 : decode cX12_isTooMuch 106 = .ok (.isub, 1) := by decide +kernel
theorem dX12_isTooMuch_107 : decode cX12_isTooMuch 107 = .ok (.iaload, 1) := by decide +kernel
theorem dX12_isTooMuch_108 : decode cX12_isTooMuch 108 = .ok (.invokestatic 161, 3) := by decide +kernel
theorem dX12_isTooMuch_111 : decode cX12_isTooMuch 111 = .ok (.istore_n 2, 1) := by decide +kernel
theorem dX12_isTooMuch_112 : decode cX12_isTooMuch 112 = .ok (.aload_n 0, 1) := by decide +kernel
theorem dX12_isTooMuch_113 : decode cX12_isTooMuch 113 = .ok (.getfield 289, 3) := by decide +kernel
theorem dX12_isTooMuch_116 : decode cX12_isTooMuch 116 = .ok (.ifCond .ne 12, 3) := by decide +kernel
theorem dX12_isTooMuch_119 : decode cX12_isTooMuch 119 = .ok (.iload_n 2, 1) := by decide +kernel
theorem dX12_isTooMuch_120 : decode cX12_isTooMuch 120 = .ok (.aload_n 0, 1) := by decide +kernel
theorem dX12_isTooMuch_121 : decode cX12_isTooMuch 121 = .ok (.getfield 251, 3) := by decide +kernel
theorem dX12_isTooMuch_124 : decode cX12_isTooMuch 124 = .ok (.iadd, 1) := by decide +kernel
theorem dX12_isTooMuch_125 : decode cX12_isTooMuch 125 = .ok (.goto 24, 3) := by decide +kernel
theorem dX12_isTooMuch_128 : decode cX12_isTooMuch 128 = .ok (.aload_n 0, 1) := by decide +kernel
theorem dX12_isTooMuch_129 : decode cX12_isTooMuch 129 = .ok (.getfield 289, 3) := by decide +kernel
theorem dX12_isTooMuch_13 : decode cX12_isTooMuch 13 = .ok (.bipush 15, 2) := by decide +kernel
theorem dX12_isTooMuch_132 : decode cX12_isTooMuch 132 = .ok (.iconst 1, 1) := by decide +kernel
theorem dX12_isTooMuch_133 : decode cX12_isTooMuch 133 = .ok (.if_icmp .ne 12, 3) := by decide +kernel
theorem dX12_isTooMuch_136 : decode cX12_isTooMuch 136 = .ok (.iload_n 2, 1) := by decide +kernel
theorem dX12_isTooMuch_137 : decode cX12_isTooMuch 137 = .ok (.aload_n 0, 1) := by decide +kernel
theorem dX12_isTooMuch_138 : decode cX12_isTooMuch 138 = .ok (.getfield 251, 3) := by decide +kernel
theorem dX12_isTooMuch_141 : decode cX12_isTooMuch 141 = .ok (.isub, 1) := by decide +kernel
theorem dX12_isTooMuch_142 : decode cX12_isTooMuch 142 = .ok (.goto 7, 3) := by decide +kernel
theorem dX12_isTooMuch_145 : decode cX12_isTooMuch 145 = .ok (.aload_n 0, 1) := by decide +kernel
theorem dX12_isTooMuch_146 : decode cX12_isTooMuch 146 = .ok (.getfield 251, 3) := by decide +kernel
theorem dX12_isTooMuch_149 : decode cX12_isTooMuch 149 = .ok (.istore_n 3, 1) := by decide +kernel
theorem dX12_isTooMuch_15 : decode cX12_isTooMuch 15 = .ok (.if_icmp .lt 21, 3) := by decide +kernel
theorem dX12_isTooMuch_150 : decode cX12_isTooMuch 150 = .ok (.iload_n 3, 1) := by decide +kernel
theorem dX12_isTooMuch_151 : decode cX12_isTooMuch 151 = .ok (.sipush 4095, 3) := by decide +kernel
theorem dX12_isTooMuch_154 : decode cX12_isTooMuch 154 = .ok (.if_icmp .gt 10, 3) := by decide +kernel
theorem dX12_isTooMuch_157 : decode cX12_isTooMuch 157 = .ok (.iload_n 3, 1) := by decide +kernel
theorem dX12_isTooMuch_158 : decode cX12_isTooMuch 158 = .ok (.sipush (-4095), 3) := by decide +kernel
theorem dX12_isTooMuch_161 : decode cX12_isTooMuch 161 = .ok (.if_icmp .ge 7, 3) := by decide +kernel
theorem dX12_isTooMuch_164 : decode cX12_isTooMuch 164 = .ok (.iconst 1, 1) := by decide +kernel
theorem dX12_isTooMuch_165 : decode cX12_isTooMuch 165 = .ok (.goto 4, 3) := by decide +kernel
theorem dX12_isTooMuch_168 : decode cX12_isTooMuch 168 = .ok (.iconst 0, 1) := by decide +kernel
theorem dX12_isTooMuch_169 : decode cX12_isTooMuch 169 = .ok (.ireturn, 1) := by decide +kernel
theorem dX12_isTooMuch_18 : decode cX12_isTooMuch 18 = .ok (.aload_n 0, 1) := by decide +kernel
theorem dX12_isTooMuch_19 : decode cX12_isTooMuch 19 = .ok (.getfield 282, 3) := by decide +kernel
theorem dX12_isTooMuch_22 : decode cX12_isTooMuch 22 = .ok (.bipush 16, 2) := by decide +kernel
theorem dX12_isTooMuch_24 : decode cX12_isTooMuch 24 = .ok (.if_icmp .le 16, 3) := by decide +kernel
theorem dX12_isTooMuch_27 : decode cX12_isTooMuch 27 = .ok (.aload_n 0, 1) := by decide +kernel
theorem dX12_isTooMuch_28 : decode cX12_isTooMuch 28 = .ok (.getfield 282, 3) := by decide +kernel
theorem dX12_isTooMuch_31 : decode cX12_isTooMuch 31 = .ok (.bipush 23, 2) := by decide +kernel
theorem dX12_isTooMuch_33 : decode cX12_isTooMuch 33 = .ok (.if_icmp .ge 7, 3) := by decide +kernel
theorem dX12_isTooMuch_36 : decode cX12_isTooMuch 36 = .ok (.iconst 1, 1) := by decide +kernel
theorem dX12_isTooMuch_37 : decode cX12_isTooMuch 37 = .ok (.goto 4, 3) := by decide +kernel
theorem dX12_isTooMuch_4 : decode cX12_isTooMuch 4 = .ok (.bipush 8, 2) := by decide +kernel
theorem dX12_isTooMuch_40 : decode cX12_isTooMuch 40 = .ok (.iconst 0, 1) := by decide +kernel
theorem dX12_isTooMuch_41 : decode cX12_isTooMuch 41 = .ok (.istore_n 1, 1) := by decide +kernel
theorem dX12_isTooMuch_42 : decode cX12_isTooMuch 42 = .ok (.iload_n 1, 1) := by decide +kernel
theorem dX12_isTooMuch_43 : decode cX12_isTooMuch 43 = .ok (.ifCond .eq 33, 3) := by decide +kernel
theorem dX12_isTooMuch_46 : decode cX12_isTooMuch 46 = .ok (.aload_n 0, 1) := by decide +kernel
theorem dX12_isTooMuch_47 : decode cX12_isTooMuch 47 = .ok (.aload_n 0, 1) := by decide +kernel
theorem dX12_isTooMuch_48 : decode cX12_isTooMuch 48 = .ok (.getfield 251, 3) := by decide +kernel
theorem dX12_isTooMuch_51 : decode cX12_isTooMuch 51 = .ok (.invokevirtual 260, 3) := by decide +kernel
theorem dX12_isTooMuch_54 : decode cX12_isTooMuch 54 = .ok (.aload_n 0, 1) := by decide +kernel
theorem dX12_isTooMuch_55 : decode cX12_isTooMuch 55 = .ok (.getfield 289, 3) := by decide +kernel
theorem dX12_isTooMuch_58 : decode cX12_isTooMuch 58 = .ok (.invokestatic 303, 3) := by decide +kernel
theorem dX12_isTooMuch_6 : decode cX12_isTooMuch 6 = .ok (.if_icmp .le 12, 3) := by decide +kernel
theorem dX12_isTooMuch_61 : decode cX12_isTooMuch 61 = .ok (.ldc 159, 2) := by decide +kernel
theorem dX12_isTooMuch_63 : decode cX12_isTooMuch 63 = .ok (.iand, 1) := by decide +kernel
theorem dX12_isTooMuch_64 : decode cX12_isTooMuch 64 = .ok (.sipush 4095, 3) := by decide +kernel
theorem dX12_isTooMuch_67 : decode cX12_isTooMuch 67 = .ok (.if_icmp .le 7, 3) := by decide +kernel
theorem dX12_isTooMuch_70 : decode cX12_isTooMuch 70 = .ok (.iconst 1, 1) := by decide +kernel
theorem dX12_isTooMuch_71 : decode cX12_isTooMuch 71 = .ok (.goto 4, 3) := by decide +kernel
theorem dX12_isTooMuch_74 : decode cX12_isTooMuch 74 = .ok (.iconst 0, 1) := by decide +kernel
theorem dX12_isTooMuch_75 : decode cX12_isTooMuch 75 = .ok (.ireturn, 1) := by decide +kernel
theorem dX12_isTooMuch_76 : decode cX12_isTooMuch 76 = .ok (.aload_n 0, 1) := by decide +kernel
theorem dX12_isTooMuch_77 : decode cX12_isTooMuch 77 = .ok (.getfield 282, 3) := by decide +kernel
theorem dX12_isTooMuch_80 : decode cX12_isTooMuch 80 = .ok (.bipush 49, 2) := by decide +kernel
theorem dX12_isTooMuch_82 : decode cX12_isTooMuch 82 = .ok (.if_icmp .lt 12, 3) := by decide +kernel
theorem dX12_isTooMuch_85 : decode cX12_isTooMuch 85 = .ok (.aload_n 0, 1) := by decide +kernel
theorem dX12_isTooMuch_86 : decode cX12_isTooMuch 86 = .ok (.getfield 282, 3) := by decide +kernel
theorem dX12_isTooMuch_89 : decode cX12_isTooMuch 89 = .ok (.bipush 54, 2) := by decide +kernel
theorem dX12_isTooMuch_9 : decode cX12_isTooMuch 9 = .ok (.aload_n 0, 1) := by decide +kernel
theorem dX12_isTooMuch_91 : decode cX12_isTooMuch 91 = .ok (.if_icmp .le 5, 3) := by decide +kernel
theorem dX12_isTooMuch_94 : decode cX12_isTooMuch 94 = .ok (.iconst 0, 1) := by decide +kernel
theorem dX12_isTooMuch_95 : decode cX12_isTooMuch 95 = .ok (.ireturn, 1) := by decide +kernel
theorem dX12_isTooMuch_96 : decode cX12_isTooMuch 96 = .ok (.aload_n 0, 1) := by decide +kernel
theorem dX12_isTooMuch_97 : decode cX12_isTooMuch 97 = .ok (.getfield 17, 3) := by decide +kernel
set_option maxHeartbeats 4000000 in
set_option maxRecDepth 100000 in
theorem T_X12_isTooMuch (l : Launch) (D : va_G) (K : Nat → ClassId) (Z Y : Nat → Nat) (ad : Nat → Nat) (t : tSt) (hok : okM t) (hs0 : (t.1 0 16).toInt > 8 ∧ (t.1 0 16).toInt < 15 ∨ (t.1 0 16).toInt > 16 ∧ (t.1 0 16).toInt < 23 → -3999 ≤ (t.1 0 18).toInt ∧ (t.1 0 18).toInt ≤ 3999) : tMet l yX12_isTooMuch cX12_isTooMuch 4 (some .boolean) (rmD 1 0 0) D K Z Y [.ref (ad 0)] (WM K ad t) (QI D K (fun (r : Int32) (u : Unit) => (0 : Int) ≤ r.toInt ∧ r.toInt ≤ 1) (fun (_ : Unit) => WM K ad t)) 0 0 := by
  refine t_met RX12 ⟨rfl, by decide +kernel⟩ (Nat.le_of_ble_eq_true rfl) ?_
  intro p e s m below meth c A ls C hE hZ hr hlocks hA hP hD hS hl
  have hl : lv_has ls 4 [(0, .ref (ad 0))] := hl
  have h_1 : (0 : Int) ≤ (t.1 0 16).toInt ∧ (t.1 0 16).toInt ≤ 63 := hok.1 0 16
  refine lv_aload_n C.1 C.2.1 dX12_isTooMuch_0 rfl (lv_at hl 0 rfl) ?_
  refine k_get (v := .int (t.1 0 16)) C hP 0 rfl rfl inlX12 16 (by decide) m_57_3 rfl dX12_isTooMuch_1 ?_
  refine lv_bipush (v := 8) C.1 C.2.1 dX12_isTooMuch_4 (by decide) ?_
  refine lv_icmp_le (tgt := 18) C.1 C.2.1 dX12_isTooMuch_6 (by decide) (fun c_2 => ?_) (fun c_2 => ?_)
  · replace c_2 : (t.1 0 16).toInt ≤ 8 := i_le c_2
    refine lv_aload_n C.1 C.2.1 dX12_isTooMuch_18 rfl (lv_at hl 0 rfl) ?_
    refine k_get (v := .int (t.1 0 16)) C hP 0 rfl rfl inlX12 16 (by decide) m_57_3 rfl dX12_isTooMuch_19 ?_
    refine lv_bipush (v := 16) C.1 C.2.1 dX12_isTooMuch_22 (by decide) ?_
    refine lv_icmp_le (tgt := 40) C.1 C.2.1 dX12_isTooMuch_24 (by decide) (fun c_3 => ?_) (fun c_3 => False.elim (by have c_3 : 16 < (t.1 0 16).toInt := i_nle c_3; omega))
    replace c_3 : (t.1 0 16).toInt ≤ 16 := i_le c_3
    refine lv_iconst (v := 0) C.1 C.2.1 dX12_isTooMuch_40 (by decide) ?_
    refine lv_istore_n (lv' := [(1, .int 0), (0, .ref (ad 0))]) C.1 C.2.1 dX12_isTooMuch_41 rfl hl (by decide) rfl (fun ls hl => ?_)
    have hl : lv_has ls 4 [(0, .ref (ad 0)), (1, .int 0)] := lv_sub hl [1, 0] rfl
    refine lv_iload_n C.1 C.2.1 dX12_isTooMuch_42 rfl (lv_at hl 1 rfl) ?_
    refine lv_if_eq (tgt := 76) C.1 C.2.1 dX12_isTooMuch_43 (by decide) (fun _ => ?_) (fun h => absurd (by decide) h)
    refine lv_aload_n C.1 C.2.1 dX12_isTooMuch_76 rfl (lv_at hl 0 rfl) ?_
    refine k_get (v := .int (t.1 0 16)) C hP 0 rfl rfl inlX12 16 (by decide) m_57_3 rfl dX12_isTooMuch_77 ?_
    refine lv_bipush (v := 49) C.1 C.2.1 dX12_isTooMuch_80 (by decide) ?_
    refine lv_icmp_lt (tgt := 94) C.1 C.2.1 dX12_isTooMuch_82 (by decide) (fun c_4 => ?_) (fun c_4 => False.elim (by have c_4 : 49 ≤ (t.1 0 16).toInt := i_nlt c_4; omega))
    replace c_4 : (t.1 0 16).toInt < 49 := i_lt c_4
    refine lv_iconst (v := 0) C.1 C.2.1 dX12_isTooMuch_94 (by decide) ?_
    exact g_iret C hr hlocks hP hD hS (by decide) () rfl ⟨by decide, by decide⟩ (Nat.le_of_ble_eq_true rfl) (Nat.le_of_ble_eq_true rfl) dX12_isTooMuch_95
  · replace c_2 : 8 < (t.1 0 16).toInt := i_nle c_2
    refine lv_aload_n C.1 C.2.1 dX12_isTooMuch_9 rfl (lv_at hl 0 rfl) ?_
    refine k_get (v := .int (t.1 0 16)) C hP 0 rfl rfl inlX12 16 (by decide) m_57_3 rfl dX12_isTooMuch_10 ?_
    refine lv_bipush (v := 15) C.1 C.2.1 dX12_isTooMuch_13 (by decide) ?_
    refine lv_icmp_lt (tgt := 36) C.1 C.2.1 dX12_isTooMuch_15 (by decide) (fun c_5 => ?_) (fun c_5 => ?_)
    · replace c_5 : (t.1 0 16).toInt < 15 := i_lt c_5
      refine lv_iconst (v := 1) C.1 C.2.1 dX12_isTooMuch_36 (by decide) ?_
      refine lv_goto (tgt := 41) C.1 C.2.1 dX12_isTooMuch_37 (by decide) ?_
      refine lv_istore_n (lv' := [(1, .int 1), (0, .ref (ad 0))]) C.1 C.2.1 dX12_isTooMuch_41 rfl hl (by decide) rfl (fun ls hl => ?_)
      have hl : lv_has ls 4 [(0, .ref (ad 0)), (1, .int 1)] := lv_sub hl [1, 0] rfl
      refine lv_iload_n C.1 C.2.1 dX12_isTooMuch_42 rfl (lv_at hl 1 rfl) ?_
      refine lv_if_eq (tgt := 76) C.1 C.2.1 dX12_isTooMuch_43 (by decide) (fun h => absurd h (by decide)) (fun _ => ?_)
      refine lv_aload_n C.1 C.2.1 dX12_isTooMuch_46 rfl (lv_at hl 0 rfl) ?_
      refine lv_aload_n C.1 C.2.1 dX12_isTooMuch_47 rfl (lv_at hl 0 rfl) ?_
      refine k_get (v := .int (t.1 0 18)) C hP 0 rfl rfl inlX12 18 (by decide) m_57_5 rfl dX12_isTooMuch_48 ?_
      refine g_Vi (As := [.int (t.1 0 18)]) (rest := []) C hP hD hS hA (T_X12_memoryAt l D K Z Y ad t hok ((t.1 0 18)) (show (-3999 : Int) ≤ ((t.1 0 18) : Int32).toInt ∧ ((t.1 0 18) : Int32).toInt ≤ 3999 from ⟨by omega, by omega⟩)) hE hZ (uwV m_38_19 m_38_20 m_38_21 m_1_5 m_38_22) (hdV 1 (by decide +kernel) rfl) ⟨Nat.le_of_ble_eq_true rfl, Nat.le_of_ble_eq_true rfl⟩ rfl rfl (ci := 11) (q0 := 0) rfl rfl rfl hl.1 (Nat.le_of_ble_eq_true rfl) dX12_isTooMuch_51 ⟨Nat.le_of_ble_eq_true rfl, Nat.le_of_ble_eq_true rfl⟩ (fun r_7 t_6 H locs hw hP hD hS => ?_)
      obtain ⟨h_9, h_10⟩ := hw
      refine lv_aload_n C.1 C.2.1 dX12_isTooMuch_54 rfl (lv_at hl 0 rfl) ?_
      have h_11 : (0 : Int) ≤ (t.1 0 17).toInt ∧ (t.1 0 17).toInt ≤ 63 := hok.1 0 17
      refine k_get (v := .int (t.1 0 17)) C hP 0 rfl rfl inlX12 17 (by decide) m_57_4 rfl dX12_isTooMuch_55 ?_
      refine g_Si (As := [.int r_7, .int (t.1 0 17)]) (rest := []) C hP hD hS hA (T_X12_fieldOf l D K Z Y ad t hok (r_7) ((t.1 0 17)) (show (0 : Int) ≤ ((t.1 0 17) : Int32).toInt ∧ ((t.1 0 17) : Int32).toInt ≤ 63 from ⟨by omega, by omega⟩)) hE hZ (uwS m_58_17 m_58_18 m_1_5 m_58_19) (hdS 2 (by decide +kernel) rfl) ⟨Nat.le_of_ble_eq_true rfl, Nat.le_of_ble_eq_true rfl⟩ rfl rfl rfl hl.1 (Nat.le_of_ble_eq_true rfl) dX12_isTooMuch_58 ⟨Nat.le_of_ble_eq_true rfl, Nat.le_of_ble_eq_true rfl⟩ (fun r_13 t_12 H locs hw hP hD hS => ?_)
      obtain ⟨h_15, h_16⟩ := hw
      refine lv_ldc (v := 1073741823) C.1 C.2.1 C.2.2.2.1 (C.2.2.2.2.1 _ m_36_12) dX12_isTooMuch_61 ?_
      obtain ⟨v_17, e_18⟩ : ∃ z, z = (r_13 : Int32) &&& (1073741823 : Int32) := ⟨_, rfl⟩
      have h_19 : v_17.toInt = r_13.toInt % 2 ^ 30 := by rw [e_18]; exact Jvm.Kit.i32_mask _ _ (k := 30) (by decide) (by decide)
      refine k_iand (v := v_17) C e_18.symm dX12_isTooMuch_63 ?_
      refine lv_sipush (v := 4095) C.1 C.2.1 dX12_isTooMuch_64 (by decide) ?_
      refine lv_icmp_le (tgt := 74) C.1 C.2.1 dX12_isTooMuch_67 (by decide) (fun c_20 => ?_) (fun c_20 => ?_)
      · replace c_20 : v_17.toInt ≤ 4095 := i_le c_20
        refine lv_iconst (v := 0) C.1 C.2.1 dX12_isTooMuch_74 (by decide) ?_
        exact g_iret C hr hlocks hP hD hS (by decide) () rfl ⟨by decide, by decide⟩ (Nat.le_of_ble_eq_true rfl) (Nat.le_of_ble_eq_true rfl) dX12_isTooMuch_75
      · replace c_20 : 4095 < v_17.toInt := i_nle c_20
        refine lv_iconst (v := 1) C.1 C.2.1 dX12_isTooMuch_70 (by decide) ?_
        refine lv_goto (tgt := 75) C.1 C.2.1 dX12_isTooMuch_71 (by decide) ?_
        exact g_iret C hr hlocks hP hD hS (by decide) () rfl ⟨by decide, by decide⟩ (Nat.le_of_ble_eq_true rfl) (Nat.le_of_ble_eq_true rfl) dX12_isTooMuch_75
    · replace c_5 : 15 ≤ (t.1 0 16).toInt := i_nlt c_5
      refine lv_aload_n C.1 C.2.1 dX12_isTooMuch_18 rfl (lv_at hl 0 rfl) ?_
      refine k_get (v := .int (t.1 0 16)) C hP 0 rfl rfl inlX12 16 (by decide) m_57_3 rfl dX12_isTooMuch_19 ?_
      refine lv_bipush (v := 16) C.1 C.2.1 dX12_isTooMuch_22 (by decide) ?_
      refine lv_icmp_le (tgt := 40) C.1 C.2.1 dX12_isTooMuch_24 (by decide) (fun c_21 => ?_) (fun c_21 => ?_)
      · replace c_21 : (t.1 0 16).toInt ≤ 16 := i_le c_21
        refine lv_iconst (v := 0) C.1 C.2.1 dX12_isTooMuch_40 (by decide) ?_
        refine lv_istore_n (lv' := [(1, .int 0), (0, .ref (ad 0))]) C.1 C.2.1 dX12_isTooMuch_41 rfl hl (by decide) rfl (fun ls hl => ?_)
        have hl : lv_has ls 4 [(0, .ref (ad 0)), (1, .int 0)] := lv_sub hl [1, 0] rfl
        refine lv_iload_n C.1 C.2.1 dX12_isTooMuch_42 rfl (lv_at hl 1 rfl) ?_
        refine lv_if_eq (tgt := 76) C.1 C.2.1 dX12_isTooMuch_43 (by decide) (fun _ => ?_) (fun h => absurd (by decide) h)
        refine lv_aload_n C.1 C.2.1 dX12_isTooMuch_76 rfl (lv_at hl 0 rfl) ?_
        refine k_get (v := .int (t.1 0 16)) C hP 0 rfl rfl inlX12 16 (by decide) m_57_3 rfl dX12_isTooMuch_77 ?_
        refine lv_bipush (v := 49) C.1 C.2.1 dX12_isTooMuch_80 (by decide) ?_
        refine lv_icmp_lt (tgt := 94) C.1 C.2.1 dX12_isTooMuch_82 (by decide) (fun c_22 => ?_) (fun c_22 => False.elim (by have c_22 : 49 ≤ (t.1 0 16).toInt := i_nlt c_22; omega))
        replace c_22 : (t.1 0 16).toInt < 49 := i_lt c_22
        refine lv_iconst (v := 0) C.1 C.2.1 dX12_isTooMuch_94 (by decide) ?_
        exact g_iret C hr hlocks hP hD hS (by decide) () rfl ⟨by decide, by decide⟩ (Nat.le_of_ble_eq_true rfl) (Nat.le_of_ble_eq_true rfl) dX12_isTooMuch_95
      · replace c_21 : 16 < (t.1 0 16).toInt := i_nle c_21
        refine lv_aload_n C.1 C.2.1 dX12_isTooMuch_27 rfl (lv_at hl 0 rfl) ?_
        refine k_get (v := .int (t.1 0 16)) C hP 0 rfl rfl inlX12 16 (by decide) m_57_3 rfl dX12_isTooMuch_28 ?_
        refine lv_bipush (v := 23) C.1 C.2.1 dX12_isTooMuch_31 (by decide) ?_
        refine lv_icmp_ge (tgt := 40) C.1 C.2.1 dX12_isTooMuch_33 (by decide) (fun c_23 => ?_) (fun c_23 => ?_)
        · replace c_23 : 23 ≤ (t.1 0 16).toInt := i_le c_23
          refine lv_iconst (v := 0) C.1 C.2.1 dX12_isTooMuch_40 (by decide) ?_
          refine lv_istore_n (lv' := [(1, .int 0), (0, .ref (ad 0))]) C.1 C.2.1 dX12_isTooMuch_41 rfl hl (by decide) rfl (fun ls hl => ?_)
          have hl : lv_has ls 4 [(0, .ref (ad 0)), (1, .int 0)] := lv_sub hl [1, 0] rfl
          refine lv_iload_n C.1 C.2.1 dX12_isTooMuch_42 rfl (lv_at hl 1 rfl) ?_
          refine lv_if_eq (tgt := 76) C.1 C.2.1 dX12_isTooMuch_43 (by decide) (fun _ => ?_) (fun h => absurd (by decide) h)
          refine lv_aload_n C.1 C.2.1 dX12_isTooMuch_76 rfl (lv_at hl 0 rfl) ?_
          refine k_get (v := .int (t.1 0 16)) C hP 0 rfl rfl inlX12 16 (by decide) m_57_3 rfl dX12_isTooMuch_77 ?_
          refine lv_bipush (v := 49) C.1 C.2.1 dX12_isTooMuch_80 (by decide) ?_
          refine lv_icmp_lt (tgt := 94) C.1 C.2.1 dX12_isTooMuch_82 (by decide) (fun c_24 => ?_) (fun c_24 => ?_)
          · replace c_24 : (t.1 0 16).toInt < 49 := i_lt c_24
            refine lv_iconst (v := 0) C.1 C.2.1 dX12_isTooMuch_94 (by decide) ?_
            exact g_iret C hr hlocks hP hD hS (by decide) () rfl ⟨by decide, by decide⟩ (Nat.le_of_ble_eq_true rfl) (Nat.le_of_ble_eq_true rfl) dX12_isTooMuch_95
          · replace c_24 : 49 ≤ (t.1 0 16).toInt := i_nlt c_24
            refine lv_aload_n C.1 C.2.1 dX12_isTooMuch_85 rfl (lv_at hl 0 rfl) ?_
            refine k_get (v := .int (t.1 0 16)) C hP 0 rfl rfl inlX12 16 (by decide) m_57_3 rfl dX12_isTooMuch_86 ?_
            refine lv_bipush (v := 54) C.1 C.2.1 dX12_isTooMuch_89 (by decide) ?_
            refine lv_icmp_le (tgt := 96) C.1 C.2.1 dX12_isTooMuch_91 (by decide) (fun c_25 => ?_) (fun c_25 => ?_)
            · replace c_25 : (t.1 0 16).toInt ≤ 54 := i_le c_25
              refine lv_aload_n C.1 C.2.1 dX12_isTooMuch_96 rfl (lv_at hl 0 rfl) ?_
              refine k_get (v := .ref (ad 3)) C hP 0 rfl rfl inlX12 4 (by decide) m_7_6 rfl dX12_isTooMuch_97 ?_
              refine lv_aload_n C.1 C.2.1 dX12_isTooMuch_100 rfl (lv_at hl 0 rfl) ?_
              refine k_get (v := .int (t.1 0 16)) C hP 0 rfl rfl inlX12 16 (by decide) m_57_3 rfl dX12_isTooMuch_101 ?_
              refine lv_bipush (v := 48) C.1 C.2.1 dX12_isTooMuch_104 (by decide) ?_
              obtain ⟨v_26, e_27⟩ : ∃ z, z = ((t.1 0 16) : Int32) - (48 : Int32) := ⟨_, rfl⟩
              have h_28 : v_26.toInt = (t.1 0 16).toInt - 48 := by rw [e_27]; exact ti_isub (by show (_ : Int) ≤ (t.1 0 16).toInt - 48; omega) (by show (t.1 0 16).toInt - 48 < (_ : Int); omega)
              refine k_isub (v := v_26) C e_27.symm dX12_isTooMuch_106 ?_
              obtain ⟨v_29, e_30⟩ : ∃ z, z = (t.2.2.1 3 (v_26 : Int32).toNatClampNeg) := ⟨_, rfl⟩
              refine k_ild (v := v_29) C hP 3 rfl (vp_in_iff.mpr ⟨by omega, by omega⟩) e_30.symm dX12_isTooMuch_107 ?_
              refine g_Si (As := [.int v_29]) (rest := []) C hP hD hS hA (T_X12_value l D K Z Y ad t hok (v_29)) hE hZ (uwS m_36_9 m_36_10 m_1_5 m_36_11) (hdS 1 (by decide +kernel) rfl) ⟨Nat.le_of_ble_eq_true rfl, Nat.le_of_ble_eq_true rfl⟩ rfl rfl rfl hl.1 (Nat.le_of_ble_eq_true rfl) dX12_isTooMuch_108 ⟨Nat.le_of_ble_eq_true rfl, Nat.le_of_ble_eq_true rfl⟩ (fun r_32 t_31 H locs hw hP hD hS => ?_)
              obtain ⟨h_34, h_35, p_36⟩ := hw
              replace p_36 : r_32.toInt = (vO v_29).toInt := p_36
              refine lv_istore_n (lv' := [(2, .int r_32), (0, .ref (ad 0)), (1, .int 0)]) C.1 C.2.1 dX12_isTooMuch_111 rfl hl (by decide) rfl (fun ls hl => ?_)
              have hl : lv_has ls 4 [(0, .ref (ad 0)), (1, .int 0), (2, .int r_32)] := lv_sub hl [1, 2, 0] rfl
              refine lv_aload_n C.1 C.2.1 dX12_isTooMuch_112 rfl (lv_at hl 0 rfl) ?_
              have h_37 : (0 : Int) ≤ (t.1 0 17).toInt ∧ (t.1 0 17).toInt ≤ 63 := hok.1 0 17
              refine k_get (v := .int (t.1 0 17)) C hP 0 rfl rfl inlX12 17 (by decide) m_57_4 rfl dX12_isTooMuch_113 ?_
              refine lv_if_ne (tgt := 128) C.1 C.2.1 dX12_isTooMuch_116 (by decide) (fun c_38 => ?_) (fun c_38 => ?_)
              · replace c_38 : ¬ (t.1 0 17).toInt = 0 := i_ne c_38
                refine lv_aload_n C.1 C.2.1 dX12_isTooMuch_128 rfl (lv_at hl 0 rfl) ?_
                refine k_get (v := .int (t.1 0 17)) C hP 0 rfl rfl inlX12 17 (by decide) m_57_4 rfl dX12_isTooMuch_129 ?_
                refine lv_iconst (v := 1) C.1 C.2.1 dX12_isTooMuch_132 (by decide) ?_
                refine lv_icmp_ne (tgt := 145) C.1 C.2.1 dX12_isTooMuch_133 (by decide) (fun c_39 => ?_) (fun c_39 => ?_)
                · replace c_39 : ¬ (t.1 0 17).toInt = 1 := i_ne c_39
                  refine lv_aload_n C.1 C.2.1 dX12_isTooMuch_145 rfl (lv_at hl 0 rfl) ?_
                  refine k_get (v := .int (t.1 0 18)) C hP 0 rfl rfl inlX12 18 (by decide) m_57_5 rfl dX12_isTooMuch_146 ?_
                  refine lv_istore_n (lv' := [(3, .int (t.1 0 18)), (0, .ref (ad 0)), (1, .int 0), (2, .int r_32)]) C.1 C.2.1 dX12_isTooMuch_149 rfl hl (by decide) rfl (fun ls hl => ?_)
                  have hl : lv_has ls 4 [(0, .ref (ad 0)), (1, .int 0), (2, .int r_32), (3, .int (t.1 0 18))] := lv_sub hl [1, 2, 3, 0] rfl
                  refine lv_iload_n C.1 C.2.1 dX12_isTooMuch_150 rfl (lv_at hl 3 rfl) ?_
                  refine lv_sipush (v := 4095) C.1 C.2.1 dX12_isTooMuch_151 (by decide) ?_
                  refine lv_icmp_gt (tgt := 164) C.1 C.2.1 dX12_isTooMuch_154 (by decide) (fun c_40 => ?_) (fun c_40 => ?_)
                  · replace c_40 : 4095 < (t.1 0 18).toInt := i_lt c_40
                    refine lv_iconst (v := 1) C.1 C.2.1 dX12_isTooMuch_164 (by decide) ?_
                    refine lv_goto (tgt := 169) C.1 C.2.1 dX12_isTooMuch_165 (by decide) ?_
                    exact g_iret C hr hlocks hP hD hS (by decide) () rfl ⟨by decide, by decide⟩ (Nat.le_of_ble_eq_true rfl) (Nat.le_of_ble_eq_true rfl) dX12_isTooMuch_169
                  · replace c_40 : (t.1 0 18).toInt ≤ 4095 := i_nlt c_40
                    refine lv_iload_n C.1 C.2.1 dX12_isTooMuch_157 rfl (lv_at hl 3 rfl) ?_
                    refine lv_sipush (v := (-4095)) C.1 C.2.1 dX12_isTooMuch_158 (by decide) ?_
                    refine lv_icmp_ge (tgt := 168) C.1 C.2.1 dX12_isTooMuch_161 (by decide) (fun c_41 => ?_) (fun c_41 => ?_)
                    · replace c_41 : (-4095) ≤ (t.1 0 18).toInt := i_le c_41
                      refine lv_iconst (v := 0) C.1 C.2.1 dX12_isTooMuch_168 (by decide) ?_
                      exact g_iret C hr hlocks hP hD hS (by decide) () rfl ⟨by decide, by decide⟩ (Nat.le_of_ble_eq_true rfl) (Nat.le_of_ble_eq_true rfl) dX12_isTooMuch_169
                    · replace c_41 : (t.1 0 18).toInt < (-4095) := i_nle c_41
                      refine lv_iconst (v := 1) C.1 C.2.1 dX12_isTooMuch_164 (by decide) ?_
                      refine lv_goto (tgt := 169) C.1 C.2.1 dX12_isTooMuch_165 (by decide) ?_
                      exact g_iret C hr hlocks hP hD hS (by decide) () rfl ⟨by decide, by decide⟩ (Nat.le_of_ble_eq_true rfl) (Nat.le_of_ble_eq_true rfl) dX12_isTooMuch_169
                · replace c_39 : (t.1 0 17).toInt = 1 := i_eq c_39
                  refine lv_iload_n C.1 C.2.1 dX12_isTooMuch_136 rfl (lv_at hl 2 rfl) ?_
                  refine lv_aload_n C.1 C.2.1 dX12_isTooMuch_137 rfl (lv_at hl 0 rfl) ?_
                  refine k_get (v := .int (t.1 0 18)) C hP 0 rfl rfl inlX12 18 (by decide) m_57_5 rfl dX12_isTooMuch_138 ?_
                  obtain ⟨v_42, e_43⟩ : ∃ z, z = (r_32 : Int32) - ((t.1 0 18) : Int32) := ⟨_, rfl⟩
                  refine k_isub (v := v_42) C e_43.symm dX12_isTooMuch_141 ?_
                  refine lv_goto (tgt := 149) C.1 C.2.1 dX12_isTooMuch_142 (by decide) ?_
                  refine lv_istore_n (lv' := [(3, .int v_42), (0, .ref (ad 0)), (1, .int 0), (2, .int r_32)]) C.1 C.2.1 dX12_isTooMuch_149 rfl hl (by decide) rfl (fun ls hl => ?_)
                  have hl : lv_has ls 4 [(0, .ref (ad 0)), (1, .int 0), (2, .int r_32), (3, .int v_42)] := lv_sub hl [1, 2, 3, 0] rfl
                  refine lv_iload_n C.1 C.2.1 dX12_isTooMuch_150 rfl (lv_at hl 3 rfl) ?_
                  refine lv_sipush (v := 4095) C.1 C.2.1 dX12_isTooMuch_151 (by decide) ?_
                  refine lv_icmp_gt (tgt := 164) C.1 C.2.1 dX12_isTooMuch_154 (by decide) (fun c_45 => ?_) (fun c_45 => ?_)
                  · replace c_45 : 4095 < v_42.toInt := i_lt c_45
                    refine lv_iconst (v := 1) C.1 C.2.1 dX12_isTooMuch_164 (by decide) ?_
                    refine lv_goto (tgt := 169) C.1 C.2.1 dX12_isTooMuch_165 (by decide) ?_
                    exact g_iret C hr hlocks hP hD hS (by decide) () rfl ⟨by decide, by decide⟩ (Nat.le_of_ble_eq_true rfl) (Nat.le_of_ble_eq_true rfl) dX12_isTooMuch_169
                  · replace c_45 : v_42.toInt ≤ 4095 := i_nlt c_45
                    refine lv_iload_n C.1 C.2.1 dX12_isTooMuch_157 rfl (lv_at hl 3 rfl) ?_
                    refine lv_sipush (v := (-4095)) C.1 C.2.1 dX12_isTooMuch_158 (by decide) ?_
                    refine lv_icmp_ge (tgt := 168) C.1 C.2.1 dX12_isTooMuch_161 (by decide) (fun c_46 => ?_) (fun c_46 => ?_)
                    · replace c_46 : (-4095) ≤ v_42.toInt := i_le c_46
                      refine lv_iconst (v := 0) C.1 C.2.1 dX12_isTooMuch_168 (by decide) ?_
                      exact g_iret C hr hlocks hP hD hS (by decide) () rfl ⟨by decide, by decide⟩ (Nat.le_of_ble_eq_true rfl) (Nat.le_of_ble_eq_true rfl) dX12_isTooMuch_169
                    · replace c_46 : v_42.toInt < (-4095) := i_nle c_46
                      refine lv_iconst (v := 1) C.1 C.2.1 dX12_isTooMuch_164 (by decide) ?_
                      refine lv_goto (tgt := 169) C.1 C.2.1 dX12_isTooMuch_165 (by decide) ?_
                      exact g_iret C hr hlocks hP hD hS (by decide) () rfl ⟨by decide, by decide⟩ (Nat.le_of_ble_eq_true rfl) (Nat.le_of_ble_eq_true rfl) dX12_isTooMuch_169
              · replace c_38 : (t.1 0 17).toInt = 0 := i_eq c_38
                refine lv_iload_n C.1 C.2.1 dX12_isTooMuch_119 rfl (lv_at hl 2 rfl) ?_
                refine lv_aload_n C.1 C.2.1 dX12_isTooMuch_120 rfl (lv_at hl 0 rfl) ?_
                refine k_get (v := .int (t.1 0 18)) C hP 0 rfl rfl inlX12 18 (by decide) m_57_5 rfl dX12_isTooMuch_121 ?_
                obtain ⟨v_47, e_48⟩ : ∃ z, z = (r_32 : Int32) + ((t.1 0 18) : Int32) := ⟨_, rfl⟩
                refine k_iadd (v := v_47) C e_48.symm dX12_isTooMuch_124 ?_
                refine lv_goto (tgt := 149) C.1 C.2.1 dX12_isTooMuch_125 (by decide) ?_
                refine lv_istore_n (lv' := [(3, .int v_47), (0, .ref (ad 0)), (1, .int 0), (2, .int r_32)]) C.1 C.2.1 dX12_isTooMuch_149 rfl hl (by decide) rfl (fun ls hl => ?_)
                have hl : lv_has ls 4 [(0, .ref (ad 0)), (1, .int 0), (2, .int r_32), (3, .int v_47)] := lv_sub hl [1, 2, 3, 0] rfl
                refine lv_iload_n C.1 C.2.1 dX12_isTooMuch_150 rfl (lv_at hl 3 rfl) ?_
                refine lv_sipush (v := 4095) C.1 C.2.1 dX12_isTooMuch_151 (by decide) ?_
                refine lv_icmp_gt (tgt := 164) C.1 C.2.1 dX12_isTooMuch_154 (by decide) (fun c_50 => ?_) (fun c_50 => ?_)
                · replace c_50 : 4095 < v_47.toInt := i_lt c_50
                  refine lv_iconst (v := 1) C.1 C.2.1 dX12_isTooMuch_164 (by decide) ?_
                  refine lv_goto (tgt := 169) C.1 C.2.1 dX12_isTooMuch_165 (by decide) ?_
                  exact g_iret C hr hlocks hP hD hS (by decide) () rfl ⟨by decide, by decide⟩ (Nat.le_of_ble_eq_true rfl) (Nat.le_of_ble_eq_true rfl) dX12_isTooMuch_169
                · replace c_50 : v_47.toInt ≤ 4095 := i_nlt c_50
                  refine lv_iload_n C.1 C.2.1 dX12_isTooMuch_157 rfl (lv_at hl 3 rfl) ?_
                  refine lv_sipush (v := (-4095)) C.1 C.2.1 dX12_isTooMuch_158 (by decide) ?_
                  refine lv_icmp_ge (tgt := 168) C.1 C.2.1 dX12_isTooMuch_161 (by decide) (fun c_51 => ?_) (fun c_51 => ?_)
                  · replace c_51 : (-4095) ≤ v_47.toInt := i_le c_51
                    refine lv_iconst (v := 0) C.1 C.2.1 dX12_isTooMuch_168 (by decide) ?_
                    exact g_iret C hr hlocks hP hD hS (by decide) () rfl ⟨by decide, by decide⟩ (Nat.le_of_ble_eq_true rfl) (Nat.le_of_ble_eq_true rfl) dX12_isTooMuch_169
                  · replace c_51 : v_47.toInt < (-4095) := i_nle c_51
                    refine lv_iconst (v := 1) C.1 C.2.1 dX12_isTooMuch_164 (by decide) ?_
                    refine lv_goto (tgt := 169) C.1 C.2.1 dX12_isTooMuch_165 (by decide) ?_
                    exact g_iret C hr hlocks hP hD hS (by decide) () rfl ⟨by decide, by decide⟩ (Nat.le_of_ble_eq_true rfl) (Nat.le_of_ble_eq_true rfl) dX12_isTooMuch_169
            · replace c_25 : 54 < (t.1 0 16).toInt := i_nle c_25
              refine lv_iconst (v := 0) C.1 C.2.1 dX12_isTooMuch_94 (by decide) ?_
              exact g_iret C hr hlocks hP hD hS (by decide) () rfl ⟨by decide, by decide⟩ (Nat.le_of_ble_eq_true rfl) (Nat.le_of_ble_eq_true rfl) dX12_isTooMuch_95
        · replace c_23 : (t.1 0 16).toInt < 23 := i_nle c_23
          refine lv_iconst (v := 1) C.1 C.2.1 dX12_isTooMuch_36 (by decide) ?_
          refine lv_goto (tgt := 41) C.1 C.2.1 dX12_isTooMuch_37 (by decide) ?_
          refine lv_istore_n (lv' := [(1, .int 1), (0, .ref (ad 0))]) C.1 C.2.1 dX12_isTooMuch_41 rfl hl (by decide) rfl (fun ls hl => ?_)
          have hl : lv_has ls 4 [(0, .ref (ad 0)), (1, .int 1)] := lv_sub hl [1, 0] rfl
          refine lv_iload_n C.1 C.2.1 dX12_isTooMuch_42 rfl (lv_at hl 1 rfl) ?_
          refine lv_if_eq (tgt := 76) C.1 C.2.1 dX12_isTooMuch_43 (by decide) (fun h => absurd h (by decide)) (fun _ => ?_)
          refine lv_aload_n C.1 C.2.1 dX12_isTooMuch_46 rfl (lv_at hl 0 rfl) ?_
          refine lv_aload_n C.1 C.2.1 dX12_isTooMuch_47 rfl (lv_at hl 0 rfl) ?_
          refine k_get (v := .int (t.1 0 18)) C hP 0 rfl rfl inlX12 18 (by decide) m_57_5 rfl dX12_isTooMuch_48 ?_
          refine g_Vi (As := [.int (t.1 0 18)]) (rest := []) C hP hD hS hA (T_X12_memoryAt l D K Z Y ad t hok ((t.1 0 18)) (show (-3999 : Int) ≤ ((t.1 0 18) : Int32).toInt ∧ ((t.1 0 18) : Int32).toInt ≤ 3999 from ⟨by omega, by omega⟩)) hE hZ (uwV m_38_19 m_38_20 m_38_21 m_1_5 m_38_22) (hdV 1 (by decide +kernel) rfl) ⟨Nat.le_of_ble_eq_true rfl, Nat.le_of_ble_eq_true rfl⟩ rfl rfl (ci := 11) (q0 := 0) rfl rfl rfl hl.1 (Nat.le_of_ble_eq_true rfl) dX12_isTooMuch_51 ⟨Nat.le_of_ble_eq_true rfl, Nat.le_of_ble_eq_true rfl⟩ (fun r_53 t_52 H locs hw hP hD hS => ?_)
          obtain ⟨h_55, h_56⟩ := hw
          refine lv_aload_n C.1 C.2.1 dX12_isTooMuch_54 rfl (lv_at hl 0 rfl) ?_
          have h_57 : (0 : Int) ≤ (t.1 0 17).toInt ∧ (t.1 0 17).toInt ≤ 63 := hok.1 0 17
          refine k_get (v := .int (t.1 0 17)) C hP 0 rfl rfl inlX12 17 (by decide) m_57_4 rfl dX12_isTooMuch_55 ?_
          refine g_Si (As := [.int r_53, .int (t.1 0 17)]) (rest := []) C hP hD hS hA (T_X12_fieldOf l D K Z Y ad t hok (r_53) ((t.1 0 17)) (show (0 : Int) ≤ ((t.1 0 17) : Int32).toInt ∧ ((t.1 0 17) : Int32).toInt ≤ 63 from ⟨by omega, by omega⟩)) hE hZ (uwS m_58_17 m_58_18 m_1_5 m_58_19) (hdS 2 (by decide +kernel) rfl) ⟨Nat.le_of_ble_eq_true rfl, Nat.le_of_ble_eq_true rfl⟩ rfl rfl rfl hl.1 (Nat.le_of_ble_eq_true rfl) dX12_isTooMuch_58 ⟨Nat.le_of_ble_eq_true rfl, Nat.le_of_ble_eq_true rfl⟩ (fun r_59 t_58 H locs hw hP hD hS => ?_)
          obtain ⟨h_61, h_62⟩ := hw
          refine lv_ldc (v := 1073741823) C.1 C.2.1 C.2.2.2.1 (C.2.2.2.2.1 _ m_36_12) dX12_isTooMuch_61 ?_
          obtain ⟨v_63, e_64⟩ : ∃ z, z = (r_59 : Int32) &&& (1073741823 : Int32) := ⟨_, rfl⟩
          have h_65 : v_63.toInt = r_59.toInt % 2 ^ 30 := by rw [e_64]; exact Jvm.Kit.i32_mask _ _ (k := 30) (by decide) (by decide)
          refine k_iand (v := v_63) C e_64.symm dX12_isTooMuch_63 ?_
          refine lv_sipush (v := 4095) C.1 C.2.1 dX12_isTooMuch_64 (by decide) ?_
          refine lv_icmp_le (tgt := 74) C.1 C.2.1 dX12_isTooMuch_67 (by decide) (fun c_66 => ?_) (fun c_66 => ?_)
          · replace c_66 : v_63.toInt ≤ 4095 := i_le c_66
            refine lv_iconst (v := 0) C.1 C.2.1 dX12_isTooMuch_74 (by decide) ?_
            exact g_iret C hr hlocks hP hD hS (by decide) () rfl ⟨by decide, by decide⟩ (Nat.le_of_ble_eq_true rfl) (Nat.le_of_ble_eq_true rfl) dX12_isTooMuch_75
          · replace c_66 : 4095 < v_63.toInt := i_nle c_66
            refine lv_iconst (v := 1) C.1 C.2.1 dX12_isTooMuch_70 (by decide) ?_
            refine lv_goto (tgt := 75) C.1 C.2.1 dX12_isTooMuch_71 (by decide) ?_
            exact g_iret C hr hlocks hP hD hS (by decide) () rfl ⟨by decide, by decide⟩ (Nat.le_of_ble_eq_true rfl) (Nat.le_of_ble_eq_true rfl) dX12_isTooMuch_75

theorem dX12_now_0 : decode cX12_now 0 = .ok (.aload_n 0, 1) := by decide +kernel
theorem dX12_now_1 : decode cX12_now 1 = .ok (.getfield 472, 3) := by decide +kernel
theorem dX12_now_11 : decode cX12_now 11 = .ok (.aload_n 0, 1) := by decide +kernel
theorem dX12_now_12 : decode cX12_now 12 = .ok (.aload_n 0, 1) := by decide +kernel
theorem dX12_now_13 : decode cX12_now 13 = .ok (.getfield 472, 3) := by decide +kernel
theorem dX12_now_16 : decode cX12_now 16 = .ok (.invokevirtual 446, 3) := by decide +kernel
theorem dX12_now_19 : decode cX12_now 19 = .ok (.goto 4, 3) := by decide +kernel
theorem dX12_now_22 : decode cX12_now 22 = .ok (.iconst (-1), 1) := by decide +kernel
theorem dX12_now_23 : decode cX12_now 23 = .ok (.ireturn, 1) := by decide +kernel
theorem dX12_now_4 : decode cX12_now 4 = .ok (.aload_n 0, 1) := by decide +kernel
theorem dX12_now_5 : decode cX12_now 5 = .ok (.getfield 475, 3) := by decide +kernel
theorem dX12_now_8 : decode cX12_now 8 = .ok (.if_icmp .ge 14, 3) := by decide +kernel
set_option maxHeartbeats 4000000 in
set_option maxRecDepth 100000 in
theorem T_X12_now (l : Launch) (D : va_G) (K : Nat → ClassId) (Z Y : Nat → Nat) (ad : Nat → Nat) (t : tSt) (hok : okM t) (hs0 : 1 ≤ (t.1 0 68).toInt) : tMet l yX12_now cX12_now 1 (some .int) (rmD 8 0 0) D K Z Y [.ref (ad 0)] (WM K ad t) (QI D K (fun (r : Int32) (u : Unit) => (-1 : Int) ≤ r.toInt ∧ r.toInt ≤ 255 ∧ (r.toInt = -1 ∨ (t.1 0 68).toInt < (t.1 0 69).toInt)) (fun (_ : Unit) => WM K ad t)) 0 0 := by
  refine t_met RX12 ⟨rfl, by decide +kernel⟩ (Nat.le_of_ble_eq_true rfl) ?_
  intro p e s m below meth c A ls C hE hZ hr hlocks hA hP hD hS hl
  have hl : lv_has ls 1 [(0, .ref (ad 0))] := hl
  have h_1 : (0 : Int) ≤ (t.1 0 67).toInt ∧ (t.1 0 67).toInt ≤ 1281 := hok.1 0 67
  have h_2 : (0 : Int) ≤ (t.1 0 68).toInt ∧ (t.1 0 68).toInt ≤ 81 := hok.1 0 68
  have h_3 : (0 : Int) ≤ (t.1 0 69).toInt ∧ (t.1 0 69).toInt ≤ 81 := hok.1 0 69
  refine lv_aload_n C.1 C.2.1 dX12_now_0 rfl (lv_at hl 0 rfl) ?_
  refine k_get (v := .int (t.1 0 68)) C hP 0 rfl rfl inlX12 68 (by decide) m_31_6 rfl dX12_now_1 ?_
  refine lv_aload_n C.1 C.2.1 dX12_now_4 rfl (lv_at hl 0 rfl) ?_
  refine k_get (v := .int (t.1 0 69)) C hP 0 rfl rfl inlX12 69 (by decide) m_31_7 rfl dX12_now_5 ?_
  refine lv_icmp_ge (tgt := 22) C.1 C.2.1 dX12_now_8 (by decide) (fun c_4 => ?_) (fun c_4 => ?_)
  · replace c_4 : (t.1 0 69).toInt ≤ (t.1 0 68).toInt := i_le c_4
    refine lv_iconst (v := (-1)) C.1 C.2.1 dX12_now_22 (by decide) ?_
    exact g_iret C hr hlocks hP hD hS rfl () rfl ⟨by decide, by decide, (show (-1) = -1 ∨ (t.1 0 68).toInt < (t.1 0 69).toInt from by omega)⟩ (Nat.le_of_ble_eq_true rfl) (Nat.le_of_ble_eq_true rfl) dX12_now_23
  · replace c_4 : (t.1 0 68).toInt < (t.1 0 69).toInt := i_nle c_4
    refine lv_aload_n C.1 C.2.1 dX12_now_11 rfl (lv_at hl 0 rfl) ?_
    refine lv_aload_n C.1 C.2.1 dX12_now_12 rfl (lv_at hl 0 rfl) ?_
    refine k_get (v := .int (t.1 0 68)) C hP 0 rfl rfl inlX12 68 (by decide) m_31_6 rfl dX12_now_13 ?_
    refine g_Vi (As := [.int (t.1 0 68)]) (rest := []) C hP hD hS hA (T_X12_letterAt l D K Z Y ad t hok ((t.1 0 68)) (show (1 : Int) ≤ ((t.1 0 68) : Int32).toInt ∧ ((t.1 0 68) : Int32).toInt ≤ 100 from ⟨by omega, by omega⟩)) hE hZ (uwV m_31_8 m_31_9 m_31_10 m_1_5 m_31_11) (hdV 1 (by decide +kernel) rfl) ⟨Nat.le_of_ble_eq_true rfl, Nat.le_of_ble_eq_true rfl⟩ rfl rfl (ci := 11) (q0 := 0) rfl rfl rfl hl.1 (Nat.le_of_ble_eq_true rfl) dX12_now_16 ⟨Nat.le_of_ble_eq_true rfl, Nat.le_of_ble_eq_true rfl⟩ (fun r_6 t_5 H locs hw hP hD hS => ?_)
    obtain ⟨h_8, h_9, p_10, p_11, p_12, p_13⟩ := hw
    replace p_10 : r_6 = fLet t (t.1 0 68) := p_10
    replace p_11 : r_6.toInt = (fLet t (t.1 0 68)).toInt := p_11
    replace p_12 : ¬ r_6.toInt = 32 → (t.2.2.1 19 ((t.1 0 67) : Int32).toNatClampNeg).toInt + (t.1 0 68).toInt ≤ (t.2.2.1 20 ((t.1 0 67) : Int32).toNatClampNeg).toInt := p_12
    replace p_13 : 81 ≤ (t.1 0 68).toInt → r_6.toInt = 32 := p_13
    refine lv_goto (tgt := 23) C.1 C.2.1 dX12_now_19 (by decide) ?_
    exact g_iret C hr hlocks hP hD hS rfl () rfl ⟨by omega, by omega, (show r_6.toInt = -1 ∨ (t.1 0 68).toInt < (t.1 0 69).toInt from by omega)⟩ (Nat.le_of_ble_eq_true rfl) (Nat.le_of_ble_eq_true rfl) dX12_now_23

theorem dX12_unitFault_0 : decode cX12_unitFault 0 = .ok (.aload_n 0, 1) := by decide +kernel
theorem dX12_unitFault_1 : decode cX12_unitFault 1 = .ok (.getfield 282, 3) := by decide +kernel
theorem dX12_unitFault_10 : decode cX12_unitFault 10 = .ok (.getfield 282, 3) := by decide +kernel
theorem dX12_unitFault_100 : decode cX12_unitFault 100 = .ok (.ifCond .ne 32, 3) := by decide +kernel
theorem dX12_unitFault_103 : decode cX12_unitFault 103 = .ok (.iload_n 2, 1) := by decide +kernel
theorem dX12_unitFault_104 : decode cX12_unitFault 104 = .ok (.ifCond .eq 10, 3) := by decide +kernel
theorem dX12_unitFault_107 : decode cX12_unitFault 107 = .ok (.aload_n 0, 1) := by decide +kernel
theorem dX12_unitFault_108 : decode cX12_unitFault 108 = .ok (.getfield 251, 3) := by decide +kernel
theorem dX12_unitFault_111 : decode cX12_unitFault 111 = .ok (.ifCond .eq 21, 3) := by decide +kernel
theorem dX12_unitFault_114 : decode cX12_unitFault 114 = .ok (.aload_n 0, 1) := by decide +kernel
theorem dX12_unitFault_115 : decode cX12_unitFault 115 = .ok (.getfield 289, 3) := by decide +kernel
theorem dX12_unitFault_118 : decode cX12_unitFault 118 = .ok (.bipush 18, 2) := by decide +kernel
theorem dX12_unitFault_120 : decode cX12_unitFault 120 = .ok (.if_icmp .ne 10, 3) := by decide +kernel
theorem dX12_unitFault_123 : decode cX12_unitFault 123 = .ok (.aload_n 0, 1) := by decide +kernel
theorem dX12_unitFault_124 : decode cX12_unitFault 124 = .ok (.getfield 251, 3) := by decide +kernel
theorem dX12_unitFault_127 : decode cX12_unitFault 127 = .ok (.ifCond .eq 5, 3) := by decide +kernel
theorem dX12_unitFault_13 : decode cX12_unitFault 13 = .ok (.bipush 38, 2) := by decide +kernel
theorem dX12_unitFault_130 : decode cX12_unitFault 130 = .ok (.iconst 5, 1) := by decide +kernel
theorem dX12_unitFault_131 : decode cX12_unitFault 131 = .ok (.ireturn, 1) := by decide +kernel
theorem dX12_unitFault_132 : decode cX12_unitFault 132 = .ok (.aload_n 0, 1) := by decide +kernel
theorem dX12_unitFault_133 : decode cX12_unitFault 133 = .ok (.getfield 282, 3) := by decide +kernel
theorem dX12_unitFault_136 : decode cX12_unitFault 136 = .ok (.bipush 36, 2) := by decide +kernel
theorem dX12_unitFault_138 : decode cX12_unitFault 138 = .ok (.if_icmp .ne 12, 3) := by decide +kernel
theorem dX12_unitFault_141 : decode cX12_unitFault 141 = .ok (.aload_n 0, 1) := by decide +kernel
theorem dX12_unitFault_142 : decode cX12_unitFault 142 = .ok (.getfield 289, 3) := by decide +kernel
theorem dX12_unitFault_145 : decode cX12_unitFault 145 = .ok (.bipush 16, 2) := by decide +kernel
theorem dX12_unitFault_147 : decode cX12_unitFault 147 = .ok (.if_icmp .gt 21, 3) := by decide +kernel
theorem dX12_unitFault_15 : decode cX12_unitFault 15 = .ok (.if_icmp .le 5, 3) := by decide +kernel
theorem dX12_unitFault_150 : decode cX12_unitFault 150 = .ok (.aload_n 0, 1) := by decide +kernel
theorem dX12_unitFault_151 : decode cX12_unitFault 151 = .ok (.getfield 282, 3) := by decide +kernel
theorem dX12_unitFault_154 : decode cX12_unitFault 154 = .ok (.bipush 37, 2) := by decide +kernel
theorem dX12_unitFault_156 : decode cX12_unitFault 156 = .ok (.if_icmp .ne 14, 3) := by decide +kernel
theorem dX12_unitFault_159 : decode cX12_unitFault 159 = .ok (.aload_n 0, 1) := by decide +kernel
theorem dX12_unitFault_160 : decode cX12_unitFault 160 = .ok (.getfield 289, 3) := by decide +kernel
theorem dX12_unitFault_163 : decode cX12_unitFault 163 = .ok (.bipush 16, 2) := by decide +kernel
theorem dX12_unitFault_165 : decode cX12_unitFault 165 = .ok (.if_icmp .ne 5, 3) := by decide +kernel
theorem dX12_unitFault_168 : decode cX12_unitFault 168 = .ok (.iconst 5, 1) := by decide +kernel
theorem dX12_unitFault_169 : decode cX12_unitFault 169 = .ok (.ireturn, 1) := by decide +kernel
theorem dX12_unitFault_170 : decode cX12_unitFault 170 = .ok (.iload_n 2, 1) := by decide +kernel
theorem dX12_unitFault_171 : decode cX12_unitFault 171 = .ok (.ifCond .eq 34, 3) := by decide +kernel
theorem dX12_unitFault_174 : decode cX12_unitFault 174 = .ok (.aload_n 0, 1) := by decide +kernel
theorem dX12_unitFault_175 : decode cX12_unitFault 175 = .ok (.getfield 17, 3) := by decide +kernel
theorem dX12_unitFault_178 : decode cX12_unitFault 178 = .ok (.bipush 7, 2) := by decide +kernel
theorem dX12_unitFault_18 : decode cX12_unitFault 18 = .ok (.iconst 0, 1) := by decide +kernel
theorem dX12_unitFault_180 : decode cX12_unitFault 180 = .ok (.iaload, 1) := by decide +kernel
theorem dX12_unitFault_181 : decode cX12_unitFault 181 = .ok (.invokestatic 161, 3) := by decide +kernel
theorem dX12_unitFault_184 : decode cX12_unitFault 184 = .ok (.ifCond .lt 18, 3) := by decide +kernel
theorem dX12_unitFault_187 : decode cX12_unitFault 187 = .ok (.aload_n 0, 1) := by decide +kernel
theorem dX12_unitFault_188 : decode cX12_unitFault 188 = .ok (.getfield 17, 3) := by decide +kernel
theorem dX12_unitFault_19 : decode cX12_unitFault 19 = .ok (.ireturn, 1) := by decide +kernel
theorem dX12_unitFault_191 : decode cX12_unitFault 191 = .ok (.bipush 7, 2) := by decide +kernel
theorem dX12_unitFault_193 : decode cX12_unitFault 193 = .ok (.iaload, 1) := by decide +kernel
theorem dX12_unitFault_194 : decode cX12_unitFault 194 = .ok (.invokestatic 161, 3) := by decide +kernel
theorem dX12_unitFault_197 : decode cX12_unitFault 197 = .ok (.bipush 63, 2) := by decide +kernel
theorem dX12_unitFault_199 : decode cX12_unitFault 199 = .ok (.if_icmp .le 6, 3) := by decide +kernel
theorem dX12_unitFault_20 : decode cX12_unitFault 20 = .ok (.aload_n 0, 1) := by decide +kernel
theorem dX12_unitFault_202 : decode cX12_unitFault 202 = .ok (.bipush 6, 2) := by decide +kernel
theorem dX12_unitFault_204 : decode cX12_unitFault 204 = .ok (.ireturn, 1) := by decide +kernel
theorem dX12_unitFault_205 : decode cX12_unitFault 205 = .ok (.iload_n 1, 1) := by decide +kernel
theorem dX12_unitFault_206 : decode cX12_unitFault 206 = .ok (.ifCond .eq 29, 3) := by decide +kernel
theorem dX12_unitFault_209 : decode cX12_unitFault 209 = .ok (.aload_n 0, 1) := by decide +kernel
theorem dX12_unitFault_21 : decode cX12_unitFault 21 = .ok (.getfield 289, 3) := by decide +kernel
theorem dX12_unitFault_210 : decode cX12_unitFault 210 = .ok (.getfield 282, 3) := by decide +kernel
theorem dX12_unitFault_213 : decode cX12_unitFault 213 = .ok (.bipush 35, 2) := by decide +kernel
theorem dX12_unitFault_215 : decode cX12_unitFault 215 = .ok (.if_icmp .eq 20, 3) := by decide +kernel
theorem dX12_unitFault_218 : decode cX12_unitFault 218 = .ok (.aload_n 0, 1) := by decide +kernel
theorem dX12_unitFault_219 : decode cX12_unitFault 219 = .ok (.getfield 44, 3) := by decide +kernel
theorem dX12_unitFault_222 : decode cX12_unitFault 222 = .ok (.aload_n 0, 1) := by decide +kernel
theorem dX12_unitFault_223 : decode cX12_unitFault 223 = .ok (.getfield 289, 3) := by decide +kernel
theorem dX12_unitFault_226 : decode cX12_unitFault 226 = .ok (.iaload, 1) := by decide +kernel
theorem dX12_unitFault_227 : decode cX12_unitFault 227 = .ok (.bipush 64, 2) := by decide +kernel
theorem dX12_unitFault_229 : decode cX12_unitFault 229 = .ok (.if_icmp .ne 6, 3) := by decide +kernel
theorem dX12_unitFault_232 : decode cX12_unitFault 232 = .ok (.bipush 6, 2) := by decide +kernel
theorem dX12_unitFault_234 : decode cX12_unitFault 234 = .ok (.ireturn, 1) := by decide +kernel
theorem dX12_unitFault_235 : decode cX12_unitFault 235 = .ok (.aload_n 0, 1) := by decide +kernel
theorem dX12_unitFault_236 : decode cX12_unitFault 236 = .ok (.getfield 282, 3) := by decide +kernel
theorem dX12_unitFault_239 : decode cX12_unitFault 239 = .ok (.bipush 36, 2) := by decide +kernel
theorem dX12_unitFault_24 : decode cX12_unitFault 24 = .ok (.bipush 19, 2) := by decide +kernel
theorem dX12_unitFault_241 : decode cX12_unitFault 241 = .ok (.if_icmp .ne 24, 3) := by decide +kernel
theorem dX12_unitFault_244 : decode cX12_unitFault 244 = .ok (.aload_n 0, 1) := by decide +kernel
theorem dX12_unitFault_245 : decode cX12_unitFault 245 = .ok (.getfield 289, 3) := by decide +kernel
theorem dX12_unitFault_248 : decode cX12_unitFault 248 = .ok (.bipush 16, 2) := by decide +kernel
theorem dX12_unitFault_250 : decode cX12_unitFault 250 = .ok (.if_icmp .ne 15, 3) := by decide +kernel
theorem dX12_unitFault_253 : decode cX12_unitFault 253 = .ok (.aload_n 0, 1) := by decide +kernel
theorem dX12_unitFault_254 : decode cX12_unitFault 254 = .ok (.invokevirtual 307, 3) := by decide +kernel
theorem dX12_unitFault_257 : decode cX12_unitFault 257 = .ok (.ifCond .ne 8, 3) := by decide +kernel
theorem dX12_unitFault_26 : decode cX12_unitFault 26 = .ok (.if_icmp .le 5, 3) := by decide +kernel
theorem dX12_unitFault_260 : decode cX12_unitFault 260 = .ok (.bipush 6, 2) := by decide +kernel
theorem dX12_unitFault_262 : decode cX12_unitFault 262 = .ok (.goto 4, 3) := by decide +kernel
theorem dX12_unitFault_265 : decode cX12_unitFault 265 = .ok (.iconst 0, 1) := by decide +kernel
theorem dX12_unitFault_266 : decode cX12_unitFault 266 = .ok (.ireturn, 1) := by decide +kernel
theorem dX12_unitFault_29 : decode cX12_unitFault 29 = .ok (.iconst 5, 1) := by decide +kernel
theorem dX12_unitFault_30 : decode cX12_unitFault 30 = .ok (.ireturn, 1) := by decide +kernel
theorem dX12_unitFault_31 : decode cX12_unitFault 31 = .ok (.aload_n 0, 1) := by decide +kernel
theorem dX12_unitFault_32 : decode cX12_unitFault 32 = .ok (.getfield 282, 3) := by decide +kernel
theorem dX12_unitFault_35 : decode cX12_unitFault 35 = .ok (.bipush 34, 2) := by decide +kernel
theorem dX12_unitFault_37 : decode cX12_unitFault 37 = .ok (.if_icmp .eq 12, 3) := by decide +kernel
theorem dX12_unitFault_4 : decode cX12_unitFault 4 = .ok (.bipush 34, 2) := by decide +kernel
theorem dX12_unitFault_40 : decode cX12_unitFault 40 = .ok (.aload_n 0, 1) := by decide +kernel
theorem dX12_unitFault_41 : decode cX12_unitFault 41 = .ok (.getfield 282, 3) := by decide +kernel
theorem dX12_unitFault_44 : decode cX12_unitFault 44 = .ok (.bipush 38, 2) := by decide +kernel
theorem dX12_unitFault_46 : decode cX12_unitFault 46 = .ok (.if_icmp .ne 5, 3) := by decide +kernel
theorem dX12_unitFault_49 : decode cX12_unitFault 49 = .ok (.iconst 0, 1) := by decide +kernel
theorem dX12_unitFault_50 : decode cX12_unitFault 50 = .ok (.ireturn, 1) := by decide +kernel
theorem dX12_unitFault_51 : decode cX12_unitFault 51 = .ok (.aload_n 0, 1) := by decide +kernel
theorem dX12_unitFault_52 : decode cX12_unitFault 52 = .ok (.getfield 289, 3) := by decide +kernel
theorem dX12_unitFault_55 : decode cX12_unitFault 55 = .ok (.bipush 8, 2) := by decide +kernel
theorem dX12_unitFault_57 : decode cX12_unitFault 57 = .ok (.if_icmp .ge 7, 3) := by decide +kernel
theorem dX12_unitFault_6 : decode cX12_unitFault 6 = .ok (.if_icmp .lt 12, 3) := by decide +kernel
theorem dX12_unitFault_60 : decode cX12_unitFault 60 = .ok (.iconst 1, 1) := by decide +kernel
theorem dX12_unitFault_61 : decode cX12_unitFault 61 = .ok (.goto 4, 3) := by decide +kernel
theorem dX12_unitFault_64 : decode cX12_unitFault 64 = .ok (.iconst 0, 1) := by decide +kernel
theorem dX12_unitFault_65 : decode cX12_unitFault 65 = .ok (.istore_n 1, 1) := by decide +kernel
theorem dX12_unitFault_66 : decode cX12_unitFault 66 = .ok (.aload_n 0, 1) := by decide +kernel
theorem dX12_unitFault_67 : decode cX12_unitFault 67 = .ok (.getfield 289, 3) := by decide +kernel
theorem dX12_unitFault_70 : decode cX12_unitFault 70 = .ok (.bipush 7, 2) := by decide +kernel
theorem dX12_unitFault_72 : decode cX12_unitFault 72 = .ok (.if_icmp .le 16, 3) := by decide +kernel
theorem dX12_unitFault_75 : decode cX12_unitFault 75 = .ok (.aload_n 0, 1) := by decide +kernel
theorem dX12_unitFault_76 : decode cX12_unitFault 76 = .ok (.getfield 289, 3) := by decide +kernel
theorem dX12_unitFault_79 : decode cX12_unitFault 79 = .ok (.bipush 16, 2) := by decide +kernel
theorem dX12_unitFault_81 : decode cX12_unitFault 81 = .ok (.if_icmp .ge 7, 3) := by decide +kernel
theorem dX12_unitFault_84 : decode cX12_unitFault 84 = .ok (.iconst 1, 1) := by decide +kernel
theorem dX12_unitFault_85 : decode cX12_unitFault 85 = .ok (.goto 4, 3) := by decide +kernel
theorem dX12_unitFault_88 : decode cX12_unitFault 88 = .ok (.iconst 0, 1) := by decide +kernel
theorem dX12_unitFault_89 : decode cX12_unitFault 89 = .ok (.istore_n 2, 1) := by decide +kernel
theorem dX12_unitFault_9 : decode cX12_unitFault 9 = .ok (.aload_n 0, 1) := by decide +kernel
theorem dX12_unitFault_90 : decode cX12_unitFault 90 = .ok (.aload_n 0, 1) := by decide +kernel
theorem dX12_unitFault_91 : decode cX12_unitFault 91 = .ok (.getfield 282, 3) := by decide +kernel
theorem dX12_unitFault_94 : decode cX12_unitFault 94 = .ok (.bipush 35, 2) := by decide +kernel
theorem dX12_unitFault_96 : decode cX12_unitFault 96 = .ok (.if_icmp .ne 36, 3) := by decide +kernel
theorem dX12_unitFault_99 : decode cX12_unitFault 99 = .ok (.iload_n 1, 1) := by decide +kernel
set_option maxHeartbeats 4000000 in
set_option maxRecDepth 100000 in
theorem T_X12_unitFault (l : Launch) (D : va_G) (K : Nat → ClassId) (Z Y : Nat → Nat) (ad : Nat → Nat) (t : tSt) (hok : okM t)  : tMet l yX12_unitFault cX12_unitFault 3 (some .int) (rmD 8 0 0) D K Z Y [.ref (ad 0)] (WM K ad t) (QI D K (fun (r : Int32) (u : Unit) => (0 : Int) ≤ r.toInt ∧ r.toInt ≤ 6 ∧ (r.toInt = 0 → gdU (t.1 0 16) (t.1 0 17) (t.2.2.1 3) (t.2.2.1 9) (t.1 0 35) (t.1 0 36))) (fun (_ : Unit) => WM K ad t)) 0 0 := by
  refine t_met RX12 ⟨rfl, by decide +kernel⟩ (Nat.le_of_ble_eq_true rfl) ?_
  intro p e s m below meth c A ls C hE hZ hr hlocks hA hP hD hS hl
  have hl : lv_has ls 3 [(0, .ref (ad 0))] := hl
  have h_1 : (0 : Int) ≤ (t.1 0 16).toInt ∧ (t.1 0 16).toInt ≤ 63 := hok.1 0 16
  have h_2 : (0 : Int) ≤ (t.1 0 17).toInt ∧ (t.1 0 17).toInt ≤ 63 := hok.1 0 17
  have h_3 : (0 : Int) ≤ (t.1 0 35).toInt ∧ (t.1 0 35).toInt ≤ 1700 := hok.1 0 35
  have h_4 : (0 : Int) ≤ (t.1 0 36).toInt ∧ (t.1 0 36).toInt ≤ 1700 := hok.1 0 36
  refine lv_aload_n C.1 C.2.1 dX12_unitFault_0 rfl (lv_at hl 0 rfl) ?_
  refine k_get (v := .int (t.1 0 16)) C hP 0 rfl rfl inlX12 16 (by decide) m_57_3 rfl dX12_unitFault_1 ?_
  refine lv_bipush (v := 34) C.1 C.2.1 dX12_unitFault_4 (by decide) ?_
  refine lv_icmp_lt (tgt := 18) C.1 C.2.1 dX12_unitFault_6 (by decide) (fun c_5 => ?_) (fun c_5 => ?_)
  · replace c_5 : (t.1 0 16).toInt < 34 := i_lt c_5
    refine lv_iconst (v := 0) C.1 C.2.1 dX12_unitFault_18 (by decide) ?_
    exact g_iret C hr hlocks hP hD hS rfl () rfl ⟨by decide, by decide, (show 0 = 0 → gdU (t.1 0 16) (t.1 0 17) (t.2.2.1 3) (t.2.2.1 9) (t.1 0 35) (t.1 0 36) from by intro h0; refine ⟨fun _ _ => ?_, fun _ _ _ => ?_, fun _ _ => ?_, fun _ => ?_, fun _ => ?_, fun _ _ => ?_⟩ <;> omega)⟩ (Nat.le_of_ble_eq_true rfl) (Nat.le_of_ble_eq_true rfl) dX12_unitFault_19
  · replace c_5 : 34 ≤ (t.1 0 16).toInt := i_nlt c_5
    refine lv_aload_n C.1 C.2.1 dX12_unitFault_9 rfl (lv_at hl 0 rfl) ?_
    refine k_get (v := .int (t.1 0 16)) C hP 0 rfl rfl inlX12 16 (by decide) m_57_3 rfl dX12_unitFault_10 ?_
    refine lv_bipush (v := 38) C.1 C.2.1 dX12_unitFault_13 (by decide) ?_
    refine lv_icmp_le (tgt := 20) C.1 C.2.1 dX12_unitFault_15 (by decide) (fun c_6 => ?_) (fun c_6 => ?_)
    · replace c_6 : (t.1 0 16).toInt ≤ 38 := i_le c_6
      refine lv_aload_n C.1 C.2.1 dX12_unitFault_20 rfl (lv_at hl 0 rfl) ?_
      refine k_get (v := .int (t.1 0 17)) C hP 0 rfl rfl inlX12 17 (by decide) m_57_4 rfl dX12_unitFault_21 ?_
      refine lv_bipush (v := 19) C.1 C.2.1 dX12_unitFault_24 (by decide) ?_
      refine lv_icmp_le (tgt := 31) C.1 C.2.1 dX12_unitFault_26 (by decide) (fun c_7 => ?_) (fun c_7 => ?_)
      · replace c_7 : (t.1 0 17).toInt ≤ 19 := i_le c_7
        refine lv_aload_n C.1 C.2.1 dX12_unitFault_31 rfl (lv_at hl 0 rfl) ?_
        refine k_get (v := .int (t.1 0 16)) C hP 0 rfl rfl inlX12 16 (by decide) m_57_3 rfl dX12_unitFault_32 ?_
        refine lv_bipush (v := 34) C.1 C.2.1 dX12_unitFault_35 (by decide) ?_
        refine lv_icmp_eq (tgt := 49) C.1 C.2.1 dX12_unitFault_37 (by decide) (fun c_8 => ?_) (fun c_8 => ?_)
        · replace c_8 : (t.1 0 16).toInt = 34 := i_eq c_8
          refine lv_iconst (v := 0) C.1 C.2.1 dX12_unitFault_49 (by decide) ?_
          exact g_iret C hr hlocks hP hD hS rfl () rfl ⟨by decide, by decide, (show 0 = 0 → gdU (t.1 0 16) (t.1 0 17) (t.2.2.1 3) (t.2.2.1 9) (t.1 0 35) (t.1 0 36) from by intro h0; refine ⟨fun _ _ => ?_, fun _ _ _ => ?_, fun _ _ => ?_, fun _ => ?_, fun _ => ?_, fun _ _ => ?_⟩ <;> omega)⟩ (Nat.le_of_ble_eq_true rfl) (Nat.le_of_ble_eq_true rfl) dX12_unitFault_50
        · replace c_8 : ¬ (t.1 0 16).toInt = 34 := i_ne c_8
          refine lv_aload_n C.1 C.2.1 dX12_unitFault_40 rfl (lv_at hl 0 rfl) ?_
          refine k_get (v := .int (t.1 0 16)) C hP 0 rfl rfl inlX12 16 (by decide) m_57_3 rfl dX12_unitFault_41 ?_
          refine lv_bipush (v := 38) C.1 C.2.1 dX12_unitFault_44 (by decide) ?_
          refine lv_icmp_ne (tgt := 51) C.1 C.2.1 dX12_unitFault_46 (by decide) (fun c_9 => ?_) (fun c_9 => ?_)
          · replace c_9 : ¬ (t.1 0 16).toInt = 38 := i_ne c_9
            refine lv_aload_n C.1 C.2.1 dX12_unitFault_51 rfl (lv_at hl 0 rfl) ?_
            refine k_get (v := .int (t.1 0 17)) C hP 0 rfl rfl inlX12 17 (by decide) m_57_4 rfl dX12_unitFault_52 ?_
            refine lv_bipush (v := 8) C.1 C.2.1 dX12_unitFault_55 (by decide) ?_
            refine lv_icmp_ge (tgt := 64) C.1 C.2.1 dX12_unitFault_57 (by decide) (fun c_10 => ?_) (fun c_10 => ?_)
            · replace c_10 : 8 ≤ (t.1 0 17).toInt := i_le c_10
              refine lv_iconst (v := 0) C.1 C.2.1 dX12_unitFault_64 (by decide) ?_
              refine lv_istore_n (lv' := [(1, .int 0), (0, .ref (ad 0))]) C.1 C.2.1 dX12_unitFault_65 rfl hl (by decide) rfl (fun ls hl => ?_)
              have hl : lv_has ls 3 [(0, .ref (ad 0)), (1, .int 0)] := lv_sub hl [1, 0] rfl
              refine lv_aload_n C.1 C.2.1 dX12_unitFault_66 rfl (lv_at hl 0 rfl) ?_
              refine k_get (v := .int (t.1 0 17)) C hP 0 rfl rfl inlX12 17 (by decide) m_57_4 rfl dX12_unitFault_67 ?_
              refine lv_bipush (v := 7) C.1 C.2.1 dX12_unitFault_70 (by decide) ?_
              refine lv_icmp_le (tgt := 88) C.1 C.2.1 dX12_unitFault_72 (by decide) (fun c_11 => False.elim (by have c_11 : (t.1 0 17).toInt ≤ 7 := i_le c_11; omega)) (fun c_11 => ?_)
              replace c_11 : 7 < (t.1 0 17).toInt := i_nle c_11
              refine lv_aload_n C.1 C.2.1 dX12_unitFault_75 rfl (lv_at hl 0 rfl) ?_
              refine k_get (v := .int (t.1 0 17)) C hP 0 rfl rfl inlX12 17 (by decide) m_57_4 rfl dX12_unitFault_76 ?_
              refine lv_bipush (v := 16) C.1 C.2.1 dX12_unitFault_79 (by decide) ?_
              refine lv_icmp_ge (tgt := 88) C.1 C.2.1 dX12_unitFault_81 (by decide) (fun c_12 => ?_) (fun c_12 => ?_)
              · replace c_12 : 16 ≤ (t.1 0 17).toInt := i_le c_12
                refine lv_iconst (v := 0) C.1 C.2.1 dX12_unitFault_88 (by decide) ?_
                refine lv_istore_n (lv' := [(2, .int 0), (0, .ref (ad 0)), (1, .int 0)]) C.1 C.2.1 dX12_unitFault_89 rfl hl (by decide) rfl (fun ls hl => ?_)
                have hl : lv_has ls 3 [(0, .ref (ad 0)), (1, .int 0), (2, .int 0)] := lv_sub hl [1, 2, 0] rfl
                refine lv_aload_n C.1 C.2.1 dX12_unitFault_90 rfl (lv_at hl 0 rfl) ?_
                refine k_get (v := .int (t.1 0 16)) C hP 0 rfl rfl inlX12 16 (by decide) m_57_3 rfl dX12_unitFault_91 ?_
                refine lv_bipush (v := 35) C.1 C.2.1 dX12_unitFault_94 (by decide) ?_
                refine lv_icmp_ne (tgt := 132) C.1 C.2.1 dX12_unitFault_96 (by decide) (fun c_13 => ?_) (fun c_13 => ?_)
                · replace c_13 : ¬ (t.1 0 16).toInt = 35 := i_ne c_13
                  refine lv_aload_n C.1 C.2.1 dX12_unitFault_132 rfl (lv_at hl 0 rfl) ?_
                  refine k_get (v := .int (t.1 0 16)) C hP 0 rfl rfl inlX12 16 (by decide) m_57_3 rfl dX12_unitFault_133 ?_
                  refine lv_bipush (v := 36) C.1 C.2.1 dX12_unitFault_136 (by decide) ?_
                  refine lv_icmp_ne (tgt := 150) C.1 C.2.1 dX12_unitFault_138 (by decide) (fun c_14 => ?_) (fun c_14 => ?_)
                  · replace c_14 : ¬ (t.1 0 16).toInt = 36 := i_ne c_14
                    refine lv_aload_n C.1 C.2.1 dX12_unitFault_150 rfl (lv_at hl 0 rfl) ?_
                    refine k_get (v := .int (t.1 0 16)) C hP 0 rfl rfl inlX12 16 (by decide) m_57_3 rfl dX12_unitFault_151 ?_
                    refine lv_bipush (v := 37) C.1 C.2.1 dX12_unitFault_154 (by decide) ?_
                    refine lv_icmp_ne (tgt := 170) C.1 C.2.1 dX12_unitFault_156 (by decide) (fun c_15 => False.elim (by have c_15 : ¬ (t.1 0 16).toInt = 37 := i_ne c_15; omega)) (fun c_15 => ?_)
                    replace c_15 : (t.1 0 16).toInt = 37 := i_eq c_15
                    refine lv_aload_n C.1 C.2.1 dX12_unitFault_159 rfl (lv_at hl 0 rfl) ?_
                    refine k_get (v := .int (t.1 0 17)) C hP 0 rfl rfl inlX12 17 (by decide) m_57_4 rfl dX12_unitFault_160 ?_
                    refine lv_bipush (v := 16) C.1 C.2.1 dX12_unitFault_163 (by decide) ?_
                    refine lv_icmp_ne (tgt := 170) C.1 C.2.1 dX12_unitFault_165 (by decide) (fun c_16 => ?_) (fun c_16 => ?_)
                    · replace c_16 : ¬ (t.1 0 17).toInt = 16 := i_ne c_16
                      refine lv_iload_n C.1 C.2.1 dX12_unitFault_170 rfl (lv_at hl 2 rfl) ?_
                      refine lv_if_eq (tgt := 205) C.1 C.2.1 dX12_unitFault_171 (by decide) (fun _ => ?_) (fun h => absurd (by decide) h)
                      refine lv_iload_n C.1 C.2.1 dX12_unitFault_205 rfl (lv_at hl 1 rfl) ?_
                      refine lv_if_eq (tgt := 235) C.1 C.2.1 dX12_unitFault_206 (by decide) (fun _ => ?_) (fun h => absurd (by decide) h)
                      refine lv_aload_n C.1 C.2.1 dX12_unitFault_235 rfl (lv_at hl 0 rfl) ?_
                      refine k_get (v := .int (t.1 0 16)) C hP 0 rfl rfl inlX12 16 (by decide) m_57_3 rfl dX12_unitFault_236 ?_
                      refine lv_bipush (v := 36) C.1 C.2.1 dX12_unitFault_239 (by decide) ?_
                      refine lv_icmp_ne (tgt := 265) C.1 C.2.1 dX12_unitFault_241 (by decide) (fun c_17 => ?_) (fun c_17 => False.elim (by have c_17 : (t.1 0 16).toInt = 36 := i_eq c_17; omega))
                      replace c_17 : ¬ (t.1 0 16).toInt = 36 := i_ne c_17
                      refine lv_iconst (v := 0) C.1 C.2.1 dX12_unitFault_265 (by decide) ?_
                      exact g_iret C hr hlocks hP hD hS rfl () rfl ⟨by decide, by decide, (show 0 = 0 → gdU (t.1 0 16) (t.1 0 17) (t.2.2.1 3) (t.2.2.1 9) (t.1 0 35) (t.1 0 36) from by intro h0; refine ⟨fun _ _ => ?_, fun _ _ _ => ?_, fun _ _ => ?_, fun _ => ?_, fun _ => ?_, fun _ _ => ?_⟩ <;> omega)⟩ (Nat.le_of_ble_eq_true rfl) (Nat.le_of_ble_eq_true rfl) dX12_unitFault_266
                    · replace c_16 : (t.1 0 17).toInt = 16 := i_eq c_16
                      refine lv_iconst (v := 5) C.1 C.2.1 dX12_unitFault_168 (by decide) ?_
                      exact g_iret C hr hlocks hP hD hS rfl () rfl ⟨by decide, by decide, (show 5 = 0 → gdU (t.1 0 16) (t.1 0 17) (t.2.2.1 3) (t.2.2.1 9) (t.1 0 35) (t.1 0 36) from by intro h0; refine ⟨fun _ _ => ?_, fun _ _ _ => ?_, fun _ _ => ?_, fun _ => ?_, fun _ => ?_, fun _ _ => ?_⟩ <;> omega)⟩ (Nat.le_of_ble_eq_true rfl) (Nat.le_of_ble_eq_true rfl) dX12_unitFault_169
                  · replace c_14 : (t.1 0 16).toInt = 36 := i_eq c_14
                    refine lv_aload_n C.1 C.2.1 dX12_unitFault_141 rfl (lv_at hl 0 rfl) ?_
                    refine k_get (v := .int (t.1 0 17)) C hP 0 rfl rfl inlX12 17 (by decide) m_57_4 rfl dX12_unitFault_142 ?_
                    refine lv_bipush (v := 16) C.1 C.2.1 dX12_unitFault_145 (by decide) ?_
                    refine lv_icmp_gt (tgt := 168) C.1 C.2.1 dX12_unitFault_147 (by decide) (fun c_18 => ?_) (fun c_18 => ?_)
                    · replace c_18 : 16 < (t.1 0 17).toInt := i_lt c_18
                      refine lv_iconst (v := 5) C.1 C.2.1 dX12_unitFault_168 (by decide) ?_
                      exact g_iret C hr hlocks hP hD hS rfl () rfl ⟨by decide, by decide, (show 5 = 0 → gdU (t.1 0 16) (t.1 0 17) (t.2.2.1 3) (t.2.2.1 9) (t.1 0 35) (t.1 0 36) from by intro h0; refine ⟨fun _ _ => ?_, fun _ _ _ => ?_, fun _ _ => ?_, fun _ => ?_, fun _ => ?_, fun _ _ => ?_⟩ <;> omega)⟩ (Nat.le_of_ble_eq_true rfl) (Nat.le_of_ble_eq_true rfl) dX12_unitFault_169
                    · replace c_18 : (t.1 0 17).toInt ≤ 16 := i_nlt c_18
                      refine lv_aload_n C.1 C.2.1 dX12_unitFault_150 rfl (lv_at hl 0 rfl) ?_
                      refine k_get (v := .int (t.1 0 16)) C hP 0 rfl rfl inlX12 16 (by decide) m_57_3 rfl dX12_unitFault_151 ?_
                      refine lv_bipush (v := 37) C.1 C.2.1 dX12_unitFault_154 (by decide) ?_
                      refine lv_icmp_ne (tgt := 170) C.1 C.2.1 dX12_unitFault_156 (by decide) (fun c_19 => ?_) (fun c_19 => False.elim (by have c_19 : (t.1 0 16).toInt = 37 := i_eq c_19; omega))
                      replace c_19 : ¬ (t.1 0 16).toInt = 37 := i_ne c_19
                      refine lv_iload_n C.1 C.2.1 dX12_unitFault_170 rfl (lv_at hl 2 rfl) ?_
                      refine lv_if_eq (tgt := 205) C.1 C.2.1 dX12_unitFault_171 (by decide) (fun _ => ?_) (fun h => absurd (by decide) h)
                      refine lv_iload_n C.1 C.2.1 dX12_unitFault_205 rfl (lv_at hl 1 rfl) ?_
                      refine lv_if_eq (tgt := 235) C.1 C.2.1 dX12_unitFault_206 (by decide) (fun _ => ?_) (fun h => absurd (by decide) h)
                      refine lv_aload_n C.1 C.2.1 dX12_unitFault_235 rfl (lv_at hl 0 rfl) ?_
                      refine k_get (v := .int (t.1 0 16)) C hP 0 rfl rfl inlX12 16 (by decide) m_57_3 rfl dX12_unitFault_236 ?_
                      refine lv_bipush (v := 36) C.1 C.2.1 dX12_unitFault_239 (by decide) ?_
                      refine lv_icmp_ne (tgt := 265) C.1 C.2.1 dX12_unitFault_241 (by decide) (fun c_20 => False.elim (by have c_20 : ¬ (t.1 0 16).toInt = 36 := i_ne c_20; omega)) (fun c_20 => ?_)
                      replace c_20 : (t.1 0 16).toInt = 36 := i_eq c_20
                      refine lv_aload_n C.1 C.2.1 dX12_unitFault_244 rfl (lv_at hl 0 rfl) ?_
                      refine k_get (v := .int (t.1 0 17)) C hP 0 rfl rfl inlX12 17 (by decide) m_57_4 rfl dX12_unitFault_245 ?_
                      refine lv_bipush (v := 16) C.1 C.2.1 dX12_unitFault_248 (by decide) ?_
                      refine lv_icmp_ne (tgt := 265) C.1 C.2.1 dX12_unitFault_250 (by decide) (fun c_21 => False.elim (by have c_21 : ¬ (t.1 0 17).toInt = 16 := i_ne c_21; omega)) (fun c_21 => ?_)
                      replace c_21 : (t.1 0 17).toInt = 16 := i_eq c_21
                      refine lv_aload_n C.1 C.2.1 dX12_unitFault_253 rfl (lv_at hl 0 rfl) ?_
                      refine g_Vi (As := []) (rest := []) C hP hD hS hA (T_X12_hasCard l D K Z Y ad t hok ) hE hZ (uwV m_59_0 m_59_1 m_59_2 m_1_5 m_59_3) (hdV 0 (by decide +kernel) rfl) ⟨Nat.le_of_ble_eq_true rfl, Nat.le_of_ble_eq_true rfl⟩ rfl rfl (ci := 11) (q0 := 0) rfl rfl rfl hl.1 (Nat.le_of_ble_eq_true rfl) dX12_unitFault_254 ⟨Nat.le_of_ble_eq_true rfl, Nat.le_of_ble_eq_true rfl⟩ (fun r_23 t_22 H locs hw hP hD hS => ?_)
                      obtain ⟨h_25, h_26, p_27⟩ := hw
                      replace p_27 : r_23.toInt = 1 → (t.1 0 35).toInt < (t.1 0 36).toInt := p_27
                      refine lv_if_ne (tgt := 265) C.1 C.2.1 dX12_unitFault_257 (by decide) (fun c_28 => ?_) (fun c_28 => ?_)
                      · replace c_28 : ¬ r_23.toInt = 0 := i_ne c_28
                        refine lv_iconst (v := 0) C.1 C.2.1 dX12_unitFault_265 (by decide) ?_
                        exact g_iret C hr hlocks hP hD hS rfl () rfl ⟨by decide, by decide, (show 0 = 0 → gdU (t.1 0 16) (t.1 0 17) (t.2.2.1 3) (t.2.2.1 9) (t.1 0 35) (t.1 0 36) from by intro h0; refine ⟨fun _ _ => ?_, fun _ _ _ => ?_, fun _ _ => ?_, fun _ => ?_, fun _ => ?_, fun _ _ => ?_⟩ <;> omega)⟩ (Nat.le_of_ble_eq_true rfl) (Nat.le_of_ble_eq_true rfl) dX12_unitFault_266
                      · replace c_28 : r_23.toInt = 0 := i_eq c_28
                        refine lv_bipush (v := 6) C.1 C.2.1 dX12_unitFault_260 (by decide) ?_
                        refine lv_goto (tgt := 266) C.1 C.2.1 dX12_unitFault_262 (by decide) ?_
                        exact g_iret C hr hlocks hP hD hS rfl () rfl ⟨by decide, by decide, (show 6 = 0 → gdU (t.1 0 16) (t.1 0 17) (t.2.2.1 3) (t.2.2.1 9) (t.1 0 35) (t.1 0 36) from by intro h0; refine ⟨fun _ _ => ?_, fun _ _ _ => ?_, fun _ _ => ?_, fun _ => ?_, fun _ => ?_, fun _ _ => ?_⟩ <;> omega)⟩ (Nat.le_of_ble_eq_true rfl) (Nat.le_of_ble_eq_true rfl) dX12_unitFault_266
                · replace c_13 : (t.1 0 16).toInt = 35 := i_eq c_13
                  refine lv_iload_n C.1 C.2.1 dX12_unitFault_99 rfl (lv_at hl 1 rfl) ?_
                  refine lv_if_ne (tgt := 132) C.1 C.2.1 dX12_unitFault_100 (by decide) (fun h => absurd h (by decide)) (fun _ => ?_)
                  refine lv_iload_n C.1 C.2.1 dX12_unitFault_103 rfl (lv_at hl 2 rfl) ?_
                  refine lv_if_eq (tgt := 114) C.1 C.2.1 dX12_unitFault_104 (by decide) (fun _ => ?_) (fun h => absurd (by decide) h)
                  refine lv_aload_n C.1 C.2.1 dX12_unitFault_114 rfl (lv_at hl 0 rfl) ?_
                  refine k_get (v := .int (t.1 0 17)) C hP 0 rfl rfl inlX12 17 (by decide) m_57_4 rfl dX12_unitFault_115 ?_
                  refine lv_bipush (v := 18) C.1 C.2.1 dX12_unitFault_118 (by decide) ?_
                  refine lv_icmp_ne (tgt := 130) C.1 C.2.1 dX12_unitFault_120 (by decide) (fun c_29 => ?_) (fun c_29 => ?_)
                  · replace c_29 : ¬ (t.1 0 17).toInt = 18 := i_ne c_29
                    refine lv_iconst (v := 5) C.1 C.2.1 dX12_unitFault_130 (by decide) ?_
                    exact g_iret C hr hlocks hP hD hS rfl () rfl ⟨by decide, by decide, (show 5 = 0 → gdU (t.1 0 16) (t.1 0 17) (t.2.2.1 3) (t.2.2.1 9) (t.1 0 35) (t.1 0 36) from by intro h0; refine ⟨fun _ _ => ?_, fun _ _ _ => ?_, fun _ _ => ?_, fun _ => ?_, fun _ => ?_, fun _ _ => ?_⟩ <;> omega)⟩ (Nat.le_of_ble_eq_true rfl) (Nat.le_of_ble_eq_true rfl) dX12_unitFault_131
                  · replace c_29 : (t.1 0 17).toInt = 18 := i_eq c_29
                    refine lv_aload_n C.1 C.2.1 dX12_unitFault_123 rfl (lv_at hl 0 rfl) ?_
                    refine k_get (v := .int (t.1 0 18)) C hP 0 rfl rfl inlX12 18 (by decide) m_57_5 rfl dX12_unitFault_124 ?_
                    refine lv_if_eq (tgt := 132) C.1 C.2.1 dX12_unitFault_127 (by decide) (fun c_30 => ?_) (fun c_30 => ?_)
                    · replace c_30 : (t.1 0 18).toInt = 0 := i_eq c_30
                      refine lv_aload_n C.1 C.2.1 dX12_unitFault_132 rfl (lv_at hl 0 rfl) ?_
                      refine k_get (v := .int (t.1 0 16)) C hP 0 rfl rfl inlX12 16 (by decide) m_57_3 rfl dX12_unitFault_133 ?_
                      refine lv_bipush (v := 36) C.1 C.2.1 dX12_unitFault_136 (by decide) ?_
                      refine lv_icmp_ne (tgt := 150) C.1 C.2.1 dX12_unitFault_138 (by decide) (fun c_31 => ?_) (fun c_31 => False.elim (by have c_31 : (t.1 0 16).toInt = 36 := i_eq c_31; omega))
                      replace c_31 : ¬ (t.1 0 16).toInt = 36 := i_ne c_31
                      refine lv_aload_n C.1 C.2.1 dX12_unitFault_150 rfl (lv_at hl 0 rfl) ?_
                      refine k_get (v := .int (t.1 0 16)) C hP 0 rfl rfl inlX12 16 (by decide) m_57_3 rfl dX12_unitFault_151 ?_
                      refine lv_bipush (v := 37) C.1 C.2.1 dX12_unitFault_154 (by decide) ?_
                      refine lv_icmp_ne (tgt := 170) C.1 C.2.1 dX12_unitFault_156 (by decide) (fun c_32 => ?_) (fun c_32 => False.elim (by have c_32 : (t.1 0 16).toInt = 37 := i_eq c_32; omega))
                      replace c_32 : ¬ (t.1 0 16).toInt = 37 := i_ne c_32
                      refine lv_iload_n C.1 C.2.1 dX12_unitFault_170 rfl (lv_at hl 2 rfl) ?_
                      refine lv_if_eq (tgt := 205) C.1 C.2.1 dX12_unitFault_171 (by decide) (fun _ => ?_) (fun h => absurd (by decide) h)
                      refine lv_iload_n C.1 C.2.1 dX12_unitFault_205 rfl (lv_at hl 1 rfl) ?_
                      refine lv_if_eq (tgt := 235) C.1 C.2.1 dX12_unitFault_206 (by decide) (fun _ => ?_) (fun h => absurd (by decide) h)
                      refine lv_aload_n C.1 C.2.1 dX12_unitFault_235 rfl (lv_at hl 0 rfl) ?_
                      refine k_get (v := .int (t.1 0 16)) C hP 0 rfl rfl inlX12 16 (by decide) m_57_3 rfl dX12_unitFault_236 ?_
                      refine lv_bipush (v := 36) C.1 C.2.1 dX12_unitFault_239 (by decide) ?_
                      refine lv_icmp_ne (tgt := 265) C.1 C.2.1 dX12_unitFault_241 (by decide) (fun c_33 => ?_) (fun c_33 => False.elim (by have c_33 : (t.1 0 16).toInt = 36 := i_eq c_33; omega))
                      replace c_33 : ¬ (t.1 0 16).toInt = 36 := i_ne c_33
                      refine lv_iconst (v := 0) C.1 C.2.1 dX12_unitFault_265 (by decide) ?_
                      exact g_iret C hr hlocks hP hD hS rfl () rfl ⟨by decide, by decide, (show 0 = 0 → gdU (t.1 0 16) (t.1 0 17) (t.2.2.1 3) (t.2.2.1 9) (t.1 0 35) (t.1 0 36) from by intro h0; refine ⟨fun _ _ => ?_, fun _ _ _ => ?_, fun _ _ => ?_, fun _ => ?_, fun _ => ?_, fun _ _ => ?_⟩ <;> omega)⟩ (Nat.le_of_ble_eq_true rfl) (Nat.le_of_ble_eq_true rfl) dX12_unitFault_266
                    · replace c_30 : ¬ (t.1 0 18).toInt = 0 := i_ne c_30
                      refine lv_iconst (v := 5) C.1 C.2.1 dX12_unitFault_130 (by decide) ?_
                      exact g_iret C hr hlocks hP hD hS rfl () rfl ⟨by decide, by decide, (show 5 = 0 → gdU (t.1 0 16) (t.1 0 17) (t.2.2.1 3) (t.2.2.1 9) (t.1 0 35) (t.1 0 36) from by intro h0; refine ⟨fun _ _ => ?_, fun _ _ _ => ?_, fun _ _ => ?_, fun _ => ?_, fun _ => ?_, fun _ _ => ?_⟩ <;> omega)⟩ (Nat.le_of_ble_eq_true rfl) (Nat.le_of_ble_eq_true rfl) dX12_unitFault_131
              · replace c_12 : (t.1 0 17).toInt < 16 := i_nle c_12
                refine lv_iconst (v := 1) C.1 C.2.1 dX12_unitFault_84 (by decide) ?_
                refine lv_goto (tgt := 89) C.1 C.2.1 dX12_unitFault_85 (by decide) ?_
                refine lv_istore_n (lv' := [(2, .int 1), (0, .ref (ad 0)), (1, .int 0)]) C.1 C.2.1 dX12_unitFault_89 rfl hl (by decide) rfl (fun ls hl => ?_)
                have hl : lv_has ls 3 [(0, .ref (ad 0)), (1, .int 0), (2, .int 1)] := lv_sub hl [1, 2, 0] rfl
                refine lv_aload_n C.1 C.2.1 dX12_unitFault_90 rfl (lv_at hl 0 rfl) ?_
                refine k_get (v := .int (t.1 0 16)) C hP 0 rfl rfl inlX12 16 (by decide) m_57_3 rfl dX12_unitFault_91 ?_
                refine lv_bipush (v := 35) C.1 C.2.1 dX12_unitFault_94 (by decide) ?_
                refine lv_icmp_ne (tgt := 132) C.1 C.2.1 dX12_unitFault_96 (by decide) (fun c_34 => ?_) (fun c_34 => ?_)
                · replace c_34 : ¬ (t.1 0 16).toInt = 35 := i_ne c_34
                  refine lv_aload_n C.1 C.2.1 dX12_unitFault_132 rfl (lv_at hl 0 rfl) ?_
                  refine k_get (v := .int (t.1 0 16)) C hP 0 rfl rfl inlX12 16 (by decide) m_57_3 rfl dX12_unitFault_133 ?_
                  refine lv_bipush (v := 36) C.1 C.2.1 dX12_unitFault_136 (by decide) ?_
                  refine lv_icmp_ne (tgt := 150) C.1 C.2.1 dX12_unitFault_138 (by decide) (fun c_35 => ?_) (fun c_35 => ?_)
                  · replace c_35 : ¬ (t.1 0 16).toInt = 36 := i_ne c_35
                    refine lv_aload_n C.1 C.2.1 dX12_unitFault_150 rfl (lv_at hl 0 rfl) ?_
                    refine k_get (v := .int (t.1 0 16)) C hP 0 rfl rfl inlX12 16 (by decide) m_57_3 rfl dX12_unitFault_151 ?_
                    refine lv_bipush (v := 37) C.1 C.2.1 dX12_unitFault_154 (by decide) ?_
                    refine lv_icmp_ne (tgt := 170) C.1 C.2.1 dX12_unitFault_156 (by decide) (fun c_36 => False.elim (by have c_36 : ¬ (t.1 0 16).toInt = 37 := i_ne c_36; omega)) (fun c_36 => ?_)
                    replace c_36 : (t.1 0 16).toInt = 37 := i_eq c_36
                    refine lv_aload_n C.1 C.2.1 dX12_unitFault_159 rfl (lv_at hl 0 rfl) ?_
                    refine k_get (v := .int (t.1 0 17)) C hP 0 rfl rfl inlX12 17 (by decide) m_57_4 rfl dX12_unitFault_160 ?_
                    refine lv_bipush (v := 16) C.1 C.2.1 dX12_unitFault_163 (by decide) ?_
                    refine lv_icmp_ne (tgt := 170) C.1 C.2.1 dX12_unitFault_165 (by decide) (fun c_37 => ?_) (fun c_37 => False.elim (by have c_37 : (t.1 0 17).toInt = 16 := i_eq c_37; omega))
                    replace c_37 : ¬ (t.1 0 17).toInt = 16 := i_ne c_37
                    refine lv_iload_n C.1 C.2.1 dX12_unitFault_170 rfl (lv_at hl 2 rfl) ?_
                    refine lv_if_eq (tgt := 205) C.1 C.2.1 dX12_unitFault_171 (by decide) (fun h => absurd h (by decide)) (fun _ => ?_)
                    refine lv_aload_n C.1 C.2.1 dX12_unitFault_174 rfl (lv_at hl 0 rfl) ?_
                    refine k_get (v := .ref (ad 3)) C hP 0 rfl rfl inlX12 4 (by decide) m_7_6 rfl dX12_unitFault_175 ?_
                    refine lv_bipush (v := 7) C.1 C.2.1 dX12_unitFault_178 (by decide) ?_
                    refine k_ild (v := (t.2.2.1 3 (7 : Int32).toNatClampNeg)) C hP 3 rfl (vin (by decide)) rfl dX12_unitFault_180 ?_
                    refine g_Si (As := [.int (t.2.2.1 3 (7 : Int32).toNatClampNeg)]) (rest := []) C hP hD hS hA (T_X12_value l D K Z Y ad t hok ((t.2.2.1 3 (7 : Int32).toNatClampNeg))) hE hZ (uwS m_36_9 m_36_10 m_1_5 m_36_11) (hdS 1 (by decide +kernel) rfl) ⟨Nat.le_of_ble_eq_true rfl, Nat.le_of_ble_eq_true rfl⟩ rfl rfl rfl hl.1 (Nat.le_of_ble_eq_true rfl) dX12_unitFault_181 ⟨Nat.le_of_ble_eq_true rfl, Nat.le_of_ble_eq_true rfl⟩ (fun r_39 t_38 H locs hw hP hD hS => ?_)
                    obtain ⟨h_41, h_42, p_43⟩ := hw
                    replace p_43 : r_39.toInt = (vO (t.2.2.1 3 (7 : Int32).toNatClampNeg)).toInt := p_43
                    refine lv_if_lt (tgt := 202) C.1 C.2.1 dX12_unitFault_184 (by decide) (fun c_44 => ?_) (fun c_44 => ?_)
                    · replace c_44 : r_39.toInt < 0 := i_lt c_44
                      refine lv_bipush (v := 6) C.1 C.2.1 dX12_unitFault_202 (by decide) ?_
                      exact g_iret C hr hlocks hP hD hS rfl () rfl ⟨by decide, by decide, (show 6 = 0 → gdU (t.1 0 16) (t.1 0 17) (t.2.2.1 3) (t.2.2.1 9) (t.1 0 35) (t.1 0 36) from by intro h0; refine ⟨fun _ _ => ?_, fun _ _ _ => ?_, fun _ _ => ?_, fun _ => ?_, fun _ => ?_, fun _ _ => ?_⟩ <;> omega)⟩ (Nat.le_of_ble_eq_true rfl) (Nat.le_of_ble_eq_true rfl) dX12_unitFault_204
                    · replace c_44 : 0 ≤ r_39.toInt := i_nlt c_44
                      refine lv_aload_n C.1 C.2.1 dX12_unitFault_187 rfl (lv_at hl 0 rfl) ?_
                      refine k_get (v := .ref (ad 3)) C hP 0 rfl rfl inlX12 4 (by decide) m_7_6 rfl dX12_unitFault_188 ?_
                      refine lv_bipush (v := 7) C.1 C.2.1 dX12_unitFault_191 (by decide) ?_
                      refine k_ild (v := (t.2.2.1 3 (7 : Int32).toNatClampNeg)) C hP 3 rfl (vin (by decide)) rfl dX12_unitFault_193 ?_
                      refine g_Si (As := [.int (t.2.2.1 3 (7 : Int32).toNatClampNeg)]) (rest := []) C hP hD hS hA (T_X12_value l D K Z Y ad t hok ((t.2.2.1 3 (7 : Int32).toNatClampNeg))) hE hZ (uwS m_36_9 m_36_10 m_1_5 m_36_11) (hdS 1 (by decide +kernel) rfl) ⟨Nat.le_of_ble_eq_true rfl, Nat.le_of_ble_eq_true rfl⟩ rfl rfl rfl hl.1 (Nat.le_of_ble_eq_true rfl) dX12_unitFault_194 ⟨Nat.le_of_ble_eq_true rfl, Nat.le_of_ble_eq_true rfl⟩ (fun r_46 t_45 H locs hw hP hD hS => ?_)
                      obtain ⟨h_48, h_49, p_50⟩ := hw
                      replace p_50 : r_46.toInt = (vO (t.2.2.1 3 (7 : Int32).toNatClampNeg)).toInt := p_50
                      refine lv_bipush (v := 63) C.1 C.2.1 dX12_unitFault_197 (by decide) ?_
                      refine lv_icmp_le (tgt := 205) C.1 C.2.1 dX12_unitFault_199 (by decide) (fun c_51 => ?_) (fun c_51 => ?_)
                      · replace c_51 : r_46.toInt ≤ 63 := i_le c_51
                        refine lv_iload_n C.1 C.2.1 dX12_unitFault_205 rfl (lv_at hl 1 rfl) ?_
                        refine lv_if_eq (tgt := 235) C.1 C.2.1 dX12_unitFault_206 (by decide) (fun _ => ?_) (fun h => absurd (by decide) h)
                        refine lv_aload_n C.1 C.2.1 dX12_unitFault_235 rfl (lv_at hl 0 rfl) ?_
                        refine k_get (v := .int (t.1 0 16)) C hP 0 rfl rfl inlX12 16 (by decide) m_57_3 rfl dX12_unitFault_236 ?_
                        refine lv_bipush (v := 36) C.1 C.2.1 dX12_unitFault_239 (by decide) ?_
                        refine lv_icmp_ne (tgt := 265) C.1 C.2.1 dX12_unitFault_241 (by decide) (fun c_52 => ?_) (fun c_52 => False.elim (by have c_52 : (t.1 0 16).toInt = 36 := i_eq c_52; omega))
                        replace c_52 : ¬ (t.1 0 16).toInt = 36 := i_ne c_52
                        refine lv_iconst (v := 0) C.1 C.2.1 dX12_unitFault_265 (by decide) ?_
                        exact g_iret C hr hlocks hP hD hS rfl () rfl ⟨by decide, by decide, (show 0 = 0 → gdU (t.1 0 16) (t.1 0 17) (t.2.2.1 3) (t.2.2.1 9) (t.1 0 35) (t.1 0 36) from by intro h0; refine ⟨fun _ _ => ?_, fun _ _ _ => ?_, fun _ _ => ?_, fun _ => ?_, fun _ => ?_, fun _ _ => ?_⟩ <;> omega)⟩ (Nat.le_of_ble_eq_true rfl) (Nat.le_of_ble_eq_true rfl) dX12_unitFault_266
                      · replace c_51 : 63 < r_46.toInt := i_nle c_51
                        refine lv_bipush (v := 6) C.1 C.2.1 dX12_unitFault_202 (by decide) ?_
                        exact g_iret C hr hlocks hP hD hS rfl () rfl ⟨by decide, by decide, (show 6 = 0 → gdU (t.1 0 16) (t.1 0 17) (t.2.2.1 3) (t.2.2.1 9) (t.1 0 35) (t.1 0 36) from by intro h0; refine ⟨fun _ _ => ?_, fun _ _ _ => ?_, fun _ _ => ?_, fun _ => ?_, fun _ => ?_, fun _ _ => ?_⟩ <;> omega)⟩ (Nat.le_of_ble_eq_true rfl) (Nat.le_of_ble_eq_true rfl) dX12_unitFault_204
                  · replace c_35 : (t.1 0 16).toInt = 36 := i_eq c_35
                    refine lv_aload_n C.1 C.2.1 dX12_unitFault_141 rfl (lv_at hl 0 rfl) ?_
                    refine k_get (v := .int (t.1 0 17)) C hP 0 rfl rfl inlX12 17 (by decide) m_57_4 rfl dX12_unitFault_142 ?_
                    refine lv_bipush (v := 16) C.1 C.2.1 dX12_unitFault_145 (by decide) ?_
                    refine lv_icmp_gt (tgt := 168) C.1 C.2.1 dX12_unitFault_147 (by decide) (fun c_53 => False.elim (by have c_53 : 16 < (t.1 0 17).toInt := i_lt c_53; omega)) (fun c_53 => ?_)
                    replace c_53 : (t.1 0 17).toInt ≤ 16 := i_nlt c_53
                    refine lv_aload_n C.1 C.2.1 dX12_unitFault_150 rfl (lv_at hl 0 rfl) ?_
                    refine k_get (v := .int (t.1 0 16)) C hP 0 rfl rfl inlX12 16 (by decide) m_57_3 rfl dX12_unitFault_151 ?_
                    refine lv_bipush (v := 37) C.1 C.2.1 dX12_unitFault_154 (by decide) ?_
                    refine lv_icmp_ne (tgt := 170) C.1 C.2.1 dX12_unitFault_156 (by decide) (fun c_54 => ?_) (fun c_54 => False.elim (by have c_54 : (t.1 0 16).toInt = 37 := i_eq c_54; omega))
                    replace c_54 : ¬ (t.1 0 16).toInt = 37 := i_ne c_54
                    refine lv_iload_n C.1 C.2.1 dX12_unitFault_170 rfl (lv_at hl 2 rfl) ?_
                    refine lv_if_eq (tgt := 205) C.1 C.2.1 dX12_unitFault_171 (by decide) (fun h => absurd h (by decide)) (fun _ => ?_)
                    refine lv_aload_n C.1 C.2.1 dX12_unitFault_174 rfl (lv_at hl 0 rfl) ?_
                    refine k_get (v := .ref (ad 3)) C hP 0 rfl rfl inlX12 4 (by decide) m_7_6 rfl dX12_unitFault_175 ?_
                    refine lv_bipush (v := 7) C.1 C.2.1 dX12_unitFault_178 (by decide) ?_
                    refine k_ild (v := (t.2.2.1 3 (7 : Int32).toNatClampNeg)) C hP 3 rfl (vin (by decide)) rfl dX12_unitFault_180 ?_
                    refine g_Si (As := [.int (t.2.2.1 3 (7 : Int32).toNatClampNeg)]) (rest := []) C hP hD hS hA (T_X12_value l D K Z Y ad t hok ((t.2.2.1 3 (7 : Int32).toNatClampNeg))) hE hZ (uwS m_36_9 m_36_10 m_1_5 m_36_11) (hdS 1 (by decide +kernel) rfl) ⟨Nat.le_of_ble_eq_true rfl, Nat.le_of_ble_eq_true rfl⟩ rfl rfl rfl hl.1 (Nat.le_of_ble_eq_true rfl) dX12_unitFault_181 ⟨Nat.le_of_ble_eq_true rfl, Nat.le_of_ble_eq_true rfl⟩ (fun r_56 t_55 H locs hw hP hD hS => ?_)
                    obtain ⟨h_58, h_59, p_60⟩ := hw
                    replace p_60 : r_56.toInt = (vO (t.2.2.1 3 (7 : Int32).toNatClampNeg)).toInt := p_60
                    refine lv_if_lt (tgt := 202) C.1 C.2.1 dX12_unitFault_184 (by decide) (fun c_61 => ?_) (fun c_61 => ?_)
                    · replace c_61 : r_56.toInt < 0 := i_lt c_61
                      refine lv_bipush (v := 6) C.1 C.2.1 dX12_unitFault_202 (by decide) ?_
                      exact g_iret C hr hlocks hP hD hS rfl () rfl ⟨by decide, by decide, (show 6 = 0 → gdU (t.1 0 16) (t.1 0 17) (t.2.2.1 3) (t.2.2.1 9) (t.1 0 35) (t.1 0 36) from by intro h0; refine ⟨fun _ _ => ?_, fun _ _ _ => ?_, fun _ _ => ?_, fun _ => ?_, fun _ => ?_, fun _ _ => ?_⟩ <;> omega)⟩ (Nat.le_of_ble_eq_true rfl) (Nat.le_of_ble_eq_true rfl) dX12_unitFault_204
                    · replace c_61 : 0 ≤ r_56.toInt := i_nlt c_61
                      refine lv_aload_n C.1 C.2.1 dX12_unitFault_187 rfl (lv_at hl 0 rfl) ?_
                      refine k_get (v := .ref (ad 3)) C hP 0 rfl rfl inlX12 4 (by decide) m_7_6 rfl dX12_unitFault_188 ?_
                      refine lv_bipush (v := 7) C.1 C.2.1 dX12_unitFault_191 (by decide) ?_
                      refine k_ild (v := (t.2.2.1 3 (7 : Int32).toNatClampNeg)) C hP 3 rfl (vin (by decide)) rfl dX12_unitFault_193 ?_
                      refine g_Si (As := [.int (t.2.2.1 3 (7 : Int32).toNatClampNeg)]) (rest := []) C hP hD hS hA (T_X12_value l D K Z Y ad t hok ((t.2.2.1 3 (7 : Int32).toNatClampNeg))) hE hZ (uwS m_36_9 m_36_10 m_1_5 m_36_11) (hdS 1 (by decide +kernel) rfl) ⟨Nat.le_of_ble_eq_true rfl, Nat.le_of_ble_eq_true rfl⟩ rfl rfl rfl hl.1 (Nat.le_of_ble_eq_true rfl) dX12_unitFault_194 ⟨Nat.le_of_ble_eq_true rfl, Nat.le_of_ble_eq_true rfl⟩ (fun r_63 t_62 H locs hw hP hD hS => ?_)
                      obtain ⟨h_65, h_66, p_67⟩ := hw
                      replace p_67 : r_63.toInt = (vO (t.2.2.1 3 (7 : Int32).toNatClampNeg)).toInt := p_67
                      refine lv_bipush (v := 63) C.1 C.2.1 dX12_unitFault_197 (by decide) ?_
                      refine lv_icmp_le (tgt := 205) C.1 C.2.1 dX12_unitFault_199 (by decide) (fun c_68 => ?_) (fun c_68 => ?_)
                      · replace c_68 : r_63.toInt ≤ 63 := i_le c_68
                        refine lv_iload_n C.1 C.2.1 dX12_unitFault_205 rfl (lv_at hl 1 rfl) ?_
                        refine lv_if_eq (tgt := 235) C.1 C.2.1 dX12_unitFault_206 (by decide) (fun _ => ?_) (fun h => absurd (by decide) h)
                        refine lv_aload_n C.1 C.2.1 dX12_unitFault_235 rfl (lv_at hl 0 rfl) ?_
                        refine k_get (v := .int (t.1 0 16)) C hP 0 rfl rfl inlX12 16 (by decide) m_57_3 rfl dX12_unitFault_236 ?_
                        refine lv_bipush (v := 36) C.1 C.2.1 dX12_unitFault_239 (by decide) ?_
                        refine lv_icmp_ne (tgt := 265) C.1 C.2.1 dX12_unitFault_241 (by decide) (fun c_69 => False.elim (by have c_69 : ¬ (t.1 0 16).toInt = 36 := i_ne c_69; omega)) (fun c_69 => ?_)
                        replace c_69 : (t.1 0 16).toInt = 36 := i_eq c_69
                        refine lv_aload_n C.1 C.2.1 dX12_unitFault_244 rfl (lv_at hl 0 rfl) ?_
                        refine k_get (v := .int (t.1 0 17)) C hP 0 rfl rfl inlX12 17 (by decide) m_57_4 rfl dX12_unitFault_245 ?_
                        refine lv_bipush (v := 16) C.1 C.2.1 dX12_unitFault_248 (by decide) ?_
                        refine lv_icmp_ne (tgt := 265) C.1 C.2.1 dX12_unitFault_250 (by decide) (fun c_70 => ?_) (fun c_70 => False.elim (by have c_70 : (t.1 0 17).toInt = 16 := i_eq c_70; omega))
                        replace c_70 : ¬ (t.1 0 17).toInt = 16 := i_ne c_70
                        refine lv_iconst (v := 0) C.1 C.2.1 dX12_unitFault_265 (by decide) ?_
                        exact g_iret C hr hlocks hP hD hS rfl () rfl ⟨by decide, by decide, (show 0 = 0 → gdU (t.1 0 16) (t.1 0 17) (t.2.2.1 3) (t.2.2.1 9) (t.1 0 35) (t.1 0 36) from by intro h0; refine ⟨fun _ _ => ?_, fun _ _ _ => ?_, fun _ _ => ?_, fun _ => ?_, fun _ => ?_, fun _ _ => ?_⟩ <;> omega)⟩ (Nat.le_of_ble_eq_true rfl) (Nat.le_of_ble_eq_true rfl) dX12_unitFault_266
                      · replace c_68 : 63 < r_63.toInt := i_nle c_68
                        refine lv_bipush (v := 6) C.1 C.2.1 dX12_unitFault_202 (by decide) ?_
                        exact g_iret C hr hlocks hP hD hS rfl () rfl ⟨by decide, by decide, (show 6 = 0 → gdU (t.1 0 16) (t.1 0 17) (t.2.2.1 3) (t.2.2.1 9) (t.1 0 35) (t.1 0 36) from by intro h0; refine ⟨fun _ _ => ?_, fun _ _ _ => ?_, fun _ _ => ?_, fun _ => ?_, fun _ => ?_, fun _ _ => ?_⟩ <;> omega)⟩ (Nat.le_of_ble_eq_true rfl) (Nat.le_of_ble_eq_true rfl) dX12_unitFault_204
                · replace c_34 : (t.1 0 16).toInt = 35 := i_eq c_34
                  refine lv_iload_n C.1 C.2.1 dX12_unitFault_99 rfl (lv_at hl 1 rfl) ?_
                  refine lv_if_ne (tgt := 132) C.1 C.2.1 dX12_unitFault_100 (by decide) (fun h => absurd h (by decide)) (fun _ => ?_)
                  refine lv_iload_n C.1 C.2.1 dX12_unitFault_103 rfl (lv_at hl 2 rfl) ?_
                  refine lv_if_eq (tgt := 114) C.1 C.2.1 dX12_unitFault_104 (by decide) (fun h => absurd h (by decide)) (fun _ => ?_)
                  refine lv_aload_n C.1 C.2.1 dX12_unitFault_107 rfl (lv_at hl 0 rfl) ?_
                  refine k_get (v := .int (t.1 0 18)) C hP 0 rfl rfl inlX12 18 (by decide) m_57_5 rfl dX12_unitFault_108 ?_
                  refine lv_if_eq (tgt := 132) C.1 C.2.1 dX12_unitFault_111 (by decide) (fun c_71 => ?_) (fun c_71 => ?_)
                  · replace c_71 : (t.1 0 18).toInt = 0 := i_eq c_71
                    refine lv_aload_n C.1 C.2.1 dX12_unitFault_132 rfl (lv_at hl 0 rfl) ?_
                    refine k_get (v := .int (t.1 0 16)) C hP 0 rfl rfl inlX12 16 (by decide) m_57_3 rfl dX12_unitFault_133 ?_
                    refine lv_bipush (v := 36) C.1 C.2.1 dX12_unitFault_136 (by decide) ?_
                    refine lv_icmp_ne (tgt := 150) C.1 C.2.1 dX12_unitFault_138 (by decide) (fun c_72 => ?_) (fun c_72 => False.elim (by have c_72 : (t.1 0 16).toInt = 36 := i_eq c_72; omega))
                    replace c_72 : ¬ (t.1 0 16).toInt = 36 := i_ne c_72
                    refine lv_aload_n C.1 C.2.1 dX12_unitFault_150 rfl (lv_at hl 0 rfl) ?_
                    refine k_get (v := .int (t.1 0 16)) C hP 0 rfl rfl inlX12 16 (by decide) m_57_3 rfl dX12_unitFault_151 ?_
                    refine lv_bipush (v := 37) C.1 C.2.1 dX12_unitFault_154 (by decide) ?_
                    refine lv_icmp_ne (tgt := 170) C.1 C.2.1 dX12_unitFault_156 (by decide) (fun c_73 => ?_) (fun c_73 => False.elim (by have c_73 : (t.1 0 16).toInt = 37 := i_eq c_73; omega))
                    replace c_73 : ¬ (t.1 0 16).toInt = 37 := i_ne c_73
                    refine lv_iload_n C.1 C.2.1 dX12_unitFault_170 rfl (lv_at hl 2 rfl) ?_
                    refine lv_if_eq (tgt := 205) C.1 C.2.1 dX12_unitFault_171 (by decide) (fun h => absurd h (by decide)) (fun _ => ?_)
                    refine lv_aload_n C.1 C.2.1 dX12_unitFault_174 rfl (lv_at hl 0 rfl) ?_
                    refine k_get (v := .ref (ad 3)) C hP 0 rfl rfl inlX12 4 (by decide) m_7_6 rfl dX12_unitFault_175 ?_
                    refine lv_bipush (v := 7) C.1 C.2.1 dX12_unitFault_178 (by decide) ?_
                    refine k_ild (v := (t.2.2.1 3 (7 : Int32).toNatClampNeg)) C hP 3 rfl (vin (by decide)) rfl dX12_unitFault_180 ?_
                    refine g_Si (As := [.int (t.2.2.1 3 (7 : Int32).toNatClampNeg)]) (rest := []) C hP hD hS hA (T_X12_value l D K Z Y ad t hok ((t.2.2.1 3 (7 : Int32).toNatClampNeg))) hE hZ (uwS m_36_9 m_36_10 m_1_5 m_36_11) (hdS 1 (by decide +kernel) rfl) ⟨Nat.le_of_ble_eq_true rfl, Nat.le_of_ble_eq_true rfl⟩ rfl rfl rfl hl.1 (Nat.le_of_ble_eq_true rfl) dX12_unitFault_181 ⟨Nat.le_of_ble_eq_true rfl, Nat.le_of_ble_eq_true rfl⟩ (fun r_75 t_74 H locs hw hP hD hS => ?_)
                    obtain ⟨h_77, h_78, p_79⟩ := hw
                    replace p_79 : r_75.toInt = (vO (t.2.2.1 3 (7 : Int32).toNatClampNeg)).toInt := p_79
                    refine lv_if_lt (tgt := 202) C.1 C.2.1 dX12_unitFault_184 (by decide) (fun c_80 => ?_) (fun c_80 => ?_)
                    · replace c_80 : r_75.toInt < 0 := i_lt c_80
                      refine lv_bipush (v := 6) C.1 C.2.1 dX12_unitFault_202 (by decide) ?_
                      exact g_iret C hr hlocks hP hD hS rfl () rfl ⟨by decide, by decide, (show 6 = 0 → gdU (t.1 0 16) (t.1 0 17) (t.2.2.1 3) (t.2.2.1 9) (t.1 0 35) (t.1 0 36) from by intro h0; refine ⟨fun _ _ => ?_, fun _ _ _ => ?_, fun _ _ => ?_, fun _ => ?_, fun _ => ?_, fun _ _ => ?_⟩ <;> omega)⟩ (Nat.le_of_ble_eq_true rfl) (Nat.le_of_ble_eq_true rfl) dX12_unitFault_204
                    · replace c_80 : 0 ≤ r_75.toInt := i_nlt c_80
                      refine lv_aload_n C.1 C.2.1 dX12_unitFault_187 rfl (lv_at hl 0 rfl) ?_
                      refine k_get (v := .ref (ad 3)) C hP 0 rfl rfl inlX12 4 (by decide) m_7_6 rfl dX12_unitFault_188 ?_
                      refine lv_bipush (v := 7) C.1 C.2.1 dX12_unitFault_191 (by decide) ?_
                      refine k_ild (v := (t.2.2.1 3 (7 : Int32).toNatClampNeg)) C hP 3 rfl (vin (by decide)) rfl dX12_unitFault_193 ?_
                      refine g_Si (As := [.int (t.2.2.1 3 (7 : Int32).toNatClampNeg)]) (rest := []) C hP hD hS hA (T_X12_value l D K Z Y ad t hok ((t.2.2.1 3 (7 : Int32).toNatClampNeg))) hE hZ (uwS m_36_9 m_36_10 m_1_5 m_36_11) (hdS 1 (by decide +kernel) rfl) ⟨Nat.le_of_ble_eq_true rfl, Nat.le_of_ble_eq_true rfl⟩ rfl rfl rfl hl.1 (Nat.le_of_ble_eq_true rfl) dX12_unitFault_194 ⟨Nat.le_of_ble_eq_true rfl, Nat.le_of_ble_eq_true rfl⟩ (fun r_82 t_81 H locs hw hP hD hS => ?_)
                      obtain ⟨h_84, h_85, p_86⟩ := hw
                      replace p_86 : r_82.toInt = (vO (t.2.2.1 3 (7 : Int32).toNatClampNeg)).toInt := p_86
                      refine lv_bipush (v := 63) C.1 C.2.1 dX12_unitFault_197 (by decide) ?_
                      refine lv_icmp_le (tgt := 205) C.1 C.2.1 dX12_unitFault_199 (by decide) (fun c_87 => ?_) (fun c_87 => ?_)
                      · replace c_87 : r_82.toInt ≤ 63 := i_le c_87
                        refine lv_iload_n C.1 C.2.1 dX12_unitFault_205 rfl (lv_at hl 1 rfl) ?_
                        refine lv_if_eq (tgt := 235) C.1 C.2.1 dX12_unitFault_206 (by decide) (fun _ => ?_) (fun h => absurd (by decide) h)
                        refine lv_aload_n C.1 C.2.1 dX12_unitFault_235 rfl (lv_at hl 0 rfl) ?_
                        refine k_get (v := .int (t.1 0 16)) C hP 0 rfl rfl inlX12 16 (by decide) m_57_3 rfl dX12_unitFault_236 ?_
                        refine lv_bipush (v := 36) C.1 C.2.1 dX12_unitFault_239 (by decide) ?_
                        refine lv_icmp_ne (tgt := 265) C.1 C.2.1 dX12_unitFault_241 (by decide) (fun c_88 => ?_) (fun c_88 => False.elim (by have c_88 : (t.1 0 16).toInt = 36 := i_eq c_88; omega))
                        replace c_88 : ¬ (t.1 0 16).toInt = 36 := i_ne c_88
                        refine lv_iconst (v := 0) C.1 C.2.1 dX12_unitFault_265 (by decide) ?_
                        exact g_iret C hr hlocks hP hD hS rfl () rfl ⟨by decide, by decide, (show 0 = 0 → gdU (t.1 0 16) (t.1 0 17) (t.2.2.1 3) (t.2.2.1 9) (t.1 0 35) (t.1 0 36) from by intro h0; refine ⟨fun _ _ => ?_, fun _ _ _ => ?_, fun _ _ => ?_, fun _ => ?_, fun _ => ?_, fun _ _ => ?_⟩ <;> omega)⟩ (Nat.le_of_ble_eq_true rfl) (Nat.le_of_ble_eq_true rfl) dX12_unitFault_266
                      · replace c_87 : 63 < r_82.toInt := i_nle c_87
                        refine lv_bipush (v := 6) C.1 C.2.1 dX12_unitFault_202 (by decide) ?_
                        exact g_iret C hr hlocks hP hD hS rfl () rfl ⟨by decide, by decide, (show 6 = 0 → gdU (t.1 0 16) (t.1 0 17) (t.2.2.1 3) (t.2.2.1 9) (t.1 0 35) (t.1 0 36) from by intro h0; refine ⟨fun _ _ => ?_, fun _ _ _ => ?_, fun _ _ => ?_, fun _ => ?_, fun _ => ?_, fun _ _ => ?_⟩ <;> omega)⟩ (Nat.le_of_ble_eq_true rfl) (Nat.le_of_ble_eq_true rfl) dX12_unitFault_204
                  · replace c_71 : ¬ (t.1 0 18).toInt = 0 := i_ne c_71
                    refine lv_aload_n C.1 C.2.1 dX12_unitFault_114 rfl (lv_at hl 0 rfl) ?_
                    refine k_get (v := .int (t.1 0 17)) C hP 0 rfl rfl inlX12 17 (by decide) m_57_4 rfl dX12_unitFault_115 ?_
                    refine lv_bipush (v := 18) C.1 C.2.1 dX12_unitFault_118 (by decide) ?_
                    refine lv_icmp_ne (tgt := 130) C.1 C.2.1 dX12_unitFault_120 (by decide) (fun c_89 => ?_) (fun c_89 => False.elim (by have c_89 : (t.1 0 17).toInt = 18 := i_eq c_89; omega))
                    replace c_89 : ¬ (t.1 0 17).toInt = 18 := i_ne c_89
                    refine lv_iconst (v := 5) C.1 C.2.1 dX12_unitFault_130 (by decide) ?_
                    exact g_iret C hr hlocks hP hD hS rfl () rfl ⟨by decide, by decide, (show 5 = 0 → gdU (t.1 0 16) (t.1 0 17) (t.2.2.1 3) (t.2.2.1 9) (t.1 0 35) (t.1 0 36) from by intro h0; refine ⟨fun _ _ => ?_, fun _ _ _ => ?_, fun _ _ => ?_, fun _ => ?_, fun _ => ?_, fun _ _ => ?_⟩ <;> omega)⟩ (Nat.le_of_ble_eq_true rfl) (Nat.le_of_ble_eq_true rfl) dX12_unitFault_131
            · replace c_10 : (t.1 0 17).toInt < 8 := i_nle c_10
              refine lv_iconst (v := 1) C.1 C.2.1 dX12_unitFault_60 (by decide) ?_
              refine lv_goto (tgt := 65) C.1 C.2.1 dX12_unitFault_61 (by decide) ?_
              refine lv_istore_n (lv' := [(1, .int 1), (0, .ref (ad 0))]) C.1 C.2.1 dX12_unitFault_65 rfl hl (by decide) rfl (fun ls hl => ?_)
              have hl : lv_has ls 3 [(0, .ref (ad 0)), (1, .int 1)] := lv_sub hl [1, 0] rfl
              refine lv_aload_n C.1 C.2.1 dX12_unitFault_66 rfl (lv_at hl 0 rfl) ?_
              refine k_get (v := .int (t.1 0 17)) C hP 0 rfl rfl inlX12 17 (by decide) m_57_4 rfl dX12_unitFault_67 ?_
              refine lv_bipush (v := 7) C.1 C.2.1 dX12_unitFault_70 (by decide) ?_
              refine lv_icmp_le (tgt := 88) C.1 C.2.1 dX12_unitFault_72 (by decide) (fun c_90 => ?_) (fun c_90 => False.elim (by have c_90 : 7 < (t.1 0 17).toInt := i_nle c_90; omega))
              replace c_90 : (t.1 0 17).toInt ≤ 7 := i_le c_90
              refine lv_iconst (v := 0) C.1 C.2.1 dX12_unitFault_88 (by decide) ?_
              refine lv_istore_n (lv' := [(2, .int 0), (0, .ref (ad 0)), (1, .int 1)]) C.1 C.2.1 dX12_unitFault_89 rfl hl (by decide) rfl (fun ls hl => ?_)
              have hl : lv_has ls 3 [(0, .ref (ad 0)), (1, .int 1), (2, .int 0)] := lv_sub hl [1, 2, 0] rfl
              refine lv_aload_n C.1 C.2.1 dX12_unitFault_90 rfl (lv_at hl 0 rfl) ?_
              refine k_get (v := .int (t.1 0 16)) C hP 0 rfl rfl inlX12 16 (by decide) m_57_3 rfl dX12_unitFault_91 ?_
              refine lv_bipush (v := 35) C.1 C.2.1 dX12_unitFault_94 (by decide) ?_
              refine lv_icmp_ne (tgt := 132) C.1 C.2.1 dX12_unitFault_96 (by decide) (fun c_91 => ?_) (fun c_91 => ?_)
              · replace c_91 : ¬ (t.1 0 16).toInt = 35 := i_ne c_91
                refine lv_aload_n C.1 C.2.1 dX12_unitFault_132 rfl (lv_at hl 0 rfl) ?_
                refine k_get (v := .int (t.1 0 16)) C hP 0 rfl rfl inlX12 16 (by decide) m_57_3 rfl dX12_unitFault_133 ?_
                refine lv_bipush (v := 36) C.1 C.2.1 dX12_unitFault_136 (by decide) ?_
                refine lv_icmp_ne (tgt := 150) C.1 C.2.1 dX12_unitFault_138 (by decide) (fun c_92 => ?_) (fun c_92 => ?_)
                · replace c_92 : ¬ (t.1 0 16).toInt = 36 := i_ne c_92
                  refine lv_aload_n C.1 C.2.1 dX12_unitFault_150 rfl (lv_at hl 0 rfl) ?_
                  refine k_get (v := .int (t.1 0 16)) C hP 0 rfl rfl inlX12 16 (by decide) m_57_3 rfl dX12_unitFault_151 ?_
                  refine lv_bipush (v := 37) C.1 C.2.1 dX12_unitFault_154 (by decide) ?_
                  refine lv_icmp_ne (tgt := 170) C.1 C.2.1 dX12_unitFault_156 (by decide) (fun c_93 => False.elim (by have c_93 : ¬ (t.1 0 16).toInt = 37 := i_ne c_93; omega)) (fun c_93 => ?_)
                  replace c_93 : (t.1 0 16).toInt = 37 := i_eq c_93
                  refine lv_aload_n C.1 C.2.1 dX12_unitFault_159 rfl (lv_at hl 0 rfl) ?_
                  refine k_get (v := .int (t.1 0 17)) C hP 0 rfl rfl inlX12 17 (by decide) m_57_4 rfl dX12_unitFault_160 ?_
                  refine lv_bipush (v := 16) C.1 C.2.1 dX12_unitFault_163 (by decide) ?_
                  refine lv_icmp_ne (tgt := 170) C.1 C.2.1 dX12_unitFault_165 (by decide) (fun c_94 => ?_) (fun c_94 => False.elim (by have c_94 : (t.1 0 17).toInt = 16 := i_eq c_94; omega))
                  replace c_94 : ¬ (t.1 0 17).toInt = 16 := i_ne c_94
                  refine lv_iload_n C.1 C.2.1 dX12_unitFault_170 rfl (lv_at hl 2 rfl) ?_
                  refine lv_if_eq (tgt := 205) C.1 C.2.1 dX12_unitFault_171 (by decide) (fun _ => ?_) (fun h => absurd (by decide) h)
                  refine lv_iload_n C.1 C.2.1 dX12_unitFault_205 rfl (lv_at hl 1 rfl) ?_
                  refine lv_if_eq (tgt := 235) C.1 C.2.1 dX12_unitFault_206 (by decide) (fun h => absurd h (by decide)) (fun _ => ?_)
                  refine lv_aload_n C.1 C.2.1 dX12_unitFault_209 rfl (lv_at hl 0 rfl) ?_
                  refine k_get (v := .int (t.1 0 16)) C hP 0 rfl rfl inlX12 16 (by decide) m_57_3 rfl dX12_unitFault_210 ?_
                  refine lv_bipush (v := 35) C.1 C.2.1 dX12_unitFault_213 (by decide) ?_
                  refine lv_icmp_eq (tgt := 235) C.1 C.2.1 dX12_unitFault_215 (by decide) (fun c_95 => False.elim (by have c_95 : (t.1 0 16).toInt = 35 := i_eq c_95; omega)) (fun c_95 => ?_)
                  replace c_95 : ¬ (t.1 0 16).toInt = 35 := i_ne c_95
                  refine lv_aload_n C.1 C.2.1 dX12_unitFault_218 rfl (lv_at hl 0 rfl) ?_
                  refine k_get (v := .ref (ad 9)) C hP 0 rfl rfl inlX12 24 (by decide) m_7_14 rfl dX12_unitFault_219 ?_
                  refine lv_aload_n C.1 C.2.1 dX12_unitFault_222 rfl (lv_at hl 0 rfl) ?_
                  refine k_get (v := .int (t.1 0 17)) C hP 0 rfl rfl inlX12 17 (by decide) m_57_4 rfl dX12_unitFault_223 ?_
                  have h_96 : (0 : Int) ≤ (t.2.2.1 9 ((t.1 0 17) : Int32).toNatClampNeg).toInt ∧ (t.2.2.1 9 ((t.1 0 17) : Int32).toNatClampNeg).toInt ≤ 64 := hok.2.1 9 _
                  refine k_ild (v := (t.2.2.1 9 ((t.1 0 17) : Int32).toNatClampNeg)) C hP 9 rfl (vp_in_iff.mpr ⟨by omega, by omega⟩) rfl dX12_unitFault_226 ?_
                  refine lv_bipush (v := 64) C.1 C.2.1 dX12_unitFault_227 (by decide) ?_
                  refine lv_icmp_ne (tgt := 235) C.1 C.2.1 dX12_unitFault_229 (by decide) (fun c_97 => ?_) (fun c_97 => ?_)
                  · replace c_97 : ¬ (t.2.2.1 9 ((t.1 0 17) : Int32).toNatClampNeg).toInt = 64 := i_ne c_97
                    refine lv_aload_n C.1 C.2.1 dX12_unitFault_235 rfl (lv_at hl 0 rfl) ?_
                    refine k_get (v := .int (t.1 0 16)) C hP 0 rfl rfl inlX12 16 (by decide) m_57_3 rfl dX12_unitFault_236 ?_
                    refine lv_bipush (v := 36) C.1 C.2.1 dX12_unitFault_239 (by decide) ?_
                    refine lv_icmp_ne (tgt := 265) C.1 C.2.1 dX12_unitFault_241 (by decide) (fun c_98 => ?_) (fun c_98 => False.elim (by have c_98 : (t.1 0 16).toInt = 36 := i_eq c_98; omega))
                    replace c_98 : ¬ (t.1 0 16).toInt = 36 := i_ne c_98
                    refine lv_iconst (v := 0) C.1 C.2.1 dX12_unitFault_265 (by decide) ?_
                    exact g_iret C hr hlocks hP hD hS rfl () rfl ⟨by decide, by decide, (show 0 = 0 → gdU (t.1 0 16) (t.1 0 17) (t.2.2.1 3) (t.2.2.1 9) (t.1 0 35) (t.1 0 36) from by intro h0; refine ⟨fun _ _ => ?_, fun _ _ _ => ?_, fun _ _ => ?_, fun _ => ?_, fun _ => ?_, fun _ _ => ?_⟩ <;> omega)⟩ (Nat.le_of_ble_eq_true rfl) (Nat.le_of_ble_eq_true rfl) dX12_unitFault_266
                  · replace c_97 : (t.2.2.1 9 ((t.1 0 17) : Int32).toNatClampNeg).toInt = 64 := i_eq c_97
                    refine lv_bipush (v := 6) C.1 C.2.1 dX12_unitFault_232 (by decide) ?_
                    exact g_iret C hr hlocks hP hD hS rfl () rfl ⟨by decide, by decide, (show 6 = 0 → gdU (t.1 0 16) (t.1 0 17) (t.2.2.1 3) (t.2.2.1 9) (t.1 0 35) (t.1 0 36) from by intro h0; refine ⟨fun _ _ => ?_, fun _ _ _ => ?_, fun _ _ => ?_, fun _ => ?_, fun _ => ?_, fun _ _ => ?_⟩ <;> omega)⟩ (Nat.le_of_ble_eq_true rfl) (Nat.le_of_ble_eq_true rfl) dX12_unitFault_234
                · replace c_92 : (t.1 0 16).toInt = 36 := i_eq c_92
                  refine lv_aload_n C.1 C.2.1 dX12_unitFault_141 rfl (lv_at hl 0 rfl) ?_
                  refine k_get (v := .int (t.1 0 17)) C hP 0 rfl rfl inlX12 17 (by decide) m_57_4 rfl dX12_unitFault_142 ?_
                  refine lv_bipush (v := 16) C.1 C.2.1 dX12_unitFault_145 (by decide) ?_
                  refine lv_icmp_gt (tgt := 168) C.1 C.2.1 dX12_unitFault_147 (by decide) (fun c_99 => False.elim (by have c_99 : 16 < (t.1 0 17).toInt := i_lt c_99; omega)) (fun c_99 => ?_)
                  replace c_99 : (t.1 0 17).toInt ≤ 16 := i_nlt c_99
                  refine lv_aload_n C.1 C.2.1 dX12_unitFault_150 rfl (lv_at hl 0 rfl) ?_
                  refine k_get (v := .int (t.1 0 16)) C hP 0 rfl rfl inlX12 16 (by decide) m_57_3 rfl dX12_unitFault_151 ?_
                  refine lv_bipush (v := 37) C.1 C.2.1 dX12_unitFault_154 (by decide) ?_
                  refine lv_icmp_ne (tgt := 170) C.1 C.2.1 dX12_unitFault_156 (by decide) (fun c_100 => ?_) (fun c_100 => False.elim (by have c_100 : (t.1 0 16).toInt = 37 := i_eq c_100; omega))
                  replace c_100 : ¬ (t.1 0 16).toInt = 37 := i_ne c_100
                  refine lv_iload_n C.1 C.2.1 dX12_unitFault_170 rfl (lv_at hl 2 rfl) ?_
                  refine lv_if_eq (tgt := 205) C.1 C.2.1 dX12_unitFault_171 (by decide) (fun _ => ?_) (fun h => absurd (by decide) h)
                  refine lv_iload_n C.1 C.2.1 dX12_unitFault_205 rfl (lv_at hl 1 rfl) ?_
                  refine lv_if_eq (tgt := 235) C.1 C.2.1 dX12_unitFault_206 (by decide) (fun h => absurd h (by decide)) (fun _ => ?_)
                  refine lv_aload_n C.1 C.2.1 dX12_unitFault_209 rfl (lv_at hl 0 rfl) ?_
                  refine k_get (v := .int (t.1 0 16)) C hP 0 rfl rfl inlX12 16 (by decide) m_57_3 rfl dX12_unitFault_210 ?_
                  refine lv_bipush (v := 35) C.1 C.2.1 dX12_unitFault_213 (by decide) ?_
                  refine lv_icmp_eq (tgt := 235) C.1 C.2.1 dX12_unitFault_215 (by decide) (fun c_101 => False.elim (by have c_101 : (t.1 0 16).toInt = 35 := i_eq c_101; omega)) (fun c_101 => ?_)
                  replace c_101 : ¬ (t.1 0 16).toInt = 35 := i_ne c_101
                  refine lv_aload_n C.1 C.2.1 dX12_unitFault_218 rfl (lv_at hl 0 rfl) ?_
                  refine k_get (v := .ref (ad 9)) C hP 0 rfl rfl inlX12 24 (by decide) m_7_14 rfl dX12_unitFault_219 ?_
                  refine lv_aload_n C.1 C.2.1 dX12_unitFault_222 rfl (lv_at hl 0 rfl) ?_
                  refine k_get (v := .int (t.1 0 17)) C hP 0 rfl rfl inlX12 17 (by decide) m_57_4 rfl dX12_unitFault_223 ?_
                  have h_102 : (0 : Int) ≤ (t.2.2.1 9 ((t.1 0 17) : Int32).toNatClampNeg).toInt ∧ (t.2.2.1 9 ((t.1 0 17) : Int32).toNatClampNeg).toInt ≤ 64 := hok.2.1 9 _
                  refine k_ild (v := (t.2.2.1 9 ((t.1 0 17) : Int32).toNatClampNeg)) C hP 9 rfl (vp_in_iff.mpr ⟨by omega, by omega⟩) rfl dX12_unitFault_226 ?_
                  refine lv_bipush (v := 64) C.1 C.2.1 dX12_unitFault_227 (by decide) ?_
                  refine lv_icmp_ne (tgt := 235) C.1 C.2.1 dX12_unitFault_229 (by decide) (fun c_103 => ?_) (fun c_103 => ?_)
                  · replace c_103 : ¬ (t.2.2.1 9 ((t.1 0 17) : Int32).toNatClampNeg).toInt = 64 := i_ne c_103
                    refine lv_aload_n C.1 C.2.1 dX12_unitFault_235 rfl (lv_at hl 0 rfl) ?_
                    refine k_get (v := .int (t.1 0 16)) C hP 0 rfl rfl inlX12 16 (by decide) m_57_3 rfl dX12_unitFault_236 ?_
                    refine lv_bipush (v := 36) C.1 C.2.1 dX12_unitFault_239 (by decide) ?_
                    refine lv_icmp_ne (tgt := 265) C.1 C.2.1 dX12_unitFault_241 (by decide) (fun c_104 => False.elim (by have c_104 : ¬ (t.1 0 16).toInt = 36 := i_ne c_104; omega)) (fun c_104 => ?_)
                    replace c_104 : (t.1 0 16).toInt = 36 := i_eq c_104
                    refine lv_aload_n C.1 C.2.1 dX12_unitFault_244 rfl (lv_at hl 0 rfl) ?_
                    refine k_get (v := .int (t.1 0 17)) C hP 0 rfl rfl inlX12 17 (by decide) m_57_4 rfl dX12_unitFault_245 ?_
                    refine lv_bipush (v := 16) C.1 C.2.1 dX12_unitFault_248 (by decide) ?_
                    refine lv_icmp_ne (tgt := 265) C.1 C.2.1 dX12_unitFault_250 (by decide) (fun c_105 => ?_) (fun c_105 => False.elim (by have c_105 : (t.1 0 17).toInt = 16 := i_eq c_105; omega))
                    replace c_105 : ¬ (t.1 0 17).toInt = 16 := i_ne c_105
                    refine lv_iconst (v := 0) C.1 C.2.1 dX12_unitFault_265 (by decide) ?_
                    exact g_iret C hr hlocks hP hD hS rfl () rfl ⟨by decide, by decide, (show 0 = 0 → gdU (t.1 0 16) (t.1 0 17) (t.2.2.1 3) (t.2.2.1 9) (t.1 0 35) (t.1 0 36) from by intro h0; refine ⟨fun _ _ => ?_, fun _ _ _ => ?_, fun _ _ => ?_, fun _ => ?_, fun _ => ?_, fun _ _ => ?_⟩ <;> omega)⟩ (Nat.le_of_ble_eq_true rfl) (Nat.le_of_ble_eq_true rfl) dX12_unitFault_266
                  · replace c_103 : (t.2.2.1 9 ((t.1 0 17) : Int32).toNatClampNeg).toInt = 64 := i_eq c_103
                    refine lv_bipush (v := 6) C.1 C.2.1 dX12_unitFault_232 (by decide) ?_
                    exact g_iret C hr hlocks hP hD hS rfl () rfl ⟨by decide, by decide, (show 6 = 0 → gdU (t.1 0 16) (t.1 0 17) (t.2.2.1 3) (t.2.2.1 9) (t.1 0 35) (t.1 0 36) from by intro h0; refine ⟨fun _ _ => ?_, fun _ _ _ => ?_, fun _ _ => ?_, fun _ => ?_, fun _ => ?_, fun _ _ => ?_⟩ <;> omega)⟩ (Nat.le_of_ble_eq_true rfl) (Nat.le_of_ble_eq_true rfl) dX12_unitFault_234
              · replace c_91 : (t.1 0 16).toInt = 35 := i_eq c_91
                refine lv_iload_n C.1 C.2.1 dX12_unitFault_99 rfl (lv_at hl 1 rfl) ?_
                refine lv_if_ne (tgt := 132) C.1 C.2.1 dX12_unitFault_100 (by decide) (fun _ => ?_) (fun h => absurd h (by decide))
                refine lv_aload_n C.1 C.2.1 dX12_unitFault_132 rfl (lv_at hl 0 rfl) ?_
                refine k_get (v := .int (t.1 0 16)) C hP 0 rfl rfl inlX12 16 (by decide) m_57_3 rfl dX12_unitFault_133 ?_
                refine lv_bipush (v := 36) C.1 C.2.1 dX12_unitFault_136 (by decide) ?_
                refine lv_icmp_ne (tgt := 150) C.1 C.2.1 dX12_unitFault_138 (by decide) (fun c_106 => ?_) (fun c_106 => False.elim (by have c_106 : (t.1 0 16).toInt = 36 := i_eq c_106; omega))
                replace c_106 : ¬ (t.1 0 16).toInt = 36 := i_ne c_106
                refine lv_aload_n C.1 C.2.1 dX12_unitFault_150 rfl (lv_at hl 0 rfl) ?_
                refine k_get (v := .int (t.1 0 16)) C hP 0 rfl rfl inlX12 16 (by decide) m_57_3 rfl dX12_unitFault_151 ?_
                refine lv_bipush (v := 37) C.1 C.2.1 dX12_unitFault_154 (by decide) ?_
                refine lv_icmp_ne (tgt := 170) C.1 C.2.1 dX12_unitFault_156 (by decide) (fun c_107 => ?_) (fun c_107 => False.elim (by have c_107 : (t.1 0 16).toInt = 37 := i_eq c_107; omega))
                replace c_107 : ¬ (t.1 0 16).toInt = 37 := i_ne c_107
                refine lv_iload_n C.1 C.2.1 dX12_unitFault_170 rfl (lv_at hl 2 rfl) ?_
                refine lv_if_eq (tgt := 205) C.1 C.2.1 dX12_unitFault_171 (by decide) (fun _ => ?_) (fun h => absurd (by decide) h)
                refine lv_iload_n C.1 C.2.1 dX12_unitFault_205 rfl (lv_at hl 1 rfl) ?_
                refine lv_if_eq (tgt := 235) C.1 C.2.1 dX12_unitFault_206 (by decide) (fun h => absurd h (by decide)) (fun _ => ?_)
                refine lv_aload_n C.1 C.2.1 dX12_unitFault_209 rfl (lv_at hl 0 rfl) ?_
                refine k_get (v := .int (t.1 0 16)) C hP 0 rfl rfl inlX12 16 (by decide) m_57_3 rfl dX12_unitFault_210 ?_
                refine lv_bipush (v := 35) C.1 C.2.1 dX12_unitFault_213 (by decide) ?_
                refine lv_icmp_eq (tgt := 235) C.1 C.2.1 dX12_unitFault_215 (by decide) (fun c_108 => ?_) (fun c_108 => False.elim (by have c_108 : ¬ (t.1 0 16).toInt = 35 := i_ne c_108; omega))
                replace c_108 : (t.1 0 16).toInt = 35 := i_eq c_108
                refine lv_aload_n C.1 C.2.1 dX12_unitFault_235 rfl (lv_at hl 0 rfl) ?_
                refine k_get (v := .int (t.1 0 16)) C hP 0 rfl rfl inlX12 16 (by decide) m_57_3 rfl dX12_unitFault_236 ?_
                refine lv_bipush (v := 36) C.1 C.2.1 dX12_unitFault_239 (by decide) ?_
                refine lv_icmp_ne (tgt := 265) C.1 C.2.1 dX12_unitFault_241 (by decide) (fun c_109 => ?_) (fun c_109 => False.elim (by have c_109 : (t.1 0 16).toInt = 36 := i_eq c_109; omega))
                replace c_109 : ¬ (t.1 0 16).toInt = 36 := i_ne c_109
                refine lv_iconst (v := 0) C.1 C.2.1 dX12_unitFault_265 (by decide) ?_
                exact g_iret C hr hlocks hP hD hS rfl () rfl ⟨by decide, by decide, (show 0 = 0 → gdU (t.1 0 16) (t.1 0 17) (t.2.2.1 3) (t.2.2.1 9) (t.1 0 35) (t.1 0 36) from by intro h0; refine ⟨fun _ _ => ?_, fun _ _ _ => ?_, fun _ _ => ?_, fun _ => ?_, fun _ => ?_, fun _ _ => ?_⟩ <;> omega)⟩ (Nat.le_of_ble_eq_true rfl) (Nat.le_of_ble_eq_true rfl) dX12_unitFault_266
          · replace c_9 : (t.1 0 16).toInt = 38 := i_eq c_9
            refine lv_iconst (v := 0) C.1 C.2.1 dX12_unitFault_49 (by decide) ?_
            exact g_iret C hr hlocks hP hD hS rfl () rfl ⟨by decide, by decide, (show 0 = 0 → gdU (t.1 0 16) (t.1 0 17) (t.2.2.1 3) (t.2.2.1 9) (t.1 0 35) (t.1 0 36) from by intro h0; refine ⟨fun _ _ => ?_, fun _ _ _ => ?_, fun _ _ => ?_, fun _ => ?_, fun _ => ?_, fun _ _ => ?_⟩ <;> omega)⟩ (Nat.le_of_ble_eq_true rfl) (Nat.le_of_ble_eq_true rfl) dX12_unitFault_50
      · replace c_7 : 19 < (t.1 0 17).toInt := i_nle c_7
        refine lv_iconst (v := 5) C.1 C.2.1 dX12_unitFault_29 (by decide) ?_
        exact g_iret C hr hlocks hP hD hS rfl () rfl ⟨by decide, by decide, (show 5 = 0 → gdU (t.1 0 16) (t.1 0 17) (t.2.2.1 3) (t.2.2.1 9) (t.1 0 35) (t.1 0 36) from by intro h0; refine ⟨fun _ _ => ?_, fun _ _ _ => ?_, fun _ _ => ?_, fun _ => ?_, fun _ => ?_, fun _ _ => ?_⟩ <;> omega)⟩ (Nat.le_of_ble_eq_true rfl) (Nat.le_of_ble_eq_true rfl) dX12_unitFault_30
    · replace c_6 : 38 < (t.1 0 16).toInt := i_nle c_6
      refine lv_iconst (v := 0) C.1 C.2.1 dX12_unitFault_18 (by decide) ?_
      exact g_iret C hr hlocks hP hD hS rfl () rfl ⟨by decide, by decide, (show 0 = 0 → gdU (t.1 0 16) (t.1 0 17) (t.2.2.1 3) (t.2.2.1 9) (t.1 0 35) (t.1 0 36) from by intro h0; refine ⟨fun _ _ => ?_, fun _ _ _ => ?_, fun _ _ => ?_, fun _ => ?_, fun _ => ?_, fun _ _ => ?_⟩ <;> omega)⟩ (Nat.le_of_ble_eq_true rfl) (Nat.le_of_ble_eq_true rfl) dX12_unitFault_19
