theorem dX12_wordOf_0 : decode cX12_wordOf 0 = .ok (.lload_n 0, 1) := by decide +kernel
theorem dX12_wordOf_1 : decode cX12_wordOf 1 = .ok (.lconst 0, 1) := by decide +kernel
theorem dX12_wordOf_10 : decode cX12_wordOf 10 = .ok (.l2i, 1) := by decide +kernel
theorem dX12_wordOf_11 : decode cX12_wordOf 11 = .ok (.ior, 1) := by decide +kernel
theorem dX12_wordOf_12 : decode cX12_wordOf 12 = .ok (.goto 5, 3) := by decide +kernel
theorem dX12_wordOf_15 : decode cX12_wordOf 15 = .ok (.lload_n 0, 1) := by decide +kernel
theorem dX12_wordOf_16 : decode cX12_wordOf 16 = .ok (.l2i, 1) := by decide +kernel
theorem dX12_wordOf_17 : decode cX12_wordOf 17 = .ok (.ireturn, 1) := by decide +kernel
theorem dX12_wordOf_2 : decode cX12_wordOf 2 = .ok (.lcmp, 1) := by decide +kernel
theorem dX12_wordOf_3 : decode cX12_wordOf 3 = .ok (.ifCond .ge 12, 3) := by decide +kernel
theorem dX12_wordOf_6 : decode cX12_wordOf 6 = .ok (.ldc 158, 2) := by decide +kernel
theorem dX12_wordOf_8 : decode cX12_wordOf 8 = .ok (.lload_n 0, 1) := by decide +kernel
theorem dX12_wordOf_9 : decode cX12_wordOf 9 = .ok (.lneg, 1) := by decide +kernel
set_option maxHeartbeats 4000000 in
set_option maxRecDepth 100000 in
theorem T_X12_wordOf (l : Launch) (D : va_G) (K : Nat → ClassId) (Z Y : Nat → Nat) (ad : Nat → Nat) (t : tSt) (hok : okM t) (x0 : Int64) : tMet l yX12_wordOf cX12_wordOf 2 (some .int) (rmD 0 0 0) D K Z Y [.long x0] (WM K ad t) (QI D K (fun (r : Int32) (u : Unit) => (-2147483648 : Int) ≤ r.toInt ∧ r.toInt ≤ 2147483647) (fun (_ : Unit) => WM K ad t)) 0 0 := by
  refine t_met RX12 ⟨rfl, by decide +kernel⟩ (Nat.le_of_ble_eq_true rfl) ?_
  intro p e s m below meth c A ls C hE hZ hr hlocks hA hP hD hS hl
  have hl : lv_has ls 2 [(0, .long x0)] := hl
  refine lv_lload_n C.1 C.2.1 dX12_wordOf_0 rfl (lv_at hl 0 rfl) ?_
  refine lv_lconst (v := 0) C.1 C.2.1 dX12_wordOf_1 (by decide) ?_
  obtain ⟨v_1, e_2⟩ : ∃ z, z = lg_cmp (x0 : Int64) 0 := ⟨_, rfl⟩
  have h_3 : (-1 : Int) ≤ v_1.toInt ∧ v_1.toInt ≤ 1 := by rw [e_2]; exact cmp_rng _ _
  refine k_lcmp (v := v_1) C e_2.symm dX12_wordOf_2 ?_
  refine lv_if_ge (tgt := 15) C.1 C.2.1 dX12_wordOf_3 (by decide) (fun c_4 => ?_) (fun c_4 => ?_)
  · replace c_4 : 0 ≤ v_1.toInt := i_le c_4
    refine lv_lload_n C.1 C.2.1 dX12_wordOf_15 rfl (lv_at hl 0 rfl) ?_
    obtain ⟨v_5, e_6⟩ : ∃ z, z = (x0).toInt32 := ⟨_, rfl⟩
    refine lv_l2i (v := v_5) C.1 C.2.1 dX12_wordOf_16 e_6.symm ?_
    exact g_iret C hr hlocks hP hD hS rfl () rfl ⟨(i_rng _).1, (i_rng _).2⟩ (Nat.le_of_ble_eq_true rfl) (Nat.le_of_ble_eq_true rfl) dX12_wordOf_17
  · replace c_4 : v_1.toInt < 0 := i_nle c_4
    refine lv_ldc (v := 1073741824) C.1 C.2.1 C.2.2.2.1 (C.2.2.2.2.1 _ m_34_19) dX12_wordOf_6 ?_
    refine lv_lload_n C.1 C.2.1 dX12_wordOf_8 rfl (lv_at hl 0 rfl) ?_
    refine lv_lneg C.1 C.2.1 dX12_wordOf_9 ?_
    obtain ⟨v_7, e_8⟩ : ∃ z, z = ((-x0)).toInt32 := ⟨_, rfl⟩
    refine lv_l2i (v := v_7) C.1 C.2.1 dX12_wordOf_10 e_8.symm ?_
    obtain ⟨v_9, e_10⟩ : ∃ z, z = (1073741824 : Int32) ||| (v_7 : Int32) := ⟨_, rfl⟩
    refine k_ior (v := v_9) C e_10.symm dX12_wordOf_11 ?_
    refine lv_goto (tgt := 17) C.1 C.2.1 dX12_wordOf_12 (by decide) ?_
    exact g_iret C hr hlocks hP hD hS rfl () rfl ⟨(i_rng _).1, (i_rng _).2⟩ (Nat.le_of_ble_eq_true rfl) (Nat.le_of_ble_eq_true rfl) dX12_wordOf_17

theorem dX12_hasCard_0 : decode cX12_hasCard 0 = .ok (.aload_n 0, 1) := by decide +kernel
theorem dX12_hasCard_1 : decode cX12_hasCard 1 = .ok (.invokevirtual 232, 3) := by decide +kernel
theorem dX12_hasCard_10 : decode cX12_hasCard 10 = .ok (.getfield 235, 3) := by decide +kernel
theorem dX12_hasCard_13 : decode cX12_hasCard 13 = .ok (.ifCond .ne 17, 3) := by decide +kernel
theorem dX12_hasCard_16 : decode cX12_hasCard 16 = .ok (.aload_n 0, 1) := by decide +kernel
theorem dX12_hasCard_17 : decode cX12_hasCard 17 = .ok (.getfield 238, 3) := by decide +kernel
theorem dX12_hasCard_20 : decode cX12_hasCard 20 = .ok (.ifCond .eq 14, 3) := by decide +kernel
theorem dX12_hasCard_23 : decode cX12_hasCard 23 = .ok (.aload_n 0, 1) := by decide +kernel
theorem dX12_hasCard_24 : decode cX12_hasCard 24 = .ok (.getfield 241, 3) := by decide +kernel
theorem dX12_hasCard_27 : decode cX12_hasCard 27 = .ok (.ifCond .ne 7, 3) := by decide +kernel
theorem dX12_hasCard_30 : decode cX12_hasCard 30 = .ok (.iconst 1, 1) := by decide +kernel
theorem dX12_hasCard_31 : decode cX12_hasCard 31 = .ok (.goto 4, 3) := by decide +kernel
theorem dX12_hasCard_34 : decode cX12_hasCard 34 = .ok (.iconst 0, 1) := by decide +kernel
theorem dX12_hasCard_35 : decode cX12_hasCard 35 = .ok (.istore_n 1, 1) := by decide +kernel
theorem dX12_hasCard_36 : decode cX12_hasCard 36 = .ok (.iload_n 1, 1) := by decide +kernel
theorem dX12_hasCard_37 : decode cX12_hasCard 37 = .ok (.ifCond .eq 34, 3) := by decide +kernel
theorem dX12_hasCard_4 : decode cX12_hasCard 4 = .ok (.ifCond .ne 5, 3) := by decide +kernel
theorem dX12_hasCard_40 : decode cX12_hasCard 40 = .ok (.aload_n 0, 1) := by decide +kernel
theorem dX12_hasCard_41 : decode cX12_hasCard 41 = .ok (.getfield 65, 3) := by decide +kernel
theorem dX12_hasCard_44 : decode cX12_hasCard 44 = .ok (.aload_n 0, 1) := by decide +kernel
theorem dX12_hasCard_45 : decode cX12_hasCard 45 = .ok (.getfield 68, 3) := by decide +kernel
theorem dX12_hasCard_48 : decode cX12_hasCard 48 = .ok (.aload_n 0, 1) := by decide +kernel
theorem dX12_hasCard_49 : decode cX12_hasCard 49 = .ok (.getfield 229, 3) := by decide +kernel
theorem dX12_hasCard_52 : decode cX12_hasCard 52 = .ok (.iaload, 1) := by decide +kernel
theorem dX12_hasCard_53 : decode cX12_hasCard 53 = .ok (.aload_n 0, 1) := by decide +kernel
theorem dX12_hasCard_54 : decode cX12_hasCard 54 = .ok (.getfield 71, 3) := by decide +kernel
theorem dX12_hasCard_57 : decode cX12_hasCard 57 = .ok (.aload_n 0, 1) := by decide +kernel
theorem dX12_hasCard_58 : decode cX12_hasCard 58 = .ok (.getfield 229, 3) := by decide +kernel
theorem dX12_hasCard_61 : decode cX12_hasCard 61 = .ok (.iaload, 1) := by decide +kernel
theorem dX12_hasCard_62 : decode cX12_hasCard 62 = .ok (.iconst 0, 1) := by decide +kernel
theorem dX12_hasCard_63 : decode cX12_hasCard 63 = .ok (.invokestatic 244, 3) := by decide +kernel
theorem dX12_hasCard_66 : decode cX12_hasCard 66 = .ok (.bipush 42, 2) := by decide +kernel
theorem dX12_hasCard_68 : decode cX12_hasCard 68 = .ok (.if_icmp .eq 7, 3) := by decide +kernel
theorem dX12_hasCard_7 : decode cX12_hasCard 7 = .ok (.iconst 0, 1) := by decide +kernel
theorem dX12_hasCard_71 : decode cX12_hasCard 71 = .ok (.iconst 1, 1) := by decide +kernel
theorem dX12_hasCard_72 : decode cX12_hasCard 72 = .ok (.goto 4, 3) := by decide +kernel
theorem dX12_hasCard_75 : decode cX12_hasCard 75 = .ok (.iconst 0, 1) := by decide +kernel
theorem dX12_hasCard_76 : decode cX12_hasCard 76 = .ok (.ireturn, 1) := by decide +kernel
theorem dX12_hasCard_8 : decode cX12_hasCard 8 = .ok (.ireturn, 1) := by decide +kernel
theorem dX12_hasCard_9 : decode cX12_hasCard 9 = .ok (.aload_n 0, 1) := by decide +kernel
set_option maxHeartbeats 4000000 in
set_option maxRecDepth 100000 in
theorem T_X12_hasCard (l : Launch) (D : va_G) (K : Nat → ClassId) (Z Y : Nat → Nat) (ad : Nat → Nat) (t : tSt) (hok : okM t)  : tMet l yX12_hasCard cX12_hasCard 2 (some .boolean) (rmD 7 0 0) D K Z Y [.ref (ad 0)] (WM K ad t) (QI D K (fun (r : Int32) (u : Unit) => (0 : Int) ≤ r.toInt ∧ r.toInt ≤ 1 ∧ (r.toInt = 1 → (t.1 0 35).toInt < (t.1 0 36).toInt)) (fun (_ : Unit) => WM K ad t)) 0 0 := by
  refine t_met RX12 ⟨rfl, by decide +kernel⟩ (Nat.le_of_ble_eq_true rfl) ?_
  intro p e s m below meth c A ls C hE hZ hr hlocks hA hP hD hS hl
  have hl : lv_has ls 2 [(0, .ref (ad 0))] := hl
  have h_1 : (0 : Int) ≤ (t.1 0 35).toInt ∧ (t.1 0 35).toInt ≤ 1700 := hok.1 0 35
  have h_2 : (0 : Int) ≤ (t.1 0 36).toInt ∧ (t.1 0 36).toInt ≤ 1700 := hok.1 0 36
  have hcc : (t.1 0 35).toInt ≤ (t.1 0 36).toInt := hok.2.2.2.2.2.1
  refine lv_aload_n C.1 C.2.1 dX12_hasCard_0 rfl (lv_at hl 0 rfl) ?_
  refine g_Vi (As := []) (rest := []) C hP hD hS hA (T_X12_cardsLeft l D K Z Y ad t hok ) hE hZ (uwV m_44_12 m_44_13 m_44_14 m_1_5 m_44_15) (hdV 0 (by decide +kernel) rfl) ⟨Nat.le_of_ble_eq_true rfl, Nat.le_of_ble_eq_true rfl⟩ rfl rfl (ci := 11) (q0 := 0) rfl rfl rfl hl.1 (Nat.le_of_ble_eq_true rfl) dX12_hasCard_1 ⟨Nat.le_of_ble_eq_true rfl, Nat.le_of_ble_eq_true rfl⟩ (fun r_4 t_3 H locs hw hP hD hS => ?_)
  obtain ⟨h_6, h_7, p_8⟩ := hw
  replace p_8 : r_4.toInt = (t.1 0 36).toInt - (t.1 0 35).toInt := p_8
  refine lv_if_ne (tgt := 9) C.1 C.2.1 dX12_hasCard_4 (by decide) (fun c_9 => ?_) (fun c_9 => ?_)
  · replace c_9 : ¬ r_4.toInt = 0 := i_ne c_9
    refine lv_aload_n C.1 C.2.1 dX12_hasCard_9 rfl (lv_at hl 0 rfl) ?_
    have h_10 : (0 : Int) ≤ (t.1 0 12).toInt ∧ (t.1 0 12).toInt ≤ 1 := hok.1 0 12
    refine k_get (v := .int (t.1 0 12)) C hP 0 rfl rfl inlX12 12 (by decide) m_30_2 rfl dX12_hasCard_10 ?_
    refine lv_if_ne (tgt := 30) C.1 C.2.1 dX12_hasCard_13 (by decide) (fun c_11 => ?_) (fun c_11 => ?_)
    · replace c_11 : ¬ (t.1 0 12).toInt = 0 := i_ne c_11
      refine lv_iconst (v := 1) C.1 C.2.1 dX12_hasCard_30 (by decide) ?_
      refine lv_goto (tgt := 35) C.1 C.2.1 dX12_hasCard_31 (by decide) ?_
      refine lv_istore_n (lv' := [(1, .int 1), (0, .ref (ad 0))]) C.1 C.2.1 dX12_hasCard_35 rfl hl (by decide) rfl (fun ls hl => ?_)
      have hl : lv_has ls 2 [(0, .ref (ad 0)), (1, .int 1)] := lv_sub hl [1, 0] rfl
      refine lv_iload_n C.1 C.2.1 dX12_hasCard_36 rfl (lv_at hl 1 rfl) ?_
      refine lv_if_eq (tgt := 71) C.1 C.2.1 dX12_hasCard_37 (by decide) (fun h => absurd h (by decide)) (fun _ => ?_)
      refine lv_aload_n C.1 C.2.1 dX12_hasCard_40 rfl (lv_at hl 0 rfl) ?_
      refine k_get (v := .ref (ad 15)) C hP 0 rfl rfl inlX12 32 (by decide) m_7_23 rfl dX12_hasCard_41 ?_
      refine lv_aload_n C.1 C.2.1 dX12_hasCard_44 rfl (lv_at hl 0 rfl) ?_
      refine k_get (v := .ref (ad 16)) C hP 0 rfl rfl inlX12 33 (by decide) m_8_0 rfl dX12_hasCard_45 ?_
      refine lv_aload_n C.1 C.2.1 dX12_hasCard_48 rfl (lv_at hl 0 rfl) ?_
      refine k_get (v := .int (t.1 0 35)) C hP 0 rfl rfl inlX12 35 (by decide) m_44_17 rfl dX12_hasCard_49 ?_
      obtain ⟨v_12, e_13⟩ : ∃ z, z = (t.2.2.1 16 ((t.1 0 35) : Int32).toNatClampNeg) := ⟨_, rfl⟩
      have h_14 : (0 : Int) ≤ v_12.toInt ∧ v_12.toInt ≤ 33300 := by rw [e_13]; exact hok.2.1 16 _
      refine k_ild (v := v_12) C hP 16 rfl (vp_in_iff.mpr ⟨by omega, by omega⟩) e_13.symm dX12_hasCard_52 ?_
      refine lv_aload_n C.1 C.2.1 dX12_hasCard_53 rfl (lv_at hl 0 rfl) ?_
      refine k_get (v := .ref (ad 17)) C hP 0 rfl rfl inlX12 34 (by decide) m_8_1 rfl dX12_hasCard_54 ?_
      refine lv_aload_n C.1 C.2.1 dX12_hasCard_57 rfl (lv_at hl 0 rfl) ?_
      refine k_get (v := .int (t.1 0 35)) C hP 0 rfl rfl inlX12 35 (by decide) m_44_17 rfl dX12_hasCard_58 ?_
      obtain ⟨v_15, e_16⟩ : ∃ z, z = (t.2.2.1 17 ((t.1 0 35) : Int32).toNatClampNeg) := ⟨_, rfl⟩
      have h_17 : (0 : Int) ≤ v_15.toInt ∧ v_15.toInt ≤ 33300 := by rw [e_16]; exact hok.2.1 17 _
      refine k_ild (v := v_15) C hP 17 rfl (vp_in_iff.mpr ⟨by omega, by omega⟩) e_16.symm dX12_hasCard_61 ?_
      refine lv_iconst (v := 0) C.1 C.2.1 dX12_hasCard_62 (by decide) ?_
      have h_18 : (0 : Int32).toInt = 0 := rfl
      refine g_Si (As := [.ref (ad 15), .int v_12, .int v_15, .int 0]) (rest := []) C hP hD hS hA (T_X12_letterIn_1 l D K Z Y ad t hok (v_12) (show (0 : Int) ≤ (v_12 : Int32).toInt ∧ (v_12 : Int32).toInt ≤ 33300 from ⟨by omega, by omega⟩) (v_15) (show (0 : Int) ≤ (v_15 : Int32).toInt ∧ (v_15 : Int32).toInt ≤ 33300 from ⟨by omega, by omega⟩) 0 (show (0 : Int) ≤ (0 : Int32).toInt ∧ (0 : Int32).toInt ≤ 79 from ⟨by decide, by decide⟩)) hE hZ (uwS m_31_12 m_31_13 m_1_5 m_31_14) (hdS 4 (by decide +kernel) rfl) ⟨Nat.le_of_ble_eq_true rfl, Nat.le_of_ble_eq_true rfl⟩ rfl rfl rfl hl.1 (Nat.le_of_ble_eq_true rfl) dX12_hasCard_63 ⟨Nat.le_of_ble_eq_true rfl, Nat.le_of_ble_eq_true rfl⟩ (fun r_20 t_19 H locs hw hP hD hS => ?_)
      obtain ⟨h_22, h_23, p_24, p_25, p_26, p_27⟩ := hw
      replace p_24 : r_20 = gL (t.2.2.1 15) v_12 v_15 (0 : Int32) := p_24
      replace p_25 : r_20.toInt = (gL (t.2.2.1 15) v_12 v_15 (0 : Int32)).toInt := p_25
      replace p_26 : ¬ r_20.toInt = 32 → v_12.toInt + (0 : Int32).toInt < v_15.toInt := p_26
      replace p_27 : 80 ≤ (0 : Int32).toInt → r_20.toInt = 32 := p_27
      refine lv_bipush (v := 42) C.1 C.2.1 dX12_hasCard_66 (by decide) ?_
      refine lv_icmp_eq (tgt := 75) C.1 C.2.1 dX12_hasCard_68 (by decide) (fun c_28 => ?_) (fun c_28 => ?_)
      · replace c_28 : r_20.toInt = 42 := i_eq c_28
        refine lv_iconst (v := 0) C.1 C.2.1 dX12_hasCard_75 (by decide) ?_
        exact g_iret C hr hlocks hP hD hS (by decide) () rfl ⟨by decide, by decide, (show 0 = 1 → (t.1 0 35).toInt < (t.1 0 36).toInt from by omega)⟩ (Nat.le_of_ble_eq_true rfl) (Nat.le_of_ble_eq_true rfl) dX12_hasCard_76
      · replace c_28 : ¬ r_20.toInt = 42 := i_ne c_28
        refine lv_iconst (v := 1) C.1 C.2.1 dX12_hasCard_71 (by decide) ?_
        refine lv_goto (tgt := 76) C.1 C.2.1 dX12_hasCard_72 (by decide) ?_
        exact g_iret C hr hlocks hP hD hS (by decide) () rfl ⟨by decide, by decide, (show 1 = 1 → (t.1 0 35).toInt < (t.1 0 36).toInt from by omega)⟩ (Nat.le_of_ble_eq_true rfl) (Nat.le_of_ble_eq_true rfl) dX12_hasCard_76
    · replace c_11 : (t.1 0 12).toInt = 0 := i_eq c_11
      refine lv_aload_n C.1 C.2.1 dX12_hasCard_16 rfl (lv_at hl 0 rfl) ?_
      have h_29 : (0 : Int) ≤ (t.1 0 11).toInt ∧ (t.1 0 11).toInt ≤ 1 := hok.1 0 11
      refine k_get (v := .int (t.1 0 11)) C hP 0 rfl rfl inlX12 11 (by decide) m_30_1 rfl dX12_hasCard_17 ?_
      refine lv_if_eq (tgt := 34) C.1 C.2.1 dX12_hasCard_20 (by decide) (fun c_30 => ?_) (fun c_30 => ?_)
      · replace c_30 : (t.1 0 11).toInt = 0 := i_eq c_30
        refine lv_iconst (v := 0) C.1 C.2.1 dX12_hasCard_34 (by decide) ?_
        refine lv_istore_n (lv' := [(1, .int 0), (0, .ref (ad 0))]) C.1 C.2.1 dX12_hasCard_35 rfl hl (by decide) rfl (fun ls hl => ?_)
        have hl : lv_has ls 2 [(0, .ref (ad 0)), (1, .int 0)] := lv_sub hl [1, 0] rfl
        refine lv_iload_n C.1 C.2.1 dX12_hasCard_36 rfl (lv_at hl 1 rfl) ?_
        refine lv_if_eq (tgt := 71) C.1 C.2.1 dX12_hasCard_37 (by decide) (fun _ => ?_) (fun h => absurd (by decide) h)
        refine lv_iconst (v := 1) C.1 C.2.1 dX12_hasCard_71 (by decide) ?_
        refine lv_goto (tgt := 76) C.1 C.2.1 dX12_hasCard_72 (by decide) ?_
        exact g_iret C hr hlocks hP hD hS (by decide) () rfl ⟨by decide, by decide, (show 1 = 1 → (t.1 0 35).toInt < (t.1 0 36).toInt from by omega)⟩ (Nat.le_of_ble_eq_true rfl) (Nat.le_of_ble_eq_true rfl) dX12_hasCard_76
      · replace c_30 : ¬ (t.1 0 11).toInt = 0 := i_ne c_30
        refine lv_aload_n C.1 C.2.1 dX12_hasCard_23 rfl (lv_at hl 0 rfl) ?_
        have h_31 : (0 : Int) ≤ (t.1 0 10).toInt ∧ (t.1 0 10).toInt ≤ 1 := hok.1 0 10
        refine k_get (v := .int (t.1 0 10)) C hP 0 rfl rfl inlX12 10 (by decide) m_30_0 rfl dX12_hasCard_24 ?_
        refine lv_if_ne (tgt := 34) C.1 C.2.1 dX12_hasCard_27 (by decide) (fun c_32 => ?_) (fun c_32 => ?_)
        · replace c_32 : ¬ (t.1 0 10).toInt = 0 := i_ne c_32
          refine lv_iconst (v := 0) C.1 C.2.1 dX12_hasCard_34 (by decide) ?_
          refine lv_istore_n (lv' := [(1, .int 0), (0, .ref (ad 0))]) C.1 C.2.1 dX12_hasCard_35 rfl hl (by decide) rfl (fun ls hl => ?_)
          have hl : lv_has ls 2 [(0, .ref (ad 0)), (1, .int 0)] := lv_sub hl [1, 0] rfl
          refine lv_iload_n C.1 C.2.1 dX12_hasCard_36 rfl (lv_at hl 1 rfl) ?_
          refine lv_if_eq (tgt := 71) C.1 C.2.1 dX12_hasCard_37 (by decide) (fun _ => ?_) (fun h => absurd (by decide) h)
          refine lv_iconst (v := 1) C.1 C.2.1 dX12_hasCard_71 (by decide) ?_
          refine lv_goto (tgt := 76) C.1 C.2.1 dX12_hasCard_72 (by decide) ?_
          exact g_iret C hr hlocks hP hD hS (by decide) () rfl ⟨by decide, by decide, (show 1 = 1 → (t.1 0 35).toInt < (t.1 0 36).toInt from by omega)⟩ (Nat.le_of_ble_eq_true rfl) (Nat.le_of_ble_eq_true rfl) dX12_hasCard_76
        · replace c_32 : (t.1 0 10).toInt = 0 := i_eq c_32
          refine lv_iconst (v := 1) C.1 C.2.1 dX12_hasCard_30 (by decide) ?_
          refine lv_goto (tgt := 35) C.1 C.2.1 dX12_hasCard_31 (by decide) ?_
          refine lv_istore_n (lv' := [(1, .int 1), (0, .ref (ad 0))]) C.1 C.2.1 dX12_hasCard_35 rfl hl (by decide) rfl (fun ls hl => ?_)
          have hl : lv_has ls 2 [(0, .ref (ad 0)), (1, .int 1)] := lv_sub hl [1, 0] rfl
          refine lv_iload_n C.1 C.2.1 dX12_hasCard_36 rfl (lv_at hl 1 rfl) ?_
          refine lv_if_eq (tgt := 71) C.1 C.2.1 dX12_hasCard_37 (by decide) (fun h => absurd h (by decide)) (fun _ => ?_)
          refine lv_aload_n C.1 C.2.1 dX12_hasCard_40 rfl (lv_at hl 0 rfl) ?_
          refine k_get (v := .ref (ad 15)) C hP 0 rfl rfl inlX12 32 (by decide) m_7_23 rfl dX12_hasCard_41 ?_
          refine lv_aload_n C.1 C.2.1 dX12_hasCard_44 rfl (lv_at hl 0 rfl) ?_
          refine k_get (v := .ref (ad 16)) C hP 0 rfl rfl inlX12 33 (by decide) m_8_0 rfl dX12_hasCard_45 ?_
          refine lv_aload_n C.1 C.2.1 dX12_hasCard_48 rfl (lv_at hl 0 rfl) ?_
          refine k_get (v := .int (t.1 0 35)) C hP 0 rfl rfl inlX12 35 (by decide) m_44_17 rfl dX12_hasCard_49 ?_
          obtain ⟨v_33, e_34⟩ : ∃ z, z = (t.2.2.1 16 ((t.1 0 35) : Int32).toNatClampNeg) := ⟨_, rfl⟩
          have h_35 : (0 : Int) ≤ v_33.toInt ∧ v_33.toInt ≤ 33300 := by rw [e_34]; exact hok.2.1 16 _
          refine k_ild (v := v_33) C hP 16 rfl (vp_in_iff.mpr ⟨by omega, by omega⟩) e_34.symm dX12_hasCard_52 ?_
          refine lv_aload_n C.1 C.2.1 dX12_hasCard_53 rfl (lv_at hl 0 rfl) ?_
          refine k_get (v := .ref (ad 17)) C hP 0 rfl rfl inlX12 34 (by decide) m_8_1 rfl dX12_hasCard_54 ?_
          refine lv_aload_n C.1 C.2.1 dX12_hasCard_57 rfl (lv_at hl 0 rfl) ?_
          refine k_get (v := .int (t.1 0 35)) C hP 0 rfl rfl inlX12 35 (by decide) m_44_17 rfl dX12_hasCard_58 ?_
          obtain ⟨v_36, e_37⟩ : ∃ z, z = (t.2.2.1 17 ((t.1 0 35) : Int32).toNatClampNeg) := ⟨_, rfl⟩
          have h_38 : (0 : Int) ≤ v_36.toInt ∧ v_36.toInt ≤ 33300 := by rw [e_37]; exact hok.2.1 17 _
          refine k_ild (v := v_36) C hP 17 rfl (vp_in_iff.mpr ⟨by omega, by omega⟩) e_37.symm dX12_hasCard_61 ?_
          refine lv_iconst (v := 0) C.1 C.2.1 dX12_hasCard_62 (by decide) ?_
          have h_39 : (0 : Int32).toInt = 0 := rfl
          refine g_Si (As := [.ref (ad 15), .int v_33, .int v_36, .int 0]) (rest := []) C hP hD hS hA (T_X12_letterIn_1 l D K Z Y ad t hok (v_33) (show (0 : Int) ≤ (v_33 : Int32).toInt ∧ (v_33 : Int32).toInt ≤ 33300 from ⟨by omega, by omega⟩) (v_36) (show (0 : Int) ≤ (v_36 : Int32).toInt ∧ (v_36 : Int32).toInt ≤ 33300 from ⟨by omega, by omega⟩) 0 (show (0 : Int) ≤ (0 : Int32).toInt ∧ (0 : Int32).toInt ≤ 79 from ⟨by decide, by decide⟩)) hE hZ (uwS m_31_12 m_31_13 m_1_5 m_31_14) (hdS 4 (by decide +kernel) rfl) ⟨Nat.le_of_ble_eq_true rfl, Nat.le_of_ble_eq_true rfl⟩ rfl rfl rfl hl.1 (Nat.le_of_ble_eq_true rfl) dX12_hasCard_63 ⟨Nat.le_of_ble_eq_true rfl, Nat.le_of_ble_eq_true rfl⟩ (fun r_41 t_40 H locs hw hP hD hS => ?_)
          obtain ⟨h_43, h_44, p_45, p_46, p_47, p_48⟩ := hw
          replace p_45 : r_41 = gL (t.2.2.1 15) v_33 v_36 (0 : Int32) := p_45
          replace p_46 : r_41.toInt = (gL (t.2.2.1 15) v_33 v_36 (0 : Int32)).toInt := p_46
          replace p_47 : ¬ r_41.toInt = 32 → v_33.toInt + (0 : Int32).toInt < v_36.toInt := p_47
          replace p_48 : 80 ≤ (0 : Int32).toInt → r_41.toInt = 32 := p_48
          refine lv_bipush (v := 42) C.1 C.2.1 dX12_hasCard_66 (by decide) ?_
          refine lv_icmp_eq (tgt := 75) C.1 C.2.1 dX12_hasCard_68 (by decide) (fun c_49 => ?_) (fun c_49 => ?_)
          · replace c_49 : r_41.toInt = 42 := i_eq c_49
            refine lv_iconst (v := 0) C.1 C.2.1 dX12_hasCard_75 (by decide) ?_
            exact g_iret C hr hlocks hP hD hS (by decide) () rfl ⟨by decide, by decide, (show 0 = 1 → (t.1 0 35).toInt < (t.1 0 36).toInt from by omega)⟩ (Nat.le_of_ble_eq_true rfl) (Nat.le_of_ble_eq_true rfl) dX12_hasCard_76
          · replace c_49 : ¬ r_41.toInt = 42 := i_ne c_49
            refine lv_iconst (v := 1) C.1 C.2.1 dX12_hasCard_71 (by decide) ?_
            refine lv_goto (tgt := 76) C.1 C.2.1 dX12_hasCard_72 (by decide) ?_
            exact g_iret C hr hlocks hP hD hS (by decide) () rfl ⟨by decide, by decide, (show 1 = 1 → (t.1 0 35).toInt < (t.1 0 36).toInt from by omega)⟩ (Nat.le_of_ble_eq_true rfl) (Nat.le_of_ble_eq_true rfl) dX12_hasCard_76
  · replace c_9 : r_4.toInt = 0 := i_eq c_9
    refine lv_iconst (v := 0) C.1 C.2.1 dX12_hasCard_7 (by decide) ?_
    exact g_iret C hr hlocks hP hD hS (by decide) () rfl ⟨by decide, by decide, (show 0 = 1 → (t.1 0 35).toInt < (t.1 0 36).toInt from by omega)⟩ (Nat.le_of_ble_eq_true rfl) (Nat.le_of_ble_eq_true rfl) dX12_hasCard_8

theorem dX12_symbolOf_0 : decode cX12_symbolOf 0 = .ok (.aload_n 0, 1) := by decide +kernel
theorem dX12_symbolOf_1 : decode cX12_symbolOf 1 = .ok (.lload_n 1, 1) := by decide +kernel
theorem dX12_symbolOf_11 : decode cX12_symbolOf 11 = .ok (.iload_n 3, 1) := by decide +kernel
theorem dX12_symbolOf_12 : decode cX12_symbolOf 12 = .ok (.ireturn, 1) := by decide +kernel
theorem dX12_symbolOf_13 : decode cX12_symbolOf 13 = .ok (.aload_n 0, 1) := by decide +kernel
theorem dX12_symbolOf_14 : decode cX12_symbolOf 14 = .ok (.getfield 89, 3) := by decide +kernel
theorem dX12_symbolOf_17 : decode cX12_symbolOf 17 = .ok (.aload_n 0, 1) := by decide +kernel
theorem dX12_symbolOf_18 : decode cX12_symbolOf 18 = .ok (.getfield 463, 3) := by decide +kernel
theorem dX12_symbolOf_2 : decode cX12_symbolOf 2 = .ok (.invokevirtual 466, 3) := by decide +kernel
theorem dX12_symbolOf_21 : decode cX12_symbolOf 21 = .ok (.lload_n 1, 1) := by decide +kernel
theorem dX12_symbolOf_22 : decode cX12_symbolOf 22 = .ok (.lastore, 1) := by decide +kernel
theorem dX12_symbolOf_23 : decode cX12_symbolOf 23 = .ok (.aload_n 0, 1) := by decide +kernel
theorem dX12_symbolOf_24 : decode cX12_symbolOf 24 = .ok (.getfield 95, 3) := by decide +kernel
theorem dX12_symbolOf_27 : decode cX12_symbolOf 27 = .ok (.aload_n 0, 1) := by decide +kernel
theorem dX12_symbolOf_28 : decode cX12_symbolOf 28 = .ok (.getfield 463, 3) := by decide +kernel
theorem dX12_symbolOf_31 : decode cX12_symbolOf 31 = .ok (.iconst 0, 1) := by decide +kernel
theorem dX12_symbolOf_32 : decode cX12_symbolOf 32 = .ok (.bastore, 1) := by decide +kernel
theorem dX12_symbolOf_33 : decode cX12_symbolOf 33 = .ok (.aload_n 0, 1) := by decide +kernel
theorem dX12_symbolOf_34 : decode cX12_symbolOf 34 = .ok (.getfield 98, 3) := by decide +kernel
theorem dX12_symbolOf_37 : decode cX12_symbolOf 37 = .ok (.aload_n 0, 1) := by decide +kernel
theorem dX12_symbolOf_38 : decode cX12_symbolOf 38 = .ok (.getfield 463, 3) := by decide +kernel
theorem dX12_symbolOf_41 : decode cX12_symbolOf 41 = .ok (.iconst 0, 1) := by decide +kernel
theorem dX12_symbolOf_42 : decode cX12_symbolOf 42 = .ok (.iastore, 1) := by decide +kernel
theorem dX12_symbolOf_43 : decode cX12_symbolOf 43 = .ok (.aload_n 0, 1) := by decide +kernel
theorem dX12_symbolOf_44 : decode cX12_symbolOf 44 = .ok (.dup, 1) := by decide +kernel
theorem dX12_symbolOf_45 : decode cX12_symbolOf 45 = .ok (.getfield 463, 3) := by decide +kernel
theorem dX12_symbolOf_48 : decode cX12_symbolOf 48 = .ok (.iconst 1, 1) := by decide +kernel
theorem dX12_symbolOf_49 : decode cX12_symbolOf 49 = .ok (.iadd, 1) := by decide +kernel
theorem dX12_symbolOf_5 : decode cX12_symbolOf 5 = .ok (.istore_n 3, 1) := by decide +kernel
theorem dX12_symbolOf_50 : decode cX12_symbolOf 50 = .ok (.putfield 463, 3) := by decide +kernel
theorem dX12_symbolOf_53 : decode cX12_symbolOf 53 = .ok (.aload_n 0, 1) := by decide +kernel
theorem dX12_symbolOf_54 : decode cX12_symbolOf 54 = .ok (.getfield 463, 3) := by decide +kernel
theorem dX12_symbolOf_57 : decode cX12_symbolOf 57 = .ok (.iconst 1, 1) := by decide +kernel
theorem dX12_symbolOf_58 : decode cX12_symbolOf 58 = .ok (.isub, 1) := by decide +kernel
theorem dX12_symbolOf_59 : decode cX12_symbolOf 59 = .ok (.ireturn, 1) := by decide +kernel
theorem dX12_symbolOf_6 : decode cX12_symbolOf 6 = .ok (.iload_n 3, 1) := by decide +kernel
theorem dX12_symbolOf_7 : decode cX12_symbolOf 7 = .ok (.iconst (-1), 1) := by decide +kernel
theorem dX12_symbolOf_8 : decode cX12_symbolOf 8 = .ok (.if_icmp .eq 5, 3) := by decide +kernel
set_option maxHeartbeats 4000000 in
set_option maxRecDepth 100000 in
theorem T_X12_symbolOf (l : Launch) (D : va_G) (K : Nat → ClassId) (Z Y : Nat → Nat) (ad : Nat → Nat) (t : tSt) (hok : okM t) (x1 : Int64) (hs0 : (t.1 0 52).toInt ≤ 1199) : tMet l yX12_symbolOf cX12_symbolOf 4 (some .int) (rmD 1 0 0) D K Z Y [.ref (ad 0), .long x1] (WM K ad t) (QI D K (fun (r : Int32) (u : tSt) => okM u ∧ frA [(0, 52)] [] [25, 26] [23] t u ∧ (0 : Int) ≤ r.toInt ∧ r.toInt ≤ 1199 ∧ ((t.1 0 52).toInt ≤ (u.1 0 52).toInt) ∧ ((u.1 0 52).toInt ≤ (t.1 0 52).toInt + 1) ∧ (r.toInt < (u.1 0 52).toInt)) (fun (u : tSt) => WM K ad u)) 0 0 := by
  refine t_met RX12 ⟨rfl, by decide +kernel⟩ (Nat.le_of_ble_eq_true rfl) ?_
  intro p e s m below meth c A ls C hE hZ hr hlocks hA hP hD hS hl
  have hl : lv_has ls 4 [(0, .ref (ad 0)), (1, .long x1)] := hl
  have hokt := hok
  have hfr : frA [(0, 52)] [] [25, 26] [23] t t := frA_rf
  have h_1 : (0 : Int) ≤ (t.1 0 52).toInt ∧ (t.1 0 52).toInt ≤ 1200 := hok.1 0 52
  refine lv_aload_n C.1 C.2.1 dX12_symbolOf_0 rfl (lv_at hl 0 rfl) ?_
  refine lv_lload_n C.1 C.2.1 dX12_symbolOf_1 rfl (lv_at hl 1 rfl) ?_
  refine g_Vi (As := [.long x1]) (rest := []) C hP hD hS hA (T_X12_find l D K Z Y ad t hok (x1)) hE hZ (uwV m_33_22 m_33_23 m_34_0 m_1_5 m_34_1) (hdV 1 (by decide +kernel) rfl) ⟨Nat.le_of_ble_eq_true rfl, Nat.le_of_ble_eq_true rfl⟩ rfl rfl (ci := 11) (q0 := 0) rfl rfl rfl hl.1 (Nat.le_of_ble_eq_true rfl) dX12_symbolOf_2 ⟨Nat.le_of_ble_eq_true rfl, Nat.le_of_ble_eq_true rfl⟩ (fun r_3 t_2 H locs hw hP hD hS => ?_)
  obtain ⟨h_5, h_6, p_7⟩ := hw
  replace p_7 : r_3.toInt < (t.1 0 52).toInt ∨ r_3.toInt = -1 := p_7
  refine lv_istore_n (lv' := [(3, .int r_3), (0, .ref (ad 0)), (1, .long x1)]) C.1 C.2.1 dX12_symbolOf_5 rfl hl (by decide) rfl (fun ls hl => ?_)
  have hl : lv_has ls 4 [(0, .ref (ad 0)), (1, .long x1), (3, .int r_3)] := lv_sub hl [1, 2, 0] rfl
  refine lv_iload_n C.1 C.2.1 dX12_symbolOf_6 rfl (lv_at hl 2 rfl) ?_
  refine lv_iconst (v := (-1)) C.1 C.2.1 dX12_symbolOf_7 (by decide) ?_
  refine lv_icmp_eq (tgt := 13) C.1 C.2.1 dX12_symbolOf_8 (by decide) (fun c_8 => ?_) (fun c_8 => ?_)
  · replace c_8 : r_3.toInt = (-1) := i_eq c_8
    refine lv_aload_n C.1 C.2.1 dX12_symbolOf_13 rfl (lv_at hl 0 rfl) ?_
    refine k_get (v := .ref (ad 23)) C hP 0 rfl rfl inlX12 53 (by decide) m_8_7 rfl dX12_symbolOf_14 ?_
    refine lv_aload_n C.1 C.2.1 dX12_symbolOf_17 rfl (lv_at hl 0 rfl) ?_
    refine k_get (v := .int (t.1 0 52)) C hP 0 rfl rfl inlX12 52 (by decide) m_30_17 rfl dX12_symbolOf_18 ?_
    refine lv_lload_n C.1 C.2.1 dX12_symbolOf_21 rfl (lv_at hl 1 rfl) ?_
    refine k_lst (ws' := WM K ad (uG t 23 ((t.1 0 52) : Int32).toNatClampNeg x1)) (x' := x1) C hP hD hS 23 rfl (vp_in_iff.mpr ⟨by omega, by omega⟩) rfl rfl rfl dX12_symbolOf_22 (fun H locs hP hD hS => ?_)
    have hok : okM (uG t 23 ((t.1 0 52) : Int32).toNatClampNeg x1) := ⟨hok.1, hok.2.1, hok.2.2.1, hok.2.2.2.1, hok.2.2.2.2.1, hok.2.2.2.2.2.1, hok.2.2.2.2.2.2.1, trivial⟩
    have hfr : frA [(0, 52)] [] [25, 26] [23] t (uG t 23 ((t.1 0 52) : Int32).toNatClampNeg x1) := frA_G hfr 23 _ _ rfl
    refine lv_aload_n C.1 C.2.1 dX12_symbolOf_23 rfl (lv_at hl 0 rfl) ?_
    refine k_get (v := .ref (ad 25)) C hP 0 rfl rfl inlX12 55 (by decide) m_8_9 rfl dX12_symbolOf_24 ?_
    refine lv_aload_n C.1 C.2.1 dX12_symbolOf_27 rfl (lv_at hl 0 rfl) ?_
    refine k_get (v := .int (t.1 0 52)) C hP 0 rfl rfl inlX12 52 (by decide) m_30_17 rfl dX12_symbolOf_28 ?_
    refine lv_iconst (v := 0) C.1 C.2.1 dX12_symbolOf_31 (by decide) ?_
    obtain ⟨v_9, e_10⟩ : ∃ z, z = vp_nar .boolean 0 := ⟨_, rfl⟩
    have h_11 : (0 : Int) ≤ v_9.toInt ∧ v_9.toInt ≤ 1 := by rw [e_10]; exact nar_boolean _
    refine k_zst (ws' := WM K ad (uB (uG t 23 ((t.1 0 52) : Int32).toNatClampNeg x1) 25 ((t.1 0 52) : Int32).toNatClampNeg v_9)) (x' := v_9) C hP hD hS 25 rfl (vp_in_iff.mpr ⟨by omega, by omega⟩) rfl e_10.symm rfl dX12_symbolOf_32 (fun H locs hP hD hS => ?_)
    have hok : okM (uB (uG t 23 ((t.1 0 52) : Int32).toNatClampNeg x1) 25 ((t.1 0 52) : Int32).toNatClampNeg v_9) := ⟨hok.1, okB_B hok.2.1 25 _ v_9 (show (0 : Int) ≤ (v_9 : Int32).toInt ∧ (v_9 : Int32).toInt ≤ 1 from ⟨by omega, by omega⟩), hok.2.2.1, hok.2.2.2.1, hok.2.2.2.2.1, hok.2.2.2.2.2.1, hok.2.2.2.2.2.2.1, trivial⟩
    have hfr : frA [(0, 52)] [] [25, 26] [23] t (uB (uG t 23 ((t.1 0 52) : Int32).toNatClampNeg x1) 25 ((t.1 0 52) : Int32).toNatClampNeg v_9) := frA_B hfr 25 _ _ rfl
    refine lv_aload_n C.1 C.2.1 dX12_symbolOf_33 rfl (lv_at hl 0 rfl) ?_
    refine k_get (v := .ref (ad 26)) C hP 0 rfl rfl inlX12 56 (by decide) m_8_10 rfl dX12_symbolOf_34 ?_
    refine lv_aload_n C.1 C.2.1 dX12_symbolOf_37 rfl (lv_at hl 0 rfl) ?_
    refine k_get (v := .int (t.1 0 52)) C hP 0 rfl rfl inlX12 52 (by decide) m_30_17 rfl dX12_symbolOf_38 ?_
    refine lv_iconst (v := 0) C.1 C.2.1 dX12_symbolOf_41 (by decide) ?_
    obtain ⟨t_12, e_13⟩ : ∃ z, z = (uB (uG t 23 ((t.1 0 52) : Int32).toNatClampNeg x1) 25 ((t.1 0 52) : Int32).toNatClampNeg v_9) := ⟨_, rfl⟩
    rw [← e_13] at hP hD hok hfr
    have h_14 : (t_12.1 0 52).toInt = ((t.1 0 52) : Int32).toInt := by rw [e_13]; rfl
    refine k_ist (ws' := WM K ad (uB t_12 26 ((t.1 0 52) : Int32).toNatClampNeg 0)) (x' := 0) C hP hD hS 26 rfl (vp_in_iff.mpr ⟨by omega, by omega⟩) rfl rfl rfl dX12_symbolOf_42 (fun H locs hP hD hS => ?_)
    have hok : okM (uB t_12 26 ((t.1 0 52) : Int32).toNatClampNeg 0) := ⟨hok.1, okB_B hok.2.1 26 _ 0 (show (0 : Int) ≤ (0 : Int32).toInt ∧ (0 : Int32).toInt ≤ 16 from ⟨by decide, by decide⟩), hok.2.2.1, hok.2.2.2.1, hok.2.2.2.2.1, hok.2.2.2.2.2.1, hok.2.2.2.2.2.2.1, trivial⟩
    have hfr : frA [(0, 52)] [] [25, 26] [23] t (uB t_12 26 ((t.1 0 52) : Int32).toNatClampNeg 0) := frA_B hfr 26 _ _ rfl
    refine lv_aload_n C.1 C.2.1 dX12_symbolOf_43 rfl (lv_at hl 0 rfl) ?_
    refine lv_dup C.1 C.2.1 dX12_symbolOf_44 rfl ?_
    refine k_get (v := .int (t_12.1 0 52)) C hP 0 rfl rfl inlX12 52 (by decide) m_30_17 rfl dX12_symbolOf_45 ?_
    refine lv_iconst (v := 1) C.1 C.2.1 dX12_symbolOf_48 (by decide) ?_
    obtain ⟨v_15, e_16⟩ : ∃ z, z = ((t_12.1 0 52) : Int32) + (1 : Int32) := ⟨_, rfl⟩
    have h_17 : v_15.toInt = (t_12.1 0 52).toInt + 1 := by rw [e_16]; exact ti_iadd (by show (_ : Int) ≤ (t_12.1 0 52).toInt + 1; omega) (by show (t_12.1 0 52).toInt + 1 < (_ : Int); omega)
    refine k_iadd (v := v_15) C e_16.symm dX12_symbolOf_49 ?_
    refine k_put (ws' := WM K ad (uI (uB t_12 26 ((t.1 0 52) : Int32).toNatClampNeg 0) 0 52 v_15)) (v := .int v_15) C hP hD hS 0 rfl rfl inlX12 tyX12_ok nmX12 52 (by decide) m_30_17 rfl rfl rfl rfl rfl dX12_symbolOf_50 (fun H locs hP hD hS => ?_)
    have hok : okM (uI (uB t_12 26 ((t.1 0 52) : Int32).toNatClampNeg 0) 0 52 v_15) := ⟨okI_I hok.1 0 52 v_15 (show (0 : Int) ≤ (v_15 : Int32).toInt ∧ (v_15 : Int32).toInt ≤ 1200 from ⟨by omega, by omega⟩), hok.2.1, hok.2.2.1, hok.2.2.2.1, hok.2.2.2.2.1, hok.2.2.2.2.2.1, hok.2.2.2.2.2.2.1, trivial⟩
    have hfr : frA [(0, 52)] [] [25, 26] [23] t (uI (uB t_12 26 ((t.1 0 52) : Int32).toNatClampNeg 0) 0 52 v_15) := frA_I hfr 0 52 _ rfl
    refine lv_aload_n C.1 C.2.1 dX12_symbolOf_53 rfl (lv_at hl 0 rfl) ?_
    refine k_get (v := .int v_15) C hP 0 rfl rfl inlX12 52 (by decide) m_30_17 rfl dX12_symbolOf_54 ?_
    refine lv_iconst (v := 1) C.1 C.2.1 dX12_symbolOf_57 (by decide) ?_
    obtain ⟨v_18, e_19⟩ : ∃ z, z = (v_15 : Int32) - (1 : Int32) := ⟨_, rfl⟩
    have h_20 : v_18.toInt = v_15.toInt - 1 := by rw [e_19]; exact ti_isub (by show (_ : Int) ≤ v_15.toInt - 1; omega) (by show v_15.toInt - 1 < (_ : Int); omega)
    refine k_isub (v := v_18) C e_19.symm dX12_symbolOf_58 ?_
    exact g_iret C hr hlocks hP hD hS rfl (uI (uB t_12 26 ((t.1 0 52) : Int32).toNatClampNeg 0) 0 52 v_15) rfl ⟨hok, hfr, by omega, by omega, (show (t.1 0 52).toInt ≤ v_15.toInt from by omega), (show v_15.toInt ≤ (t.1 0 52).toInt + 1 from by omega), (show v_18.toInt < v_15.toInt from by omega)⟩ (Nat.le_of_ble_eq_true rfl) (Nat.le_of_ble_eq_true rfl) dX12_symbolOf_59
  · replace c_8 : ¬ r_3.toInt = (-1) := i_ne c_8
    refine lv_iload_n C.1 C.2.1 dX12_symbolOf_11 rfl (lv_at hl 2 rfl) ?_
    exact g_iret C hr hlocks hP hD hS rfl t rfl ⟨hok, hfr, by omega, by omega, (show (t.1 0 52).toInt ≤ (t.1 0 52).toInt from by omega), (show (t.1 0 52).toInt ≤ (t.1 0 52).toInt + 1 from by omega), (show r_3.toInt < (t.1 0 52).toInt from by omega)⟩ (Nat.le_of_ble_eq_true rfl) (Nat.le_of_ble_eq_true rfl) dX12_symbolOf_12

theorem dX12_addFuture_0 : decode cX12_addFuture 0 = .ok (.aload_n 0, 1) := by decide +kernel
theorem dX12_addFuture_1 : decode cX12_addFuture 1 = .ok (.getfield 110, 3) := by decide +kernel
theorem dX12_addFuture_12 : decode cX12_addFuture 12 = .ok (.iastore, 1) := by decide +kernel
theorem dX12_addFuture_13 : decode cX12_addFuture 13 = .ok (.aload_n 0, 1) := by decide +kernel
theorem dX12_addFuture_14 : decode cX12_addFuture 14 = .ok (.getfield 113, 3) := by decide +kernel
theorem dX12_addFuture_17 : decode cX12_addFuture 17 = .ok (.aload_n 0, 1) := by decide +kernel
theorem dX12_addFuture_18 : decode cX12_addFuture 18 = .ok (.getfield 572, 3) := by decide +kernel
theorem dX12_addFuture_21 : decode cX12_addFuture 21 = .ok (.aload_n 0, 1) := by decide +kernel
theorem dX12_addFuture_22 : decode cX12_addFuture 22 = .ok (.getfield 555, 3) := by decide +kernel
theorem dX12_addFuture_25 : decode cX12_addFuture 25 = .ok (.iastore, 1) := by decide +kernel
theorem dX12_addFuture_26 : decode cX12_addFuture 26 = .ok (.aload_n 0, 1) := by decide +kernel
theorem dX12_addFuture_27 : decode cX12_addFuture 27 = .ok (.getfield 116, 3) := by decide +kernel
theorem dX12_addFuture_30 : decode cX12_addFuture 30 = .ok (.aload_n 0, 1) := by decide +kernel
theorem dX12_addFuture_31 : decode cX12_addFuture 31 = .ok (.getfield 572, 3) := by decide +kernel
theorem dX12_addFuture_34 : decode cX12_addFuture 34 = .ok (.aload_n 0, 1) := by decide +kernel
theorem dX12_addFuture_35 : decode cX12_addFuture 35 = .ok (.getfield 443, 3) := by decide +kernel
theorem dX12_addFuture_38 : decode cX12_addFuture 38 = .ok (.iastore, 1) := by decide +kernel
theorem dX12_addFuture_39 : decode cX12_addFuture 39 = .ok (.aload_n 0, 1) := by decide +kernel
theorem dX12_addFuture_4 : decode cX12_addFuture 4 = .ok (.aload_n 0, 1) := by decide +kernel
theorem dX12_addFuture_40 : decode cX12_addFuture 40 = .ok (.getfield 119, 3) := by decide +kernel
theorem dX12_addFuture_43 : decode cX12_addFuture 43 = .ok (.aload_n 0, 1) := by decide +kernel
theorem dX12_addFuture_44 : decode cX12_addFuture 44 = .ok (.getfield 572, 3) := by decide +kernel
theorem dX12_addFuture_47 : decode cX12_addFuture 47 = .ok (.iload_n 1, 1) := by decide +kernel
theorem dX12_addFuture_48 : decode cX12_addFuture 48 = .ok (.iastore, 1) := by decide +kernel
theorem dX12_addFuture_49 : decode cX12_addFuture 49 = .ok (.aload_n 0, 1) := by decide +kernel
theorem dX12_addFuture_5 : decode cX12_addFuture 5 = .ok (.getfield 572, 3) := by decide +kernel
theorem dX12_addFuture_50 : decode cX12_addFuture 50 = .ok (.getfield 122, 3) := by decide +kernel
theorem dX12_addFuture_53 : decode cX12_addFuture 53 = .ok (.aload_n 0, 1) := by decide +kernel
theorem dX12_addFuture_54 : decode cX12_addFuture 54 = .ok (.getfield 572, 3) := by decide +kernel
theorem dX12_addFuture_57 : decode cX12_addFuture 57 = .ok (.aload_n 0, 1) := by decide +kernel
theorem dX12_addFuture_58 : decode cX12_addFuture 58 = .ok (.getfield 543, 3) := by decide +kernel
theorem dX12_addFuture_61 : decode cX12_addFuture 61 = .ok (.iastore, 1) := by decide +kernel
theorem dX12_addFuture_62 : decode cX12_addFuture 62 = .ok (.aload_n 0, 1) := by decide +kernel
theorem dX12_addFuture_63 : decode cX12_addFuture 63 = .ok (.getfield 125, 3) := by decide +kernel
theorem dX12_addFuture_66 : decode cX12_addFuture 66 = .ok (.aload_n 0, 1) := by decide +kernel
theorem dX12_addFuture_67 : decode cX12_addFuture 67 = .ok (.getfield 572, 3) := by decide +kernel
theorem dX12_addFuture_70 : decode cX12_addFuture 70 = .ok (.iconst 0, 1) := by decide +kernel
theorem dX12_addFuture_71 : decode cX12_addFuture 71 = .ok (.bastore, 1) := by decide +kernel
theorem dX12_addFuture_72 : decode cX12_addFuture 72 = .ok (.aload_n 0, 1) := by decide +kernel
theorem dX12_addFuture_73 : decode cX12_addFuture 73 = .ok (.dup, 1) := by decide +kernel
theorem dX12_addFuture_74 : decode cX12_addFuture 74 = .ok (.getfield 572, 3) := by decide +kernel
theorem dX12_addFuture_77 : decode cX12_addFuture 77 = .ok (.iconst 1, 1) := by decide +kernel
theorem dX12_addFuture_78 : decode cX12_addFuture 78 = .ok (.iadd, 1) := by decide +kernel
theorem dX12_addFuture_79 : decode cX12_addFuture 79 = .ok (.putfield 572, 3) := by decide +kernel
theorem dX12_addFuture_8 : decode cX12_addFuture 8 = .ok (.aload_n 0, 1) := by decide +kernel
theorem dX12_addFuture_82 : decode cX12_addFuture 82 = .ok (.return_, 1) := by decide +kernel
theorem dX12_addFuture_9 : decode cX12_addFuture 9 = .ok (.getfield 546, 3) := by decide +kernel
set_option maxHeartbeats 4000000 in
set_option maxRecDepth 100000 in
theorem T_X12_addFuture (l : Launch) (D : va_G) (K : Nat → ClassId) (Z Y : Nat → Nat) (ad : Nat → Nat) (t : tSt) (hok : okM t) (x1 : Int32) (hx1 : (-3999 : Int) ≤ x1.toInt ∧ x1.toInt ≤ 4000) (hs0 : (t.1 0 60).toInt ≤ 1199) (hs1 : -3999 ≤ x1.toInt) (hs2 : x1.toInt ≤ 3999) : tMet l yX12_addFuture cX12_addFuture 2 none (rmD 0 0 0) D K Z Y [.ref (ad 0), .int x1] (WM K ad t) (QV D K (fun (u : tSt) => okM u ∧ frA [(0, 60)] [] [30, 31, 32, 33, 34, 35] [] t u ∧ ((u.1 0 60).toInt = (t.1 0 60).toInt + 1)) (fun (u : tSt) => WM K ad u)) 0 0 := by
  refine t_met RX12 ⟨rfl, by decide +kernel⟩ (Nat.le_of_ble_eq_true rfl) ?_
  intro p e s m below meth c A ls C hE hZ hr hlocks hA hP hD hS hl
  have hl : lv_has ls 2 [(0, .ref (ad 0)), (1, .int x1)] := hl
  have hokt := hok
  have hfr : frA [(0, 60)] [] [30, 31, 32, 33, 34, 35] [] t t := frA_rf
  have h_1 : (0 : Int) ≤ (t.1 0 60).toInt ∧ (t.1 0 60).toInt ≤ 1200 := hok.1 0 60
  refine lv_aload_n C.1 C.2.1 dX12_addFuture_0 rfl (lv_at hl 0 rfl) ?_
  refine k_get (v := .ref (ad 30)) C hP 0 rfl rfl inlX12 61 (by decide) m_8_14 rfl dX12_addFuture_1 ?_
  refine lv_aload_n C.1 C.2.1 dX12_addFuture_4 rfl (lv_at hl 0 rfl) ?_
  refine k_get (v := .int (t.1 0 60)) C hP 0 rfl rfl inlX12 60 (by decide) m_30_18 rfl dX12_addFuture_5 ?_
  refine lv_aload_n C.1 C.2.1 dX12_addFuture_8 rfl (lv_at hl 0 rfl) ?_
  have h_2 : (-1 : Int) ≤ (t.1 0 71).toInt ∧ (t.1 0 71).toInt ≤ 2 := hok.1 0 71
  refine k_get (v := .int (t.1 0 71)) C hP 0 rfl rfl inlX12 71 (by decide) m_34_6 rfl dX12_addFuture_9 ?_
  refine k_ist (ws' := WM K ad (uB t 30 ((t.1 0 60) : Int32).toNatClampNeg (t.1 0 71))) (x' := (t.1 0 71)) C hP hD hS 30 rfl (vp_in_iff.mpr ⟨by omega, by omega⟩) rfl rfl rfl dX12_addFuture_12 (fun H locs hP hD hS => ?_)
  have hok : okM (uB t 30 ((t.1 0 60) : Int32).toNatClampNeg (t.1 0 71)) := ⟨hok.1, okB_B hok.2.1 30 _ (t.1 0 71) (show (-1 : Int) ≤ ((t.1 0 71) : Int32).toInt ∧ ((t.1 0 71) : Int32).toInt ≤ 2 from ⟨by omega, by omega⟩), hok.2.2.1, hok.2.2.2.1, hok.2.2.2.2.1, hok.2.2.2.2.2.1, hok.2.2.2.2.2.2.1, trivial⟩
  have hfr : frA [(0, 60)] [] [30, 31, 32, 33, 34, 35] [] t (uB t 30 ((t.1 0 60) : Int32).toNatClampNeg (t.1 0 71)) := frA_B hfr 30 _ _ rfl
  refine lv_aload_n C.1 C.2.1 dX12_addFuture_13 rfl (lv_at hl 0 rfl) ?_
  refine k_get (v := .ref (ad 31)) C hP 0 rfl rfl inlX12 62 (by decide) m_8_15 rfl dX12_addFuture_14 ?_
  refine lv_aload_n C.1 C.2.1 dX12_addFuture_17 rfl (lv_at hl 0 rfl) ?_
  refine k_get (v := .int (t.1 0 60)) C hP 0 rfl rfl inlX12 60 (by decide) m_30_18 rfl dX12_addFuture_18 ?_
  refine lv_aload_n C.1 C.2.1 dX12_addFuture_21 rfl (lv_at hl 0 rfl) ?_
  have h_3 : (0 : Int) ≤ (t.1 0 72).toInt ∧ (t.1 0 72).toInt ≤ 1199 := hok.1 0 72
  refine k_get (v := .int (t.1 0 72)) C hP 0 rfl rfl inlX12 72 (by decide) m_39_12 rfl dX12_addFuture_22 ?_
  obtain ⟨t_4, e_5⟩ : ∃ z, z = (uB t 30 ((t.1 0 60) : Int32).toNatClampNeg (t.1 0 71)) := ⟨_, rfl⟩
  rw [← e_5] at hP hD hok hfr
  have h_6 : (t_4.1 0 60).toInt = ((t.1 0 60) : Int32).toInt := by rw [e_5]; rfl
  have h_7 : (t_4.1 0 71).toInt = ((t.1 0 71) : Int32).toInt := by rw [e_5]; rfl
  have h_8 : (t_4.1 0 72).toInt = ((t.1 0 72) : Int32).toInt := by rw [e_5]; rfl
  refine k_ist (ws' := WM K ad (uB t_4 31 ((t.1 0 60) : Int32).toNatClampNeg (t.1 0 72))) (x' := (t.1 0 72)) C hP hD hS 31 rfl (vp_in_iff.mpr ⟨by omega, by omega⟩) rfl rfl rfl dX12_addFuture_25 (fun H locs hP hD hS => ?_)
  have hok : okM (uB t_4 31 ((t.1 0 60) : Int32).toNatClampNeg (t.1 0 72)) := ⟨hok.1, okB_B hok.2.1 31 _ (t.1 0 72) (show (0 : Int) ≤ ((t.1 0 72) : Int32).toInt ∧ ((t.1 0 72) : Int32).toInt ≤ 1199 from ⟨by omega, by omega⟩), hok.2.2.1, hok.2.2.2.1, hok.2.2.2.2.1, hok.2.2.2.2.2.1, hok.2.2.2.2.2.2.1, trivial⟩
  have hfr : frA [(0, 60)] [] [30, 31, 32, 33, 34, 35] [] t (uB t_4 31 ((t.1 0 60) : Int32).toNatClampNeg (t.1 0 72)) := frA_B hfr 31 _ _ rfl
  refine lv_aload_n C.1 C.2.1 dX12_addFuture_26 rfl (lv_at hl 0 rfl) ?_
  refine k_get (v := .ref (ad 32)) C hP 0 rfl rfl inlX12 63 (by decide) m_8_16 rfl dX12_addFuture_27 ?_
  refine lv_aload_n C.1 C.2.1 dX12_addFuture_30 rfl (lv_at hl 0 rfl) ?_
  refine k_get (v := .int (t_4.1 0 60)) C hP 0 rfl rfl inlX12 60 (by decide) m_30_18 rfl dX12_addFuture_31 ?_
  refine lv_aload_n C.1 C.2.1 dX12_addFuture_34 rfl (lv_at hl 0 rfl) ?_
  have h_9 : (0 : Int) ≤ (t_4.1 0 67).toInt ∧ (t_4.1 0 67).toInt ≤ 1281 := hok.1 0 67
  refine k_get (v := .int (t_4.1 0 67)) C hP 0 rfl rfl inlX12 67 (by decide) m_29_11 rfl dX12_addFuture_35 ?_
  obtain ⟨t_10, e_11⟩ : ∃ z, z = (uB t_4 31 ((t.1 0 60) : Int32).toNatClampNeg (t.1 0 72)) := ⟨_, rfl⟩
  rw [← e_11] at hP hD hok hfr
  have h_12 : (t_10.1 0 60).toInt = ((t_4.1 0 60) : Int32).toInt := by rw [e_11]; rfl
  have h_13 : (t_10.1 0 71).toInt = ((t_4.1 0 71) : Int32).toInt := by rw [e_11]; rfl
  have h_14 : (t_10.1 0 72).toInt = ((t_4.1 0 72) : Int32).toInt := by rw [e_11]; rfl
  have h_15 : (t_10.1 0 67).toInt = ((t_4.1 0 67) : Int32).toInt := by rw [e_11]; rfl
  refine k_ist (ws' := WM K ad (uB t_10 32 ((t_4.1 0 60) : Int32).toNatClampNeg (t_4.1 0 67))) (x' := (t_4.1 0 67)) C hP hD hS 32 rfl (vp_in_iff.mpr ⟨by omega, by omega⟩) rfl rfl rfl dX12_addFuture_38 (fun H locs hP hD hS => ?_)
  have hok : okM (uB t_10 32 ((t_4.1 0 60) : Int32).toNatClampNeg (t_4.1 0 67)) := ⟨hok.1, okB_B hok.2.1 32 _ (t_4.1 0 67) (show (0 : Int) ≤ ((t_4.1 0 67) : Int32).toInt ∧ ((t_4.1 0 67) : Int32).toInt ≤ 1281 from ⟨by omega, by omega⟩), hok.2.2.1, hok.2.2.2.1, hok.2.2.2.2.1, hok.2.2.2.2.2.1, hok.2.2.2.2.2.2.1, trivial⟩
  have hfr : frA [(0, 60)] [] [30, 31, 32, 33, 34, 35] [] t (uB t_10 32 ((t_4.1 0 60) : Int32).toNatClampNeg (t_4.1 0 67)) := frA_B hfr 32 _ _ rfl
  refine lv_aload_n C.1 C.2.1 dX12_addFuture_39 rfl (lv_at hl 0 rfl) ?_
  refine k_get (v := .ref (ad 33)) C hP 0 rfl rfl inlX12 64 (by decide) m_8_17 rfl dX12_addFuture_40 ?_
  refine lv_aload_n C.1 C.2.1 dX12_addFuture_43 rfl (lv_at hl 0 rfl) ?_
  refine k_get (v := .int (t_10.1 0 60)) C hP 0 rfl rfl inlX12 60 (by decide) m_30_18 rfl dX12_addFuture_44 ?_
  refine lv_iload_n C.1 C.2.1 dX12_addFuture_47 rfl (lv_at hl 1 rfl) ?_
  obtain ⟨t_16, e_17⟩ : ∃ z, z = (uB t_10 32 ((t_4.1 0 60) : Int32).toNatClampNeg (t_4.1 0 67)) := ⟨_, rfl⟩
  rw [← e_17] at hP hD hok hfr
  have h_18 : (t_16.1 0 60).toInt = ((t_10.1 0 60) : Int32).toInt := by rw [e_17]; rfl
  have h_19 : (t_16.1 0 71).toInt = ((t_10.1 0 71) : Int32).toInt := by rw [e_17]; rfl
  have h_20 : (t_16.1 0 72).toInt = ((t_10.1 0 72) : Int32).toInt := by rw [e_17]; rfl
  have h_21 : (t_16.1 0 67).toInt = ((t_10.1 0 67) : Int32).toInt := by rw [e_17]; rfl
  refine k_ist (ws' := WM K ad (uB t_16 33 ((t_10.1 0 60) : Int32).toNatClampNeg x1)) (x' := x1) C hP hD hS 33 rfl (vp_in_iff.mpr ⟨by omega, by omega⟩) rfl rfl rfl dX12_addFuture_48 (fun H locs hP hD hS => ?_)
  have hok : okM (uB t_16 33 ((t_10.1 0 60) : Int32).toNatClampNeg x1) := ⟨hok.1, okB_B hok.2.1 33 _ x1 (show (-3999 : Int) ≤ (x1 : Int32).toInt ∧ (x1 : Int32).toInt ≤ 3999 from ⟨by omega, by omega⟩), hok.2.2.1, hok.2.2.2.1, hok.2.2.2.2.1, hok.2.2.2.2.2.1, hok.2.2.2.2.2.2.1, trivial⟩
  have hfr : frA [(0, 60)] [] [30, 31, 32, 33, 34, 35] [] t (uB t_16 33 ((t_10.1 0 60) : Int32).toNatClampNeg x1) := frA_B hfr 33 _ _ rfl
  refine lv_aload_n C.1 C.2.1 dX12_addFuture_49 rfl (lv_at hl 0 rfl) ?_
  refine k_get (v := .ref (ad 34)) C hP 0 rfl rfl inlX12 65 (by decide) m_8_18 rfl dX12_addFuture_50 ?_
  refine lv_aload_n C.1 C.2.1 dX12_addFuture_53 rfl (lv_at hl 0 rfl) ?_
  refine k_get (v := .int (t_16.1 0 60)) C hP 0 rfl rfl inlX12 60 (by decide) m_30_18 rfl dX12_addFuture_54 ?_
  refine lv_aload_n C.1 C.2.1 dX12_addFuture_57 rfl (lv_at hl 0 rfl) ?_
  refine k_get (v := .int (t_16.1 0 73)) C hP 0 rfl rfl inlX12 73 (by decide) m_39_11 rfl dX12_addFuture_58 ?_
  obtain ⟨t_22, e_23⟩ : ∃ z, z = (uB t_16 33 ((t_10.1 0 60) : Int32).toNatClampNeg x1) := ⟨_, rfl⟩
  rw [← e_23] at hP hD hok hfr
  have h_24 : (t_22.1 0 60).toInt = ((t_16.1 0 60) : Int32).toInt := by rw [e_23]; rfl
  have h_25 : (t_22.1 0 71).toInt = ((t_16.1 0 71) : Int32).toInt := by rw [e_23]; rfl
  have h_26 : (t_22.1 0 72).toInt = ((t_16.1 0 72) : Int32).toInt := by rw [e_23]; rfl
  have h_27 : (t_22.1 0 67).toInt = ((t_16.1 0 67) : Int32).toInt := by rw [e_23]; rfl
  have h_28 : (t_22.1 0 73).toInt = ((t_16.1 0 73) : Int32).toInt := by rw [e_23]; rfl
  refine k_ist (ws' := WM K ad (uB t_22 34 ((t_16.1 0 60) : Int32).toNatClampNeg (t_16.1 0 73))) (x' := (t_16.1 0 73)) C hP hD hS 34 rfl (vp_in_iff.mpr ⟨by omega, by omega⟩) rfl rfl rfl dX12_addFuture_61 (fun H locs hP hD hS => ?_)
  have hok : okM (uB t_22 34 ((t_16.1 0 60) : Int32).toNatClampNeg (t_16.1 0 73)) := ⟨hok.1, okB_B hok.2.1 34 _ (t_16.1 0 73) (show (-2147483648 : Int) ≤ ((t_16.1 0 73) : Int32).toInt ∧ ((t_16.1 0 73) : Int32).toInt ≤ 2147483647 from (i_rng _)), hok.2.2.1, hok.2.2.2.1, hok.2.2.2.2.1, hok.2.2.2.2.2.1, hok.2.2.2.2.2.2.1, trivial⟩
  have hfr : frA [(0, 60)] [] [30, 31, 32, 33, 34, 35] [] t (uB t_22 34 ((t_16.1 0 60) : Int32).toNatClampNeg (t_16.1 0 73)) := frA_B hfr 34 _ _ rfl
  refine lv_aload_n C.1 C.2.1 dX12_addFuture_62 rfl (lv_at hl 0 rfl) ?_
  refine k_get (v := .ref (ad 35)) C hP 0 rfl rfl inlX12 66 (by decide) m_8_19 rfl dX12_addFuture_63 ?_
  refine lv_aload_n C.1 C.2.1 dX12_addFuture_66 rfl (lv_at hl 0 rfl) ?_
  refine k_get (v := .int (t_22.1 0 60)) C hP 0 rfl rfl inlX12 60 (by decide) m_30_18 rfl dX12_addFuture_67 ?_
  refine lv_iconst (v := 0) C.1 C.2.1 dX12_addFuture_70 (by decide) ?_
  obtain ⟨t_29, e_30⟩ : ∃ z, z = (uB t_22 34 ((t_16.1 0 60) : Int32).toNatClampNeg (t_16.1 0 73)) := ⟨_, rfl⟩
  rw [← e_30] at hP hD hok hfr
  have h_31 : (t_29.1 0 60).toInt = ((t_22.1 0 60) : Int32).toInt := by rw [e_30]; rfl
  have h_32 : (t_29.1 0 71).toInt = ((t_22.1 0 71) : Int32).toInt := by rw [e_30]; rfl
  have h_33 : (t_29.1 0 72).toInt = ((t_22.1 0 72) : Int32).toInt := by rw [e_30]; rfl
  have h_34 : (t_29.1 0 67).toInt = ((t_22.1 0 67) : Int32).toInt := by rw [e_30]; rfl
  have h_35 : (t_29.1 0 73).toInt = ((t_22.1 0 73) : Int32).toInt := by rw [e_30]; rfl
  obtain ⟨v_36, e_37⟩ : ∃ z, z = vp_nar .boolean 0 := ⟨_, rfl⟩
  have h_38 : (0 : Int) ≤ v_36.toInt ∧ v_36.toInt ≤ 1 := by rw [e_37]; exact nar_boolean _
  refine k_zst (ws' := WM K ad (uB t_29 35 ((t_22.1 0 60) : Int32).toNatClampNeg v_36)) (x' := v_36) C hP hD hS 35 rfl (vp_in_iff.mpr ⟨by omega, by omega⟩) rfl e_37.symm rfl dX12_addFuture_71 (fun H locs hP hD hS => ?_)
  have hok : okM (uB t_29 35 ((t_22.1 0 60) : Int32).toNatClampNeg v_36) := ⟨hok.1, okB_B hok.2.1 35 _ v_36 (show (0 : Int) ≤ (v_36 : Int32).toInt ∧ (v_36 : Int32).toInt ≤ 1 from ⟨by omega, by omega⟩), hok.2.2.1, hok.2.2.2.1, hok.2.2.2.2.1, hok.2.2.2.2.2.1, hok.2.2.2.2.2.2.1, trivial⟩
  have hfr : frA [(0, 60)] [] [30, 31, 32, 33, 34, 35] [] t (uB t_29 35 ((t_22.1 0 60) : Int32).toNatClampNeg v_36) := frA_B hfr 35 _ _ rfl
  refine lv_aload_n C.1 C.2.1 dX12_addFuture_72 rfl (lv_at hl 0 rfl) ?_
  refine lv_dup C.1 C.2.1 dX12_addFuture_73 rfl ?_
  refine k_get (v := .int (t_29.1 0 60)) C hP 0 rfl rfl inlX12 60 (by decide) m_30_18 rfl dX12_addFuture_74 ?_
  refine lv_iconst (v := 1) C.1 C.2.1 dX12_addFuture_77 (by decide) ?_
  obtain ⟨v_39, e_40⟩ : ∃ z, z = ((t_29.1 0 60) : Int32) + (1 : Int32) := ⟨_, rfl⟩
  have h_41 : v_39.toInt = (t_29.1 0 60).toInt + 1 := by rw [e_40]; exact ti_iadd (by show (_ : Int) ≤ (t_29.1 0 60).toInt + 1; omega) (by show (t_29.1 0 60).toInt + 1 < (_ : Int); omega)
  refine k_iadd (v := v_39) C e_40.symm dX12_addFuture_78 ?_
  refine k_put (ws' := WM K ad (uI (uB t_29 35 ((t_22.1 0 60) : Int32).toNatClampNeg v_36) 0 60 v_39)) (v := .int v_39) C hP hD hS 0 rfl rfl inlX12 tyX12_ok nmX12 60 (by decide) m_30_18 rfl rfl rfl rfl rfl dX12_addFuture_79 (fun H locs hP hD hS => ?_)
  have hok : okM (uI (uB t_29 35 ((t_22.1 0 60) : Int32).toNatClampNeg v_36) 0 60 v_39) := ⟨okI_I hok.1 0 60 v_39 (show (0 : Int) ≤ (v_39 : Int32).toInt ∧ (v_39 : Int32).toInt ≤ 1200 from ⟨by omega, by omega⟩), hok.2.1, hok.2.2.1, hok.2.2.2.1, hok.2.2.2.2.1, hok.2.2.2.2.2.1, hok.2.2.2.2.2.2.1, trivial⟩
  have hfr : frA [(0, 60)] [] [30, 31, 32, 33, 34, 35] [] t (uI (uB t_29 35 ((t_22.1 0 60) : Int32).toNatClampNeg v_36) 0 60 v_39) := frA_I hfr 0 60 _ rfl
  exact g_vret C hr hlocks hP hD hS (uI (uB t_29 35 ((t_22.1 0 60) : Int32).toNatClampNeg v_36) 0 60 v_39) rfl ⟨hok, hfr, (show v_39.toInt = (t.1 0 60).toInt + 1 from by omega)⟩ (Nat.le_of_ble_eq_true rfl) (Nat.le_of_ble_eq_true rfl) dX12_addFuture_82

theorem dX12_isSo_0 : decode cX12_isSo 0 = .ok (.iload_n 1, 1) := by decide +kernel
theorem dX12_isSo_1 : decode cX12_isSo 1 = .ok (.tableswitch 85 0 4 #[35, 45, 55, 65, 75], 35) := by decide +kernel
theorem dX12_isSo_36 : decode cX12_isSo 36 = .ok (.iload_n 0, 1) := by decide +kernel
theorem dX12_isSo_37 : decode cX12_isSo 37 = .ok (.ifCond .ge 7, 3) := by decide +kernel
theorem dX12_isSo_40 : decode cX12_isSo 40 = .ok (.iconst 1, 1) := by decide +kernel
theorem dX12_isSo_41 : decode cX12_isSo 41 = .ok (.goto 4, 3) := by decide +kernel
theorem dX12_isSo_44 : decode cX12_isSo 44 = .ok (.iconst 0, 1) := by decide +kernel
theorem dX12_isSo_45 : decode cX12_isSo 45 = .ok (.ireturn, 1) := by decide +kernel
theorem dX12_isSo_46 : decode cX12_isSo 46 = .ok (.iload_n 0, 1) := by decide +kernel
theorem dX12_isSo_47 : decode cX12_isSo 47 = .ok (.ifCond .ne 7, 3) := by decide +kernel
theorem dX12_isSo_50 : decode cX12_isSo 50 = .ok (.iconst 1, 1) := by decide +kernel
theorem dX12_isSo_51 : decode cX12_isSo 51 = .ok (.goto 4, 3) := by decide +kernel
theorem dX12_isSo_54 : decode cX12_isSo 54 = .ok (.iconst 0, 1) := by decide +kernel
theorem dX12_isSo_55 : decode cX12_isSo 55 = .ok (.ireturn, 1) := by decide +kernel
theorem dX12_isSo_56 : decode cX12_isSo 56 = .ok (.iload_n 0, 1) := by decide +kernel
theorem dX12_isSo_57 : decode cX12_isSo 57 = .ok (.ifCond .le 7, 3) := by decide +kernel
theorem dX12_isSo_60 : decode cX12_isSo 60 = .ok (.iconst 1, 1) := by decide +kernel
theorem dX12_isSo_61 : decode cX12_isSo 61 = .ok (.goto 4, 3) := by decide +kernel
theorem dX12_isSo_64 : decode cX12_isSo 64 = .ok (.iconst 0, 1) := by decide +kernel
theorem dX12_isSo_65 : decode cX12_isSo 65 = .ok (.ireturn, 1) := by decide +kernel
theorem dX12_isSo_66 : decode cX12_isSo 66 = .ok (.iload_n 0, 1) := by decide +kernel
theorem dX12_isSo_67 : decode cX12_isSo 67 = .ok (.ifCond .lt 7, 3) := by decide +kernel
theorem dX12_isSo_70 : decode cX12_isSo 70 = .ok (.iconst 1, 1) := by decide +kernel
theorem dX12_isSo_71 : decode cX12_isSo 71 = .ok (.goto 4, 3) := by decide +kernel
theorem dX12_isSo_74 : decode cX12_isSo 74 = .ok (.iconst 0, 1) := by decide +kernel
theorem dX12_isSo_75 : decode cX12_isSo 75 = .ok (.ireturn, 1) := by decide +kernel
theorem dX12_isSo_76 : decode cX12_isSo 76 = .ok (.iload_n 0, 1) := by decide +kernel
theorem dX12_isSo_77 : decode cX12_isSo 77 = .ok (.ifCond .eq 7, 3) := by decide +kernel
theorem dX12_isSo_80 : decode cX12_isSo 80 = .ok (.iconst 1, 1) := by decide +kernel
theorem dX12_isSo_81 : decode cX12_isSo 81 = .ok (.goto 4, 3) := by decide +kernel
theorem dX12_isSo_84 : decode cX12_isSo 84 = .ok (.iconst 0, 1) := by decide +kernel
theorem dX12_isSo_85 : decode cX12_isSo 85 = .ok (.ireturn, 1) := by decide +kernel
theorem dX12_isSo_86 : decode cX12_isSo 86 = .ok (.iload_n 0, 1) := by decide +kernel
theorem dX12_isSo_87 : decode cX12_isSo 87 = .ok (.ifCond .gt 7, 3) := by decide +kernel
theorem dX12_isSo_90 : decode cX12_isSo 90 = .ok (.iconst 1, 1) := by decide +kernel
theorem dX12_isSo_91 : decode cX12_isSo 91 = .ok (.goto 4, 3) := by decide +kernel
theorem dX12_isSo_94 : decode cX12_isSo 94 = .ok (.iconst 0, 1) := by decide +kernel
theorem dX12_isSo_95 : decode cX12_isSo 95 = .ok (.ireturn, 1) := by decide +kernel
set_option maxHeartbeats 4000000 in
set_option maxRecDepth 100000 in
theorem T_X12_isSo (l : Launch) (D : va_G) (K : Nat → ClassId) (Z Y : Nat → Nat) (ad : Nat → Nat) (t : tSt) (hok : okM t) (x0 : Int32) (x1 : Int32) (hx1 : (0 : Int) ≤ x1.toInt ∧ x1.toInt ≤ 63) : tMet l yX12_isSo cX12_isSo 2 (some .boolean) (rmD 0 0 0) D K Z Y [.int x0, .int x1] (WM K ad t) (QI D K (fun (r : Int32) (u : Unit) => (0 : Int) ≤ r.toInt ∧ r.toInt ≤ 1) (fun (_ : Unit) => WM K ad t)) 0 0 := by
  refine t_met RX12 ⟨rfl, by decide +kernel⟩ (Nat.le_of_ble_eq_true rfl) ?_
  intro p e s m below meth c A ls C hE hZ hr hlocks hA hP hD hS hl
  have hl : lv_has ls 2 [(0, .int x0), (1, .int x1)] := hl
  refine lv_iload_n C.1 C.2.1 dX12_isSo_0 rfl (lv_at hl 1 rfl) ?_
  by_cases c_1 : x1 = 0
  · refine lv_tableIn (tgt := 36) (off := 35) C.1 C.2.1 dX12_isSo_1 (by rw [c_1]; decide) (by rw [c_1]; decide) (by rw [c_1]; decide) (by decide) ?_
    replace c_1 : x1.toInt = 0 := i_eq c_1
    refine lv_iload_n C.1 C.2.1 dX12_isSo_36 rfl (lv_at hl 0 rfl) ?_
    refine lv_if_ge (tgt := 44) C.1 C.2.1 dX12_isSo_37 (by decide) (fun c_2 => ?_) (fun c_2 => ?_)
    · replace c_2 : 0 ≤ x0.toInt := i_le c_2
      refine lv_iconst (v := 0) C.1 C.2.1 dX12_isSo_44 (by decide) ?_
      exact g_iret C hr hlocks hP hD hS (by decide) () rfl ⟨by decide, by decide⟩ (Nat.le_of_ble_eq_true rfl) (Nat.le_of_ble_eq_true rfl) dX12_isSo_45
    · replace c_2 : x0.toInt < 0 := i_nle c_2
      refine lv_iconst (v := 1) C.1 C.2.1 dX12_isSo_40 (by decide) ?_
      refine lv_goto (tgt := 45) C.1 C.2.1 dX12_isSo_41 (by decide) ?_
      exact g_iret C hr hlocks hP hD hS (by decide) () rfl ⟨by decide, by decide⟩ (Nat.le_of_ble_eq_true rfl) (Nat.le_of_ble_eq_true rfl) dX12_isSo_45
  replace c_1 : ¬ x1.toInt = 0 := i_ne c_1
  by_cases c_3 : x1 = 1
  · refine lv_tableIn (tgt := 46) (off := 45) C.1 C.2.1 dX12_isSo_1 (by rw [c_3]; decide) (by rw [c_3]; decide) (by rw [c_3]; decide) (by decide) ?_
    replace c_3 : x1.toInt = 1 := i_eq c_3
    refine lv_iload_n C.1 C.2.1 dX12_isSo_46 rfl (lv_at hl 0 rfl) ?_
    refine lv_if_ne (tgt := 54) C.1 C.2.1 dX12_isSo_47 (by decide) (fun c_4 => ?_) (fun c_4 => ?_)
    · replace c_4 : ¬ x0.toInt = 0 := i_ne c_4
      refine lv_iconst (v := 0) C.1 C.2.1 dX12_isSo_54 (by decide) ?_
      exact g_iret C hr hlocks hP hD hS (by decide) () rfl ⟨by decide, by decide⟩ (Nat.le_of_ble_eq_true rfl) (Nat.le_of_ble_eq_true rfl) dX12_isSo_55
    · replace c_4 : x0.toInt = 0 := i_eq c_4
      refine lv_iconst (v := 1) C.1 C.2.1 dX12_isSo_50 (by decide) ?_
      refine lv_goto (tgt := 55) C.1 C.2.1 dX12_isSo_51 (by decide) ?_
      exact g_iret C hr hlocks hP hD hS (by decide) () rfl ⟨by decide, by decide⟩ (Nat.le_of_ble_eq_true rfl) (Nat.le_of_ble_eq_true rfl) dX12_isSo_55
  replace c_3 : ¬ x1.toInt = 1 := i_ne c_3
  by_cases c_5 : x1 = 2
  · refine lv_tableIn (tgt := 56) (off := 55) C.1 C.2.1 dX12_isSo_1 (by rw [c_5]; decide) (by rw [c_5]; decide) (by rw [c_5]; decide) (by decide) ?_
    replace c_5 : x1.toInt = 2 := i_eq c_5
    refine lv_iload_n C.1 C.2.1 dX12_isSo_56 rfl (lv_at hl 0 rfl) ?_
    refine lv_if_le (tgt := 64) C.1 C.2.1 dX12_isSo_57 (by decide) (fun c_6 => ?_) (fun c_6 => ?_)
    · replace c_6 : x0.toInt ≤ 0 := i_le c_6
      refine lv_iconst (v := 0) C.1 C.2.1 dX12_isSo_64 (by decide) ?_
      exact g_iret C hr hlocks hP hD hS (by decide) () rfl ⟨by decide, by decide⟩ (Nat.le_of_ble_eq_true rfl) (Nat.le_of_ble_eq_true rfl) dX12_isSo_65
    · replace c_6 : 0 < x0.toInt := i_nle c_6
      refine lv_iconst (v := 1) C.1 C.2.1 dX12_isSo_60 (by decide) ?_
      refine lv_goto (tgt := 65) C.1 C.2.1 dX12_isSo_61 (by decide) ?_
      exact g_iret C hr hlocks hP hD hS (by decide) () rfl ⟨by decide, by decide⟩ (Nat.le_of_ble_eq_true rfl) (Nat.le_of_ble_eq_true rfl) dX12_isSo_65
  replace c_5 : ¬ x1.toInt = 2 := i_ne c_5
  by_cases c_7 : x1 = 3
  · refine lv_tableIn (tgt := 66) (off := 65) C.1 C.2.1 dX12_isSo_1 (by rw [c_7]; decide) (by rw [c_7]; decide) (by rw [c_7]; decide) (by decide) ?_
    replace c_7 : x1.toInt = 3 := i_eq c_7
    refine lv_iload_n C.1 C.2.1 dX12_isSo_66 rfl (lv_at hl 0 rfl) ?_
    refine lv_if_lt (tgt := 74) C.1 C.2.1 dX12_isSo_67 (by decide) (fun c_8 => ?_) (fun c_8 => ?_)
    · replace c_8 : x0.toInt < 0 := i_lt c_8
      refine lv_iconst (v := 0) C.1 C.2.1 dX12_isSo_74 (by decide) ?_
      exact g_iret C hr hlocks hP hD hS (by decide) () rfl ⟨by decide, by decide⟩ (Nat.le_of_ble_eq_true rfl) (Nat.le_of_ble_eq_true rfl) dX12_isSo_75
    · replace c_8 : 0 ≤ x0.toInt := i_nlt c_8
      refine lv_iconst (v := 1) C.1 C.2.1 dX12_isSo_70 (by decide) ?_
      refine lv_goto (tgt := 75) C.1 C.2.1 dX12_isSo_71 (by decide) ?_
      exact g_iret C hr hlocks hP hD hS (by decide) () rfl ⟨by decide, by decide⟩ (Nat.le_of_ble_eq_true rfl) (Nat.le_of_ble_eq_true rfl) dX12_isSo_75
  replace c_7 : ¬ x1.toInt = 3 := i_ne c_7
  by_cases c_9 : x1 = 4
  · refine lv_tableIn (tgt := 76) (off := 75) C.1 C.2.1 dX12_isSo_1 (by rw [c_9]; decide) (by rw [c_9]; decide) (by rw [c_9]; decide) (by decide) ?_
    replace c_9 : x1.toInt = 4 := i_eq c_9
    refine lv_iload_n C.1 C.2.1 dX12_isSo_76 rfl (lv_at hl 0 rfl) ?_
    refine lv_if_eq (tgt := 84) C.1 C.2.1 dX12_isSo_77 (by decide) (fun c_10 => ?_) (fun c_10 => ?_)
    · replace c_10 : x0.toInt = 0 := i_eq c_10
      refine lv_iconst (v := 0) C.1 C.2.1 dX12_isSo_84 (by decide) ?_
      exact g_iret C hr hlocks hP hD hS (by decide) () rfl ⟨by decide, by decide⟩ (Nat.le_of_ble_eq_true rfl) (Nat.le_of_ble_eq_true rfl) dX12_isSo_85
    · replace c_10 : ¬ x0.toInt = 0 := i_ne c_10
      refine lv_iconst (v := 1) C.1 C.2.1 dX12_isSo_80 (by decide) ?_
      refine lv_goto (tgt := 85) C.1 C.2.1 dX12_isSo_81 (by decide) ?_
      exact g_iret C hr hlocks hP hD hS (by decide) () rfl ⟨by decide, by decide⟩ (Nat.le_of_ble_eq_true rfl) (Nat.le_of_ble_eq_true rfl) dX12_isSo_85
  replace c_9 : ¬ x1.toInt = 4 := i_ne c_9
  refine lv_tableOut (tgt := 86) C.1 C.2.1 dX12_isSo_1 (by omega) (by decide) ?_
  refine lv_iload_n C.1 C.2.1 dX12_isSo_86 rfl (lv_at hl 0 rfl) ?_
  refine lv_if_gt (tgt := 94) C.1 C.2.1 dX12_isSo_87 (by decide) (fun c_11 => ?_) (fun c_11 => ?_)
  · replace c_11 : 0 < x0.toInt := i_lt c_11
    refine lv_iconst (v := 0) C.1 C.2.1 dX12_isSo_94 (by decide) ?_
    exact g_iret C hr hlocks hP hD hS (by decide) () rfl ⟨by decide, by decide⟩ (Nat.le_of_ble_eq_true rfl) (Nat.le_of_ble_eq_true rfl) dX12_isSo_95
  · replace c_11 : x0.toInt ≤ 0 := i_nlt c_11
    refine lv_iconst (v := 1) C.1 C.2.1 dX12_isSo_90 (by decide) ?_
    refine lv_goto (tgt := 95) C.1 C.2.1 dX12_isSo_91 (by decide) ?_
    exact g_iret C hr hlocks hP hD hS (by decide) () rfl ⟨by decide, by decide⟩ (Nat.le_of_ble_eq_true rfl) (Nat.le_of_ble_eq_true rfl) dX12_isSo_95

theorem dX12_use_0 : decode cX12_use 0 = .ok (.aload_n 0, 1) := by decide +kernel
theorem dX12_use_1 : decode cX12_use 1 = .ok (.getfield 98, 3) := by decide +kernel
theorem dX12_use_11 : decode cX12_use 11 = .ok (.aload_n 0, 1) := by decide +kernel
theorem dX12_use_12 : decode cX12_use 12 = .ok (.getfield 101, 3) := by decide +kernel
theorem dX12_use_15 : decode cX12_use 15 = .ok (.bipush 16, 2) := by decide +kernel
theorem dX12_use_17 : decode cX12_use 17 = .ok (.iload_n 1, 1) := by decide +kernel
theorem dX12_use_18 : decode cX12_use 18 = .ok (.imul, 1) := by decide +kernel
theorem dX12_use_19 : decode cX12_use 19 = .ok (.iload_n 2, 1) := by decide +kernel
theorem dX12_use_20 : decode cX12_use 20 = .ok (.bipush 16, 2) := by decide +kernel
theorem dX12_use_22 : decode cX12_use 22 = .ok (.if_icmp .le 8, 3) := by decide +kernel
theorem dX12_use_30 : decode cX12_use 30 = .ok (.iload_n 2, 1) := by decide +kernel
theorem dX12_use_31 : decode cX12_use 31 = .ok (.iadd, 1) := by decide +kernel
theorem dX12_use_32 : decode cX12_use 32 = .ok (.iconst 1, 1) := by decide +kernel
theorem dX12_use_33 : decode cX12_use 33 = .ok (.isub, 1) := by decide +kernel
theorem dX12_use_34 : decode cX12_use 34 = .ok (.iaload, 1) := by decide +kernel
theorem dX12_use_35 : decode cX12_use 35 = .ok (.aload_n 0, 1) := by decide +kernel
theorem dX12_use_36 : decode cX12_use 36 = .ok (.getfield 443, 3) := by decide +kernel
theorem dX12_use_39 : decode cX12_use 39 = .ok (.iconst 1, 1) := by decide +kernel
theorem dX12_use_4 : decode cX12_use 4 = .ok (.iload_n 1, 1) := by decide +kernel
theorem dX12_use_40 : decode cX12_use 40 = .ok (.iadd, 1) := by decide +kernel
theorem dX12_use_41 : decode cX12_use 41 = .ok (.if_icmp .eq 9, 3) := by decide +kernel
theorem dX12_use_44 : decode cX12_use 44 = .ok (.iload_n 2, 1) := by decide +kernel
theorem dX12_use_45 : decode cX12_use 45 = .ok (.bipush 15, 2) := by decide +kernel
theorem dX12_use_47 : decode cX12_use 47 = .ok (.if_icmp .le 4, 3) := by decide +kernel
theorem dX12_use_5 : decode cX12_use 5 = .ok (.iaload, 1) := by decide +kernel
theorem dX12_use_50 : decode cX12_use 50 = .ok (.return_, 1) := by decide +kernel
theorem dX12_use_51 : decode cX12_use 51 = .ok (.aload_n 0, 1) := by decide +kernel
theorem dX12_use_52 : decode cX12_use 52 = .ok (.getfield 101, 3) := by decide +kernel
theorem dX12_use_55 : decode cX12_use 55 = .ok (.bipush 16, 2) := by decide +kernel
theorem dX12_use_57 : decode cX12_use 57 = .ok (.iload_n 1, 1) := by decide +kernel
theorem dX12_use_58 : decode cX12_use 58 = .ok (.imul, 1) := by decide +kernel
theorem dX12_use_59 : decode cX12_use 59 = .ok (.iload_n 2, 1) := by decide +kernel
theorem dX12_use_6 : decode cX12_use 6 = .ok (.istore_n 2, 1) := by decide +kernel
theorem dX12_use_60 : decode cX12_use 60 = .ok (.iadd, 1) := by decide +kernel
theorem dX12_use_61 : decode cX12_use 61 = .ok (.aload_n 0, 1) := by decide +kernel
theorem dX12_use_62 : decode cX12_use 62 = .ok (.getfield 443, 3) := by decide +kernel
theorem dX12_use_65 : decode cX12_use 65 = .ok (.iconst 1, 1) := by decide +kernel
theorem dX12_use_66 : decode cX12_use 66 = .ok (.iadd, 1) := by decide +kernel
theorem dX12_use_67 : decode cX12_use 67 = .ok (.iastore, 1) := by decide +kernel
theorem dX12_use_68 : decode cX12_use 68 = .ok (.aload_n 0, 1) := by decide +kernel
theorem dX12_use_69 : decode cX12_use 69 = .ok (.getfield 98, 3) := by decide +kernel
theorem dX12_use_7 : decode cX12_use 7 = .ok (.iload_n 2, 1) := by decide +kernel
theorem dX12_use_72 : decode cX12_use 72 = .ok (.iload_n 1, 1) := by decide +kernel
theorem dX12_use_73 : decode cX12_use 73 = .ok (.dup2, 1) := by decide +kernel
theorem dX12_use_74 : decode cX12_use 74 = .ok (.iaload, 1) := by decide +kernel
theorem dX12_use_75 : decode cX12_use 75 = .ok (.iconst 1, 1) := by decide +kernel
theorem dX12_use_76 : decode cX12_use 76 = .ok (.iadd, 1) := by decide +kernel
theorem dX12_use_77 : decode cX12_use 77 = .ok (.iastore, 1) := by decide +kernel
theorem dX12_use_78 : decode cX12_use 78 = .ok (.return_, 1) := by decide +kernel
theorem dX12_use_8 : decode cX12_use 8 = .ok (.ifCond .le 36, 3) := by decide +kernel
set_option maxHeartbeats 4000000 in
set_option maxRecDepth 100000 in
theorem T_X12_use (l : Launch) (D : va_G) (K : Nat → ClassId) (Z Y : Nat → Nat) (ad : Nat → Nat) (t : tSt) (hok : okM t) (x1 : Int32) (hx1 : (0 : Int) ≤ x1.toInt ∧ x1.toInt ≤ 1199) : tMet l yX12_use cX12_use 3 none (rmD 0 0 0) D K Z Y [.ref (ad 0), .int x1] (WM K ad t) (QV D K (fun (u : tSt) => okM u ∧ frA [] [] [26, 27] [] t u) (fun (u : tSt) => WM K ad u)) 0 0 := by
  refine t_met RX12 ⟨rfl, by decide +kernel⟩ (Nat.le_of_ble_eq_true rfl) ?_
  intro p e s m below meth c A ls C hE hZ hr hlocks hA hP hD hS hl
  have hl : lv_has ls 3 [(0, .ref (ad 0)), (1, .int x1)] := hl
  have hokt := hok
  have hfr : frA [] [] [26, 27] [] t t := frA_rf
  refine lv_aload_n C.1 C.2.1 dX12_use_0 rfl (lv_at hl 0 rfl) ?_
  refine k_get (v := .ref (ad 26)) C hP 0 rfl rfl inlX12 56 (by decide) m_8_10 rfl dX12_use_1 ?_
  refine lv_iload_n C.1 C.2.1 dX12_use_4 rfl (lv_at hl 1 rfl) ?_
  have h_1 : (0 : Int) ≤ (t.2.2.1 26 (x1 : Int32).toNatClampNeg).toInt ∧ (t.2.2.1 26 (x1 : Int32).toNatClampNeg).toInt ≤ 16 := hok.2.1 26 _
  refine k_ild (v := (t.2.2.1 26 (x1 : Int32).toNatClampNeg)) C hP 26 rfl (vp_in_iff.mpr ⟨by omega, by omega⟩) rfl dX12_use_5 ?_
  refine lv_istore_n (lv' := [(2, .int (t.2.2.1 26 (x1 : Int32).toNatClampNeg)), (0, .ref (ad 0)), (1, .int x1)]) C.1 C.2.1 dX12_use_6 rfl hl (by decide) rfl (fun ls hl => ?_)
  have hl : lv_has ls 3 [(0, .ref (ad 0)), (1, .int x1), (2, .int (t.2.2.1 26 (x1 : Int32).toNatClampNeg))] := lv_sub hl [1, 2, 0] rfl
  refine lv_iload_n C.1 C.2.1 dX12_use_7 rfl (lv_at hl 2 rfl) ?_
  refine lv_if_le (tgt := 44) C.1 C.2.1 dX12_use_8 (by decide) (fun c_2 => ?_) (fun c_2 => ?_)
  · replace c_2 : (t.2.2.1 26 (x1 : Int32).toNatClampNeg).toInt ≤ 0 := i_le c_2
    refine lv_iload_n C.1 C.2.1 dX12_use_44 rfl (lv_at hl 2 rfl) ?_
    refine lv_bipush (v := 15) C.1 C.2.1 dX12_use_45 (by decide) ?_
    refine lv_icmp_le (tgt := 51) C.1 C.2.1 dX12_use_47 (by decide) (fun c_3 => ?_) (fun c_3 => False.elim (by have c_3 : 15 < (t.2.2.1 26 (x1 : Int32).toNatClampNeg).toInt := i_nle c_3; omega))
    replace c_3 : (t.2.2.1 26 (x1 : Int32).toNatClampNeg).toInt ≤ 15 := i_le c_3
    refine lv_aload_n C.1 C.2.1 dX12_use_51 rfl (lv_at hl 0 rfl) ?_
    refine k_get (v := .ref (ad 27)) C hP 0 rfl rfl inlX12 57 (by decide) m_8_11 rfl dX12_use_52 ?_
    refine lv_bipush (v := 16) C.1 C.2.1 dX12_use_55 (by decide) ?_
    refine lv_iload_n C.1 C.2.1 dX12_use_57 rfl (lv_at hl 1 rfl) ?_
    obtain ⟨v_4, e_5⟩ : ∃ z, z = (16 : Int32) * (x1 : Int32) := ⟨_, rfl⟩
    have h_6 : v_4.toInt = 16 * x1.toInt := by rw [e_5]; exact ti_mull (k := 16) (by decide) (by omega) (by omega)
    refine k_imul (v := v_4) C e_5.symm dX12_use_58 ?_
    refine lv_iload_n C.1 C.2.1 dX12_use_59 rfl (lv_at hl 2 rfl) ?_
    obtain ⟨v_7, e_8⟩ : ∃ z, z = (v_4 : Int32) + ((t.2.2.1 26 (x1 : Int32).toNatClampNeg) : Int32) := ⟨_, rfl⟩
    have h_9 : v_7.toInt = v_4.toInt + (t.2.2.1 26 (x1 : Int32).toNatClampNeg).toInt := by rw [e_8]; exact ti_iadd (by show (_ : Int) ≤ v_4.toInt + (t.2.2.1 26 (x1 : Int32).toNatClampNeg).toInt; omega) (by show v_4.toInt + (t.2.2.1 26 (x1 : Int32).toNatClampNeg).toInt < (_ : Int); omega)
    refine k_iadd (v := v_7) C e_8.symm dX12_use_60 ?_
    refine lv_aload_n C.1 C.2.1 dX12_use_61 rfl (lv_at hl 0 rfl) ?_
    have h_10 : (0 : Int) ≤ (t.1 0 67).toInt ∧ (t.1 0 67).toInt ≤ 1281 := hok.1 0 67
    refine k_get (v := .int (t.1 0 67)) C hP 0 rfl rfl inlX12 67 (by decide) m_29_11 rfl dX12_use_62 ?_
    refine lv_iconst (v := 1) C.1 C.2.1 dX12_use_65 (by decide) ?_
    obtain ⟨v_11, e_12⟩ : ∃ z, z = ((t.1 0 67) : Int32) + (1 : Int32) := ⟨_, rfl⟩
    have h_13 : v_11.toInt = (t.1 0 67).toInt + 1 := by rw [e_12]; exact ti_iadd (by show (_ : Int) ≤ (t.1 0 67).toInt + 1; omega) (by show (t.1 0 67).toInt + 1 < (_ : Int); omega)
    refine k_iadd (v := v_11) C e_12.symm dX12_use_66 ?_
    refine k_ist (ws' := WM K ad (uB t 27 (v_7 : Int32).toNatClampNeg v_11)) (x' := v_11) C hP hD hS 27 rfl (vp_in_iff.mpr ⟨by omega, by omega⟩) rfl rfl rfl dX12_use_67 (fun H locs hP hD hS => ?_)
    have hok : okM (uB t 27 (v_7 : Int32).toNatClampNeg v_11) := ⟨hok.1, okB_B hok.2.1 27 _ v_11 (show (0 : Int) ≤ (v_11 : Int32).toInt ∧ (v_11 : Int32).toInt ≤ 3999 from ⟨by omega, by omega⟩), hok.2.2.1, hok.2.2.2.1, hok.2.2.2.2.1, hok.2.2.2.2.2.1, hok.2.2.2.2.2.2.1, trivial⟩
    have hfr : frA [] [] [26, 27] [] t (uB t 27 (v_7 : Int32).toNatClampNeg v_11) := frA_B hfr 27 _ _ rfl
    refine lv_aload_n C.1 C.2.1 dX12_use_68 rfl (lv_at hl 0 rfl) ?_
    refine k_get (v := .ref (ad 26)) C hP 0 rfl rfl inlX12 56 (by decide) m_8_10 rfl dX12_use_69 ?_
    refine lv_iload_n C.1 C.2.1 dX12_use_72 rfl (lv_at hl 1 rfl) ?_
    refine lv_dup2_11 C.1 C.2.1 dX12_use_73 rfl rfl ?_
    have e_14 : (uB t 27 (v_7 : Int32).toNatClampNeg v_11).2.2.1 26 = t.2.2.1 26 := (uB_ne rfl)
    have h_15 : (0 : Int) ≤ (t.2.2.1 26 (x1 : Int32).toNatClampNeg).toInt ∧ (t.2.2.1 26 (x1 : Int32).toNatClampNeg).toInt ≤ 16 := by rw [← e_14]; exact hok.2.1 26 _
    refine k_ild (v := (t.2.2.1 26 (x1 : Int32).toNatClampNeg)) C hP 26 rfl (vp_in_iff.mpr ⟨by omega, by omega⟩) (congrFun e_14 _) dX12_use_74 ?_
    refine lv_iconst (v := 1) C.1 C.2.1 dX12_use_75 (by decide) ?_
    obtain ⟨v_16, e_17⟩ : ∃ z, z = ((t.2.2.1 26 (x1 : Int32).toNatClampNeg) : Int32) + (1 : Int32) := ⟨_, rfl⟩
    have h_18 : v_16.toInt = (t.2.2.1 26 (x1 : Int32).toNatClampNeg).toInt + 1 := by rw [e_17]; exact ti_iadd (by show (_ : Int) ≤ (t.2.2.1 26 (x1 : Int32).toNatClampNeg).toInt + 1; omega) (by show (t.2.2.1 26 (x1 : Int32).toNatClampNeg).toInt + 1 < (_ : Int); omega)
    refine k_iadd (v := v_16) C e_17.symm dX12_use_76 ?_
    obtain ⟨t_19, e_20⟩ : ∃ z, z = (uB t 27 (v_7 : Int32).toNatClampNeg v_11) := ⟨_, rfl⟩
    rw [← e_20] at hP hD hok hfr
    have h_21 : (t_19.1 0 67).toInt = ((t.1 0 67) : Int32).toInt := by rw [e_20]; rfl
    have e_22 : t_19.2.2.1 26 = t.2.2.1 26 := by rw [e_20]; exact (uB_ne rfl)
    refine k_ist (ws' := WM K ad (uB t_19 26 (x1 : Int32).toNatClampNeg v_16)) (x' := v_16) C hP hD hS 26 rfl (vp_in_iff.mpr ⟨by omega, by omega⟩) rfl rfl rfl dX12_use_77 (fun H locs hP hD hS => ?_)
    have hok : okM (uB t_19 26 (x1 : Int32).toNatClampNeg v_16) := ⟨hok.1, okB_B hok.2.1 26 _ v_16 (show (0 : Int) ≤ (v_16 : Int32).toInt ∧ (v_16 : Int32).toInt ≤ 16 from ⟨by omega, by omega⟩), hok.2.2.1, hok.2.2.2.1, hok.2.2.2.2.1, hok.2.2.2.2.2.1, hok.2.2.2.2.2.2.1, trivial⟩
    have hfr : frA [] [] [26, 27] [] t (uB t_19 26 (x1 : Int32).toNatClampNeg v_16) := frA_B hfr 26 _ _ rfl
    exact g_vret C hr hlocks hP hD hS (uB t_19 26 (x1 : Int32).toNatClampNeg v_16) rfl ⟨hok, hfr⟩ (Nat.le_of_ble_eq_true rfl) (Nat.le_of_ble_eq_true rfl) dX12_use_78
  · replace c_2 : 0 < (t.2.2.1 26 (x1 : Int32).toNatClampNeg).toInt := i_nle c_2
    refine lv_aload_n C.1 C.2.1 dX12_use_11 rfl (lv_at hl 0 rfl) ?_
    refine k_get (v := .ref (ad 27)) C hP 0 rfl rfl inlX12 57 (by decide) m_8_11 rfl dX12_use_12 ?_
    refine lv_bipush (v := 16) C.1 C.2.1 dX12_use_15 (by decide) ?_
    refine lv_iload_n C.1 C.2.1 dX12_use_17 rfl (lv_at hl 1 rfl) ?_
    obtain ⟨v_23, e_24⟩ : ∃ z, z = (16 : Int32) * (x1 : Int32) := ⟨_, rfl⟩
    have h_25 : v_23.toInt = 16 * x1.toInt := by rw [e_24]; exact ti_mull (k := 16) (by decide) (by omega) (by omega)
    refine k_imul (v := v_23) C e_24.symm dX12_use_18 ?_
    refine lv_iload_n C.1 C.2.1 dX12_use_19 rfl (lv_at hl 2 rfl) ?_
    refine lv_bipush (v := 16) C.1 C.2.1 dX12_use_20 (by decide) ?_
    refine lv_icmp_le (tgt := 30) C.1 C.2.1 dX12_use_22 (by decide) (fun c_26 => ?_) (fun c_26 => False.elim (by have c_26 : 16 < (t.2.2.1 26 (x1 : Int32).toNatClampNeg).toInt := i_nle c_26; omega))
    replace c_26 : (t.2.2.1 26 (x1 : Int32).toNatClampNeg).toInt ≤ 16 := i_le c_26
    refine lv_iload_n C.1 C.2.1 dX12_use_30 rfl (lv_at hl 2 rfl) ?_
    obtain ⟨v_27, e_28⟩ : ∃ z, z = (v_23 : Int32) + ((t.2.2.1 26 (x1 : Int32).toNatClampNeg) : Int32) := ⟨_, rfl⟩
    have h_29 : v_27.toInt = v_23.toInt + (t.2.2.1 26 (x1 : Int32).toNatClampNeg).toInt := by rw [e_28]; exact ti_iadd (by show (_ : Int) ≤ v_23.toInt + (t.2.2.1 26 (x1 : Int32).toNatClampNeg).toInt; omega) (by show v_23.toInt + (t.2.2.1 26 (x1 : Int32).toNatClampNeg).toInt < (_ : Int); omega)
    refine k_iadd (v := v_27) C e_28.symm dX12_use_31 ?_
    refine lv_iconst (v := 1) C.1 C.2.1 dX12_use_32 (by decide) ?_
    obtain ⟨v_30, e_31⟩ : ∃ z, z = (v_27 : Int32) - (1 : Int32) := ⟨_, rfl⟩
    have h_32 : v_30.toInt = v_27.toInt - 1 := by rw [e_31]; exact ti_isub (by show (_ : Int) ≤ v_27.toInt - 1; omega) (by show v_27.toInt - 1 < (_ : Int); omega)
    refine k_isub (v := v_30) C e_31.symm dX12_use_33 ?_
    obtain ⟨v_33, e_34⟩ : ∃ z, z = (t.2.2.1 27 (v_30 : Int32).toNatClampNeg) := ⟨_, rfl⟩
    have h_35 : (0 : Int) ≤ v_33.toInt ∧ v_33.toInt ≤ 3999 := by rw [e_34]; exact hok.2.1 27 _
    refine k_ild (v := v_33) C hP 27 rfl (vp_in_iff.mpr ⟨by omega, by omega⟩) e_34.symm dX12_use_34 ?_
    refine lv_aload_n C.1 C.2.1 dX12_use_35 rfl (lv_at hl 0 rfl) ?_
    have h_36 : (0 : Int) ≤ (t.1 0 67).toInt ∧ (t.1 0 67).toInt ≤ 1281 := hok.1 0 67
    refine k_get (v := .int (t.1 0 67)) C hP 0 rfl rfl inlX12 67 (by decide) m_29_11 rfl dX12_use_36 ?_
    refine lv_iconst (v := 1) C.1 C.2.1 dX12_use_39 (by decide) ?_
    obtain ⟨v_37, e_38⟩ : ∃ z, z = ((t.1 0 67) : Int32) + (1 : Int32) := ⟨_, rfl⟩
    have h_39 : v_37.toInt = (t.1 0 67).toInt + 1 := by rw [e_38]; exact ti_iadd (by show (_ : Int) ≤ (t.1 0 67).toInt + 1; omega) (by show (t.1 0 67).toInt + 1 < (_ : Int); omega)
    refine k_iadd (v := v_37) C e_38.symm dX12_use_40 ?_
    refine lv_icmp_eq (tgt := 50) C.1 C.2.1 dX12_use_41 (by decide) (fun c_40 => ?_) (fun c_40 => ?_)
    · replace c_40 : v_33.toInt = v_37.toInt := i_eq c_40
      exact g_vret C hr hlocks hP hD hS t rfl ⟨hok, hfr⟩ (Nat.le_of_ble_eq_true rfl) (Nat.le_of_ble_eq_true rfl) dX12_use_50
    · replace c_40 : ¬ v_33.toInt = v_37.toInt := i_ne c_40
      refine lv_iload_n C.1 C.2.1 dX12_use_44 rfl (lv_at hl 2 rfl) ?_
      refine lv_bipush (v := 15) C.1 C.2.1 dX12_use_45 (by decide) ?_
      refine lv_icmp_le (tgt := 51) C.1 C.2.1 dX12_use_47 (by decide) (fun c_41 => ?_) (fun c_41 => ?_)
      · replace c_41 : (t.2.2.1 26 (x1 : Int32).toNatClampNeg).toInt ≤ 15 := i_le c_41
        refine lv_aload_n C.1 C.2.1 dX12_use_51 rfl (lv_at hl 0 rfl) ?_
        refine k_get (v := .ref (ad 27)) C hP 0 rfl rfl inlX12 57 (by decide) m_8_11 rfl dX12_use_52 ?_
        refine lv_bipush (v := 16) C.1 C.2.1 dX12_use_55 (by decide) ?_
        refine lv_iload_n C.1 C.2.1 dX12_use_57 rfl (lv_at hl 1 rfl) ?_
        obtain ⟨v_42, e_43⟩ : ∃ z, z = (16 : Int32) * (x1 : Int32) := ⟨_, rfl⟩
        have h_44 : v_42.toInt = 16 * x1.toInt := by rw [e_43]; exact ti_mull (k := 16) (by decide) (by omega) (by omega)
        refine k_imul (v := v_42) C e_43.symm dX12_use_58 ?_
        refine lv_iload_n C.1 C.2.1 dX12_use_59 rfl (lv_at hl 2 rfl) ?_
        obtain ⟨v_45, e_46⟩ : ∃ z, z = (v_42 : Int32) + ((t.2.2.1 26 (x1 : Int32).toNatClampNeg) : Int32) := ⟨_, rfl⟩
        have h_47 : v_45.toInt = v_42.toInt + (t.2.2.1 26 (x1 : Int32).toNatClampNeg).toInt := by rw [e_46]; exact ti_iadd (by show (_ : Int) ≤ v_42.toInt + (t.2.2.1 26 (x1 : Int32).toNatClampNeg).toInt; omega) (by show v_42.toInt + (t.2.2.1 26 (x1 : Int32).toNatClampNeg).toInt < (_ : Int); omega)
        refine k_iadd (v := v_45) C e_46.symm dX12_use_60 ?_
        refine lv_aload_n C.1 C.2.1 dX12_use_61 rfl (lv_at hl 0 rfl) ?_
        refine k_get (v := .int (t.1 0 67)) C hP 0 rfl rfl inlX12 67 (by decide) m_29_11 rfl dX12_use_62 ?_
        refine lv_iconst (v := 1) C.1 C.2.1 dX12_use_65 (by decide) ?_
        obtain ⟨v_48, e_49⟩ : ∃ z, z = ((t.1 0 67) : Int32) + (1 : Int32) := ⟨_, rfl⟩
        have h_50 : v_48.toInt = (t.1 0 67).toInt + 1 := by rw [e_49]; exact ti_iadd (by show (_ : Int) ≤ (t.1 0 67).toInt + 1; omega) (by show (t.1 0 67).toInt + 1 < (_ : Int); omega)
        refine k_iadd (v := v_48) C e_49.symm dX12_use_66 ?_
        refine k_ist (ws' := WM K ad (uB t 27 (v_45 : Int32).toNatClampNeg v_48)) (x' := v_48) C hP hD hS 27 rfl (vp_in_iff.mpr ⟨by omega, by omega⟩) rfl rfl rfl dX12_use_67 (fun H locs hP hD hS => ?_)
        have hok : okM (uB t 27 (v_45 : Int32).toNatClampNeg v_48) := ⟨hok.1, okB_B hok.2.1 27 _ v_48 (show (0 : Int) ≤ (v_48 : Int32).toInt ∧ (v_48 : Int32).toInt ≤ 3999 from ⟨by omega, by omega⟩), hok.2.2.1, hok.2.2.2.1, hok.2.2.2.2.1, hok.2.2.2.2.2.1, hok.2.2.2.2.2.2.1, trivial⟩
        have hfr : frA [] [] [26, 27] [] t (uB t 27 (v_45 : Int32).toNatClampNeg v_48) := frA_B hfr 27 _ _ rfl
        refine lv_aload_n C.1 C.2.1 dX12_use_68 rfl (lv_at hl 0 rfl) ?_
        refine k_get (v := .ref (ad 26)) C hP 0 rfl rfl inlX12 56 (by decide) m_8_10 rfl dX12_use_69 ?_
        refine lv_iload_n C.1 C.2.1 dX12_use_72 rfl (lv_at hl 1 rfl) ?_
        refine lv_dup2_11 C.1 C.2.1 dX12_use_73 rfl rfl ?_
        have e_51 : (uB t 27 (v_45 : Int32).toNatClampNeg v_48).2.2.1 26 = t.2.2.1 26 := (uB_ne rfl)
        have h_52 : (0 : Int) ≤ (t.2.2.1 26 (x1 : Int32).toNatClampNeg).toInt ∧ (t.2.2.1 26 (x1 : Int32).toNatClampNeg).toInt ≤ 16 := by rw [← e_51]; exact hok.2.1 26 _
        refine k_ild (v := (t.2.2.1 26 (x1 : Int32).toNatClampNeg)) C hP 26 rfl (vp_in_iff.mpr ⟨by omega, by omega⟩) (congrFun e_51 _) dX12_use_74 ?_
        refine lv_iconst (v := 1) C.1 C.2.1 dX12_use_75 (by decide) ?_
        obtain ⟨v_53, e_54⟩ : ∃ z, z = ((t.2.2.1 26 (x1 : Int32).toNatClampNeg) : Int32) + (1 : Int32) := ⟨_, rfl⟩
        have h_55 : v_53.toInt = (t.2.2.1 26 (x1 : Int32).toNatClampNeg).toInt + 1 := by rw [e_54]; exact ti_iadd (by show (_ : Int) ≤ (t.2.2.1 26 (x1 : Int32).toNatClampNeg).toInt + 1; omega) (by show (t.2.2.1 26 (x1 : Int32).toNatClampNeg).toInt + 1 < (_ : Int); omega)
        refine k_iadd (v := v_53) C e_54.symm dX12_use_76 ?_
        obtain ⟨t_56, e_57⟩ : ∃ z, z = (uB t 27 (v_45 : Int32).toNatClampNeg v_48) := ⟨_, rfl⟩
        rw [← e_57] at hP hD hok hfr
        have h_58 : (t_56.1 0 67).toInt = ((t.1 0 67) : Int32).toInt := by rw [e_57]; rfl
        have e_59 : t_56.2.2.1 26 = t.2.2.1 26 := by rw [e_57]; exact (uB_ne rfl)
        refine k_ist (ws' := WM K ad (uB t_56 26 (x1 : Int32).toNatClampNeg v_53)) (x' := v_53) C hP hD hS 26 rfl (vp_in_iff.mpr ⟨by omega, by omega⟩) rfl rfl rfl dX12_use_77 (fun H locs hP hD hS => ?_)
        have hok : okM (uB t_56 26 (x1 : Int32).toNatClampNeg v_53) := ⟨hok.1, okB_B hok.2.1 26 _ v_53 (show (0 : Int) ≤ (v_53 : Int32).toInt ∧ (v_53 : Int32).toInt ≤ 16 from ⟨by omega, by omega⟩), hok.2.2.1, hok.2.2.2.1, hok.2.2.2.2.1, hok.2.2.2.2.2.1, hok.2.2.2.2.2.2.1, trivial⟩
        have hfr : frA [] [] [26, 27] [] t (uB t_56 26 (x1 : Int32).toNatClampNeg v_53) := frA_B hfr 26 _ _ rfl
        exact g_vret C hr hlocks hP hD hS (uB t_56 26 (x1 : Int32).toNatClampNeg v_53) rfl ⟨hok, hfr⟩ (Nat.le_of_ble_eq_true rfl) (Nat.le_of_ble_eq_true rfl) dX12_use_78
      · replace c_41 : 15 < (t.2.2.1 26 (x1 : Int32).toNatClampNeg).toInt := i_nle c_41
        exact g_vret C hr hlocks hP hD hS t rfl ⟨hok, hfr⟩ (Nat.le_of_ble_eq_true rfl) (Nat.le_of_ble_eq_true rfl) dX12_use_50

theorem dX12_isSign_0 : decode cX12_isSign 0 = .ok (.iload_n 0, 1) := by decide +kernel
theorem dX12_isSign_1 : decode cX12_isSign 1 = .ok (.bipush 43, 2) := by decide +kernel
theorem dX12_isSign_12 : decode cX12_isSign 12 = .ok (.iload_n 0, 1) := by decide +kernel
theorem dX12_isSign_13 : decode cX12_isSign 13 = .ok (.bipush 42, 2) := by decide +kernel
theorem dX12_isSign_15 : decode cX12_isSign 15 = .ok (.if_icmp .eq 15, 3) := by decide +kernel
theorem dX12_isSign_18 : decode cX12_isSign 18 = .ok (.iload_n 0, 1) := by decide +kernel
theorem dX12_isSign_19 : decode cX12_isSign 19 = .ok (.bipush 47, 2) := by decide +kernel
theorem dX12_isSign_21 : decode cX12_isSign 21 = .ok (.if_icmp .eq 9, 3) := by decide +kernel
theorem dX12_isSign_24 : decode cX12_isSign 24 = .ok (.iload_n 0, 1) := by decide +kernel
theorem dX12_isSign_25 : decode cX12_isSign 25 = .ok (.bipush 58, 2) := by decide +kernel
theorem dX12_isSign_27 : decode cX12_isSign 27 = .ok (.if_icmp .ne 7, 3) := by decide +kernel
theorem dX12_isSign_3 : decode cX12_isSign 3 = .ok (.if_icmp .eq 27, 3) := by decide +kernel
theorem dX12_isSign_30 : decode cX12_isSign 30 = .ok (.iconst 1, 1) := by decide +kernel
theorem dX12_isSign_31 : decode cX12_isSign 31 = .ok (.goto 4, 3) := by decide +kernel
theorem dX12_isSign_34 : decode cX12_isSign 34 = .ok (.iconst 0, 1) := by decide +kernel
theorem dX12_isSign_35 : decode cX12_isSign 35 = .ok (.ireturn, 1) := by decide +kernel
theorem dX12_isSign_6 : decode cX12_isSign 6 = .ok (.iload_n 0, 1) := by decide +kernel
theorem dX12_isSign_7 : decode cX12_isSign 7 = .ok (.bipush 45, 2) := by decide +kernel
theorem dX12_isSign_9 : decode cX12_isSign 9 = .ok (.if_icmp .eq 21, 3) := by decide +kernel
set_option maxHeartbeats 4000000 in
set_option maxRecDepth 100000 in
theorem T_X12_isSign (l : Launch) (D : va_G) (K : Nat → ClassId) (Z Y : Nat → Nat) (ad : Nat → Nat) (t : tSt) (hok : okM t) (x0 : Int32) (hx0 : (-1 : Int) ≤ x0.toInt ∧ x0.toInt ≤ 255) : tMet l yX12_isSign cX12_isSign 1 (some .boolean) (rmD 0 0 0) D K Z Y [.int x0] (WM K ad t) (QI D K (fun (r : Int32) (u : Unit) => (0 : Int) ≤ r.toInt ∧ r.toInt ≤ 1 ∧ (r.toInt = 1 → ¬ x0.toInt = -1)) (fun (_ : Unit) => WM K ad t)) 0 0 := by
  refine t_met RX12 ⟨rfl, by decide +kernel⟩ (Nat.le_of_ble_eq_true rfl) ?_
  intro p e s m below meth c A ls C hE hZ hr hlocks hA hP hD hS hl
  have hl : lv_has ls 1 [(0, .int x0)] := hl
  refine lv_iload_n C.1 C.2.1 dX12_isSign_0 rfl (lv_at hl 0 rfl) ?_
  refine lv_bipush (v := 43) C.1 C.2.1 dX12_isSign_1 (by decide) ?_
  refine lv_icmp_eq (tgt := 30) C.1 C.2.1 dX12_isSign_3 (by decide) (fun c_1 => ?_) (fun c_1 => ?_)
  · replace c_1 : x0.toInt = 43 := i_eq c_1
    refine lv_iconst (v := 1) C.1 C.2.1 dX12_isSign_30 (by decide) ?_
    refine lv_goto (tgt := 35) C.1 C.2.1 dX12_isSign_31 (by decide) ?_
    exact g_iret C hr hlocks hP hD hS (by decide) () rfl ⟨by decide, by decide, (show 1 = 1 → ¬ x0.toInt = -1 from by omega)⟩ (Nat.le_of_ble_eq_true rfl) (Nat.le_of_ble_eq_true rfl) dX12_isSign_35
  · replace c_1 : ¬ x0.toInt = 43 := i_ne c_1
    refine lv_iload_n C.1 C.2.1 dX12_isSign_6 rfl (lv_at hl 0 rfl) ?_
    refine lv_bipush (v := 45) C.1 C.2.1 dX12_isSign_7 (by decide) ?_
    refine lv_icmp_eq (tgt := 30) C.1 C.2.1 dX12_isSign_9 (by decide) (fun c_2 => ?_) (fun c_2 => ?_)
    · replace c_2 : x0.toInt = 45 := i_eq c_2
      refine lv_iconst (v := 1) C.1 C.2.1 dX12_isSign_30 (by decide) ?_
      refine lv_goto (tgt := 35) C.1 C.2.1 dX12_isSign_31 (by decide) ?_
      exact g_iret C hr hlocks hP hD hS (by decide) () rfl ⟨by decide, by decide, (show 1 = 1 → ¬ x0.toInt = -1 from by omega)⟩ (Nat.le_of_ble_eq_true rfl) (Nat.le_of_ble_eq_true rfl) dX12_isSign_35
    · replace c_2 : ¬ x0.toInt = 45 := i_ne c_2
      refine lv_iload_n C.1 C.2.1 dX12_isSign_12 rfl (lv_at hl 0 rfl) ?_
      refine lv_bipush (v := 42) C.1 C.2.1 dX12_isSign_13 (by decide) ?_
      refine lv_icmp_eq (tgt := 30) C.1 C.2.1 dX12_isSign_15 (by decide) (fun c_3 => ?_) (fun c_3 => ?_)
      · replace c_3 : x0.toInt = 42 := i_eq c_3
        refine lv_iconst (v := 1) C.1 C.2.1 dX12_isSign_30 (by decide) ?_
        refine lv_goto (tgt := 35) C.1 C.2.1 dX12_isSign_31 (by decide) ?_
        exact g_iret C hr hlocks hP hD hS (by decide) () rfl ⟨by decide, by decide, (show 1 = 1 → ¬ x0.toInt = -1 from by omega)⟩ (Nat.le_of_ble_eq_true rfl) (Nat.le_of_ble_eq_true rfl) dX12_isSign_35
      · replace c_3 : ¬ x0.toInt = 42 := i_ne c_3
        refine lv_iload_n C.1 C.2.1 dX12_isSign_18 rfl (lv_at hl 0 rfl) ?_
        refine lv_bipush (v := 47) C.1 C.2.1 dX12_isSign_19 (by decide) ?_
        refine lv_icmp_eq (tgt := 30) C.1 C.2.1 dX12_isSign_21 (by decide) (fun c_4 => ?_) (fun c_4 => ?_)
        · replace c_4 : x0.toInt = 47 := i_eq c_4
          refine lv_iconst (v := 1) C.1 C.2.1 dX12_isSign_30 (by decide) ?_
          refine lv_goto (tgt := 35) C.1 C.2.1 dX12_isSign_31 (by decide) ?_
          exact g_iret C hr hlocks hP hD hS (by decide) () rfl ⟨by decide, by decide, (show 1 = 1 → ¬ x0.toInt = -1 from by omega)⟩ (Nat.le_of_ble_eq_true rfl) (Nat.le_of_ble_eq_true rfl) dX12_isSign_35
        · replace c_4 : ¬ x0.toInt = 47 := i_ne c_4
          refine lv_iload_n C.1 C.2.1 dX12_isSign_24 rfl (lv_at hl 0 rfl) ?_
          refine lv_bipush (v := 58) C.1 C.2.1 dX12_isSign_25 (by decide) ?_
          refine lv_icmp_ne (tgt := 34) C.1 C.2.1 dX12_isSign_27 (by decide) (fun c_5 => ?_) (fun c_5 => ?_)
          · replace c_5 : ¬ x0.toInt = 58 := i_ne c_5
            refine lv_iconst (v := 0) C.1 C.2.1 dX12_isSign_34 (by decide) ?_
            exact g_iret C hr hlocks hP hD hS (by decide) () rfl ⟨by decide, by decide, (show 0 = 1 → ¬ x0.toInt = -1 from by omega)⟩ (Nat.le_of_ble_eq_true rfl) (Nat.le_of_ble_eq_true rfl) dX12_isSign_35
          · replace c_5 : x0.toInt = 58 := i_eq c_5
            refine lv_iconst (v := 1) C.1 C.2.1 dX12_isSign_30 (by decide) ?_
            refine lv_goto (tgt := 35) C.1 C.2.1 dX12_isSign_31 (by decide) ?_
            exact g_iret C hr hlocks hP hD hS (by decide) () rfl ⟨by decide, by decide, (show 1 = 1 → ¬ x0.toInt = -1 from by omega)⟩ (Nat.le_of_ble_eq_true rfl) (Nat.le_of_ble_eq_true rfl) dX12_isSign_35

theorem dX12_tellFutures_0 : decode cX12_tellFutures 0 = .ok (.iconst 0, 1) := by decide +kernel
theorem dX12_tellFutures_1 : decode cX12_tellFutures 1 = .ok (.istore_n 1, 1) := by decide +kernel
theorem dX12_tellFutures_10 : decode cX12_tellFutures 10 = .ok (.aload_n 0, 1) := by decide +kernel
theorem dX12_tellFutures_11 : decode cX12_tellFutures 11 = .ok (.getfield 110, 3) := by decide +kernel
theorem dX12_tellFutures_14 : decode cX12_tellFutures 14 = .ok (.iload_n 1, 1) := by decide +kernel
theorem dX12_tellFutures_15 : decode cX12_tellFutures 15 = .ok (.iaload, 1) := by decide +kernel
theorem dX12_tellFutures_16 : decode cX12_tellFutures 16 = .ok (.ifCond .ne 41, 3) := by decide +kernel
theorem dX12_tellFutures_19 : decode cX12_tellFutures 19 = .ok (.aload_n 0, 1) := by decide +kernel
theorem dX12_tellFutures_2 : decode cX12_tellFutures 2 = .ok (.iload_n 1, 1) := by decide +kernel
theorem dX12_tellFutures_20 : decode cX12_tellFutures 20 = .ok (.getfield 95, 3) := by decide +kernel
theorem dX12_tellFutures_23 : decode cX12_tellFutures 23 = .ok (.aload_n 0, 1) := by decide +kernel
theorem dX12_tellFutures_24 : decode cX12_tellFutures 24 = .ok (.getfield 113, 3) := by decide +kernel
theorem dX12_tellFutures_27 : decode cX12_tellFutures 27 = .ok (.iload_n 1, 1) := by decide +kernel
theorem dX12_tellFutures_28 : decode cX12_tellFutures 28 = .ok (.iaload, 1) := by decide +kernel
theorem dX12_tellFutures_29 : decode cX12_tellFutures 29 = .ok (.baload, 1) := by decide +kernel
theorem dX12_tellFutures_3 : decode cX12_tellFutures 3 = .ok (.aload_n 0, 1) := by decide +kernel
theorem dX12_tellFutures_30 : decode cX12_tellFutures 30 = .ok (.ifCond .eq 27, 3) := by decide +kernel
theorem dX12_tellFutures_33 : decode cX12_tellFutures 33 = .ok (.aload_n 0, 1) := by decide +kernel
theorem dX12_tellFutures_34 : decode cX12_tellFutures 34 = .ok (.getfield 122, 3) := by decide +kernel
theorem dX12_tellFutures_37 : decode cX12_tellFutures 37 = .ok (.iload_n 1, 1) := by decide +kernel
theorem dX12_tellFutures_38 : decode cX12_tellFutures 38 = .ok (.aload_n 0, 1) := by decide +kernel
theorem dX12_tellFutures_39 : decode cX12_tellFutures 39 = .ok (.getfield 92, 3) := by decide +kernel
theorem dX12_tellFutures_4 : decode cX12_tellFutures 4 = .ok (.getfield 572, 3) := by decide +kernel
theorem dX12_tellFutures_42 : decode cX12_tellFutures 42 = .ok (.aload_n 0, 1) := by decide +kernel
theorem dX12_tellFutures_43 : decode cX12_tellFutures 43 = .ok (.getfield 113, 3) := by decide +kernel
theorem dX12_tellFutures_46 : decode cX12_tellFutures 46 = .ok (.iload_n 1, 1) := by decide +kernel
theorem dX12_tellFutures_47 : decode cX12_tellFutures 47 = .ok (.iaload, 1) := by decide +kernel
theorem dX12_tellFutures_48 : decode cX12_tellFutures 48 = .ok (.iaload, 1) := by decide +kernel
theorem dX12_tellFutures_49 : decode cX12_tellFutures 49 = .ok (.iastore, 1) := by decide +kernel
theorem dX12_tellFutures_50 : decode cX12_tellFutures 50 = .ok (.aload_n 0, 1) := by decide +kernel
theorem dX12_tellFutures_51 : decode cX12_tellFutures 51 = .ok (.getfield 125, 3) := by decide +kernel
theorem dX12_tellFutures_54 : decode cX12_tellFutures 54 = .ok (.iload_n 1, 1) := by decide +kernel
theorem dX12_tellFutures_55 : decode cX12_tellFutures 55 = .ok (.iconst 1, 1) := by decide +kernel
theorem dX12_tellFutures_56 : decode cX12_tellFutures 56 = .ok (.bastore, 1) := by decide +kernel
theorem dX12_tellFutures_57 : decode cX12_tellFutures 57 = .ok (.aload_n 0, 1) := by decide +kernel
theorem dX12_tellFutures_58 : decode cX12_tellFutures 58 = .ok (.getfield 125, 3) := by decide +kernel
theorem dX12_tellFutures_61 : decode cX12_tellFutures 61 = .ok (.iload_n 1, 1) := by decide +kernel
theorem dX12_tellFutures_62 : decode cX12_tellFutures 62 = .ok (.baload, 1) := by decide +kernel
theorem dX12_tellFutures_63 : decode cX12_tellFutures 63 = .ok (.ifCond .eq 23, 3) := by decide +kernel
theorem dX12_tellFutures_66 : decode cX12_tellFutures 66 = .ok (.aload_n 0, 1) := by decide +kernel
theorem dX12_tellFutures_67 : decode cX12_tellFutures 67 = .ok (.getfield 122, 3) := by decide +kernel
theorem dX12_tellFutures_7 : decode cX12_tellFutures 7 = .ok (.if_icmp .ge 85, 3) := by decide +kernel
theorem dX12_tellFutures_70 : decode cX12_tellFutures 70 = .ok (.iload_n 1, 1) := by decide +kernel
theorem dX12_tellFutures_71 : decode cX12_tellFutures 71 = .ok (.iaload, 1) := by decide +kernel
theorem dX12_tellFutures_72 : decode cX12_tellFutures 72 = .ok (.ldc 159, 2) := by decide +kernel
theorem dX12_tellFutures_74 : decode cX12_tellFutures 74 = .ok (.iand, 1) := by decide +kernel
theorem dX12_tellFutures_75 : decode cX12_tellFutures 75 = .ok (.sipush 4095, 3) := by decide +kernel
theorem dX12_tellFutures_78 : decode cX12_tellFutures 78 = .ok (.if_icmp .le 8, 3) := by decide +kernel
theorem dX12_tellFutures_81 : decode cX12_tellFutures 81 = .ok (.aload_n 0, 1) := by decide +kernel
theorem dX12_tellFutures_82 : decode cX12_tellFutures 82 = .ok (.iconst 5, 1) := by decide +kernel
theorem dX12_tellFutures_83 : decode cX12_tellFutures 83 = .ok (.invokevirtual 478, 3) := by decide +kernel
theorem dX12_tellFutures_86 : decode cX12_tellFutures 86 = .ok (.iinc 1 1, 3) := by decide +kernel
theorem dX12_tellFutures_89 : decode cX12_tellFutures 89 = .ok (.goto (-87), 3) := by decide +kernel
theorem dX12_tellFutures_92 : decode cX12_tellFutures 92 = .ok (.return_, 1) := by decide +kernel
set_option maxHeartbeats 4000000 in
set_option maxRecDepth 100000 in
theorem T_X12_tellFutures (l : Launch) (D : va_G) (K : Nat → ClassId) (Z Y : Nat → Nat) (ad : Nat → Nat) (t : tSt) (hok : okM t)  : tMet l yX12_tellFutures cX12_tellFutures 2 none (rmD 1 0 0) D K Z Y [.ref (ad 0)] (WM K ad t) (QV D K (fun (u : tSt) => okM u ∧ frA [(0, 70)] [] [34, 35] [] t u) (fun (u : tSt) => WM K ad u)) 0 0 := by
  refine t_met RX12 ⟨rfl, by decide +kernel⟩ (Nat.le_of_ble_eq_true rfl) ?_
  intro p e s m below meth c A ls C hE hZ hr hlocks hA hP hD hS hl
  have hl : lv_has ls 2 [(0, .ref (ad 0))] := hl
  have hokt := hok
  have hfr : frA [(0, 70)] [] [34, 35] [] t t := frA_rf
  have h_1 : (0 : Int) ≤ (t.1 0 70).toInt ∧ (t.1 0 70).toInt ≤ 8 := hok.1 0 70
  have L_2 : ∀ (fuel_2 : Nat) (t1 : tSt) (w2_1 : Int32) (H : Heap) (locs : List Loc) (ls : Array Slot), okM t1 → frA [(0, 70)] [] [34, 35] [] t t1 → (0 : Int) ≤ w2_1.toInt ∧ w2_1.toInt ≤ 1260 → (1260 : Int) - w2_1.toInt < (fuel_2 : Int) → va_P D vwCl (WM K ad t1) H → va_D A (WM K ad t1) → va_S A s.heap H locs → lv_has ls 2 [(0, .ref (ad 0)), (1, .int w2_1)] → W p l e (rmD 1 0 0) s m [.ref (ad 0)].toArray below meth c H locs 0 0 (MQ below (QV D K (fun (u : tSt) => okM u ∧ frA [(0, 70)] [] [34, 35] [] t u) (fun (u : tSt) => WM K ad u) A) [.ref (ad 0)].toArray s 0 0 A) (F0 m 2 ls []) := by
    intro fuel_2
    induction fuel_2 with
    | zero =>
      intro t1 w2_1 H locs ls hok hfr hw2_1 hm2_2 hP hD hS hl
      have h_2 : (0 : Int) ≤ (t1.1 0 70).toInt ∧ (t1.1 0 70).toInt ≤ 8 := hok.1 0 70
      exact absurd hm2_2 (by omega)
    | succ fuel_2 ih_2 =>
      intro t1 w2_1 H locs ls hok hfr hw2_1 hm2_2 hP hD hS hl
      have hm2_2 : (1260 : Int) - w2_1.toInt < (fuel_2 : Int) + 1 := by omega
      have h_3 : (0 : Int) ≤ (t1.1 0 70).toInt ∧ (t1.1 0 70).toInt ≤ 8 := hok.1 0 70
      have L_86 : ∀ (t1 : tSt) (w86_1 : Int32) (H : Heap) (locs : List Loc) (ls : Array Slot), okM t1 → frA [(0, 70)] [] [34, 35] [] t t1 → (0 : Int) ≤ w86_1.toInt ∧ w86_1.toInt ≤ 1199 → (1 : Int) ≤ (t1.1 0 60).toInt ∧ (t1.1 0 60).toInt ≤ 1200 → (1260 : Int) - w86_1.toInt < (fuel_2 : Int) + 1 → va_P D vwCl (WM K ad t1) H → va_D A (WM K ad t1) → va_S A s.heap H locs → lv_has ls 2 [(0, .ref (ad 0)), (1, .int w86_1)] → W p l e (rmD 1 0 0) s m [.ref (ad 0)].toArray below meth c H locs 0 0 (MQ below (QV D K (fun (u : tSt) => okM u ∧ frA [(0, 70)] [] [34, 35] [] t u) (fun (u : tSt) => WM K ad u) A) [.ref (ad 0)].toArray s 0 0 A) (F0 m 86 ls []) := by
        intro t1 w86_1 H locs ls hok hfr hw86_1 hf86_60 hm86_2 hP hD hS hl
        have h_4 : (0 : Int) ≤ (t1.1 0 70).toInt ∧ (t1.1 0 70).toInt ≤ 8 := hok.1 0 70
        obtain ⟨v_5, e_6⟩ : ∃ z, z = w86_1 + 1 := ⟨_, rfl⟩
        have h_7 : v_5.toInt = w86_1.toInt + 1 := by rw [e_6]; exact ti_iadd (by show (_ : Int) ≤ w86_1.toInt + 1; omega) (by show w86_1.toInt + 1 < (_ : Int); omega)
        refine lv_iinc (v := v_5) (lv' := [(1, .int v_5), (0, .ref (ad 0))]) C.1 C.2.1 dX12_tellFutures_86 hl (k := 1) rfl e_6.symm (by decide) rfl (fun ls hl => ?_)
        have hl : lv_has ls 2 [(0, .ref (ad 0)), (1, .int v_5)] := lv_sub hl [1, 0] rfl
        refine lv_goto (tgt := 2) C.1 C.2.1 dX12_tellFutures_89 (by decide) ?_
        exact ih_2 t1 v_5 _ _ _ hok hfr ⟨by omega, by omega⟩ (show (1260 : Int) - v_5.toInt < (fuel_2 : Int) from by omega) hP hD hS (lv_sub hl [0, 1] rfl)
      have L_57 : ∀ (t1 : tSt) (w57_1 : Int32) (H : Heap) (locs : List Loc) (ls : Array Slot), okM t1 → frA [(0, 70)] [] [34, 35] [] t t1 → (0 : Int) ≤ w57_1.toInt ∧ w57_1.toInt ≤ 1199 → (1 : Int) ≤ (t1.1 0 60).toInt ∧ (t1.1 0 60).toInt ≤ 1200 → (1260 : Int) - w57_1.toInt < (fuel_2 : Int) + 1 → va_P D vwCl (WM K ad t1) H → va_D A (WM K ad t1) → va_S A s.heap H locs → lv_has ls 2 [(0, .ref (ad 0)), (1, .int w57_1)] → W p l e (rmD 1 0 0) s m [.ref (ad 0)].toArray below meth c H locs 0 0 (MQ below (QV D K (fun (u : tSt) => okM u ∧ frA [(0, 70)] [] [34, 35] [] t u) (fun (u : tSt) => WM K ad u) A) [.ref (ad 0)].toArray s 0 0 A) (F0 m 57 ls []) := by
        intro t1 w57_1 H locs ls hok hfr hw57_1 hf57_60 hm57_2 hP hD hS hl
        have h_8 : (0 : Int) ≤ (t1.1 0 70).toInt ∧ (t1.1 0 70).toInt ≤ 8 := hok.1 0 70
        refine lv_aload_n C.1 C.2.1 dX12_tellFutures_57 rfl (lv_at hl 0 rfl) ?_
        refine k_get (v := .ref (ad 35)) C hP 0 rfl rfl inlX12 66 (by decide) m_8_19 rfl dX12_tellFutures_58 ?_
        refine lv_iload_n C.1 C.2.1 dX12_tellFutures_61 rfl (lv_at hl 1 rfl) ?_
        obtain ⟨v_9, e_10⟩ : ∃ z, z = (t1.2.2.1 35 (w57_1 : Int32).toNatClampNeg) := ⟨_, rfl⟩
        have h_11 : (0 : Int) ≤ v_9.toInt ∧ v_9.toInt ≤ 1 := by rw [e_10]; exact hok.2.1 35 _
        refine k_zld (v := v_9) C hP 35 rfl (vp_in_iff.mpr ⟨by omega, by omega⟩) e_10.symm dX12_tellFutures_62 ?_
        refine lv_if_eq (tgt := 86) C.1 C.2.1 dX12_tellFutures_63 (by decide) (fun c_12 => ?_) (fun c_12 => ?_)
        · replace c_12 : v_9.toInt = 0 := i_eq c_12
          exact L_86 t1 w57_1 _ _ _ hok hfr ⟨by omega, by omega⟩ (show (1 : Int) ≤ ((t1.1 0 60) : Int32).toInt ∧ ((t1.1 0 60) : Int32).toInt ≤ 1200 from ⟨by omega, by omega⟩) (show (1260 : Int) - w57_1.toInt < (fuel_2 : Int) + 1 from by omega) hP hD hS (lv_sub hl [0, 1] rfl)
        · replace c_12 : ¬ v_9.toInt = 0 := i_ne c_12
          refine lv_aload_n C.1 C.2.1 dX12_tellFutures_66 rfl (lv_at hl 0 rfl) ?_
          refine k_get (v := .ref (ad 34)) C hP 0 rfl rfl inlX12 65 (by decide) m_8_18 rfl dX12_tellFutures_67 ?_
          refine lv_iload_n C.1 C.2.1 dX12_tellFutures_70 rfl (lv_at hl 1 rfl) ?_
          obtain ⟨v_13, e_14⟩ : ∃ z, z = (t1.2.2.1 34 (w57_1 : Int32).toNatClampNeg) := ⟨_, rfl⟩
          refine k_ild (v := v_13) C hP 34 rfl (vp_in_iff.mpr ⟨by omega, by omega⟩) e_14.symm dX12_tellFutures_71 ?_
          refine lv_ldc (v := 1073741823) C.1 C.2.1 C.2.2.2.1 (C.2.2.2.2.1 _ m_36_12) dX12_tellFutures_72 ?_
          obtain ⟨v_15, e_16⟩ : ∃ z, z = (v_13 : Int32) &&& (1073741823 : Int32) := ⟨_, rfl⟩
          have h_17 : v_15.toInt = v_13.toInt % 2 ^ 30 := by rw [e_16]; exact Jvm.Kit.i32_mask _ _ (k := 30) (by decide) (by decide)
          refine k_iand (v := v_15) C e_16.symm dX12_tellFutures_74 ?_
          refine lv_sipush (v := 4095) C.1 C.2.1 dX12_tellFutures_75 (by decide) ?_
          refine lv_icmp_le (tgt := 86) C.1 C.2.1 dX12_tellFutures_78 (by decide) (fun c_18 => ?_) (fun c_18 => ?_)
          · replace c_18 : v_15.toInt ≤ 4095 := i_le c_18
            exact L_86 t1 w57_1 _ _ _ hok hfr ⟨by omega, by omega⟩ (show (1 : Int) ≤ ((t1.1 0 60) : Int32).toInt ∧ ((t1.1 0 60) : Int32).toInt ≤ 1200 from ⟨by omega, by omega⟩) (show (1260 : Int) - w57_1.toInt < (fuel_2 : Int) + 1 from by omega) hP hD hS (lv_sub hl [0, 1] rfl)
          · replace c_18 : 4095 < v_15.toInt := i_nle c_18
            refine lv_aload_n C.1 C.2.1 dX12_tellFutures_81 rfl (lv_at hl 0 rfl) ?_
            refine lv_iconst (v := 5) C.1 C.2.1 dX12_tellFutures_82 (by decide) ?_
            have h_19 : (5 : Int32).toInt = 5 := rfl
            refine g_Vv (As := [.int 5]) (rest := []) C hP hD hS hA (T_X12_fail l D K Z Y ad t1 hok 5 (show (1 : Int) ≤ (5 : Int32).toInt ∧ (5 : Int32).toInt ≤ 8 from ⟨by decide, by decide⟩) (show 1 ≤ (5 : Int32).toInt from by omega)) hE hZ (uwV m_32_22 m_32_23 m_33_0 m_1_5 m_33_1) (hdV 1 (by decide +kernel) rfl) ⟨Nat.le_of_ble_eq_true rfl, Nat.le_of_ble_eq_true rfl⟩ rfl rfl (ci := 11) (q0 := 0) rfl rfl rfl hl.1 (Nat.le_of_ble_eq_true rfl) dX12_tellFutures_83 ⟨Nat.le_of_ble_eq_true rfl, Nat.le_of_ble_eq_true rfl⟩ (fun t_20 H locs hw hP hD hS => ?_)
            obtain ⟨hok, f_22, p_23⟩ := hw
            have hfr : frA [(0, 70)] [] [34, 35] [] t t_20 := frA_tr hfr f_22 rfl
            have h_24 : (t_20.1 0 60).toInt = (t1.1 0 60).toInt := ti_eq (f_22.1 0 60 rfl)
            have h_25 : (0 : Int) ≤ (t_20.1 0 70).toInt ∧ (t_20.1 0 70).toInt ≤ 8 := hok.1 0 70
            replace p_23 : 1 ≤ (t_20.1 0 70).toInt := p_23
            exact L_86 t_20 w57_1 _ _ _ hok hfr ⟨by omega, by omega⟩ (show (1 : Int) ≤ ((t_20.1 0 60) : Int32).toInt ∧ ((t_20.1 0 60) : Int32).toInt ≤ 1200 from ⟨by omega, by omega⟩) (show (1260 : Int) - w57_1.toInt < (fuel_2 : Int) + 1 from by omega) hP hD hS (lv_sub hl [0, 1] rfl)
      refine lv_iload_n C.1 C.2.1 dX12_tellFutures_2 rfl (lv_at hl 1 rfl) ?_
      refine lv_aload_n C.1 C.2.1 dX12_tellFutures_3 rfl (lv_at hl 0 rfl) ?_
      have h_26 : (0 : Int) ≤ (t1.1 0 60).toInt ∧ (t1.1 0 60).toInt ≤ 1200 := hok.1 0 60
      refine k_get (v := .int (t1.1 0 60)) C hP 0 rfl rfl inlX12 60 (by decide) m_30_18 rfl dX12_tellFutures_4 ?_
      refine lv_icmp_ge (tgt := 92) C.1 C.2.1 dX12_tellFutures_7 (by decide) (fun c_27 => ?_) (fun c_27 => ?_)
      · replace c_27 : (t1.1 0 60).toInt ≤ w2_1.toInt := i_le c_27
        exact g_vret C hr hlocks hP hD hS t1 rfl ⟨hok, hfr⟩ (Nat.le_of_ble_eq_true rfl) (Nat.le_of_ble_eq_true rfl) dX12_tellFutures_92
      · replace c_27 : w2_1.toInt < (t1.1 0 60).toInt := i_nle c_27
        refine lv_aload_n C.1 C.2.1 dX12_tellFutures_10 rfl (lv_at hl 0 rfl) ?_
        refine k_get (v := .ref (ad 30)) C hP 0 rfl rfl inlX12 61 (by decide) m_8_14 rfl dX12_tellFutures_11 ?_
        refine lv_iload_n C.1 C.2.1 dX12_tellFutures_14 rfl (lv_at hl 1 rfl) ?_
        obtain ⟨v_28, e_29⟩ : ∃ z, z = (t1.2.2.1 30 (w2_1 : Int32).toNatClampNeg) := ⟨_, rfl⟩
        have h_30 : (-1 : Int) ≤ v_28.toInt ∧ v_28.toInt ≤ 2 := by rw [e_29]; exact hok.2.1 30 _
        refine k_ild (v := v_28) C hP 30 rfl (vp_in_iff.mpr ⟨by omega, by omega⟩) e_29.symm dX12_tellFutures_15 ?_
        refine lv_if_ne (tgt := 57) C.1 C.2.1 dX12_tellFutures_16 (by decide) (fun c_31 => ?_) (fun c_31 => ?_)
        · replace c_31 : ¬ v_28.toInt = 0 := i_ne c_31
          exact L_57 t1 w2_1 _ _ _ hok hfr ⟨by omega, by omega⟩ (show (1 : Int) ≤ ((t1.1 0 60) : Int32).toInt ∧ ((t1.1 0 60) : Int32).toInt ≤ 1200 from ⟨by omega, by omega⟩) (show (1260 : Int) - w2_1.toInt < (fuel_2 : Int) + 1 from by omega) hP hD hS (lv_sub hl [0, 1] rfl)
        · replace c_31 : v_28.toInt = 0 := i_eq c_31
          refine lv_aload_n C.1 C.2.1 dX12_tellFutures_19 rfl (lv_at hl 0 rfl) ?_
          refine k_get (v := .ref (ad 25)) C hP 0 rfl rfl inlX12 55 (by decide) m_8_9 rfl dX12_tellFutures_20 ?_
          refine lv_aload_n C.1 C.2.1 dX12_tellFutures_23 rfl (lv_at hl 0 rfl) ?_
          refine k_get (v := .ref (ad 31)) C hP 0 rfl rfl inlX12 62 (by decide) m_8_15 rfl dX12_tellFutures_24 ?_
          refine lv_iload_n C.1 C.2.1 dX12_tellFutures_27 rfl (lv_at hl 1 rfl) ?_
          obtain ⟨v_32, e_33⟩ : ∃ z, z = (t1.2.2.1 31 (w2_1 : Int32).toNatClampNeg) := ⟨_, rfl⟩
          have h_34 : (0 : Int) ≤ v_32.toInt ∧ v_32.toInt ≤ 1199 := by rw [e_33]; exact hok.2.1 31 _
          refine k_ild (v := v_32) C hP 31 rfl (vp_in_iff.mpr ⟨by omega, by omega⟩) e_33.symm dX12_tellFutures_28 ?_
          obtain ⟨v_35, e_36⟩ : ∃ z, z = (t1.2.2.1 25 (v_32 : Int32).toNatClampNeg) := ⟨_, rfl⟩
          have h_37 : (0 : Int) ≤ v_35.toInt ∧ v_35.toInt ≤ 1 := by rw [e_36]; exact hok.2.1 25 _
          refine k_zld (v := v_35) C hP 25 rfl (vp_in_iff.mpr ⟨by omega, by omega⟩) e_36.symm dX12_tellFutures_29 ?_
          refine lv_if_eq (tgt := 57) C.1 C.2.1 dX12_tellFutures_30 (by decide) (fun c_38 => ?_) (fun c_38 => ?_)
          · replace c_38 : v_35.toInt = 0 := i_eq c_38
            exact L_57 t1 w2_1 _ _ _ hok hfr ⟨by omega, by omega⟩ (show (1 : Int) ≤ ((t1.1 0 60) : Int32).toInt ∧ ((t1.1 0 60) : Int32).toInt ≤ 1200 from ⟨by omega, by omega⟩) (show (1260 : Int) - w2_1.toInt < (fuel_2 : Int) + 1 from by omega) hP hD hS (lv_sub hl [0, 1] rfl)
          · replace c_38 : ¬ v_35.toInt = 0 := i_ne c_38
            refine lv_aload_n C.1 C.2.1 dX12_tellFutures_33 rfl (lv_at hl 0 rfl) ?_
            refine k_get (v := .ref (ad 34)) C hP 0 rfl rfl inlX12 65 (by decide) m_8_18 rfl dX12_tellFutures_34 ?_
            refine lv_iload_n C.1 C.2.1 dX12_tellFutures_37 rfl (lv_at hl 1 rfl) ?_
            refine lv_aload_n C.1 C.2.1 dX12_tellFutures_38 rfl (lv_at hl 0 rfl) ?_
            refine k_get (v := .ref (ad 24)) C hP 0 rfl rfl inlX12 54 (by decide) m_8_8 rfl dX12_tellFutures_39 ?_
            refine lv_aload_n C.1 C.2.1 dX12_tellFutures_42 rfl (lv_at hl 0 rfl) ?_
            refine k_get (v := .ref (ad 31)) C hP 0 rfl rfl inlX12 62 (by decide) m_8_15 rfl dX12_tellFutures_43 ?_
            refine lv_iload_n C.1 C.2.1 dX12_tellFutures_46 rfl (lv_at hl 1 rfl) ?_
            obtain ⟨v_39, e_40⟩ : ∃ z, z = (t1.2.2.1 31 (w2_1 : Int32).toNatClampNeg) := ⟨_, rfl⟩
            have h_41 : (0 : Int) ≤ v_39.toInt ∧ v_39.toInt ≤ 1199 := by rw [e_40]; exact hok.2.1 31 _
            refine k_ild (v := v_39) C hP 31 rfl (vp_in_iff.mpr ⟨by omega, by omega⟩) e_40.symm dX12_tellFutures_47 ?_
            obtain ⟨v_42, e_43⟩ : ∃ z, z = (t1.2.2.1 24 (v_39 : Int32).toNatClampNeg) := ⟨_, rfl⟩
            refine k_ild (v := v_42) C hP 24 rfl (vp_in_iff.mpr ⟨by omega, by omega⟩) e_43.symm dX12_tellFutures_48 ?_
            refine k_ist (ws' := WM K ad (uB t1 34 (w2_1 : Int32).toNatClampNeg v_42)) (x' := v_42) C hP hD hS 34 rfl (vp_in_iff.mpr ⟨by omega, by omega⟩) rfl rfl rfl dX12_tellFutures_49 (fun H locs hP hD hS => ?_)
            have hok : okM (uB t1 34 (w2_1 : Int32).toNatClampNeg v_42) := ⟨hok.1, okB_B hok.2.1 34 _ v_42 (show (-2147483648 : Int) ≤ (v_42 : Int32).toInt ∧ (v_42 : Int32).toInt ≤ 2147483647 from (i_rng _)), hok.2.2.1, hok.2.2.2.1, hok.2.2.2.2.1, hok.2.2.2.2.2.1, hok.2.2.2.2.2.2.1, trivial⟩
            have hfr : frA [(0, 70)] [] [34, 35] [] t (uB t1 34 (w2_1 : Int32).toNatClampNeg v_42) := frA_B hfr 34 _ _ rfl
            refine lv_aload_n C.1 C.2.1 dX12_tellFutures_50 rfl (lv_at hl 0 rfl) ?_
            refine k_get (v := .ref (ad 35)) C hP 0 rfl rfl inlX12 66 (by decide) m_8_19 rfl dX12_tellFutures_51 ?_
            refine lv_iload_n C.1 C.2.1 dX12_tellFutures_54 rfl (lv_at hl 1 rfl) ?_
            refine lv_iconst (v := 1) C.1 C.2.1 dX12_tellFutures_55 (by decide) ?_
            obtain ⟨t_44, e_45⟩ : ∃ z, z = (uB t1 34 (w2_1 : Int32).toNatClampNeg v_42) := ⟨_, rfl⟩
            rw [← e_45] at hP hD hok hfr
            have h_46 : (t_44.1 0 60).toInt = ((t1.1 0 60) : Int32).toInt := by rw [e_45]; rfl
            have h_47 : (t_44.1 0 70).toInt = (t1.1 0 70).toInt := by rw [e_45]; rfl
            obtain ⟨v_48, e_49⟩ : ∃ z, z = vp_nar .boolean 1 := ⟨_, rfl⟩
            have h_50 : (0 : Int) ≤ v_48.toInt ∧ v_48.toInt ≤ 1 := by rw [e_49]; exact nar_boolean _
            refine k_zst (ws' := WM K ad (uB t_44 35 (w2_1 : Int32).toNatClampNeg v_48)) (x' := v_48) C hP hD hS 35 rfl (vp_in_iff.mpr ⟨by omega, by omega⟩) rfl e_49.symm rfl dX12_tellFutures_56 (fun H locs hP hD hS => ?_)
            have hok : okM (uB t_44 35 (w2_1 : Int32).toNatClampNeg v_48) := ⟨hok.1, okB_B hok.2.1 35 _ v_48 (show (0 : Int) ≤ (v_48 : Int32).toInt ∧ (v_48 : Int32).toInt ≤ 1 from ⟨by omega, by omega⟩), hok.2.2.1, hok.2.2.2.1, hok.2.2.2.2.1, hok.2.2.2.2.2.1, hok.2.2.2.2.2.2.1, trivial⟩
            have hfr : frA [(0, 70)] [] [34, 35] [] t (uB t_44 35 (w2_1 : Int32).toNatClampNeg v_48) := frA_B hfr 35 _ _ rfl
            exact L_57 (uB t_44 35 (w2_1 : Int32).toNatClampNeg v_48) w2_1 _ _ _ hok hfr ⟨by omega, by omega⟩ (show (1 : Int) ≤ ((t_44.1 0 60) : Int32).toInt ∧ ((t_44.1 0 60) : Int32).toInt ≤ 1200 from ⟨by omega, by omega⟩) (show (1260 : Int) - w2_1.toInt < (fuel_2 : Int) + 1 from by omega) hP hD hS (lv_sub hl [0, 1] rfl)
  refine lv_iconst (v := 0) C.1 C.2.1 dX12_tellFutures_0 (by decide) ?_
  refine lv_istore_n (lv' := [(1, .int 0), (0, .ref (ad 0))]) C.1 C.2.1 dX12_tellFutures_1 rfl hl (by decide) rfl (fun ls hl => ?_)
  have hl : lv_has ls 2 [(0, .ref (ad 0)), (1, .int 0)] := lv_sub hl [1, 0] rfl
  exact L_2 1261 t 0 _ _ _ hok hfr ⟨by decide, by decide⟩ (show (1260 : Int) - 0 < ((1261 : Nat) : Int) from by omega) hP hD hS (lv_sub hl [0, 1] rfl)

theorem dX12_sayKey_0 : decode cX12_sayKey 0 = .ok (.lconst 1, 1) := by decide +kernel
theorem dX12_sayKey_1 : decode cX12_sayKey 1 = .ok (.lstore_n 3, 1) := by decide +kernel
theorem dX12_sayKey_12 : decode cX12_sayKey 12 = .ok (.ldc2_w 458, 3) := by decide +kernel
theorem dX12_sayKey_15 : decode cX12_sayKey 15 = .ok (.lload_n 3, 1) := by decide +kernel
theorem dX12_sayKey_16 : decode cX12_sayKey 16 = .ok (.lmul, 1) := by decide +kernel
theorem dX12_sayKey_17 : decode cX12_sayKey 17 = .ok (.lstore_n 3, 1) := by decide +kernel
theorem dX12_sayKey_18 : decode cX12_sayKey 18 = .ok (.iinc 5 1, 3) := by decide +kernel
theorem dX12_sayKey_2 : decode cX12_sayKey 2 = .ok (.iconst 0, 1) := by decide +kernel
theorem dX12_sayKey_21 : decode cX12_sayKey 21 = .ok (.goto (-16), 3) := by decide +kernel
theorem dX12_sayKey_24 : decode cX12_sayKey 24 = .ok (.iconst 0, 1) := by decide +kernel
theorem dX12_sayKey_25 : decode cX12_sayKey 25 = .ok (.istore 5, 2) := by decide +kernel
theorem dX12_sayKey_27 : decode cX12_sayKey 27 = .ok (.iload 5, 2) := by decide +kernel
theorem dX12_sayKey_29 : decode cX12_sayKey 29 = .ok (.bipush 10, 2) := by decide +kernel
theorem dX12_sayKey_3 : decode cX12_sayKey 3 = .ok (.istore 5, 2) := by decide +kernel
theorem dX12_sayKey_31 : decode cX12_sayKey 31 = .ok (.if_icmp .ge 59, 3) := by decide +kernel
theorem dX12_sayKey_34 : decode cX12_sayKey 34 = .ok (.lload_n 1, 1) := by decide +kernel
theorem dX12_sayKey_35 : decode cX12_sayKey 35 = .ok (.lload_n 3, 1) := by decide +kernel
theorem dX12_sayKey_36 : decode cX12_sayKey 36 = .ok (.ldiv, 1) := by decide +kernel
theorem dX12_sayKey_37 : decode cX12_sayKey 37 = .ok (.ldc2_w 458, 3) := by decide +kernel
theorem dX12_sayKey_40 : decode cX12_sayKey 40 = .ok (.lrem, 1) := by decide +kernel
theorem dX12_sayKey_41 : decode cX12_sayKey 41 = .ok (.l2i, 1) := by decide +kernel
theorem dX12_sayKey_42 : decode cX12_sayKey 42 = .ok (.istore 6, 2) := by decide +kernel
theorem dX12_sayKey_44 : decode cX12_sayKey 44 = .ok (.iload 6, 2) := by decide +kernel
theorem dX12_sayKey_46 : decode cX12_sayKey 46 = .ok (.ifCond .le 32, 3) := by decide +kernel
theorem dX12_sayKey_49 : decode cX12_sayKey 49 = .ok (.aload_n 0, 1) := by decide +kernel
theorem dX12_sayKey_5 : decode cX12_sayKey 5 = .ok (.iload 5, 2) := by decide +kernel
theorem dX12_sayKey_50 : decode cX12_sayKey 50 = .ok (.iload 6, 2) := by decide +kernel
theorem dX12_sayKey_52 : decode cX12_sayKey 52 = .ok (.bipush 11, 2) := by decide +kernel
theorem dX12_sayKey_54 : decode cX12_sayKey 54 = .ok (.if_icmp .ge 13, 3) := by decide +kernel
theorem dX12_sayKey_57 : decode cX12_sayKey 57 = .ok (.bipush 48, 2) := by decide +kernel
theorem dX12_sayKey_59 : decode cX12_sayKey 59 = .ok (.iload 6, 2) := by decide +kernel
theorem dX12_sayKey_61 : decode cX12_sayKey 61 = .ok (.iadd, 1) := by decide +kernel
theorem dX12_sayKey_62 : decode cX12_sayKey 62 = .ok (.iconst 1, 1) := by decide +kernel
theorem dX12_sayKey_63 : decode cX12_sayKey 63 = .ok (.isub, 1) := by decide +kernel
theorem dX12_sayKey_64 : decode cX12_sayKey 64 = .ok (.goto 11, 3) := by decide +kernel
theorem dX12_sayKey_67 : decode cX12_sayKey 67 = .ok (.bipush 65, 2) := by decide +kernel
theorem dX12_sayKey_69 : decode cX12_sayKey 69 = .ok (.iload 6, 2) := by decide +kernel
theorem dX12_sayKey_7 : decode cX12_sayKey 7 = .ok (.bipush 9, 2) := by decide +kernel
theorem dX12_sayKey_71 : decode cX12_sayKey 71 = .ok (.iadd, 1) := by decide +kernel
theorem dX12_sayKey_72 : decode cX12_sayKey 72 = .ok (.bipush 11, 2) := by decide +kernel
theorem dX12_sayKey_74 : decode cX12_sayKey 74 = .ok (.isub, 1) := by decide +kernel
theorem dX12_sayKey_75 : decode cX12_sayKey 75 = .ok (.invokevirtual 189, 3) := by decide +kernel
theorem dX12_sayKey_78 : decode cX12_sayKey 78 = .ok (.lload_n 3, 1) := by decide +kernel
theorem dX12_sayKey_79 : decode cX12_sayKey 79 = .ok (.ldc2_w 458, 3) := by decide +kernel
theorem dX12_sayKey_82 : decode cX12_sayKey 82 = .ok (.ldiv, 1) := by decide +kernel
theorem dX12_sayKey_83 : decode cX12_sayKey 83 = .ok (.lstore_n 3, 1) := by decide +kernel
theorem dX12_sayKey_84 : decode cX12_sayKey 84 = .ok (.iinc 5 1, 3) := by decide +kernel
theorem dX12_sayKey_87 : decode cX12_sayKey 87 = .ok (.goto (-60), 3) := by decide +kernel
theorem dX12_sayKey_9 : decode cX12_sayKey 9 = .ok (.if_icmp .ge 15, 3) := by decide +kernel
theorem dX12_sayKey_90 : decode cX12_sayKey 90 = .ok (.return_, 1) := by decide +kernel
set_option maxHeartbeats 4000000 in
set_option maxRecDepth 100000 in
theorem T_X12_sayKey (l : Launch) (D : va_G) (K : Nat → ClassId) (Z Y : Nat → Nat) (ad : Nat → Nat) (t : tSt) (hok : okM t) (x1 : Int64) (hs0 : (t.1 0 30).toInt ≤ 100) : tMet l yX12_sayKey cX12_sayKey 7 none (rmD 1 0 0) D K Z Y [.ref (ad 0), .long x1] (WM K ad t) (QV D K (fun (u : tSt) => okM u ∧ frA [(0, 30)] [] [14] [] t u ∧ ((t.1 0 30).toInt ≤ (u.1 0 30).toInt) ∧ ((u.1 0 30).toInt ≤ (t.1 0 30).toInt + 10)) (fun (u : tSt) => WM K ad u)) 0 0 := by
  refine t_met RX12 ⟨rfl, by decide +kernel⟩ (Nat.le_of_ble_eq_true rfl) ?_
  intro p e s m below meth c A ls C hE hZ hr hlocks hA hP hD hS hl
  have hl : lv_has ls 7 [(0, .ref (ad 0)), (1, .long x1)] := hl
  have hokt := hok
  have hfr : frA [(0, 30)] [] [14] [] t t := frA_rf
  have h_1 : (0 : Int) ≤ (t.1 0 30).toInt ∧ (t.1 0 30).toInt ≤ 120 := hok.1 0 30
  have L_27 : ∀ (fuel_27 : Nat) (t1 : tSt) (w27_3 : Int64) (w27_5 : Int32) (H : Heap) (locs : List Loc) (ls : Array Slot), okM t1 → frA [(0, 30)] [] [14] [] t t1 → (0 : Int) ≤ w27_5.toInt ∧ w27_5.toInt ≤ 10 → (w27_5.toInt < 10 → pw 37 w27_3 (9 - w27_5.toInt)) → ((t.1 0 30).toInt ≤ (t1.1 0 30).toInt) → ((t1.1 0 30).toInt ≤ (t.1 0 30).toInt + w27_5.toInt) → (w27_5.toInt ≤ 10) → (10 : Int) - w27_5.toInt < (fuel_27 : Int) → va_P D vwCl (WM K ad t1) H → va_D A (WM K ad t1) → va_S A s.heap H locs → lv_has ls 7 [(0, .ref (ad 0)), (1, .long x1), (3, .long w27_3), (5, .int w27_5)] → W p l e (rmD 1 0 0) s m [.ref (ad 0), .long x1].toArray below meth c H locs 0 0 (MQ below (QV D K (fun (u : tSt) => okM u ∧ frA [(0, 30)] [] [14] [] t u ∧ ((t.1 0 30).toInt ≤ (u.1 0 30).toInt) ∧ ((u.1 0 30).toInt ≤ (t.1 0 30).toInt + 10)) (fun (u : tSt) => WM K ad u) A) [.ref (ad 0), .long x1].toArray s 0 0 A) (F0 m 27 ls []) := by
    intro fuel_27
    induction fuel_27 with
    | zero =>
      intro t1 w27_3 w27_5 H locs ls hok hfr hw27_5 hi27_0 hi27_1 hi27_2 hi27_3 hm27_27 hP hD hS hl
      have h_2 : (0 : Int) ≤ (t1.1 0 30).toInt ∧ (t1.1 0 30).toInt ≤ 120 := hok.1 0 30
      exact absurd hm27_27 (by omega)
    | succ fuel_27 ih_27 =>
      intro t1 w27_3 w27_5 H locs ls hok hfr hw27_5 hi27_0 hi27_1 hi27_2 hi27_3 hm27_27 hP hD hS hl
      have hm27_27 : (10 : Int) - w27_5.toInt < (fuel_27 : Int) + 1 := by omega
      have h_3 : (0 : Int) ≤ (t1.1 0 30).toInt ∧ (t1.1 0 30).toInt ≤ 120 := hok.1 0 30
      have L_78 : ∀ (t1 : tSt) (w78_3 : Int64) (w78_5 : Int32) (w78_6 : Int32) (H : Heap) (locs : List Loc) (ls : Array Slot), okM t1 → frA [(0, 30)] [] [14] [] t t1 → (0 : Int) ≤ w78_5.toInt ∧ w78_5.toInt ≤ 9 → (-36 : Int) ≤ w78_6.toInt ∧ w78_6.toInt ≤ 36 → (pw 37 w78_3 (9 - w78_5.toInt)) → ((t.1 0 30).toInt ≤ (t1.1 0 30).toInt) → ((t1.1 0 30).toInt ≤ (t.1 0 30).toInt + w78_5.toInt + 1) → (w78_5.toInt < 10) → (10 : Int) - w78_5.toInt < (fuel_27 : Int) + 1 → va_P D vwCl (WM K ad t1) H → va_D A (WM K ad t1) → va_S A s.heap H locs → lv_has ls 7 [(0, .ref (ad 0)), (1, .long x1), (3, .long w78_3), (5, .int w78_5), (6, .int w78_6)] → W p l e (rmD 1 0 0) s m [.ref (ad 0), .long x1].toArray below meth c H locs 0 0 (MQ below (QV D K (fun (u : tSt) => okM u ∧ frA [(0, 30)] [] [14] [] t u ∧ ((t.1 0 30).toInt ≤ (u.1 0 30).toInt) ∧ ((u.1 0 30).toInt ≤ (t.1 0 30).toInt + 10)) (fun (u : tSt) => WM K ad u) A) [.ref (ad 0), .long x1].toArray s 0 0 A) (F0 m 78 ls []) := by
        intro t1 w78_3 w78_5 w78_6 H locs ls hok hfr hw78_5 hw78_6 hi78_0 hi78_1 hi78_2 hi78_3 hm78_27 hP hD hS hl
        have h_4 : (0 : Int) ≤ (t1.1 0 30).toInt ∧ (t1.1 0 30).toInt ≤ 120 := hok.1 0 30
        refine lv_lload_n C.1 C.2.1 dX12_sayKey_78 rfl (lv_at hl 2 rfl) ?_
        refine lv_ldc2 (v := 37) C.1 C.2.1 C.2.2.2.1 (C.2.2.2.2.1 _ m_33_18) dX12_sayKey_79 ?_
        obtain ⟨v_5, e_6⟩ : ∃ z, z = (w78_3 : Int64) / (37 : Int64) := ⟨_, rfl⟩
        have hpw1 := fun hq => pw_dn hi78_0 (show (37 : Int64).toInt = 37 from rfl) e_6 (by decide) hq
        refine k_ldiv (v := v_5) C (by decide) e_6.symm dX12_sayKey_82 ?_
        refine lv_lstore_n (lv' := [(3, .long v_5), (0, .ref (ad 0)), (1, .long x1), (5, .int w78_5), (6, .int w78_6)]) C.1 C.2.1 dX12_sayKey_83 rfl hl (by decide) rfl (fun ls hl => ?_)
        have hl : lv_has ls 7 [(0, .ref (ad 0)), (1, .long x1), (3, .long v_5), (5, .int w78_5), (6, .int w78_6)] := lv_sub hl [1, 2, 0, 3, 4] rfl
        obtain ⟨v_7, e_8⟩ : ∃ z, z = w78_5 + 1 := ⟨_, rfl⟩
        have h_9 : v_7.toInt = w78_5.toInt + 1 := by rw [e_8]; exact ti_iadd (by show (_ : Int) ≤ w78_5.toInt + 1; omega) (by show w78_5.toInt + 1 < (_ : Int); omega)
        refine lv_iinc (v := v_7) (lv' := [(5, .int v_7), (0, .ref (ad 0)), (1, .long x1), (3, .long v_5), (6, .int w78_6)]) C.1 C.2.1 dX12_sayKey_84 hl (k := 3) rfl e_8.symm (by decide) rfl (fun ls hl => ?_)
        have hl : lv_has ls 7 [(0, .ref (ad 0)), (1, .long x1), (3, .long v_5), (5, .int v_7), (6, .int w78_6)] := lv_sub hl [1, 2, 3, 0, 4] rfl
        refine lv_goto (tgt := 27) C.1 C.2.1 dX12_sayKey_87 (by decide) ?_
        exact ih_27 t1 v_5 v_7 _ _ _ hok hfr ⟨by omega, by omega⟩ (show v_7.toInt < 10 → pw 37 v_5 (9 - v_7.toInt) from by intro hq; first | exact pw_eq hi5_0 (by omega) | exact pw_eq (hpw1 (by omega)) (by omega)) (show (t.1 0 30).toInt ≤ (t1.1 0 30).toInt from by omega) (show (t1.1 0 30).toInt ≤ (t.1 0 30).toInt + v_7.toInt from by omega) (show v_7.toInt ≤ 10 from by omega) (show (10 : Int) - v_7.toInt < (fuel_27 : Int) from by omega) hP hD hS (lv_sub hl [0, 1, 2, 3] rfl)
      have L_75 : ∀ (t1 : tSt) (w75_3 : Int64) (w75_5 : Int32) (w75_6 : Int32) (k75_1 : Int32) (H : Heap) (locs : List Loc) (ls : Array Slot), okM t1 → frA [(0, 30)] [] [14] [] t t1 → (0 : Int) ≤ w75_5.toInt ∧ w75_5.toInt ≤ 9 → (1 : Int) ≤ w75_6.toInt ∧ w75_6.toInt ≤ 36 → (48 : Int) ≤ k75_1.toInt ∧ k75_1.toInt ≤ 90 → (pw 37 w75_3 (9 - w75_5.toInt)) → ((t.1 0 30).toInt ≤ (t1.1 0 30).toInt) → ((t1.1 0 30).toInt ≤ (t.1 0 30).toInt + w75_5.toInt) → (w75_5.toInt < 10) → (10 : Int) - w75_5.toInt < (fuel_27 : Int) + 1 → va_P D vwCl (WM K ad t1) H → va_D A (WM K ad t1) → va_S A s.heap H locs → lv_has ls 7 [(0, .ref (ad 0)), (1, .long x1), (3, .long w75_3), (5, .int w75_5), (6, .int w75_6)] → W p l e (rmD 1 0 0) s m [.ref (ad 0), .long x1].toArray below meth c H locs 0 0 (MQ below (QV D K (fun (u : tSt) => okM u ∧ frA [(0, 30)] [] [14] [] t u ∧ ((t.1 0 30).toInt ≤ (u.1 0 30).toInt) ∧ ((u.1 0 30).toInt ≤ (t.1 0 30).toInt + 10)) (fun (u : tSt) => WM K ad u) A) [.ref (ad 0), .long x1].toArray s 0 0 A) (F0 m 75 ls [.int k75_1, .ref (ad 0)]) := by
        intro t1 w75_3 w75_5 w75_6 k75_1 H locs ls hok hfr hw75_5 hw75_6 hk75_1 hi75_0 hi75_1 hi75_2 hi75_3 hm75_27 hP hD hS hl
        have h_10 : (0 : Int) ≤ (t1.1 0 30).toInt ∧ (t1.1 0 30).toInt ≤ 120 := hok.1 0 30
        refine g_Vv (As := [.int k75_1]) (rest := []) C hP hD hS hA (T_X12_say l D K Z Y ad t1 hok (k75_1) (show (t1.1 0 30).toInt ≤ 119 from by omega)) hE hZ (uwV m_42_13 m_42_14 m_42_15 m_1_5 m_42_16) (hdV 1 (by decide +kernel) rfl) ⟨Nat.le_of_ble_eq_true rfl, Nat.le_of_ble_eq_true rfl⟩ rfl rfl (ci := 11) (q0 := 0) rfl rfl rfl hl.1 (Nat.le_of_ble_eq_true rfl) dX12_sayKey_75 ⟨Nat.le_of_ble_eq_true rfl, Nat.le_of_ble_eq_true rfl⟩ (fun t_11 H locs hw hP hD hS => ?_)
        obtain ⟨hok, f_13, p_14⟩ := hw
        have hfr : frA [(0, 30)] [] [14] [] t t_11 := frA_tr hfr f_13 rfl
        have h_15 : (0 : Int) ≤ (t_11.1 0 30).toInt ∧ (t_11.1 0 30).toInt ≤ 120 := hok.1 0 30
        replace p_14 : (t_11.1 0 30).toInt = (t1.1 0 30).toInt + 1 := p_14
        exact L_78 t_11 w75_3 w75_5 w75_6 _ _ _ hok hfr ⟨by omega, by omega⟩ ⟨by omega, by omega⟩ (show pw 37 w75_3 (9 - w75_5.toInt) from by first | exact hi75_0 | exact hi27_0 (by omega)) (show (t.1 0 30).toInt ≤ (t_11.1 0 30).toInt from by omega) (show (t_11.1 0 30).toInt ≤ (t.1 0 30).toInt + w75_5.toInt + 1 from by omega) (show w75_5.toInt < 10 from by omega) (show (10 : Int) - w75_5.toInt < (fuel_27 : Int) + 1 from by omega) hP hD hS (lv_sub hl [0, 1, 2, 3, 4] rfl)
      refine lv_iload C.1 C.2.1 dX12_sayKey_27 (lv_at hl 3 rfl) ?_
      refine lv_bipush (v := 10) C.1 C.2.1 dX12_sayKey_29 (by decide) ?_
      refine lv_icmp_ge (tgt := 90) C.1 C.2.1 dX12_sayKey_31 (by decide) (fun c_16 => ?_) (fun c_16 => ?_)
      · replace c_16 : 10 ≤ w27_5.toInt := i_le c_16
        exact g_vret C hr hlocks hP hD hS t1 rfl ⟨hok, hfr, (show (t.1 0 30).toInt ≤ (t1.1 0 30).toInt from by omega), (show (t1.1 0 30).toInt ≤ (t.1 0 30).toInt + 10 from by omega)⟩ (Nat.le_of_ble_eq_true rfl) (Nat.le_of_ble_eq_true rfl) dX12_sayKey_90
      · replace c_16 : w27_5.toInt < 10 := i_nle c_16
        refine lv_lload_n C.1 C.2.1 dX12_sayKey_34 rfl (lv_at hl 1 rfl) ?_
        refine lv_lload_n C.1 C.2.1 dX12_sayKey_35 rfl (lv_at hl 2 rfl) ?_
        obtain ⟨v_17, e_18⟩ : ∃ z, z = (x1 : Int64) / (w27_3 : Int64) := ⟨_, rfl⟩
        refine k_ldiv (v := v_17) C (pw_ne (hi27_0 (by omega)) (by decide)) e_18.symm dX12_sayKey_36 ?_
        refine lv_ldc2 (v := 37) C.1 C.2.1 C.2.2.2.1 (C.2.2.2.2.1 _ m_33_18) dX12_sayKey_37 ?_
        obtain ⟨v_19, e_20⟩ : ∃ z, z = (v_17 : Int64) - (v_17 : Int64) / (37 : Int64) * (37 : Int64) := ⟨_, rfl⟩
        have h_21 : -37 < v_19.toInt ∧ v_19.toInt < 37 := by rw [e_20]; exact tl_remb (k := 37) (by decide) (by decide)
        refine k_lrem (v := v_19) C (by decide) e_20.symm dX12_sayKey_40 ?_
        obtain ⟨v_22, e_23⟩ : ∃ z, z = (v_19).toInt32 := ⟨_, rfl⟩
        have h_24 : v_22.toInt = v_19.toInt := by rw [e_23]; exact Jvm.Kit.i32_of_i64 (by show (_ : Int) ≤ v_19.toInt; omega) (by show v_19.toInt < (_ : Int); omega)
        refine lv_l2i (v := v_22) C.1 C.2.1 dX12_sayKey_41 e_23.symm ?_
        refine lv_istore (lv' := [(6, .int v_22), (0, .ref (ad 0)), (1, .long x1), (3, .long w27_3), (5, .int w27_5)]) C.1 C.2.1 dX12_sayKey_42 hl (by decide) rfl (fun ls hl => ?_)
        have hl : lv_has ls 7 [(0, .ref (ad 0)), (1, .long x1), (3, .long w27_3), (5, .int w27_5), (6, .int v_22)] := lv_sub hl [1, 2, 3, 4, 0] rfl
        refine lv_iload C.1 C.2.1 dX12_sayKey_44 (lv_at hl 4 rfl) ?_
        refine lv_if_le (tgt := 78) C.1 C.2.1 dX12_sayKey_46 (by decide) (fun c_25 => ?_) (fun c_25 => ?_)
        · replace c_25 : v_22.toInt ≤ 0 := i_le c_25
          exact L_78 t1 w27_3 w27_5 v_22 _ _ _ hok hfr ⟨by omega, by omega⟩ ⟨by omega, by omega⟩ (show pw 37 w27_3 (9 - w27_5.toInt) from by first | exact hi75_0 | exact hi27_0 (by omega)) (show (t.1 0 30).toInt ≤ (t1.1 0 30).toInt from by omega) (show (t1.1 0 30).toInt ≤ (t.1 0 30).toInt + w27_5.toInt + 1 from by omega) (show w27_5.toInt < 10 from by omega) (show (10 : Int) - w27_5.toInt < (fuel_27 : Int) + 1 from by omega) hP hD hS (lv_sub hl [0, 1, 2, 3, 4] rfl)
        · replace c_25 : 0 < v_22.toInt := i_nle c_25
          refine lv_aload_n C.1 C.2.1 dX12_sayKey_49 rfl (lv_at hl 0 rfl) ?_
          refine lv_iload C.1 C.2.1 dX12_sayKey_50 (lv_at hl 4 rfl) ?_
          refine lv_bipush (v := 11) C.1 C.2.1 dX12_sayKey_52 (by decide) ?_
          refine lv_icmp_ge (tgt := 67) C.1 C.2.1 dX12_sayKey_54 (by decide) (fun c_26 => ?_) (fun c_26 => ?_)
          · replace c_26 : 11 ≤ v_22.toInt := i_le c_26
            refine lv_bipush (v := 65) C.1 C.2.1 dX12_sayKey_67 (by decide) ?_
            refine lv_iload C.1 C.2.1 dX12_sayKey_69 (lv_at hl 4 rfl) ?_
            obtain ⟨v_27, e_28⟩ : ∃ z, z = (65 : Int32) + (v_22 : Int32) := ⟨_, rfl⟩
            have h_29 : v_27.toInt = 65 + v_22.toInt := by rw [e_28]; exact ti_iadd (by show (_ : Int) ≤ 65 + v_22.toInt; omega) (by show 65 + v_22.toInt < (_ : Int); omega)
            refine k_iadd (v := v_27) C e_28.symm dX12_sayKey_71 ?_
            refine lv_bipush (v := 11) C.1 C.2.1 dX12_sayKey_72 (by decide) ?_
            obtain ⟨v_30, e_31⟩ : ∃ z, z = (v_27 : Int32) - (11 : Int32) := ⟨_, rfl⟩
            have h_32 : v_30.toInt = v_27.toInt - 11 := by rw [e_31]; exact ti_isub (by show (_ : Int) ≤ v_27.toInt - 11; omega) (by show v_27.toInt - 11 < (_ : Int); omega)
            refine k_isub (v := v_30) C e_31.symm dX12_sayKey_74 ?_
            exact L_75 t1 w27_3 w27_5 v_22 v_30 _ _ _ hok hfr ⟨by omega, by omega⟩ ⟨by omega, by omega⟩ ⟨by omega, by omega⟩ (show pw 37 w27_3 (9 - w27_5.toInt) from by first | exact hi27_0 (by omega) | exact hi75_0) (show (t.1 0 30).toInt ≤ (t1.1 0 30).toInt from by omega) (show (t1.1 0 30).toInt ≤ (t.1 0 30).toInt + w27_5.toInt from by omega) (show w27_5.toInt < 10 from by omega) (show (10 : Int) - w27_5.toInt < (fuel_27 : Int) + 1 from by omega) hP hD hS (lv_sub hl [0, 1, 2, 3, 4] rfl)
          · replace c_26 : v_22.toInt < 11 := i_nle c_26
            refine lv_bipush (v := 48) C.1 C.2.1 dX12_sayKey_57 (by decide) ?_
            refine lv_iload C.1 C.2.1 dX12_sayKey_59 (lv_at hl 4 rfl) ?_
            obtain ⟨v_33, e_34⟩ : ∃ z, z = (48 : Int32) + (v_22 : Int32) := ⟨_, rfl⟩
            have h_35 : v_33.toInt = 48 + v_22.toInt := by rw [e_34]; exact ti_iadd (by show (_ : Int) ≤ 48 + v_22.toInt; omega) (by show 48 + v_22.toInt < (_ : Int); omega)
            refine k_iadd (v := v_33) C e_34.symm dX12_sayKey_61 ?_
            refine lv_iconst (v := 1) C.1 C.2.1 dX12_sayKey_62 (by decide) ?_
            obtain ⟨v_36, e_37⟩ : ∃ z, z = (v_33 : Int32) - (1 : Int32) := ⟨_, rfl⟩
            have h_38 : v_36.toInt = v_33.toInt - 1 := by rw [e_37]; exact ti_isub (by show (_ : Int) ≤ v_33.toInt - 1; omega) (by show v_33.toInt - 1 < (_ : Int); omega)
            refine k_isub (v := v_36) C e_37.symm dX12_sayKey_63 ?_
            refine lv_goto (tgt := 75) C.1 C.2.1 dX12_sayKey_64 (by decide) ?_
            exact L_75 t1 w27_3 w27_5 v_22 v_36 _ _ _ hok hfr ⟨by omega, by omega⟩ ⟨by omega, by omega⟩ ⟨by omega, by omega⟩ (show pw 37 w27_3 (9 - w27_5.toInt) from by first | exact hi27_0 (by omega) | exact hi75_0) (show (t.1 0 30).toInt ≤ (t1.1 0 30).toInt from by omega) (show (t1.1 0 30).toInt ≤ (t.1 0 30).toInt + w27_5.toInt from by omega) (show w27_5.toInt < 10 from by omega) (show (10 : Int) - w27_5.toInt < (fuel_27 : Int) + 1 from by omega) hP hD hS (lv_sub hl [0, 1, 2, 3, 4] rfl)
  have L_5 : ∀ (fuel_5 : Nat) (t1 : tSt) (w5_3 : Int64) (w5_5 : Int32) (H : Heap) (locs : List Loc) (ls : Array Slot), okM t1 → frA [(0, 30)] [] [14] [] t t1 → (0 : Int) ≤ w5_5.toInt ∧ w5_5.toInt ≤ 9 → (pw 37 w5_3 w5_5.toInt) → (w5_5.toInt ≤ 9) → ((t1.1 0 30).toInt = (t.1 0 30).toInt) → (9 : Int) - w5_5.toInt < (fuel_5 : Int) → va_P D vwCl (WM K ad t1) H → va_D A (WM K ad t1) → va_S A s.heap H locs → lv_has ls 7 [(0, .ref (ad 0)), (1, .long x1), (3, .long w5_3), (5, .int w5_5)] → W p l e (rmD 1 0 0) s m [.ref (ad 0), .long x1].toArray below meth c H locs 0 0 (MQ below (QV D K (fun (u : tSt) => okM u ∧ frA [(0, 30)] [] [14] [] t u ∧ ((t.1 0 30).toInt ≤ (u.1 0 30).toInt) ∧ ((u.1 0 30).toInt ≤ (t.1 0 30).toInt + 10)) (fun (u : tSt) => WM K ad u) A) [.ref (ad 0), .long x1].toArray s 0 0 A) (F0 m 5 ls []) := by
    intro fuel_5
    induction fuel_5 with
    | zero =>
      intro t1 w5_3 w5_5 H locs ls hok hfr hw5_5 hi5_0 hi5_1 hi5_2 hm5_5 hP hD hS hl
      have h_39 : (0 : Int) ≤ (t1.1 0 30).toInt ∧ (t1.1 0 30).toInt ≤ 120 := hok.1 0 30
      exact absurd hm5_5 (by omega)
    | succ fuel_5 ih_5 =>
      intro t1 w5_3 w5_5 H locs ls hok hfr hw5_5 hi5_0 hi5_1 hi5_2 hm5_5 hP hD hS hl
      have hm5_5 : (9 : Int) - w5_5.toInt < (fuel_5 : Int) + 1 := by omega
      have h_40 : (0 : Int) ≤ (t1.1 0 30).toInt ∧ (t1.1 0 30).toInt ≤ 120 := hok.1 0 30
      refine lv_iload C.1 C.2.1 dX12_sayKey_5 (lv_at hl 3 rfl) ?_
      refine lv_bipush (v := 9) C.1 C.2.1 dX12_sayKey_7 (by decide) ?_
      refine lv_icmp_ge (tgt := 24) C.1 C.2.1 dX12_sayKey_9 (by decide) (fun c_41 => ?_) (fun c_41 => ?_)
      · replace c_41 : 9 ≤ w5_5.toInt := i_le c_41
        refine lv_iconst (v := 0) C.1 C.2.1 dX12_sayKey_24 (by decide) ?_
        refine lv_istore (lv' := [(5, .int 0), (0, .ref (ad 0)), (1, .long x1), (3, .long w5_3)]) C.1 C.2.1 dX12_sayKey_25 hl (by decide) rfl (fun ls hl => ?_)
        have hl : lv_has ls 7 [(0, .ref (ad 0)), (1, .long x1), (3, .long w5_3), (5, .int 0)] := lv_sub hl [1, 2, 3, 0] rfl
        exact L_27 11 t1 w5_3 0 _ _ _ hok hfr ⟨by decide, by decide⟩ (show 0 < 10 → pw 37 w5_3 (9 - 0) from by intro hq; first | exact pw_eq hi5_0 (by omega) | exact pw_eq (hpw1 (by omega)) (by omega)) (show (t.1 0 30).toInt ≤ (t1.1 0 30).toInt from by omega) (show (t1.1 0 30).toInt ≤ (t.1 0 30).toInt + 0 from by omega) (show 0 ≤ 10 from by omega) (show (10 : Int) - 0 < ((11 : Nat) : Int) from by omega) hP hD hS (lv_sub hl [0, 1, 2, 3] rfl)
      · replace c_41 : w5_5.toInt < 9 := i_nle c_41
        refine lv_ldc2 (v := 37) C.1 C.2.1 C.2.2.2.1 (C.2.2.2.2.1 _ m_33_18) dX12_sayKey_12 ?_
        refine lv_lload_n C.1 C.2.1 dX12_sayKey_15 rfl (lv_at hl 2 rfl) ?_
        obtain ⟨v_42, e_43⟩ : ∃ z, z = (37 : Int64) * (w5_3 : Int64) := ⟨_, rfl⟩
        have hpw0 := pw_up hi5_0 (show (37 : Int64).toInt = 37 from rfl) e_43 (by decide) (p37 (by omega))
        refine k_lmul (v := v_42) C e_43.symm dX12_sayKey_16 ?_
        refine lv_lstore_n (lv' := [(3, .long v_42), (0, .ref (ad 0)), (1, .long x1), (5, .int w5_5)]) C.1 C.2.1 dX12_sayKey_17 rfl hl (by decide) rfl (fun ls hl => ?_)
        have hl : lv_has ls 7 [(0, .ref (ad 0)), (1, .long x1), (3, .long v_42), (5, .int w5_5)] := lv_sub hl [1, 2, 0, 3] rfl
        obtain ⟨v_44, e_45⟩ : ∃ z, z = w5_5 + 1 := ⟨_, rfl⟩
        have h_46 : v_44.toInt = w5_5.toInt + 1 := by rw [e_45]; exact ti_iadd (by show (_ : Int) ≤ w5_5.toInt + 1; omega) (by show w5_5.toInt + 1 < (_ : Int); omega)
        refine lv_iinc (v := v_44) (lv' := [(5, .int v_44), (0, .ref (ad 0)), (1, .long x1), (3, .long v_42)]) C.1 C.2.1 dX12_sayKey_18 hl (k := 3) rfl e_45.symm (by decide) rfl (fun ls hl => ?_)
        have hl : lv_has ls 7 [(0, .ref (ad 0)), (1, .long x1), (3, .long v_42), (5, .int v_44)] := lv_sub hl [1, 2, 3, 0] rfl
        refine lv_goto (tgt := 5) C.1 C.2.1 dX12_sayKey_21 (by decide) ?_
        exact ih_5 t1 v_42 v_44 _ _ _ hok hfr ⟨by omega, by omega⟩ (show pw 37 v_42 v_44.toInt from by first | exact ⟨by decide, rfl⟩ | exact pw_eq hpw0 (by omega)) (show v_44.toInt ≤ 9 from by omega) (show (t1.1 0 30).toInt = (t.1 0 30).toInt from by omega) (show (9 : Int) - v_44.toInt < (fuel_5 : Int) from by omega) hP hD hS (lv_sub hl [0, 1, 2, 3] rfl)
  refine lv_lconst (v := 1) C.1 C.2.1 dX12_sayKey_0 (by decide) ?_
  refine lv_lstore_n (lv' := [(3, .long 1), (0, .ref (ad 0)), (1, .long x1)]) C.1 C.2.1 dX12_sayKey_1 rfl hl (by decide) rfl (fun ls hl => ?_)
  have hl : lv_has ls 7 [(0, .ref (ad 0)), (1, .long x1), (3, .long 1)] := lv_sub hl [1, 2, 0] rfl
  refine lv_iconst (v := 0) C.1 C.2.1 dX12_sayKey_2 (by decide) ?_
  refine lv_istore (lv' := [(5, .int 0), (0, .ref (ad 0)), (1, .long x1), (3, .long 1)]) C.1 C.2.1 dX12_sayKey_3 hl (by decide) rfl (fun ls hl => ?_)
  have hl : lv_has ls 7 [(0, .ref (ad 0)), (1, .long x1), (3, .long 1), (5, .int 0)] := lv_sub hl [1, 2, 3, 0] rfl
  exact L_5 10 t 1 0 _ _ _ hok hfr ⟨by decide, by decide⟩ (show pw 37 1 0 from by first | exact ⟨by decide, rfl⟩ | exact pw_eq hpw0 (by omega)) (show 0 ≤ 9 from by omega) (show (t.1 0 30).toInt = (t.1 0 30).toInt from by omega) (show (9 : Int) - 0 < ((10 : Nat) : Int) from by omega) hP hD hS (lv_sub hl [0, 1, 2, 3] rfl)

theorem dX12_stored_0 : decode cX12_stored 0 = .ok (.iload_n 2, 1) := by decide +kernel
theorem dX12_stored_1 : decode cX12_stored 1 = .ok (.bipush 8, 2) := by decide +kernel
theorem dX12_stored_100 : decode cX12_stored 100 = .ok (.ixor, 1) := by decide +kernel
theorem dX12_stored_101 : decode cX12_stored 101 = .ok (.iand, 1) := by decide +kernel
theorem dX12_stored_102 : decode cX12_stored 102 = .ok (.istore 10, 2) := by decide +kernel
theorem dX12_stored_104 : decode cX12_stored 104 = .ok (.iload_n 3, 1) := by decide +kernel
theorem dX12_stored_105 : decode cX12_stored 105 = .ok (.ifCond .ne 10, 3) := by decide +kernel
theorem dX12_stored_108 : decode cX12_stored 108 = .ok (.iload_n 1, 1) := by decide +kernel
theorem dX12_stored_109 : decode cX12_stored 109 = .ok (.ldc 158, 2) := by decide +kernel
theorem dX12_stored_11 : decode cX12_stored 11 = .ok (.iload_n 3, 1) := by decide +kernel
theorem dX12_stored_111 : decode cX12_stored 111 = .ok (.iand, 1) := by decide +kernel
theorem dX12_stored_112 : decode cX12_stored 112 = .ok (.goto 7, 3) := by decide +kernel
theorem dX12_stored_115 : decode cX12_stored 115 = .ok (.iload_n 0, 1) := by decide +kernel
theorem dX12_stored_116 : decode cX12_stored 116 = .ok (.ldc 158, 2) := by decide +kernel
theorem dX12_stored_118 : decode cX12_stored 118 = .ok (.iand, 1) := by decide +kernel
theorem dX12_stored_119 : decode cX12_stored 119 = .ok (.istore 11, 2) := by decide +kernel
theorem dX12_stored_12 : decode cX12_stored 12 = .ok (.ifCond .ne 7, 3) := by decide +kernel
theorem dX12_stored_121 : decode cX12_stored 121 = .ok (.iload 11, 2) := by decide +kernel
theorem dX12_stored_123 : decode cX12_stored 123 = .ok (.iload 10, 2) := by decide +kernel
theorem dX12_stored_125 : decode cX12_stored 125 = .ok (.ior, 1) := by decide +kernel
theorem dX12_stored_126 : decode cX12_stored 126 = .ok (.iload 9, 2) := by decide +kernel
theorem dX12_stored_128 : decode cX12_stored 128 = .ok (.ior, 1) := by decide +kernel
theorem dX12_stored_129 : decode cX12_stored 129 = .ok (.ireturn, 1) := by decide +kernel
theorem dX12_stored_15 : decode cX12_stored 15 = .ok (.iconst 1, 1) := by decide +kernel
theorem dX12_stored_16 : decode cX12_stored 16 = .ok (.goto 4, 3) := by decide +kernel
theorem dX12_stored_19 : decode cX12_stored 19 = .ok (.iload_n 3, 1) := by decide +kernel
theorem dX12_stored_20 : decode cX12_stored 20 = .ok (.istore 5, 2) := by decide +kernel
theorem dX12_stored_22 : decode cX12_stored 22 = .ok (.iload 4, 2) := by decide +kernel
theorem dX12_stored_24 : decode cX12_stored 24 = .ok (.iload 5, 2) := by decide +kernel
theorem dX12_stored_26 : decode cX12_stored 26 = .ok (.if_icmp .ge 7, 3) := by decide +kernel
theorem dX12_stored_29 : decode cX12_stored 29 = .ok (.iconst 0, 1) := by decide +kernel
theorem dX12_stored_3 : decode cX12_stored 3 = .ok (.idiv, 1) := by decide +kernel
theorem dX12_stored_30 : decode cX12_stored 30 = .ok (.goto 10, 3) := by decide +kernel
theorem dX12_stored_33 : decode cX12_stored 33 = .ok (.iload 4, 2) := by decide +kernel
theorem dX12_stored_35 : decode cX12_stored 35 = .ok (.iload 5, 2) := by decide +kernel
theorem dX12_stored_37 : decode cX12_stored 37 = .ok (.isub, 1) := by decide +kernel
theorem dX12_stored_38 : decode cX12_stored 38 = .ok (.iconst 1, 1) := by decide +kernel
theorem dX12_stored_39 : decode cX12_stored 39 = .ok (.iadd, 1) := by decide +kernel
theorem dX12_stored_4 : decode cX12_stored 4 = .ok (.istore_n 3, 1) := by decide +kernel
theorem dX12_stored_40 : decode cX12_stored 40 = .ok (.istore 6, 2) := by decide +kernel
theorem dX12_stored_42 : decode cX12_stored 42 = .ok (.iload 6, 2) := by decide +kernel
theorem dX12_stored_44 : decode cX12_stored 44 = .ok (.ifCond .ne 7, 3) := by decide +kernel
theorem dX12_stored_47 : decode cX12_stored 47 = .ok (.iconst 0, 1) := by decide +kernel
theorem dX12_stored_48 : decode cX12_stored 48 = .ok (.goto 13, 3) := by decide +kernel
theorem dX12_stored_5 : decode cX12_stored 5 = .ok (.iload_n 2, 1) := by decide +kernel
theorem dX12_stored_51 : decode cX12_stored 51 = .ok (.lconst 1, 1) := by decide +kernel
theorem dX12_stored_52 : decode cX12_stored 52 = .ok (.bipush 6, 2) := by decide +kernel
theorem dX12_stored_54 : decode cX12_stored 54 = .ok (.iload 6, 2) := by decide +kernel
theorem dX12_stored_56 : decode cX12_stored 56 = .ok (.imul, 1) := by decide +kernel
theorem dX12_stored_57 : decode cX12_stored 57 = .ok (.lshl, 1) := by decide +kernel
theorem dX12_stored_58 : decode cX12_stored 58 = .ok (.lconst 1, 1) := by decide +kernel
theorem dX12_stored_59 : decode cX12_stored 59 = .ok (.lsub, 1) := by decide +kernel
theorem dX12_stored_6 : decode cX12_stored 6 = .ok (.bipush 8, 2) := by decide +kernel
theorem dX12_stored_60 : decode cX12_stored 60 = .ok (.l2i, 1) := by decide +kernel
theorem dX12_stored_61 : decode cX12_stored 61 = .ok (.istore 7, 2) := by decide +kernel
theorem dX12_stored_63 : decode cX12_stored 63 = .ok (.iload 6, 2) := by decide +kernel
theorem dX12_stored_65 : decode cX12_stored 65 = .ok (.ifCond .ne 7, 3) := by decide +kernel
theorem dX12_stored_68 : decode cX12_stored 68 = .ok (.iconst 0, 1) := by decide +kernel
theorem dX12_stored_69 : decode cX12_stored 69 = .ok (.goto 10, 3) := by decide +kernel
theorem dX12_stored_72 : decode cX12_stored 72 = .ok (.bipush 6, 2) := by decide +kernel
theorem dX12_stored_74 : decode cX12_stored 74 = .ok (.iconst 5, 1) := by decide +kernel
theorem dX12_stored_75 : decode cX12_stored 75 = .ok (.iload 4, 2) := by decide +kernel
theorem dX12_stored_77 : decode cX12_stored 77 = .ok (.isub, 1) := by decide +kernel
theorem dX12_stored_78 : decode cX12_stored 78 = .ok (.imul, 1) := by decide +kernel
theorem dX12_stored_79 : decode cX12_stored 79 = .ok (.istore 8, 2) := by decide +kernel
theorem dX12_stored_8 : decode cX12_stored 8 = .ok (.irem, 1) := by decide +kernel
theorem dX12_stored_81 : decode cX12_stored 81 = .ok (.iload_n 1, 1) := by decide +kernel
theorem dX12_stored_82 : decode cX12_stored 82 = .ok (.iload 7, 2) := by decide +kernel
theorem dX12_stored_84 : decode cX12_stored 84 = .ok (.iand, 1) := by decide +kernel
theorem dX12_stored_85 : decode cX12_stored 85 = .ok (.iload 8, 2) := by decide +kernel
theorem dX12_stored_87 : decode cX12_stored 87 = .ok (.ishl, 1) := by decide +kernel
theorem dX12_stored_88 : decode cX12_stored 88 = .ok (.istore 9, 2) := by decide +kernel
theorem dX12_stored_9 : decode cX12_stored 9 = .ok (.istore 4, 2) := by decide +kernel
theorem dX12_stored_90 : decode cX12_stored 90 = .ok (.iload_n 0, 1) := by decide +kernel
theorem dX12_stored_91 : decode cX12_stored 91 = .ok (.ldc 159, 2) := by decide +kernel
theorem dX12_stored_93 : decode cX12_stored 93 = .ok (.iand, 1) := by decide +kernel
theorem dX12_stored_94 : decode cX12_stored 94 = .ok (.iload 7, 2) := by decide +kernel
theorem dX12_stored_96 : decode cX12_stored 96 = .ok (.iload 8, 2) := by decide +kernel
theorem dX12_stored_98 : decode cX12_stored 98 = .ok (.ishl, 1) := by decide +kernel
theorem dX12_stored_99 : decode cX12_stored 99 = .ok (.iconst (-1), 1) := by decide +kernel
set_option maxHeartbeats 4000000 in
set_option maxRecDepth 100000 in
theorem T_X12_stored (l : Launch) (D : va_G) (K : Nat → ClassId) (Z Y : Nat → Nat) (ad : Nat → Nat) (t : tSt) (hok : okM t) (x0 : Int32) (x1 : Int32) (x2 : Int32) (hx2 : (0 : Int) ≤ x2.toInt ∧ x2.toInt ≤ 63) : tMet l yX12_stored cX12_stored 12 (some .int) (rmD 0 0 0) D K Z Y [.int x0, .int x1, .int x2] (WM K ad t) (QI D K (fun (r : Int32) (u : Unit) => (-2147483648 : Int) ≤ r.toInt ∧ r.toInt ≤ 2147483647) (fun (_ : Unit) => WM K ad t)) 0 0 := by
  refine t_met RX12 ⟨rfl, by decide +kernel⟩ (Nat.le_of_ble_eq_true rfl) ?_
  intro p e s m below meth c A ls C hE hZ hr hlocks hA hP hD hS hl
  have hl : lv_has ls 12 [(0, .int x0), (1, .int x1), (2, .int x2)] := hl
  have L_119 : ∀ (w119_3 : Int32) (w119_4 : Int32) (w119_5 : Int32) (w119_6 : Int32) (w119_7 : Int32) (w119_8 : Int32) (w119_9 : Int32) (w119_10 : Int32) (k119_0 : Int32) (H : Heap) (locs : List Loc) (ls : Array Slot), (0 : Int) ≤ w119_3.toInt ∧ w119_3.toInt ≤ 7 → (0 : Int) ≤ w119_4.toInt ∧ w119_4.toInt ≤ 7 → (1 : Int) ≤ w119_5.toInt ∧ w119_5.toInt ≤ 7 → (-5 : Int) ≤ w119_6.toInt ∧ w119_6.toInt ≤ 7 → (-12 : Int) ≤ w119_8.toInt ∧ w119_8.toInt ≤ 30 → (0 : Int) ≤ w119_10.toInt ∧ w119_10.toInt ≤ 1073741823 → (0 : Int) ≤ k119_0.toInt ∧ k119_0.toInt ≤ 1073741824 → va_P D vwCl (WM K ad t) H → va_D A (WM K ad t) → va_S A s.heap H locs → lv_has ls 12 [(0, .int x0), (1, .int x1), (2, .int x2), (3, .int w119_3), (4, .int w119_4), (5, .int w119_5), (6, .int w119_6), (7, .int w119_7), (8, .int w119_8), (9, .int w119_9), (10, .int w119_10)] → W p l e (rmD 0 0 0) s m [.int x0, .int x1, .int x2].toArray below meth c H locs 0 0 (MQ below (QI D K (fun (r : Int32) (u : Unit) => (-2147483648 : Int) ≤ r.toInt ∧ r.toInt ≤ 2147483647) (fun (_ : Unit) => WM K ad t) A) [.int x0, .int x1, .int x2].toArray s 0 0 A) (F0 m 119 ls [.int k119_0]) := by
    intro w119_3 w119_4 w119_5 w119_6 w119_7 w119_8 w119_9 w119_10 k119_0 H locs ls hw119_3 hw119_4 hw119_5 hw119_6 hw119_8 hw119_10 hk119_0 hP hD hS hl
    refine lv_istore (lv' := [(11, .int k119_0), (0, .int x0), (1, .int x1), (2, .int x2), (3, .int w119_3), (4, .int w119_4), (5, .int w119_5), (6, .int w119_6), (7, .int w119_7), (8, .int w119_8), (9, .int w119_9), (10, .int w119_10)]) C.1 C.2.1 dX12_stored_119 hl (by decide) rfl (fun ls hl => ?_)
    have hl : lv_has ls 12 [(0, .int x0), (1, .int x1), (2, .int x2), (3, .int w119_3), (4, .int w119_4), (5, .int w119_5), (6, .int w119_6), (7, .int w119_7), (8, .int w119_8), (9, .int w119_9), (10, .int w119_10), (11, .int k119_0)] := lv_sub hl [1, 2, 3, 4, 5, 6, 7, 8, 9, 10, 11, 0] rfl
    refine lv_iload C.1 C.2.1 dX12_stored_121 (lv_at hl 11 rfl) ?_
    refine lv_iload C.1 C.2.1 dX12_stored_123 (lv_at hl 10 rfl) ?_
    obtain ⟨v_1, e_2⟩ : ∃ z, z = (k119_0 : Int32) ||| (w119_10 : Int32) := ⟨_, rfl⟩
    have h_3 : (0 : Int) ≤ v_1.toInt ∧ v_1.toInt ≤ 2147483647 := by rw [e_2]; exact z_or (k := 31) (by decide) (by show (0 : Int) ≤ k119_0.toInt; omega) (by show k119_0.toInt < (_ : Int); omega) (by show (0 : Int) ≤ w119_10.toInt; omega) (by show w119_10.toInt < (_ : Int); omega)
    refine k_ior (v := v_1) C e_2.symm dX12_stored_125 ?_
    refine lv_iload C.1 C.2.1 dX12_stored_126 (lv_at hl 9 rfl) ?_
    obtain ⟨v_4, e_5⟩ : ∃ z, z = (v_1 : Int32) ||| (w119_9 : Int32) := ⟨_, rfl⟩
    refine k_ior (v := v_4) C e_5.symm dX12_stored_128 ?_
    exact g_iret C hr hlocks hP hD hS rfl () rfl ⟨(i_rng _).1, (i_rng _).2⟩ (Nat.le_of_ble_eq_true rfl) (Nat.le_of_ble_eq_true rfl) dX12_stored_129
  have L_79 : ∀ (w79_3 : Int32) (w79_4 : Int32) (w79_5 : Int32) (w79_6 : Int32) (w79_7 : Int32) (k79_0 : Int32) (H : Heap) (locs : List Loc) (ls : Array Slot), (0 : Int) ≤ w79_3.toInt ∧ w79_3.toInt ≤ 7 → (0 : Int) ≤ w79_4.toInt ∧ w79_4.toInt ≤ 7 → (1 : Int) ≤ w79_5.toInt ∧ w79_5.toInt ≤ 7 → (-5 : Int) ≤ w79_6.toInt ∧ w79_6.toInt ≤ 7 → (-12 : Int) ≤ k79_0.toInt ∧ k79_0.toInt ≤ 30 → va_P D vwCl (WM K ad t) H → va_D A (WM K ad t) → va_S A s.heap H locs → lv_has ls 12 [(0, .int x0), (1, .int x1), (2, .int x2), (3, .int w79_3), (4, .int w79_4), (5, .int w79_5), (6, .int w79_6), (7, .int w79_7)] → W p l e (rmD 0 0 0) s m [.int x0, .int x1, .int x2].toArray below meth c H locs 0 0 (MQ below (QI D K (fun (r : Int32) (u : Unit) => (-2147483648 : Int) ≤ r.toInt ∧ r.toInt ≤ 2147483647) (fun (_ : Unit) => WM K ad t) A) [.int x0, .int x1, .int x2].toArray s 0 0 A) (F0 m 79 ls [.int k79_0]) := by
    intro w79_3 w79_4 w79_5 w79_6 w79_7 k79_0 H locs ls hw79_3 hw79_4 hw79_5 hw79_6 hk79_0 hP hD hS hl
    refine lv_istore (lv' := [(8, .int k79_0), (0, .int x0), (1, .int x1), (2, .int x2), (3, .int w79_3), (4, .int w79_4), (5, .int w79_5), (6, .int w79_6), (7, .int w79_7)]) C.1 C.2.1 dX12_stored_79 hl (by decide) rfl (fun ls hl => ?_)
    have hl : lv_has ls 12 [(0, .int x0), (1, .int x1), (2, .int x2), (3, .int w79_3), (4, .int w79_4), (5, .int w79_5), (6, .int w79_6), (7, .int w79_7), (8, .int k79_0)] := lv_sub hl [1, 2, 3, 4, 5, 6, 7, 8, 0] rfl
    refine lv_iload_n C.1 C.2.1 dX12_stored_81 rfl (lv_at hl 1 rfl) ?_
    refine lv_iload C.1 C.2.1 dX12_stored_82 (lv_at hl 7 rfl) ?_
    obtain ⟨v_7, e_8⟩ : ∃ z, z = (x1 : Int32) &&& (w79_7 : Int32) := ⟨_, rfl⟩
    refine k_iand (v := v_7) C e_8.symm dX12_stored_84 ?_
    refine lv_iload C.1 C.2.1 dX12_stored_85 (lv_at hl 8 rfl) ?_
    obtain ⟨v_10, e_11⟩ : ∃ z, z = (v_7 : Int32) <<< ((k79_0 : Int32) &&& 31) := ⟨_, rfl⟩
    refine k_ishl (v := v_10) C e_11.symm dX12_stored_87 ?_
    refine lv_istore (lv' := [(9, .int v_10), (0, .int x0), (1, .int x1), (2, .int x2), (3, .int w79_3), (4, .int w79_4), (5, .int w79_5), (6, .int w79_6), (7, .int w79_7), (8, .int k79_0)]) C.1 C.2.1 dX12_stored_88 hl (by decide) rfl (fun ls hl => ?_)
    have hl : lv_has ls 12 [(0, .int x0), (1, .int x1), (2, .int x2), (3, .int w79_3), (4, .int w79_4), (5, .int w79_5), (6, .int w79_6), (7, .int w79_7), (8, .int k79_0), (9, .int v_10)] := lv_sub hl [1, 2, 3, 4, 5, 6, 7, 8, 9, 0] rfl
    refine lv_iload_n C.1 C.2.1 dX12_stored_90 rfl (lv_at hl 0 rfl) ?_
    refine lv_ldc (v := 1073741823) C.1 C.2.1 C.2.2.2.1 (C.2.2.2.2.1 _ m_36_12) dX12_stored_91 ?_
    obtain ⟨v_13, e_14⟩ : ∃ z, z = (x0 : Int32) &&& (1073741823 : Int32) := ⟨_, rfl⟩
    have h_15 : v_13.toInt = x0.toInt % 2 ^ 30 := by rw [e_14]; exact Jvm.Kit.i32_mask _ _ (k := 30) (by decide) (by decide)
    refine k_iand (v := v_13) C e_14.symm dX12_stored_93 ?_
    refine lv_iload C.1 C.2.1 dX12_stored_94 (lv_at hl 7 rfl) ?_
    refine lv_iload C.1 C.2.1 dX12_stored_96 (lv_at hl 8 rfl) ?_
    obtain ⟨v_16, e_17⟩ : ∃ z, z = (w79_7 : Int32) <<< ((k79_0 : Int32) &&& 31) := ⟨_, rfl⟩
    refine k_ishl (v := v_16) C e_17.symm dX12_stored_98 ?_
    refine lv_iconst (v := (-1)) C.1 C.2.1 dX12_stored_99 (by decide) ?_
    obtain ⟨v_19, e_20⟩ : ∃ z, z = (v_16 : Int32) ^^^ ((-1) : Int32) := ⟨_, rfl⟩
    refine k_ixor (v := v_19) C e_20.symm dX12_stored_100 ?_
    obtain ⟨v_22, e_23⟩ : ∃ z, z = (v_13 : Int32) &&& (v_19 : Int32) := ⟨_, rfl⟩
    have h_24 : (0 : Int) ≤ v_22.toInt ∧ v_22.toInt ≤ v_13.toInt := by rw [e_23]; exact z_andl (by show (0 : Int) ≤ v_13.toInt; omega)
    refine k_iand (v := v_22) C e_23.symm dX12_stored_101 ?_
    refine lv_istore (lv' := [(10, .int v_22), (0, .int x0), (1, .int x1), (2, .int x2), (3, .int w79_3), (4, .int w79_4), (5, .int w79_5), (6, .int w79_6), (7, .int w79_7), (8, .int k79_0), (9, .int v_10)]) C.1 C.2.1 dX12_stored_102 hl (by decide) rfl (fun ls hl => ?_)
    have hl : lv_has ls 12 [(0, .int x0), (1, .int x1), (2, .int x2), (3, .int w79_3), (4, .int w79_4), (5, .int w79_5), (6, .int w79_6), (7, .int w79_7), (8, .int k79_0), (9, .int v_10), (10, .int v_22)] := lv_sub hl [1, 2, 3, 4, 5, 6, 7, 8, 9, 10, 0] rfl
    refine lv_iload_n C.1 C.2.1 dX12_stored_104 rfl (lv_at hl 3 rfl) ?_
    refine lv_if_ne (tgt := 115) C.1 C.2.1 dX12_stored_105 (by decide) (fun c_25 => ?_) (fun c_25 => ?_)
    · replace c_25 : ¬ w79_3.toInt = 0 := i_ne c_25
      refine lv_iload_n C.1 C.2.1 dX12_stored_115 rfl (lv_at hl 0 rfl) ?_
      refine lv_ldc (v := 1073741824) C.1 C.2.1 C.2.2.2.1 (C.2.2.2.2.1 _ m_34_19) dX12_stored_116 ?_
      obtain ⟨v_26, e_27⟩ : ∃ z, z = (x0 : Int32) &&& (1073741824 : Int32) := ⟨_, rfl⟩
      have h_28 : (0 : Int) ≤ v_26.toInt ∧ v_26.toInt ≤ 1073741824 := by rw [e_27]; exact z_and _ (k := 1073741824) (by decide) (by decide)
      refine k_iand (v := v_26) C e_27.symm dX12_stored_118 ?_
      exact L_119 w79_3 w79_4 w79_5 w79_6 w79_7 k79_0 v_10 v_22 v_26 _ _ _ ⟨by omega, by omega⟩ ⟨by omega, by omega⟩ ⟨by omega, by omega⟩ ⟨by omega, by omega⟩ ⟨by omega, by omega⟩ ⟨by omega, by omega⟩ ⟨by omega, by omega⟩ hP hD hS (lv_sub hl [0, 1, 2, 3, 4, 5, 6, 7, 8, 9, 10] rfl)
    · replace c_25 : w79_3.toInt = 0 := i_eq c_25
      refine lv_iload_n C.1 C.2.1 dX12_stored_108 rfl (lv_at hl 1 rfl) ?_
      refine lv_ldc (v := 1073741824) C.1 C.2.1 C.2.2.2.1 (C.2.2.2.2.1 _ m_34_19) dX12_stored_109 ?_
      obtain ⟨v_29, e_30⟩ : ∃ z, z = (x1 : Int32) &&& (1073741824 : Int32) := ⟨_, rfl⟩
      have h_31 : (0 : Int) ≤ v_29.toInt ∧ v_29.toInt ≤ 1073741824 := by rw [e_30]; exact z_and _ (k := 1073741824) (by decide) (by decide)
      refine k_iand (v := v_29) C e_30.symm dX12_stored_111 ?_
      refine lv_goto (tgt := 119) C.1 C.2.1 dX12_stored_112 (by decide) ?_
      exact L_119 w79_3 w79_4 w79_5 w79_6 w79_7 k79_0 v_10 v_22 v_29 _ _ _ ⟨by omega, by omega⟩ ⟨by omega, by omega⟩ ⟨by omega, by omega⟩ ⟨by omega, by omega⟩ ⟨by omega, by omega⟩ ⟨by omega, by omega⟩ ⟨by omega, by omega⟩ hP hD hS (lv_sub hl [0, 1, 2, 3, 4, 5, 6, 7, 8, 9, 10] rfl)
  have L_61 : ∀ (w61_3 : Int32) (w61_4 : Int32) (w61_5 : Int32) (w61_6 : Int32) (k61_0 : Int32) (H : Heap) (locs : List Loc) (ls : Array Slot), (0 : Int) ≤ w61_3.toInt ∧ w61_3.toInt ≤ 7 → (0 : Int) ≤ w61_4.toInt ∧ w61_4.toInt ≤ 7 → (1 : Int) ≤ w61_5.toInt ∧ w61_5.toInt ≤ 7 → (-5 : Int) ≤ w61_6.toInt ∧ w61_6.toInt ≤ 7 → va_P D vwCl (WM K ad t) H → va_D A (WM K ad t) → va_S A s.heap H locs → lv_has ls 12 [(0, .int x0), (1, .int x1), (2, .int x2), (3, .int w61_3), (4, .int w61_4), (5, .int w61_5), (6, .int w61_6)] → W p l e (rmD 0 0 0) s m [.int x0, .int x1, .int x2].toArray below meth c H locs 0 0 (MQ below (QI D K (fun (r : Int32) (u : Unit) => (-2147483648 : Int) ≤ r.toInt ∧ r.toInt ≤ 2147483647) (fun (_ : Unit) => WM K ad t) A) [.int x0, .int x1, .int x2].toArray s 0 0 A) (F0 m 61 ls [.int k61_0]) := by
    intro w61_3 w61_4 w61_5 w61_6 k61_0 H locs ls hw61_3 hw61_4 hw61_5 hw61_6 hP hD hS hl
    refine lv_istore (lv' := [(7, .int k61_0), (0, .int x0), (1, .int x1), (2, .int x2), (3, .int w61_3), (4, .int w61_4), (5, .int w61_5), (6, .int w61_6)]) C.1 C.2.1 dX12_stored_61 hl (by decide) rfl (fun ls hl => ?_)
    have hl : lv_has ls 12 [(0, .int x0), (1, .int x1), (2, .int x2), (3, .int w61_3), (4, .int w61_4), (5, .int w61_5), (6, .int w61_6), (7, .int k61_0)] := lv_sub hl [1, 2, 3, 4, 5, 6, 7, 0] rfl
    refine lv_iload C.1 C.2.1 dX12_stored_63 (lv_at hl 6 rfl) ?_
    refine lv_if_ne (tgt := 72) C.1 C.2.1 dX12_stored_65 (by decide) (fun c_32 => ?_) (fun c_32 => ?_)
    · replace c_32 : ¬ w61_6.toInt = 0 := i_ne c_32
      refine lv_bipush (v := 6) C.1 C.2.1 dX12_stored_72 (by decide) ?_
      refine lv_iconst (v := 5) C.1 C.2.1 dX12_stored_74 (by decide) ?_
      refine lv_iload C.1 C.2.1 dX12_stored_75 (lv_at hl 4 rfl) ?_
      obtain ⟨v_33, e_34⟩ : ∃ z, z = (5 : Int32) - (w61_4 : Int32) := ⟨_, rfl⟩
      have h_35 : v_33.toInt = 5 - w61_4.toInt := by rw [e_34]; exact ti_isub (by show (_ : Int) ≤ 5 - w61_4.toInt; omega) (by show 5 - w61_4.toInt < (_ : Int); omega)
      refine k_isub (v := v_33) C e_34.symm dX12_stored_77 ?_
      obtain ⟨v_36, e_37⟩ : ∃ z, z = (6 : Int32) * (v_33 : Int32) := ⟨_, rfl⟩
      have h_38 : v_36.toInt = 6 * v_33.toInt := by rw [e_37]; exact ti_mull (k := 6) (by decide) (by omega) (by omega)
      refine k_imul (v := v_36) C e_37.symm dX12_stored_78 ?_
      exact L_79 w61_3 w61_4 w61_5 w61_6 k61_0 v_36 _ _ _ ⟨by omega, by omega⟩ ⟨by omega, by omega⟩ ⟨by omega, by omega⟩ ⟨by omega, by omega⟩ ⟨by omega, by omega⟩ hP hD hS (lv_sub hl [0, 1, 2, 3, 4, 5, 6, 7] rfl)
    · replace c_32 : w61_6.toInt = 0 := i_eq c_32
      refine lv_iconst (v := 0) C.1 C.2.1 dX12_stored_68 (by decide) ?_
      refine lv_goto (tgt := 79) C.1 C.2.1 dX12_stored_69 (by decide) ?_
      exact L_79 w61_3 w61_4 w61_5 w61_6 k61_0 0 _ _ _ ⟨by omega, by omega⟩ ⟨by omega, by omega⟩ ⟨by omega, by omega⟩ ⟨by omega, by omega⟩ ⟨by decide, by decide⟩ hP hD hS (lv_sub hl [0, 1, 2, 3, 4, 5, 6, 7] rfl)
  have L_40 : ∀ (w40_3 : Int32) (w40_4 : Int32) (w40_5 : Int32) (k40_0 : Int32) (H : Heap) (locs : List Loc) (ls : Array Slot), (0 : Int) ≤ w40_3.toInt ∧ w40_3.toInt ≤ 7 → (0 : Int) ≤ w40_4.toInt ∧ w40_4.toInt ≤ 7 → (1 : Int) ≤ w40_5.toInt ∧ w40_5.toInt ≤ 7 → (-5 : Int) ≤ k40_0.toInt ∧ k40_0.toInt ≤ 7 → va_P D vwCl (WM K ad t) H → va_D A (WM K ad t) → va_S A s.heap H locs → lv_has ls 12 [(0, .int x0), (1, .int x1), (2, .int x2), (3, .int w40_3), (4, .int w40_4), (5, .int w40_5)] → W p l e (rmD 0 0 0) s m [.int x0, .int x1, .int x2].toArray below meth c H locs 0 0 (MQ below (QI D K (fun (r : Int32) (u : Unit) => (-2147483648 : Int) ≤ r.toInt ∧ r.toInt ≤ 2147483647) (fun (_ : Unit) => WM K ad t) A) [.int x0, .int x1, .int x2].toArray s 0 0 A) (F0 m 40 ls [.int k40_0]) := by
    intro w40_3 w40_4 w40_5 k40_0 H locs ls hw40_3 hw40_4 hw40_5 hk40_0 hP hD hS hl
    refine lv_istore (lv' := [(6, .int k40_0), (0, .int x0), (1, .int x1), (2, .int x2), (3, .int w40_3), (4, .int w40_4), (5, .int w40_5)]) C.1 C.2.1 dX12_stored_40 hl (by decide) rfl (fun ls hl => ?_)
    have hl : lv_has ls 12 [(0, .int x0), (1, .int x1), (2, .int x2), (3, .int w40_3), (4, .int w40_4), (5, .int w40_5), (6, .int k40_0)] := lv_sub hl [1, 2, 3, 4, 5, 6, 0] rfl
    refine lv_iload C.1 C.2.1 dX12_stored_42 (lv_at hl 6 rfl) ?_
    refine lv_if_ne (tgt := 51) C.1 C.2.1 dX12_stored_44 (by decide) (fun c_39 => ?_) (fun c_39 => ?_)
    · replace c_39 : ¬ k40_0.toInt = 0 := i_ne c_39
      refine lv_lconst (v := 1) C.1 C.2.1 dX12_stored_51 (by decide) ?_
      refine lv_bipush (v := 6) C.1 C.2.1 dX12_stored_52 (by decide) ?_
      refine lv_iload C.1 C.2.1 dX12_stored_54 (lv_at hl 6 rfl) ?_
      obtain ⟨v_40, e_41⟩ : ∃ z, z = (6 : Int32) * (k40_0 : Int32) := ⟨_, rfl⟩
      have h_42 : v_40.toInt = 6 * k40_0.toInt := by rw [e_41]; exact ti_mull (k := 6) (by decide) (by omega) (by omega)
      refine k_imul (v := v_40) C e_41.symm dX12_stored_56 ?_
      obtain ⟨v_43, e_44⟩ : ∃ z, z = (1 : Int64) <<< ((v_40 : Int32).toInt64 &&& 63) := ⟨_, rfl⟩
      refine lv_lshl (v := v_43) C.1 C.2.1 dX12_stored_57 e_44.symm ?_
      refine lv_lconst (v := 1) C.1 C.2.1 dX12_stored_58 (by decide) ?_
      obtain ⟨v_45, e_46⟩ : ∃ z, z = (v_43 : Int64) - (1 : Int64) := ⟨_, rfl⟩
      refine k_lsub (v := v_45) C e_46.symm dX12_stored_59 ?_
      obtain ⟨v_47, e_48⟩ : ∃ z, z = (v_45).toInt32 := ⟨_, rfl⟩
      refine lv_l2i (v := v_47) C.1 C.2.1 dX12_stored_60 e_48.symm ?_
      exact L_61 w40_3 w40_4 w40_5 k40_0 v_47 _ _ _ ⟨by omega, by omega⟩ ⟨by omega, by omega⟩ ⟨by omega, by omega⟩ ⟨by omega, by omega⟩ hP hD hS (lv_sub hl [0, 1, 2, 3, 4, 5, 6] rfl)
    · replace c_39 : k40_0.toInt = 0 := i_eq c_39
      refine lv_iconst (v := 0) C.1 C.2.1 dX12_stored_47 (by decide) ?_
      refine lv_goto (tgt := 61) C.1 C.2.1 dX12_stored_48 (by decide) ?_
      exact L_61 w40_3 w40_4 w40_5 k40_0 0 _ _ _ ⟨by omega, by omega⟩ ⟨by omega, by omega⟩ ⟨by omega, by omega⟩ ⟨by omega, by omega⟩ hP hD hS (lv_sub hl [0, 1, 2, 3, 4, 5, 6] rfl)
  have L_20 : ∀ (w20_3 : Int32) (w20_4 : Int32) (k20_0 : Int32) (H : Heap) (locs : List Loc) (ls : Array Slot), (0 : Int) ≤ w20_3.toInt ∧ w20_3.toInt ≤ 7 → (0 : Int) ≤ w20_4.toInt ∧ w20_4.toInt ≤ 7 → (1 : Int) ≤ k20_0.toInt ∧ k20_0.toInt ≤ 7 → va_P D vwCl (WM K ad t) H → va_D A (WM K ad t) → va_S A s.heap H locs → lv_has ls 12 [(0, .int x0), (1, .int x1), (2, .int x2), (3, .int w20_3), (4, .int w20_4)] → W p l e (rmD 0 0 0) s m [.int x0, .int x1, .int x2].toArray below meth c H locs 0 0 (MQ below (QI D K (fun (r : Int32) (u : Unit) => (-2147483648 : Int) ≤ r.toInt ∧ r.toInt ≤ 2147483647) (fun (_ : Unit) => WM K ad t) A) [.int x0, .int x1, .int x2].toArray s 0 0 A) (F0 m 20 ls [.int k20_0]) := by
    intro w20_3 w20_4 k20_0 H locs ls hw20_3 hw20_4 hk20_0 hP hD hS hl
    refine lv_istore (lv' := [(5, .int k20_0), (0, .int x0), (1, .int x1), (2, .int x2), (3, .int w20_3), (4, .int w20_4)]) C.1 C.2.1 dX12_stored_20 hl (by decide) rfl (fun ls hl => ?_)
    have hl : lv_has ls 12 [(0, .int x0), (1, .int x1), (2, .int x2), (3, .int w20_3), (4, .int w20_4), (5, .int k20_0)] := lv_sub hl [1, 2, 3, 4, 5, 0] rfl
    refine lv_iload C.1 C.2.1 dX12_stored_22 (lv_at hl 4 rfl) ?_
    refine lv_iload C.1 C.2.1 dX12_stored_24 (lv_at hl 5 rfl) ?_
    refine lv_icmp_ge (tgt := 33) C.1 C.2.1 dX12_stored_26 (by decide) (fun c_49 => ?_) (fun c_49 => ?_)
    · replace c_49 : k20_0.toInt ≤ w20_4.toInt := i_le c_49
      refine lv_iload C.1 C.2.1 dX12_stored_33 (lv_at hl 4 rfl) ?_
      refine lv_iload C.1 C.2.1 dX12_stored_35 (lv_at hl 5 rfl) ?_
      obtain ⟨v_50, e_51⟩ : ∃ z, z = (w20_4 : Int32) - (k20_0 : Int32) := ⟨_, rfl⟩
      have h_52 : v_50.toInt = w20_4.toInt - k20_0.toInt := by rw [e_51]; exact ti_isub (by show (_ : Int) ≤ w20_4.toInt - k20_0.toInt; omega) (by show w20_4.toInt - k20_0.toInt < (_ : Int); omega)
      refine k_isub (v := v_50) C e_51.symm dX12_stored_37 ?_
      refine lv_iconst (v := 1) C.1 C.2.1 dX12_stored_38 (by decide) ?_
      obtain ⟨v_53, e_54⟩ : ∃ z, z = (v_50 : Int32) + (1 : Int32) := ⟨_, rfl⟩
      have h_55 : v_53.toInt = v_50.toInt + 1 := by rw [e_54]; exact ti_iadd (by show (_ : Int) ≤ v_50.toInt + 1; omega) (by show v_50.toInt + 1 < (_ : Int); omega)
      refine k_iadd (v := v_53) C e_54.symm dX12_stored_39 ?_
      exact L_40 w20_3 w20_4 k20_0 v_53 _ _ _ ⟨by omega, by omega⟩ ⟨by omega, by omega⟩ ⟨by omega, by omega⟩ ⟨by omega, by omega⟩ hP hD hS (lv_sub hl [0, 1, 2, 3, 4, 5] rfl)
    · replace c_49 : w20_4.toInt < k20_0.toInt := i_nle c_49
      refine lv_iconst (v := 0) C.1 C.2.1 dX12_stored_29 (by decide) ?_
      refine lv_goto (tgt := 40) C.1 C.2.1 dX12_stored_30 (by decide) ?_
      exact L_40 w20_3 w20_4 k20_0 0 _ _ _ ⟨by omega, by omega⟩ ⟨by omega, by omega⟩ ⟨by omega, by omega⟩ ⟨by decide, by decide⟩ hP hD hS (lv_sub hl [0, 1, 2, 3, 4, 5] rfl)
  refine lv_iload_n C.1 C.2.1 dX12_stored_0 rfl (lv_at hl 2 rfl) ?_
  refine lv_bipush (v := 8) C.1 C.2.1 dX12_stored_1 (by decide) ?_
  obtain ⟨v_56, e_57⟩ : ∃ z, z = (x2 : Int32) / (8 : Int32) := ⟨_, rfl⟩
  have h_58 : v_56.toInt = x2.toInt / 8 := by rw [e_57]; exact z_divp (k := 8) (by decide) (by decide) (by show (0 : Int) ≤ x2.toInt; omega)
  refine k_idiv (v := v_56) C (by decide) e_57.symm dX12_stored_3 ?_
  refine lv_istore_n (lv' := [(3, .int v_56), (0, .int x0), (1, .int x1), (2, .int x2)]) C.1 C.2.1 dX12_stored_4 rfl hl (by decide) rfl (fun ls hl => ?_)
  have hl : lv_has ls 12 [(0, .int x0), (1, .int x1), (2, .int x2), (3, .int v_56)] := lv_sub hl [1, 2, 3, 0] rfl
  refine lv_iload_n C.1 C.2.1 dX12_stored_5 rfl (lv_at hl 2 rfl) ?_
  refine lv_bipush (v := 8) C.1 C.2.1 dX12_stored_6 (by decide) ?_
  obtain ⟨v_59, e_60⟩ : ∃ z, z = (x2 : Int32) - (x2 : Int32) / (8 : Int32) * (8 : Int32) := ⟨_, rfl⟩
  have h_61 : v_59.toInt = x2.toInt % 8 := by rw [e_60]; exact z_remp (k := 8) (by decide) (by show (0 : Int) ≤ x2.toInt; omega)
  refine k_irem (v := v_59) C (by decide) e_60.symm dX12_stored_8 ?_
  refine lv_istore (lv' := [(4, .int v_59), (0, .int x0), (1, .int x1), (2, .int x2), (3, .int v_56)]) C.1 C.2.1 dX12_stored_9 hl (by decide) rfl (fun ls hl => ?_)
  have hl : lv_has ls 12 [(0, .int x0), (1, .int x1), (2, .int x2), (3, .int v_56), (4, .int v_59)] := lv_sub hl [1, 2, 3, 4, 0] rfl
  refine lv_iload_n C.1 C.2.1 dX12_stored_11 rfl (lv_at hl 3 rfl) ?_
  refine lv_if_ne (tgt := 19) C.1 C.2.1 dX12_stored_12 (by decide) (fun c_62 => ?_) (fun c_62 => ?_)
  · replace c_62 : ¬ v_56.toInt = 0 := i_ne c_62
    refine lv_iload_n C.1 C.2.1 dX12_stored_19 rfl (lv_at hl 3 rfl) ?_
    exact L_20 v_56 v_59 v_56 _ _ _ ⟨by omega, by omega⟩ ⟨by omega, by omega⟩ ⟨by omega, by omega⟩ hP hD hS (lv_sub hl [0, 1, 2, 3, 4] rfl)
  · replace c_62 : v_56.toInt = 0 := i_eq c_62
    refine lv_iconst (v := 1) C.1 C.2.1 dX12_stored_15 (by decide) ?_
    refine lv_goto (tgt := 20) C.1 C.2.1 dX12_stored_16 (by decide) ?_
    exact L_20 v_56 v_59 1 _ _ _ ⟨by omega, by omega⟩ ⟨by omega, by omega⟩ ⟨by decide, by decide⟩ hP hD hS (lv_sub hl [0, 1, 2, 3, 4] rfl)

theorem dX12_worked_0 : decode cX12_worked 0 = .ok (.iload_n 1, 1) := by decide +kernel
theorem dX12_worked_1 : decode cX12_worked 1 = .ok (.bipush 47, 2) := by decide +kernel
theorem dX12_worked_100 : decode cX12_worked 100 = .ok (.ladd, 1) := by decide +kernel
theorem dX12_worked_101 : decode cX12_worked 101 = .ok (.lstore 6, 2) := by decide +kernel
theorem dX12_worked_103 : decode cX12_worked 103 = .ok (.lload 6, 2) := by decide +kernel
theorem dX12_worked_105 : decode cX12_worked 105 = .ok (.ldc2_w 335, 3) := by decide +kernel
theorem dX12_worked_108 : decode cX12_worked 108 = .ok (.lcmp, 1) := by decide +kernel
theorem dX12_worked_109 : decode cX12_worked 109 = .ok (.ifCond .gt 12, 3) := by decide +kernel
theorem dX12_worked_11 : decode cX12_worked 11 = .ok (.lload 4, 2) := by decide +kernel
theorem dX12_worked_112 : decode cX12_worked 112 = .ok (.lload 6, 2) := by decide +kernel
theorem dX12_worked_114 : decode cX12_worked 114 = .ok (.ldc2_w 516, 3) := by decide +kernel
theorem dX12_worked_117 : decode cX12_worked 117 = .ok (.lcmp, 1) := by decide +kernel
theorem dX12_worked_118 : decode cX12_worked 118 = .ok (.ifCond .ge 8, 3) := by decide +kernel
theorem dX12_worked_121 : decode cX12_worked 121 = .ok (.aload_n 0, 1) := by decide +kernel
theorem dX12_worked_122 : decode cX12_worked 122 = .ok (.iconst 5, 1) := by decide +kernel
theorem dX12_worked_123 : decode cX12_worked 123 = .ok (.invokevirtual 478, 3) := by decide +kernel
theorem dX12_worked_126 : decode cX12_worked 126 = .ok (.aload_n 0, 1) := by decide +kernel
theorem dX12_worked_127 : decode cX12_worked 127 = .ok (.getfield 469, 3) := by decide +kernel
theorem dX12_worked_13 : decode cX12_worked 13 = .ok (.lconst 0, 1) := by decide +kernel
theorem dX12_worked_130 : decode cX12_worked 130 = .ok (.ifCond .le 7, 3) := by decide +kernel
theorem dX12_worked_133 : decode cX12_worked 133 = .ok (.iconst 0, 1) := by decide +kernel
theorem dX12_worked_134 : decode cX12_worked 134 = .ok (.goto 8, 3) := by decide +kernel
theorem dX12_worked_137 : decode cX12_worked 137 = .ok (.lload 6, 2) := by decide +kernel
theorem dX12_worked_139 : decode cX12_worked 139 = .ok (.invokestatic 342, 3) := by decide +kernel
theorem dX12_worked_14 : decode cX12_worked 14 = .ok (.lcmp, 1) := by decide +kernel
theorem dX12_worked_142 : decode cX12_worked 142 = .ok (.ireturn, 1) := by decide +kernel
theorem dX12_worked_15 : decode cX12_worked 15 = .ok (.ifCond .ne 10, 3) := by decide +kernel
theorem dX12_worked_18 : decode cX12_worked 18 = .ok (.aload_n 0, 1) := by decide +kernel
theorem dX12_worked_19 : decode cX12_worked 19 = .ok (.iconst 5, 1) := by decide +kernel
theorem dX12_worked_20 : decode cX12_worked 20 = .ok (.invokevirtual 478, 3) := by decide +kernel
theorem dX12_worked_23 : decode cX12_worked 23 = .ok (.iconst 0, 1) := by decide +kernel
theorem dX12_worked_24 : decode cX12_worked 24 = .ok (.ireturn, 1) := by decide +kernel
theorem dX12_worked_25 : decode cX12_worked 25 = .ok (.iload_n 1, 1) := by decide +kernel
theorem dX12_worked_26 : decode cX12_worked 26 = .ok (.bipush 43, 2) := by decide +kernel
theorem dX12_worked_28 : decode cX12_worked 28 = .ok (.if_icmp .ne 10, 3) := by decide +kernel
theorem dX12_worked_3 : decode cX12_worked 3 = .ok (.if_icmp .eq 8, 3) := by decide +kernel
theorem dX12_worked_31 : decode cX12_worked 31 = .ok (.lload_n 2, 1) := by decide +kernel
theorem dX12_worked_32 : decode cX12_worked 32 = .ok (.lload 4, 2) := by decide +kernel
theorem dX12_worked_34 : decode cX12_worked 34 = .ok (.ladd, 1) := by decide +kernel
theorem dX12_worked_35 : decode cX12_worked 35 = .ok (.goto 66, 3) := by decide +kernel
theorem dX12_worked_38 : decode cX12_worked 38 = .ok (.iload_n 1, 1) := by decide +kernel
theorem dX12_worked_39 : decode cX12_worked 39 = .ok (.bipush 45, 2) := by decide +kernel
theorem dX12_worked_41 : decode cX12_worked 41 = .ok (.if_icmp .ne 10, 3) := by decide +kernel
theorem dX12_worked_44 : decode cX12_worked 44 = .ok (.lload_n 2, 1) := by decide +kernel
theorem dX12_worked_45 : decode cX12_worked 45 = .ok (.lload 4, 2) := by decide +kernel
theorem dX12_worked_47 : decode cX12_worked 47 = .ok (.lsub, 1) := by decide +kernel
theorem dX12_worked_48 : decode cX12_worked 48 = .ok (.goto 53, 3) := by decide +kernel
theorem dX12_worked_51 : decode cX12_worked 51 = .ok (.iload_n 1, 1) := by decide +kernel
theorem dX12_worked_52 : decode cX12_worked 52 = .ok (.bipush 42, 2) := by decide +kernel
theorem dX12_worked_54 : decode cX12_worked 54 = .ok (.if_icmp .ne 10, 3) := by decide +kernel
theorem dX12_worked_57 : decode cX12_worked 57 = .ok (.lload_n 2, 1) := by decide +kernel
theorem dX12_worked_58 : decode cX12_worked 58 = .ok (.lload 4, 2) := by decide +kernel
theorem dX12_worked_6 : decode cX12_worked 6 = .ok (.iload_n 1, 1) := by decide +kernel
theorem dX12_worked_60 : decode cX12_worked 60 = .ok (.lmul, 1) := by decide +kernel
theorem dX12_worked_61 : decode cX12_worked 61 = .ok (.goto 40, 3) := by decide +kernel
theorem dX12_worked_64 : decode cX12_worked 64 = .ok (.iload_n 1, 1) := by decide +kernel
theorem dX12_worked_65 : decode cX12_worked 65 = .ok (.bipush 47, 2) := by decide +kernel
theorem dX12_worked_67 : decode cX12_worked 67 = .ok (.if_icmp .ne 10, 3) := by decide +kernel
theorem dX12_worked_7 : decode cX12_worked 7 = .ok (.iconst 2, 1) := by decide +kernel
theorem dX12_worked_70 : decode cX12_worked 70 = .ok (.lload_n 2, 1) := by decide +kernel
theorem dX12_worked_71 : decode cX12_worked 71 = .ok (.lload 4, 2) := by decide +kernel
theorem dX12_worked_73 : decode cX12_worked 73 = .ok (.ldiv, 1) := by decide +kernel
theorem dX12_worked_74 : decode cX12_worked 74 = .ok (.goto 27, 3) := by decide +kernel
theorem dX12_worked_77 : decode cX12_worked 77 = .ok (.iload_n 1, 1) := by decide +kernel
theorem dX12_worked_78 : decode cX12_worked 78 = .ok (.iconst 2, 1) := by decide +kernel
theorem dX12_worked_79 : decode cX12_worked 79 = .ok (.if_icmp .ne 14, 3) := by decide +kernel
theorem dX12_worked_8 : decode cX12_worked 8 = .ok (.if_icmp .ne 17, 3) := by decide +kernel
theorem dX12_worked_82 : decode cX12_worked 82 = .ok (.lload_n 2, 1) := by decide +kernel
theorem dX12_worked_83 : decode cX12_worked 83 = .ok (.ldc2_w 512, 3) := by decide +kernel
theorem dX12_worked_86 : decode cX12_worked 86 = .ok (.lmul, 1) := by decide +kernel
theorem dX12_worked_87 : decode cX12_worked 87 = .ok (.lload 4, 2) := by decide +kernel
theorem dX12_worked_89 : decode cX12_worked 89 = .ok (.ldiv, 1) := by decide +kernel
theorem dX12_worked_90 : decode cX12_worked 90 = .ok (.goto 11, 3) := by decide +kernel
theorem dX12_worked_93 : decode cX12_worked 93 = .ok (.ldc2_w 514, 3) := by decide +kernel
theorem dX12_worked_96 : decode cX12_worked 96 = .ok (.lload_n 2, 1) := by decide +kernel
theorem dX12_worked_97 : decode cX12_worked 97 = .ok (.lmul, 1) := by decide +kernel
theorem dX12_worked_98 : decode cX12_worked 98 = .ok (.lload 4, 2) := by decide +kernel
set_option maxHeartbeats 4000000 in
set_option maxRecDepth 100000 in
theorem T_X12_worked (l : Launch) (D : va_G) (K : Nat → ClassId) (Z Y : Nat → Nat) (ad : Nat → Nat) (t : tSt) (hok : okM t) (x1 : Int32) (hx1 : (-1 : Int) ≤ x1.toInt ∧ x1.toInt ≤ 255) (x2 : Int64) (hx2 : (-2147483648 : Int) ≤ x2.toInt ∧ x2.toInt ≤ 2147483647) (x3 : Int64) (hx3 : (-2147483648 : Int) ≤ x3.toInt ∧ x3.toInt ≤ 2147483647) : tMet l yX12_worked cX12_worked 8 (some .int) (rmD 1 0 0) D K Z Y [.ref (ad 0), .int x1, .long x2, .long x3] (WM K ad t) (QI D K (fun (r : Int32) (u : tSt) => okM u ∧ frA [(0, 70)] [] [] [] t u ∧ (-2147483648 : Int) ≤ r.toInt ∧ r.toInt ≤ 2147483647 ∧ ((u.1 0 70).toInt = 0 → (t.1 0 70).toInt = 0)) (fun (u : tSt) => WM K ad u)) 0 0 := by
  refine t_met RX12 ⟨rfl, by decide +kernel⟩ (Nat.le_of_ble_eq_true rfl) ?_
  intro p e s m below meth c A ls C hE hZ hr hlocks hA hP hD hS hl
  have hl : lv_has ls 8 [(0, .ref (ad 0)), (1, .int x1), (2, .long x2), (4, .long x3)] := hl
  have hokt := hok
  have hfr : frA [(0, 70)] [] [] [] t t := frA_rf
  have h_1 : (0 : Int) ≤ (t.1 0 70).toInt ∧ (t.1 0 70).toInt ≤ 8 := hok.1 0 70
  have L_126 : ∀ (t1 : tSt) (w126_6 : Int64) (H : Heap) (locs : List Loc) (ls : Array Slot), okM t1 → frA [(0, 70)] [] [] [] t t1 → ((t1.1 0 70).toInt = 0 → (t.1 0 70).toInt = 0) → va_P D vwCl (WM K ad t1) H → va_D A (WM K ad t1) → va_S A s.heap H locs → lv_has ls 8 [(0, .ref (ad 0)), (1, .int x1), (2, .long x2), (4, .long x3), (6, .long w126_6)] → W p l e (rmD 1 0 0) s m [.ref (ad 0), .int x1, .long x2, .long x3].toArray below meth c H locs 0 0 (MQ below (QI D K (fun (r : Int32) (u : tSt) => okM u ∧ frA [(0, 70)] [] [] [] t u ∧ (-2147483648 : Int) ≤ r.toInt ∧ r.toInt ≤ 2147483647 ∧ ((u.1 0 70).toInt = 0 → (t.1 0 70).toInt = 0)) (fun (u : tSt) => WM K ad u) A) [.ref (ad 0), .int x1, .long x2, .long x3].toArray s 0 0 A) (F0 m 126 ls []) := by
    intro t1 w126_6 H locs ls hok hfr hi126_0 hP hD hS hl
    have h_2 : (0 : Int) ≤ (t1.1 0 70).toInt ∧ (t1.1 0 70).toInt ≤ 8 := hok.1 0 70
    refine lv_aload_n C.1 C.2.1 dX12_worked_126 rfl (lv_at hl 0 rfl) ?_
    refine k_get (v := .int (t1.1 0 70)) C hP 0 rfl rfl inlX12 70 (by decide) m_29_13 rfl dX12_worked_127 ?_
    refine lv_if_le (tgt := 137) C.1 C.2.1 dX12_worked_130 (by decide) (fun c_3 => ?_) (fun c_3 => ?_)
    · replace c_3 : (t1.1 0 70).toInt ≤ 0 := i_le c_3
      refine lv_lload C.1 C.2.1 dX12_worked_137 (lv_at hl 4 rfl) ?_
      refine g_Si (As := [.long w126_6]) (rest := []) C hP hD hS hA (T_X12_wordOf l D K Z Y ad t1 hok (w126_6)) hE hZ (uwS m_35_4 m_35_5 m_1_5 m_35_6) (hdS 1 (by decide +kernel) rfl) ⟨Nat.le_of_ble_eq_true rfl, Nat.le_of_ble_eq_true rfl⟩ rfl rfl rfl hl.1 (Nat.le_of_ble_eq_true rfl) dX12_worked_139 ⟨Nat.le_of_ble_eq_true rfl, Nat.le_of_ble_eq_true rfl⟩ (fun r_5 t_4 H locs hw hP hD hS => ?_)
      obtain ⟨h_7, h_8⟩ := hw
      exact g_iret C hr hlocks hP hD hS rfl t1 rfl ⟨hok, hfr, (i_rng _).1, (i_rng _).2, (show (t1.1 0 70).toInt = 0 → (t.1 0 70).toInt = 0 from by omega)⟩ (Nat.le_of_ble_eq_true rfl) (Nat.le_of_ble_eq_true rfl) dX12_worked_142
    · replace c_3 : 0 < (t1.1 0 70).toInt := i_nle c_3
      refine lv_iconst (v := 0) C.1 C.2.1 dX12_worked_133 (by decide) ?_
      refine lv_goto (tgt := 142) C.1 C.2.1 dX12_worked_134 (by decide) ?_
      exact g_iret C hr hlocks hP hD hS rfl t1 rfl ⟨hok, hfr, (i_rng _).1, (i_rng _).2, (show (t1.1 0 70).toInt = 0 → (t.1 0 70).toInt = 0 from by omega)⟩ (Nat.le_of_ble_eq_true rfl) (Nat.le_of_ble_eq_true rfl) dX12_worked_142
  have L_101 : ∀ (t1 : tSt) (k101_0 : Int64) (H : Heap) (locs : List Loc) (ls : Array Slot), okM t1 → frA [(0, 70)] [] [] [] t t1 → ((t1.1 0 70).toInt = (t.1 0 70).toInt) → va_P D vwCl (WM K ad t1) H → va_D A (WM K ad t1) → va_S A s.heap H locs → lv_has ls 8 [(0, .ref (ad 0)), (1, .int x1), (2, .long x2), (4, .long x3)] → W p l e (rmD 1 0 0) s m [.ref (ad 0), .int x1, .long x2, .long x3].toArray below meth c H locs 0 0 (MQ below (QI D K (fun (r : Int32) (u : tSt) => okM u ∧ frA [(0, 70)] [] [] [] t u ∧ (-2147483648 : Int) ≤ r.toInt ∧ r.toInt ≤ 2147483647 ∧ ((u.1 0 70).toInt = 0 → (t.1 0 70).toInt = 0)) (fun (u : tSt) => WM K ad u) A) [.ref (ad 0), .int x1, .long x2, .long x3].toArray s 0 0 A) (F0 m 101 ls [.long k101_0]) := by
    intro t1 k101_0 H locs ls hok hfr hi101_0 hP hD hS hl
    have h_9 : (0 : Int) ≤ (t1.1 0 70).toInt ∧ (t1.1 0 70).toInt ≤ 8 := hok.1 0 70
    refine lv_lstore (lv' := [(6, .long k101_0), (0, .ref (ad 0)), (1, .int x1), (2, .long x2), (4, .long x3)]) C.1 C.2.1 dX12_worked_101 hl (by decide) rfl (fun ls hl => ?_)
    have hl : lv_has ls 8 [(0, .ref (ad 0)), (1, .int x1), (2, .long x2), (4, .long x3), (6, .long k101_0)] := lv_sub hl [1, 2, 3, 4, 0] rfl
    refine lv_lload C.1 C.2.1 dX12_worked_103 (lv_at hl 4 rfl) ?_
    refine lv_ldc2 (v := 1073741823) C.1 C.2.1 C.2.2.2.1 (C.2.2.2.2.1 _ m_36_3) dX12_worked_105 ?_
    obtain ⟨v_10, e_11⟩ : ∃ z, z = lg_cmp (k101_0 : Int64) 1073741823 := ⟨_, rfl⟩
    have h_12 : (-1 : Int) ≤ v_10.toInt ∧ v_10.toInt ≤ 1 := by rw [e_11]; exact cmp_rng _ _
    have h_13 : (v_10.toInt < 0 ↔ k101_0.toInt < 1073741823) ∧ (v_10.toInt = 0 ↔ k101_0.toInt = 1073741823) := by rw [e_11]; exact cmp_iff _ _
    refine k_lcmp (v := v_10) C e_11.symm dX12_worked_108 ?_
    refine lv_if_gt (tgt := 121) C.1 C.2.1 dX12_worked_109 (by decide) (fun c_14 => ?_) (fun c_14 => ?_)
    · replace c_14 : 0 < v_10.toInt := i_lt c_14
      refine lv_aload_n C.1 C.2.1 dX12_worked_121 rfl (lv_at hl 0 rfl) ?_
      refine lv_iconst (v := 5) C.1 C.2.1 dX12_worked_122 (by decide) ?_
      have h_15 : (5 : Int32).toInt = 5 := rfl
      refine g_Vv (As := [.int 5]) (rest := []) C hP hD hS hA (T_X12_fail l D K Z Y ad t1 hok 5 (show (1 : Int) ≤ (5 : Int32).toInt ∧ (5 : Int32).toInt ≤ 8 from ⟨by decide, by decide⟩) (show 1 ≤ (5 : Int32).toInt from by omega)) hE hZ (uwV m_32_22 m_32_23 m_33_0 m_1_5 m_33_1) (hdV 1 (by decide +kernel) rfl) ⟨Nat.le_of_ble_eq_true rfl, Nat.le_of_ble_eq_true rfl⟩ rfl rfl (ci := 11) (q0 := 0) rfl rfl rfl hl.1 (Nat.le_of_ble_eq_true rfl) dX12_worked_123 ⟨Nat.le_of_ble_eq_true rfl, Nat.le_of_ble_eq_true rfl⟩ (fun t_16 H locs hw hP hD hS => ?_)
      obtain ⟨hok, f_18, p_19⟩ := hw
      have hfr : frA [(0, 70)] [] [] [] t t_16 := frA_tr hfr f_18 rfl
      have h_20 : (0 : Int) ≤ (t_16.1 0 70).toInt ∧ (t_16.1 0 70).toInt ≤ 8 := hok.1 0 70
      replace p_19 : 1 ≤ (t_16.1 0 70).toInt := p_19
      exact L_126 t_16 k101_0 _ _ _ hok hfr (show (t_16.1 0 70).toInt = 0 → (t.1 0 70).toInt = 0 from by omega) hP hD hS (lv_sub hl [0, 1, 2, 3, 4] rfl)
    · replace c_14 : v_10.toInt ≤ 0 := i_nlt c_14
      refine lv_lload C.1 C.2.1 dX12_worked_112 (lv_at hl 4 rfl) ?_
      refine lv_ldc2 (v := (-1073741823)) C.1 C.2.1 C.2.2.2.1 (C.2.2.2.2.1 _ m_36_19) dX12_worked_114 ?_
      obtain ⟨v_21, e_22⟩ : ∃ z, z = lg_cmp (k101_0 : Int64) (-1073741823) := ⟨_, rfl⟩
      have h_23 : (-1 : Int) ≤ v_21.toInt ∧ v_21.toInt ≤ 1 := by rw [e_22]; exact cmp_rng _ _
      have h_24 : (v_21.toInt < 0 ↔ k101_0.toInt < (-1073741823)) ∧ (v_21.toInt = 0 ↔ k101_0.toInt = (-1073741823)) := by rw [e_22]; exact cmp_iff _ _
      refine k_lcmp (v := v_21) C e_22.symm dX12_worked_117 ?_
      refine lv_if_ge (tgt := 126) C.1 C.2.1 dX12_worked_118 (by decide) (fun c_25 => ?_) (fun c_25 => ?_)
      · replace c_25 : 0 ≤ v_21.toInt := i_le c_25
        exact L_126 t1 k101_0 _ _ _ hok hfr (show (t1.1 0 70).toInt = 0 → (t.1 0 70).toInt = 0 from by omega) hP hD hS (lv_sub hl [0, 1, 2, 3, 4] rfl)
      · replace c_25 : v_21.toInt < 0 := i_nle c_25
        refine lv_aload_n C.1 C.2.1 dX12_worked_121 rfl (lv_at hl 0 rfl) ?_
        refine lv_iconst (v := 5) C.1 C.2.1 dX12_worked_122 (by decide) ?_
        have h_26 : (5 : Int32).toInt = 5 := rfl
        refine g_Vv (As := [.int 5]) (rest := []) C hP hD hS hA (T_X12_fail l D K Z Y ad t1 hok 5 (show (1 : Int) ≤ (5 : Int32).toInt ∧ (5 : Int32).toInt ≤ 8 from ⟨by decide, by decide⟩) (show 1 ≤ (5 : Int32).toInt from by omega)) hE hZ (uwV m_32_22 m_32_23 m_33_0 m_1_5 m_33_1) (hdV 1 (by decide +kernel) rfl) ⟨Nat.le_of_ble_eq_true rfl, Nat.le_of_ble_eq_true rfl⟩ rfl rfl (ci := 11) (q0 := 0) rfl rfl rfl hl.1 (Nat.le_of_ble_eq_true rfl) dX12_worked_123 ⟨Nat.le_of_ble_eq_true rfl, Nat.le_of_ble_eq_true rfl⟩ (fun t_27 H locs hw hP hD hS => ?_)
        obtain ⟨hok, f_29, p_30⟩ := hw
        have hfr : frA [(0, 70)] [] [] [] t t_27 := frA_tr hfr f_29 rfl
        have h_31 : (0 : Int) ≤ (t_27.1 0 70).toInt ∧ (t_27.1 0 70).toInt ≤ 8 := hok.1 0 70
        replace p_30 : 1 ≤ (t_27.1 0 70).toInt := p_30
        exact L_126 t_27 k101_0 _ _ _ hok hfr (show (t_27.1 0 70).toInt = 0 → (t.1 0 70).toInt = 0 from by omega) hP hD hS (lv_sub hl [0, 1, 2, 3, 4] rfl)
  have L_25 : ∀ (t1 : tSt) (H : Heap) (locs : List Loc) (ls : Array Slot), okM t1 → frA [(0, 70)] [] [] [] t t1 → (¬ (x1.toInt = 47 ∨ x1.toInt = 2) ∨ ¬ x3.toInt = 0) → ((t1.1 0 70).toInt = (t.1 0 70).toInt) → va_P D vwCl (WM K ad t1) H → va_D A (WM K ad t1) → va_S A s.heap H locs → lv_has ls 8 [(0, .ref (ad 0)), (1, .int x1), (2, .long x2), (4, .long x3)] → W p l e (rmD 1 0 0) s m [.ref (ad 0), .int x1, .long x2, .long x3].toArray below meth c H locs 0 0 (MQ below (QI D K (fun (r : Int32) (u : tSt) => okM u ∧ frA [(0, 70)] [] [] [] t u ∧ (-2147483648 : Int) ≤ r.toInt ∧ r.toInt ≤ 2147483647 ∧ ((u.1 0 70).toInt = 0 → (t.1 0 70).toInt = 0)) (fun (u : tSt) => WM K ad u) A) [.ref (ad 0), .int x1, .long x2, .long x3].toArray s 0 0 A) (F0 m 25 ls []) := by
    intro t1 H locs ls hok hfr hi25_0 hi25_1 hP hD hS hl
    have h_32 : (0 : Int) ≤ (t1.1 0 70).toInt ∧ (t1.1 0 70).toInt ≤ 8 := hok.1 0 70
    refine lv_iload_n C.1 C.2.1 dX12_worked_25 rfl (lv_at hl 1 rfl) ?_
    refine lv_bipush (v := 43) C.1 C.2.1 dX12_worked_26 (by decide) ?_
    refine lv_icmp_ne (tgt := 38) C.1 C.2.1 dX12_worked_28 (by decide) (fun c_33 => ?_) (fun c_33 => ?_)
    · replace c_33 : ¬ x1.toInt = 43 := i_ne c_33
      refine lv_iload_n C.1 C.2.1 dX12_worked_38 rfl (lv_at hl 1 rfl) ?_
      refine lv_bipush (v := 45) C.1 C.2.1 dX12_worked_39 (by decide) ?_
      refine lv_icmp_ne (tgt := 51) C.1 C.2.1 dX12_worked_41 (by decide) (fun c_34 => ?_) (fun c_34 => ?_)
      · replace c_34 : ¬ x1.toInt = 45 := i_ne c_34
        refine lv_iload_n C.1 C.2.1 dX12_worked_51 rfl (lv_at hl 1 rfl) ?_
        refine lv_bipush (v := 42) C.1 C.2.1 dX12_worked_52 (by decide) ?_
        refine lv_icmp_ne (tgt := 64) C.1 C.2.1 dX12_worked_54 (by decide) (fun c_35 => ?_) (fun c_35 => ?_)
        · replace c_35 : ¬ x1.toInt = 42 := i_ne c_35
          refine lv_iload_n C.1 C.2.1 dX12_worked_64 rfl (lv_at hl 1 rfl) ?_
          refine lv_bipush (v := 47) C.1 C.2.1 dX12_worked_65 (by decide) ?_
          refine lv_icmp_ne (tgt := 77) C.1 C.2.1 dX12_worked_67 (by decide) (fun c_36 => ?_) (fun c_36 => ?_)
          · replace c_36 : ¬ x1.toInt = 47 := i_ne c_36
            refine lv_iload_n C.1 C.2.1 dX12_worked_77 rfl (lv_at hl 1 rfl) ?_
            refine lv_iconst (v := 2) C.1 C.2.1 dX12_worked_78 (by decide) ?_
            refine lv_icmp_ne (tgt := 93) C.1 C.2.1 dX12_worked_79 (by decide) (fun c_37 => ?_) (fun c_37 => ?_)
            · replace c_37 : ¬ x1.toInt = 2 := i_ne c_37
              refine lv_ldc2 (v := 8) C.1 C.2.1 C.2.2.2.1 (C.2.2.2.2.1 _ m_36_18) dX12_worked_93 ?_
              refine lv_lload_n C.1 C.2.1 dX12_worked_96 rfl (lv_at hl 2 rfl) ?_
              obtain ⟨v_38, e_39⟩ : ∃ z, z = (8 : Int64) * (x2 : Int64) := ⟨_, rfl⟩
              have h_40 : v_38.toInt = 8 * x2.toInt := by rw [e_39]; exact tl_mull (k := 8) (by decide) (by omega) (by omega)
              refine k_lmul (v := v_38) C e_39.symm dX12_worked_97 ?_
              refine lv_lload C.1 C.2.1 dX12_worked_98 (lv_at hl 3 rfl) ?_
              obtain ⟨v_41, e_42⟩ : ∃ z, z = (v_38 : Int64) + (x3 : Int64) := ⟨_, rfl⟩
              have h_43 : v_41.toInt = v_38.toInt + x3.toInt := by rw [e_42]; exact Jvm.Kit.i64_add (by show (_ : Int) ≤ v_38.toInt + x3.toInt; omega) (by show v_38.toInt + x3.toInt < (_ : Int); omega)
              refine k_ladd (v := v_41) C e_42.symm dX12_worked_100 ?_
              exact L_101 t1 v_41 _ _ _ hok hfr (show (t1.1 0 70).toInt = (t.1 0 70).toInt from by omega) hP hD hS (lv_sub hl [0, 1, 2, 3] rfl)
            · replace c_37 : x1.toInt = 2 := i_eq c_37
              refine lv_lload_n C.1 C.2.1 dX12_worked_82 rfl (lv_at hl 2 rfl) ?_
              refine lv_ldc2 (v := 1073741824) C.1 C.2.1 C.2.2.2.1 (C.2.2.2.2.1 _ m_36_17) dX12_worked_83 ?_
              obtain ⟨v_44, e_45⟩ : ∃ z, z = (x2 : Int64) * (1073741824 : Int64) := ⟨_, rfl⟩
              have h_46 : v_44.toInt = x2.toInt * 1073741824 := by rw [e_45]; exact tl_mulr (k := 1073741824) (by decide) (by omega) (by omega)
              refine k_lmul (v := v_44) C e_45.symm dX12_worked_86 ?_
              refine lv_lload C.1 C.2.1 dX12_worked_87 (lv_at hl 3 rfl) ?_
              obtain ⟨v_47, e_48⟩ : ∃ z, z = (v_44 : Int64) / (x3 : Int64) := ⟨_, rfl⟩
              refine k_ldiv (v := v_47) C (show ¬ (x3 : Int64) = 0 from fun hz => by have hz2 : (x3 : Int64).toInt = 0 := (by rw [hz]; rfl); omega) e_48.symm dX12_worked_89 ?_
              refine lv_goto (tgt := 101) C.1 C.2.1 dX12_worked_90 (by decide) ?_
              exact L_101 t1 v_47 _ _ _ hok hfr (show (t1.1 0 70).toInt = (t.1 0 70).toInt from by omega) hP hD hS (lv_sub hl [0, 1, 2, 3] rfl)
          · replace c_36 : x1.toInt = 47 := i_eq c_36
            refine lv_lload_n C.1 C.2.1 dX12_worked_70 rfl (lv_at hl 2 rfl) ?_
            refine lv_lload C.1 C.2.1 dX12_worked_71 (lv_at hl 3 rfl) ?_
            obtain ⟨v_49, e_50⟩ : ∃ z, z = (x2 : Int64) / (x3 : Int64) := ⟨_, rfl⟩
            refine k_ldiv (v := v_49) C (show ¬ (x3 : Int64) = 0 from fun hz => by have hz2 : (x3 : Int64).toInt = 0 := (by rw [hz]; rfl); omega) e_50.symm dX12_worked_73 ?_
            refine lv_goto (tgt := 101) C.1 C.2.1 dX12_worked_74 (by decide) ?_
            exact L_101 t1 v_49 _ _ _ hok hfr (show (t1.1 0 70).toInt = (t.1 0 70).toInt from by omega) hP hD hS (lv_sub hl [0, 1, 2, 3] rfl)
        · replace c_35 : x1.toInt = 42 := i_eq c_35
          refine lv_lload_n C.1 C.2.1 dX12_worked_57 rfl (lv_at hl 2 rfl) ?_
          refine lv_lload C.1 C.2.1 dX12_worked_58 (lv_at hl 3 rfl) ?_
          obtain ⟨v_51, e_52⟩ : ∃ z, z = (x2 : Int64) * (x3 : Int64) := ⟨_, rfl⟩
          refine k_lmul (v := v_51) C e_52.symm dX12_worked_60 ?_
          refine lv_goto (tgt := 101) C.1 C.2.1 dX12_worked_61 (by decide) ?_
          exact L_101 t1 v_51 _ _ _ hok hfr (show (t1.1 0 70).toInt = (t.1 0 70).toInt from by omega) hP hD hS (lv_sub hl [0, 1, 2, 3] rfl)
      · replace c_34 : x1.toInt = 45 := i_eq c_34
        refine lv_lload_n C.1 C.2.1 dX12_worked_44 rfl (lv_at hl 2 rfl) ?_
        refine lv_lload C.1 C.2.1 dX12_worked_45 (lv_at hl 3 rfl) ?_
        obtain ⟨v_53, e_54⟩ : ∃ z, z = (x2 : Int64) - (x3 : Int64) := ⟨_, rfl⟩
        have h_55 : v_53.toInt = x2.toInt - x3.toInt := by rw [e_54]; exact Jvm.Kit.i64_sub (by show (_ : Int) ≤ x2.toInt - x3.toInt; omega) (by show x2.toInt - x3.toInt < (_ : Int); omega)
        refine k_lsub (v := v_53) C e_54.symm dX12_worked_47 ?_
        refine lv_goto (tgt := 101) C.1 C.2.1 dX12_worked_48 (by decide) ?_
        exact L_101 t1 v_53 _ _ _ hok hfr (show (t1.1 0 70).toInt = (t.1 0 70).toInt from by omega) hP hD hS (lv_sub hl [0, 1, 2, 3] rfl)
    · replace c_33 : x1.toInt = 43 := i_eq c_33
      refine lv_lload_n C.1 C.2.1 dX12_worked_31 rfl (lv_at hl 2 rfl) ?_
      refine lv_lload C.1 C.2.1 dX12_worked_32 (lv_at hl 3 rfl) ?_
      obtain ⟨v_56, e_57⟩ : ∃ z, z = (x2 : Int64) + (x3 : Int64) := ⟨_, rfl⟩
      have h_58 : v_56.toInt = x2.toInt + x3.toInt := by rw [e_57]; exact Jvm.Kit.i64_add (by show (_ : Int) ≤ x2.toInt + x3.toInt; omega) (by show x2.toInt + x3.toInt < (_ : Int); omega)
      refine k_ladd (v := v_56) C e_57.symm dX12_worked_34 ?_
      refine lv_goto (tgt := 101) C.1 C.2.1 dX12_worked_35 (by decide) ?_
      exact L_101 t1 v_56 _ _ _ hok hfr (show (t1.1 0 70).toInt = (t.1 0 70).toInt from by omega) hP hD hS (lv_sub hl [0, 1, 2, 3] rfl)
  refine lv_iload_n C.1 C.2.1 dX12_worked_0 rfl (lv_at hl 1 rfl) ?_
  refine lv_bipush (v := 47) C.1 C.2.1 dX12_worked_1 (by decide) ?_
  refine lv_icmp_eq (tgt := 11) C.1 C.2.1 dX12_worked_3 (by decide) (fun c_59 => ?_) (fun c_59 => ?_)
  · replace c_59 : x1.toInt = 47 := i_eq c_59
    refine lv_lload C.1 C.2.1 dX12_worked_11 (lv_at hl 3 rfl) ?_
    refine lv_lconst (v := 0) C.1 C.2.1 dX12_worked_13 (by decide) ?_
    obtain ⟨v_60, e_61⟩ : ∃ z, z = lg_cmp (x3 : Int64) 0 := ⟨_, rfl⟩
    have h_62 : (-1 : Int) ≤ v_60.toInt ∧ v_60.toInt ≤ 1 := by rw [e_61]; exact cmp_rng _ _
    have h_63 : (v_60.toInt < 0 ↔ x3.toInt < 0) ∧ (v_60.toInt = 0 ↔ x3.toInt = 0) := by rw [e_61]; exact cmp_iff _ _
    refine k_lcmp (v := v_60) C e_61.symm dX12_worked_14 ?_
    refine lv_if_ne (tgt := 25) C.1 C.2.1 dX12_worked_15 (by decide) (fun c_64 => ?_) (fun c_64 => ?_)
    · replace c_64 : ¬ v_60.toInt = 0 := i_ne c_64
      exact L_25 t _ _ _ hok hfr (show ¬ (x1.toInt = 47 ∨ x1.toInt = 2) ∨ ¬ x3.toInt = 0 from by omega) (show (t.1 0 70).toInt = (t.1 0 70).toInt from by omega) hP hD hS (lv_sub hl [0, 1, 2, 3] rfl)
    · replace c_64 : v_60.toInt = 0 := i_eq c_64
      refine lv_aload_n C.1 C.2.1 dX12_worked_18 rfl (lv_at hl 0 rfl) ?_
      refine lv_iconst (v := 5) C.1 C.2.1 dX12_worked_19 (by decide) ?_
      have h_65 : (5 : Int32).toInt = 5 := rfl
      refine g_Vv (As := [.int 5]) (rest := []) C hP hD hS hA (T_X12_fail l D K Z Y ad t hok 5 (show (1 : Int) ≤ (5 : Int32).toInt ∧ (5 : Int32).toInt ≤ 8 from ⟨by decide, by decide⟩) (show 1 ≤ (5 : Int32).toInt from by omega)) hE hZ (uwV m_32_22 m_32_23 m_33_0 m_1_5 m_33_1) (hdV 1 (by decide +kernel) rfl) ⟨Nat.le_of_ble_eq_true rfl, Nat.le_of_ble_eq_true rfl⟩ rfl rfl (ci := 11) (q0 := 0) rfl rfl rfl hl.1 (Nat.le_of_ble_eq_true rfl) dX12_worked_20 ⟨Nat.le_of_ble_eq_true rfl, Nat.le_of_ble_eq_true rfl⟩ (fun t_66 H locs hw hP hD hS => ?_)
      obtain ⟨hok, f_68, p_69⟩ := hw
      have hfr : frA [(0, 70)] [] [] [] t t_66 := frA_tr hfr f_68 rfl
      have h_70 : (0 : Int) ≤ (t_66.1 0 70).toInt ∧ (t_66.1 0 70).toInt ≤ 8 := hok.1 0 70
      replace p_69 : 1 ≤ (t_66.1 0 70).toInt := p_69
      refine lv_iconst (v := 0) C.1 C.2.1 dX12_worked_23 (by decide) ?_
      exact g_iret C hr hlocks hP hD hS rfl t_66 rfl ⟨hok, hfr, (i_rng _).1, (i_rng _).2, (show (t_66.1 0 70).toInt = 0 → (t.1 0 70).toInt = 0 from by omega)⟩ (Nat.le_of_ble_eq_true rfl) (Nat.le_of_ble_eq_true rfl) dX12_worked_24
  · replace c_59 : ¬ x1.toInt = 47 := i_ne c_59
    refine lv_iload_n C.1 C.2.1 dX12_worked_6 rfl (lv_at hl 1 rfl) ?_
    refine lv_iconst (v := 2) C.1 C.2.1 dX12_worked_7 (by decide) ?_
    refine lv_icmp_ne (tgt := 25) C.1 C.2.1 dX12_worked_8 (by decide) (fun c_71 => ?_) (fun c_71 => ?_)
    · replace c_71 : ¬ x1.toInt = 2 := i_ne c_71
      exact L_25 t _ _ _ hok hfr (show ¬ (x1.toInt = 47 ∨ x1.toInt = 2) ∨ ¬ x3.toInt = 0 from by omega) (show (t.1 0 70).toInt = (t.1 0 70).toInt from by omega) hP hD hS (lv_sub hl [0, 1, 2, 3] rfl)
    · replace c_71 : x1.toInt = 2 := i_eq c_71
      refine lv_lload C.1 C.2.1 dX12_worked_11 (lv_at hl 3 rfl) ?_
      refine lv_lconst (v := 0) C.1 C.2.1 dX12_worked_13 (by decide) ?_
      obtain ⟨v_72, e_73⟩ : ∃ z, z = lg_cmp (x3 : Int64) 0 := ⟨_, rfl⟩
      have h_74 : (-1 : Int) ≤ v_72.toInt ∧ v_72.toInt ≤ 1 := by rw [e_73]; exact cmp_rng _ _
      have h_75 : (v_72.toInt < 0 ↔ x3.toInt < 0) ∧ (v_72.toInt = 0 ↔ x3.toInt = 0) := by rw [e_73]; exact cmp_iff _ _
      refine k_lcmp (v := v_72) C e_73.symm dX12_worked_14 ?_
      refine lv_if_ne (tgt := 25) C.1 C.2.1 dX12_worked_15 (by decide) (fun c_76 => ?_) (fun c_76 => ?_)
      · replace c_76 : ¬ v_72.toInt = 0 := i_ne c_76
        exact L_25 t _ _ _ hok hfr (show ¬ (x1.toInt = 47 ∨ x1.toInt = 2) ∨ ¬ x3.toInt = 0 from by omega) (show (t.1 0 70).toInt = (t.1 0 70).toInt from by omega) hP hD hS (lv_sub hl [0, 1, 2, 3] rfl)
      · replace c_76 : v_72.toInt = 0 := i_eq c_76
        refine lv_aload_n C.1 C.2.1 dX12_worked_18 rfl (lv_at hl 0 rfl) ?_
        refine lv_iconst (v := 5) C.1 C.2.1 dX12_worked_19 (by decide) ?_
        have h_77 : (5 : Int32).toInt = 5 := rfl
        refine g_Vv (As := [.int 5]) (rest := []) C hP hD hS hA (T_X12_fail l D K Z Y ad t hok 5 (show (1 : Int) ≤ (5 : Int32).toInt ∧ (5 : Int32).toInt ≤ 8 from ⟨by decide, by decide⟩) (show 1 ≤ (5 : Int32).toInt from by omega)) hE hZ (uwV m_32_22 m_32_23 m_33_0 m_1_5 m_33_1) (hdV 1 (by decide +kernel) rfl) ⟨Nat.le_of_ble_eq_true rfl, Nat.le_of_ble_eq_true rfl⟩ rfl rfl (ci := 11) (q0 := 0) rfl rfl rfl hl.1 (Nat.le_of_ble_eq_true rfl) dX12_worked_20 ⟨Nat.le_of_ble_eq_true rfl, Nat.le_of_ble_eq_true rfl⟩ (fun t_78 H locs hw hP hD hS => ?_)
        obtain ⟨hok, f_80, p_81⟩ := hw
        have hfr : frA [(0, 70)] [] [] [] t t_78 := frA_tr hfr f_80 rfl
        have h_82 : (0 : Int) ≤ (t_78.1 0 70).toInt ∧ (t_78.1 0 70).toInt ≤ 8 := hok.1 0 70
        replace p_81 : 1 ≤ (t_78.1 0 70).toInt := p_81
        refine lv_iconst (v := 0) C.1 C.2.1 dX12_worked_23 (by decide) ?_
        exact g_iret C hr hlocks hP hD hS rfl t_78 rfl ⟨hok, hfr, (i_rng _).1, (i_rng _).2, (show (t_78.1 0 70).toInt = 0 → (t.1 0 70).toInt = 0 from by omega)⟩ (Nat.le_of_ble_eq_true rfl) (Nat.le_of_ble_eq_true rfl) dX12_worked_24

theorem dX12_putFuture_0 : decode cX12_putFuture 0 = .ok (.aload_n 0, 1) := by decide +kernel
theorem dX12_putFuture_1 : decode cX12_putFuture 1 = .ok (.getfield 494, 3) := by decide +kernel
theorem dX12_putFuture_100 : decode cX12_putFuture 100 = .ok (.goto 4, 3) := by decide +kernel
theorem dX12_putFuture_103 : decode cX12_putFuture 103 = .ok (.iconst 0, 1) := by decide +kernel
theorem dX12_putFuture_104 : decode cX12_putFuture 104 = .ok (.invokevirtual 614, 3) := by decide +kernel
theorem dX12_putFuture_107 : decode cX12_putFuture 107 = .ok (.aload_n 0, 1) := by decide +kernel
theorem dX12_putFuture_108 : decode cX12_putFuture 108 = .ok (.getfield 152, 3) := by decide +kernel
theorem dX12_putFuture_111 : decode cX12_putFuture 111 = .ok (.iload_n 1, 1) := by decide +kernel
theorem dX12_putFuture_112 : decode cX12_putFuture 112 = .ok (.iconst 1, 1) := by decide +kernel
theorem dX12_putFuture_113 : decode cX12_putFuture 113 = .ok (.bastore, 1) := by decide +kernel
theorem dX12_putFuture_114 : decode cX12_putFuture 114 = .ok (.aload_n 0, 1) := by decide +kernel
theorem dX12_putFuture_115 : decode cX12_putFuture 115 = .ok (.getfield 122, 3) := by decide +kernel
theorem dX12_putFuture_118 : decode cX12_putFuture 118 = .ok (.iload_n 1, 1) := by decide +kernel
theorem dX12_putFuture_119 : decode cX12_putFuture 119 = .ok (.iload_n 2, 1) := by decide +kernel
theorem dX12_putFuture_12 : decode cX12_putFuture 12 = .ok (.aload_n 0, 1) := by decide +kernel
theorem dX12_putFuture_120 : decode cX12_putFuture 120 = .ok (.i2l, 1) := by decide +kernel
theorem dX12_putFuture_121 : decode cX12_putFuture 121 = .ok (.invokestatic 342, 3) := by decide +kernel
theorem dX12_putFuture_124 : decode cX12_putFuture 124 = .ok (.iastore, 1) := by decide +kernel
theorem dX12_putFuture_125 : decode cX12_putFuture 125 = .ok (.aload_n 0, 1) := by decide +kernel
theorem dX12_putFuture_126 : decode cX12_putFuture 126 = .ok (.getfield 469, 3) := by decide +kernel
theorem dX12_putFuture_129 : decode cX12_putFuture 129 = .ok (.ifCond .gt 12, 3) := by decide +kernel
theorem dX12_putFuture_13 : decode cX12_putFuture 13 = .ok (.getfield 110, 3) := by decide +kernel
theorem dX12_putFuture_132 : decode cX12_putFuture 132 = .ok (.aload_n 0, 1) := by decide +kernel
theorem dX12_putFuture_133 : decode cX12_putFuture 133 = .ok (.getfield 110, 3) := by decide +kernel
theorem dX12_putFuture_136 : decode cX12_putFuture 136 = .ok (.iload_n 1, 1) := by decide +kernel
theorem dX12_putFuture_137 : decode cX12_putFuture 137 = .ok (.iaload, 1) := by decide +kernel
theorem dX12_putFuture_138 : decode cX12_putFuture 138 = .ok (.ifCond .eq 4, 3) := by decide +kernel
theorem dX12_putFuture_141 : decode cX12_putFuture 141 = .ok (.return_, 1) := by decide +kernel
theorem dX12_putFuture_142 : decode cX12_putFuture 142 = .ok (.aload_n 0, 1) := by decide +kernel
theorem dX12_putFuture_143 : decode cX12_putFuture 143 = .ok (.getfield 92, 3) := by decide +kernel
theorem dX12_putFuture_146 : decode cX12_putFuture 146 = .ok (.aload_n 0, 1) := by decide +kernel
theorem dX12_putFuture_147 : decode cX12_putFuture 147 = .ok (.getfield 113, 3) := by decide +kernel
theorem dX12_putFuture_150 : decode cX12_putFuture 150 = .ok (.iload_n 1, 1) := by decide +kernel
theorem dX12_putFuture_151 : decode cX12_putFuture 151 = .ok (.iaload, 1) := by decide +kernel
theorem dX12_putFuture_152 : decode cX12_putFuture 152 = .ok (.aload_n 0, 1) := by decide +kernel
theorem dX12_putFuture_153 : decode cX12_putFuture 153 = .ok (.getfield 122, 3) := by decide +kernel
theorem dX12_putFuture_156 : decode cX12_putFuture 156 = .ok (.iload_n 1, 1) := by decide +kernel
theorem dX12_putFuture_157 : decode cX12_putFuture 157 = .ok (.iaload, 1) := by decide +kernel
theorem dX12_putFuture_158 : decode cX12_putFuture 158 = .ok (.iastore, 1) := by decide +kernel
theorem dX12_putFuture_159 : decode cX12_putFuture 159 = .ok (.aload_n 0, 1) := by decide +kernel
theorem dX12_putFuture_16 : decode cX12_putFuture 16 = .ok (.iload_n 1, 1) := by decide +kernel
theorem dX12_putFuture_160 : decode cX12_putFuture 160 = .ok (.getfield 95, 3) := by decide +kernel
theorem dX12_putFuture_163 : decode cX12_putFuture 163 = .ok (.aload_n 0, 1) := by decide +kernel
theorem dX12_putFuture_164 : decode cX12_putFuture 164 = .ok (.getfield 113, 3) := by decide +kernel
theorem dX12_putFuture_167 : decode cX12_putFuture 167 = .ok (.iload_n 1, 1) := by decide +kernel
theorem dX12_putFuture_168 : decode cX12_putFuture 168 = .ok (.iaload, 1) := by decide +kernel
theorem dX12_putFuture_169 : decode cX12_putFuture 169 = .ok (.iconst 1, 1) := by decide +kernel
theorem dX12_putFuture_17 : decode cX12_putFuture 17 = .ok (.iaload, 1) := by decide +kernel
theorem dX12_putFuture_170 : decode cX12_putFuture 170 = .ok (.bastore, 1) := by decide +kernel
theorem dX12_putFuture_171 : decode cX12_putFuture 171 = .ok (.return_, 1) := by decide +kernel
theorem dX12_putFuture_18 : decode cX12_putFuture 18 = .ok (.iconst 2, 1) := by decide +kernel
theorem dX12_putFuture_19 : decode cX12_putFuture 19 = .ok (.if_icmp .ge 64, 3) := by decide +kernel
theorem dX12_putFuture_22 : decode cX12_putFuture 22 = .ok (.aload_n 0, 1) := by decide +kernel
theorem dX12_putFuture_23 : decode cX12_putFuture 23 = .ok (.getfield 110, 3) := by decide +kernel
theorem dX12_putFuture_26 : decode cX12_putFuture 26 = .ok (.iload_n 3, 1) := by decide +kernel
theorem dX12_putFuture_27 : decode cX12_putFuture 27 = .ok (.iaload, 1) := by decide +kernel
theorem dX12_putFuture_28 : decode cX12_putFuture 28 = .ok (.aload_n 0, 1) := by decide +kernel
theorem dX12_putFuture_29 : decode cX12_putFuture 29 = .ok (.getfield 110, 3) := by decide +kernel
theorem dX12_putFuture_32 : decode cX12_putFuture 32 = .ok (.iload_n 1, 1) := by decide +kernel
theorem dX12_putFuture_33 : decode cX12_putFuture 33 = .ok (.iaload, 1) := by decide +kernel
theorem dX12_putFuture_34 : decode cX12_putFuture 34 = .ok (.if_icmp .ne 43, 3) := by decide +kernel
theorem dX12_putFuture_37 : decode cX12_putFuture 37 = .ok (.aload_n 0, 1) := by decide +kernel
theorem dX12_putFuture_38 : decode cX12_putFuture 38 = .ok (.getfield 113, 3) := by decide +kernel
theorem dX12_putFuture_4 : decode cX12_putFuture 4 = .ok (.istore_n 2, 1) := by decide +kernel
theorem dX12_putFuture_41 : decode cX12_putFuture 41 = .ok (.iload_n 3, 1) := by decide +kernel
theorem dX12_putFuture_42 : decode cX12_putFuture 42 = .ok (.iaload, 1) := by decide +kernel
theorem dX12_putFuture_43 : decode cX12_putFuture 43 = .ok (.aload_n 0, 1) := by decide +kernel
theorem dX12_putFuture_44 : decode cX12_putFuture 44 = .ok (.getfield 113, 3) := by decide +kernel
theorem dX12_putFuture_47 : decode cX12_putFuture 47 = .ok (.iload_n 1, 1) := by decide +kernel
theorem dX12_putFuture_48 : decode cX12_putFuture 48 = .ok (.iaload, 1) := by decide +kernel
theorem dX12_putFuture_49 : decode cX12_putFuture 49 = .ok (.if_icmp .ne 28, 3) := by decide +kernel
theorem dX12_putFuture_5 : decode cX12_putFuture 5 = .ok (.iconst 0, 1) := by decide +kernel
theorem dX12_putFuture_52 : decode cX12_putFuture 52 = .ok (.aload_n 0, 1) := by decide +kernel
theorem dX12_putFuture_53 : decode cX12_putFuture 53 = .ok (.getfield 152, 3) := by decide +kernel
theorem dX12_putFuture_56 : decode cX12_putFuture 56 = .ok (.iload_n 3, 1) := by decide +kernel
theorem dX12_putFuture_57 : decode cX12_putFuture 57 = .ok (.baload, 1) := by decide +kernel
theorem dX12_putFuture_58 : decode cX12_putFuture 58 = .ok (.ifCond .ne 6, 3) := by decide +kernel
theorem dX12_putFuture_6 : decode cX12_putFuture 6 = .ok (.istore_n 3, 1) := by decide +kernel
theorem dX12_putFuture_61 : decode cX12_putFuture 61 = .ok (.goto 16, 3) := by decide +kernel
theorem dX12_putFuture_64 : decode cX12_putFuture 64 = .ok (.aload_n 0, 1) := by decide +kernel
theorem dX12_putFuture_65 : decode cX12_putFuture 65 = .ok (.getfield 122, 3) := by decide +kernel
theorem dX12_putFuture_68 : decode cX12_putFuture 68 = .ok (.iload_n 1, 1) := by decide +kernel
theorem dX12_putFuture_69 : decode cX12_putFuture 69 = .ok (.aload_n 0, 1) := by decide +kernel
theorem dX12_putFuture_7 : decode cX12_putFuture 7 = .ok (.iload_n 3, 1) := by decide +kernel
theorem dX12_putFuture_70 : decode cX12_putFuture 70 = .ok (.getfield 122, 3) := by decide +kernel
theorem dX12_putFuture_73 : decode cX12_putFuture 73 = .ok (.iload_n 3, 1) := by decide +kernel
theorem dX12_putFuture_74 : decode cX12_putFuture 74 = .ok (.iaload, 1) := by decide +kernel
theorem dX12_putFuture_75 : decode cX12_putFuture 75 = .ok (.iastore, 1) := by decide +kernel
theorem dX12_putFuture_76 : decode cX12_putFuture 76 = .ok (.return_, 1) := by decide +kernel
theorem dX12_putFuture_77 : decode cX12_putFuture 77 = .ok (.iinc 3 1, 3) := by decide +kernel
theorem dX12_putFuture_8 : decode cX12_putFuture 8 = .ok (.iload_n 1, 1) := by decide +kernel
theorem dX12_putFuture_80 : decode cX12_putFuture 80 = .ok (.goto (-73), 3) := by decide +kernel
theorem dX12_putFuture_83 : decode cX12_putFuture 83 = .ok (.aload_n 0, 1) := by decide +kernel
theorem dX12_putFuture_84 : decode cX12_putFuture 84 = .ok (.aload_n 0, 1) := by decide +kernel
theorem dX12_putFuture_85 : decode cX12_putFuture 85 = .ok (.getfield 110, 3) := by decide +kernel
theorem dX12_putFuture_88 : decode cX12_putFuture 88 = .ok (.iload_n 1, 1) := by decide +kernel
theorem dX12_putFuture_89 : decode cX12_putFuture 89 = .ok (.iaload, 1) := by decide +kernel
theorem dX12_putFuture_9 : decode cX12_putFuture 9 = .ok (.if_icmp .ge 74, 3) := by decide +kernel
theorem dX12_putFuture_90 : decode cX12_putFuture 90 = .ok (.iconst 2, 1) := by decide +kernel
theorem dX12_putFuture_91 : decode cX12_putFuture 91 = .ok (.if_icmp .ne 12, 3) := by decide +kernel
theorem dX12_putFuture_94 : decode cX12_putFuture 94 = .ok (.aload_n 0, 1) := by decide +kernel
theorem dX12_putFuture_95 : decode cX12_putFuture 95 = .ok (.getfield 122, 3) := by decide +kernel
theorem dX12_putFuture_98 : decode cX12_putFuture 98 = .ok (.iload_n 1, 1) := by decide +kernel
theorem dX12_putFuture_99 : decode cX12_putFuture 99 = .ok (.iaload, 1) := by decide +kernel
set_option maxHeartbeats 4000000 in
set_option maxRecDepth 100000 in
theorem T_X12_putFuture (l : Launch) (D : va_G) (K : Nat → ClassId) (Z Y : Nat → Nat) (ad : Nat → Nat) (t : tSt) (hok : okM t) (x1 : Int32) (hx1 : (0 : Int) ≤ x1.toInt ∧ x1.toInt ≤ 1199) : tMet l yX12_putFuture cX12_putFuture 4 none (rmD 2 0 0) D K Z Y [.ref (ad 0), .int x1] (WM K ad t) (QV D K (fun (u : tSt) => okM u ∧ frA [(0, 47), (0, 48), (0, 70)] [] [2, 21, 22, 24, 25, 34, 44] [] t u) (fun (u : tSt) => WM K ad u)) 0 0 := by
  refine t_met RX12 ⟨rfl, by decide +kernel⟩ (Nat.le_of_ble_eq_true rfl) ?_
  intro p e s m below meth c A ls C hE hZ hr hlocks hA hP hD hS hl
  have hl : lv_has ls 4 [(0, .ref (ad 0)), (1, .int x1)] := hl
  have hokt := hok
  have hfr : frA [(0, 47), (0, 48), (0, 70)] [] [2, 21, 22, 24, 25, 34, 44] [] t t := frA_rf
  have h_1 : (-3999 : Int) ≤ (t.1 0 47).toInt ∧ (t.1 0 47).toInt ≤ 4000 := hok.1 0 47
  have h_2 : (0 : Int) ≤ (t.1 0 70).toInt ∧ (t.1 0 70).toInt ≤ 8 := hok.1 0 70
  have L_104 : ∀ (t1 : tSt) (w104_2 : Int32) (w104_3 : Int32) (k104_1 : Int32) (H : Heap) (locs : List Loc) (ls : Array Slot), okM t1 → frA [(0, 47), (0, 48), (0, 70)] [] [2, 21, 22, 24, 25, 34, 44] [] t t1 → (-3999 : Int) ≤ w104_2.toInt ∧ w104_2.toInt ≤ 4000 → (0 : Int) ≤ w104_3.toInt ∧ w104_3.toInt ≤ 1260 → va_P D vwCl (WM K ad t1) H → va_D A (WM K ad t1) → va_S A s.heap H locs → lv_has ls 4 [(0, .ref (ad 0)), (1, .int x1), (2, .int w104_2), (3, .int w104_3)] → W p l e (rmD 2 0 0) s m [.ref (ad 0), .int x1].toArray below meth c H locs 0 0 (MQ below (QV D K (fun (u : tSt) => okM u ∧ frA [(0, 47), (0, 48), (0, 70)] [] [2, 21, 22, 24, 25, 34, 44] [] t u) (fun (u : tSt) => WM K ad u) A) [.ref (ad 0), .int x1].toArray s 0 0 A) (F0 m 104 ls [.int k104_1, .ref (ad 0)]) := by
    intro t1 w104_2 w104_3 k104_1 H locs ls hok hfr hw104_2 hw104_3 hP hD hS hl
    have h_3 : (-3999 : Int) ≤ (t1.1 0 47).toInt ∧ (t1.1 0 47).toInt ≤ 4000 := hok.1 0 47
    have h_4 : (0 : Int) ≤ (t1.1 0 70).toInt ∧ (t1.1 0 70).toInt ≤ 8 := hok.1 0 70
    refine g_Vv (As := [.int k104_1]) (rest := []) C hP hD hS hA (T_X12_putWord l D K Z Y ad t1 hok (k104_1)) hE hZ (uwV m_38_11 m_38_12 m_38_13 m_1_5 m_38_14) (hdV 1 (by decide +kernel) rfl) ⟨Nat.le_of_ble_eq_true rfl, Nat.le_of_ble_eq_true rfl⟩ rfl rfl (ci := 11) (q0 := 0) rfl rfl rfl hl.1 (Nat.le_of_ble_eq_true rfl) dX12_putFuture_104 ⟨Nat.le_of_ble_eq_true rfl, Nat.le_of_ble_eq_true rfl⟩ (fun t_5 H locs hw hP hD hS => ?_)
    obtain ⟨hok, f_7, p_8, p_9⟩ := hw
    have hfr : frA [(0, 47), (0, 48), (0, 70)] [] [2, 21, 22, 24, 25, 34, 44] [] t t_5 := frA_tr hfr f_7 rfl
    have h_10 : (-3999 : Int) ≤ (t_5.1 0 47).toInt ∧ (t_5.1 0 47).toInt ≤ 4000 := hok.1 0 47
    have h_11 : (0 : Int) ≤ (t_5.1 0 70).toInt ∧ (t_5.1 0 70).toInt ≤ 8 := hok.1 0 70
    replace p_8 : (t_5.1 0 70).toInt = 0 → (t1.1 0 47).toInt ≤ 3999 := p_8
    replace p_9 : (t_5.1 0 70).toInt = 0 → (t1.1 0 70).toInt = 0 := p_9
    refine lv_aload_n C.1 C.2.1 dX12_putFuture_107 rfl (lv_at hl 0 rfl) ?_
    refine k_get (v := .ref (ad 44)) C hP 0 rfl rfl inlX12 92 (by decide) m_9_4 rfl dX12_putFuture_108 ?_
    refine lv_iload_n C.1 C.2.1 dX12_putFuture_111 rfl (lv_at hl 1 rfl) ?_
    refine lv_iconst (v := 1) C.1 C.2.1 dX12_putFuture_112 (by decide) ?_
    obtain ⟨v_12, e_13⟩ : ∃ z, z = vp_nar .boolean 1 := ⟨_, rfl⟩
    have h_14 : (0 : Int) ≤ v_12.toInt ∧ v_12.toInt ≤ 1 := by rw [e_13]; exact nar_boolean _
    refine k_zst (ws' := WM K ad (uB t_5 44 (x1 : Int32).toNatClampNeg v_12)) (x' := v_12) C hP hD hS 44 rfl (vp_in_iff.mpr ⟨by omega, by omega⟩) rfl e_13.symm rfl dX12_putFuture_113 (fun H locs hP hD hS => ?_)
    have hok : okM (uB t_5 44 (x1 : Int32).toNatClampNeg v_12) := ⟨hok.1, okB_B hok.2.1 44 _ v_12 (show (0 : Int) ≤ (v_12 : Int32).toInt ∧ (v_12 : Int32).toInt ≤ 1 from ⟨by omega, by omega⟩), hok.2.2.1, hok.2.2.2.1, hok.2.2.2.2.1, hok.2.2.2.2.2.1, hok.2.2.2.2.2.2.1, trivial⟩
    have hfr : frA [(0, 47), (0, 48), (0, 70)] [] [2, 21, 22, 24, 25, 34, 44] [] t (uB t_5 44 (x1 : Int32).toNatClampNeg v_12) := frA_B hfr 44 _ _ rfl
    refine lv_aload_n C.1 C.2.1 dX12_putFuture_114 rfl (lv_at hl 0 rfl) ?_
    refine k_get (v := .ref (ad 34)) C hP 0 rfl rfl inlX12 65 (by decide) m_8_18 rfl dX12_putFuture_115 ?_
    refine lv_iload_n C.1 C.2.1 dX12_putFuture_118 rfl (lv_at hl 1 rfl) ?_
    refine lv_iload_n C.1 C.2.1 dX12_putFuture_119 rfl (lv_at hl 2 rfl) ?_
    obtain ⟨v_15, e_16⟩ : ∃ z, z = (w104_2 : Int32).toInt64 := ⟨_, rfl⟩
    have h_17 : v_15.toInt = w104_2.toInt := by rw [e_16]; exact Jvm.Kit.i64_of_i32 _
    refine lv_i2l (v := v_15) C.1 C.2.1 dX12_putFuture_120 e_16.symm ?_
    refine g_Si (As := [.long v_15]) (rest := [.int x1, .ref (ad 34)]) C hP hD hS hA (T_X12_wordOf l D K Z Y ad (uB t_5 44 (x1 : Int32).toNatClampNeg v_12) hok (v_15)) hE hZ (uwS m_35_4 m_35_5 m_1_5 m_35_6) (hdS 1 (by decide +kernel) rfl) ⟨Nat.le_of_ble_eq_true rfl, Nat.le_of_ble_eq_true rfl⟩ rfl rfl rfl hl.1 (Nat.le_of_ble_eq_true rfl) dX12_putFuture_121 ⟨Nat.le_of_ble_eq_true rfl, Nat.le_of_ble_eq_true rfl⟩ (fun r_19 t_18 H locs hw hP hD hS => ?_)
    obtain ⟨h_21, h_22⟩ := hw
    obtain ⟨t_23, e_24⟩ : ∃ z, z = (uB t_5 44 (x1 : Int32).toNatClampNeg v_12) := ⟨_, rfl⟩
    rw [← e_24] at hP hD hok hfr
    have h_25 : (t_23.1 0 47).toInt = (t_5.1 0 47).toInt := by rw [e_24]; rfl
    have h_26 : (t_23.1 0 70).toInt = (t_5.1 0 70).toInt := by rw [e_24]; rfl
    refine k_ist (ws' := WM K ad (uB t_23 34 (x1 : Int32).toNatClampNeg r_19)) (x' := r_19) C hP hD hS 34 rfl (vp_in_iff.mpr ⟨by omega, by omega⟩) rfl rfl rfl dX12_putFuture_124 (fun H locs hP hD hS => ?_)
    have hok : okM (uB t_23 34 (x1 : Int32).toNatClampNeg r_19) := ⟨hok.1, okB_B hok.2.1 34 _ r_19 (show (-2147483648 : Int) ≤ (r_19 : Int32).toInt ∧ (r_19 : Int32).toInt ≤ 2147483647 from (i_rng _)), hok.2.2.1, hok.2.2.2.1, hok.2.2.2.2.1, hok.2.2.2.2.2.1, hok.2.2.2.2.2.2.1, trivial⟩
    have hfr : frA [(0, 47), (0, 48), (0, 70)] [] [2, 21, 22, 24, 25, 34, 44] [] t (uB t_23 34 (x1 : Int32).toNatClampNeg r_19) := frA_B hfr 34 _ _ rfl
    refine lv_aload_n C.1 C.2.1 dX12_putFuture_125 rfl (lv_at hl 0 rfl) ?_
    have h_27 : (0 : Int) ≤ (t_23.1 0 70).toInt ∧ (t_23.1 0 70).toInt ≤ 8 := hok.1 0 70
    refine k_get (v := .int (t_23.1 0 70)) C hP 0 rfl rfl inlX12 70 (by decide) m_29_13 rfl dX12_putFuture_126 ?_
    refine lv_if_gt (tgt := 141) C.1 C.2.1 dX12_putFuture_129 (by decide) (fun c_28 => ?_) (fun c_28 => ?_)
    · replace c_28 : 0 < (t_23.1 0 70).toInt := i_lt c_28
      exact g_vret C hr hlocks hP hD hS (uB t_23 34 (x1 : Int32).toNatClampNeg r_19) rfl ⟨hok, hfr⟩ (Nat.le_of_ble_eq_true rfl) (Nat.le_of_ble_eq_true rfl) dX12_putFuture_141
    · replace c_28 : (t_23.1 0 70).toInt ≤ 0 := i_nlt c_28
      refine lv_aload_n C.1 C.2.1 dX12_putFuture_132 rfl (lv_at hl 0 rfl) ?_
      refine k_get (v := .ref (ad 30)) C hP 0 rfl rfl inlX12 61 (by decide) m_8_14 rfl dX12_putFuture_133 ?_
      refine lv_iload_n C.1 C.2.1 dX12_putFuture_136 rfl (lv_at hl 1 rfl) ?_
      have e_29 : (uB t_23 34 (x1 : Int32).toNatClampNeg r_19).2.2.1 30 = t_23.2.2.1 30 := (uB_ne rfl)
      obtain ⟨v_30, e_31⟩ : ∃ z, z = (t_23.2.2.1 30 (x1 : Int32).toNatClampNeg) := ⟨_, rfl⟩
      have h_32 : (-1 : Int) ≤ v_30.toInt ∧ v_30.toInt ≤ 2 := by rw [e_31, ← e_29]; exact hok.2.1 30 _
      refine k_ild (v := v_30) C hP 30 rfl (vp_in_iff.mpr ⟨by omega, by omega⟩) ((congrFun e_29 _).trans e_31.symm) dX12_putFuture_137 ?_
      refine lv_if_eq (tgt := 142) C.1 C.2.1 dX12_putFuture_138 (by decide) (fun c_33 => ?_) (fun c_33 => ?_)
      · replace c_33 : v_30.toInt = 0 := i_eq c_33
        refine lv_aload_n C.1 C.2.1 dX12_putFuture_142 rfl (lv_at hl 0 rfl) ?_
        refine k_get (v := .ref (ad 24)) C hP 0 rfl rfl inlX12 54 (by decide) m_8_8 rfl dX12_putFuture_143 ?_
        refine lv_aload_n C.1 C.2.1 dX12_putFuture_146 rfl (lv_at hl 0 rfl) ?_
        refine k_get (v := .ref (ad 31)) C hP 0 rfl rfl inlX12 62 (by decide) m_8_15 rfl dX12_putFuture_147 ?_
        refine lv_iload_n C.1 C.2.1 dX12_putFuture_150 rfl (lv_at hl 1 rfl) ?_
        have e_34 : (uB t_23 34 (x1 : Int32).toNatClampNeg r_19).2.2.1 31 = t_23.2.2.1 31 := (uB_ne rfl)
        obtain ⟨v_35, e_36⟩ : ∃ z, z = (t_23.2.2.1 31 (x1 : Int32).toNatClampNeg) := ⟨_, rfl⟩
        have h_37 : (0 : Int) ≤ v_35.toInt ∧ v_35.toInt ≤ 1199 := by rw [e_36, ← e_34]; exact hok.2.1 31 _
        refine k_ild (v := v_35) C hP 31 rfl (vp_in_iff.mpr ⟨by omega, by omega⟩) ((congrFun e_34 _).trans e_36.symm) dX12_putFuture_151 ?_
        refine lv_aload_n C.1 C.2.1 dX12_putFuture_152 rfl (lv_at hl 0 rfl) ?_
        refine k_get (v := .ref (ad 34)) C hP 0 rfl rfl inlX12 65 (by decide) m_8_18 rfl dX12_putFuture_153 ?_
        refine lv_iload_n C.1 C.2.1 dX12_putFuture_156 rfl (lv_at hl 1 rfl) ?_
        obtain ⟨v_38, e_39⟩ : ∃ z, z = ((uB t_23 34 (x1 : Int32).toNatClampNeg r_19).2.2.1 34 (x1 : Int32).toNatClampNeg) := ⟨_, rfl⟩
        refine k_ild (v := v_38) C hP 34 rfl (vp_in_iff.mpr ⟨by omega, by omega⟩) e_39.symm dX12_putFuture_157 ?_
        obtain ⟨t_40, e_41⟩ : ∃ z, z = (uB t_23 34 (x1 : Int32).toNatClampNeg r_19) := ⟨_, rfl⟩
        rw [← e_41] at hP hD hok hfr
        have h_42 : (t_40.1 0 70).toInt = ((t_23.1 0 70) : Int32).toInt := by rw [e_41]; rfl
        have h_43 : (t_40.1 0 47).toInt = (t_23.1 0 47).toInt := by rw [e_41]; rfl
        refine k_ist (ws' := WM K ad (uB t_40 24 (v_35 : Int32).toNatClampNeg v_38)) (x' := v_38) C hP hD hS 24 rfl (vp_in_iff.mpr ⟨by omega, by omega⟩) rfl rfl rfl dX12_putFuture_158 (fun H locs hP hD hS => ?_)
        have hok : okM (uB t_40 24 (v_35 : Int32).toNatClampNeg v_38) := ⟨hok.1, okB_B hok.2.1 24 _ v_38 (show (-2147483648 : Int) ≤ (v_38 : Int32).toInt ∧ (v_38 : Int32).toInt ≤ 2147483647 from (i_rng _)), hok.2.2.1, hok.2.2.2.1, hok.2.2.2.2.1, hok.2.2.2.2.2.1, hok.2.2.2.2.2.2.1, trivial⟩
        have hfr : frA [(0, 47), (0, 48), (0, 70)] [] [2, 21, 22, 24, 25, 34, 44] [] t (uB t_40 24 (v_35 : Int32).toNatClampNeg v_38) := frA_B hfr 24 _ _ rfl
        refine lv_aload_n C.1 C.2.1 dX12_putFuture_159 rfl (lv_at hl 0 rfl) ?_
        refine k_get (v := .ref (ad 25)) C hP 0 rfl rfl inlX12 55 (by decide) m_8_9 rfl dX12_putFuture_160 ?_
        refine lv_aload_n C.1 C.2.1 dX12_putFuture_163 rfl (lv_at hl 0 rfl) ?_
        refine k_get (v := .ref (ad 31)) C hP 0 rfl rfl inlX12 62 (by decide) m_8_15 rfl dX12_putFuture_164 ?_
        refine lv_iload_n C.1 C.2.1 dX12_putFuture_167 rfl (lv_at hl 1 rfl) ?_
        have e_44 : (uB t_40 24 (v_35 : Int32).toNatClampNeg v_38).2.2.1 31 = t_40.2.2.1 31 := (uB_ne rfl)
        obtain ⟨v_45, e_46⟩ : ∃ z, z = (t_40.2.2.1 31 (x1 : Int32).toNatClampNeg) := ⟨_, rfl⟩
        have h_47 : (0 : Int) ≤ v_45.toInt ∧ v_45.toInt ≤ 1199 := by rw [e_46, ← e_44]; exact hok.2.1 31 _
        refine k_ild (v := v_45) C hP 31 rfl (vp_in_iff.mpr ⟨by omega, by omega⟩) ((congrFun e_44 _).trans e_46.symm) dX12_putFuture_168 ?_
        refine lv_iconst (v := 1) C.1 C.2.1 dX12_putFuture_169 (by decide) ?_
        obtain ⟨t_48, e_49⟩ : ∃ z, z = (uB t_40 24 (v_35 : Int32).toNatClampNeg v_38) := ⟨_, rfl⟩
        rw [← e_49] at hP hD hok hfr
        have h_50 : (t_48.1 0 70).toInt = ((t_40.1 0 70) : Int32).toInt := by rw [e_49]; rfl
        have h_51 : (t_48.1 0 47).toInt = (t_40.1 0 47).toInt := by rw [e_49]; rfl
        obtain ⟨v_52, e_53⟩ : ∃ z, z = vp_nar .boolean 1 := ⟨_, rfl⟩
        have h_54 : (0 : Int) ≤ v_52.toInt ∧ v_52.toInt ≤ 1 := by rw [e_53]; exact nar_boolean _
        refine k_zst (ws' := WM K ad (uB t_48 25 (v_45 : Int32).toNatClampNeg v_52)) (x' := v_52) C hP hD hS 25 rfl (vp_in_iff.mpr ⟨by omega, by omega⟩) rfl e_53.symm rfl dX12_putFuture_170 (fun H locs hP hD hS => ?_)
        have hok : okM (uB t_48 25 (v_45 : Int32).toNatClampNeg v_52) := ⟨hok.1, okB_B hok.2.1 25 _ v_52 (show (0 : Int) ≤ (v_52 : Int32).toInt ∧ (v_52 : Int32).toInt ≤ 1 from ⟨by omega, by omega⟩), hok.2.2.1, hok.2.2.2.1, hok.2.2.2.2.1, hok.2.2.2.2.2.1, hok.2.2.2.2.2.2.1, trivial⟩
        have hfr : frA [(0, 47), (0, 48), (0, 70)] [] [2, 21, 22, 24, 25, 34, 44] [] t (uB t_48 25 (v_45 : Int32).toNatClampNeg v_52) := frA_B hfr 25 _ _ rfl
        exact g_vret C hr hlocks hP hD hS (uB t_48 25 (v_45 : Int32).toNatClampNeg v_52) rfl ⟨hok, hfr⟩ (Nat.le_of_ble_eq_true rfl) (Nat.le_of_ble_eq_true rfl) dX12_putFuture_171
      · replace c_33 : ¬ v_30.toInt = 0 := i_ne c_33
        exact g_vret C hr hlocks hP hD hS (uB t_23 34 (x1 : Int32).toNatClampNeg r_19) rfl ⟨hok, hfr⟩ (Nat.le_of_ble_eq_true rfl) (Nat.le_of_ble_eq_true rfl) dX12_putFuture_141
  have L_83 : ∀ (t1 : tSt) (w83_2 : Int32) (w83_3 : Int32) (H : Heap) (locs : List Loc) (ls : Array Slot), okM t1 → frA [(0, 47), (0, 48), (0, 70)] [] [2, 21, 22, 24, 25, 34, 44] [] t t1 → (-3999 : Int) ≤ w83_2.toInt ∧ w83_2.toInt ≤ 4000 → (0 : Int) ≤ w83_3.toInt ∧ w83_3.toInt ≤ 1260 → va_P D vwCl (WM K ad t1) H → va_D A (WM K ad t1) → va_S A s.heap H locs → lv_has ls 4 [(0, .ref (ad 0)), (1, .int x1), (2, .int w83_2), (3, .int w83_3)] → W p l e (rmD 2 0 0) s m [.ref (ad 0), .int x1].toArray below meth c H locs 0 0 (MQ below (QV D K (fun (u : tSt) => okM u ∧ frA [(0, 47), (0, 48), (0, 70)] [] [2, 21, 22, 24, 25, 34, 44] [] t u) (fun (u : tSt) => WM K ad u) A) [.ref (ad 0), .int x1].toArray s 0 0 A) (F0 m 83 ls []) := by
    intro t1 w83_2 w83_3 H locs ls hok hfr hw83_2 hw83_3 hP hD hS hl
    have h_55 : (-3999 : Int) ≤ (t1.1 0 47).toInt ∧ (t1.1 0 47).toInt ≤ 4000 := hok.1 0 47
    have h_56 : (0 : Int) ≤ (t1.1 0 70).toInt ∧ (t1.1 0 70).toInt ≤ 8 := hok.1 0 70
    refine lv_aload_n C.1 C.2.1 dX12_putFuture_83 rfl (lv_at hl 0 rfl) ?_
    refine lv_aload_n C.1 C.2.1 dX12_putFuture_84 rfl (lv_at hl 0 rfl) ?_
    refine k_get (v := .ref (ad 30)) C hP 0 rfl rfl inlX12 61 (by decide) m_8_14 rfl dX12_putFuture_85 ?_
    refine lv_iload_n C.1 C.2.1 dX12_putFuture_88 rfl (lv_at hl 1 rfl) ?_
    obtain ⟨v_57, e_58⟩ : ∃ z, z = (t1.2.2.1 30 (x1 : Int32).toNatClampNeg) := ⟨_, rfl⟩
    have h_59 : (-1 : Int) ≤ v_57.toInt ∧ v_57.toInt ≤ 2 := by rw [e_58]; exact hok.2.1 30 _
    refine k_ild (v := v_57) C hP 30 rfl (vp_in_iff.mpr ⟨by omega, by omega⟩) e_58.symm dX12_putFuture_89 ?_
    refine lv_iconst (v := 2) C.1 C.2.1 dX12_putFuture_90 (by decide) ?_
    refine lv_icmp_ne (tgt := 103) C.1 C.2.1 dX12_putFuture_91 (by decide) (fun c_60 => ?_) (fun c_60 => ?_)
    · replace c_60 : ¬ v_57.toInt = 2 := i_ne c_60
      refine lv_iconst (v := 0) C.1 C.2.1 dX12_putFuture_103 (by decide) ?_
      exact L_104 t1 w83_2 w83_3 0 _ _ _ hok hfr ⟨by omega, by omega⟩ ⟨by omega, by omega⟩ hP hD hS (lv_sub hl [0, 1, 2, 3] rfl)
    · replace c_60 : v_57.toInt = 2 := i_eq c_60
      refine lv_aload_n C.1 C.2.1 dX12_putFuture_94 rfl (lv_at hl 0 rfl) ?_
      refine k_get (v := .ref (ad 34)) C hP 0 rfl rfl inlX12 65 (by decide) m_8_18 rfl dX12_putFuture_95 ?_
      refine lv_iload_n C.1 C.2.1 dX12_putFuture_98 rfl (lv_at hl 1 rfl) ?_
      obtain ⟨v_61, e_62⟩ : ∃ z, z = (t1.2.2.1 34 (x1 : Int32).toNatClampNeg) := ⟨_, rfl⟩
      refine k_ild (v := v_61) C hP 34 rfl (vp_in_iff.mpr ⟨by omega, by omega⟩) e_62.symm dX12_putFuture_99 ?_
      refine lv_goto (tgt := 104) C.1 C.2.1 dX12_putFuture_100 (by decide) ?_
      exact L_104 t1 w83_2 w83_3 v_61 _ _ _ hok hfr ⟨by omega, by omega⟩ ⟨by omega, by omega⟩ hP hD hS (lv_sub hl [0, 1, 2, 3] rfl)
  have L_7 : ∀ (fuel_7 : Nat) (t1 : tSt) (w7_2 : Int32) (w7_3 : Int32) (H : Heap) (locs : List Loc) (ls : Array Slot), okM t1 → frA [(0, 47), (0, 48), (0, 70)] [] [2, 21, 22, 24, 25, 34, 44] [] t t1 → (-3999 : Int) ≤ w7_2.toInt ∧ w7_2.toInt ≤ 4000 → (0 : Int) ≤ w7_3.toInt ∧ w7_3.toInt ≤ 1260 → (1260 : Int) - w7_3.toInt < (fuel_7 : Int) → va_P D vwCl (WM K ad t1) H → va_D A (WM K ad t1) → va_S A s.heap H locs → lv_has ls 4 [(0, .ref (ad 0)), (1, .int x1), (2, .int w7_2), (3, .int w7_3)] → W p l e (rmD 2 0 0) s m [.ref (ad 0), .int x1].toArray below meth c H locs 0 0 (MQ below (QV D K (fun (u : tSt) => okM u ∧ frA [(0, 47), (0, 48), (0, 70)] [] [2, 21, 22, 24, 25, 34, 44] [] t u) (fun (u : tSt) => WM K ad u) A) [.ref (ad 0), .int x1].toArray s 0 0 A) (F0 m 7 ls []) := by
    intro fuel_7
    induction fuel_7 with
    | zero =>
      intro t1 w7_2 w7_3 H locs ls hok hfr hw7_2 hw7_3 hm7_7 hP hD hS hl
      have h_63 : (-3999 : Int) ≤ (t1.1 0 47).toInt ∧ (t1.1 0 47).toInt ≤ 4000 := hok.1 0 47
      have h_64 : (0 : Int) ≤ (t1.1 0 70).toInt ∧ (t1.1 0 70).toInt ≤ 8 := hok.1 0 70
      exact absurd hm7_7 (by omega)
    | succ fuel_7 ih_7 =>
      intro t1 w7_2 w7_3 H locs ls hok hfr hw7_2 hw7_3 hm7_7 hP hD hS hl
      have hm7_7 : (1260 : Int) - w7_3.toInt < (fuel_7 : Int) + 1 := by omega
      have h_65 : (-3999 : Int) ≤ (t1.1 0 47).toInt ∧ (t1.1 0 47).toInt ≤ 4000 := hok.1 0 47
      have h_66 : (0 : Int) ≤ (t1.1 0 70).toInt ∧ (t1.1 0 70).toInt ≤ 8 := hok.1 0 70
      have L_77 : ∀ (t1 : tSt) (w77_2 : Int32) (w77_3 : Int32) (H : Heap) (locs : List Loc) (ls : Array Slot), okM t1 → frA [(0, 47), (0, 48), (0, 70)] [] [2, 21, 22, 24, 25, 34, 44] [] t t1 → (1 : Int) ≤ x1.toInt ∧ x1.toInt ≤ 1199 → (-3999 : Int) ≤ w77_2.toInt ∧ w77_2.toInt ≤ 4000 → (0 : Int) ≤ w77_3.toInt ∧ w77_3.toInt ≤ 1198 → (1260 : Int) - w77_3.toInt < (fuel_7 : Int) + 1 → va_P D vwCl (WM K ad t1) H → va_D A (WM K ad t1) → va_S A s.heap H locs → lv_has ls 4 [(0, .ref (ad 0)), (1, .int x1), (2, .int w77_2), (3, .int w77_3)] → W p l e (rmD 2 0 0) s m [.ref (ad 0), .int x1].toArray below meth c H locs 0 0 (MQ below (QV D K (fun (u : tSt) => okM u ∧ frA [(0, 47), (0, 48), (0, 70)] [] [2, 21, 22, 24, 25, 34, 44] [] t u) (fun (u : tSt) => WM K ad u) A) [.ref (ad 0), .int x1].toArray s 0 0 A) (F0 m 77 ls []) := by
        intro t1 w77_2 w77_3 H locs ls hok hfr hx77_1 hw77_2 hw77_3 hm77_7 hP hD hS hl
        have h_67 : (-3999 : Int) ≤ (t1.1 0 47).toInt ∧ (t1.1 0 47).toInt ≤ 4000 := hok.1 0 47
        have h_68 : (0 : Int) ≤ (t1.1 0 70).toInt ∧ (t1.1 0 70).toInt ≤ 8 := hok.1 0 70
        obtain ⟨v_69, e_70⟩ : ∃ z, z = w77_3 + 1 := ⟨_, rfl⟩
        have h_71 : v_69.toInt = w77_3.toInt + 1 := by rw [e_70]; exact ti_iadd (by show (_ : Int) ≤ w77_3.toInt + 1; omega) (by show w77_3.toInt + 1 < (_ : Int); omega)
        refine lv_iinc (v := v_69) (lv' := [(3, .int v_69), (0, .ref (ad 0)), (1, .int x1), (2, .int w77_2)]) C.1 C.2.1 dX12_putFuture_77 hl (k := 3) rfl e_70.symm (by decide) rfl (fun ls hl => ?_)
        have hl : lv_has ls 4 [(0, .ref (ad 0)), (1, .int x1), (2, .int w77_2), (3, .int v_69)] := lv_sub hl [1, 2, 3, 0] rfl
        refine lv_goto (tgt := 7) C.1 C.2.1 dX12_putFuture_80 (by decide) ?_
        exact ih_7 t1 w77_2 v_69 _ _ _ hok hfr ⟨by omega, by omega⟩ ⟨by omega, by omega⟩ (show (1260 : Int) - v_69.toInt < (fuel_7 : Int) from by omega) hP hD hS (lv_sub hl [0, 1, 2, 3] rfl)
      refine lv_iload_n C.1 C.2.1 dX12_putFuture_7 rfl (lv_at hl 3 rfl) ?_
      refine lv_iload_n C.1 C.2.1 dX12_putFuture_8 rfl (lv_at hl 1 rfl) ?_
      refine lv_icmp_ge (tgt := 83) C.1 C.2.1 dX12_putFuture_9 (by decide) (fun c_72 => ?_) (fun c_72 => ?_)
      · replace c_72 : x1.toInt ≤ w7_3.toInt := i_le c_72
        exact L_83 t1 w7_2 w7_3 _ _ _ hok hfr ⟨by omega, by omega⟩ ⟨by omega, by omega⟩ hP hD hS (lv_sub hl [0, 1, 2, 3] rfl)
      · replace c_72 : w7_3.toInt < x1.toInt := i_nle c_72
        refine lv_aload_n C.1 C.2.1 dX12_putFuture_12 rfl (lv_at hl 0 rfl) ?_
        refine k_get (v := .ref (ad 30)) C hP 0 rfl rfl inlX12 61 (by decide) m_8_14 rfl dX12_putFuture_13 ?_
        refine lv_iload_n C.1 C.2.1 dX12_putFuture_16 rfl (lv_at hl 1 rfl) ?_
        obtain ⟨v_73, e_74⟩ : ∃ z, z = (t1.2.2.1 30 (x1 : Int32).toNatClampNeg) := ⟨_, rfl⟩
        have h_75 : (-1 : Int) ≤ v_73.toInt ∧ v_73.toInt ≤ 2 := by rw [e_74]; exact hok.2.1 30 _
        refine k_ild (v := v_73) C hP 30 rfl (vp_in_iff.mpr ⟨by omega, by omega⟩) e_74.symm dX12_putFuture_17 ?_
        refine lv_iconst (v := 2) C.1 C.2.1 dX12_putFuture_18 (by decide) ?_
        refine lv_icmp_ge (tgt := 83) C.1 C.2.1 dX12_putFuture_19 (by decide) (fun c_76 => ?_) (fun c_76 => ?_)
        · replace c_76 : 2 ≤ v_73.toInt := i_le c_76
          exact L_83 t1 w7_2 w7_3 _ _ _ hok hfr ⟨by omega, by omega⟩ ⟨by omega, by omega⟩ hP hD hS (lv_sub hl [0, 1, 2, 3] rfl)
        · replace c_76 : v_73.toInt < 2 := i_nle c_76
          refine lv_aload_n C.1 C.2.1 dX12_putFuture_22 rfl (lv_at hl 0 rfl) ?_
          refine k_get (v := .ref (ad 30)) C hP 0 rfl rfl inlX12 61 (by decide) m_8_14 rfl dX12_putFuture_23 ?_
          refine lv_iload_n C.1 C.2.1 dX12_putFuture_26 rfl (lv_at hl 3 rfl) ?_
          obtain ⟨v_77, e_78⟩ : ∃ z, z = (t1.2.2.1 30 (w7_3 : Int32).toNatClampNeg) := ⟨_, rfl⟩
          have h_79 : (-1 : Int) ≤ v_77.toInt ∧ v_77.toInt ≤ 2 := by rw [e_78]; exact hok.2.1 30 _
          refine k_ild (v := v_77) C hP 30 rfl (vp_in_iff.mpr ⟨by omega, by omega⟩) e_78.symm dX12_putFuture_27 ?_
          refine lv_aload_n C.1 C.2.1 dX12_putFuture_28 rfl (lv_at hl 0 rfl) ?_
          refine k_get (v := .ref (ad 30)) C hP 0 rfl rfl inlX12 61 (by decide) m_8_14 rfl dX12_putFuture_29 ?_
          refine lv_iload_n C.1 C.2.1 dX12_putFuture_32 rfl (lv_at hl 1 rfl) ?_
          obtain ⟨v_80, e_81⟩ : ∃ z, z = (t1.2.2.1 30 (x1 : Int32).toNatClampNeg) := ⟨_, rfl⟩
          have h_82 : (-1 : Int) ≤ v_80.toInt ∧ v_80.toInt ≤ 2 := by rw [e_81]; exact hok.2.1 30 _
          refine k_ild (v := v_80) C hP 30 rfl (vp_in_iff.mpr ⟨by omega, by omega⟩) e_81.symm dX12_putFuture_33 ?_
          refine lv_icmp_ne (tgt := 77) C.1 C.2.1 dX12_putFuture_34 (by decide) (fun c_83 => ?_) (fun c_83 => ?_)
          · replace c_83 : ¬ v_77.toInt = v_80.toInt := i_ne c_83
            exact L_77 t1 w7_2 w7_3 _ _ _ hok hfr ⟨by omega, by omega⟩ ⟨by omega, by omega⟩ ⟨by omega, by omega⟩ (show (1260 : Int) - w7_3.toInt < (fuel_7 : Int) + 1 from by omega) hP hD hS (lv_sub hl [0, 1, 2, 3] rfl)
          · replace c_83 : v_77.toInt = v_80.toInt := i_eq c_83
            refine lv_aload_n C.1 C.2.1 dX12_putFuture_37 rfl (lv_at hl 0 rfl) ?_
            refine k_get (v := .ref (ad 31)) C hP 0 rfl rfl inlX12 62 (by decide) m_8_15 rfl dX12_putFuture_38 ?_
            refine lv_iload_n C.1 C.2.1 dX12_putFuture_41 rfl (lv_at hl 3 rfl) ?_
            obtain ⟨v_84, e_85⟩ : ∃ z, z = (t1.2.2.1 31 (w7_3 : Int32).toNatClampNeg) := ⟨_, rfl⟩
            have h_86 : (0 : Int) ≤ v_84.toInt ∧ v_84.toInt ≤ 1199 := by rw [e_85]; exact hok.2.1 31 _
            refine k_ild (v := v_84) C hP 31 rfl (vp_in_iff.mpr ⟨by omega, by omega⟩) e_85.symm dX12_putFuture_42 ?_
            refine lv_aload_n C.1 C.2.1 dX12_putFuture_43 rfl (lv_at hl 0 rfl) ?_
            refine k_get (v := .ref (ad 31)) C hP 0 rfl rfl inlX12 62 (by decide) m_8_15 rfl dX12_putFuture_44 ?_
            refine lv_iload_n C.1 C.2.1 dX12_putFuture_47 rfl (lv_at hl 1 rfl) ?_
            obtain ⟨v_87, e_88⟩ : ∃ z, z = (t1.2.2.1 31 (x1 : Int32).toNatClampNeg) := ⟨_, rfl⟩
            have h_89 : (0 : Int) ≤ v_87.toInt ∧ v_87.toInt ≤ 1199 := by rw [e_88]; exact hok.2.1 31 _
            refine k_ild (v := v_87) C hP 31 rfl (vp_in_iff.mpr ⟨by omega, by omega⟩) e_88.symm dX12_putFuture_48 ?_
            refine lv_icmp_ne (tgt := 77) C.1 C.2.1 dX12_putFuture_49 (by decide) (fun c_90 => ?_) (fun c_90 => ?_)
            · replace c_90 : ¬ v_84.toInt = v_87.toInt := i_ne c_90
              exact L_77 t1 w7_2 w7_3 _ _ _ hok hfr ⟨by omega, by omega⟩ ⟨by omega, by omega⟩ ⟨by omega, by omega⟩ (show (1260 : Int) - w7_3.toInt < (fuel_7 : Int) + 1 from by omega) hP hD hS (lv_sub hl [0, 1, 2, 3] rfl)
            · replace c_90 : v_84.toInt = v_87.toInt := i_eq c_90
              refine lv_aload_n C.1 C.2.1 dX12_putFuture_52 rfl (lv_at hl 0 rfl) ?_
              refine k_get (v := .ref (ad 44)) C hP 0 rfl rfl inlX12 92 (by decide) m_9_4 rfl dX12_putFuture_53 ?_
              refine lv_iload_n C.1 C.2.1 dX12_putFuture_56 rfl (lv_at hl 3 rfl) ?_
              obtain ⟨v_91, e_92⟩ : ∃ z, z = (t1.2.2.1 44 (w7_3 : Int32).toNatClampNeg) := ⟨_, rfl⟩
              have h_93 : (0 : Int) ≤ v_91.toInt ∧ v_91.toInt ≤ 1 := by rw [e_92]; exact hok.2.1 44 _
              refine k_zld (v := v_91) C hP 44 rfl (vp_in_iff.mpr ⟨by omega, by omega⟩) e_92.symm dX12_putFuture_57 ?_
              refine lv_if_ne (tgt := 64) C.1 C.2.1 dX12_putFuture_58 (by decide) (fun c_94 => ?_) (fun c_94 => ?_)
              · replace c_94 : ¬ v_91.toInt = 0 := i_ne c_94
                refine lv_aload_n C.1 C.2.1 dX12_putFuture_64 rfl (lv_at hl 0 rfl) ?_
                refine k_get (v := .ref (ad 34)) C hP 0 rfl rfl inlX12 65 (by decide) m_8_18 rfl dX12_putFuture_65 ?_
                refine lv_iload_n C.1 C.2.1 dX12_putFuture_68 rfl (lv_at hl 1 rfl) ?_
                refine lv_aload_n C.1 C.2.1 dX12_putFuture_69 rfl (lv_at hl 0 rfl) ?_
                refine k_get (v := .ref (ad 34)) C hP 0 rfl rfl inlX12 65 (by decide) m_8_18 rfl dX12_putFuture_70 ?_
                refine lv_iload_n C.1 C.2.1 dX12_putFuture_73 rfl (lv_at hl 3 rfl) ?_
                obtain ⟨v_95, e_96⟩ : ∃ z, z = (t1.2.2.1 34 (w7_3 : Int32).toNatClampNeg) := ⟨_, rfl⟩
                refine k_ild (v := v_95) C hP 34 rfl (vp_in_iff.mpr ⟨by omega, by omega⟩) e_96.symm dX12_putFuture_74 ?_
                refine k_ist (ws' := WM K ad (uB t1 34 (x1 : Int32).toNatClampNeg v_95)) (x' := v_95) C hP hD hS 34 rfl (vp_in_iff.mpr ⟨by omega, by omega⟩) rfl rfl rfl dX12_putFuture_75 (fun H locs hP hD hS => ?_)
                have hok : okM (uB t1 34 (x1 : Int32).toNatClampNeg v_95) := ⟨hok.1, okB_B hok.2.1 34 _ v_95 (show (-2147483648 : Int) ≤ (v_95 : Int32).toInt ∧ (v_95 : Int32).toInt ≤ 2147483647 from (i_rng _)), hok.2.2.1, hok.2.2.2.1, hok.2.2.2.2.1, hok.2.2.2.2.2.1, hok.2.2.2.2.2.2.1, trivial⟩
                have hfr : frA [(0, 47), (0, 48), (0, 70)] [] [2, 21, 22, 24, 25, 34, 44] [] t (uB t1 34 (x1 : Int32).toNatClampNeg v_95) := frA_B hfr 34 _ _ rfl
                exact g_vret C hr hlocks hP hD hS (uB t1 34 (x1 : Int32).toNatClampNeg v_95) rfl ⟨hok, hfr⟩ (Nat.le_of_ble_eq_true rfl) (Nat.le_of_ble_eq_true rfl) dX12_putFuture_76
              · replace c_94 : v_91.toInt = 0 := i_eq c_94
                refine lv_goto (tgt := 77) C.1 C.2.1 dX12_putFuture_61 (by decide) ?_
                exact L_77 t1 w7_2 w7_3 _ _ _ hok hfr ⟨by omega, by omega⟩ ⟨by omega, by omega⟩ ⟨by omega, by omega⟩ (show (1260 : Int) - w7_3.toInt < (fuel_7 : Int) + 1 from by omega) hP hD hS (lv_sub hl [0, 1, 2, 3] rfl)
  refine lv_aload_n C.1 C.2.1 dX12_putFuture_0 rfl (lv_at hl 0 rfl) ?_
  refine k_get (v := .int (t.1 0 47)) C hP 0 rfl rfl inlX12 47 (by decide) m_30_16 rfl dX12_putFuture_1 ?_
  refine lv_istore_n (lv' := [(2, .int (t.1 0 47)), (0, .ref (ad 0)), (1, .int x1)]) C.1 C.2.1 dX12_putFuture_4 rfl hl (by decide) rfl (fun ls hl => ?_)
  have hl : lv_has ls 4 [(0, .ref (ad 0)), (1, .int x1), (2, .int (t.1 0 47))] := lv_sub hl [1, 2, 0] rfl
  refine lv_iconst (v := 0) C.1 C.2.1 dX12_putFuture_5 (by decide) ?_
  refine lv_istore_n (lv' := [(3, .int 0), (0, .ref (ad 0)), (1, .int x1), (2, .int (t.1 0 47))]) C.1 C.2.1 dX12_putFuture_6 rfl hl (by decide) rfl (fun ls hl => ?_)
  have hl : lv_has ls 4 [(0, .ref (ad 0)), (1, .int x1), (2, .int (t.1 0 47)), (3, .int 0)] := lv_sub hl [1, 2, 3, 0] rfl
  exact L_7 1261 t (t.1 0 47) 0 _ _ _ hok hfr ⟨by omega, by omega⟩ ⟨by decide, by decide⟩ (show (1260 : Int) - 0 < ((1261 : Nat) : Int) from by omega) hP hD hS (lv_sub hl [0, 1, 2, 3] rfl)

theorem dX12_resume_0 : decode cX12_resume 0 = .ok (.iconst 0, 1) := by decide +kernel
theorem dX12_resume_1 : decode cX12_resume 1 = .ok (.istore_n 1, 1) := by decide +kernel
theorem dX12_resume_10 : decode cX12_resume 10 = .ok (.bipush 9, 2) := by decide +kernel
theorem dX12_resume_101 : decode cX12_resume 101 = .ok (.irem, 1) := by decide +kernel
theorem dX12_resume_102 : decode cX12_resume 102 = .ok (.iconst 2, 1) := by decide +kernel
theorem dX12_resume_103 : decode cX12_resume 103 = .ok (.if_icmp .ge 10, 3) := by decide +kernel
theorem dX12_resume_106 : decode cX12_resume 106 = .ok (.iload_n 2, 1) := by decide +kernel
theorem dX12_resume_107 : decode cX12_resume 107 = .ok (.bipush 8, 2) := by decide +kernel
theorem dX12_resume_109 : decode cX12_resume 109 = .ok (.irem, 1) := by decide +kernel
theorem dX12_resume_110 : decode cX12_resume 110 = .ok (.goto 4, 3) := by decide +kernel
theorem dX12_resume_113 : decode cX12_resume 113 = .ok (.iconst 2, 1) := by decide +kernel
theorem dX12_resume_114 : decode cX12_resume 114 = .ok (.putfield 20, 3) := by decide +kernel
theorem dX12_resume_117 : decode cX12_resume 117 = .ok (.aload_n 0, 1) := by decide +kernel
theorem dX12_resume_118 : decode cX12_resume 118 = .ok (.iload_n 1, 1) := by decide +kernel
theorem dX12_resume_119 : decode cX12_resume 119 = .ok (.sipush 4095, 3) := by decide +kernel
theorem dX12_resume_12 : decode cX12_resume 12 = .ok (.isub, 1) := by decide +kernel
theorem dX12_resume_122 : decode cX12_resume 122 = .ok (.iand, 1) := by decide +kernel
theorem dX12_resume_123 : decode cX12_resume 123 = .ok (.putfield 378, 3) := by decide +kernel
theorem dX12_resume_126 : decode cX12_resume 126 = .ok (.aload_n 0, 1) := by decide +kernel
theorem dX12_resume_127 : decode cX12_resume 127 = .ok (.iconst 0, 1) := by decide +kernel
theorem dX12_resume_128 : decode cX12_resume 128 = .ok (.putfield 241, 3) := by decide +kernel
theorem dX12_resume_13 : decode cX12_resume 13 = .ok (.invokevirtual 260, 3) := by decide +kernel
theorem dX12_resume_131 : decode cX12_resume 131 = .ok (.return_, 1) := by decide +kernel
theorem dX12_resume_16 : decode cX12_resume 16 = .ok (.istore_n 2, 1) := by decide +kernel
theorem dX12_resume_17 : decode cX12_resume 17 = .ok (.aload_n 0, 1) := by decide +kernel
theorem dX12_resume_18 : decode cX12_resume 18 = .ok (.getfield 17, 3) := by decide +kernel
theorem dX12_resume_2 : decode cX12_resume 2 = .ok (.iload_n 1, 1) := by decide +kernel
theorem dX12_resume_21 : decode cX12_resume 21 = .ok (.iload_n 1, 1) := by decide +kernel
theorem dX12_resume_22 : decode cX12_resume 22 = .ok (.iload_n 1, 1) := by decide +kernel
theorem dX12_resume_23 : decode cX12_resume 23 = .ok (.ifCond .eq 9, 3) := by decide +kernel
theorem dX12_resume_26 : decode cX12_resume 26 = .ok (.iload_n 1, 1) := by decide +kernel
theorem dX12_resume_27 : decode cX12_resume 27 = .ok (.bipush 7, 2) := by decide +kernel
theorem dX12_resume_29 : decode cX12_resume 29 = .ok (.if_icmp .ne 7, 3) := by decide +kernel
theorem dX12_resume_3 : decode cX12_resume 3 = .ok (.bipush 8, 2) := by decide +kernel
theorem dX12_resume_32 : decode cX12_resume 32 = .ok (.iload_n 2, 1) := by decide +kernel
theorem dX12_resume_33 : decode cX12_resume 33 = .ok (.goto 13, 3) := by decide +kernel
theorem dX12_resume_36 : decode cX12_resume 36 = .ok (.iload_n 2, 1) := by decide +kernel
theorem dX12_resume_37 : decode cX12_resume 37 = .ok (.ldc 158, 2) := by decide +kernel
theorem dX12_resume_39 : decode cX12_resume 39 = .ok (.iand, 1) := by decide +kernel
theorem dX12_resume_40 : decode cX12_resume 40 = .ok (.iload_n 2, 1) := by decide +kernel
theorem dX12_resume_41 : decode cX12_resume 41 = .ok (.sipush 4095, 3) := by decide +kernel
theorem dX12_resume_44 : decode cX12_resume 44 = .ok (.iand, 1) := by decide +kernel
theorem dX12_resume_45 : decode cX12_resume 45 = .ok (.ior, 1) := by decide +kernel
theorem dX12_resume_46 : decode cX12_resume 46 = .ok (.iastore, 1) := by decide +kernel
theorem dX12_resume_47 : decode cX12_resume 47 = .ok (.iinc 1 1, 3) := by decide +kernel
theorem dX12_resume_5 : decode cX12_resume 5 = .ok (.if_icmp .ge 48, 3) := by decide +kernel
theorem dX12_resume_50 : decode cX12_resume 50 = .ok (.goto (-48), 3) := by decide +kernel
theorem dX12_resume_53 : decode cX12_resume 53 = .ok (.aload_n 0, 1) := by decide +kernel
theorem dX12_resume_54 : decode cX12_resume 54 = .ok (.iconst (-1), 1) := by decide +kernel
theorem dX12_resume_55 : decode cX12_resume 55 = .ok (.invokevirtual 260, 3) := by decide +kernel
theorem dX12_resume_58 : decode cX12_resume 58 = .ok (.istore_n 1, 1) := by decide +kernel
theorem dX12_resume_59 : decode cX12_resume 59 = .ok (.aload_n 0, 1) := by decide +kernel
theorem dX12_resume_60 : decode cX12_resume 60 = .ok (.getfield 17, 3) := by decide +kernel
theorem dX12_resume_63 : decode cX12_resume 63 = .ok (.bipush 8, 2) := by decide +kernel
theorem dX12_resume_65 : decode cX12_resume 65 = .ok (.iload_n 1, 1) := by decide +kernel
theorem dX12_resume_66 : decode cX12_resume 66 = .ok (.bipush 18, 2) := by decide +kernel
theorem dX12_resume_68 : decode cX12_resume 68 = .ok (.ishr, 1) := by decide +kernel
theorem dX12_resume_69 : decode cX12_resume 69 = .ok (.sipush 4095, 3) := by decide +kernel
theorem dX12_resume_72 : decode cX12_resume 72 = .ok (.iand, 1) := by decide +kernel
theorem dX12_resume_73 : decode cX12_resume 73 = .ok (.iastore, 1) := by decide +kernel
theorem dX12_resume_74 : decode cX12_resume 74 = .ok (.iload_n 1, 1) := by decide +kernel
theorem dX12_resume_75 : decode cX12_resume 75 = .ok (.bipush 12, 2) := by decide +kernel
theorem dX12_resume_77 : decode cX12_resume 77 = .ok (.ishr, 1) := by decide +kernel
theorem dX12_resume_78 : decode cX12_resume 78 = .ok (.bipush 63, 2) := by decide +kernel
theorem dX12_resume_8 : decode cX12_resume 8 = .ok (.aload_n 0, 1) := by decide +kernel
theorem dX12_resume_80 : decode cX12_resume 80 = .ok (.iand, 1) := by decide +kernel
theorem dX12_resume_81 : decode cX12_resume 81 = .ok (.istore_n 2, 1) := by decide +kernel
theorem dX12_resume_82 : decode cX12_resume 82 = .ok (.aload_n 0, 1) := by decide +kernel
theorem dX12_resume_83 : decode cX12_resume 83 = .ok (.iload_n 2, 1) := by decide +kernel
theorem dX12_resume_84 : decode cX12_resume 84 = .ok (.bipush 7, 2) := by decide +kernel
theorem dX12_resume_86 : decode cX12_resume 86 = .ok (.if_icmp .le 7, 3) := by decide +kernel
theorem dX12_resume_89 : decode cX12_resume 89 = .ok (.iconst 1, 1) := by decide +kernel
theorem dX12_resume_9 : decode cX12_resume 9 = .ok (.iload_n 1, 1) := by decide +kernel
theorem dX12_resume_90 : decode cX12_resume 90 = .ok (.goto 4, 3) := by decide +kernel
theorem dX12_resume_93 : decode cX12_resume 93 = .ok (.iconst 0, 1) := by decide +kernel
theorem dX12_resume_94 : decode cX12_resume 94 = .ok (.putfield 314, 3) := by decide +kernel
theorem dX12_resume_97 : decode cX12_resume 97 = .ok (.aload_n 0, 1) := by decide +kernel
theorem dX12_resume_98 : decode cX12_resume 98 = .ok (.iload_n 2, 1) := by decide +kernel
theorem dX12_resume_99 : decode cX12_resume 99 = .ok (.bipush 8, 2) := by decide +kernel
set_option maxHeartbeats 4000000 in
set_option maxRecDepth 100000 in
theorem T_X12_resume (l : Launch) (D : va_G) (K : Nat → ClassId) (Z Y : Nat → Nat) (ad : Nat → Nat) (t : tSt) (hok : okM t)  : tMet l yX12_resume cX12_resume 3 none (rmD 1 0 0) D K Z Y [.ref (ad 0)] (WM K ad t) (QV D K (fun (u : tSt) => okM u ∧ frA [(0, 5), (0, 6), (0, 7), (0, 10)] [] [3] [] t u) (fun (u : tSt) => WM K ad u)) 0 0 := by
  refine t_met RX12 ⟨rfl, by decide +kernel⟩ (Nat.le_of_ble_eq_true rfl) ?_
  intro p e s m below meth c A ls C hE hZ hr hlocks hA hP hD hS hl
  have hl : lv_has ls 3 [(0, .ref (ad 0))] := hl
  have hokt := hok
  have hfr : frA [(0, 5), (0, 6), (0, 7), (0, 10)] [] [3] [] t t := frA_rf
  have L_114 : ∀ (t1 : tSt) (w114_1 : Int32) (w114_2 : Int32) (k114_1 : Int32) (H : Heap) (locs : List Loc) (ls : Array Slot), okM t1 → frA [(0, 5), (0, 6), (0, 7), (0, 10)] [] [3] [] t t1 → (0 : Int) ≤ w114_2.toInt ∧ w114_2.toInt ≤ 63 → (0 : Int) ≤ k114_1.toInt ∧ k114_1.toInt ≤ 7 → va_P D vwCl (WM K ad t1) H → va_D A (WM K ad t1) → va_S A s.heap H locs → lv_has ls 3 [(0, .ref (ad 0)), (1, .int w114_1), (2, .int w114_2)] → W p l e (rmD 1 0 0) s m [.ref (ad 0)].toArray below meth c H locs 0 0 (MQ below (QV D K (fun (u : tSt) => okM u ∧ frA [(0, 5), (0, 6), (0, 7), (0, 10)] [] [3] [] t u) (fun (u : tSt) => WM K ad u) A) [.ref (ad 0)].toArray s 0 0 A) (F0 m 114 ls [.int k114_1, .ref (ad 0)]) := by
    intro t1 w114_1 w114_2 k114_1 H locs ls hok hfr hw114_2 hk114_1 hP hD hS hl
    refine k_put (ws' := WM K ad (uI t1 0 6 k114_1)) (v := .int k114_1) C hP hD hS 0 rfl rfl inlX12 tyX12_ok nmX12 6 (by decide) m_7_7 rfl rfl rfl rfl rfl dX12_resume_114 (fun H locs hP hD hS => ?_)
    have hok : okM (uI t1 0 6 k114_1) := ⟨okI_I hok.1 0 6 k114_1 (show (0 : Int) ≤ (k114_1 : Int32).toInt ∧ (k114_1 : Int32).toInt ≤ 7 from ⟨by omega, by omega⟩), hok.2.1, hok.2.2.1, hok.2.2.2.1, hok.2.2.2.2.1, hok.2.2.2.2.2.1, hok.2.2.2.2.2.2.1, trivial⟩
    have hfr : frA [(0, 5), (0, 6), (0, 7), (0, 10)] [] [3] [] t (uI t1 0 6 k114_1) := frA_I hfr 0 6 _ rfl
    refine lv_aload_n C.1 C.2.1 dX12_resume_117 rfl (lv_at hl 0 rfl) ?_
    refine lv_iload_n C.1 C.2.1 dX12_resume_118 rfl (lv_at hl 1 rfl) ?_
    refine lv_sipush (v := 4095) C.1 C.2.1 dX12_resume_119 (by decide) ?_
    obtain ⟨v_1, e_2⟩ : ∃ z, z = (w114_1 : Int32) &&& (4095 : Int32) := ⟨_, rfl⟩
    have h_3 : v_1.toInt = w114_1.toInt % 2 ^ 12 := by rw [e_2]; exact Jvm.Kit.i32_mask _ _ (k := 12) (by decide) (by decide)
    refine k_iand (v := v_1) C e_2.symm dX12_resume_122 ?_
    refine k_put (ws' := WM K ad (uI (uI t1 0 6 k114_1) 0 7 v_1)) (v := .int v_1) C hP hD hS 0 rfl rfl inlX12 tyX12_ok nmX12 7 (by decide) m_29_22 rfl rfl rfl rfl rfl dX12_resume_123 (fun H locs hP hD hS => ?_)
    have hok : okM (uI (uI t1 0 6 k114_1) 0 7 v_1) := ⟨okI_I hok.1 0 7 v_1 (show (-2147483648 : Int) ≤ (v_1 : Int32).toInt ∧ (v_1 : Int32).toInt ≤ 2147483647 from (i_rng _)), hok.2.1, hok.2.2.1, hok.2.2.2.1, hok.2.2.2.2.1, hok.2.2.2.2.2.1, hok.2.2.2.2.2.2.1, trivial⟩
    have hfr : frA [(0, 5), (0, 6), (0, 7), (0, 10)] [] [3] [] t (uI (uI t1 0 6 k114_1) 0 7 v_1) := frA_I hfr 0 7 _ rfl
    refine lv_aload_n C.1 C.2.1 dX12_resume_126 rfl (lv_at hl 0 rfl) ?_
    refine lv_iconst (v := 0) C.1 C.2.1 dX12_resume_127 (by decide) ?_
    refine k_put (ws' := WM K ad (uI (uI (uI t1 0 6 k114_1) 0 7 v_1) 0 10 0)) (v := .int 0) C hP hD hS 0 rfl rfl inlX12 tyX12_ok nmX12 10 (by decide) m_30_0 rfl (by decide) (by decide) rfl rfl dX12_resume_128 (fun H locs hP hD hS => ?_)
    have hok : okM (uI (uI (uI t1 0 6 k114_1) 0 7 v_1) 0 10 0) := ⟨okI_I hok.1 0 10 0 (show (0 : Int) ≤ (0 : Int32).toInt ∧ (0 : Int32).toInt ≤ 1 from ⟨by decide, by decide⟩), hok.2.1, hok.2.2.1, hok.2.2.2.1, hok.2.2.2.2.1, hok.2.2.2.2.2.1, hok.2.2.2.2.2.2.1, trivial⟩
    have hfr : frA [(0, 5), (0, 6), (0, 7), (0, 10)] [] [3] [] t (uI (uI (uI t1 0 6 k114_1) 0 7 v_1) 0 10 0) := frA_I hfr 0 10 _ rfl
    exact g_vret C hr hlocks hP hD hS (uI (uI (uI t1 0 6 k114_1) 0 7 v_1) 0 10 0) rfl ⟨hok, hfr⟩ (Nat.le_of_ble_eq_true rfl) (Nat.le_of_ble_eq_true rfl) dX12_resume_131
  have L_94 : ∀ (t1 : tSt) (w94_1 : Int32) (w94_2 : Int32) (k94_1 : Int32) (H : Heap) (locs : List Loc) (ls : Array Slot), okM t1 → frA [(0, 5), (0, 6), (0, 7), (0, 10)] [] [3] [] t t1 → (0 : Int) ≤ w94_2.toInt ∧ w94_2.toInt ≤ 63 → (0 : Int) ≤ k94_1.toInt ∧ k94_1.toInt ≤ 1 → va_P D vwCl (WM K ad t1) H → va_D A (WM K ad t1) → va_S A s.heap H locs → lv_has ls 3 [(0, .ref (ad 0)), (1, .int w94_1), (2, .int w94_2)] → W p l e (rmD 1 0 0) s m [.ref (ad 0)].toArray below meth c H locs 0 0 (MQ below (QV D K (fun (u : tSt) => okM u ∧ frA [(0, 5), (0, 6), (0, 7), (0, 10)] [] [3] [] t u) (fun (u : tSt) => WM K ad u) A) [.ref (ad 0)].toArray s 0 0 A) (F0 m 94 ls [.int k94_1, .ref (ad 0)]) := by
    intro t1 w94_1 w94_2 k94_1 H locs ls hok hfr hw94_2 hk94_1 hP hD hS hl
    refine k_put (ws' := WM K ad (uI t1 0 5 k94_1)) (v := .int k94_1) C hP hD hS 0 rfl rfl inlX12 tyX12_ok nmX12 5 (by decide) m_29_21 rfl (nar01 (by omega) (by omega)) (fit01 (by omega) (by omega)) rfl rfl dX12_resume_94 (fun H locs hP hD hS => ?_)
    have hok : okM (uI t1 0 5 k94_1) := ⟨okI_I hok.1 0 5 k94_1 (show (0 : Int) ≤ (k94_1 : Int32).toInt ∧ (k94_1 : Int32).toInt ≤ 1 from ⟨by omega, by omega⟩), hok.2.1, hok.2.2.1, hok.2.2.2.1, hok.2.2.2.2.1, hok.2.2.2.2.2.1, hok.2.2.2.2.2.2.1, trivial⟩
    have hfr : frA [(0, 5), (0, 6), (0, 7), (0, 10)] [] [3] [] t (uI t1 0 5 k94_1) := frA_I hfr 0 5 _ rfl
    refine lv_aload_n C.1 C.2.1 dX12_resume_97 rfl (lv_at hl 0 rfl) ?_
    refine lv_iload_n C.1 C.2.1 dX12_resume_98 rfl (lv_at hl 2 rfl) ?_
    refine lv_bipush (v := 8) C.1 C.2.1 dX12_resume_99 (by decide) ?_
    obtain ⟨v_4, e_5⟩ : ∃ z, z = (w94_2 : Int32) - (w94_2 : Int32) / (8 : Int32) * (8 : Int32) := ⟨_, rfl⟩
    have h_6 : v_4.toInt = w94_2.toInt % 8 := by rw [e_5]; exact z_remp (k := 8) (by decide) (by show (0 : Int) ≤ w94_2.toInt; omega)
    refine k_irem (v := v_4) C (by decide) e_5.symm dX12_resume_101 ?_
    refine lv_iconst (v := 2) C.1 C.2.1 dX12_resume_102 (by decide) ?_
    refine lv_icmp_ge (tgt := 113) C.1 C.2.1 dX12_resume_103 (by decide) (fun c_7 => ?_) (fun c_7 => ?_)
    · replace c_7 : 2 ≤ v_4.toInt := i_le c_7
      refine lv_iconst (v := 2) C.1 C.2.1 dX12_resume_113 (by decide) ?_
      exact L_114 (uI t1 0 5 k94_1) w94_1 w94_2 2 _ _ _ hok hfr ⟨by omega, by omega⟩ ⟨by decide, by decide⟩ hP hD hS (lv_sub hl [0, 1, 2] rfl)
    · replace c_7 : v_4.toInt < 2 := i_nle c_7
      refine lv_iload_n C.1 C.2.1 dX12_resume_106 rfl (lv_at hl 2 rfl) ?_
      refine lv_bipush (v := 8) C.1 C.2.1 dX12_resume_107 (by decide) ?_
      obtain ⟨v_8, e_9⟩ : ∃ z, z = (w94_2 : Int32) - (w94_2 : Int32) / (8 : Int32) * (8 : Int32) := ⟨_, rfl⟩
      have h_10 : v_8.toInt = w94_2.toInt % 8 := by rw [e_9]; exact z_remp (k := 8) (by decide) (by show (0 : Int) ≤ w94_2.toInt; omega)
      refine k_irem (v := v_8) C (by decide) e_9.symm dX12_resume_109 ?_
      refine lv_goto (tgt := 114) C.1 C.2.1 dX12_resume_110 (by decide) ?_
      exact L_114 (uI t1 0 5 k94_1) w94_1 w94_2 v_8 _ _ _ hok hfr ⟨by omega, by omega⟩ ⟨by omega, by omega⟩ hP hD hS (lv_sub hl [0, 1, 2] rfl)
  have L_2 : ∀ (fuel_2 : Nat) (t1 : tSt) (w2_1 : Int32) (H : Heap) (locs : List Loc) (ls : Array Slot), okM t1 → frA [(0, 5), (0, 6), (0, 7), (0, 10)] [] [3] [] t t1 → (0 : Int) ≤ w2_1.toInt ∧ w2_1.toInt ≤ 8 → (8 : Int) - w2_1.toInt < (fuel_2 : Int) → va_P D vwCl (WM K ad t1) H → va_D A (WM K ad t1) → va_S A s.heap H locs → lv_has ls 3 [(0, .ref (ad 0)), (1, .int w2_1)] → W p l e (rmD 1 0 0) s m [.ref (ad 0)].toArray below meth c H locs 0 0 (MQ below (QV D K (fun (u : tSt) => okM u ∧ frA [(0, 5), (0, 6), (0, 7), (0, 10)] [] [3] [] t u) (fun (u : tSt) => WM K ad u) A) [.ref (ad 0)].toArray s 0 0 A) (F0 m 2 ls []) := by
    intro fuel_2
    induction fuel_2 with
    | zero =>
      intro t1 w2_1 H locs ls hok hfr hw2_1 hm2_2 hP hD hS hl
      exact absurd hm2_2 (by omega)
    | succ fuel_2 ih_2 =>
      intro t1 w2_1 H locs ls hok hfr hw2_1 hm2_2 hP hD hS hl
      have hm2_2 : (8 : Int) - w2_1.toInt < (fuel_2 : Int) + 1 := by omega
      have L_46 : ∀ (t1 : tSt) (w46_1 : Int32) (w46_2 : Int32) (k46_1 : Int32) (k46_2 : Int32) (H : Heap) (locs : List Loc) (ls : Array Slot), okM t1 → frA [(0, 5), (0, 6), (0, 7), (0, 10)] [] [3] [] t t1 → (0 : Int) ≤ w46_1.toInt ∧ w46_1.toInt ≤ 7 → (0 : Int) ≤ k46_1.toInt ∧ k46_1.toInt ≤ 7 → (8 : Int) - w46_1.toInt < (fuel_2 : Int) + 1 → va_P D vwCl (WM K ad t1) H → va_D A (WM K ad t1) → va_S A s.heap H locs → lv_has ls 3 [(0, .ref (ad 0)), (1, .int w46_1), (2, .int w46_2)] → W p l e (rmD 1 0 0) s m [.ref (ad 0)].toArray below meth c H locs 0 0 (MQ below (QV D K (fun (u : tSt) => okM u ∧ frA [(0, 5), (0, 6), (0, 7), (0, 10)] [] [3] [] t u) (fun (u : tSt) => WM K ad u) A) [.ref (ad 0)].toArray s 0 0 A) (F0 m 46 ls [.int k46_2, .int k46_1, .ref (ad 3)]) := by
        intro t1 w46_1 w46_2 k46_1 k46_2 H locs ls hok hfr hw46_1 hk46_1 hm46_2 hP hD hS hl
        refine k_ist (ws' := WM K ad (uB t1 3 (k46_1 : Int32).toNatClampNeg k46_2)) (x' := k46_2) C hP hD hS 3 rfl (vp_in_iff.mpr ⟨by omega, by omega⟩) rfl rfl rfl dX12_resume_46 (fun H locs hP hD hS => ?_)
        have hok : okM (uB t1 3 (k46_1 : Int32).toNatClampNeg k46_2) := ⟨hok.1, okB_B hok.2.1 3 _ k46_2 (show (-2147483648 : Int) ≤ (k46_2 : Int32).toInt ∧ (k46_2 : Int32).toInt ≤ 2147483647 from (i_rng _)), hok.2.2.1, hok.2.2.2.1, hok.2.2.2.2.1, hok.2.2.2.2.2.1, hok.2.2.2.2.2.2.1, trivial⟩
        have hfr : frA [(0, 5), (0, 6), (0, 7), (0, 10)] [] [3] [] t (uB t1 3 (k46_1 : Int32).toNatClampNeg k46_2) := frA_B hfr 3 _ _ rfl
        obtain ⟨v_11, e_12⟩ : ∃ z, z = w46_1 + 1 := ⟨_, rfl⟩
        have h_13 : v_11.toInt = w46_1.toInt + 1 := by rw [e_12]; exact ti_iadd (by show (_ : Int) ≤ w46_1.toInt + 1; omega) (by show w46_1.toInt + 1 < (_ : Int); omega)
        refine lv_iinc (v := v_11) (lv' := [(1, .int v_11), (0, .ref (ad 0)), (2, .int w46_2)]) C.1 C.2.1 dX12_resume_47 hl (k := 1) rfl e_12.symm (by decide) rfl (fun ls hl => ?_)
        have hl : lv_has ls 3 [(0, .ref (ad 0)), (1, .int v_11), (2, .int w46_2)] := lv_sub hl [1, 0, 2] rfl
        refine lv_goto (tgt := 2) C.1 C.2.1 dX12_resume_50 (by decide) ?_
        exact ih_2 (uB t1 3 (k46_1 : Int32).toNatClampNeg k46_2) v_11 _ _ _ hok hfr ⟨by omega, by omega⟩ (show (8 : Int) - v_11.toInt < (fuel_2 : Int) from by omega) hP hD hS (lv_sub hl [0, 1] rfl)
      have L_32 : ∀ (t1 : tSt) (w32_1 : Int32) (w32_2 : Int32) (k32_1 : Int32) (H : Heap) (locs : List Loc) (ls : Array Slot), okM t1 → frA [(0, 5), (0, 6), (0, 7), (0, 10)] [] [3] [] t t1 → (0 : Int) ≤ w32_1.toInt ∧ w32_1.toInt ≤ 7 → (0 : Int) ≤ k32_1.toInt ∧ k32_1.toInt ≤ 7 → (8 : Int) - w32_1.toInt < (fuel_2 : Int) + 1 → va_P D vwCl (WM K ad t1) H → va_D A (WM K ad t1) → va_S A s.heap H locs → lv_has ls 3 [(0, .ref (ad 0)), (1, .int w32_1), (2, .int w32_2)] → W p l e (rmD 1 0 0) s m [.ref (ad 0)].toArray below meth c H locs 0 0 (MQ below (QV D K (fun (u : tSt) => okM u ∧ frA [(0, 5), (0, 6), (0, 7), (0, 10)] [] [3] [] t u) (fun (u : tSt) => WM K ad u) A) [.ref (ad 0)].toArray s 0 0 A) (F0 m 32 ls [.int k32_1, .ref (ad 3)]) := by
        intro t1 w32_1 w32_2 k32_1 H locs ls hok hfr hw32_1 hk32_1 hm32_2 hP hD hS hl
        refine lv_iload_n C.1 C.2.1 dX12_resume_32 rfl (lv_at hl 2 rfl) ?_
        refine lv_goto (tgt := 46) C.1 C.2.1 dX12_resume_33 (by decide) ?_
        exact L_46 t1 w32_1 w32_2 k32_1 w32_2 _ _ _ hok hfr ⟨by omega, by omega⟩ ⟨by omega, by omega⟩ (show (8 : Int) - w32_1.toInt < (fuel_2 : Int) + 1 from by omega) hP hD hS (lv_sub hl [0, 1, 2] rfl)
      refine lv_iload_n C.1 C.2.1 dX12_resume_2 rfl (lv_at hl 1 rfl) ?_
      refine lv_bipush (v := 8) C.1 C.2.1 dX12_resume_3 (by decide) ?_
      refine lv_icmp_ge (tgt := 53) C.1 C.2.1 dX12_resume_5 (by decide) (fun c_14 => ?_) (fun c_14 => ?_)
      · replace c_14 : 8 ≤ w2_1.toInt := i_le c_14
        refine lv_aload_n C.1 C.2.1 dX12_resume_53 rfl (lv_at hl 0 rfl) ?_
        refine lv_iconst (v := (-1)) C.1 C.2.1 dX12_resume_54 (by decide) ?_
        refine g_Vi (As := [.int (-1)]) (rest := []) C hP hD hS hA (T_X12_memoryAt l D K Z Y ad t1 hok (-1) (show (-3999 : Int) ≤ ((-1) : Int32).toInt ∧ ((-1) : Int32).toInt ≤ 3999 from ⟨by decide, by decide⟩)) hE hZ (uwV m_38_19 m_38_20 m_38_21 m_1_5 m_38_22) (hdV 1 (by decide +kernel) rfl) ⟨Nat.le_of_ble_eq_true rfl, Nat.le_of_ble_eq_true rfl⟩ rfl rfl (ci := 11) (q0 := 0) rfl rfl rfl hl.1 (Nat.le_of_ble_eq_true rfl) dX12_resume_55 ⟨Nat.le_of_ble_eq_true rfl, Nat.le_of_ble_eq_true rfl⟩ (fun r_16 t_15 H locs hw hP hD hS => ?_)
        obtain ⟨h_18, h_19⟩ := hw
        refine lv_istore_n (lv' := [(1, .int r_16), (0, .ref (ad 0))]) C.1 C.2.1 dX12_resume_58 rfl hl (by decide) rfl (fun ls hl => ?_)
        have hl : lv_has ls 3 [(0, .ref (ad 0)), (1, .int r_16)] := lv_sub hl [1, 0] rfl
        refine lv_aload_n C.1 C.2.1 dX12_resume_59 rfl (lv_at hl 0 rfl) ?_
        refine k_get (v := .ref (ad 3)) C hP 0 rfl rfl inlX12 4 (by decide) m_7_6 rfl dX12_resume_60 ?_
        refine lv_bipush (v := 8) C.1 C.2.1 dX12_resume_63 (by decide) ?_
        refine lv_iload_n C.1 C.2.1 dX12_resume_65 rfl (lv_at hl 1 rfl) ?_
        refine lv_bipush (v := 18) C.1 C.2.1 dX12_resume_66 (by decide) ?_
        obtain ⟨v_20, e_21⟩ : ∃ z, z = (r_16 : Int32) >>> ((18 : Int32) &&& 31) := ⟨_, rfl⟩
        have h_22 : v_20.toInt = r_16.toInt / 2 ^ 18 := by rw [e_21]; exact Jvm.Kit.i32_shr _ _ (k := 18) (by decide)
        refine k_ishr (v := v_20) C e_21.symm dX12_resume_68 ?_
        refine lv_sipush (v := 4095) C.1 C.2.1 dX12_resume_69 (by decide) ?_
        obtain ⟨v_23, e_24⟩ : ∃ z, z = (v_20 : Int32) &&& (4095 : Int32) := ⟨_, rfl⟩
        have h_25 : v_23.toInt = v_20.toInt % 2 ^ 12 := by rw [e_24]; exact Jvm.Kit.i32_mask _ _ (k := 12) (by decide) (by decide)
        refine k_iand (v := v_23) C e_24.symm dX12_resume_72 ?_
        refine k_ist (ws' := WM K ad (uB t1 3 (8 : Int32).toNatClampNeg v_23)) (x' := v_23) C hP hD hS 3 rfl (vin (by decide)) rfl rfl rfl dX12_resume_73 (fun H locs hP hD hS => ?_)
        have hok : okM (uB t1 3 (8 : Int32).toNatClampNeg v_23) := ⟨hok.1, okB_B hok.2.1 3 _ v_23 (show (-2147483648 : Int) ≤ (v_23 : Int32).toInt ∧ (v_23 : Int32).toInt ≤ 2147483647 from (i_rng _)), hok.2.2.1, hok.2.2.2.1, hok.2.2.2.2.1, hok.2.2.2.2.2.1, hok.2.2.2.2.2.2.1, trivial⟩
        have hfr : frA [(0, 5), (0, 6), (0, 7), (0, 10)] [] [3] [] t (uB t1 3 (8 : Int32).toNatClampNeg v_23) := frA_B hfr 3 _ _ rfl
        refine lv_iload_n C.1 C.2.1 dX12_resume_74 rfl (lv_at hl 1 rfl) ?_
        refine lv_bipush (v := 12) C.1 C.2.1 dX12_resume_75 (by decide) ?_
        obtain ⟨v_26, e_27⟩ : ∃ z, z = (r_16 : Int32) >>> ((12 : Int32) &&& 31) := ⟨_, rfl⟩
        have h_28 : v_26.toInt = r_16.toInt / 2 ^ 12 := by rw [e_27]; exact Jvm.Kit.i32_shr _ _ (k := 12) (by decide)
        refine k_ishr (v := v_26) C e_27.symm dX12_resume_77 ?_
        refine lv_bipush (v := 63) C.1 C.2.1 dX12_resume_78 (by decide) ?_
        obtain ⟨v_29, e_30⟩ : ∃ z, z = (v_26 : Int32) &&& (63 : Int32) := ⟨_, rfl⟩
        have h_31 : v_29.toInt = v_26.toInt % 2 ^ 6 := by rw [e_30]; exact Jvm.Kit.i32_mask _ _ (k := 6) (by decide) (by decide)
        refine k_iand (v := v_29) C e_30.symm dX12_resume_80 ?_
        refine lv_istore_n (lv' := [(2, .int v_29), (0, .ref (ad 0)), (1, .int r_16)]) C.1 C.2.1 dX12_resume_81 rfl hl (by decide) rfl (fun ls hl => ?_)
        have hl : lv_has ls 3 [(0, .ref (ad 0)), (1, .int r_16), (2, .int v_29)] := lv_sub hl [1, 2, 0] rfl
        refine lv_aload_n C.1 C.2.1 dX12_resume_82 rfl (lv_at hl 0 rfl) ?_
        refine lv_iload_n C.1 C.2.1 dX12_resume_83 rfl (lv_at hl 2 rfl) ?_
        refine lv_bipush (v := 7) C.1 C.2.1 dX12_resume_84 (by decide) ?_
        refine lv_icmp_le (tgt := 93) C.1 C.2.1 dX12_resume_86 (by decide) (fun c_32 => ?_) (fun c_32 => ?_)
        · replace c_32 : v_29.toInt ≤ 7 := i_le c_32
          refine lv_iconst (v := 0) C.1 C.2.1 dX12_resume_93 (by decide) ?_
          exact L_94 (uB t1 3 (8 : Int32).toNatClampNeg v_23) r_16 v_29 0 _ _ _ hok hfr ⟨by omega, by omega⟩ ⟨by decide, by decide⟩ hP hD hS (lv_sub hl [0, 1, 2] rfl)
        · replace c_32 : 7 < v_29.toInt := i_nle c_32
          refine lv_iconst (v := 1) C.1 C.2.1 dX12_resume_89 (by decide) ?_
          refine lv_goto (tgt := 94) C.1 C.2.1 dX12_resume_90 (by decide) ?_
          exact L_94 (uB t1 3 (8 : Int32).toNatClampNeg v_23) r_16 v_29 1 _ _ _ hok hfr ⟨by omega, by omega⟩ ⟨by decide, by decide⟩ hP hD hS (lv_sub hl [0, 1, 2] rfl)
      · replace c_14 : w2_1.toInt < 8 := i_nle c_14
        refine lv_aload_n C.1 C.2.1 dX12_resume_8 rfl (lv_at hl 0 rfl) ?_
        refine lv_iload_n C.1 C.2.1 dX12_resume_9 rfl (lv_at hl 1 rfl) ?_
        refine lv_bipush (v := 9) C.1 C.2.1 dX12_resume_10 (by decide) ?_
        obtain ⟨v_33, e_34⟩ : ∃ z, z = (w2_1 : Int32) - (9 : Int32) := ⟨_, rfl⟩
        have h_35 : v_33.toInt = w2_1.toInt - 9 := by rw [e_34]; exact ti_isub (by show (_ : Int) ≤ w2_1.toInt - 9; omega) (by show w2_1.toInt - 9 < (_ : Int); omega)
        refine k_isub (v := v_33) C e_34.symm dX12_resume_12 ?_
        refine g_Vi (As := [.int v_33]) (rest := []) C hP hD hS hA (T_X12_memoryAt l D K Z Y ad t1 hok (v_33) (show (-3999 : Int) ≤ (v_33 : Int32).toInt ∧ (v_33 : Int32).toInt ≤ 3999 from ⟨by omega, by omega⟩)) hE hZ (uwV m_38_19 m_38_20 m_38_21 m_1_5 m_38_22) (hdV 1 (by decide +kernel) rfl) ⟨Nat.le_of_ble_eq_true rfl, Nat.le_of_ble_eq_true rfl⟩ rfl rfl (ci := 11) (q0 := 0) rfl rfl rfl hl.1 (Nat.le_of_ble_eq_true rfl) dX12_resume_13 ⟨Nat.le_of_ble_eq_true rfl, Nat.le_of_ble_eq_true rfl⟩ (fun r_37 t_36 H locs hw hP hD hS => ?_)
        obtain ⟨h_39, h_40⟩ := hw
        refine lv_istore_n (lv' := [(2, .int r_37), (0, .ref (ad 0)), (1, .int w2_1)]) C.1 C.2.1 dX12_resume_16 rfl hl (by decide) rfl (fun ls hl => ?_)
        have hl : lv_has ls 3 [(0, .ref (ad 0)), (1, .int w2_1), (2, .int r_37)] := lv_sub hl [1, 2, 0] rfl
        refine lv_aload_n C.1 C.2.1 dX12_resume_17 rfl (lv_at hl 0 rfl) ?_
        refine k_get (v := .ref (ad 3)) C hP 0 rfl rfl inlX12 4 (by decide) m_7_6 rfl dX12_resume_18 ?_
        refine lv_iload_n C.1 C.2.1 dX12_resume_21 rfl (lv_at hl 1 rfl) ?_
        refine lv_iload_n C.1 C.2.1 dX12_resume_22 rfl (lv_at hl 1 rfl) ?_
        refine lv_if_eq (tgt := 32) C.1 C.2.1 dX12_resume_23 (by decide) (fun c_41 => ?_) (fun c_41 => ?_)
        · replace c_41 : w2_1.toInt = 0 := i_eq c_41
          exact L_32 t1 w2_1 r_37 w2_1 _ _ _ hok hfr ⟨by omega, by omega⟩ ⟨by omega, by omega⟩ (show (8 : Int) - w2_1.toInt < (fuel_2 : Int) + 1 from by omega) hP hD hS (lv_sub hl [0, 1, 2] rfl)
        · replace c_41 : ¬ w2_1.toInt = 0 := i_ne c_41
          refine lv_iload_n C.1 C.2.1 dX12_resume_26 rfl (lv_at hl 1 rfl) ?_
          refine lv_bipush (v := 7) C.1 C.2.1 dX12_resume_27 (by decide) ?_
          refine lv_icmp_ne (tgt := 36) C.1 C.2.1 dX12_resume_29 (by decide) (fun c_42 => ?_) (fun c_42 => ?_)
          · replace c_42 : ¬ w2_1.toInt = 7 := i_ne c_42
            refine lv_iload_n C.1 C.2.1 dX12_resume_36 rfl (lv_at hl 2 rfl) ?_
            refine lv_ldc (v := 1073741824) C.1 C.2.1 C.2.2.2.1 (C.2.2.2.2.1 _ m_34_19) dX12_resume_37 ?_
            obtain ⟨v_43, e_44⟩ : ∃ z, z = (r_37 : Int32) &&& (1073741824 : Int32) := ⟨_, rfl⟩
            have h_45 : (0 : Int) ≤ v_43.toInt ∧ v_43.toInt ≤ 1073741824 := by rw [e_44]; exact z_and _ (k := 1073741824) (by decide) (by decide)
            refine k_iand (v := v_43) C e_44.symm dX12_resume_39 ?_
            refine lv_iload_n C.1 C.2.1 dX12_resume_40 rfl (lv_at hl 2 rfl) ?_
            refine lv_sipush (v := 4095) C.1 C.2.1 dX12_resume_41 (by decide) ?_
            obtain ⟨v_46, e_47⟩ : ∃ z, z = (r_37 : Int32) &&& (4095 : Int32) := ⟨_, rfl⟩
            have h_48 : v_46.toInt = r_37.toInt % 2 ^ 12 := by rw [e_47]; exact Jvm.Kit.i32_mask _ _ (k := 12) (by decide) (by decide)
            refine k_iand (v := v_46) C e_47.symm dX12_resume_44 ?_
            obtain ⟨v_49, e_50⟩ : ∃ z, z = (v_43 : Int32) ||| (v_46 : Int32) := ⟨_, rfl⟩
            have h_51 : (0 : Int) ≤ v_49.toInt ∧ v_49.toInt ≤ 2147483647 := by rw [e_50]; exact z_or (k := 31) (by decide) (by show (0 : Int) ≤ v_43.toInt; omega) (by show v_43.toInt < (_ : Int); omega) (by show (0 : Int) ≤ v_46.toInt; omega) (by show v_46.toInt < (_ : Int); omega)
            refine k_ior (v := v_49) C e_50.symm dX12_resume_45 ?_
            exact L_46 t1 w2_1 r_37 w2_1 v_49 _ _ _ hok hfr ⟨by omega, by omega⟩ ⟨by omega, by omega⟩ (show (8 : Int) - w2_1.toInt < (fuel_2 : Int) + 1 from by omega) hP hD hS (lv_sub hl [0, 1, 2] rfl)
          · replace c_42 : w2_1.toInt = 7 := i_eq c_42
            exact L_32 t1 w2_1 r_37 w2_1 _ _ _ hok hfr ⟨by omega, by omega⟩ ⟨by omega, by omega⟩ (show (8 : Int) - w2_1.toInt < (fuel_2 : Int) + 1 from by omega) hP hD hS (lv_sub hl [0, 1, 2] rfl)
  refine lv_iconst (v := 0) C.1 C.2.1 dX12_resume_0 (by decide) ?_
  refine lv_istore_n (lv' := [(1, .int 0), (0, .ref (ad 0))]) C.1 C.2.1 dX12_resume_1 rfl hl (by decide) rfl (fun ls hl => ?_)
  have hl : lv_has ls 3 [(0, .ref (ad 0)), (1, .int 0)] := lv_sub hl [1, 0] rfl
  exact L_2 9 t 0 _ _ _ hok hfr ⟨by decide, by decide⟩ (show (8 : Int) - 0 < ((9 : Nat) : Int) from by omega) hP hD hS (lv_sub hl [0, 1] rfl)

theorem dX12_addTo_0 : decode cX12_addTo 0 = .ok (.aload_n 0, 1) := by decide +kernel
theorem dX12_addTo_1 : decode cX12_addTo 1 = .ok (.getfield 17, 3) := by decide +kernel
theorem dX12_addTo_10 : decode cX12_addTo 10 = .ok (.lload_n 2, 1) := by decide +kernel
theorem dX12_addTo_11 : decode cX12_addTo 11 = .ok (.ladd, 1) := by decide +kernel
theorem dX12_addTo_12 : decode cX12_addTo 12 = .ok (.lstore 4, 2) := by decide +kernel
theorem dX12_addTo_14 : decode cX12_addTo 14 = .ok (.lload 4, 2) := by decide +kernel
theorem dX12_addTo_16 : decode cX12_addTo 16 = .ok (.lconst 0, 1) := by decide +kernel
theorem dX12_addTo_17 : decode cX12_addTo 17 = .ok (.lcmp, 1) := by decide +kernel
theorem dX12_addTo_18 : decode cX12_addTo 18 = .ok (.ifCond .ne 19, 3) := by decide +kernel
theorem dX12_addTo_21 : decode cX12_addTo 21 = .ok (.aload_n 0, 1) := by decide +kernel
theorem dX12_addTo_22 : decode cX12_addTo 22 = .ok (.getfield 17, 3) := by decide +kernel
theorem dX12_addTo_25 : decode cX12_addTo 25 = .ok (.iload_n 1, 1) := by decide +kernel
theorem dX12_addTo_26 : decode cX12_addTo 26 = .ok (.aload_n 0, 1) := by decide +kernel
theorem dX12_addTo_27 : decode cX12_addTo 27 = .ok (.getfield 17, 3) := by decide +kernel
theorem dX12_addTo_30 : decode cX12_addTo 30 = .ok (.iload_n 1, 1) := by decide +kernel
theorem dX12_addTo_31 : decode cX12_addTo 31 = .ok (.iaload, 1) := by decide +kernel
theorem dX12_addTo_32 : decode cX12_addTo 32 = .ok (.ldc 158, 2) := by decide +kernel
theorem dX12_addTo_34 : decode cX12_addTo 34 = .ok (.iand, 1) := by decide +kernel
theorem dX12_addTo_35 : decode cX12_addTo 35 = .ok (.iastore, 1) := by decide +kernel
theorem dX12_addTo_36 : decode cX12_addTo 36 = .ok (.return_, 1) := by decide +kernel
theorem dX12_addTo_37 : decode cX12_addTo 37 = .ok (.lload 4, 2) := by decide +kernel
theorem dX12_addTo_39 : decode cX12_addTo 39 = .ok (.lconst 0, 1) := by decide +kernel
theorem dX12_addTo_4 : decode cX12_addTo 4 = .ok (.iload_n 1, 1) := by decide +kernel
theorem dX12_addTo_40 : decode cX12_addTo 40 = .ok (.lcmp, 1) := by decide +kernel
theorem dX12_addTo_41 : decode cX12_addTo 41 = .ok (.ifCond .ge 9, 3) := by decide +kernel
theorem dX12_addTo_44 : decode cX12_addTo 44 = .ok (.lload 4, 2) := by decide +kernel
theorem dX12_addTo_46 : decode cX12_addTo 46 = .ok (.lneg, 1) := by decide +kernel
theorem dX12_addTo_47 : decode cX12_addTo 47 = .ok (.goto 5, 3) := by decide +kernel
theorem dX12_addTo_5 : decode cX12_addTo 5 = .ok (.iaload, 1) := by decide +kernel
theorem dX12_addTo_50 : decode cX12_addTo 50 = .ok (.lload 4, 2) := by decide +kernel
theorem dX12_addTo_52 : decode cX12_addTo 52 = .ok (.lstore 6, 2) := by decide +kernel
theorem dX12_addTo_54 : decode cX12_addTo 54 = .ok (.lload 6, 2) := by decide +kernel
theorem dX12_addTo_56 : decode cX12_addTo 56 = .ok (.ldc2_w 335, 3) := by decide +kernel
theorem dX12_addTo_59 : decode cX12_addTo 59 = .ok (.lcmp, 1) := by decide +kernel
theorem dX12_addTo_6 : decode cX12_addTo 6 = .ok (.invokestatic 161, 3) := by decide +kernel
theorem dX12_addTo_60 : decode cX12_addTo 60 = .ok (.ifCond .le 8, 3) := by decide +kernel
theorem dX12_addTo_63 : decode cX12_addTo 63 = .ok (.aload_n 0, 1) := by decide +kernel
theorem dX12_addTo_64 : decode cX12_addTo 64 = .ok (.iconst 1, 1) := by decide +kernel
theorem dX12_addTo_65 : decode cX12_addTo 65 = .ok (.putfield 314, 3) := by decide +kernel
theorem dX12_addTo_68 : decode cX12_addTo 68 = .ok (.aload_n 0, 1) := by decide +kernel
theorem dX12_addTo_69 : decode cX12_addTo 69 = .ok (.getfield 17, 3) := by decide +kernel
theorem dX12_addTo_72 : decode cX12_addTo 72 = .ok (.iload_n 1, 1) := by decide +kernel
theorem dX12_addTo_73 : decode cX12_addTo 73 = .ok (.lload 4, 2) := by decide +kernel
theorem dX12_addTo_75 : decode cX12_addTo 75 = .ok (.lconst 0, 1) := by decide +kernel
theorem dX12_addTo_76 : decode cX12_addTo 76 = .ok (.lcmp, 1) := by decide +kernel
theorem dX12_addTo_77 : decode cX12_addTo 77 = .ok (.ifCond .ge 8, 3) := by decide +kernel
theorem dX12_addTo_80 : decode cX12_addTo 80 = .ok (.ldc 158, 2) := by decide +kernel
theorem dX12_addTo_82 : decode cX12_addTo 82 = .ok (.goto 4, 3) := by decide +kernel
theorem dX12_addTo_85 : decode cX12_addTo 85 = .ok (.iconst 0, 1) := by decide +kernel
theorem dX12_addTo_86 : decode cX12_addTo 86 = .ok (.lload 6, 2) := by decide +kernel
theorem dX12_addTo_88 : decode cX12_addTo 88 = .ok (.ldc2_w 335, 3) := by decide +kernel
theorem dX12_addTo_9 : decode cX12_addTo 9 = .ok (.i2l, 1) := by decide +kernel
theorem dX12_addTo_91 : decode cX12_addTo 91 = .ok (.land, 1) := by decide +kernel
theorem dX12_addTo_92 : decode cX12_addTo 92 = .ok (.l2i, 1) := by decide +kernel
theorem dX12_addTo_93 : decode cX12_addTo 93 = .ok (.ior, 1) := by decide +kernel
theorem dX12_addTo_94 : decode cX12_addTo 94 = .ok (.iastore, 1) := by decide +kernel
theorem dX12_addTo_95 : decode cX12_addTo 95 = .ok (.return_, 1) := by decide +kernel
set_option maxHeartbeats 4000000 in
set_option maxRecDepth 100000 in
theorem T_X12_addTo (l : Launch) (D : va_G) (K : Nat → ClassId) (Z Y : Nat → Nat) (ad : Nat → Nat) (t : tSt) (hok : okM t) (x1 : Int32) (hx1 : (0 : Int) ≤ x1.toInt ∧ x1.toInt ≤ 7) (x2 : Int64) (hx2 : (-2147483648 : Int) ≤ x2.toInt ∧ x2.toInt ≤ 2147483648) : tMet l yX12_addTo cX12_addTo 8 none (rmD 1 0 0) D K Z Y [.ref (ad 0), .int x1, .long x2] (WM K ad t) (QV D K (fun (u : tSt) => okM u ∧ frA [(0, 5)] [] [3] [] t u) (fun (u : tSt) => WM K ad u)) 0 0 := by
  refine t_met RX12 ⟨rfl, by decide +kernel⟩ (Nat.le_of_ble_eq_true rfl) ?_
  intro p e s m below meth c A ls C hE hZ hr hlocks hA hP hD hS hl
  have hl : lv_has ls 8 [(0, .ref (ad 0)), (1, .int x1), (2, .long x2)] := hl
  have hokt := hok
  have hfr : frA [(0, 5)] [] [3] [] t t := frA_rf
  have L_86 : ∀ (t1 : tSt) (w86_4 : Int64) (w86_6 : Int64) (k86_1 : Int32) (k86_2 : Int32) (H : Heap) (locs : List Loc) (ls : Array Slot), okM t1 → frA [(0, 5)] [] [3] [] t t1 → (0 : Int) ≤ k86_1.toInt ∧ k86_1.toInt ≤ 7 → (0 : Int) ≤ k86_2.toInt ∧ k86_2.toInt ≤ 1073741824 → va_P D vwCl (WM K ad t1) H → va_D A (WM K ad t1) → va_S A s.heap H locs → lv_has ls 8 [(0, .ref (ad 0)), (1, .int x1), (2, .long x2), (4, .long w86_4), (6, .long w86_6)] → W p l e (rmD 1 0 0) s m [.ref (ad 0), .int x1, .long x2].toArray below meth c H locs 0 0 (MQ below (QV D K (fun (u : tSt) => okM u ∧ frA [(0, 5)] [] [3] [] t u) (fun (u : tSt) => WM K ad u) A) [.ref (ad 0), .int x1, .long x2].toArray s 0 0 A) (F0 m 86 ls [.int k86_2, .int k86_1, .ref (ad 3)]) := by
    intro t1 w86_4 w86_6 k86_1 k86_2 H locs ls hok hfr hk86_1 hk86_2 hP hD hS hl
    refine lv_lload C.1 C.2.1 dX12_addTo_86 (lv_at hl 4 rfl) ?_
    refine lv_ldc2 (v := 1073741823) C.1 C.2.1 C.2.2.2.1 (C.2.2.2.2.1 _ m_36_3) dX12_addTo_88 ?_
    obtain ⟨v_1, e_2⟩ : ∃ z, z = (w86_6 : Int64) &&& 1073741823 := ⟨_, rfl⟩
    have h_3 : v_1.toInt = w86_6.toInt % 2 ^ 30 := by rw [e_2]; exact Jvm.Kit.i64_mask _ _ (k := 30) (by decide) (by decide)
    refine lw_land (v := v_1) C.1 C.2.1 dX12_addTo_91 e_2.symm ?_
    obtain ⟨v_4, e_5⟩ : ∃ z, z = (v_1).toInt32 := ⟨_, rfl⟩
    have h_6 : v_4.toInt = v_1.toInt := by rw [e_5]; exact Jvm.Kit.i32_of_i64 (by show (_ : Int) ≤ v_1.toInt; omega) (by show v_1.toInt < (_ : Int); omega)
    refine lv_l2i (v := v_4) C.1 C.2.1 dX12_addTo_92 e_5.symm ?_
    obtain ⟨v_7, e_8⟩ : ∃ z, z = (k86_2 : Int32) ||| (v_4 : Int32) := ⟨_, rfl⟩
    have h_9 : (0 : Int) ≤ v_7.toInt ∧ v_7.toInt ≤ 2147483647 := by rw [e_8]; exact z_or (k := 31) (by decide) (by show (0 : Int) ≤ k86_2.toInt; omega) (by show k86_2.toInt < (_ : Int); omega) (by show (0 : Int) ≤ v_4.toInt; omega) (by show v_4.toInt < (_ : Int); omega)
    refine k_ior (v := v_7) C e_8.symm dX12_addTo_93 ?_
    refine k_ist (ws' := WM K ad (uB t1 3 (k86_1 : Int32).toNatClampNeg v_7)) (x' := v_7) C hP hD hS 3 rfl (vp_in_iff.mpr ⟨by omega, by omega⟩) rfl rfl rfl dX12_addTo_94 (fun H locs hP hD hS => ?_)
    have hok : okM (uB t1 3 (k86_1 : Int32).toNatClampNeg v_7) := ⟨hok.1, okB_B hok.2.1 3 _ v_7 (show (-2147483648 : Int) ≤ (v_7 : Int32).toInt ∧ (v_7 : Int32).toInt ≤ 2147483647 from (i_rng _)), hok.2.2.1, hok.2.2.2.1, hok.2.2.2.2.1, hok.2.2.2.2.2.1, hok.2.2.2.2.2.2.1, trivial⟩
    have hfr : frA [(0, 5)] [] [3] [] t (uB t1 3 (k86_1 : Int32).toNatClampNeg v_7) := frA_B hfr 3 _ _ rfl
    exact g_vret C hr hlocks hP hD hS (uB t1 3 (k86_1 : Int32).toNatClampNeg v_7) rfl ⟨hok, hfr⟩ (Nat.le_of_ble_eq_true rfl) (Nat.le_of_ble_eq_true rfl) dX12_addTo_95
  have L_68 : ∀ (t1 : tSt) (w68_4 : Int64) (w68_6 : Int64) (H : Heap) (locs : List Loc) (ls : Array Slot), okM t1 → frA [(0, 5)] [] [3] [] t t1 → va_P D vwCl (WM K ad t1) H → va_D A (WM K ad t1) → va_S A s.heap H locs → lv_has ls 8 [(0, .ref (ad 0)), (1, .int x1), (2, .long x2), (4, .long w68_4), (6, .long w68_6)] → W p l e (rmD 1 0 0) s m [.ref (ad 0), .int x1, .long x2].toArray below meth c H locs 0 0 (MQ below (QV D K (fun (u : tSt) => okM u ∧ frA [(0, 5)] [] [3] [] t u) (fun (u : tSt) => WM K ad u) A) [.ref (ad 0), .int x1, .long x2].toArray s 0 0 A) (F0 m 68 ls []) := by
    intro t1 w68_4 w68_6 H locs ls hok hfr hP hD hS hl
    refine lv_aload_n C.1 C.2.1 dX12_addTo_68 rfl (lv_at hl 0 rfl) ?_
    refine k_get (v := .ref (ad 3)) C hP 0 rfl rfl inlX12 4 (by decide) m_7_6 rfl dX12_addTo_69 ?_
    refine lv_iload_n C.1 C.2.1 dX12_addTo_72 rfl (lv_at hl 1 rfl) ?_
    refine lv_lload C.1 C.2.1 dX12_addTo_73 (lv_at hl 3 rfl) ?_
    refine lv_lconst (v := 0) C.1 C.2.1 dX12_addTo_75 (by decide) ?_
    obtain ⟨v_10, e_11⟩ : ∃ z, z = lg_cmp (w68_4 : Int64) 0 := ⟨_, rfl⟩
    have h_12 : (-1 : Int) ≤ v_10.toInt ∧ v_10.toInt ≤ 1 := by rw [e_11]; exact cmp_rng _ _
    refine k_lcmp (v := v_10) C e_11.symm dX12_addTo_76 ?_
    refine lv_if_ge (tgt := 85) C.1 C.2.1 dX12_addTo_77 (by decide) (fun c_13 => ?_) (fun c_13 => ?_)
    · replace c_13 : 0 ≤ v_10.toInt := i_le c_13
      refine lv_iconst (v := 0) C.1 C.2.1 dX12_addTo_85 (by decide) ?_
      exact L_86 t1 w68_4 w68_6 x1 0 _ _ _ hok hfr ⟨by omega, by omega⟩ ⟨by decide, by decide⟩ hP hD hS (lv_sub hl [0, 1, 2, 3, 4] rfl)
    · replace c_13 : v_10.toInt < 0 := i_nle c_13
      refine lv_ldc (v := 1073741824) C.1 C.2.1 C.2.2.2.1 (C.2.2.2.2.1 _ m_34_19) dX12_addTo_80 ?_
      refine lv_goto (tgt := 86) C.1 C.2.1 dX12_addTo_82 (by decide) ?_
      exact L_86 t1 w68_4 w68_6 x1 1073741824 _ _ _ hok hfr ⟨by omega, by omega⟩ ⟨by decide, by decide⟩ hP hD hS (lv_sub hl [0, 1, 2, 3, 4] rfl)
  have L_52 : ∀ (t1 : tSt) (w52_4 : Int64) (k52_0 : Int64) (H : Heap) (locs : List Loc) (ls : Array Slot), okM t1 → frA [(0, 5)] [] [3] [] t t1 → va_P D vwCl (WM K ad t1) H → va_D A (WM K ad t1) → va_S A s.heap H locs → lv_has ls 8 [(0, .ref (ad 0)), (1, .int x1), (2, .long x2), (4, .long w52_4)] → W p l e (rmD 1 0 0) s m [.ref (ad 0), .int x1, .long x2].toArray below meth c H locs 0 0 (MQ below (QV D K (fun (u : tSt) => okM u ∧ frA [(0, 5)] [] [3] [] t u) (fun (u : tSt) => WM K ad u) A) [.ref (ad 0), .int x1, .long x2].toArray s 0 0 A) (F0 m 52 ls [.long k52_0]) := by
    intro t1 w52_4 k52_0 H locs ls hok hfr hP hD hS hl
    refine lv_lstore (lv' := [(6, .long k52_0), (0, .ref (ad 0)), (1, .int x1), (2, .long x2), (4, .long w52_4)]) C.1 C.2.1 dX12_addTo_52 hl (by decide) rfl (fun ls hl => ?_)
    have hl : lv_has ls 8 [(0, .ref (ad 0)), (1, .int x1), (2, .long x2), (4, .long w52_4), (6, .long k52_0)] := lv_sub hl [1, 2, 3, 4, 0] rfl
    refine lv_lload C.1 C.2.1 dX12_addTo_54 (lv_at hl 4 rfl) ?_
    refine lv_ldc2 (v := 1073741823) C.1 C.2.1 C.2.2.2.1 (C.2.2.2.2.1 _ m_36_3) dX12_addTo_56 ?_
    obtain ⟨v_14, e_15⟩ : ∃ z, z = lg_cmp (k52_0 : Int64) 1073741823 := ⟨_, rfl⟩
    have h_16 : (-1 : Int) ≤ v_14.toInt ∧ v_14.toInt ≤ 1 := by rw [e_15]; exact cmp_rng _ _
    refine k_lcmp (v := v_14) C e_15.symm dX12_addTo_59 ?_
    refine lv_if_le (tgt := 68) C.1 C.2.1 dX12_addTo_60 (by decide) (fun c_17 => ?_) (fun c_17 => ?_)
    · replace c_17 : v_14.toInt ≤ 0 := i_le c_17
      exact L_68 t1 w52_4 k52_0 _ _ _ hok hfr hP hD hS (lv_sub hl [0, 1, 2, 3, 4] rfl)
    · replace c_17 : 0 < v_14.toInt := i_nle c_17
      refine lv_aload_n C.1 C.2.1 dX12_addTo_63 rfl (lv_at hl 0 rfl) ?_
      refine lv_iconst (v := 1) C.1 C.2.1 dX12_addTo_64 (by decide) ?_
      refine k_put (ws' := WM K ad (uI t1 0 5 1)) (v := .int 1) C hP hD hS 0 rfl rfl inlX12 tyX12_ok nmX12 5 (by decide) m_29_21 rfl (by decide) (by decide) rfl rfl dX12_addTo_65 (fun H locs hP hD hS => ?_)
      have hok : okM (uI t1 0 5 1) := ⟨okI_I hok.1 0 5 1 (show (0 : Int) ≤ (1 : Int32).toInt ∧ (1 : Int32).toInt ≤ 1 from ⟨by decide, by decide⟩), hok.2.1, hok.2.2.1, hok.2.2.2.1, hok.2.2.2.2.1, hok.2.2.2.2.2.1, hok.2.2.2.2.2.2.1, trivial⟩
      have hfr : frA [(0, 5)] [] [3] [] t (uI t1 0 5 1) := frA_I hfr 0 5 _ rfl
      exact L_68 (uI t1 0 5 1) w52_4 k52_0 _ _ _ hok hfr hP hD hS (lv_sub hl [0, 1, 2, 3, 4] rfl)
  refine lv_aload_n C.1 C.2.1 dX12_addTo_0 rfl (lv_at hl 0 rfl) ?_
  refine k_get (v := .ref (ad 3)) C hP 0 rfl rfl inlX12 4 (by decide) m_7_6 rfl dX12_addTo_1 ?_
  refine lv_iload_n C.1 C.2.1 dX12_addTo_4 rfl (lv_at hl 1 rfl) ?_
  obtain ⟨v_18, e_19⟩ : ∃ z, z = (t.2.2.1 3 (x1 : Int32).toNatClampNeg) := ⟨_, rfl⟩
  refine k_ild (v := v_18) C hP 3 rfl (vp_in_iff.mpr ⟨by omega, by omega⟩) e_19.symm dX12_addTo_5 ?_
  refine g_Si (As := [.int v_18]) (rest := []) C hP hD hS hA (T_X12_value l D K Z Y ad t hok (v_18)) hE hZ (uwS m_36_9 m_36_10 m_1_5 m_36_11) (hdS 1 (by decide +kernel) rfl) ⟨Nat.le_of_ble_eq_true rfl, Nat.le_of_ble_eq_true rfl⟩ rfl rfl rfl hl.1 (Nat.le_of_ble_eq_true rfl) dX12_addTo_6 ⟨Nat.le_of_ble_eq_true rfl, Nat.le_of_ble_eq_true rfl⟩ (fun r_21 t_20 H locs hw hP hD hS => ?_)
  obtain ⟨h_23, h_24, p_25⟩ := hw
  replace p_25 : r_21.toInt = (vO v_18).toInt := p_25
  obtain ⟨v_26, e_27⟩ : ∃ z, z = (r_21 : Int32).toInt64 := ⟨_, rfl⟩
  have h_28 : v_26.toInt = r_21.toInt := by rw [e_27]; exact Jvm.Kit.i64_of_i32 _
  have h_29 := i_rng r_21
  refine lv_i2l (v := v_26) C.1 C.2.1 dX12_addTo_9 e_27.symm ?_
  refine lv_lload_n C.1 C.2.1 dX12_addTo_10 rfl (lv_at hl 2 rfl) ?_
  obtain ⟨v_30, e_31⟩ : ∃ z, z = (v_26 : Int64) + (x2 : Int64) := ⟨_, rfl⟩
  have h_32 : v_30.toInt = v_26.toInt + x2.toInt := by rw [e_31]; exact Jvm.Kit.i64_add (by show (_ : Int) ≤ v_26.toInt + x2.toInt; omega) (by show v_26.toInt + x2.toInt < (_ : Int); omega)
  refine k_ladd (v := v_30) C e_31.symm dX12_addTo_11 ?_
  refine lv_lstore (lv' := [(4, .long v_30), (0, .ref (ad 0)), (1, .int x1), (2, .long x2)]) C.1 C.2.1 dX12_addTo_12 hl (by decide) rfl (fun ls hl => ?_)
  have hl : lv_has ls 8 [(0, .ref (ad 0)), (1, .int x1), (2, .long x2), (4, .long v_30)] := lv_sub hl [1, 2, 3, 0] rfl
  refine lv_lload C.1 C.2.1 dX12_addTo_14 (lv_at hl 3 rfl) ?_
  refine lv_lconst (v := 0) C.1 C.2.1 dX12_addTo_16 (by decide) ?_
  obtain ⟨v_33, e_34⟩ : ∃ z, z = lg_cmp (v_30 : Int64) 0 := ⟨_, rfl⟩
  have h_35 : (-1 : Int) ≤ v_33.toInt ∧ v_33.toInt ≤ 1 := by rw [e_34]; exact cmp_rng _ _
  refine k_lcmp (v := v_33) C e_34.symm dX12_addTo_17 ?_
  refine lv_if_ne (tgt := 37) C.1 C.2.1 dX12_addTo_18 (by decide) (fun c_36 => ?_) (fun c_36 => ?_)
  · replace c_36 : ¬ v_33.toInt = 0 := i_ne c_36
    refine lv_lload C.1 C.2.1 dX12_addTo_37 (lv_at hl 3 rfl) ?_
    refine lv_lconst (v := 0) C.1 C.2.1 dX12_addTo_39 (by decide) ?_
    obtain ⟨v_37, e_38⟩ : ∃ z, z = lg_cmp (v_30 : Int64) 0 := ⟨_, rfl⟩
    have h_39 : (-1 : Int) ≤ v_37.toInt ∧ v_37.toInt ≤ 1 := by rw [e_38]; exact cmp_rng _ _
    refine k_lcmp (v := v_37) C e_38.symm dX12_addTo_40 ?_
    refine lv_if_ge (tgt := 50) C.1 C.2.1 dX12_addTo_41 (by decide) (fun c_40 => ?_) (fun c_40 => ?_)
    · replace c_40 : 0 ≤ v_37.toInt := i_le c_40
      refine lv_lload C.1 C.2.1 dX12_addTo_50 (lv_at hl 3 rfl) ?_
      exact L_52 t v_30 v_30 _ _ _ hok hfr hP hD hS (lv_sub hl [0, 1, 2, 3] rfl)
    · replace c_40 : v_37.toInt < 0 := i_nle c_40
      refine lv_lload C.1 C.2.1 dX12_addTo_44 (lv_at hl 3 rfl) ?_
      have h_41 : (-v_30).toInt = -v_30.toInt := Jvm.Kit.i64_neg (by show ¬ v_30.toInt = (_ : Int); omega)
      refine lv_lneg C.1 C.2.1 dX12_addTo_46 ?_
      refine lv_goto (tgt := 52) C.1 C.2.1 dX12_addTo_47 (by decide) ?_
      exact L_52 t v_30 (-v_30) _ _ _ hok hfr hP hD hS (lv_sub hl [0, 1, 2, 3] rfl)
  · replace c_36 : v_33.toInt = 0 := i_eq c_36
    refine lv_aload_n C.1 C.2.1 dX12_addTo_21 rfl (lv_at hl 0 rfl) ?_
    refine k_get (v := .ref (ad 3)) C hP 0 rfl rfl inlX12 4 (by decide) m_7_6 rfl dX12_addTo_22 ?_
    refine lv_iload_n C.1 C.2.1 dX12_addTo_25 rfl (lv_at hl 1 rfl) ?_
    refine lv_aload_n C.1 C.2.1 dX12_addTo_26 rfl (lv_at hl 0 rfl) ?_
    refine k_get (v := .ref (ad 3)) C hP 0 rfl rfl inlX12 4 (by decide) m_7_6 rfl dX12_addTo_27 ?_
    refine lv_iload_n C.1 C.2.1 dX12_addTo_30 rfl (lv_at hl 1 rfl) ?_
    obtain ⟨v_42, e_43⟩ : ∃ z, z = (t.2.2.1 3 (x1 : Int32).toNatClampNeg) := ⟨_, rfl⟩
    refine k_ild (v := v_42) C hP 3 rfl (vp_in_iff.mpr ⟨by omega, by omega⟩) e_43.symm dX12_addTo_31 ?_
    refine lv_ldc (v := 1073741824) C.1 C.2.1 C.2.2.2.1 (C.2.2.2.2.1 _ m_34_19) dX12_addTo_32 ?_
    obtain ⟨v_44, e_45⟩ : ∃ z, z = (v_42 : Int32) &&& (1073741824 : Int32) := ⟨_, rfl⟩
    have h_46 : (0 : Int) ≤ v_44.toInt ∧ v_44.toInt ≤ 1073741824 := by rw [e_45]; exact z_and _ (k := 1073741824) (by decide) (by decide)
    refine k_iand (v := v_44) C e_45.symm dX12_addTo_34 ?_
    refine k_ist (ws' := WM K ad (uB t 3 (x1 : Int32).toNatClampNeg v_44)) (x' := v_44) C hP hD hS 3 rfl (vp_in_iff.mpr ⟨by omega, by omega⟩) rfl rfl rfl dX12_addTo_35 (fun H locs hP hD hS => ?_)
    have hok : okM (uB t 3 (x1 : Int32).toNatClampNeg v_44) := ⟨hok.1, okB_B hok.2.1 3 _ v_44 (show (-2147483648 : Int) ≤ (v_44 : Int32).toInt ∧ (v_44 : Int32).toInt ≤ 2147483647 from (i_rng _)), hok.2.2.1, hok.2.2.2.1, hok.2.2.2.2.1, hok.2.2.2.2.2.1, hok.2.2.2.2.2.2.1, trivial⟩
    have hfr : frA [(0, 5)] [] [3] [] t (uB t 3 (x1 : Int32).toNatClampNeg v_44) := frA_B hfr 3 _ _ rfl
    exact g_vret C hr hlocks hP hD hS (uB t 3 (x1 : Int32).toNatClampNeg v_44) rfl ⟨hok, hfr⟩ (Nat.le_of_ble_eq_true rfl) (Nat.le_of_ble_eq_true rfl) dX12_addTo_36
