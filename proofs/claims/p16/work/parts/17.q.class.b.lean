set_option maxHeartbeats 4000000 in
set_option maxRecDepth 100000 in
theorem U_X3_isCard (l : Launch) (D : va_G) (K : Nat → ClassId) (Z Y : Nat → Nat) (ad : Nat → Nat) (d : dSt) (t : tSt) (hok : okX t) (i1 : Nat) (hi1 : sS i1) : tMet l yX3_isCard cX3_isCard 2 (some .boolean) (rmD 5 0 0) D K Z Y [.ref (ad 7), .ref (Z i1)] ((WX d) K ad t) (QI D K (fun (r : Int32) (u : Unit) => (0 : Int) ≤ r.toInt ∧ r.toInt ≤ 1 ∧ (r.toInt = 1 ↔ (aW (t.2.2.1 51) 0 i1 ∧ (t.2.2.1 51) (sByt i1).length = 32))) (fun (_ : Unit) => (WX d) K ad t)) 0 0 := by
  refine t_met RX3 ⟨rfl, by decide +kernel⟩ (Nat.le_of_ble_eq_true rfl) ?_
  intro p e s m below meth c A ls C hE hZ hr hlocks hA hP hD hS hl
  have hl : lv_has ls 2 [(0, .ref (ad 7)), (1, .ref (Z i1))] := hl
  refine lv_aload_n C.1 C.2.1 dX3_isCard_0 rfl (lv_at hl 0 rfl) ?_
  refine k_get (v := .ref (ad 29)) C hP 7 rfl rfl inlX3 0 (by decide) m_6_23 rfl dX3_isCard_1 ?_
  refine lv_iconst (v := 0) C.1 C.2.1 dX3_isCard_4 (by decide) ?_
  refine lv_aload_n C.1 C.2.1 dX3_isCard_5 rfl (lv_at hl 1 rfl) ?_
  have h_1 : (0 : Int32).toInt = 0 := rfl
  refine g_Vi (As := [.int 0, .ref (Z i1)]) (rest := []) C hP hD hS hA (U_X9_isAt l D K Z Y ad d t hok 0 (show (0 : Int) ≤ (0 : Int32).toInt ∧ (0 : Int32).toInt ≤ 100 from ⟨by decide, by decide⟩) (i1) hi1) hE hZ (uwV m_72_2 m_72_3 m_72_4 m_1_17 m_72_5) (hdV 2 (by decide +kernel) rfl) ⟨Nat.le_of_ble_eq_true rfl, Nat.le_of_ble_eq_true rfl⟩ rfl rfl (ci := 8) (q0 := 29) rfl rfl rfl hl.1 (Nat.le_of_ble_eq_true rfl) dX3_isCard_6 ⟨Nat.le_of_ble_eq_true rfl, Nat.le_of_ble_eq_true rfl⟩ (fun r_3 t_2 H locs hw hP hD hS => ?_)
  obtain ⟨h_5, h_6, p_7⟩ := hw
  replace p_7 : r_3.toInt = 1 ↔ aW (t.2.2.1 51) (0 : Int32).toInt i1 := p_7
  have kyA := p_7
  refine lv_if_eq (tgt := 30) C.1 C.2.1 dX3_isCard_9 (by decide) (fun c_8 => ?_) (fun c_8 => ?_)
  · replace c_8 : r_3.toInt = 0 := i_eq c_8
    refine lv_iconst (v := 0) C.1 C.2.1 dX3_isCard_30 (by decide) ?_
    exact g_iret C hr hlocks hP hD hS (by decide) () rfl ⟨by decide, by decide, (show 0 = 1 ↔ (aW (t.2.2.1 51) 0 i1 ∧ (t.2.2.1 51) (sByt i1).length = 32) from by first | exact ic_0 kyA (by omega) | exact ic_00 kyB (by assumption) (by omega) | exact ic_1 kyA kyB (by assumption) (by omega) (by omega))⟩ (Nat.le_of_ble_eq_true rfl) (Nat.le_of_ble_eq_true rfl) dX3_isCard_31
  · replace c_8 : ¬ r_3.toInt = 0 := i_ne c_8
    refine lv_aload_n C.1 C.2.1 dX3_isCard_12 rfl (lv_at hl 0 rfl) ?_
    refine k_get (v := .ref (ad 29)) C hP 7 rfl rfl inlX3 0 (by decide) m_6_23 rfl dX3_isCard_13 ?_
    refine lv_aload_n C.1 C.2.1 dX3_isCard_16 rfl (lv_at hl 1 rfl) ?_
    refine g_Ti (As := []) (rest := [.ref (ad 29)]) C hP hD hS hA (TJ_length l D K Z Y ((WX d) K ad t) i1 (sS_lt hi1)) hE hZ (uwV m_73_2 m_14_22 m_14_23 m_14_8 m_15_0) (hdV 0 (by decide +kernel) rfl) ⟨Nat.le_of_ble_eq_true rfl, Nat.le_of_ble_eq_true rfl⟩ rfl rfl (i0 := i1) (sS_lt hi1) rfl rfl hl.1 (Nat.le_of_ble_eq_true rfl) dX3_isCard_17 ⟨Nat.le_of_ble_eq_true rfl, Nat.le_of_ble_eq_true rfl⟩ (fun r_9 u_r_9 H locs hw hP hD hS => ?_)
    have h_10 : r_9.toInt = sL i1 := hw
    have h_11 := sS_len hi1
    refine g_Vi (As := [.int r_9]) (rest := []) C hP hD hS hA (U_X9_isBlankAt l D K Z Y ad d t hok (r_9)) hE hZ (uwV m_72_22 m_72_23 m_73_0 m_1_17 m_73_1) (hdV 1 (by decide +kernel) rfl) ⟨Nat.le_of_ble_eq_true rfl, Nat.le_of_ble_eq_true rfl⟩ rfl rfl (ci := 8) (q0 := 29) rfl rfl rfl hl.1 (Nat.le_of_ble_eq_true rfl) dX3_isCard_20 ⟨Nat.le_of_ble_eq_true rfl, Nat.le_of_ble_eq_true rfl⟩ (fun r_13 t_12 H locs hw hP hD hS => ?_)
    obtain ⟨h_15, h_16, p_17⟩ := hw
    replace p_17 : r_13.toInt = 1 ↔ (80 ≤ r_9.toInt ∨ 0 ≤ r_9.toInt ∧ (t.2.2.1 51 (r_9 : Int32).toNatClampNeg).toInt = 32) := p_17
    have kyB := p_17
    refine lv_if_eq (tgt := 30) C.1 C.2.1 dX3_isCard_23 (by decide) (fun c_18 => ?_) (fun c_18 => ?_)
    · replace c_18 : r_13.toInt = 0 := i_eq c_18
      refine lv_iconst (v := 0) C.1 C.2.1 dX3_isCard_30 (by decide) ?_
      exact g_iret C hr hlocks hP hD hS (by decide) () rfl ⟨by decide, by decide, (show 0 = 1 ↔ (aW (t.2.2.1 51) 0 i1 ∧ (t.2.2.1 51) (sByt i1).length = 32) from by first | exact ic_0 kyA (by omega) | exact ic_00 kyB (by assumption) (by omega) | exact ic_1 kyA kyB (by assumption) (by omega) (by omega))⟩ (Nat.le_of_ble_eq_true rfl) (Nat.le_of_ble_eq_true rfl) dX3_isCard_31
    · replace c_18 : ¬ r_13.toInt = 0 := i_ne c_18
      refine lv_iconst (v := 1) C.1 C.2.1 dX3_isCard_26 (by decide) ?_
      refine lv_goto (tgt := 31) C.1 C.2.1 dX3_isCard_27 (by decide) ?_
      exact g_iret C hr hlocks hP hD hS (by decide) () rfl ⟨by decide, by decide, (show 1 = 1 ↔ (aW (t.2.2.1 51) 0 i1 ∧ (t.2.2.1 51) (sByt i1).length = 32) from by first | exact ic_0 kyA (by omega) | exact ic_00 kyB (by assumption) (by omega) | exact ic_1 kyA kyB (by assumption) (by omega) (by omega))⟩ (Nat.le_of_ble_eq_true rfl) (Nat.le_of_ble_eq_true rfl) dX3_isCard_31

set_option maxHeartbeats 4000000 in
set_option maxRecDepth 100000 in
theorem U_X3_wordOf (l : Launch) (D : va_G) (K : Nat → ClassId) (Z Y : Nat → Nat) (ad : Nat → Nat) (d : dSt) (t : tSt) (hok : okX t) (x0 : Int32) (hx0 : (0 : Int) ≤ x0.toInt ∧ x0.toInt ≤ 4) : tMet l yX3_wordOf cX3_wordOf 1 (some (.object "java/lang/String")) (rmD 0 0 0) D K Z Y [.int x0] ((WX d) K ad t) (QR D K (fun (u : Nat) => sS u ∧ (u = oW (x0.toInt).toNat)) (fun u => Z u) (fun (_ : Nat) => (WX d) K ad t)) 0 0 := by
  refine t_met RX3 ⟨rfl, by decide +kernel⟩ (Nat.le_of_ble_eq_true rfl) ?_
  intro p e s m below meth c A ls C hE hZ hr hlocks hA hP hD hS hl
  have hl : lv_has ls 1 [(0, .int x0)] := hl
  refine lv_iload_n C.1 C.2.1 dX3_wordOf_0 rfl (lv_at hl 0 rfl) ?_
  by_cases c_1 : x0 = 0
  · refine lv_tableIn (tgt := 32) (off := 31) C.1 C.2.1 dX3_wordOf_1 (by rw [c_1]; decide) (by rw [c_1]; decide) (by rw [c_1]; decide) (by decide) ?_
    replace c_1 : x0.toInt = 0 := i_eq c_1
    refine va_ldcS C.1 C.2.1 C.2.2.2.1 (hE.2 8 (by decide)) dX3_wordOf_32 ?_
    exact g_rret C hr hlocks hP hD hS (Or.inl ⟨_, rfl⟩) 8 rfl rfl ⟨(show sS 8 from ⟨by decide, by decide, by decide⟩), (show 8 = oW (x0.toInt).toNat from by unfold oW; omega)⟩ (Nat.le_of_ble_eq_true rfl) (Nat.le_of_ble_eq_true rfl) dX3_wordOf_34
  replace c_1 : ¬ x0.toInt = 0 := i_ne c_1
  by_cases c_2 : x0 = 1
  · refine lv_tableIn (tgt := 35) (off := 34) C.1 C.2.1 dX3_wordOf_1 (by rw [c_2]; decide) (by rw [c_2]; decide) (by rw [c_2]; decide) (by decide) ?_
    replace c_2 : x0.toInt = 1 := i_eq c_2
    refine va_ldcS C.1 C.2.1 C.2.2.2.1 (hE.2 9 (by decide)) dX3_wordOf_35 ?_
    exact g_rret C hr hlocks hP hD hS (Or.inl ⟨_, rfl⟩) 9 rfl rfl ⟨(show sS 9 from ⟨by decide, by decide, by decide⟩), (show 9 = oW (x0.toInt).toNat from by unfold oW; omega)⟩ (Nat.le_of_ble_eq_true rfl) (Nat.le_of_ble_eq_true rfl) dX3_wordOf_37
  replace c_2 : ¬ x0.toInt = 1 := i_ne c_2
  by_cases c_3 : x0 = 2
  · refine lv_tableIn (tgt := 38) (off := 37) C.1 C.2.1 dX3_wordOf_1 (by rw [c_3]; decide) (by rw [c_3]; decide) (by rw [c_3]; decide) (by decide) ?_
    replace c_3 : x0.toInt = 2 := i_eq c_3
    refine va_ldcS C.1 C.2.1 C.2.2.2.1 (hE.2 10 (by decide)) dX3_wordOf_38 ?_
    exact g_rret C hr hlocks hP hD hS (Or.inl ⟨_, rfl⟩) 10 rfl rfl ⟨(show sS 10 from ⟨by decide, by decide, by decide⟩), (show 10 = oW (x0.toInt).toNat from by unfold oW; omega)⟩ (Nat.le_of_ble_eq_true rfl) (Nat.le_of_ble_eq_true rfl) dX3_wordOf_40
  replace c_3 : ¬ x0.toInt = 2 := i_ne c_3
  by_cases c_4 : x0 = 3
  · refine lv_tableIn (tgt := 41) (off := 40) C.1 C.2.1 dX3_wordOf_1 (by rw [c_4]; decide) (by rw [c_4]; decide) (by rw [c_4]; decide) (by decide) ?_
    replace c_4 : x0.toInt = 3 := i_eq c_4
    refine va_ldcS C.1 C.2.1 C.2.2.2.1 (hE.2 11 (by decide)) dX3_wordOf_41 ?_
    exact g_rret C hr hlocks hP hD hS (Or.inl ⟨_, rfl⟩) 11 rfl rfl ⟨(show sS 11 from ⟨by decide, by decide, by decide⟩), (show 11 = oW (x0.toInt).toNat from by unfold oW; omega)⟩ (Nat.le_of_ble_eq_true rfl) (Nat.le_of_ble_eq_true rfl) dX3_wordOf_43
  replace c_4 : ¬ x0.toInt = 3 := i_ne c_4
  refine lv_tableOut (tgt := 44) C.1 C.2.1 dX3_wordOf_1 (by omega) (by decide) ?_
  refine va_ldcS C.1 C.2.1 C.2.2.2.1 (hE.2 12 (by decide)) dX3_wordOf_44 ?_
  exact g_rret C hr hlocks hP hD hS (Or.inl ⟨_, rfl⟩) 12 rfl rfl ⟨(show sS 12 from ⟨by decide, by decide, by decide⟩), (show 12 = oW (x0.toInt).toNat from by unfold oW; omega)⟩ (Nat.le_of_ble_eq_true rfl) (Nat.le_of_ble_eq_true rfl) dX3_wordOf_46

set_option maxHeartbeats 4000000 in
set_option maxRecDepth 100000 in
theorem U_X3_optionsAt (l : Launch) (D : va_G) (K : Nat → ClassId) (Z Y : Nat → Nat) (ad : Nat → Nat) (d : dSt) (t : tSt) (hok : okX t) (x1 : Int32) (hx1 : (6 : Int) ≤ x1.toInt ∧ x1.toInt ≤ 27) : tMet l yX3_optionsAt cX3_optionsAt 6 (some .int) (rmD 5 0 0) D K Z Y [.ref (ad 7), .int x1] ((WX d) K ad t) (QI D K (fun (r : Int32) (u : Unit) => (-2147483648 : Int) ≤ r.toInt ∧ r.toInt ≤ 2147483647 ∧ (0 ≤ r.toInt ↔ oOK (gR (t.2.2.1 51)) (x1.toInt).toNat)) (fun (_ : Unit) => (WX d) K ad t)) 0 0 := by
  refine t_met RX3 ⟨rfl, by decide +kernel⟩ (Nat.le_of_ble_eq_true rfl) ?_
  intro p e s m below meth c A ls C hE hZ hr hlocks hA hP hD hS hl
  have hl : lv_has ls 6 [(0, .ref (ad 7)), (1, .int x1)] := hl
  have L_88 : ∀ (fuel_88 : Nat) (w88_2 : Int32) (w88_3 : Int32) (w88_4 : Int32) (H : Heap) (locs : List Loc) (ls : Array Slot), (5 : Int) ≤ w88_4.toInt ∧ w88_4.toInt ≤ 5 → (0 ≤ w88_3.toInt) → (w88_3.toInt ≤ 80) → (∀ j : Nat, oN (gR (t.2.2.1 51)) (x1.toInt).toNat 5 ≤ j → (j : Int) < w88_3.toInt → gR (t.2.2.1 51) j = 32) → (((oN (gR (t.2.2.1 51)) (x1.toInt).toNat 5 : Nat) : Int) ≤ w88_3.toInt) → (0 ≤ w88_2.toInt) → (w88_2.toInt ≤ 31) → (90 - w88_3.toInt) < (fuel_88 : Int) → va_P D vwCl ((WX d) K ad t) H → va_D A ((WX d) K ad t) → va_S A s.heap H locs → lv_has ls 6 [(0, .ref (ad 7)), (1, .int x1), (2, .int w88_2), (3, .int w88_3), (4, .int w88_4)] → W p l e (rmD 5 0 0) s m [.ref (ad 7), .int x1].toArray below meth c H locs 0 0 (MQ below (QI D K (fun (r : Int32) (u : Unit) => (-2147483648 : Int) ≤ r.toInt ∧ r.toInt ≤ 2147483647 ∧ (0 ≤ r.toInt ↔ oOK (gR (t.2.2.1 51)) (x1.toInt).toNat)) (fun (_ : Unit) => (WX d) K ad t) A) [.ref (ad 7), .int x1].toArray s 0 0 A) (F0 m 88 ls []) := by
    intro fuel_88
    induction fuel_88 with
    | zero =>
      intro w88_2 w88_3 w88_4 H locs ls hw88_4 hi88_0 hi88_1 hi88_2 hi88_3 hi88_4 hi88_5 hm88_88 hP hD hS hl
      exact absurd hm88_88 (by omega)
    | succ fuel_88 ih_88 =>
      intro w88_2 w88_3 w88_4 H locs ls hw88_4 hi88_0 hi88_1 hi88_2 hi88_3 hi88_4 hi88_5 hm88_88 hP hD hS hl
      have hm88_88 : (90 - w88_3.toInt) < (fuel_88 : Int) + 1 := by omega
      refine lv_iload_n C.1 C.2.1 dX3_optionsAt_88 rfl (lv_at hl 3 rfl) ?_
      refine lv_bipush (v := 80) C.1 C.2.1 dX3_optionsAt_89 (by decide) ?_
      refine lv_icmp_ge (tgt := 113) C.1 C.2.1 dX3_optionsAt_91 (by decide) (fun c_1 => ?_) (fun c_1 => ?_)
      · replace c_1 : 80 ≤ w88_3.toInt := i_le c_1
        refine lv_iload_n C.1 C.2.1 dX3_optionsAt_113 rfl (lv_at hl 2 rfl) ?_
        exact g_iret C hr hlocks hP hD hS rfl () rfl ⟨(i_rng _).1, (i_rng _).2, (show 0 ≤ w88_2.toInt ↔ oOK (gR (t.2.2.1 51)) (x1.toInt).toNat from by constructor <;> intro hz <;> first | (exfalso; omega) | (intro j h1 h2; exact hi88_2 j h1 (by omega)) | omega | (exfalso; have hq := hz w88_3.toInt.toNat (by omega) (by omega); exact absurd (kyB3.mpr ((gR_blank (by omega)).mpr hq)) (by omega)))⟩ (Nat.le_of_ble_eq_true rfl) (Nat.le_of_ble_eq_true rfl) dX3_optionsAt_114
      · replace c_1 : w88_3.toInt < 80 := i_nle c_1
        refine lv_aload_n C.1 C.2.1 dX3_optionsAt_94 rfl (lv_at hl 0 rfl) ?_
        refine k_get (v := .ref (ad 29)) C hP 7 rfl rfl inlX3 0 (by decide) m_6_23 rfl dX3_optionsAt_95 ?_
        refine lv_iload_n C.1 C.2.1 dX3_optionsAt_98 rfl (lv_at hl 3 rfl) ?_
        refine g_Vi (As := [.int w88_3]) (rest := []) C hP hD hS hA (U_X9_isBlankAt l D K Z Y ad d t hok (w88_3)) hE hZ (uwV m_72_22 m_72_23 m_73_0 m_1_17 m_73_1) (hdV 1 (by decide +kernel) rfl) ⟨Nat.le_of_ble_eq_true rfl, Nat.le_of_ble_eq_true rfl⟩ rfl rfl (ci := 8) (q0 := 29) rfl rfl rfl hl.1 (Nat.le_of_ble_eq_true rfl) dX3_optionsAt_99 ⟨Nat.le_of_ble_eq_true rfl, Nat.le_of_ble_eq_true rfl⟩ (fun r_3 t_2 H locs hw hP hD hS => ?_)
        obtain ⟨h_5, h_6, p_7⟩ := hw
        replace p_7 : r_3.toInt = 1 ↔ (80 ≤ w88_3.toInt ∨ 0 ≤ w88_3.toInt ∧ (t.2.2.1 51 (w88_3 : Int32).toNatClampNeg).toInt = 32) := p_7
        have kyB3 := p_7
        refine lv_if_ne (tgt := 107) C.1 C.2.1 dX3_optionsAt_102 (by decide) (fun c_8 => ?_) (fun c_8 => ?_)
        · replace c_8 : ¬ r_3.toInt = 0 := i_ne c_8
          obtain ⟨v_9, e_10⟩ : ∃ z, z = w88_3 + 1 := ⟨_, rfl⟩
          have h_11 : v_9.toInt = w88_3.toInt + 1 := by rw [e_10]; exact ti_iadd (by show (_ : Int) ≤ w88_3.toInt + 1; omega) (by show w88_3.toInt + 1 < (_ : Int); omega)
          refine lv_iinc (v := v_9) (lv' := [(3, .int v_9), (0, .ref (ad 7)), (1, .int x1), (2, .int w88_2), (4, .int w88_4)]) C.1 C.2.1 dX3_optionsAt_107 hl (k := 3) rfl e_10.symm (by decide) rfl (fun ls hl => ?_)
          have hl : lv_has ls 6 [(0, .ref (ad 7)), (1, .int x1), (2, .int w88_2), (3, .int v_9), (4, .int w88_4)] := lv_sub hl [1, 2, 3, 0, 4] rfl
          refine lv_goto (tgt := 88) C.1 C.2.1 dX3_optionsAt_110 (by decide) ?_
          exact ih_88 w88_2 v_9 w88_4 _ _ _ ⟨by omega, by omega⟩ (show 0 ≤ v_9.toInt from by omega) (show v_9.toInt ≤ 80 from by omega) (show ∀ j : Nat, oN (gR (t.2.2.1 51)) (x1.toInt).toNat 5 ≤ j → (j : Int) < v_9.toInt → gR (t.2.2.1 51) j = 32 from by intro j h1 h2; first | (exfalso; omega) | (rcases Int.lt_or_eq_of_le (show (j : Int) ≤ w88_3.toInt from by omega) with h9 | h9 <;> first | exact hi88_2 j h1 h9 | (have hz := (gR_blank (by omega)).mp (kyB3.mp (by omega)); rw [show w88_3.toInt.toNat = j by omega] at hz; exact hz)) | (exfalso; have hz := on_5 hi7_4 (by omega); omega)) (show ((oN (gR (t.2.2.1 51)) (x1.toInt).toNat 5 : Nat) : Int) ≤ v_9.toInt from by first | omega | (have hz := on_5 hi7_4 (by omega); omega)) (show 0 ≤ w88_2.toInt from by omega) (show w88_2.toInt ≤ 31 from by omega) (show (90 - v_9.toInt) < (fuel_88 : Int) from by omega) hP hD hS (lv_sub hl [0, 1, 2, 3, 4] rfl)
        · replace c_8 : r_3.toInt = 0 := i_eq c_8
          refine lv_iconst (v := (-1)) C.1 C.2.1 dX3_optionsAt_105 (by decide) ?_
          exact g_iret C hr hlocks hP hD hS rfl () rfl ⟨(i_rng _).1, (i_rng _).2, (show 0 ≤ (-1) ↔ oOK (gR (t.2.2.1 51)) (x1.toInt).toNat from by constructor <;> intro hz <;> first | (exfalso; omega) | (intro j h1 h2; exact hi88_2 j h1 (by omega)) | omega | (exfalso; have hq := hz w88_3.toInt.toNat (by omega) (by omega); exact absurd (kyB3.mpr ((gR_blank (by omega)).mpr hq)) (by omega)))⟩ (Nat.le_of_ble_eq_true rfl) (Nat.le_of_ble_eq_true rfl) dX3_optionsAt_106
  have L_7 : ∀ (fuel_7 : Nat) (w7_2 : Int32) (w7_3 : Int32) (w7_4 : Int32) (H : Heap) (locs : List Loc) (ls : Array Slot), (0 : Int) ≤ w7_4.toInt ∧ w7_4.toInt ≤ 5 → (0 ≤ w7_3.toInt) → (w7_3.toInt ≤ 30 + 6 * w7_4.toInt) → (0 ≤ w7_4.toInt) → (w7_4.toInt ≤ 5) → (w7_3.toInt = ((oN (gR (t.2.2.1 51)) (x1.toInt).toNat (w7_4.toInt : Int).toNat : Nat) : Int)) → (0 ≤ w7_2.toInt) → (w7_2.toInt ≤ 31) → (5 : Int) - w7_4.toInt < (fuel_7 : Int) → va_P D vwCl ((WX d) K ad t) H → va_D A ((WX d) K ad t) → va_S A s.heap H locs → lv_has ls 6 [(0, .ref (ad 7)), (1, .int x1), (2, .int w7_2), (3, .int w7_3), (4, .int w7_4)] → W p l e (rmD 5 0 0) s m [.ref (ad 7), .int x1].toArray below meth c H locs 0 0 (MQ below (QI D K (fun (r : Int32) (u : Unit) => (-2147483648 : Int) ≤ r.toInt ∧ r.toInt ≤ 2147483647 ∧ (0 ≤ r.toInt ↔ oOK (gR (t.2.2.1 51)) (x1.toInt).toNat)) (fun (_ : Unit) => (WX d) K ad t) A) [.ref (ad 7), .int x1].toArray s 0 0 A) (F0 m 7 ls []) := by
    intro fuel_7
    induction fuel_7 with
    | zero =>
      intro w7_2 w7_3 w7_4 H locs ls hw7_4 hi7_0 hi7_1 hi7_2 hi7_3 hi7_4 hi7_5 hi7_6 hm7_7 hP hD hS hl
      exact absurd hm7_7 (by omega)
    | succ fuel_7 ih_7 =>
      intro w7_2 w7_3 w7_4 H locs ls hw7_4 hi7_0 hi7_1 hi7_2 hi7_3 hi7_4 hi7_5 hi7_6 hm7_7 hP hD hS hl
      have hm7_7 : (5 : Int) - w7_4.toInt < (fuel_7 : Int) + 1 := by omega
      have L_82 : ∀ (w82_2 : Int32) (w82_3 : Int32) (w82_4 : Int32) (w82_5 : Nat) (H : Heap) (locs : List Loc) (ls : Array Slot), (0 : Int) ≤ w82_4.toInt ∧ w82_4.toInt ≤ 4 → sS w82_5 → (0 ≤ w82_3.toInt) → (w82_3.toInt ≤ 36 + 6 * w82_4.toInt) → (0 ≤ w82_4.toInt) → (w82_4.toInt ≤ 4) → (w82_3.toInt = ((oN (gR (t.2.2.1 51)) (x1.toInt).toNat ((w82_4.toInt : Int).toNat + 1) : Nat) : Int)) → (0 ≤ w82_2.toInt) → (w82_2.toInt ≤ 31) → (5 : Int) - w82_4.toInt < (fuel_7 : Int) + 1 → va_P D vwCl ((WX d) K ad t) H → va_D A ((WX d) K ad t) → va_S A s.heap H locs → lv_has ls 6 [(0, .ref (ad 7)), (1, .int x1), (2, .int w82_2), (3, .int w82_3), (4, .int w82_4), (5, .ref (Z w82_5))] → W p l e (rmD 5 0 0) s m [.ref (ad 7), .int x1].toArray below meth c H locs 0 0 (MQ below (QI D K (fun (r : Int32) (u : Unit) => (-2147483648 : Int) ≤ r.toInt ∧ r.toInt ≤ 2147483647 ∧ (0 ≤ r.toInt ↔ oOK (gR (t.2.2.1 51)) (x1.toInt).toNat)) (fun (_ : Unit) => (WX d) K ad t) A) [.ref (ad 7), .int x1].toArray s 0 0 A) (F0 m 82 ls []) := by
        intro w82_2 w82_3 w82_4 w82_5 H locs ls hw82_4 hw82_5 hi82_0 hi82_1 hi82_2 hi82_3 hi82_4 hi82_5 hi82_6 hm82_7 hP hD hS hl
        obtain ⟨v_12, e_13⟩ : ∃ z, z = w82_4 + 1 := ⟨_, rfl⟩
        have h_14 : v_12.toInt = w82_4.toInt + 1 := by rw [e_13]; exact ti_iadd (by show (_ : Int) ≤ w82_4.toInt + 1; omega) (by show w82_4.toInt + 1 < (_ : Int); omega)
        refine lv_iinc (v := v_12) (lv' := [(4, .int v_12), (0, .ref (ad 7)), (1, .int x1), (2, .int w82_2), (3, .int w82_3), (5, .ref (Z w82_5))]) C.1 C.2.1 dX3_optionsAt_82 hl (k := 4) rfl e_13.symm (by decide) rfl (fun ls hl => ?_)
        have hl : lv_has ls 6 [(0, .ref (ad 7)), (1, .int x1), (2, .int w82_2), (3, .int w82_3), (4, .int v_12), (5, .ref (Z w82_5))] := lv_sub hl [1, 2, 3, 4, 0, 5] rfl
        refine lv_goto (tgt := 7) C.1 C.2.1 dX3_optionsAt_85 (by decide) ?_
        exact ih_7 w82_2 w82_3 v_12 _ _ _ ⟨by omega, by omega⟩ (show 0 ≤ w82_3.toInt from by omega) (show w82_3.toInt ≤ 30 + 6 * v_12.toInt from by omega) (show 0 ≤ v_12.toInt from by omega) (show v_12.toInt ≤ 5 from by omega) (show w82_3.toInt = ((oN (gR (t.2.2.1 51)) (x1.toInt).toNat (v_12.toInt : Int).toNat : Nat) : Int) from by first | exact on_go hi82_4 (by assumption) (by omega) | exact on_0 (by omega)) (show 0 ≤ w82_2.toInt from by omega) (show w82_2.toInt ≤ 31 from by omega) (show (5 : Int) - v_12.toInt < (fuel_7 : Int) from by omega) hP hD hS (lv_sub hl [0, 1, 2, 3, 4] rfl)
      refine lv_iload C.1 C.2.1 dX3_optionsAt_7 (lv_at hl 4 rfl) ?_
      refine lv_iconst (v := 4) C.1 C.2.1 dX3_optionsAt_9 (by decide) ?_
      refine lv_icmp_gt (tgt := 88) C.1 C.2.1 dX3_optionsAt_10 (by decide) (fun c_15 => ?_) (fun c_15 => ?_)
      · replace c_15 : 4 < w7_4.toInt := i_lt c_15
        exact L_88 200 w7_2 w7_3 w7_4 _ _ _ ⟨by omega, by omega⟩ (show 0 ≤ w7_3.toInt from by omega) (show w7_3.toInt ≤ 80 from by omega) (show ∀ j : Nat, oN (gR (t.2.2.1 51)) (x1.toInt).toNat 5 ≤ j → (j : Int) < w7_3.toInt → gR (t.2.2.1 51) j = 32 from by intro j h1 h2; first | (exfalso; omega) | (rcases Int.lt_or_eq_of_le (show (j : Int) ≤ w88_3.toInt from by omega) with h9 | h9 <;> first | exact hi88_2 j h1 h9 | (have hz := (gR_blank (by omega)).mp (kyB3.mp (by omega)); rw [show w88_3.toInt.toNat = j by omega] at hz; exact hz)) | (exfalso; have hz := on_5 hi7_4 (by omega); omega)) (show ((oN (gR (t.2.2.1 51)) (x1.toInt).toNat 5 : Nat) : Int) ≤ w7_3.toInt from by first | omega | (have hz := on_5 hi7_4 (by omega); omega)) (show 0 ≤ w7_2.toInt from by omega) (show w7_2.toInt ≤ 31 from by omega) (show (90 - w7_3.toInt) < ((200 : Nat) : Int) from by omega) hP hD hS (lv_sub hl [0, 1, 2, 3, 4] rfl)
      · replace c_15 : w7_4.toInt ≤ 4 := i_nlt c_15
        refine lv_iload C.1 C.2.1 dX3_optionsAt_13 (lv_at hl 4 rfl) ?_
        refine g_Sr (As := [.int w7_4]) (rest := []) C hP hD hS hA (U_X3_wordOf l D K Z Y ad d t hok (w7_4) (show (0 : Int) ≤ (w7_4 : Int32).toInt ∧ (w7_4 : Int32).toInt ≤ 4 from ⟨by omega, by omega⟩)) hE hZ (uwS m_72_19 m_72_20 m_2_17 m_72_21) (hdS 1 (by decide +kernel) rfl) ⟨Nat.le_of_ble_eq_true rfl, Nat.le_of_ble_eq_true rfl⟩ rfl rfl rfl hl.1 (Nat.le_of_ble_eq_true rfl) dX3_optionsAt_15 ⟨Nat.le_of_ble_eq_true rfl, Nat.le_of_ble_eq_true rfl⟩ (fun t_16 H locs hw hP hD hS => ?_)
        obtain ⟨ht_16, p_19⟩ := hw
        replace p_19 : t_16 = oW (w7_4.toInt).toNat := p_19
        have hsq := sS_len ht_16
        have kyU := p_19
        refine lv_astore (lv' := [(5, .ref (Z t_16)), (0, .ref (ad 7)), (1, .int x1), (2, .int w7_2), (3, .int w7_3), (4, .int w7_4)]) C.1 C.2.1 dX3_optionsAt_18 hl (by decide) rfl (fun ls hl => ?_)
        have hl : lv_has ls 6 [(0, .ref (ad 7)), (1, .int x1), (2, .int w7_2), (3, .int w7_3), (4, .int w7_4), (5, .ref (Z t_16))] := lv_sub hl [1, 2, 3, 4, 5, 0] rfl
        refine lv_aload_n C.1 C.2.1 dX3_optionsAt_20 rfl (lv_at hl 0 rfl) ?_
        refine k_get (v := .ref (ad 29)) C hP 7 rfl rfl inlX3 0 (by decide) m_6_23 rfl dX3_optionsAt_21 ?_
        refine lv_iload_n C.1 C.2.1 dX3_optionsAt_24 rfl (lv_at hl 3 rfl) ?_
        refine g_Vi (As := [.int w7_3]) (rest := []) C hP hD hS hA (U_X9_isBlankAt l D K Z Y ad d t hok (w7_3)) hE hZ (uwV m_72_22 m_72_23 m_73_0 m_1_17 m_73_1) (hdV 1 (by decide +kernel) rfl) ⟨Nat.le_of_ble_eq_true rfl, Nat.le_of_ble_eq_true rfl⟩ rfl rfl (ci := 8) (q0 := 29) rfl rfl rfl hl.1 (Nat.le_of_ble_eq_true rfl) dX3_optionsAt_25 ⟨Nat.le_of_ble_eq_true rfl, Nat.le_of_ble_eq_true rfl⟩ (fun r_21 t_20 H locs hw hP hD hS => ?_)
        obtain ⟨h_23, h_24, p_25⟩ := hw
        replace p_25 : r_21.toInt = 1 ↔ (80 ≤ w7_3.toInt ∨ 0 ≤ w7_3.toInt ∧ (t.2.2.1 51 (w7_3 : Int32).toNatClampNeg).toInt = 32) := p_25
        have kyB1 := p_25
        refine lv_if_eq (tgt := 82) C.1 C.2.1 dX3_optionsAt_28 (by decide) (fun c_26 => ?_) (fun c_26 => ?_)
        · replace c_26 : r_21.toInt = 0 := i_eq c_26
          exact L_82 w7_2 w7_3 w7_4 (t_16) _ _ _ ⟨by omega, by omega⟩ ht_16 (show 0 ≤ w7_3.toInt from by omega) (show w7_3.toInt ≤ 36 + 6 * w7_4.toInt from by omega) (show 0 ≤ w7_4.toInt from by omega) (show w7_4.toInt ≤ 4 from by omega) (show w7_3.toInt = ((oN (gR (t.2.2.1 51)) (x1.toInt).toNat ((w7_4.toInt : Int).toNat + 1) : Nat) : Int) from by first | exact op_f1 hi7_4 (fun hq => absurd (kyB1.mpr hq) (by omega)) | exact op_f2 hi7_4 (by omega) kyU (fun hq => absurd (kyA.mpr hq) (by omega)) (by assumption) | exact op_f3 hi7_4 kyU (fun hq => absurd (kyB2.mpr hq) (by omega)) (by omega) | exact op_t hi7_4 (by omega) kyU (kyB1.mp (by omega)) (kyA.mp (by omega)) (kyB2.mp (by omega)) (by omega) (by omega) (by omega)) (show 0 ≤ w7_2.toInt from by first | omega | exact (or_bit (by assumption) (by assumption) (by omega) (by omega)).1) (show w7_2.toInt ≤ 31 from by first | omega | exact (or_bit (by assumption) (by assumption) (by omega) (by omega)).2) (show (5 : Int) - w7_4.toInt < (fuel_7 : Int) + 1 from by omega) hP hD hS (lv_sub hl [0, 1, 2, 3, 4, 5] rfl)
        · replace c_26 : ¬ r_21.toInt = 0 := i_ne c_26
          refine lv_aload_n C.1 C.2.1 dX3_optionsAt_31 rfl (lv_at hl 0 rfl) ?_
          refine k_get (v := .ref (ad 29)) C hP 7 rfl rfl inlX3 0 (by decide) m_6_23 rfl dX3_optionsAt_32 ?_
          refine lv_iload_n C.1 C.2.1 dX3_optionsAt_35 rfl (lv_at hl 3 rfl) ?_
          refine lv_iconst (v := 1) C.1 C.2.1 dX3_optionsAt_36 (by decide) ?_
          obtain ⟨v_27, e_28⟩ : ∃ z, z = (w7_3 : Int32) + (1 : Int32) := ⟨_, rfl⟩
          have h_30 := i_rng w7_3
          have h_29 : v_27.toInt = w7_3.toInt + 1 := by rw [e_28]; exact ti_iadd (by show (_ : Int) ≤ w7_3.toInt + 1; omega) (by show w7_3.toInt + 1 < (_ : Int); omega)
          refine k_iadd (v := v_27) C e_28.symm dX3_optionsAt_37 ?_
          refine lv_aload C.1 C.2.1 dX3_optionsAt_38 (lv_at hl 5 rfl) ?_
          refine g_Vi (As := [.int v_27, .ref (Z t_16)]) (rest := []) C hP hD hS hA (U_X9_isAt l D K Z Y ad d t hok (v_27) (show (0 : Int) ≤ (v_27 : Int32).toInt ∧ (v_27 : Int32).toInt ≤ 100 from ⟨by omega, by omega⟩) (t_16) ht_16) hE hZ (uwV m_72_2 m_72_3 m_72_4 m_1_17 m_72_5) (hdV 2 (by decide +kernel) rfl) ⟨Nat.le_of_ble_eq_true rfl, Nat.le_of_ble_eq_true rfl⟩ rfl rfl (ci := 8) (q0 := 29) rfl rfl rfl hl.1 (Nat.le_of_ble_eq_true rfl) dX3_optionsAt_40 ⟨Nat.le_of_ble_eq_true rfl, Nat.le_of_ble_eq_true rfl⟩ (fun r_32 t_31 H locs hw hP hD hS => ?_)
          obtain ⟨h_34, h_35, p_36⟩ := hw
          replace p_36 : r_32.toInt = 1 ↔ aW (t.2.2.1 51) v_27.toInt t_16 := p_36
          have kyA := p_36
          refine lv_if_eq (tgt := 82) C.1 C.2.1 dX3_optionsAt_43 (by decide) (fun c_37 => ?_) (fun c_37 => ?_)
          · replace c_37 : r_32.toInt = 0 := i_eq c_37
            exact L_82 w7_2 w7_3 w7_4 (t_16) _ _ _ ⟨by omega, by omega⟩ ht_16 (show 0 ≤ w7_3.toInt from by omega) (show w7_3.toInt ≤ 36 + 6 * w7_4.toInt from by omega) (show 0 ≤ w7_4.toInt from by omega) (show w7_4.toInt ≤ 4 from by omega) (show w7_3.toInt = ((oN (gR (t.2.2.1 51)) (x1.toInt).toNat ((w7_4.toInt : Int).toNat + 1) : Nat) : Int) from by first | exact op_f1 hi7_4 (fun hq => absurd (kyB1.mpr hq) (by omega)) | exact op_f2 hi7_4 (by omega) kyU (fun hq => absurd (kyA.mpr hq) (by omega)) (by assumption) | exact op_f3 hi7_4 kyU (fun hq => absurd (kyB2.mpr hq) (by omega)) (by omega) | exact op_t hi7_4 (by omega) kyU (kyB1.mp (by omega)) (kyA.mp (by omega)) (kyB2.mp (by omega)) (by omega) (by omega) (by omega)) (show 0 ≤ w7_2.toInt from by first | omega | exact (or_bit (by assumption) (by assumption) (by omega) (by omega)).1) (show w7_2.toInt ≤ 31 from by first | omega | exact (or_bit (by assumption) (by assumption) (by omega) (by omega)).2) (show (5 : Int) - w7_4.toInt < (fuel_7 : Int) + 1 from by omega) hP hD hS (lv_sub hl [0, 1, 2, 3, 4, 5] rfl)
          · replace c_37 : ¬ r_32.toInt = 0 := i_ne c_37
            refine lv_aload_n C.1 C.2.1 dX3_optionsAt_46 rfl (lv_at hl 0 rfl) ?_
            refine k_get (v := .ref (ad 29)) C hP 7 rfl rfl inlX3 0 (by decide) m_6_23 rfl dX3_optionsAt_47 ?_
            refine lv_iload_n C.1 C.2.1 dX3_optionsAt_50 rfl (lv_at hl 3 rfl) ?_
            refine lv_iconst (v := 1) C.1 C.2.1 dX3_optionsAt_51 (by decide) ?_
            obtain ⟨v_38, e_39⟩ : ∃ z, z = (w7_3 : Int32) + (1 : Int32) := ⟨_, rfl⟩
            have h_41 := i_rng w7_3
            have h_40 : v_38.toInt = w7_3.toInt + 1 := by rw [e_39]; exact ti_iadd (by show (_ : Int) ≤ w7_3.toInt + 1; omega) (by show w7_3.toInt + 1 < (_ : Int); omega)
            refine k_iadd (v := v_38) C e_39.symm dX3_optionsAt_52 ?_
            refine lv_aload C.1 C.2.1 dX3_optionsAt_53 (lv_at hl 5 rfl) ?_
            refine g_Ti (As := []) (rest := [.int v_38, .ref (ad 29)]) C hP hD hS hA (TJ_length l D K Z Y ((WX d) K ad t) t_16 (sS_lt ht_16)) hE hZ (uwV m_73_2 m_14_22 m_14_23 m_14_8 m_15_0) (hdV 0 (by decide +kernel) rfl) ⟨Nat.le_of_ble_eq_true rfl, Nat.le_of_ble_eq_true rfl⟩ rfl rfl (i0 := t_16) (sS_lt ht_16) rfl rfl hl.1 (Nat.le_of_ble_eq_true rfl) dX3_optionsAt_55 ⟨Nat.le_of_ble_eq_true rfl, Nat.le_of_ble_eq_true rfl⟩ (fun r_42 u_r_42 H locs hw hP hD hS => ?_)
            have h_43 : r_42.toInt = sL t_16 := hw
            have h_44 := sS_len ht_16
            obtain ⟨v_45, e_46⟩ : ∃ z, z = (v_38 : Int32) + (r_42 : Int32) := ⟨_, rfl⟩
            have h_47 : v_45.toInt = v_38.toInt + r_42.toInt := by rw [e_46]; exact ti_iadd (by show (_ : Int) ≤ v_38.toInt + r_42.toInt; omega) (by show v_38.toInt + r_42.toInt < (_ : Int); omega)
            refine k_iadd (v := v_45) C e_46.symm dX3_optionsAt_58 ?_
            refine g_Vi (As := [.int v_45]) (rest := []) C hP hD hS hA (U_X9_isBlankAt l D K Z Y ad d t hok (v_45)) hE hZ (uwV m_72_22 m_72_23 m_73_0 m_1_17 m_73_1) (hdV 1 (by decide +kernel) rfl) ⟨Nat.le_of_ble_eq_true rfl, Nat.le_of_ble_eq_true rfl⟩ rfl rfl (ci := 8) (q0 := 29) rfl rfl rfl hl.1 (Nat.le_of_ble_eq_true rfl) dX3_optionsAt_59 ⟨Nat.le_of_ble_eq_true rfl, Nat.le_of_ble_eq_true rfl⟩ (fun r_49 t_48 H locs hw hP hD hS => ?_)
            obtain ⟨h_51, h_52, p_53⟩ := hw
            replace p_53 : r_49.toInt = 1 ↔ (80 ≤ v_45.toInt ∨ 0 ≤ v_45.toInt ∧ (t.2.2.1 51 (v_45 : Int32).toNatClampNeg).toInt = 32) := p_53
            have kyB2 := p_53
            refine lv_if_eq (tgt := 82) C.1 C.2.1 dX3_optionsAt_62 (by decide) (fun c_54 => ?_) (fun c_54 => ?_)
            · replace c_54 : r_49.toInt = 0 := i_eq c_54
              exact L_82 w7_2 w7_3 w7_4 (t_16) _ _ _ ⟨by omega, by omega⟩ ht_16 (show 0 ≤ w7_3.toInt from by omega) (show w7_3.toInt ≤ 36 + 6 * w7_4.toInt from by omega) (show 0 ≤ w7_4.toInt from by omega) (show w7_4.toInt ≤ 4 from by omega) (show w7_3.toInt = ((oN (gR (t.2.2.1 51)) (x1.toInt).toNat ((w7_4.toInt : Int).toNat + 1) : Nat) : Int) from by first | exact op_f1 hi7_4 (fun hq => absurd (kyB1.mpr hq) (by omega)) | exact op_f2 hi7_4 (by omega) kyU (fun hq => absurd (kyA.mpr hq) (by omega)) (by assumption) | exact op_f3 hi7_4 kyU (fun hq => absurd (kyB2.mpr hq) (by omega)) (by omega) | exact op_t hi7_4 (by omega) kyU (kyB1.mp (by omega)) (kyA.mp (by omega)) (kyB2.mp (by omega)) (by omega) (by omega) (by omega)) (show 0 ≤ w7_2.toInt from by first | omega | exact (or_bit (by assumption) (by assumption) (by omega) (by omega)).1) (show w7_2.toInt ≤ 31 from by first | omega | exact (or_bit (by assumption) (by assumption) (by omega) (by omega)).2) (show (5 : Int) - w7_4.toInt < (fuel_7 : Int) + 1 from by omega) hP hD hS (lv_sub hl [0, 1, 2, 3, 4, 5] rfl)
            · replace c_54 : ¬ r_49.toInt = 0 := i_ne c_54
              refine lv_iload_n C.1 C.2.1 dX3_optionsAt_65 rfl (lv_at hl 2 rfl) ?_
              refine lv_iconst (v := 1) C.1 C.2.1 dX3_optionsAt_66 (by decide) ?_
              refine lv_iload C.1 C.2.1 dX3_optionsAt_67 (lv_at hl 4 rfl) ?_
              obtain ⟨v_55, e_56⟩ : ∃ z, z = (1 : Int32) <<< ((w7_4 : Int32) &&& 31) := ⟨_, rfl⟩
              refine k_ishl (v := v_55) C e_56.symm dX3_optionsAt_69 ?_
              obtain ⟨v_58, e_59⟩ : ∃ z, z = (w7_2 : Int32) ||| (v_55 : Int32) := ⟨_, rfl⟩
              refine k_ior (v := v_58) C e_59.symm dX3_optionsAt_70 ?_
              refine lv_istore_n (lv' := [(2, .int v_58), (0, .ref (ad 7)), (1, .int x1), (3, .int w7_3), (4, .int w7_4), (5, .ref (Z t_16))]) C.1 C.2.1 dX3_optionsAt_71 rfl hl (by decide) rfl (fun ls hl => ?_)
              have hl : lv_has ls 6 [(0, .ref (ad 7)), (1, .int x1), (2, .int v_58), (3, .int w7_3), (4, .int w7_4), (5, .ref (Z t_16))] := lv_sub hl [1, 2, 0, 3, 4, 5] rfl
              refine lv_iload_n C.1 C.2.1 dX3_optionsAt_72 rfl (lv_at hl 3 rfl) ?_
              refine lv_iconst (v := 1) C.1 C.2.1 dX3_optionsAt_73 (by decide) ?_
              refine lv_aload C.1 C.2.1 dX3_optionsAt_74 (lv_at hl 5 rfl) ?_
              refine g_Ti (As := []) (rest := [.int 1, .int w7_3]) C hP hD hS hA (TJ_length l D K Z Y ((WX d) K ad t) t_16 (sS_lt ht_16)) hE hZ (uwV m_73_2 m_14_22 m_14_23 m_14_8 m_15_0) (hdV 0 (by decide +kernel) rfl) ⟨Nat.le_of_ble_eq_true rfl, Nat.le_of_ble_eq_true rfl⟩ rfl rfl (i0 := t_16) (sS_lt ht_16) rfl rfl hl.1 (Nat.le_of_ble_eq_true rfl) dX3_optionsAt_76 ⟨Nat.le_of_ble_eq_true rfl, Nat.le_of_ble_eq_true rfl⟩ (fun r_61 u_r_61 H locs hw hP hD hS => ?_)
              have h_62 : r_61.toInt = sL t_16 := hw
              have h_63 := sS_len ht_16
              obtain ⟨v_64, e_65⟩ : ∃ z, z = (1 : Int32) + (r_61 : Int32) := ⟨_, rfl⟩
              have h_66 : v_64.toInt = 1 + r_61.toInt := by rw [e_65]; exact ti_iadd (by show (_ : Int) ≤ 1 + r_61.toInt; omega) (by show 1 + r_61.toInt < (_ : Int); omega)
              refine k_iadd (v := v_64) C e_65.symm dX3_optionsAt_79 ?_
              obtain ⟨v_67, e_68⟩ : ∃ z, z = (w7_3 : Int32) + (v_64 : Int32) := ⟨_, rfl⟩
              have h_70 := i_rng w7_3
              have h_69 : v_67.toInt = w7_3.toInt + v_64.toInt := by rw [e_68]; exact ti_iadd (by show (_ : Int) ≤ w7_3.toInt + v_64.toInt; omega) (by show w7_3.toInt + v_64.toInt < (_ : Int); omega)
              refine k_iadd (v := v_67) C e_68.symm dX3_optionsAt_80 ?_
              refine lv_istore_n (lv' := [(3, .int v_67), (0, .ref (ad 7)), (1, .int x1), (2, .int v_58), (4, .int w7_4), (5, .ref (Z t_16))]) C.1 C.2.1 dX3_optionsAt_81 rfl hl (by decide) rfl (fun ls hl => ?_)
              have hl : lv_has ls 6 [(0, .ref (ad 7)), (1, .int x1), (2, .int v_58), (3, .int v_67), (4, .int w7_4), (5, .ref (Z t_16))] := lv_sub hl [1, 2, 3, 0, 4, 5] rfl
              exact L_82 v_58 v_67 w7_4 (t_16) _ _ _ ⟨by omega, by omega⟩ ht_16 (show 0 ≤ v_67.toInt from by omega) (show v_67.toInt ≤ 36 + 6 * w7_4.toInt from by omega) (show 0 ≤ w7_4.toInt from by omega) (show w7_4.toInt ≤ 4 from by omega) (show v_67.toInt = ((oN (gR (t.2.2.1 51)) (x1.toInt).toNat ((w7_4.toInt : Int).toNat + 1) : Nat) : Int) from by first | exact op_f1 hi7_4 (fun hq => absurd (kyB1.mpr hq) (by omega)) | exact op_f2 hi7_4 (by omega) kyU (fun hq => absurd (kyA.mpr hq) (by omega)) (by assumption) | exact op_f3 hi7_4 kyU (fun hq => absurd (kyB2.mpr hq) (by omega)) (by omega) | exact op_t hi7_4 (by omega) kyU (kyB1.mp (by omega)) (kyA.mp (by omega)) (kyB2.mp (by omega)) (by omega) (by omega) (by omega)) (show 0 ≤ v_58.toInt from by first | omega | exact (or_bit (by assumption) (by assumption) (by omega) (by omega)).1) (show v_58.toInt ≤ 31 from by first | omega | exact (or_bit (by assumption) (by assumption) (by omega) (by omega)).2) (show (5 : Int) - w7_4.toInt < (fuel_7 : Int) + 1 from by omega) hP hD hS (lv_sub hl [0, 1, 2, 3, 4, 5] rfl)
  refine lv_iconst (v := 0) C.1 C.2.1 dX3_optionsAt_0 (by decide) ?_
  refine lv_istore_n (lv' := [(2, .int 0), (0, .ref (ad 7)), (1, .int x1)]) C.1 C.2.1 dX3_optionsAt_1 rfl hl (by decide) rfl (fun ls hl => ?_)
  have hl : lv_has ls 6 [(0, .ref (ad 7)), (1, .int x1), (2, .int 0)] := lv_sub hl [1, 2, 0] rfl
  refine lv_iload_n C.1 C.2.1 dX3_optionsAt_2 rfl (lv_at hl 1 rfl) ?_
  refine lv_istore_n (lv' := [(3, .int x1), (0, .ref (ad 7)), (1, .int x1), (2, .int 0)]) C.1 C.2.1 dX3_optionsAt_3 rfl hl (by decide) rfl (fun ls hl => ?_)
  have hl : lv_has ls 6 [(0, .ref (ad 7)), (1, .int x1), (2, .int 0), (3, .int x1)] := lv_sub hl [1, 2, 3, 0] rfl
  refine lv_iconst (v := 0) C.1 C.2.1 dX3_optionsAt_4 (by decide) ?_
  refine lv_istore (lv' := [(4, .int 0), (0, .ref (ad 7)), (1, .int x1), (2, .int 0), (3, .int x1)]) C.1 C.2.1 dX3_optionsAt_5 hl (by decide) rfl (fun ls hl => ?_)
  have hl : lv_has ls 6 [(0, .ref (ad 7)), (1, .int x1), (2, .int 0), (3, .int x1), (4, .int 0)] := lv_sub hl [1, 2, 3, 4, 0] rfl
  exact L_7 6 0 x1 0 _ _ _ ⟨by decide, by decide⟩ (show 0 ≤ x1.toInt from by omega) (show x1.toInt ≤ 30 + 6 * 0 from by omega) (show 0 ≤ 0 from by omega) (show 0 ≤ 5 from by omega) (show x1.toInt = ((oN (gR (t.2.2.1 51)) (x1.toInt).toNat (0 : Int).toNat : Nat) : Int) from by first | exact on_go hi82_4 (by assumption) (by omega) | exact on_0 (by omega)) (show 0 ≤ 0 from by omega) (show 0 ≤ 31 from by omega) (show (5 : Int) - 0 < ((6 : Nat) : Int) from by omega) hP hD hS (lv_sub hl [0, 1, 2, 3, 4] rfl)

set_option maxHeartbeats 4000000 in
set_option maxRecDepth 100000 in
theorem U_X3_isJob (l : Launch) (D : va_G) (K : Nat → ClassId) (Z Y : Nat → Nat) (ad : Nat → Nat) (d : dSt) (t : tSt) (hok : okX t)  : tMet l yX3_isJob cX3_isJob 6 (some .boolean) (rmD 6 0 0) D K Z Y [.ref (ad 7)] ((WX d) K ad t) (QI D K (fun (r : Int32) (u : tSt) => okX u ∧ frA [(7, 2), (7, 3)] [] [30] [] t u ∧ (0 : Int) ≤ r.toInt ∧ r.toInt ≤ 1 ∧ (r.toInt = 1 ↔ jOK (gR (t.2.2.1 51)))) (fun (u : tSt) => (WX d) K ad u)) 0 0 := by
  refine t_met RX3 ⟨rfl, by decide +kernel⟩ (Nat.le_of_ble_eq_true rfl) ?_
  intro p e s m below meth c A ls C hE hZ hr hlocks hA hP hD hS hl
  have hl : lv_has ls 6 [(0, .ref (ad 7))] := hl
  have hokt := hok
  have hfr : frA [(7, 2), (7, 3)] [] [30] [] t t := frA_rf
  have L_131 : ∀ (fuel_131 : Nat) (t1 : tSt) (w131_1 : Int32) (w131_2 : Int32) (w131_3 : Int32) (w131_4 : Int32) (w131_5 : Int32) (H : Heap) (locs : List Loc) (ls : Array Slot), okX t1 → frA [(7, 2), (7, 3)] [] [30] [] t t1 → (1 : Int) ≤ w131_1.toInt ∧ w131_1.toInt ≤ 10 → (6 : Int) ≤ w131_2.toInt ∧ w131_2.toInt ≤ 21 → (1 : Int) ≤ w131_3.toInt ∧ w131_3.toInt ≤ 5 → (0 : Int) ≤ w131_4.toInt ∧ w131_4.toInt ≤ 2147483647 → (0 : Int) ≤ w131_5.toInt ∧ w131_5.toInt ≤ 10 → (jOK (gR (t.2.2.1 51))) → (10 : Int) - w131_5.toInt < (fuel_131 : Int) → va_P D vwCl ((WX d) K ad t1) H → va_D A ((WX d) K ad t1) → va_S A s.heap H locs → lv_has ls 6 [(0, .ref (ad 7)), (1, .int w131_1), (2, .int w131_2), (3, .int w131_3), (4, .int w131_4), (5, .int w131_5)] → W p l e (rmD 6 0 0) s m [.ref (ad 7)].toArray below meth c H locs 0 0 (MQ below (QI D K (fun (r : Int32) (u : tSt) => okX u ∧ frA [(7, 2), (7, 3)] [] [30] [] t u ∧ (0 : Int) ≤ r.toInt ∧ r.toInt ≤ 1 ∧ (r.toInt = 1 ↔ jOK (gR (t.2.2.1 51)))) (fun (u : tSt) => (WX d) K ad u) A) [.ref (ad 7)].toArray s 0 0 A) (F0 m 131 ls []) := by
    intro fuel_131
    induction fuel_131 with
    | zero =>
      intro t1 w131_1 w131_2 w131_3 w131_4 w131_5 H locs ls hok hfr hw131_1 hw131_2 hw131_3 hw131_4 hw131_5 hi131_0 hm131_131 hP hD hS hl
      have e_1 : t1.2.2.1 51 = t.2.2.1 51 := hfr.2.2.1 51 rfl
      exact absurd hm131_131 (by omega)
    | succ fuel_131 ih_131 =>
      intro t1 w131_1 w131_2 w131_3 w131_4 w131_5 H locs ls hok hfr hw131_1 hw131_2 hw131_3 hw131_4 hw131_5 hi131_0 hm131_131 hP hD hS hl
      have hm131_131 : (10 : Int) - w131_5.toInt < (fuel_131 : Int) + 1 := by omega
      have e_2 : t1.2.2.1 51 = t.2.2.1 51 := hfr.2.2.1 51 rfl
      refine lv_iload C.1 C.2.1 dX3_isJob_131 (lv_at hl 5 rfl) ?_
      refine lv_bipush (v := 10) C.1 C.2.1 dX3_isJob_133 (by decide) ?_
      refine lv_icmp_ge (tgt := 174) C.1 C.2.1 dX3_isJob_135 (by decide) (fun c_3 => ?_) (fun c_3 => ?_)
      · replace c_3 : 10 ≤ w131_5.toInt := i_le c_3
        refine lv_aload_n C.1 C.2.1 dX3_isJob_174 rfl (lv_at hl 0 rfl) ?_
        refine lv_aload_n C.1 C.2.1 dX3_isJob_175 rfl (lv_at hl 0 rfl) ?_
        refine k_get (v := .ref (ad 29)) C hP 7 rfl rfl inlX3 0 (by decide) m_6_23 rfl dX3_isJob_176 ?_
        refine lv_iload_n C.1 C.2.1 dX3_isJob_179 rfl (lv_at hl 2 rfl) ?_
        refine lv_iload_n C.1 C.2.1 dX3_isJob_180 rfl (lv_at hl 3 rfl) ?_
        refine g_Vl (As := [.int w131_2, .int w131_3]) (rest := [.ref (ad 7)]) C hP hD hS hA (T_X9_digits l D K Z Y ad d t1 hok (w131_2) (show (6 : Int) ≤ (w131_2 : Int32).toInt ∧ (w131_2 : Int32).toInt ≤ 21 from ⟨by omega, by omega⟩) (w131_3) (show (1 : Int) ≤ (w131_3 : Int32).toInt ∧ (w131_3 : Int32).toInt ≤ 5 from ⟨by omega, by omega⟩) (show 0 ≤ w131_3.toInt from by omega)) hE hZ (uwV m_73_3 m_73_4 m_73_5 m_1_17 m_73_6) (hdV 2 (by decide +kernel) rfl) ⟨Nat.le_of_ble_eq_true rfl, Nat.le_of_ble_eq_true rfl⟩ rfl rfl (ci := 8) (q0 := 29) rfl rfl rfl hl.1 (Nat.le_of_ble_eq_true rfl) dX3_isJob_181 ⟨Nat.le_of_ble_eq_true rfl, Nat.le_of_ble_eq_true rfl⟩ (fun r_5 t_4 H locs hw hP hD hS => ?_)
        have p_7 := hw
        replace p_7 : w131_3.toInt ≤ 4 → -1 ≤ r_5.toInt ∧ r_5.toInt ≤ 9999 := p_7
        obtain ⟨v_8, e_9⟩ : ∃ z, z = (r_5).toInt32 := ⟨_, rfl⟩
        refine lv_l2i (v := v_8) C.1 C.2.1 dX3_isJob_184 e_9.symm ?_
        refine k_put (ws' := (WX d) K ad (uI t1 7 2 v_8)) (v := .int v_8) C hP hD hS 7 rfl rfl inlX3 tyX3_ok nmX3 2 (by decide) m_72_0 rfl rfl rfl rfl rfl dX3_isJob_185 (fun H locs hP hD hS => ?_)
        have hok : okX (uI t1 7 2 v_8) := ⟨okI_I hok.1 7 2 v_8 (show (-2147483648 : Int) ≤ (v_8 : Int32).toInt ∧ (v_8 : Int32).toInt ≤ 2147483647 from (i_rng _)), hok.2.1, trivial⟩
        have hfr : frA [(7, 2), (7, 3)] [] [30] [] t (uI t1 7 2 v_8) := frA_I hfr 7 2 _ rfl
        refine lv_aload_n C.1 C.2.1 dX3_isJob_188 rfl (lv_at hl 0 rfl) ?_
        refine lv_iload C.1 C.2.1 dX3_isJob_189 (lv_at hl 4 rfl) ?_
        refine k_put (ws' := (WX d) K ad (uI (uI t1 7 2 v_8) 7 3 w131_4)) (v := .int w131_4) C hP hD hS 7 rfl rfl inlX3 tyX3_ok nmX3 3 (by decide) m_72_1 rfl rfl rfl rfl rfl dX3_isJob_191 (fun H locs hP hD hS => ?_)
        have hok : okX (uI (uI t1 7 2 v_8) 7 3 w131_4) := ⟨okI_I hok.1 7 3 w131_4 (show (0 : Int) ≤ (w131_4 : Int32).toInt ∧ (w131_4 : Int32).toInt ≤ 2147483647 from ⟨by omega, (i_rng _).2⟩), hok.2.1, trivial⟩
        have hfr : frA [(7, 2), (7, 3)] [] [30] [] t (uI (uI t1 7 2 v_8) 7 3 w131_4) := frA_I hfr 7 3 _ rfl
        refine lv_iconst (v := 1) C.1 C.2.1 dX3_isJob_194 (by decide) ?_
        exact g_iret C hr hlocks hP hD hS (by decide) (uI (uI t1 7 2 v_8) 7 3 w131_4) rfl ⟨hok, hfr, by decide, by decide, (show 1 = 1 ↔ jOK (gR (t.2.2.1 51)) from by constructor <;> intro hz <;> first | exact absurd hz (by decide) | exact hi131_0 | rfl | (exfalso; have hq := kyJ.mp hz; first | omega | exact absurd (kyB.mpr (isj_b (s := w78_1) hq.2.2.1 (by omega) (by omega))) (by omega)) | (exfalso; exact absurd (kyA.mpr (job_word.mpr hz.1)) (by omega)))⟩ (Nat.le_of_ble_eq_true rfl) (Nat.le_of_ble_eq_true rfl) dX3_isJob_195
      · replace c_3 : w131_5.toInt < 10 := i_nle c_3
        refine lv_aload_n C.1 C.2.1 dX3_isJob_138 rfl (lv_at hl 0 rfl) ?_
        refine k_get (v := .ref (ad 30)) C hP 7 rfl rfl inlX3 1 (by decide) m_6_21 rfl dX3_isJob_139 ?_
        refine lv_iload C.1 C.2.1 dX3_isJob_142 (lv_at hl 5 rfl) ?_
        refine lv_iload C.1 C.2.1 dX3_isJob_144 (lv_at hl 5 rfl) ?_
        refine lv_iload_n C.1 C.2.1 dX3_isJob_146 rfl (lv_at hl 1 rfl) ?_
        refine lv_icmp_ge (tgt := 165) C.1 C.2.1 dX3_isJob_147 (by decide) (fun c_10 => ?_) (fun c_10 => ?_)
        · replace c_10 : w131_1.toInt ≤ w131_5.toInt := i_le c_10
          refine lv_bipush (v := 32) C.1 C.2.1 dX3_isJob_165 (by decide) ?_
          obtain ⟨v_11, e_12⟩ : ∃ z, z = vp_nar .byte 32 := ⟨_, rfl⟩
          have h_13 : (-128 : Int) ≤ v_11.toInt ∧ v_11.toInt ≤ 127 := by rw [e_12]; exact nar_byte _
          refine k_bst (ws' := (WX d) K ad (uB t1 30 (w131_5 : Int32).toNatClampNeg v_11)) (x' := v_11) C hP hD hS 30 rfl (vp_in_iff.mpr ⟨by omega, by omega⟩) rfl e_12.symm rfl dX3_isJob_167 (fun H locs hP hD hS => ?_)
          have hok : okX (uB t1 30 (w131_5 : Int32).toNatClampNeg v_11) := ⟨hok.1, okB_B hok.2.1 30 _ v_11 (show (-128 : Int) ≤ (v_11 : Int32).toInt ∧ (v_11 : Int32).toInt ≤ 127 from ⟨by omega, by omega⟩), trivial⟩
          have hfr : frA [(7, 2), (7, 3)] [] [30] [] t (uB t1 30 (w131_5 : Int32).toNatClampNeg v_11) := frA_B hfr 30 _ _ rfl
          obtain ⟨v_14, e_15⟩ : ∃ z, z = w131_5 + 1 := ⟨_, rfl⟩
          have h_16 : v_14.toInt = w131_5.toInt + 1 := by rw [e_15]; exact ti_iadd (by show (_ : Int) ≤ w131_5.toInt + 1; omega) (by show w131_5.toInt + 1 < (_ : Int); omega)
          refine lv_iinc (v := v_14) (lv' := [(5, .int v_14), (0, .ref (ad 7)), (1, .int w131_1), (2, .int w131_2), (3, .int w131_3), (4, .int w131_4)]) C.1 C.2.1 dX3_isJob_168 hl (k := 5) rfl e_15.symm (by decide) rfl (fun ls hl => ?_)
          have hl : lv_has ls 6 [(0, .ref (ad 7)), (1, .int w131_1), (2, .int w131_2), (3, .int w131_3), (4, .int w131_4), (5, .int v_14)] := lv_sub hl [1, 2, 3, 4, 5, 0] rfl
          refine lv_goto (tgt := 131) C.1 C.2.1 dX3_isJob_171 (by decide) ?_
          exact ih_131 (uB t1 30 (w131_5 : Int32).toNatClampNeg v_11) w131_1 w131_2 w131_3 w131_4 v_14 _ _ _ hok hfr ⟨by omega, by omega⟩ ⟨by omega, by omega⟩ ⟨by omega, by omega⟩ ⟨by omega, (i_rng _).2⟩ ⟨by omega, by omega⟩ (show jOK (gR (t.2.2.1 51)) from by first | exact hi131_0 | exact kyJ.mpr ⟨by omega, by omega, isj_c (s := w78_1) (kyB.mp (by omega)) (by omega) (by omega) (by omega), by omega, by omega, by omega⟩) (show (10 : Int) - v_14.toInt < (fuel_131 : Int) from by omega) hP hD hS (lv_sub hl [0, 1, 2, 3, 4, 5] rfl)
        · replace c_10 : w131_5.toInt < w131_1.toInt := i_nle c_10
          refine lv_aload_n C.1 C.2.1 dX3_isJob_150 rfl (lv_at hl 0 rfl) ?_
          refine k_get (v := .ref (ad 29)) C hP 7 rfl rfl inlX3 0 (by decide) m_6_23 rfl dX3_isJob_151 ?_
          refine k_get (v := .ref (ad 51)) C hP 29 rfl rfl inlX9 1 (by decide) m_71_23 rfl dX3_isJob_154 ?_
          refine lv_iconst (v := 5) C.1 C.2.1 dX3_isJob_157 (by decide) ?_
          refine lv_iload C.1 C.2.1 dX3_isJob_158 (lv_at hl 5 rfl) ?_
          obtain ⟨v_17, e_18⟩ : ∃ z, z = (5 : Int32) + (w131_5 : Int32) := ⟨_, rfl⟩
          have h_19 : v_17.toInt = 5 + w131_5.toInt := by rw [e_18]; exact ti_iadd (by show (_ : Int) ≤ 5 + w131_5.toInt; omega) (by show 5 + w131_5.toInt < (_ : Int); omega)
          refine k_iadd (v := v_17) C e_18.symm dX3_isJob_160 ?_
          have h_20 : (-128 : Int) ≤ (t.2.2.1 51 (v_17 : Int32).toNatClampNeg).toInt ∧ (t.2.2.1 51 (v_17 : Int32).toNatClampNeg).toInt ≤ 127 := by rw [← e_2]; exact hok.2.1 51 _
          refine k_bld (v := (t.2.2.1 51 (v_17 : Int32).toNatClampNeg)) C hP 51 rfl (vp_in_iff.mpr ⟨by omega, by omega⟩) (congrFun e_2 _) dX3_isJob_161 ?_
          refine lv_goto (tgt := 167) C.1 C.2.1 dX3_isJob_162 (by decide) ?_
          obtain ⟨v_21, e_22⟩ : ∃ z, z = vp_nar .byte (t.2.2.1 51 (v_17 : Int32).toNatClampNeg) := ⟨_, rfl⟩
          have h_23 : (-128 : Int) ≤ v_21.toInt ∧ v_21.toInt ≤ 127 := by rw [e_22]; exact nar_byte _
          refine k_bst (ws' := (WX d) K ad (uB t1 30 (w131_5 : Int32).toNatClampNeg v_21)) (x' := v_21) C hP hD hS 30 rfl (vp_in_iff.mpr ⟨by omega, by omega⟩) rfl e_22.symm rfl dX3_isJob_167 (fun H locs hP hD hS => ?_)
          have hok : okX (uB t1 30 (w131_5 : Int32).toNatClampNeg v_21) := ⟨hok.1, okB_B hok.2.1 30 _ v_21 (show (-128 : Int) ≤ (v_21 : Int32).toInt ∧ (v_21 : Int32).toInt ≤ 127 from ⟨by omega, by omega⟩), trivial⟩
          have hfr : frA [(7, 2), (7, 3)] [] [30] [] t (uB t1 30 (w131_5 : Int32).toNatClampNeg v_21) := frA_B hfr 30 _ _ rfl
          obtain ⟨v_24, e_25⟩ : ∃ z, z = w131_5 + 1 := ⟨_, rfl⟩
          have h_26 : v_24.toInt = w131_5.toInt + 1 := by rw [e_25]; exact ti_iadd (by show (_ : Int) ≤ w131_5.toInt + 1; omega) (by show w131_5.toInt + 1 < (_ : Int); omega)
          refine lv_iinc (v := v_24) (lv' := [(5, .int v_24), (0, .ref (ad 7)), (1, .int w131_1), (2, .int w131_2), (3, .int w131_3), (4, .int w131_4)]) C.1 C.2.1 dX3_isJob_168 hl (k := 5) rfl e_25.symm (by decide) rfl (fun ls hl => ?_)
          have hl : lv_has ls 6 [(0, .ref (ad 7)), (1, .int w131_1), (2, .int w131_2), (3, .int w131_3), (4, .int w131_4), (5, .int v_24)] := lv_sub hl [1, 2, 3, 4, 5, 0] rfl
          refine lv_goto (tgt := 131) C.1 C.2.1 dX3_isJob_171 (by decide) ?_
          exact ih_131 (uB t1 30 (w131_5 : Int32).toNatClampNeg v_21) w131_1 w131_2 w131_3 w131_4 v_24 _ _ _ hok hfr ⟨by omega, by omega⟩ ⟨by omega, by omega⟩ ⟨by omega, by omega⟩ ⟨by omega, (i_rng _).2⟩ ⟨by omega, by omega⟩ (show jOK (gR (t.2.2.1 51)) from by first | exact hi131_0 | exact kyJ.mpr ⟨by omega, by omega, isj_c (s := w78_1) (kyB.mp (by omega)) (by omega) (by omega) (by omega), by omega, by omega, by omega⟩) (show (10 : Int) - v_24.toInt < (fuel_131 : Int) from by omega) hP hD hS (lv_sub hl [0, 1, 2, 3, 4, 5] rfl)
  have L_78 : ∀ (t1 : tSt) (w78_1 : Int32) (w78_2 : Int32) (w78_3 : Int32) (H : Heap) (locs : List Loc) (ls : Array Slot), okX t1 → frA [(7, 2), (7, 3)] [] [30] [] t t1 → (0 : Int) ≤ w78_1.toInt ∧ w78_1.toInt ≤ 15 → (6 : Int) ≤ w78_2.toInt ∧ w78_2.toInt ≤ 21 → (0 : Int) ≤ w78_3.toInt ∧ w78_3.toInt ≤ 6 → (∀ j : Nat, (j : Int) < w78_1.toInt → anL ((t.2.2.1 51) (5 + j))) → (aW (t.2.2.1 51) 0 7) → (w78_1.toInt = 11 ∨ ¬ anL ((t.2.2.1 51) (5 + (w78_1.toInt : Int).toNat))) → (0 ≤ w78_1.toInt) → (w78_1.toInt ≤ 11) → (w78_2.toInt = 6 + w78_1.toInt) → (∀ j : Nat, (j : Int) < w78_3.toInt → dgL ((t.2.2.1 51) (6 + (w78_1.toInt : Int).toNat + j))) → (0 ≤ w78_3.toInt) → (w78_3.toInt ≤ 6) → (w78_3.toInt = 6 ∨ ¬ dgL ((t.2.2.1 51) (6 + (w78_1.toInt : Int).toNat + (w78_3.toInt : Int).toNat))) → va_P D vwCl ((WX d) K ad t1) H → va_D A ((WX d) K ad t1) → va_S A s.heap H locs → lv_has ls 6 [(0, .ref (ad 7)), (1, .int w78_1), (2, .int w78_2), (3, .int w78_3)] → W p l e (rmD 6 0 0) s m [.ref (ad 7)].toArray below meth c H locs 0 0 (MQ below (QI D K (fun (r : Int32) (u : tSt) => okX u ∧ frA [(7, 2), (7, 3)] [] [30] [] t u ∧ (0 : Int) ≤ r.toInt ∧ r.toInt ≤ 1 ∧ (r.toInt = 1 ↔ jOK (gR (t.2.2.1 51)))) (fun (u : tSt) => (WX d) K ad u) A) [.ref (ad 7)].toArray s 0 0 A) (F0 m 78 ls []) := by
    intro t1 w78_1 w78_2 w78_3 H locs ls hok hfr hw78_1 hw78_2 hw78_3 hi78_0 hi78_1 hi78_2 hi78_3 hi78_4 hi78_5 hi78_6 hi78_7 hi78_8 hi78_9 hP hD hS hl
    have e_27 : t1.2.2.1 51 = t.2.2.1 51 := hfr.2.2.1 51 rfl
    refine lv_aload_n C.1 C.2.1 dX3_isJob_78 rfl (lv_at hl 0 rfl) ?_
    refine lv_iload_n C.1 C.2.1 dX3_isJob_79 rfl (lv_at hl 2 rfl) ?_
    refine lv_iload_n C.1 C.2.1 dX3_isJob_80 rfl (lv_at hl 3 rfl) ?_
    obtain ⟨v_28, e_29⟩ : ∃ z, z = (w78_2 : Int32) + (w78_3 : Int32) := ⟨_, rfl⟩
    have h_30 : v_28.toInt = w78_2.toInt + w78_3.toInt := by rw [e_29]; exact ti_iadd (by show (_ : Int) ≤ w78_2.toInt + w78_3.toInt; omega) (by show w78_2.toInt + w78_3.toInt < (_ : Int); omega)
    refine k_iadd (v := v_28) C e_29.symm dX3_isJob_81 ?_
    refine g_Vi (As := [.int v_28]) (rest := []) C hP hD hS hA (U_X3_optionsAt l D K Z Y ad d t1 hok (v_28) (show (6 : Int) ≤ (v_28 : Int32).toInt ∧ (v_28 : Int32).toInt ≤ 27 from ⟨by omega, by omega⟩)) hE hZ (uwV m_72_15 m_72_16 m_72_17 m_2_17 m_72_18) (hdV 1 (by decide +kernel) rfl) ⟨Nat.le_of_ble_eq_true rfl, Nat.le_of_ble_eq_true rfl⟩ rfl rfl (ci := 2) (q0 := 7) rfl rfl rfl hl.1 (Nat.le_of_ble_eq_true rfl) dX3_isJob_82 ⟨Nat.le_of_ble_eq_true rfl, Nat.le_of_ble_eq_true rfl⟩ (fun r_32 t_31 H locs hw hP hD hS => ?_)
    obtain ⟨h_34, h_35, p_36⟩ := hw
    replace p_36 : 0 ≤ r_32.toInt ↔ oOK (gR (t1.2.2.1 51)) (v_28.toInt).toNat := p_36
    have kyO := p_36
    rw [e_27] at kyO
    have kyJ := isj2 (s := w78_1) (d := w78_3) (o := r_32) kyO (by omega) hi78_1 (by omega) (by omega) hi78_0 hi78_2 hi78_6 hi78_9
    refine lv_istore (lv' := [(4, .int r_32), (0, .ref (ad 7)), (1, .int w78_1), (2, .int w78_2), (3, .int w78_3)]) C.1 C.2.1 dX3_isJob_85 hl (by decide) rfl (fun ls hl => ?_)
    have hl : lv_has ls 6 [(0, .ref (ad 7)), (1, .int w78_1), (2, .int w78_2), (3, .int w78_3), (4, .int r_32)] := lv_sub hl [1, 2, 3, 4, 0] rfl
    refine lv_iload_n C.1 C.2.1 dX3_isJob_87 rfl (lv_at hl 1 rfl) ?_
    refine lv_iconst (v := 1) C.1 C.2.1 dX3_isJob_88 (by decide) ?_
    refine lv_icmp_lt (tgt := 126) C.1 C.2.1 dX3_isJob_89 (by decide) (fun c_37 => ?_) (fun c_37 => ?_)
    · replace c_37 : w78_1.toInt < 1 := i_lt c_37
      refine lv_iconst (v := 0) C.1 C.2.1 dX3_isJob_126 (by decide) ?_
      exact g_iret C hr hlocks hP hD hS (by decide) t1 rfl ⟨hok, hfr, by decide, by decide, (show 0 = 1 ↔ jOK (gR (t.2.2.1 51)) from by constructor <;> intro hz <;> first | exact absurd hz (by decide) | exact hi131_0 | rfl | (exfalso; have hq := kyJ.mp hz; first | omega | exact absurd (kyB.mpr (isj_b (s := w78_1) hq.2.2.1 (by omega) (by omega))) (by omega)) | (exfalso; exact absurd (kyA.mpr (job_word.mpr hz.1)) (by omega)))⟩ (Nat.le_of_ble_eq_true rfl) (Nat.le_of_ble_eq_true rfl) dX3_isJob_127
    · replace c_37 : 1 ≤ w78_1.toInt := i_nlt c_37
      refine lv_iload_n C.1 C.2.1 dX3_isJob_92 rfl (lv_at hl 1 rfl) ?_
      refine lv_bipush (v := 10) C.1 C.2.1 dX3_isJob_93 (by decide) ?_
      refine lv_icmp_gt (tgt := 126) C.1 C.2.1 dX3_isJob_95 (by decide) (fun c_38 => ?_) (fun c_38 => ?_)
      · replace c_38 : 10 < w78_1.toInt := i_lt c_38
        refine lv_iconst (v := 0) C.1 C.2.1 dX3_isJob_126 (by decide) ?_
        exact g_iret C hr hlocks hP hD hS (by decide) t1 rfl ⟨hok, hfr, by decide, by decide, (show 0 = 1 ↔ jOK (gR (t.2.2.1 51)) from by constructor <;> intro hz <;> first | exact absurd hz (by decide) | exact hi131_0 | rfl | (exfalso; have hq := kyJ.mp hz; first | omega | exact absurd (kyB.mpr (isj_b (s := w78_1) hq.2.2.1 (by omega) (by omega))) (by omega)) | (exfalso; exact absurd (kyA.mpr (job_word.mpr hz.1)) (by omega)))⟩ (Nat.le_of_ble_eq_true rfl) (Nat.le_of_ble_eq_true rfl) dX3_isJob_127
      · replace c_38 : w78_1.toInt ≤ 10 := i_nlt c_38
        refine lv_aload_n C.1 C.2.1 dX3_isJob_98 rfl (lv_at hl 0 rfl) ?_
        refine k_get (v := .ref (ad 29)) C hP 7 rfl rfl inlX3 0 (by decide) m_6_23 rfl dX3_isJob_99 ?_
        refine lv_iload_n C.1 C.2.1 dX3_isJob_102 rfl (lv_at hl 2 rfl) ?_
        refine lv_iconst (v := 1) C.1 C.2.1 dX3_isJob_103 (by decide) ?_
        obtain ⟨v_39, e_40⟩ : ∃ z, z = (w78_2 : Int32) - (1 : Int32) := ⟨_, rfl⟩
        have h_41 : v_39.toInt = w78_2.toInt - 1 := by rw [e_40]; exact ti_isub (by show (_ : Int) ≤ w78_2.toInt - 1; omega) (by show w78_2.toInt - 1 < (_ : Int); omega)
        refine k_isub (v := v_39) C e_40.symm dX3_isJob_104 ?_
        refine g_Vi (As := [.int v_39]) (rest := []) C hP hD hS hA (U_X9_isBlankAt l D K Z Y ad d t1 hok (v_39)) hE hZ (uwV m_72_22 m_72_23 m_73_0 m_1_17 m_73_1) (hdV 1 (by decide +kernel) rfl) ⟨Nat.le_of_ble_eq_true rfl, Nat.le_of_ble_eq_true rfl⟩ rfl rfl (ci := 8) (q0 := 29) rfl rfl rfl hl.1 (Nat.le_of_ble_eq_true rfl) dX3_isJob_105 ⟨Nat.le_of_ble_eq_true rfl, Nat.le_of_ble_eq_true rfl⟩ (fun r_43 t_42 H locs hw hP hD hS => ?_)
        obtain ⟨h_45, h_46, p_47⟩ := hw
        replace p_47 : r_43.toInt = 1 ↔ (80 ≤ v_39.toInt ∨ 0 ≤ v_39.toInt ∧ (t1.2.2.1 51 (v_39 : Int32).toNatClampNeg).toInt = 32) := p_47
        have h_48 : (t1.2.2.1 51 (v_39 : Int32).toNatClampNeg).toInt = (t.2.2.1 51 (v_39 : Int32).toNatClampNeg).toInt := tb_eq e_27 _
        have kyB := p_47
        rw [e_27] at kyB
        refine lv_if_eq (tgt := 126) C.1 C.2.1 dX3_isJob_108 (by decide) (fun c_49 => ?_) (fun c_49 => ?_)
        · replace c_49 : r_43.toInt = 0 := i_eq c_49
          refine lv_iconst (v := 0) C.1 C.2.1 dX3_isJob_126 (by decide) ?_
          exact g_iret C hr hlocks hP hD hS (by decide) t1 rfl ⟨hok, hfr, by decide, by decide, (show 0 = 1 ↔ jOK (gR (t.2.2.1 51)) from by constructor <;> intro hz <;> first | exact absurd hz (by decide) | exact hi131_0 | rfl | (exfalso; have hq := kyJ.mp hz; first | omega | exact absurd (kyB.mpr (isj_b (s := w78_1) hq.2.2.1 (by omega) (by omega))) (by omega)) | (exfalso; exact absurd (kyA.mpr (job_word.mpr hz.1)) (by omega)))⟩ (Nat.le_of_ble_eq_true rfl) (Nat.le_of_ble_eq_true rfl) dX3_isJob_127
        · replace c_49 : ¬ r_43.toInt = 0 := i_ne c_49
          refine lv_iload_n C.1 C.2.1 dX3_isJob_111 rfl (lv_at hl 3 rfl) ?_
          refine lv_iconst (v := 1) C.1 C.2.1 dX3_isJob_112 (by decide) ?_
          refine lv_icmp_lt (tgt := 126) C.1 C.2.1 dX3_isJob_113 (by decide) (fun c_50 => ?_) (fun c_50 => ?_)
          · replace c_50 : w78_3.toInt < 1 := i_lt c_50
            refine lv_iconst (v := 0) C.1 C.2.1 dX3_isJob_126 (by decide) ?_
            exact g_iret C hr hlocks hP hD hS (by decide) t1 rfl ⟨hok, hfr, by decide, by decide, (show 0 = 1 ↔ jOK (gR (t.2.2.1 51)) from by constructor <;> intro hz <;> first | exact absurd hz (by decide) | exact hi131_0 | rfl | (exfalso; have hq := kyJ.mp hz; first | omega | exact absurd (kyB.mpr (isj_b (s := w78_1) hq.2.2.1 (by omega) (by omega))) (by omega)) | (exfalso; exact absurd (kyA.mpr (job_word.mpr hz.1)) (by omega)))⟩ (Nat.le_of_ble_eq_true rfl) (Nat.le_of_ble_eq_true rfl) dX3_isJob_127
          · replace c_50 : 1 ≤ w78_3.toInt := i_nlt c_50
            refine lv_iload_n C.1 C.2.1 dX3_isJob_116 rfl (lv_at hl 3 rfl) ?_
            refine lv_iconst (v := 5) C.1 C.2.1 dX3_isJob_117 (by decide) ?_
            refine lv_icmp_gt (tgt := 126) C.1 C.2.1 dX3_isJob_118 (by decide) (fun c_51 => ?_) (fun c_51 => ?_)
            · replace c_51 : 5 < w78_3.toInt := i_lt c_51
              refine lv_iconst (v := 0) C.1 C.2.1 dX3_isJob_126 (by decide) ?_
              exact g_iret C hr hlocks hP hD hS (by decide) t1 rfl ⟨hok, hfr, by decide, by decide, (show 0 = 1 ↔ jOK (gR (t.2.2.1 51)) from by constructor <;> intro hz <;> first | exact absurd hz (by decide) | exact hi131_0 | rfl | (exfalso; have hq := kyJ.mp hz; first | omega | exact absurd (kyB.mpr (isj_b (s := w78_1) hq.2.2.1 (by omega) (by omega))) (by omega)) | (exfalso; exact absurd (kyA.mpr (job_word.mpr hz.1)) (by omega)))⟩ (Nat.le_of_ble_eq_true rfl) (Nat.le_of_ble_eq_true rfl) dX3_isJob_127
            · replace c_51 : w78_3.toInt ≤ 5 := i_nlt c_51
              refine lv_iload C.1 C.2.1 dX3_isJob_121 (lv_at hl 4 rfl) ?_
              refine lv_if_ge (tgt := 128) C.1 C.2.1 dX3_isJob_123 (by decide) (fun c_52 => ?_) (fun c_52 => ?_)
              · replace c_52 : 0 ≤ r_32.toInt := i_le c_52
                refine lv_iconst (v := 0) C.1 C.2.1 dX3_isJob_128 (by decide) ?_
                refine lv_istore (lv' := [(5, .int 0), (0, .ref (ad 7)), (1, .int w78_1), (2, .int w78_2), (3, .int w78_3), (4, .int r_32)]) C.1 C.2.1 dX3_isJob_129 hl (by decide) rfl (fun ls hl => ?_)
                have hl : lv_has ls 6 [(0, .ref (ad 7)), (1, .int w78_1), (2, .int w78_2), (3, .int w78_3), (4, .int r_32), (5, .int 0)] := lv_sub hl [1, 2, 3, 4, 5, 0] rfl
                exact L_131 11 t1 w78_1 w78_2 w78_3 r_32 0 _ _ _ hok hfr ⟨by omega, by omega⟩ ⟨by omega, by omega⟩ ⟨by omega, by omega⟩ ⟨by omega, (i_rng _).2⟩ ⟨by decide, by decide⟩ (show jOK (gR (t.2.2.1 51)) from by first | exact hi131_0 | exact kyJ.mpr ⟨by omega, by omega, isj_c (s := w78_1) (kyB.mp (by omega)) (by omega) (by omega) (by omega), by omega, by omega, by omega⟩) (show (10 : Int) - 0 < ((11 : Nat) : Int) from by omega) hP hD hS (lv_sub hl [0, 1, 2, 3, 4, 5] rfl)
              · replace c_52 : r_32.toInt < 0 := i_nle c_52
                refine lv_iconst (v := 0) C.1 C.2.1 dX3_isJob_126 (by decide) ?_
                exact g_iret C hr hlocks hP hD hS (by decide) t1 rfl ⟨hok, hfr, by decide, by decide, (show 0 = 1 ↔ jOK (gR (t.2.2.1 51)) from by constructor <;> intro hz <;> first | exact absurd hz (by decide) | exact hi131_0 | rfl | (exfalso; have hq := kyJ.mp hz; first | omega | exact absurd (kyB.mpr (isj_b (s := w78_1) hq.2.2.1 (by omega) (by omega))) (by omega)) | (exfalso; exact absurd (kyA.mpr (job_word.mpr hz.1)) (by omega)))⟩ (Nat.le_of_ble_eq_true rfl) (Nat.le_of_ble_eq_true rfl) dX3_isJob_127
  have L_53 : ∀ (fuel_53 : Nat) (t1 : tSt) (w53_1 : Int32) (w53_2 : Int32) (w53_3 : Int32) (H : Heap) (locs : List Loc) (ls : Array Slot), okX t1 → frA [(7, 2), (7, 3)] [] [30] [] t t1 → (0 : Int) ≤ w53_1.toInt ∧ w53_1.toInt ≤ 15 → (6 : Int) ≤ w53_2.toInt ∧ w53_2.toInt ≤ 21 → (0 : Int) ≤ w53_3.toInt ∧ w53_3.toInt ≤ 6 → (∀ j : Nat, (j : Int) < w53_1.toInt → anL ((t.2.2.1 51) (5 + j))) → (aW (t.2.2.1 51) 0 7) → (w53_1.toInt = 11 ∨ ¬ anL ((t.2.2.1 51) (5 + (w53_1.toInt : Int).toNat))) → (0 ≤ w53_1.toInt) → (w53_1.toInt ≤ 11) → (w53_2.toInt = 6 + w53_1.toInt) → (∀ j : Nat, (j : Int) < w53_3.toInt → dgL ((t.2.2.1 51) (6 + (w53_1.toInt : Int).toNat + j))) → (0 ≤ w53_3.toInt) → (6 : Int) - w53_3.toInt < (fuel_53 : Int) → va_P D vwCl ((WX d) K ad t1) H → va_D A ((WX d) K ad t1) → va_S A s.heap H locs → lv_has ls 6 [(0, .ref (ad 7)), (1, .int w53_1), (2, .int w53_2), (3, .int w53_3)] → W p l e (rmD 6 0 0) s m [.ref (ad 7)].toArray below meth c H locs 0 0 (MQ below (QI D K (fun (r : Int32) (u : tSt) => okX u ∧ frA [(7, 2), (7, 3)] [] [30] [] t u ∧ (0 : Int) ≤ r.toInt ∧ r.toInt ≤ 1 ∧ (r.toInt = 1 ↔ jOK (gR (t.2.2.1 51)))) (fun (u : tSt) => (WX d) K ad u) A) [.ref (ad 7)].toArray s 0 0 A) (F0 m 53 ls []) := by
    intro fuel_53
    induction fuel_53 with
    | zero =>
      intro t1 w53_1 w53_2 w53_3 H locs ls hok hfr hw53_1 hw53_2 hw53_3 hi53_0 hi53_1 hi53_2 hi53_3 hi53_4 hi53_5 hi53_6 hi53_7 hm53_53 hP hD hS hl
      have e_53 : t1.2.2.1 51 = t.2.2.1 51 := hfr.2.2.1 51 rfl
      exact absurd hm53_53 (by omega)
    | succ fuel_53 ih_53 =>
      intro t1 w53_1 w53_2 w53_3 H locs ls hok hfr hw53_1 hw53_2 hw53_3 hi53_0 hi53_1 hi53_2 hi53_3 hi53_4 hi53_5 hi53_6 hi53_7 hm53_53 hP hD hS hl
      have hm53_53 : (6 : Int) - w53_3.toInt < (fuel_53 : Int) + 1 := by omega
      have e_54 : t1.2.2.1 51 = t.2.2.1 51 := hfr.2.2.1 51 rfl
      refine lv_iload_n C.1 C.2.1 dX3_isJob_53 rfl (lv_at hl 3 rfl) ?_
      refine lv_bipush (v := 6) C.1 C.2.1 dX3_isJob_54 (by decide) ?_
      refine lv_icmp_ge (tgt := 78) C.1 C.2.1 dX3_isJob_56 (by decide) (fun c_55 => ?_) (fun c_55 => ?_)
      · replace c_55 : 6 ≤ w53_3.toInt := i_le c_55
        exact L_78 t1 w53_1 w53_2 w53_3 _ _ _ hok hfr ⟨by omega, by omega⟩ ⟨by omega, by omega⟩ ⟨by omega, by omega⟩ (show ∀ j : Nat, (j : Int) < w53_1.toInt → anL ((t.2.2.1 51) (5 + j)) from by exact hi53_0) (show aW (t.2.2.1 51) 0 7 from by exact hi53_1) (show w53_1.toInt = 11 ∨ ¬ anL ((t.2.2.1 51) (5 + (w53_1.toInt : Int).toNat)) from by exact hi53_2) (show 0 ≤ w53_1.toInt from by omega) (show w53_1.toInt ≤ 11 from by omega) (show w53_2.toInt = 6 + w53_1.toInt from by omega) (show ∀ j : Nat, (j : Int) < w53_3.toInt → dgL ((t.2.2.1 51) (6 + (w53_1.toInt : Int).toNat + j)) from by exact hi53_6) (show 0 ≤ w53_3.toInt from by omega) (show w53_3.toInt ≤ 6 from by omega) (show w53_3.toInt = 6 ∨ ¬ dgL ((t.2.2.1 51) (6 + (w53_1.toInt : Int).toNat + (w53_3.toInt : Int).toNat)) from by first | exact Or.inl (by omega) | exact Or.inr (dg_no (s := w53_1) (w := w53_3) (by omega) (by omega) (fun hq => absurd (kyD.mpr hq) (by omega)) (by omega) (by omega))) hP hD hS (lv_sub hl [0, 1, 2, 3] rfl)
      · replace c_55 : w53_3.toInt < 6 := i_nle c_55
        refine lv_aload_n C.1 C.2.1 dX3_isJob_59 rfl (lv_at hl 0 rfl) ?_
        refine k_get (v := .ref (ad 29)) C hP 7 rfl rfl inlX3 0 (by decide) m_6_23 rfl dX3_isJob_60 ?_
        refine lv_iload_n C.1 C.2.1 dX3_isJob_63 rfl (lv_at hl 2 rfl) ?_
        refine lv_iload_n C.1 C.2.1 dX3_isJob_64 rfl (lv_at hl 3 rfl) ?_
        obtain ⟨v_56, e_57⟩ : ∃ z, z = (w53_2 : Int32) + (w53_3 : Int32) := ⟨_, rfl⟩
        have h_58 : v_56.toInt = w53_2.toInt + w53_3.toInt := by rw [e_57]; exact ti_iadd (by show (_ : Int) ≤ w53_2.toInt + w53_3.toInt; omega) (by show w53_2.toInt + w53_3.toInt < (_ : Int); omega)
        refine k_iadd (v := v_56) C e_57.symm dX3_isJob_65 ?_
        refine g_Vi (As := [.int v_56]) (rest := []) C hP hD hS hA (U_X9_isDigitAt l D K Z Y ad d t1 hok (v_56) (show (6 : Int) ≤ (v_56 : Int32).toInt ∧ (v_56 : Int32).toInt ≤ 31 from ⟨by omega, by omega⟩)) hE hZ (uwV m_72_11 m_72_12 m_72_13 m_1_17 m_72_14) (hdV 1 (by decide +kernel) rfl) ⟨Nat.le_of_ble_eq_true rfl, Nat.le_of_ble_eq_true rfl⟩ rfl rfl (ci := 8) (q0 := 29) rfl rfl rfl hl.1 (Nat.le_of_ble_eq_true rfl) dX3_isJob_66 ⟨Nat.le_of_ble_eq_true rfl, Nat.le_of_ble_eq_true rfl⟩ (fun r_60 t_59 H locs hw hP hD hS => ?_)
        obtain ⟨h_62, h_63, p_64⟩ := hw
        replace p_64 : r_60.toInt = 1 ↔ (0 ≤ v_56.toInt ∧ v_56.toInt < 80 ∧ 48 ≤ (t1.2.2.1 51 (v_56 : Int32).toNatClampNeg).toInt ∧ (t1.2.2.1 51 (v_56 : Int32).toNatClampNeg).toInt ≤ 57) := p_64
        have h_65 : (t1.2.2.1 51 (v_56 : Int32).toNatClampNeg).toInt = (t.2.2.1 51 (v_56 : Int32).toNatClampNeg).toInt := tb_eq e_54 _
        have kyD := p_64
        rw [e_54] at kyD
        refine lv_if_eq (tgt := 78) C.1 C.2.1 dX3_isJob_69 (by decide) (fun c_66 => ?_) (fun c_66 => ?_)
        · replace c_66 : r_60.toInt = 0 := i_eq c_66
          exact L_78 t1 w53_1 w53_2 w53_3 _ _ _ hok hfr ⟨by omega, by omega⟩ ⟨by omega, by omega⟩ ⟨by omega, by omega⟩ (show ∀ j : Nat, (j : Int) < w53_1.toInt → anL ((t.2.2.1 51) (5 + j)) from by exact hi53_0) (show aW (t.2.2.1 51) 0 7 from by exact hi53_1) (show w53_1.toInt = 11 ∨ ¬ anL ((t.2.2.1 51) (5 + (w53_1.toInt : Int).toNat)) from by exact hi53_2) (show 0 ≤ w53_1.toInt from by omega) (show w53_1.toInt ≤ 11 from by omega) (show w53_2.toInt = 6 + w53_1.toInt from by omega) (show ∀ j : Nat, (j : Int) < w53_3.toInt → dgL ((t.2.2.1 51) (6 + (w53_1.toInt : Int).toNat + j)) from by exact hi53_6) (show 0 ≤ w53_3.toInt from by omega) (show w53_3.toInt ≤ 6 from by omega) (show w53_3.toInt = 6 ∨ ¬ dgL ((t.2.2.1 51) (6 + (w53_1.toInt : Int).toNat + (w53_3.toInt : Int).toNat)) from by first | exact Or.inl (by omega) | exact Or.inr (dg_no (s := w53_1) (w := w53_3) (by omega) (by omega) (fun hq => absurd (kyD.mpr hq) (by omega)) (by omega) (by omega))) hP hD hS (lv_sub hl [0, 1, 2, 3] rfl)
        · replace c_66 : ¬ r_60.toInt = 0 := i_ne c_66
          obtain ⟨v_67, e_68⟩ : ∃ z, z = w53_3 + 1 := ⟨_, rfl⟩
          have h_69 : v_67.toInt = w53_3.toInt + 1 := by rw [e_68]; exact ti_iadd (by show (_ : Int) ≤ w53_3.toInt + 1; omega) (by show w53_3.toInt + 1 < (_ : Int); omega)
          refine lv_iinc (v := v_67) (lv' := [(3, .int v_67), (0, .ref (ad 7)), (1, .int w53_1), (2, .int w53_2)]) C.1 C.2.1 dX3_isJob_72 hl (k := 3) rfl e_68.symm (by decide) rfl (fun ls hl => ?_)
          have hl : lv_has ls 6 [(0, .ref (ad 7)), (1, .int w53_1), (2, .int w53_2), (3, .int v_67)] := lv_sub hl [1, 2, 3, 0] rfl
          refine lv_goto (tgt := 53) C.1 C.2.1 dX3_isJob_75 (by decide) ?_
          exact ih_53 t1 w53_1 w53_2 v_67 _ _ _ hok hfr ⟨by omega, by omega⟩ ⟨by omega, by omega⟩ ⟨by omega, by omega⟩ (show ∀ j : Nat, (j : Int) < w53_1.toInt → anL ((t.2.2.1 51) (5 + j)) from by first | exact hi46_0 | exact hi53_0) (show aW (t.2.2.1 51) 0 7 from by first | exact hi46_1 | exact hi53_1) (show w53_1.toInt = 11 ∨ ¬ anL ((t.2.2.1 51) (5 + (w53_1.toInt : Int).toNat)) from by first | exact hi46_2 | exact hi53_2) (show 0 ≤ w53_1.toInt from by omega) (show w53_1.toInt ≤ 11 from by omega) (show w53_2.toInt = 6 + w53_1.toInt from by omega) (show ∀ j : Nat, (j : Int) < v_67.toInt → dgL ((t.2.2.1 51) (6 + (w53_1.toInt : Int).toNat + j)) from by intro j hj; first | (exfalso; omega) | (rcases Int.lt_or_eq_of_le (show (j : Int) ≤ w53_3.toInt from by omega) with h9 | h9 <;> first | exact hi53_6 j h9 | exact dg_new (s := w53_1) h9 (by omega) (kyD.mp (by omega)) (by omega))) (show 0 ≤ v_67.toInt from by omega) (show (6 : Int) - v_67.toInt < (fuel_53 : Int) from by omega) hP hD hS (lv_sub hl [0, 1, 2, 3] rfl)
  have L_46 : ∀ (t1 : tSt) (w46_1 : Int32) (H : Heap) (locs : List Loc) (ls : Array Slot), okX t1 → frA [(7, 2), (7, 3)] [] [30] [] t t1 → (0 : Int) ≤ w46_1.toInt ∧ w46_1.toInt ≤ 15 → (∀ j : Nat, (j : Int) < w46_1.toInt → anL ((t.2.2.1 51) (5 + j))) → (aW (t.2.2.1 51) 0 7) → (w46_1.toInt = 11 ∨ ¬ anL ((t.2.2.1 51) (5 + (w46_1.toInt : Int).toNat))) → (0 ≤ w46_1.toInt) → (w46_1.toInt ≤ 11) → va_P D vwCl ((WX d) K ad t1) H → va_D A ((WX d) K ad t1) → va_S A s.heap H locs → lv_has ls 6 [(0, .ref (ad 7)), (1, .int w46_1)] → W p l e (rmD 6 0 0) s m [.ref (ad 7)].toArray below meth c H locs 0 0 (MQ below (QI D K (fun (r : Int32) (u : tSt) => okX u ∧ frA [(7, 2), (7, 3)] [] [30] [] t u ∧ (0 : Int) ≤ r.toInt ∧ r.toInt ≤ 1 ∧ (r.toInt = 1 ↔ jOK (gR (t.2.2.1 51)))) (fun (u : tSt) => (WX d) K ad u) A) [.ref (ad 7)].toArray s 0 0 A) (F0 m 46 ls []) := by
    intro t1 w46_1 H locs ls hok hfr hw46_1 hi46_0 hi46_1 hi46_2 hi46_3 hi46_4 hP hD hS hl
    have e_70 : t1.2.2.1 51 = t.2.2.1 51 := hfr.2.2.1 51 rfl
    refine lv_bipush (v := 6) C.1 C.2.1 dX3_isJob_46 (by decide) ?_
    refine lv_iload_n C.1 C.2.1 dX3_isJob_48 rfl (lv_at hl 1 rfl) ?_
    obtain ⟨v_71, e_72⟩ : ∃ z, z = (6 : Int32) + (w46_1 : Int32) := ⟨_, rfl⟩
    have h_73 : v_71.toInt = 6 + w46_1.toInt := by rw [e_72]; exact ti_iadd (by show (_ : Int) ≤ 6 + w46_1.toInt; omega) (by show 6 + w46_1.toInt < (_ : Int); omega)
    refine k_iadd (v := v_71) C e_72.symm dX3_isJob_49 ?_
    refine lv_istore_n (lv' := [(2, .int v_71), (0, .ref (ad 7)), (1, .int w46_1)]) C.1 C.2.1 dX3_isJob_50 rfl hl (by decide) rfl (fun ls hl => ?_)
    have hl : lv_has ls 6 [(0, .ref (ad 7)), (1, .int w46_1), (2, .int v_71)] := lv_sub hl [1, 2, 0] rfl
    refine lv_iconst (v := 0) C.1 C.2.1 dX3_isJob_51 (by decide) ?_
    refine lv_istore_n (lv' := [(3, .int 0), (0, .ref (ad 7)), (1, .int w46_1), (2, .int v_71)]) C.1 C.2.1 dX3_isJob_52 rfl hl (by decide) rfl (fun ls hl => ?_)
    have hl : lv_has ls 6 [(0, .ref (ad 7)), (1, .int w46_1), (2, .int v_71), (3, .int 0)] := lv_sub hl [1, 2, 3, 0] rfl
    exact L_53 7 t1 w46_1 v_71 0 _ _ _ hok hfr ⟨by omega, by omega⟩ ⟨by omega, by omega⟩ ⟨by decide, by decide⟩ (show ∀ j : Nat, (j : Int) < w46_1.toInt → anL ((t.2.2.1 51) (5 + j)) from by first | exact hi46_0 | exact hi53_0) (show aW (t.2.2.1 51) 0 7 from by first | exact hi46_1 | exact hi53_1) (show w46_1.toInt = 11 ∨ ¬ anL ((t.2.2.1 51) (5 + (w46_1.toInt : Int).toNat)) from by first | exact hi46_2 | exact hi53_2) (show 0 ≤ w46_1.toInt from by omega) (show w46_1.toInt ≤ 11 from by omega) (show v_71.toInt = 6 + w46_1.toInt from by omega) (show ∀ j : Nat, (j : Int) < 0 → dgL ((t.2.2.1 51) (6 + (w46_1.toInt : Int).toNat + j)) from by intro j hj; first | (exfalso; omega) | (rcases Int.lt_or_eq_of_le (show (j : Int) ≤ w53_3.toInt from by omega) with h9 | h9 <;> first | exact hi53_6 j h9 | exact dg_new (s := w53_1) h9 (by omega) (kyD.mp (by omega)) (by omega))) (show 0 ≤ 0 from by omega) (show (6 : Int) - 0 < ((7 : Nat) : Int) from by omega) hP hD hS (lv_sub hl [0, 1, 2, 3] rfl)
  have L_17 : ∀ (fuel_17 : Nat) (t1 : tSt) (w17_1 : Int32) (H : Heap) (locs : List Loc) (ls : Array Slot), okX t1 → frA [(7, 2), (7, 3)] [] [30] [] t t1 → (0 : Int) ≤ w17_1.toInt ∧ w17_1.toInt ≤ 15 → (∀ j : Nat, (j : Int) < w17_1.toInt → anL ((t.2.2.1 51) (5 + j))) → (aW (t.2.2.1 51) 0 7) → (0 ≤ w17_1.toInt) → (w17_1.toInt ≤ 11) → (15 : Int) - w17_1.toInt < (fuel_17 : Int) → va_P D vwCl ((WX d) K ad t1) H → va_D A ((WX d) K ad t1) → va_S A s.heap H locs → lv_has ls 6 [(0, .ref (ad 7)), (1, .int w17_1)] → W p l e (rmD 6 0 0) s m [.ref (ad 7)].toArray below meth c H locs 0 0 (MQ below (QI D K (fun (r : Int32) (u : tSt) => okX u ∧ frA [(7, 2), (7, 3)] [] [30] [] t u ∧ (0 : Int) ≤ r.toInt ∧ r.toInt ≤ 1 ∧ (r.toInt = 1 ↔ jOK (gR (t.2.2.1 51)))) (fun (u : tSt) => (WX d) K ad u) A) [.ref (ad 7)].toArray s 0 0 A) (F0 m 17 ls []) := by
    intro fuel_17
    induction fuel_17 with
    | zero =>
      intro t1 w17_1 H locs ls hok hfr hw17_1 hi17_0 hi17_1 hi17_2 hi17_3 hm17_17 hP hD hS hl
      have e_74 : t1.2.2.1 51 = t.2.2.1 51 := hfr.2.2.1 51 rfl
      exact absurd hm17_17 (by omega)
    | succ fuel_17 ih_17 =>
      intro t1 w17_1 H locs ls hok hfr hw17_1 hi17_0 hi17_1 hi17_2 hi17_3 hm17_17 hP hD hS hl
      have hm17_17 : (15 : Int) - w17_1.toInt < (fuel_17 : Int) + 1 := by omega
      have e_75 : t1.2.2.1 51 = t.2.2.1 51 := hfr.2.2.1 51 rfl
      refine lv_iload_n C.1 C.2.1 dX3_isJob_17 rfl (lv_at hl 1 rfl) ?_
      refine lv_bipush (v := 11) C.1 C.2.1 dX3_isJob_18 (by decide) ?_
      refine lv_icmp_ge (tgt := 46) C.1 C.2.1 dX3_isJob_20 (by decide) (fun c_76 => ?_) (fun c_76 => ?_)
      · replace c_76 : 11 ≤ w17_1.toInt := i_le c_76
        exact L_46 t1 w17_1 _ _ _ hok hfr ⟨by omega, by omega⟩ (show ∀ j : Nat, (j : Int) < w17_1.toInt → anL ((t.2.2.1 51) (5 + j)) from by exact hi17_0) (show aW (t.2.2.1 51) 0 7 from by exact hi17_1) (show w17_1.toInt = 11 ∨ ¬ anL ((t.2.2.1 51) (5 + (w17_1.toInt : Int).toNat)) from by first | exact Or.inl (by omega) | exact Or.inr (rk_no (by omega) (fun hq => absurd (kyR.mpr hq) (by omega)) (by assumption) rfl)) (show 0 ≤ w17_1.toInt from by omega) (show w17_1.toInt ≤ 11 from by omega) hP hD hS (lv_sub hl [0, 1] rfl)
      · replace c_76 : w17_1.toInt < 11 := i_nle c_76
        refine lv_aload_n C.1 C.2.1 dX3_isJob_23 rfl (lv_at hl 0 rfl) ?_
        refine k_get (v := .ref (ad 29)) C hP 7 rfl rfl inlX3 0 (by decide) m_6_23 rfl dX3_isJob_24 ?_
        refine k_get (v := .ref (ad 51)) C hP 29 rfl rfl inlX9 1 (by decide) m_71_23 rfl dX3_isJob_27 ?_
        refine lv_iconst (v := 5) C.1 C.2.1 dX3_isJob_30 (by decide) ?_
        refine lv_iload_n C.1 C.2.1 dX3_isJob_31 rfl (lv_at hl 1 rfl) ?_
        obtain ⟨v_77, e_78⟩ : ∃ z, z = (5 : Int32) + (w17_1 : Int32) := ⟨_, rfl⟩
        have h_79 : v_77.toInt = 5 + w17_1.toInt := by rw [e_78]; exact ti_iadd (by show (_ : Int) ≤ 5 + w17_1.toInt; omega) (by show 5 + w17_1.toInt < (_ : Int); omega)
        refine k_iadd (v := v_77) C e_78.symm dX3_isJob_32 ?_
        have h_80 : (-128 : Int) ≤ (t.2.2.1 51 (v_77 : Int32).toNatClampNeg).toInt ∧ (t.2.2.1 51 (v_77 : Int32).toNatClampNeg).toInt ≤ 127 := by rw [← e_75]; exact hok.2.1 51 _
        refine k_bld (v := (t.2.2.1 51 (v_77 : Int32).toNatClampNeg)) C hP 51 rfl (vp_in_iff.mpr ⟨by omega, by omega⟩) (congrFun e_75 _) dX3_isJob_33 ?_
        refine g_Si (As := [.int (t.2.2.1 51 (v_77 : Int32).toNatClampNeg)]) (rest := []) C hP hD hS hA (U_X1_rank l D K Z Y ad d t1 hok ((t.2.2.1 51 (v_77 : Int32).toNatClampNeg)) (show (-128 : Int) ≤ ((t.2.2.1 51 (v_77 : Int32).toNatClampNeg) : Int32).toInt ∧ ((t.2.2.1 51 (v_77 : Int32).toNatClampNeg) : Int32).toInt ≤ 127 from ⟨by omega, by omega⟩)) hE hZ (uwS m_72_8 m_72_9 m_14_2 m_72_10) (hdS 1 (by decide +kernel) rfl) ⟨Nat.le_of_ble_eq_true rfl, Nat.le_of_ble_eq_true rfl⟩ rfl rfl rfl hl.1 (Nat.le_of_ble_eq_true rfl) dX3_isJob_34 ⟨Nat.le_of_ble_eq_true rfl, Nat.le_of_ble_eq_true rfl⟩ (fun r_82 t_81 H locs hw hP hD hS => ?_)
        obtain ⟨h_84, h_85, p_86⟩ := hw
        replace p_86 : 0 < r_82.toInt ↔ anL (t.2.2.1 51 (v_77 : Int32).toNatClampNeg) := p_86
        have kyR := p_86
        refine lv_if_le (tgt := 46) C.1 C.2.1 dX3_isJob_37 (by decide) (fun c_87 => ?_) (fun c_87 => ?_)
        · replace c_87 : r_82.toInt ≤ 0 := i_le c_87
          exact L_46 t1 w17_1 _ _ _ hok hfr ⟨by omega, by omega⟩ (show ∀ j : Nat, (j : Int) < w17_1.toInt → anL ((t.2.2.1 51) (5 + j)) from by exact hi17_0) (show aW (t.2.2.1 51) 0 7 from by exact hi17_1) (show w17_1.toInt = 11 ∨ ¬ anL ((t.2.2.1 51) (5 + (w17_1.toInt : Int).toNat)) from by first | exact Or.inl (by omega) | exact Or.inr (rk_no (by omega) (fun hq => absurd (kyR.mpr hq) (by omega)) (by assumption) rfl)) (show 0 ≤ w17_1.toInt from by omega) (show w17_1.toInt ≤ 11 from by omega) hP hD hS (lv_sub hl [0, 1] rfl)
        · replace c_87 : 0 < r_82.toInt := i_nle c_87
          obtain ⟨v_88, e_89⟩ : ∃ z, z = w17_1 + 1 := ⟨_, rfl⟩
          have h_90 : v_88.toInt = w17_1.toInt + 1 := by rw [e_89]; exact ti_iadd (by show (_ : Int) ≤ w17_1.toInt + 1; omega) (by show w17_1.toInt + 1 < (_ : Int); omega)
          refine lv_iinc (v := v_88) (lv' := [(1, .int v_88), (0, .ref (ad 7))]) C.1 C.2.1 dX3_isJob_40 hl (k := 1) rfl e_89.symm (by decide) rfl (fun ls hl => ?_)
          have hl : lv_has ls 6 [(0, .ref (ad 7)), (1, .int v_88)] := lv_sub hl [1, 0] rfl
          refine lv_goto (tgt := 17) C.1 C.2.1 dX3_isJob_43 (by decide) ?_
          exact ih_17 t1 v_88 _ _ _ hok hfr ⟨by omega, by omega⟩ (show ∀ j : Nat, (j : Int) < v_88.toInt → anL ((t.2.2.1 51) (5 + j)) from by intro j hj; first | (exfalso; omega) | (rcases Int.lt_or_eq_of_le (show (j : Int) ≤ w17_1.toInt from by omega) with h9 | h9 <;> first | exact hi17_0 j h9 | exact rk_new h9 (kyR.mp (by omega)) (by assumption) rfl)) (show aW (t.2.2.1 51) 0 7 from by first | exact kyA.mp (by omega) | exact hi17_1) (show 0 ≤ v_88.toInt from by omega) (show v_88.toInt ≤ 11 from by omega) (show (15 : Int) - v_88.toInt < (fuel_17 : Int) from by omega) hP hD hS (lv_sub hl [0, 1] rfl)
  refine lv_aload_n C.1 C.2.1 dX3_isJob_0 rfl (lv_at hl 0 rfl) ?_
  refine k_get (v := .ref (ad 29)) C hP 7 rfl rfl inlX3 0 (by decide) m_6_23 rfl dX3_isJob_1 ?_
  refine lv_iconst (v := 0) C.1 C.2.1 dX3_isJob_4 (by decide) ?_
  refine va_ldcS C.1 C.2.1 C.2.2.2.1 (hE.2 7 (by decide)) dX3_isJob_5 ?_
  have h_91 : (0 : Int32).toInt = 0 := rfl
  refine g_Vi (As := [.int 0, .ref (Z 7)]) (rest := []) C hP hD hS hA (U_X9_isAt l D K Z Y ad d t hok 0 (show (0 : Int) ≤ (0 : Int32).toInt ∧ (0 : Int32).toInt ≤ 100 from ⟨by decide, by decide⟩) (7) (show sS 7 from ⟨by decide, by decide, by decide⟩)) hE hZ (uwV m_72_2 m_72_3 m_72_4 m_1_17 m_72_5) (hdV 2 (by decide +kernel) rfl) ⟨Nat.le_of_ble_eq_true rfl, Nat.le_of_ble_eq_true rfl⟩ rfl rfl (ci := 8) (q0 := 29) rfl rfl rfl hl.1 (Nat.le_of_ble_eq_true rfl) dX3_isJob_7 ⟨Nat.le_of_ble_eq_true rfl, Nat.le_of_ble_eq_true rfl⟩ (fun r_93 t_92 H locs hw hP hD hS => ?_)
  obtain ⟨h_95, h_96, p_97⟩ := hw
  replace p_97 : r_93.toInt = 1 ↔ aW (t.2.2.1 51) (0 : Int32).toInt 7 := p_97
  have kyA := p_97
  refine lv_if_ne (tgt := 15) C.1 C.2.1 dX3_isJob_10 (by decide) (fun c_98 => ?_) (fun c_98 => ?_)
  · replace c_98 : ¬ r_93.toInt = 0 := i_ne c_98
    refine lv_iconst (v := 0) C.1 C.2.1 dX3_isJob_15 (by decide) ?_
    refine lv_istore_n (lv' := [(1, .int 0), (0, .ref (ad 7))]) C.1 C.2.1 dX3_isJob_16 rfl hl (by decide) rfl (fun ls hl => ?_)
    have hl : lv_has ls 6 [(0, .ref (ad 7)), (1, .int 0)] := lv_sub hl [1, 0] rfl
    exact L_17 16 t 0 _ _ _ hok hfr ⟨by decide, by decide⟩ (show ∀ j : Nat, (j : Int) < 0 → anL ((t.2.2.1 51) (5 + j)) from by intro j hj; first | (exfalso; omega) | (rcases Int.lt_or_eq_of_le (show (j : Int) ≤ w17_1.toInt from by omega) with h9 | h9 <;> first | exact hi17_0 j h9 | exact rk_new h9 (kyR.mp (by omega)) (by assumption) rfl)) (show aW (t.2.2.1 51) 0 7 from by first | exact kyA.mp (by omega) | exact hi17_1) (show 0 ≤ 0 from by omega) (show 0 ≤ 11 from by omega) (show (15 : Int) - 0 < ((16 : Nat) : Int) from by omega) hP hD hS (lv_sub hl [0, 1] rfl)
  · replace c_98 : r_93.toInt = 0 := i_eq c_98
    refine lv_iconst (v := 0) C.1 C.2.1 dX3_isJob_13 (by decide) ?_
    exact g_iret C hr hlocks hP hD hS (by decide) t rfl ⟨hok, hfr, by decide, by decide, (show 0 = 1 ↔ jOK (gR (t.2.2.1 51)) from by constructor <;> intro hz <;> first | exact absurd hz (by decide) | exact hi131_0 | rfl | (exfalso; have hq := kyJ.mp hz; first | omega | exact absurd (kyB.mpr (isj_b (s := w78_1) hq.2.2.1 (by omega) (by omega))) (by omega)) | (exfalso; exact absurd (kyA.mpr (job_word.mpr hz.1)) (by omega)))⟩ (Nat.le_of_ble_eq_true rfl) (Nat.le_of_ble_eq_true rfl) dX3_isJob_14
