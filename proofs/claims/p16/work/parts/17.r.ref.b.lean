set_option maxHeartbeats 4000000 in
set_option maxRecDepth 100000 in
theorem U_X12_search (l : Launch) (D : va_G) (K : Nat → ClassId) (Z Y : Nat → Nat) (ad : Nat → Nat) (t : tSt) (hok : okM t) (x1 : Int32) (hx1 : (1 : Int) ≤ x1.toInt ∧ x1.toInt ≤ 1281) (i2 : Nat) (hi2 : sS i2) (hs0 : x1.toInt ≤ 1280) : tMet l yX12_search cX12_search 4 (some .int) (rmD 10 0 0) D K Z Y [.ref (ad 0), .int x1, .ref (Z i2)] (WM K ad t) (QI D K (fun (r : Int32) (u : tSt) => okM u ∧ frA [(0, 78), (0, 79), (0, 80), (0, 81)] [] [] [] t u ∧ (1 : Int) ≤ r.toInt ∧ r.toInt ≤ 1281 ∧ (x1.toInt ≤ r.toInt) ∧ (r.toInt ≤ (t.1 0 77).toInt ∨ r.toInt = x1.toInt) ∧ ((t.1 0 78).toInt = 6 → (u.1 0 78).toInt = 6) ∧ (∀ i : Int32, x1.toInt ≤ i.toInt → i.toInt < r.toInt → ¬ wBl (gD t i) 0 i2 ∧ ¬ jOK (gD t i)) ∧ (r.toInt < (t.1 0 77).toInt → wBl (gD t r) 0 i2 ∨ jOK (gD t r))) (fun (u : tSt) => WM K ad u)) 0 0 := by
  refine t_met RX12 ⟨rfl, by decide +kernel⟩ (Nat.le_of_ble_eq_true rfl) ?_
  intro p e s m below meth c A ls C hE hZ hr hlocks hA hP hD hS hl
  have hl : lv_has ls 4 [(0, .ref (ad 0)), (1, .int x1), (2, .ref (Z i2))] := hl
  have hokt := hok
  have hfr : frA [(0, 78), (0, 79), (0, 80), (0, 81)] [] [] [] t t := frA_rf
  have h_1 : (0 : Int) ≤ (t.1 0 77).toInt ∧ (t.1 0 77).toInt ≤ 1280 := hok.1 0 77
  have h_2 : (0 : Int) ≤ (t.1 0 78).toInt ∧ (t.1 0 78).toInt ≤ 6 := hok.1 0 78
  have L_2 : ∀ (fuel_2 : Nat) (t1 : tSt) (w2_3 : Int32) (H : Heap) (locs : List Loc) (ls : Array Slot), okM t1 → frA [(0, 78), (0, 79), (0, 80), (0, 81)] [] [] [] t t1 → (1 : Int) ≤ w2_3.toInt ∧ w2_3.toInt ≤ 1281 → (x1.toInt ≤ w2_3.toInt) → (w2_3.toInt ≤ (t.1 0 77).toInt ∨ w2_3.toInt = x1.toInt) → ((t.1 0 78).toInt = 6 → (t1.1 0 78).toInt = 6) → (∀ i : Int32, x1.toInt ≤ i.toInt → i.toInt < w2_3.toInt → ¬ wBl (gD t i) 0 i2 ∧ ¬ jOK (gD t i)) → (1300 - w2_3.toInt) < (fuel_2 : Int) → va_P D vwCl (WM K ad t1) H → va_D A (WM K ad t1) → va_S A s.heap H locs → lv_has ls 4 [(0, .ref (ad 0)), (1, .int x1), (2, .ref (Z i2)), (3, .int w2_3)] → W p l e (rmD 10 0 0) s m [.ref (ad 0), .int x1, .ref (Z i2)].toArray below meth c H locs 0 0 (MQ below (QI D K (fun (r : Int32) (u : tSt) => okM u ∧ frA [(0, 78), (0, 79), (0, 80), (0, 81)] [] [] [] t u ∧ (1 : Int) ≤ r.toInt ∧ r.toInt ≤ 1281 ∧ (x1.toInt ≤ r.toInt) ∧ (r.toInt ≤ (t.1 0 77).toInt ∨ r.toInt = x1.toInt) ∧ ((t.1 0 78).toInt = 6 → (u.1 0 78).toInt = 6) ∧ (∀ i : Int32, x1.toInt ≤ i.toInt → i.toInt < r.toInt → ¬ wBl (gD t i) 0 i2 ∧ ¬ jOK (gD t i)) ∧ (r.toInt < (t.1 0 77).toInt → wBl (gD t r) 0 i2 ∨ jOK (gD t r))) (fun (u : tSt) => WM K ad u) A) [.ref (ad 0), .int x1, .ref (Z i2)].toArray s 0 0 A) (F0 m 2 ls []) := by
    intro fuel_2
    induction fuel_2 with
    | zero =>
      intro t1 w2_3 H locs ls hok hfr hw2_3 hi2_0 hi2_1 hi2_2 hi2_3 hm2_2 hP hD hS hl
      have h_3 : (t1.1 0 77).toInt = (t.1 0 77).toInt := ti_eq (hfr.1 0 77 rfl)
      have e_4 : t1.2.2.1 36 = t.2.2.1 36 := hfr.2.2.1 36 rfl
      have e_5 : t1.2.2.1 37 = t.2.2.1 37 := hfr.2.2.1 37 rfl
      have e_6 : t1.2.2.1 38 = t.2.2.1 38 := hfr.2.2.1 38 rfl
      have h_7 : (0 : Int) ≤ (t1.1 0 77).toInt ∧ (t1.1 0 77).toInt ≤ 1280 := hok.1 0 77
      have h_8 : (0 : Int) ≤ (t1.1 0 78).toInt ∧ (t1.1 0 78).toInt ≤ 6 := hok.1 0 78
      exact absurd hm2_2 (by omega)
    | succ fuel_2 ih_2 =>
      intro t1 w2_3 H locs ls hok hfr hw2_3 hi2_0 hi2_1 hi2_2 hi2_3 hm2_2 hP hD hS hl
      have hm2_2 : (1300 - w2_3.toInt) < (fuel_2 : Int) + 1 := by omega
      have h_9 : (t1.1 0 77).toInt = (t.1 0 77).toInt := ti_eq (hfr.1 0 77 rfl)
      have e_10 : t1.2.2.1 36 = t.2.2.1 36 := hfr.2.2.1 36 rfl
      have e_11 : t1.2.2.1 37 = t.2.2.1 37 := hfr.2.2.1 37 rfl
      have e_12 : t1.2.2.1 38 = t.2.2.1 38 := hfr.2.2.1 38 rfl
      have h_13 : (0 : Int) ≤ (t1.1 0 77).toInt ∧ (t1.1 0 77).toInt ≤ 1280 := hok.1 0 77
      have h_14 : (0 : Int) ≤ (t1.1 0 78).toInt ∧ (t1.1 0 78).toInt ≤ 6 := hok.1 0 78
      have hgd : ∀ y, gD t1 y = gD t y := fun y => funext fun j => by unfold gD fDeck; rw [hfr.2.2.1 36 rfl, hfr.2.2.1 37 rfl, hfr.2.2.1 38 rfl]
      refine lv_iload_n C.1 C.2.1 dX12_search_2 rfl (lv_at hl 3 rfl) ?_
      refine lv_aload_n C.1 C.2.1 dX12_search_3 rfl (lv_at hl 0 rfl) ?_
      refine k_get (v := .int (t1.1 0 77)) C hP 0 rfl rfl inlX12 77 (by decide) m_78_14 rfl dX12_search_4 ?_
      refine lv_icmp_ge (tgt := 33) C.1 C.2.1 dX12_search_7 (by decide) (fun c_15 => ?_) (fun c_15 => ?_)
      · replace c_15 : (t1.1 0 77).toInt ≤ w2_3.toInt := i_le c_15
        refine lv_iload_n C.1 C.2.1 dX12_search_33 rfl (lv_at hl 3 rfl) ?_
        exact g_iret C hr hlocks hP hD hS rfl t1 rfl ⟨hok, hfr, by omega, by omega, (show x1.toInt ≤ w2_3.toInt from by omega), (show w2_3.toInt ≤ (t.1 0 77).toInt ∨ w2_3.toInt = x1.toInt from by omega), (show (t.1 0 78).toInt = 6 → (t1.1 0 78).toInt = 6 from by omega), (show ∀ i : Int32, x1.toInt ≤ i.toInt → i.toInt < w2_3.toInt → ¬ wBl (gD t i) 0 i2 ∧ ¬ jOK (gD t i) from by exact hi2_3), (show w2_3.toInt < (t.1 0 77).toInt → wBl (gD t w2_3) 0 i2 ∨ jOK (gD t w2_3) from by intro hz; first | (exfalso; omega) | exact Or.inl (kyA.mp (by omega)) | exact Or.inr (kyJ.mp (by omega)))⟩ (Nat.le_of_ble_eq_true rfl) (Nat.le_of_ble_eq_true rfl) dX12_search_34
      · replace c_15 : w2_3.toInt < (t1.1 0 77).toInt := i_nle c_15
        refine lv_aload_n C.1 C.2.1 dX12_search_10 rfl (lv_at hl 0 rfl) ?_
        refine lv_iload_n C.1 C.2.1 dX12_search_11 rfl (lv_at hl 3 rfl) ?_
        refine lv_aload_n C.1 C.2.1 dX12_search_12 rfl (lv_at hl 2 rfl) ?_
        refine g_Vi (As := [.int w2_3, .ref (Z i2)]) (rest := []) C hP hD hS hA (U_X12_isWord l D K Z Y ad t1 hok (w2_3) (show (0 : Int) ≤ (w2_3 : Int32).toInt ∧ (w2_3 : Int32).toInt ≤ 1280 from ⟨by omega, by omega⟩) (i2) hi2) hE hZ (uwV m_79_1 m_79_2 m_79_3 m_1_5 m_79_4) (hdV 2 (by decide +kernel) rfl) ⟨Nat.le_of_ble_eq_true rfl, Nat.le_of_ble_eq_true rfl⟩ rfl rfl (ci := 11) (q0 := 0) rfl rfl rfl hl.1 (Nat.le_of_ble_eq_true rfl) dX12_search_13 ⟨Nat.le_of_ble_eq_true rfl, Nat.le_of_ble_eq_true rfl⟩ (fun r_17 t_16 H locs hw hP hD hS => ?_)
        obtain ⟨h_19, h_20, p_21⟩ := hw
        replace p_21 : r_17.toInt = 1 ↔ wBl (gD t1 w2_3) 0 i2 := p_21
        have kyA := p_21
        rw [hgd] at kyA
        refine lv_if_ne (tgt := 33) C.1 C.2.1 dX12_search_16 (by decide) (fun c_22 => ?_) (fun c_22 => ?_)
        · replace c_22 : ¬ r_17.toInt = 0 := i_ne c_22
          refine lv_iload_n C.1 C.2.1 dX12_search_33 rfl (lv_at hl 3 rfl) ?_
          exact g_iret C hr hlocks hP hD hS rfl t1 rfl ⟨hok, hfr, by omega, by omega, (show x1.toInt ≤ w2_3.toInt from by omega), (show w2_3.toInt ≤ (t.1 0 77).toInt ∨ w2_3.toInt = x1.toInt from by omega), (show (t.1 0 78).toInt = 6 → (t1.1 0 78).toInt = 6 from by omega), (show ∀ i : Int32, x1.toInt ≤ i.toInt → i.toInt < w2_3.toInt → ¬ wBl (gD t i) 0 i2 ∧ ¬ jOK (gD t i) from by exact hi2_3), (show w2_3.toInt < (t.1 0 77).toInt → wBl (gD t w2_3) 0 i2 ∨ jOK (gD t w2_3) from by intro hz; first | (exfalso; omega) | exact Or.inl (kyA.mp (by omega)) | exact Or.inr (kyJ.mp (by omega)))⟩ (Nat.le_of_ble_eq_true rfl) (Nat.le_of_ble_eq_true rfl) dX12_search_34
        · replace c_22 : r_17.toInt = 0 := i_eq c_22
          refine lv_aload_n C.1 C.2.1 dX12_search_19 rfl (lv_at hl 0 rfl) ?_
          refine lv_iload_n C.1 C.2.1 dX12_search_20 rfl (lv_at hl 3 rfl) ?_
          refine g_Vi (As := [.int w2_3]) (rest := []) C hP hD hS hA (U_X12_isJob l D K Z Y ad t1 hok (w2_3) (show (0 : Int) ≤ (w2_3 : Int32).toInt ∧ (w2_3 : Int32).toInt ≤ 1280 from ⟨by omega, by omega⟩)) hE hZ (uwV m_78_17 m_78_18 m_78_19 m_1_5 m_78_20) (hdV 1 (by decide +kernel) rfl) ⟨Nat.le_of_ble_eq_true rfl, Nat.le_of_ble_eq_true rfl⟩ rfl rfl (ci := 11) (q0 := 0) rfl rfl rfl hl.1 (Nat.le_of_ble_eq_true rfl) dX12_search_21 ⟨Nat.le_of_ble_eq_true rfl, Nat.le_of_ble_eq_true rfl⟩ (fun r_24 t_23 H locs hw hP hD hS => ?_)
          obtain ⟨hok, f_25, h_26, h_27, p_28, p_29, p_30⟩ := hw
          have hfr : frA [(0, 78), (0, 79), (0, 80), (0, 81)] [] [] [] t t_23 := frA_tr hfr f_25 rfl
          have h_31 : (t_23.1 0 77).toInt = (t1.1 0 77).toInt := ti_eq (f_25.1 0 77 rfl)
          have e_32 : t_23.2.2.1 36 = t.2.2.1 36 := (f_25.2.2.1 36 rfl).trans (e_10)
          have e_33 : t_23.2.2.1 37 = t.2.2.1 37 := (f_25.2.2.1 37 rfl).trans (e_11)
          have e_34 : t_23.2.2.1 38 = t.2.2.1 38 := (f_25.2.2.1 38 rfl).trans (e_12)
          have h_35 : (0 : Int) ≤ (t_23.1 0 78).toInt ∧ (t_23.1 0 78).toInt ≤ 6 := hok.1 0 78
          replace p_28 : r_24.toInt = 1 → (t_23.1 0 78).toInt = 6 := p_28
          replace p_29 : (t1.1 0 78).toInt = 6 → (t_23.1 0 78).toInt = 6 := p_29
          replace p_30 : r_24.toInt = 1 ↔ jOK (gD t1 w2_3) := p_30
          have kyJ := p_30
          rw [hgd] at kyJ
          refine lv_if_ne (tgt := 33) C.1 C.2.1 dX12_search_24 (by decide) (fun c_36 => ?_) (fun c_36 => ?_)
          · replace c_36 : ¬ r_24.toInt = 0 := i_ne c_36
            refine lv_iload_n C.1 C.2.1 dX12_search_33 rfl (lv_at hl 3 rfl) ?_
            exact g_iret C hr hlocks hP hD hS rfl t_23 rfl ⟨hok, hfr, by omega, by omega, (show x1.toInt ≤ w2_3.toInt from by omega), (show w2_3.toInt ≤ (t.1 0 77).toInt ∨ w2_3.toInt = x1.toInt from by omega), (show (t.1 0 78).toInt = 6 → (t_23.1 0 78).toInt = 6 from by omega), (show ∀ i : Int32, x1.toInt ≤ i.toInt → i.toInt < w2_3.toInt → ¬ wBl (gD t i) 0 i2 ∧ ¬ jOK (gD t i) from by exact hi2_3), (show w2_3.toInt < (t.1 0 77).toInt → wBl (gD t w2_3) 0 i2 ∨ jOK (gD t w2_3) from by intro hz; first | (exfalso; omega) | exact Or.inl (kyA.mp (by omega)) | exact Or.inr (kyJ.mp (by omega)))⟩ (Nat.le_of_ble_eq_true rfl) (Nat.le_of_ble_eq_true rfl) dX12_search_34
          · replace c_36 : r_24.toInt = 0 := i_eq c_36
            obtain ⟨v_37, e_38⟩ : ∃ z, z = w2_3 + 1 := ⟨_, rfl⟩
            have h_39 : v_37.toInt = w2_3.toInt + 1 := by rw [e_38]; exact ti_iadd (by show (_ : Int) ≤ w2_3.toInt + 1; omega) (by show w2_3.toInt + 1 < (_ : Int); omega)
            refine lv_iinc (v := v_37) (lv' := [(3, .int v_37), (0, .ref (ad 0)), (1, .int x1), (2, .ref (Z i2))]) C.1 C.2.1 dX12_search_27 hl (k := 3) rfl e_38.symm (by decide) rfl (fun ls hl => ?_)
            have hl : lv_has ls 4 [(0, .ref (ad 0)), (1, .int x1), (2, .ref (Z i2)), (3, .int v_37)] := lv_sub hl [1, 2, 3, 0] rfl
            refine lv_goto (tgt := 2) C.1 C.2.1 dX12_search_30 (by decide) ?_
            exact ih_2 t_23 v_37 _ _ _ hok hfr ⟨by omega, by omega⟩ (show x1.toInt ≤ v_37.toInt from by omega) (show v_37.toInt ≤ (t.1 0 77).toInt ∨ v_37.toInt = x1.toInt from by omega) (show (t.1 0 78).toInt = 6 → (t_23.1 0 78).toInt = 6 from by omega) (show ∀ i : Int32, x1.toInt ≤ i.toInt → i.toInt < v_37.toInt → ¬ wBl (gD t i) 0 i2 ∧ ¬ jOK (gD t i) from by intro i h1 h2; first | (exfalso; omega) | (rcases Int.lt_or_eq_of_le (show i.toInt ≤ w2_3.toInt from by omega) with h9 | h9 <;> first | exact hi2_3 i h1 h9 | (have hcc : i = w2_3 := Int32.toInt_inj.mp h9; subst hcc; exact ⟨fun z => absurd (kyA.mpr z) (by omega), fun z => absurd (kyJ.mpr z) (by omega)⟩))) (show (1300 - v_37.toInt) < (fuel_2 : Int) from by omega) hP hD hS (lv_sub hl [0, 1, 2, 3] rfl)
  refine lv_iload_n C.1 C.2.1 dX12_search_0 rfl (lv_at hl 1 rfl) ?_
  refine lv_istore_n (lv' := [(3, .int x1), (0, .ref (ad 0)), (1, .int x1), (2, .ref (Z i2))]) C.1 C.2.1 dX12_search_1 rfl hl (by decide) rfl (fun ls hl => ?_)
  have hl : lv_has ls 4 [(0, .ref (ad 0)), (1, .int x1), (2, .ref (Z i2)), (3, .int x1)] := lv_sub hl [1, 2, 3, 0] rfl
  exact L_2 1400 t x1 _ _ _ hok hfr ⟨by omega, by omega⟩ (show x1.toInt ≤ x1.toInt from by omega) (show x1.toInt ≤ (t.1 0 77).toInt ∨ x1.toInt = x1.toInt from by omega) (show (t.1 0 78).toInt = 6 → (t.1 0 78).toInt = 6 from by omega) (show ∀ i : Int32, x1.toInt ≤ i.toInt → i.toInt < x1.toInt → ¬ wBl (gD t i) 0 i2 ∧ ¬ jOK (gD t i) from by intro i h1 h2; first | (exfalso; omega) | (rcases Int.lt_or_eq_of_le (show i.toInt ≤ w2_3.toInt from by omega) with h9 | h9 <;> first | exact hi2_3 i h1 h9 | (have hcc : i = w2_3 := Int32.toInt_inj.mp h9; subst hcc; exact ⟨fun z => absurd (kyA.mpr z) (by omega), fun z => absurd (kyJ.mpr z) (by omega)⟩))) (show (1300 - x1.toInt) < ((1400 : Nat) : Int) from by omega) hP hD hS (lv_sub hl [0, 1, 2, 3] rfl)

set_option maxHeartbeats 16000000 in
set_option maxRecDepth 100000 in
theorem U_X12_jobs (l : Launch) (D : va_G) (K : Nat → ClassId) (Z Y : Nat → Nat) (ad : Nat → Nat) (t : tSt) (hok : okM t) (hs0 : ∀ i : Nat, (i : Int) < (t.1 0 2).toInt → (-128 : Int) ≤ ((t.2.2.1 1) i).toInt ∧ ((t.2.2.1 1) i).toInt ≤ 127) : tMet l yX12_jobs cX12_jobs 5 (some .int) (rmD 21 0 0) D K Z Y [.ref (ad 0)] (WM K ad t) (QI D K (fun (r : Int32) (u : tSt) => okM u ∧ frA [(0, 0), (0, 2), (0, 5), (0, 6), (0, 7), (0, 9), (0, 10), (0, 11), (0, 12), (0, 14), (0, 15), (0, 16), (0, 17), (0, 18), (0, 30), (0, 31), (0, 35), (0, 36), (0, 38), (0, 41), (0, 42), (0, 43), (0, 44), (0, 45), (0, 46), (0, 47), (0, 48), (0, 51), (0, 52), (0, 60), (0, 67), (0, 68), (0, 69), (0, 70), (0, 71), (0, 72), (0, 73), (0, 77), (0, 78), (0, 79), (0, 80), (0, 81), (0, 82), (0, 83), (0, 88), (0, 90), (0, 91), (0, 93)] [(0, 8), (0, 13)] [2, 3, 5, 7, 8, 9, 10, 11, 12, 13, 14, 15, 16, 17, 18, 19, 20, 21, 22, 24, 25, 26, 27, 28, 29, 30, 31, 32, 33, 34, 35, 36, 37, 38, 39, 40, 41, 42, 43, 44] [4, 6, 23] t u ∧ (0 : Int) ≤ r.toInt ∧ r.toInt ≤ 511 ∧ ((u.1 0 2).toInt = 0) ∧ (r.toInt = ((cc (t.2.2.1 1) ((t.1 0 2).toInt).toNat 0 0 : Nat) : Int))) (fun (u : tSt) => WM K ad u)) 0 0 := by
  refine t_met RX12 ⟨rfl, by decide +kernel⟩ (Nat.le_of_ble_eq_true rfl) ?_
  intro p e s m below meth c A ls C hE hZ hr hlocks hA hP hD hS hl
  have hl : lv_has ls 5 [(0, .ref (ad 0))] := hl
  have hokt := hok
  have hfr : frA [(0, 0), (0, 2), (0, 5), (0, 6), (0, 7), (0, 9), (0, 10), (0, 11), (0, 12), (0, 14), (0, 15), (0, 16), (0, 17), (0, 18), (0, 30), (0, 31), (0, 35), (0, 36), (0, 38), (0, 41), (0, 42), (0, 43), (0, 44), (0, 45), (0, 46), (0, 47), (0, 48), (0, 51), (0, 52), (0, 60), (0, 67), (0, 68), (0, 69), (0, 70), (0, 71), (0, 72), (0, 73), (0, 77), (0, 78), (0, 79), (0, 80), (0, 81), (0, 82), (0, 83), (0, 88), (0, 90), (0, 91), (0, 93)] [(0, 8), (0, 13)] [2, 3, 5, 7, 8, 9, 10, 11, 12, 13, 14, 15, 16, 17, 18, 19, 20, 21, 22, 24, 25, 26, 27, 28, 29, 30, 31, 32, 33, 34, 35, 36, 37, 38, 39, 40, 41, 42, 43, 44] [4, 6, 23] t t := frA_rf
  have h_1 : (0 : Int) ≤ (t.1 0 2).toInt ∧ (t.1 0 2).toInt ≤ 1280 := hok.1 0 2
  have h_2 : (0 : Int) ≤ (t.1 0 77).toInt ∧ (t.1 0 77).toInt ≤ 1280 := hok.1 0 77
  have h_3 : (0 : Int) ≤ (t.1 0 78).toInt ∧ (t.1 0 78).toInt ≤ 6 := hok.1 0 78
  have h_4 : (0 : Int) ≤ (t.1 0 83).toInt ∧ (t.1 0 83).toInt ≤ 427 := hok.1 0 83
  have L_123 : ∀ (fuel_123 : Nat) (t1 : tSt) (w123_1 : Int32) (H : Heap) (locs : List Loc) (ls : Array Slot), okM t1 → frA [(0, 0), (0, 2), (0, 5), (0, 6), (0, 7), (0, 9), (0, 10), (0, 11), (0, 12), (0, 14), (0, 15), (0, 16), (0, 17), (0, 18), (0, 30), (0, 31), (0, 35), (0, 36), (0, 38), (0, 41), (0, 42), (0, 43), (0, 44), (0, 45), (0, 46), (0, 47), (0, 48), (0, 51), (0, 52), (0, 60), (0, 67), (0, 68), (0, 69), (0, 70), (0, 71), (0, 72), (0, 73), (0, 77), (0, 78), (0, 79), (0, 80), (0, 81), (0, 82), (0, 83), (0, 88), (0, 90), (0, 91), (0, 93)] [(0, 8), (0, 13)] [2, 3, 5, 7, 8, 9, 10, 11, 12, 13, 14, 15, 16, 17, 18, 19, 20, 21, 22, 24, 25, 26, 27, 28, 29, 30, 31, 32, 33, 34, 35, 36, 37, 38, 39, 40, 41, 42, 43, 44] [4, 6, 23] t t1 → (0 : Int) ≤ w123_1.toInt ∧ w123_1.toInt ≤ 2147483647 → (0 : Int) ≤ (t1.1 0 0).toInt ∧ (t1.1 0 0).toInt ≤ 0 → (0 : Int) ≤ (t1.1 0 2).toInt ∧ (t1.1 0 2).toInt ≤ 0 → (lnS (t1.1 0 77).toInt (t1.2.2.1 37) (t1.2.2.1 38)) → (0 ≤ w123_1.toInt) → (w123_1.toInt ≤ (t1.1 0 77).toInt) → (3 * (t1.1 0 83).toInt ≤ w123_1.toInt) → ((t1.1 0 2).toInt = 0) → (dkR (t.2.2.1 1) (t1.2.2.1 37) (t1.2.2.1 38) (t1.1 0 77).toInt ((t.1 0 2).toInt).toNat) → (cc (t.2.2.1 1) ((t.1 0 2).toInt).toNat 0 0 = ((t1.1 0 83).toInt : Int).toNat + cc (t.2.2.1 1) ((t.1 0 2).toInt).toNat (pS (t1.2.2.1 37) (t1.1 0 77).toInt ((t.1 0 2).toInt).toNat (w123_1.toInt : Int).toNat) 0) → (∀ i : Nat, i < ((t.1 0 2).toInt).toNat → (t1.2.2.1 36) i = (t.2.2.1 1) i) → (0 ≤ (t1.1 0 83).toInt) → (1300 - w123_1.toInt) < (fuel_123 : Int) → va_P D vwCl (WM K ad t1) H → va_D A (WM K ad t1) → va_S A s.heap H locs → lv_has ls 5 [(0, .ref (ad 0)), (1, .int w123_1)] → W p l e (rmD 21 0 0) s m [.ref (ad 0)].toArray below meth c H locs 0 0 (MQ below (QI D K (fun (r : Int32) (u : tSt) => okM u ∧ frA [(0, 0), (0, 2), (0, 5), (0, 6), (0, 7), (0, 9), (0, 10), (0, 11), (0, 12), (0, 14), (0, 15), (0, 16), (0, 17), (0, 18), (0, 30), (0, 31), (0, 35), (0, 36), (0, 38), (0, 41), (0, 42), (0, 43), (0, 44), (0, 45), (0, 46), (0, 47), (0, 48), (0, 51), (0, 52), (0, 60), (0, 67), (0, 68), (0, 69), (0, 70), (0, 71), (0, 72), (0, 73), (0, 77), (0, 78), (0, 79), (0, 80), (0, 81), (0, 82), (0, 83), (0, 88), (0, 90), (0, 91), (0, 93)] [(0, 8), (0, 13)] [2, 3, 5, 7, 8, 9, 10, 11, 12, 13, 14, 15, 16, 17, 18, 19, 20, 21, 22, 24, 25, 26, 27, 28, 29, 30, 31, 32, 33, 34, 35, 36, 37, 38, 39, 40, 41, 42, 43, 44] [4, 6, 23] t u ∧ (0 : Int) ≤ r.toInt ∧ r.toInt ≤ 511 ∧ ((u.1 0 2).toInt = 0) ∧ (r.toInt = ((cc (t.2.2.1 1) ((t.1 0 2).toInt).toNat 0 0 : Nat) : Int))) (fun (u : tSt) => WM K ad u) A) [.ref (ad 0)].toArray s 0 0 A) (F0 m 123 ls []) := by
    intro fuel_123
    induction fuel_123 with
    | zero =>
      intro t1 w123_1 H locs ls hok hfr hw123_1 hf123_0 hf123_2 hi123_0 hi123_1 hi123_2 hi123_3 hi123_4 hi123_5 hi123_6 hi123_7 hi123_8 hm123_123 hP hD hS hl
      have e_5 : t1.2.2.1 1 = t.2.2.1 1 := hfr.2.2.1 1 rfl
      have h_6 : (0 : Int) ≤ (t1.1 0 77).toInt ∧ (t1.1 0 77).toInt ≤ 1280 := hok.1 0 77
      have h_7 : (0 : Int) ≤ (t1.1 0 78).toInt ∧ (t1.1 0 78).toInt ≤ 6 := hok.1 0 78
      have h_8 : (0 : Int) ≤ (t1.1 0 83).toInt ∧ (t1.1 0 83).toInt ≤ 427 := hok.1 0 83
      exact absurd hm123_123 (by omega)
    | succ fuel_123 ih_123 =>
      intro t1 w123_1 H locs ls hok hfr hw123_1 hf123_0 hf123_2 hi123_0 hi123_1 hi123_2 hi123_3 hi123_4 hi123_5 hi123_6 hi123_7 hi123_8 hm123_123 hP hD hS hl
      have hm123_123 : (1300 - w123_1.toInt) < (fuel_123 : Int) + 1 := by omega
      have e_9 : t1.2.2.1 1 = t.2.2.1 1 := hfr.2.2.1 1 rfl
      have h_10 : (0 : Int) ≤ (t1.1 0 77).toInt ∧ (t1.1 0 77).toInt ≤ 1280 := hok.1 0 77
      have h_11 : (0 : Int) ≤ (t1.1 0 78).toInt ∧ (t1.1 0 78).toInt ≤ 6 := hok.1 0 78
      have h_12 : (0 : Int) ≤ (t1.1 0 83).toInt ∧ (t1.1 0 83).toInt ≤ 427 := hok.1 0 83
      have hn0 := hi123_0
      have hgl := gD_gl (t := t1) (n := ((t.1 0 2).toInt).toNat) hi123_5 (by omega) hi123_7
      refine lv_iload_n C.1 C.2.1 dX12_jobs_123 rfl (lv_at hl 1 rfl) ?_
      refine lv_aload_n C.1 C.2.1 dX12_jobs_124 rfl (lv_at hl 0 rfl) ?_
      refine k_get (v := .int (t1.1 0 77)) C hP 0 rfl rfl inlX12 77 (by decide) m_78_14 rfl dX12_jobs_125 ?_
      refine lv_icmp_ge (tgt := 249) C.1 C.2.1 dX12_jobs_128 (by decide) (fun c_13 => ?_) (fun c_13 => ?_)
      · replace c_13 : (t1.1 0 77).toInt ≤ w123_1.toInt := i_le c_13
        refine lv_aload_n C.1 C.2.1 dX12_jobs_249 rfl (lv_at hl 0 rfl) ?_
        refine k_get (v := .int (t1.1 0 83)) C hP 0 rfl rfl inlX12 83 (by decide) m_78_16 rfl dX12_jobs_250 ?_
        exact g_iret C hr hlocks hP hD hS rfl t1 rfl ⟨hok, hfr, by omega, by omega, (show (t1.1 0 2).toInt = 0 from by omega), (show (t1.1 0 83).toInt = ((cc (t.2.2.1 1) ((t.1 0 2).toInt).toNat 0 0 : Nat) : Int) from by exact jPz hi123_6 (by omega) (by omega))⟩ (Nat.le_of_ble_eq_true rfl) (Nat.le_of_ble_eq_true rfl) dX12_jobs_253
      · replace c_13 : w123_1.toInt < (t1.1 0 77).toInt := i_nle c_13
        refine lv_aload_n C.1 C.2.1 dX12_jobs_131 rfl (lv_at hl 0 rfl) ?_
        refine lv_iload_n C.1 C.2.1 dX12_jobs_132 rfl (lv_at hl 1 rfl) ?_
        refine g_Vi (As := [.int w123_1]) (rest := []) C hP hD hS hA (U_X12_isJob l D K Z Y ad t1 hok (w123_1) (show (0 : Int) ≤ (w123_1 : Int32).toInt ∧ (w123_1 : Int32).toInt ≤ 1280 from ⟨by omega, by omega⟩)) hE hZ (uwV m_78_17 m_78_18 m_78_19 m_1_5 m_78_20) (hdV 1 (by decide +kernel) rfl) ⟨Nat.le_of_ble_eq_true rfl, Nat.le_of_ble_eq_true rfl⟩ rfl rfl (ci := 11) (q0 := 0) rfl rfl rfl hl.1 (Nat.le_of_ble_eq_true rfl) dX12_jobs_133 ⟨Nat.le_of_ble_eq_true rfl, Nat.le_of_ble_eq_true rfl⟩ (fun r_15 t_14 H locs hw hP hD hS => ?_)
        obtain ⟨hok, f_16, h_17, h_18, p_19, p_20, p_21⟩ := hw
        have hfr : frA [(0, 0), (0, 2), (0, 5), (0, 6), (0, 7), (0, 9), (0, 10), (0, 11), (0, 12), (0, 14), (0, 15), (0, 16), (0, 17), (0, 18), (0, 30), (0, 31), (0, 35), (0, 36), (0, 38), (0, 41), (0, 42), (0, 43), (0, 44), (0, 45), (0, 46), (0, 47), (0, 48), (0, 51), (0, 52), (0, 60), (0, 67), (0, 68), (0, 69), (0, 70), (0, 71), (0, 72), (0, 73), (0, 77), (0, 78), (0, 79), (0, 80), (0, 81), (0, 82), (0, 83), (0, 88), (0, 90), (0, 91), (0, 93)] [(0, 8), (0, 13)] [2, 3, 5, 7, 8, 9, 10, 11, 12, 13, 14, 15, 16, 17, 18, 19, 20, 21, 22, 24, 25, 26, 27, 28, 29, 30, 31, 32, 33, 34, 35, 36, 37, 38, 39, 40, 41, 42, 43, 44] [4, 6, 23] t t_14 := frA_tr hfr f_16 rfl
        have h_22 : (t_14.1 0 0).toInt = (t1.1 0 0).toInt := ti_eq (f_16.1 0 0 rfl)
        have h_23 : (t_14.1 0 2).toInt = (t1.1 0 2).toInt := ti_eq (f_16.1 0 2 rfl)
        have h_24 : (t_14.1 0 77).toInt = (t1.1 0 77).toInt := ti_eq (f_16.1 0 77 rfl)
        have h_25 : (t_14.1 0 83).toInt = (t1.1 0 83).toInt := ti_eq (f_16.1 0 83 rfl)
        have e_26 : t_14.2.2.1 1 = t.2.2.1 1 := (f_16.2.2.1 1 rfl).trans (e_9)
        have e_27 : t_14.2.2.1 36 = t1.2.2.1 36 := f_16.2.2.1 36 rfl
        have e_28 : t_14.2.2.1 37 = t1.2.2.1 37 := f_16.2.2.1 37 rfl
        have e_29 : t_14.2.2.1 38 = t1.2.2.1 38 := f_16.2.2.1 38 rfl
        have h_30 : (0 : Int) ≤ (t_14.1 0 78).toInt ∧ (t_14.1 0 78).toInt ≤ 6 := hok.1 0 78
        have h_31 : (0 : Int) ≤ (t_14.1 0 83).toInt ∧ (t_14.1 0 83).toInt ≤ 427 := hok.1 0 83
        replace p_19 : r_15.toInt = 1 → (t_14.1 0 78).toInt = 6 := p_19
        replace p_20 : (t1.1 0 78).toInt = 6 → (t_14.1 0 78).toInt = 6 := p_20
        replace p_21 : r_15.toInt = 1 ↔ jOK (gD t1 w123_1) := p_21
        have hj := p_21
        rw [hgl _ (by omega) (by omega)] at hj
        have hq1 : gD t_14 = gD t1 := gD_same e_27 e_28 e_29
        refine lv_if_ne (tgt := 145) C.1 C.2.1 dX12_jobs_136 (by decide) (fun c_32 => ?_) (fun c_32 => ?_)
        · replace c_32 : ¬ r_15.toInt = 0 := i_ne c_32
          refine lv_aload_n C.1 C.2.1 dX12_jobs_145 rfl (lv_at hl 0 rfl) ?_
          refine lv_iload_n C.1 C.2.1 dX12_jobs_146 rfl (lv_at hl 1 rfl) ?_
          refine lv_iconst (v := 1) C.1 C.2.1 dX12_jobs_147 (by decide) ?_
          obtain ⟨v_33, e_34⟩ : ∃ z, z = (w123_1 : Int32) + (1 : Int32) := ⟨_, rfl⟩
          have h_35 : v_33.toInt = w123_1.toInt + 1 := by rw [e_34]; exact ti_iadd (by show (_ : Int) ≤ w123_1.toInt + 1; omega) (by show w123_1.toInt + 1 < (_ : Int); omega)
          refine k_iadd (v := v_33) C e_34.symm dX12_jobs_148 ?_
          refine va_ldcwS C.1 C.2.1 C.2.2.2.1 (hE.2 31 (by decide)) dX12_jobs_149 ?_
          refine g_Vi (As := [.int v_33, .ref (Z 31)]) (rest := []) C hP hD hS hA (U_X12_search l D K Z Y ad t_14 hok (v_33) (show (1 : Int) ≤ (v_33 : Int32).toInt ∧ (v_33 : Int32).toInt ≤ 1281 from ⟨by omega, by omega⟩) (31) (show sS 31 from ⟨by decide, by decide, by decide⟩) (show v_33.toInt ≤ 1280 from by omega)) hE hZ (uwV m_79_17 m_79_18 m_79_19 m_1_5 m_79_20) (hdV 2 (by decide +kernel) rfl) ⟨Nat.le_of_ble_eq_true rfl, Nat.le_of_ble_eq_true rfl⟩ rfl rfl (ci := 11) (q0 := 0) rfl rfl rfl hl.1 (Nat.le_of_ble_eq_true rfl) dX12_jobs_152 ⟨Nat.le_of_ble_eq_true rfl, Nat.le_of_ble_eq_true rfl⟩ (fun r_37 t_36 H locs hw hP hD hS => ?_)
          obtain ⟨hok, f_38, h_39, h_40, p_41, p_42, p_43, p_44, p_45⟩ := hw
          have hfr : frA [(0, 0), (0, 2), (0, 5), (0, 6), (0, 7), (0, 9), (0, 10), (0, 11), (0, 12), (0, 14), (0, 15), (0, 16), (0, 17), (0, 18), (0, 30), (0, 31), (0, 35), (0, 36), (0, 38), (0, 41), (0, 42), (0, 43), (0, 44), (0, 45), (0, 46), (0, 47), (0, 48), (0, 51), (0, 52), (0, 60), (0, 67), (0, 68), (0, 69), (0, 70), (0, 71), (0, 72), (0, 73), (0, 77), (0, 78), (0, 79), (0, 80), (0, 81), (0, 82), (0, 83), (0, 88), (0, 90), (0, 91), (0, 93)] [(0, 8), (0, 13)] [2, 3, 5, 7, 8, 9, 10, 11, 12, 13, 14, 15, 16, 17, 18, 19, 20, 21, 22, 24, 25, 26, 27, 28, 29, 30, 31, 32, 33, 34, 35, 36, 37, 38, 39, 40, 41, 42, 43, 44] [4, 6, 23] t t_36 := frA_tr hfr f_38 rfl
          have h_46 : (t_36.1 0 0).toInt = (t_14.1 0 0).toInt := ti_eq (f_38.1 0 0 rfl)
          have h_47 : (t_36.1 0 2).toInt = (t_14.1 0 2).toInt := ti_eq (f_38.1 0 2 rfl)
          have h_48 : (t_36.1 0 77).toInt = (t_14.1 0 77).toInt := ti_eq (f_38.1 0 77 rfl)
          have h_49 : (t_36.1 0 83).toInt = (t_14.1 0 83).toInt := ti_eq (f_38.1 0 83 rfl)
          have e_50 : t_36.2.2.1 1 = t.2.2.1 1 := (f_38.2.2.1 1 rfl).trans (e_26)
          have e_51 : t_36.2.2.1 36 = t1.2.2.1 36 := (f_38.2.2.1 36 rfl).trans (e_27)
          have e_52 : t_36.2.2.1 37 = t1.2.2.1 37 := (f_38.2.2.1 37 rfl).trans (e_28)
          have e_53 : t_36.2.2.1 38 = t1.2.2.1 38 := (f_38.2.2.1 38 rfl).trans (e_29)
          have h_54 : (0 : Int) ≤ (t_36.1 0 78).toInt ∧ (t_36.1 0 78).toInt ≤ 6 := hok.1 0 78
          have h_55 : (0 : Int) ≤ (t_36.1 0 83).toInt ∧ (t_36.1 0 83).toInt ≤ 427 := hok.1 0 83
          replace p_41 : v_33.toInt ≤ r_37.toInt := p_41
          replace p_42 : r_37.toInt ≤ (t_14.1 0 77).toInt ∨ r_37.toInt = v_33.toInt := p_42
          replace p_43 : (t_14.1 0 78).toInt = 6 → (t_36.1 0 78).toInt = 6 := p_43
          replace p_44 : ∀ i : Int32, v_33.toInt ≤ i.toInt → i.toInt < r_37.toInt → ¬ wBl (gD t_14 i) 0 31 ∧ ¬ jOK (gD t_14 i) := p_44
          replace p_45 : r_37.toInt < (t_14.1 0 77).toInt → wBl (gD t_14 r_37) 0 31 ∨ jOK (gD t_14 r_37) := p_45
          have hs1 := p_44
          have hs2 := p_45
          rw [hq1] at hs1 hs2
          have hn1 := sr_nat hs1 hgl (by omega) (by omega)
          have hq2 : gD t_36 = gD t1 := gD_same e_51 e_52 e_53
          refine lv_istore_n (lv' := [(2, .int r_37), (0, .ref (ad 0)), (1, .int w123_1)]) C.1 C.2.1 dX12_jobs_155 rfl hl (by decide) rfl (fun ls hl => ?_)
          have hl : lv_has ls 5 [(0, .ref (ad 0)), (1, .int w123_1), (2, .int r_37)] := lv_sub hl [1, 2, 0] rfl
          refine lv_iload_n C.1 C.2.1 dX12_jobs_156 rfl (lv_at hl 2 rfl) ?_
          refine lv_aload_n C.1 C.2.1 dX12_jobs_157 rfl (lv_at hl 0 rfl) ?_
          refine k_get (v := .int (t_36.1 0 77)) C hP 0 rfl rfl inlX12 77 (by decide) m_78_14 rfl dX12_jobs_158 ?_
          refine lv_icmp_ge (tgt := 188) C.1 C.2.1 dX12_jobs_161 (by decide) (fun c_56 => ?_) (fun c_56 => ?_)
          · replace c_56 : (t_36.1 0 77).toInt ≤ r_37.toInt := i_le c_56
            refine lv_iload_n C.1 C.2.1 dX12_jobs_188 rfl (lv_at hl 2 rfl) ?_
            refine lv_istore_n (lv' := [(3, .int r_37), (0, .ref (ad 0)), (1, .int w123_1), (2, .int r_37)]) C.1 C.2.1 dX12_jobs_189 rfl hl (by decide) rfl (fun ls hl => ?_)
            have hl : lv_has ls 5 [(0, .ref (ad 0)), (1, .int w123_1), (2, .int r_37), (3, .int r_37)] := lv_sub hl [1, 2, 3, 0] rfl
            refine lv_iload_n C.1 C.2.1 dX12_jobs_190 rfl (lv_at hl 3 rfl) ?_
            refine lv_iload_n C.1 C.2.1 dX12_jobs_191 rfl (lv_at hl 2 rfl) ?_
            refine lv_icmp_le (tgt := 218) C.1 C.2.1 dX12_jobs_192 (by decide) (fun c_57 => ?_) (fun c_57 => ?_)
            · replace c_57 : r_37.toInt ≤ r_37.toInt := i_le c_57
              refine lv_iconst (v := 0) C.1 C.2.1 dX12_jobs_218 (by decide) ?_
              refine lv_istore (lv' := [(4, .int 0), (0, .ref (ad 0)), (1, .int w123_1), (2, .int r_37), (3, .int r_37)]) C.1 C.2.1 dX12_jobs_219 hl (by decide) rfl (fun ls hl => ?_)
              have hl : lv_has ls 5 [(0, .ref (ad 0)), (1, .int w123_1), (2, .int r_37), (3, .int r_37), (4, .int 0)] := lv_sub hl [1, 2, 3, 4, 0] rfl
              refine lv_iload C.1 C.2.1 dX12_jobs_221 (lv_at hl 4 rfl) ?_
              refine lv_if_eq (tgt := 233) C.1 C.2.1 dX12_jobs_223 (by decide) (fun _ => ?_) (fun h => absurd (by decide) h)
              refine lv_iload C.1 C.2.1 dX12_jobs_233 (lv_at hl 4 rfl) ?_
              refine lv_if_eq (tgt := 244) C.1 C.2.1 dX12_jobs_235 (by decide) (fun _ => ?_) (fun h => absurd (by decide) h)
              refine lv_iload_n C.1 C.2.1 dX12_jobs_244 rfl (lv_at hl 3 rfl) ?_
              refine lv_istore_n (lv' := [(1, .int r_37), (0, .ref (ad 0)), (2, .int r_37), (3, .int r_37), (4, .int 0)]) C.1 C.2.1 dX12_jobs_245 rfl hl (by decide) rfl (fun ls hl => ?_)
              have hl : lv_has ls 5 [(0, .ref (ad 0)), (1, .int r_37), (2, .int r_37), (3, .int r_37), (4, .int 0)] := lv_sub hl [1, 0, 2, 3, 4] rfl
              refine lv_goto (tgt := 123) C.1 C.2.1 dX12_jobs_246 (by decide) ?_
              exact ih_123 t_36 r_37 _ _ _ hok hfr ⟨by omega, (i_rng _).2⟩ (show (0 : Int) ≤ ((t_36.1 0 0) : Int32).toInt ∧ ((t_36.1 0 0) : Int32).toInt ≤ 0 from ⟨by omega, by omega⟩) (show (0 : Int) ≤ ((t_36.1 0 2) : Int32).toInt ∧ ((t_36.1 0 2) : Int32).toInt ≤ 0 from ⟨by omega, by omega⟩) (show lnS (t_36.1 0 77).toInt (t_36.2.2.1 37) (t_36.2.2.1 38) from by first | exact hi80_0 | exact lnS_cg hn0 (by omega) e_52 e_53) (show 0 ≤ r_37.toInt from by omega) (show r_37.toInt ≤ (t_36.1 0 77).toInt from by omega) (show 3 * (t_36.1 0 83).toInt ≤ r_37.toInt from by omega) (show (t_36.1 0 2).toInt = 0 from by omega) (show dkR (t.2.2.1 1) (t_36.2.2.1 37) (t_36.2.2.1 38) (t_36.1 0 77).toInt ((t.1 0 2).toInt).toNat from by first | exact hi80_1 | exact dkR_go e_52 e_53 (by omega) hi123_5) (show cc (t.2.2.1 1) ((t.1 0 2).toInt).toNat 0 0 = ((t_36.1 0 83).toInt : Int).toNat + cc (t.2.2.1 1) ((t.1 0 2).toInt).toNat (pS (t_36.2.2.1 37) (t_36.1 0 77).toInt ((t.1 0 2).toInt).toNat (r_37.toInt : Int).toNat) 0 from by first | exact jc_b hi80_2 | exact jc_go e_52 (by omega) (jP1 hi123_6 hi123_5 (by omega) (fun z => absurd (hj.mpr z) (by omega)) (by omega) (by assumption)) | exact jc_go e_52 (by omega) (jP6 (jPd hi123_6 hi123_5 (by omega) (hj.mp (by omega)) hn1 (by omega) (hw1.mp (by omega)) (by assumption)) hi123_5 hn2 (by omega) (hw2.mp (by omega)) (by omega) (by assumption)) | exact jc_go e_52 (by omega) (jP4 (jPd hi123_6 hi123_5 (by omega) (hj.mp (by omega)) hn1 (by omega) (hw1.mp (by omega)) (by assumption)) hi123_5 hn2 (by omega) (fun z => by first | (exfalso; omega) | (have hz := hs4 (by omega); rw [hgl _ (by omega) (by omega)] at hz; exact hz.elim (fun a => absurd (hw2.mpr a) (by omega)) id)) (by omega)) | exact jc_go e_52 (by omega) (jP2 hi123_6 hi123_5 (by omega) (hj.mp (by omega)) hn1 (by omega) (fun z => by first | (exfalso; omega) | (have hz := hs2 (by omega); rw [hgl _ (by omega) (by omega)] at hz; exact hz.elim (fun a => absurd (hw1.mpr a) (by omega)) id)) (by omega)) | (exfalso; omega)) (show ∀ i : Nat, i < ((t.1 0 2).toInt).toNat → (t_36.2.2.1 36) i = (t.2.2.1 1) i from by first | exact fun i hi => hi80_3 i (by omega) | (rw [e_51]; exact hi123_7)) (show 0 ≤ (t_36.1 0 83).toInt from by omega) (show (1300 - r_37.toInt) < (fuel_123 : Int) from by omega) hP hD hS (lv_sub hl [0, 1] rfl)
            · replace c_57 : r_37.toInt < r_37.toInt := i_nle c_57
              refine lv_iload_n C.1 C.2.1 dX12_jobs_195 rfl (lv_at hl 3 rfl) ?_
              refine lv_aload_n C.1 C.2.1 dX12_jobs_196 rfl (lv_at hl 0 rfl) ?_
              refine k_get (v := .int (t_36.1 0 77)) C hP 0 rfl rfl inlX12 77 (by decide) m_78_14 rfl dX12_jobs_197 ?_
              refine lv_icmp_ge (tgt := 218) C.1 C.2.1 dX12_jobs_200 (by decide) (fun c_58 => ?_) (fun c_58 => ?_)
              · replace c_58 : (t_36.1 0 77).toInt ≤ r_37.toInt := i_le c_58
                refine lv_iconst (v := 0) C.1 C.2.1 dX12_jobs_218 (by decide) ?_
                refine lv_istore (lv' := [(4, .int 0), (0, .ref (ad 0)), (1, .int w123_1), (2, .int r_37), (3, .int r_37)]) C.1 C.2.1 dX12_jobs_219 hl (by decide) rfl (fun ls hl => ?_)
                have hl : lv_has ls 5 [(0, .ref (ad 0)), (1, .int w123_1), (2, .int r_37), (3, .int r_37), (4, .int 0)] := lv_sub hl [1, 2, 3, 4, 0] rfl
                refine lv_iload C.1 C.2.1 dX12_jobs_221 (lv_at hl 4 rfl) ?_
                refine lv_if_eq (tgt := 233) C.1 C.2.1 dX12_jobs_223 (by decide) (fun _ => ?_) (fun h => absurd (by decide) h)
                refine lv_iload C.1 C.2.1 dX12_jobs_233 (lv_at hl 4 rfl) ?_
                refine lv_if_eq (tgt := 244) C.1 C.2.1 dX12_jobs_235 (by decide) (fun _ => ?_) (fun h => absurd (by decide) h)
                refine lv_iload_n C.1 C.2.1 dX12_jobs_244 rfl (lv_at hl 3 rfl) ?_
                refine lv_istore_n (lv' := [(1, .int r_37), (0, .ref (ad 0)), (2, .int r_37), (3, .int r_37), (4, .int 0)]) C.1 C.2.1 dX12_jobs_245 rfl hl (by decide) rfl (fun ls hl => ?_)
                have hl : lv_has ls 5 [(0, .ref (ad 0)), (1, .int r_37), (2, .int r_37), (3, .int r_37), (4, .int 0)] := lv_sub hl [1, 0, 2, 3, 4] rfl
                refine lv_goto (tgt := 123) C.1 C.2.1 dX12_jobs_246 (by decide) ?_
                exact ih_123 t_36 r_37 _ _ _ hok hfr ⟨by omega, (i_rng _).2⟩ (show (0 : Int) ≤ ((t_36.1 0 0) : Int32).toInt ∧ ((t_36.1 0 0) : Int32).toInt ≤ 0 from ⟨by omega, by omega⟩) (show (0 : Int) ≤ ((t_36.1 0 2) : Int32).toInt ∧ ((t_36.1 0 2) : Int32).toInt ≤ 0 from ⟨by omega, by omega⟩) (show lnS (t_36.1 0 77).toInt (t_36.2.2.1 37) (t_36.2.2.1 38) from by first | exact hi80_0 | exact lnS_cg hn0 (by omega) e_52 e_53) (show 0 ≤ r_37.toInt from by omega) (show r_37.toInt ≤ (t_36.1 0 77).toInt from by omega) (show 3 * (t_36.1 0 83).toInt ≤ r_37.toInt from by omega) (show (t_36.1 0 2).toInt = 0 from by omega) (show dkR (t.2.2.1 1) (t_36.2.2.1 37) (t_36.2.2.1 38) (t_36.1 0 77).toInt ((t.1 0 2).toInt).toNat from by first | exact hi80_1 | exact dkR_go e_52 e_53 (by omega) hi123_5) (show cc (t.2.2.1 1) ((t.1 0 2).toInt).toNat 0 0 = ((t_36.1 0 83).toInt : Int).toNat + cc (t.2.2.1 1) ((t.1 0 2).toInt).toNat (pS (t_36.2.2.1 37) (t_36.1 0 77).toInt ((t.1 0 2).toInt).toNat (r_37.toInt : Int).toNat) 0 from by first | exact jc_b hi80_2 | exact jc_go e_52 (by omega) (jP1 hi123_6 hi123_5 (by omega) (fun z => absurd (hj.mpr z) (by omega)) (by omega) (by assumption)) | exact jc_go e_52 (by omega) (jP6 (jPd hi123_6 hi123_5 (by omega) (hj.mp (by omega)) hn1 (by omega) (hw1.mp (by omega)) (by assumption)) hi123_5 hn2 (by omega) (hw2.mp (by omega)) (by omega) (by assumption)) | exact jc_go e_52 (by omega) (jP4 (jPd hi123_6 hi123_5 (by omega) (hj.mp (by omega)) hn1 (by omega) (hw1.mp (by omega)) (by assumption)) hi123_5 hn2 (by omega) (fun z => by first | (exfalso; omega) | (have hz := hs4 (by omega); rw [hgl _ (by omega) (by omega)] at hz; exact hz.elim (fun a => absurd (hw2.mpr a) (by omega)) id)) (by omega)) | exact jc_go e_52 (by omega) (jP2 hi123_6 hi123_5 (by omega) (hj.mp (by omega)) hn1 (by omega) (fun z => by first | (exfalso; omega) | (have hz := hs2 (by omega); rw [hgl _ (by omega) (by omega)] at hz; exact hz.elim (fun a => absurd (hw1.mpr a) (by omega)) id)) (by omega)) | (exfalso; omega)) (show ∀ i : Nat, i < ((t.1 0 2).toInt).toNat → (t_36.2.2.1 36) i = (t.2.2.1 1) i from by first | exact fun i hi => hi80_3 i (by omega) | (rw [e_51]; exact hi123_7)) (show 0 ≤ (t_36.1 0 83).toInt from by omega) (show (1300 - r_37.toInt) < (fuel_123 : Int) from by omega) hP hD hS (lv_sub hl [0, 1] rfl)
              · replace c_58 : r_37.toInt < (t_36.1 0 77).toInt := i_nle c_58
                refine lv_aload_n C.1 C.2.1 dX12_jobs_203 rfl (lv_at hl 0 rfl) ?_
                refine lv_iload_n C.1 C.2.1 dX12_jobs_204 rfl (lv_at hl 3 rfl) ?_
                refine va_ldcwS C.1 C.2.1 C.2.2.2.1 (hE.2 32 (by decide)) dX12_jobs_205 ?_
                refine g_Vi (As := [.int r_37, .ref (Z 32)]) (rest := []) C hP hD hS hA (U_X12_isWord l D K Z Y ad t_36 hok (r_37) (show (0 : Int) ≤ (r_37 : Int32).toInt ∧ (r_37 : Int32).toInt ≤ 1280 from ⟨by omega, by omega⟩) (32) (show sS 32 from ⟨by decide, by decide, by decide⟩)) hE hZ (uwV m_79_1 m_79_2 m_79_3 m_1_5 m_79_4) (hdV 2 (by decide +kernel) rfl) ⟨Nat.le_of_ble_eq_true rfl, Nat.le_of_ble_eq_true rfl⟩ rfl rfl (ci := 11) (q0 := 0) rfl rfl rfl hl.1 (Nat.le_of_ble_eq_true rfl) dX12_jobs_208 ⟨Nat.le_of_ble_eq_true rfl, Nat.le_of_ble_eq_true rfl⟩ (fun r_60 t_59 H locs hw hP hD hS => ?_)
                obtain ⟨h_62, h_63, p_64⟩ := hw
                replace p_64 : r_60.toInt = 1 ↔ wBl (gD t_36 r_37) 0 32 := p_64
                have hw2 := p_64
                try rw [hq3, hgl _ (by omega) (by omega)] at hw2
                refine lv_if_eq (tgt := 218) C.1 C.2.1 dX12_jobs_211 (by decide) (fun c_65 => ?_) (fun c_65 => ?_)
                · replace c_65 : r_60.toInt = 0 := i_eq c_65
                  refine lv_iconst (v := 0) C.1 C.2.1 dX12_jobs_218 (by decide) ?_
                  refine lv_istore (lv' := [(4, .int 0), (0, .ref (ad 0)), (1, .int w123_1), (2, .int r_37), (3, .int r_37)]) C.1 C.2.1 dX12_jobs_219 hl (by decide) rfl (fun ls hl => ?_)
                  have hl : lv_has ls 5 [(0, .ref (ad 0)), (1, .int w123_1), (2, .int r_37), (3, .int r_37), (4, .int 0)] := lv_sub hl [1, 2, 3, 4, 0] rfl
                  refine lv_iload C.1 C.2.1 dX12_jobs_221 (lv_at hl 4 rfl) ?_
                  refine lv_if_eq (tgt := 233) C.1 C.2.1 dX12_jobs_223 (by decide) (fun _ => ?_) (fun h => absurd (by decide) h)
                  refine lv_iload C.1 C.2.1 dX12_jobs_233 (lv_at hl 4 rfl) ?_
                  refine lv_if_eq (tgt := 244) C.1 C.2.1 dX12_jobs_235 (by decide) (fun _ => ?_) (fun h => absurd (by decide) h)
                  refine lv_iload_n C.1 C.2.1 dX12_jobs_244 rfl (lv_at hl 3 rfl) ?_
                  refine lv_istore_n (lv' := [(1, .int r_37), (0, .ref (ad 0)), (2, .int r_37), (3, .int r_37), (4, .int 0)]) C.1 C.2.1 dX12_jobs_245 rfl hl (by decide) rfl (fun ls hl => ?_)
                  have hl : lv_has ls 5 [(0, .ref (ad 0)), (1, .int r_37), (2, .int r_37), (3, .int r_37), (4, .int 0)] := lv_sub hl [1, 0, 2, 3, 4] rfl
                  refine lv_goto (tgt := 123) C.1 C.2.1 dX12_jobs_246 (by decide) ?_
                  exact ih_123 t_36 r_37 _ _ _ hok hfr ⟨by omega, (i_rng _).2⟩ (show (0 : Int) ≤ ((t_36.1 0 0) : Int32).toInt ∧ ((t_36.1 0 0) : Int32).toInt ≤ 0 from ⟨by omega, by omega⟩) (show (0 : Int) ≤ ((t_36.1 0 2) : Int32).toInt ∧ ((t_36.1 0 2) : Int32).toInt ≤ 0 from ⟨by omega, by omega⟩) (show lnS (t_36.1 0 77).toInt (t_36.2.2.1 37) (t_36.2.2.1 38) from by first | exact hi80_0 | exact lnS_cg hn0 (by omega) e_52 e_53) (show 0 ≤ r_37.toInt from by omega) (show r_37.toInt ≤ (t_36.1 0 77).toInt from by omega) (show 3 * (t_36.1 0 83).toInt ≤ r_37.toInt from by omega) (show (t_36.1 0 2).toInt = 0 from by omega) (show dkR (t.2.2.1 1) (t_36.2.2.1 37) (t_36.2.2.1 38) (t_36.1 0 77).toInt ((t.1 0 2).toInt).toNat from by first | exact hi80_1 | exact dkR_go e_52 e_53 (by omega) hi123_5) (show cc (t.2.2.1 1) ((t.1 0 2).toInt).toNat 0 0 = ((t_36.1 0 83).toInt : Int).toNat + cc (t.2.2.1 1) ((t.1 0 2).toInt).toNat (pS (t_36.2.2.1 37) (t_36.1 0 77).toInt ((t.1 0 2).toInt).toNat (r_37.toInt : Int).toNat) 0 from by first | exact jc_b hi80_2 | exact jc_go e_52 (by omega) (jP1 hi123_6 hi123_5 (by omega) (fun z => absurd (hj.mpr z) (by omega)) (by omega) (by assumption)) | exact jc_go e_52 (by omega) (jP6 (jPd hi123_6 hi123_5 (by omega) (hj.mp (by omega)) hn1 (by omega) (hw1.mp (by omega)) (by assumption)) hi123_5 hn2 (by omega) (hw2.mp (by omega)) (by omega) (by assumption)) | exact jc_go e_52 (by omega) (jP4 (jPd hi123_6 hi123_5 (by omega) (hj.mp (by omega)) hn1 (by omega) (hw1.mp (by omega)) (by assumption)) hi123_5 hn2 (by omega) (fun z => by first | (exfalso; omega) | (have hz := hs4 (by omega); rw [hgl _ (by omega) (by omega)] at hz; exact hz.elim (fun a => absurd (hw2.mpr a) (by omega)) id)) (by omega)) | exact jc_go e_52 (by omega) (jP2 hi123_6 hi123_5 (by omega) (hj.mp (by omega)) hn1 (by omega) (fun z => by first | (exfalso; omega) | (have hz := hs2 (by omega); rw [hgl _ (by omega) (by omega)] at hz; exact hz.elim (fun a => absurd (hw1.mpr a) (by omega)) id)) (by omega)) | (exfalso; omega)) (show ∀ i : Nat, i < ((t.1 0 2).toInt).toNat → (t_36.2.2.1 36) i = (t.2.2.1 1) i from by first | exact fun i hi => hi80_3 i (by omega) | (rw [e_51]; exact hi123_7)) (show 0 ≤ (t_36.1 0 83).toInt from by omega) (show (1300 - r_37.toInt) < (fuel_123 : Int) from by omega) hP hD hS (lv_sub hl [0, 1] rfl)
                · replace c_65 : ¬ r_60.toInt = 0 := i_ne c_65
                  refine lv_iconst (v := 1) C.1 C.2.1 dX12_jobs_214 (by decide) ?_
                  refine lv_goto (tgt := 219) C.1 C.2.1 dX12_jobs_215 (by decide) ?_
                  refine lv_istore (lv' := [(4, .int 1), (0, .ref (ad 0)), (1, .int w123_1), (2, .int r_37), (3, .int r_37)]) C.1 C.2.1 dX12_jobs_219 hl (by decide) rfl (fun ls hl => ?_)
                  have hl : lv_has ls 5 [(0, .ref (ad 0)), (1, .int w123_1), (2, .int r_37), (3, .int r_37), (4, .int 1)] := lv_sub hl [1, 2, 3, 4, 0] rfl
                  refine lv_iload C.1 C.2.1 dX12_jobs_221 (lv_at hl 4 rfl) ?_
                  refine lv_if_eq (tgt := 233) C.1 C.2.1 dX12_jobs_223 (by decide) (fun h => absurd h (by decide)) (fun _ => ?_)
                  refine lv_aload_n C.1 C.2.1 dX12_jobs_226 rfl (lv_at hl 0 rfl) ?_
                  refine lv_iload_n C.1 C.2.1 dX12_jobs_227 rfl (lv_at hl 1 rfl) ?_
                  refine lv_iload_n C.1 C.2.1 dX12_jobs_228 rfl (lv_at hl 2 rfl) ?_
                  refine lv_iload_n C.1 C.2.1 dX12_jobs_229 rfl (lv_at hl 3 rfl) ?_
                  refine g_Vv (As := [.int w123_1, .int r_37, .int r_37]) (rest := []) C hP hD hS hA (T_X12_doJob l D K Z Y ad t_36 hok (w123_1) (show (0 : Int) ≤ (w123_1 : Int32).toInt ∧ (w123_1 : Int32).toInt ≤ 1280 from ⟨by omega, by omega⟩) (r_37) (show (1 : Int) ≤ (r_37 : Int32).toInt ∧ (r_37 : Int32).toInt ≤ 1280 from ⟨by omega, by omega⟩) (r_37) (show (1 : Int) ≤ (r_37 : Int32).toInt ∧ (r_37 : Int32).toInt ≤ 1280 from ⟨by omega, by omega⟩) (show (t_36.1 0 78).toInt = 6 from by omega) (show (t_36.1 0 83).toInt ≤ 426 from by omega) (show w123_1.toInt < r_37.toInt from by omega) (show r_37.toInt < r_37.toInt from by omega) (show r_37.toInt < (t_36.1 0 77).toInt from by omega) (show lnS (t_36.1 0 77).toInt (t_36.2.2.1 37) (t_36.2.2.1 38) from lnS_cg hn0 (by omega) e_52 e_53)) hE hZ (uwV m_79_21 m_79_22 m_79_23 m_1_5 m_80_0) (hdV 3 (by decide +kernel) rfl) ⟨Nat.le_of_ble_eq_true rfl, Nat.le_of_ble_eq_true rfl⟩ rfl rfl (ci := 11) (q0 := 0) rfl rfl rfl hl.1 (Nat.le_of_ble_eq_true rfl) dX12_jobs_230 ⟨Nat.le_of_ble_eq_true rfl, Nat.le_of_ble_eq_true rfl⟩ (fun t_66 H locs hw hP hD hS => ?_)
                  obtain ⟨hok, f_68, p_69, p_70⟩ := hw
                  have hfr : frA [(0, 0), (0, 2), (0, 5), (0, 6), (0, 7), (0, 9), (0, 10), (0, 11), (0, 12), (0, 14), (0, 15), (0, 16), (0, 17), (0, 18), (0, 30), (0, 31), (0, 35), (0, 36), (0, 38), (0, 41), (0, 42), (0, 43), (0, 44), (0, 45), (0, 46), (0, 47), (0, 48), (0, 51), (0, 52), (0, 60), (0, 67), (0, 68), (0, 69), (0, 70), (0, 71), (0, 72), (0, 73), (0, 77), (0, 78), (0, 79), (0, 80), (0, 81), (0, 82), (0, 83), (0, 88), (0, 90), (0, 91), (0, 93)] [(0, 8), (0, 13)] [2, 3, 5, 7, 8, 9, 10, 11, 12, 13, 14, 15, 16, 17, 18, 19, 20, 21, 22, 24, 25, 26, 27, 28, 29, 30, 31, 32, 33, 34, 35, 36, 37, 38, 39, 40, 41, 42, 43, 44] [4, 6, 23] t t_66 := frA_tr hfr f_68 rfl
                  have h_71 : (t_66.1 0 0).toInt = (t_36.1 0 0).toInt := ti_eq (f_68.1 0 0 rfl)
                  have h_72 : (t_66.1 0 2).toInt = (t_36.1 0 2).toInt := ti_eq (f_68.1 0 2 rfl)
                  have h_73 : (t_66.1 0 77).toInt = (t_36.1 0 77).toInt := ti_eq (f_68.1 0 77 rfl)
                  have e_74 : t_66.2.2.1 1 = t.2.2.1 1 := (f_68.2.2.1 1 rfl).trans (e_50)
                  have e_75 : t_66.2.2.1 36 = t1.2.2.1 36 := (f_68.2.2.1 36 rfl).trans (e_51)
                  have e_76 : t_66.2.2.1 37 = t1.2.2.1 37 := (f_68.2.2.1 37 rfl).trans (e_52)
                  have e_77 : t_66.2.2.1 38 = t1.2.2.1 38 := (f_68.2.2.1 38 rfl).trans (e_53)
                  have h_78 : (0 : Int) ≤ (t_66.1 0 78).toInt ∧ (t_66.1 0 78).toInt ≤ 6 := hok.1 0 78
                  have h_79 : (0 : Int) ≤ (t_66.1 0 83).toInt ∧ (t_66.1 0 83).toInt ≤ 427 := hok.1 0 83
                  replace p_69 : (t_66.1 0 83).toInt = (t_36.1 0 83).toInt + 1 := p_69
                  replace p_70 : (t_66.1 0 78).toInt = 6 := p_70
                  refine lv_iload C.1 C.2.1 dX12_jobs_233 (lv_at hl 4 rfl) ?_
                  refine lv_if_eq (tgt := 244) C.1 C.2.1 dX12_jobs_235 (by decide) (fun h => absurd h (by decide)) (fun _ => ?_)
                  refine lv_iload_n C.1 C.2.1 dX12_jobs_238 rfl (lv_at hl 3 rfl) ?_
                  refine lv_iconst (v := 1) C.1 C.2.1 dX12_jobs_239 (by decide) ?_
                  obtain ⟨v_80, e_81⟩ : ∃ z, z = (r_37 : Int32) + (1 : Int32) := ⟨_, rfl⟩
                  have h_82 : v_80.toInt = r_37.toInt + 1 := by rw [e_81]; exact ti_iadd (by show (_ : Int) ≤ r_37.toInt + 1; omega) (by show r_37.toInt + 1 < (_ : Int); omega)
                  refine k_iadd (v := v_80) C e_81.symm dX12_jobs_240 ?_
                  refine lv_goto (tgt := 245) C.1 C.2.1 dX12_jobs_241 (by decide) ?_
                  refine lv_istore_n (lv' := [(1, .int v_80), (0, .ref (ad 0)), (2, .int r_37), (3, .int r_37), (4, .int 1)]) C.1 C.2.1 dX12_jobs_245 rfl hl (by decide) rfl (fun ls hl => ?_)
                  have hl : lv_has ls 5 [(0, .ref (ad 0)), (1, .int v_80), (2, .int r_37), (3, .int r_37), (4, .int 1)] := lv_sub hl [1, 0, 2, 3, 4] rfl
                  refine lv_goto (tgt := 123) C.1 C.2.1 dX12_jobs_246 (by decide) ?_
                  exact ih_123 t_66 v_80 _ _ _ hok hfr ⟨by omega, (i_rng _).2⟩ (show (0 : Int) ≤ ((t_66.1 0 0) : Int32).toInt ∧ ((t_66.1 0 0) : Int32).toInt ≤ 0 from ⟨by omega, by omega⟩) (show (0 : Int) ≤ ((t_66.1 0 2) : Int32).toInt ∧ ((t_66.1 0 2) : Int32).toInt ≤ 0 from ⟨by omega, by omega⟩) (show lnS (t_66.1 0 77).toInt (t_66.2.2.1 37) (t_66.2.2.1 38) from by first | exact hi80_0 | exact lnS_cg hn0 (by omega) e_76 e_77) (show 0 ≤ v_80.toInt from by omega) (show v_80.toInt ≤ (t_66.1 0 77).toInt from by omega) (show 3 * (t_66.1 0 83).toInt ≤ v_80.toInt from by omega) (show (t_66.1 0 2).toInt = 0 from by omega) (show dkR (t.2.2.1 1) (t_66.2.2.1 37) (t_66.2.2.1 38) (t_66.1 0 77).toInt ((t.1 0 2).toInt).toNat from by first | exact hi80_1 | exact dkR_go e_76 e_77 (by omega) hi123_5) (show cc (t.2.2.1 1) ((t.1 0 2).toInt).toNat 0 0 = ((t_66.1 0 83).toInt : Int).toNat + cc (t.2.2.1 1) ((t.1 0 2).toInt).toNat (pS (t_66.2.2.1 37) (t_66.1 0 77).toInt ((t.1 0 2).toInt).toNat (v_80.toInt : Int).toNat) 0 from by first | exact jc_b hi80_2 | exact jc_go e_76 (by omega) (jP1 hi123_6 hi123_5 (by omega) (fun z => absurd (hj.mpr z) (by omega)) (by omega) (by assumption)) | exact jc_go e_76 (by omega) (jP6 (jPd hi123_6 hi123_5 (by omega) (hj.mp (by omega)) hn1 (by omega) (hw1.mp (by omega)) (by assumption)) hi123_5 hn2 (by omega) (hw2.mp (by omega)) (by omega) (by assumption)) | exact jc_go e_76 (by omega) (jP4 (jPd hi123_6 hi123_5 (by omega) (hj.mp (by omega)) hn1 (by omega) (hw1.mp (by omega)) (by assumption)) hi123_5 hn2 (by omega) (fun z => by first | (exfalso; omega) | (have hz := hs4 (by omega); rw [hgl _ (by omega) (by omega)] at hz; exact hz.elim (fun a => absurd (hw2.mpr a) (by omega)) id)) (by omega)) | exact jc_go e_76 (by omega) (jP2 hi123_6 hi123_5 (by omega) (hj.mp (by omega)) hn1 (by omega) (fun z => by first | (exfalso; omega) | (have hz := hs2 (by omega); rw [hgl _ (by omega) (by omega)] at hz; exact hz.elim (fun a => absurd (hw1.mpr a) (by omega)) id)) (by omega)) | (exfalso; omega)) (show ∀ i : Nat, i < ((t.1 0 2).toInt).toNat → (t_66.2.2.1 36) i = (t.2.2.1 1) i from by first | exact fun i hi => hi80_3 i (by omega) | (rw [e_75]; exact hi123_7)) (show 0 ≤ (t_66.1 0 83).toInt from by omega) (show (1300 - v_80.toInt) < (fuel_123 : Int) from by omega) hP hD hS (lv_sub hl [0, 1] rfl)
          · replace c_56 : r_37.toInt < (t_36.1 0 77).toInt := i_nle c_56
            refine lv_aload_n C.1 C.2.1 dX12_jobs_164 rfl (lv_at hl 0 rfl) ?_
            refine lv_iload_n C.1 C.2.1 dX12_jobs_165 rfl (lv_at hl 2 rfl) ?_
            refine va_ldcwS C.1 C.2.1 C.2.2.2.1 (hE.2 31 (by decide)) dX12_jobs_166 ?_
            refine g_Vi (As := [.int r_37, .ref (Z 31)]) (rest := []) C hP hD hS hA (U_X12_isWord l D K Z Y ad t_36 hok (r_37) (show (0 : Int) ≤ (r_37 : Int32).toInt ∧ (r_37 : Int32).toInt ≤ 1280 from ⟨by omega, by omega⟩) (31) (show sS 31 from ⟨by decide, by decide, by decide⟩)) hE hZ (uwV m_79_1 m_79_2 m_79_3 m_1_5 m_79_4) (hdV 2 (by decide +kernel) rfl) ⟨Nat.le_of_ble_eq_true rfl, Nat.le_of_ble_eq_true rfl⟩ rfl rfl (ci := 11) (q0 := 0) rfl rfl rfl hl.1 (Nat.le_of_ble_eq_true rfl) dX12_jobs_169 ⟨Nat.le_of_ble_eq_true rfl, Nat.le_of_ble_eq_true rfl⟩ (fun r_84 t_83 H locs hw hP hD hS => ?_)
            obtain ⟨h_86, h_87, p_88⟩ := hw
            replace p_88 : r_84.toInt = 1 ↔ wBl (gD t_36 r_37) 0 31 := p_88
            have hw1 := p_88
            rw [hq2, hgl _ (by omega) (by omega)] at hw1
            refine lv_if_eq (tgt := 188) C.1 C.2.1 dX12_jobs_172 (by decide) (fun c_89 => ?_) (fun c_89 => ?_)
            · replace c_89 : r_84.toInt = 0 := i_eq c_89
              refine lv_iload_n C.1 C.2.1 dX12_jobs_188 rfl (lv_at hl 2 rfl) ?_
              refine lv_istore_n (lv' := [(3, .int r_37), (0, .ref (ad 0)), (1, .int w123_1), (2, .int r_37)]) C.1 C.2.1 dX12_jobs_189 rfl hl (by decide) rfl (fun ls hl => ?_)
              have hl : lv_has ls 5 [(0, .ref (ad 0)), (1, .int w123_1), (2, .int r_37), (3, .int r_37)] := lv_sub hl [1, 2, 3, 0] rfl
              refine lv_iload_n C.1 C.2.1 dX12_jobs_190 rfl (lv_at hl 3 rfl) ?_
              refine lv_iload_n C.1 C.2.1 dX12_jobs_191 rfl (lv_at hl 2 rfl) ?_
              refine lv_icmp_le (tgt := 218) C.1 C.2.1 dX12_jobs_192 (by decide) (fun c_90 => ?_) (fun c_90 => ?_)
              · replace c_90 : r_37.toInt ≤ r_37.toInt := i_le c_90
                refine lv_iconst (v := 0) C.1 C.2.1 dX12_jobs_218 (by decide) ?_
                refine lv_istore (lv' := [(4, .int 0), (0, .ref (ad 0)), (1, .int w123_1), (2, .int r_37), (3, .int r_37)]) C.1 C.2.1 dX12_jobs_219 hl (by decide) rfl (fun ls hl => ?_)
                have hl : lv_has ls 5 [(0, .ref (ad 0)), (1, .int w123_1), (2, .int r_37), (3, .int r_37), (4, .int 0)] := lv_sub hl [1, 2, 3, 4, 0] rfl
                refine lv_iload C.1 C.2.1 dX12_jobs_221 (lv_at hl 4 rfl) ?_
                refine lv_if_eq (tgt := 233) C.1 C.2.1 dX12_jobs_223 (by decide) (fun _ => ?_) (fun h => absurd (by decide) h)
                refine lv_iload C.1 C.2.1 dX12_jobs_233 (lv_at hl 4 rfl) ?_
                refine lv_if_eq (tgt := 244) C.1 C.2.1 dX12_jobs_235 (by decide) (fun _ => ?_) (fun h => absurd (by decide) h)
                refine lv_iload_n C.1 C.2.1 dX12_jobs_244 rfl (lv_at hl 3 rfl) ?_
                refine lv_istore_n (lv' := [(1, .int r_37), (0, .ref (ad 0)), (2, .int r_37), (3, .int r_37), (4, .int 0)]) C.1 C.2.1 dX12_jobs_245 rfl hl (by decide) rfl (fun ls hl => ?_)
                have hl : lv_has ls 5 [(0, .ref (ad 0)), (1, .int r_37), (2, .int r_37), (3, .int r_37), (4, .int 0)] := lv_sub hl [1, 0, 2, 3, 4] rfl
                refine lv_goto (tgt := 123) C.1 C.2.1 dX12_jobs_246 (by decide) ?_
                exact ih_123 t_36 r_37 _ _ _ hok hfr ⟨by omega, (i_rng _).2⟩ (show (0 : Int) ≤ ((t_36.1 0 0) : Int32).toInt ∧ ((t_36.1 0 0) : Int32).toInt ≤ 0 from ⟨by omega, by omega⟩) (show (0 : Int) ≤ ((t_36.1 0 2) : Int32).toInt ∧ ((t_36.1 0 2) : Int32).toInt ≤ 0 from ⟨by omega, by omega⟩) (show lnS (t_36.1 0 77).toInt (t_36.2.2.1 37) (t_36.2.2.1 38) from by first | exact hi80_0 | exact lnS_cg hn0 (by omega) e_52 e_53) (show 0 ≤ r_37.toInt from by omega) (show r_37.toInt ≤ (t_36.1 0 77).toInt from by omega) (show 3 * (t_36.1 0 83).toInt ≤ r_37.toInt from by omega) (show (t_36.1 0 2).toInt = 0 from by omega) (show dkR (t.2.2.1 1) (t_36.2.2.1 37) (t_36.2.2.1 38) (t_36.1 0 77).toInt ((t.1 0 2).toInt).toNat from by first | exact hi80_1 | exact dkR_go e_52 e_53 (by omega) hi123_5) (show cc (t.2.2.1 1) ((t.1 0 2).toInt).toNat 0 0 = ((t_36.1 0 83).toInt : Int).toNat + cc (t.2.2.1 1) ((t.1 0 2).toInt).toNat (pS (t_36.2.2.1 37) (t_36.1 0 77).toInt ((t.1 0 2).toInt).toNat (r_37.toInt : Int).toNat) 0 from by first | exact jc_b hi80_2 | exact jc_go e_52 (by omega) (jP1 hi123_6 hi123_5 (by omega) (fun z => absurd (hj.mpr z) (by omega)) (by omega) (by assumption)) | exact jc_go e_52 (by omega) (jP6 (jPd hi123_6 hi123_5 (by omega) (hj.mp (by omega)) hn1 (by omega) (hw1.mp (by omega)) (by assumption)) hi123_5 hn2 (by omega) (hw2.mp (by omega)) (by omega) (by assumption)) | exact jc_go e_52 (by omega) (jP4 (jPd hi123_6 hi123_5 (by omega) (hj.mp (by omega)) hn1 (by omega) (hw1.mp (by omega)) (by assumption)) hi123_5 hn2 (by omega) (fun z => by first | (exfalso; omega) | (have hz := hs4 (by omega); rw [hgl _ (by omega) (by omega)] at hz; exact hz.elim (fun a => absurd (hw2.mpr a) (by omega)) id)) (by omega)) | exact jc_go e_52 (by omega) (jP2 hi123_6 hi123_5 (by omega) (hj.mp (by omega)) hn1 (by omega) (fun z => by first | (exfalso; omega) | (have hz := hs2 (by omega); rw [hgl _ (by omega) (by omega)] at hz; exact hz.elim (fun a => absurd (hw1.mpr a) (by omega)) id)) (by omega)) | (exfalso; omega)) (show ∀ i : Nat, i < ((t.1 0 2).toInt).toNat → (t_36.2.2.1 36) i = (t.2.2.1 1) i from by first | exact fun i hi => hi80_3 i (by omega) | (rw [e_51]; exact hi123_7)) (show 0 ≤ (t_36.1 0 83).toInt from by omega) (show (1300 - r_37.toInt) < (fuel_123 : Int) from by omega) hP hD hS (lv_sub hl [0, 1] rfl)
              · replace c_90 : r_37.toInt < r_37.toInt := i_nle c_90
                refine lv_iload_n C.1 C.2.1 dX12_jobs_195 rfl (lv_at hl 3 rfl) ?_
                refine lv_aload_n C.1 C.2.1 dX12_jobs_196 rfl (lv_at hl 0 rfl) ?_
                refine k_get (v := .int (t_36.1 0 77)) C hP 0 rfl rfl inlX12 77 (by decide) m_78_14 rfl dX12_jobs_197 ?_
                refine lv_icmp_ge (tgt := 218) C.1 C.2.1 dX12_jobs_200 (by decide) (fun c_91 => ?_) (fun c_91 => ?_)
                · replace c_91 : (t_36.1 0 77).toInt ≤ r_37.toInt := i_le c_91
                  refine lv_iconst (v := 0) C.1 C.2.1 dX12_jobs_218 (by decide) ?_
                  refine lv_istore (lv' := [(4, .int 0), (0, .ref (ad 0)), (1, .int w123_1), (2, .int r_37), (3, .int r_37)]) C.1 C.2.1 dX12_jobs_219 hl (by decide) rfl (fun ls hl => ?_)
                  have hl : lv_has ls 5 [(0, .ref (ad 0)), (1, .int w123_1), (2, .int r_37), (3, .int r_37), (4, .int 0)] := lv_sub hl [1, 2, 3, 4, 0] rfl
                  refine lv_iload C.1 C.2.1 dX12_jobs_221 (lv_at hl 4 rfl) ?_
                  refine lv_if_eq (tgt := 233) C.1 C.2.1 dX12_jobs_223 (by decide) (fun _ => ?_) (fun h => absurd (by decide) h)
                  refine lv_iload C.1 C.2.1 dX12_jobs_233 (lv_at hl 4 rfl) ?_
                  refine lv_if_eq (tgt := 244) C.1 C.2.1 dX12_jobs_235 (by decide) (fun _ => ?_) (fun h => absurd (by decide) h)
                  refine lv_iload_n C.1 C.2.1 dX12_jobs_244 rfl (lv_at hl 3 rfl) ?_
                  refine lv_istore_n (lv' := [(1, .int r_37), (0, .ref (ad 0)), (2, .int r_37), (3, .int r_37), (4, .int 0)]) C.1 C.2.1 dX12_jobs_245 rfl hl (by decide) rfl (fun ls hl => ?_)
                  have hl : lv_has ls 5 [(0, .ref (ad 0)), (1, .int r_37), (2, .int r_37), (3, .int r_37), (4, .int 0)] := lv_sub hl [1, 0, 2, 3, 4] rfl
                  refine lv_goto (tgt := 123) C.1 C.2.1 dX12_jobs_246 (by decide) ?_
                  exact ih_123 t_36 r_37 _ _ _ hok hfr ⟨by omega, (i_rng _).2⟩ (show (0 : Int) ≤ ((t_36.1 0 0) : Int32).toInt ∧ ((t_36.1 0 0) : Int32).toInt ≤ 0 from ⟨by omega, by omega⟩) (show (0 : Int) ≤ ((t_36.1 0 2) : Int32).toInt ∧ ((t_36.1 0 2) : Int32).toInt ≤ 0 from ⟨by omega, by omega⟩) (show lnS (t_36.1 0 77).toInt (t_36.2.2.1 37) (t_36.2.2.1 38) from by first | exact hi80_0 | exact lnS_cg hn0 (by omega) e_52 e_53) (show 0 ≤ r_37.toInt from by omega) (show r_37.toInt ≤ (t_36.1 0 77).toInt from by omega) (show 3 * (t_36.1 0 83).toInt ≤ r_37.toInt from by omega) (show (t_36.1 0 2).toInt = 0 from by omega) (show dkR (t.2.2.1 1) (t_36.2.2.1 37) (t_36.2.2.1 38) (t_36.1 0 77).toInt ((t.1 0 2).toInt).toNat from by first | exact hi80_1 | exact dkR_go e_52 e_53 (by omega) hi123_5) (show cc (t.2.2.1 1) ((t.1 0 2).toInt).toNat 0 0 = ((t_36.1 0 83).toInt : Int).toNat + cc (t.2.2.1 1) ((t.1 0 2).toInt).toNat (pS (t_36.2.2.1 37) (t_36.1 0 77).toInt ((t.1 0 2).toInt).toNat (r_37.toInt : Int).toNat) 0 from by first | exact jc_b hi80_2 | exact jc_go e_52 (by omega) (jP1 hi123_6 hi123_5 (by omega) (fun z => absurd (hj.mpr z) (by omega)) (by omega) (by assumption)) | exact jc_go e_52 (by omega) (jP6 (jPd hi123_6 hi123_5 (by omega) (hj.mp (by omega)) hn1 (by omega) (hw1.mp (by omega)) (by assumption)) hi123_5 hn2 (by omega) (hw2.mp (by omega)) (by omega) (by assumption)) | exact jc_go e_52 (by omega) (jP4 (jPd hi123_6 hi123_5 (by omega) (hj.mp (by omega)) hn1 (by omega) (hw1.mp (by omega)) (by assumption)) hi123_5 hn2 (by omega) (fun z => by first | (exfalso; omega) | (have hz := hs4 (by omega); rw [hgl _ (by omega) (by omega)] at hz; exact hz.elim (fun a => absurd (hw2.mpr a) (by omega)) id)) (by omega)) | exact jc_go e_52 (by omega) (jP2 hi123_6 hi123_5 (by omega) (hj.mp (by omega)) hn1 (by omega) (fun z => by first | (exfalso; omega) | (have hz := hs2 (by omega); rw [hgl _ (by omega) (by omega)] at hz; exact hz.elim (fun a => absurd (hw1.mpr a) (by omega)) id)) (by omega)) | (exfalso; omega)) (show ∀ i : Nat, i < ((t.1 0 2).toInt).toNat → (t_36.2.2.1 36) i = (t.2.2.1 1) i from by first | exact fun i hi => hi80_3 i (by omega) | (rw [e_51]; exact hi123_7)) (show 0 ≤ (t_36.1 0 83).toInt from by omega) (show (1300 - r_37.toInt) < (fuel_123 : Int) from by omega) hP hD hS (lv_sub hl [0, 1] rfl)
                · replace c_91 : r_37.toInt < (t_36.1 0 77).toInt := i_nle c_91
                  refine lv_aload_n C.1 C.2.1 dX12_jobs_203 rfl (lv_at hl 0 rfl) ?_
                  refine lv_iload_n C.1 C.2.1 dX12_jobs_204 rfl (lv_at hl 3 rfl) ?_
                  refine va_ldcwS C.1 C.2.1 C.2.2.2.1 (hE.2 32 (by decide)) dX12_jobs_205 ?_
                  refine g_Vi (As := [.int r_37, .ref (Z 32)]) (rest := []) C hP hD hS hA (U_X12_isWord l D K Z Y ad t_36 hok (r_37) (show (0 : Int) ≤ (r_37 : Int32).toInt ∧ (r_37 : Int32).toInt ≤ 1280 from ⟨by omega, by omega⟩) (32) (show sS 32 from ⟨by decide, by decide, by decide⟩)) hE hZ (uwV m_79_1 m_79_2 m_79_3 m_1_5 m_79_4) (hdV 2 (by decide +kernel) rfl) ⟨Nat.le_of_ble_eq_true rfl, Nat.le_of_ble_eq_true rfl⟩ rfl rfl (ci := 11) (q0 := 0) rfl rfl rfl hl.1 (Nat.le_of_ble_eq_true rfl) dX12_jobs_208 ⟨Nat.le_of_ble_eq_true rfl, Nat.le_of_ble_eq_true rfl⟩ (fun r_93 t_92 H locs hw hP hD hS => ?_)
                  obtain ⟨h_95, h_96, p_97⟩ := hw
                  replace p_97 : r_93.toInt = 1 ↔ wBl (gD t_36 r_37) 0 32 := p_97
                  have hw2 := p_97
                  try rw [hq3, hgl _ (by omega) (by omega)] at hw2
                  refine lv_if_eq (tgt := 218) C.1 C.2.1 dX12_jobs_211 (by decide) (fun c_98 => ?_) (fun c_98 => ?_)
                  · replace c_98 : r_93.toInt = 0 := i_eq c_98
                    refine lv_iconst (v := 0) C.1 C.2.1 dX12_jobs_218 (by decide) ?_
                    refine lv_istore (lv' := [(4, .int 0), (0, .ref (ad 0)), (1, .int w123_1), (2, .int r_37), (3, .int r_37)]) C.1 C.2.1 dX12_jobs_219 hl (by decide) rfl (fun ls hl => ?_)
                    have hl : lv_has ls 5 [(0, .ref (ad 0)), (1, .int w123_1), (2, .int r_37), (3, .int r_37), (4, .int 0)] := lv_sub hl [1, 2, 3, 4, 0] rfl
                    refine lv_iload C.1 C.2.1 dX12_jobs_221 (lv_at hl 4 rfl) ?_
                    refine lv_if_eq (tgt := 233) C.1 C.2.1 dX12_jobs_223 (by decide) (fun _ => ?_) (fun h => absurd (by decide) h)
                    refine lv_iload C.1 C.2.1 dX12_jobs_233 (lv_at hl 4 rfl) ?_
                    refine lv_if_eq (tgt := 244) C.1 C.2.1 dX12_jobs_235 (by decide) (fun _ => ?_) (fun h => absurd (by decide) h)
                    refine lv_iload_n C.1 C.2.1 dX12_jobs_244 rfl (lv_at hl 3 rfl) ?_
                    refine lv_istore_n (lv' := [(1, .int r_37), (0, .ref (ad 0)), (2, .int r_37), (3, .int r_37), (4, .int 0)]) C.1 C.2.1 dX12_jobs_245 rfl hl (by decide) rfl (fun ls hl => ?_)
                    have hl : lv_has ls 5 [(0, .ref (ad 0)), (1, .int r_37), (2, .int r_37), (3, .int r_37), (4, .int 0)] := lv_sub hl [1, 0, 2, 3, 4] rfl
                    refine lv_goto (tgt := 123) C.1 C.2.1 dX12_jobs_246 (by decide) ?_
                    exact ih_123 t_36 r_37 _ _ _ hok hfr ⟨by omega, (i_rng _).2⟩ (show (0 : Int) ≤ ((t_36.1 0 0) : Int32).toInt ∧ ((t_36.1 0 0) : Int32).toInt ≤ 0 from ⟨by omega, by omega⟩) (show (0 : Int) ≤ ((t_36.1 0 2) : Int32).toInt ∧ ((t_36.1 0 2) : Int32).toInt ≤ 0 from ⟨by omega, by omega⟩) (show lnS (t_36.1 0 77).toInt (t_36.2.2.1 37) (t_36.2.2.1 38) from by first | exact hi80_0 | exact lnS_cg hn0 (by omega) e_52 e_53) (show 0 ≤ r_37.toInt from by omega) (show r_37.toInt ≤ (t_36.1 0 77).toInt from by omega) (show 3 * (t_36.1 0 83).toInt ≤ r_37.toInt from by omega) (show (t_36.1 0 2).toInt = 0 from by omega) (show dkR (t.2.2.1 1) (t_36.2.2.1 37) (t_36.2.2.1 38) (t_36.1 0 77).toInt ((t.1 0 2).toInt).toNat from by first | exact hi80_1 | exact dkR_go e_52 e_53 (by omega) hi123_5) (show cc (t.2.2.1 1) ((t.1 0 2).toInt).toNat 0 0 = ((t_36.1 0 83).toInt : Int).toNat + cc (t.2.2.1 1) ((t.1 0 2).toInt).toNat (pS (t_36.2.2.1 37) (t_36.1 0 77).toInt ((t.1 0 2).toInt).toNat (r_37.toInt : Int).toNat) 0 from by first | exact jc_b hi80_2 | exact jc_go e_52 (by omega) (jP1 hi123_6 hi123_5 (by omega) (fun z => absurd (hj.mpr z) (by omega)) (by omega) (by assumption)) | exact jc_go e_52 (by omega) (jP6 (jPd hi123_6 hi123_5 (by omega) (hj.mp (by omega)) hn1 (by omega) (hw1.mp (by omega)) (by assumption)) hi123_5 hn2 (by omega) (hw2.mp (by omega)) (by omega) (by assumption)) | exact jc_go e_52 (by omega) (jP4 (jPd hi123_6 hi123_5 (by omega) (hj.mp (by omega)) hn1 (by omega) (hw1.mp (by omega)) (by assumption)) hi123_5 hn2 (by omega) (fun z => by first | (exfalso; omega) | (have hz := hs4 (by omega); rw [hgl _ (by omega) (by omega)] at hz; exact hz.elim (fun a => absurd (hw2.mpr a) (by omega)) id)) (by omega)) | exact jc_go e_52 (by omega) (jP2 hi123_6 hi123_5 (by omega) (hj.mp (by omega)) hn1 (by omega) (fun z => by first | (exfalso; omega) | (have hz := hs2 (by omega); rw [hgl _ (by omega) (by omega)] at hz; exact hz.elim (fun a => absurd (hw1.mpr a) (by omega)) id)) (by omega)) | (exfalso; omega)) (show ∀ i : Nat, i < ((t.1 0 2).toInt).toNat → (t_36.2.2.1 36) i = (t.2.2.1 1) i from by first | exact fun i hi => hi80_3 i (by omega) | (rw [e_51]; exact hi123_7)) (show 0 ≤ (t_36.1 0 83).toInt from by omega) (show (1300 - r_37.toInt) < (fuel_123 : Int) from by omega) hP hD hS (lv_sub hl [0, 1] rfl)
                  · replace c_98 : ¬ r_93.toInt = 0 := i_ne c_98
                    refine lv_iconst (v := 1) C.1 C.2.1 dX12_jobs_214 (by decide) ?_
                    refine lv_goto (tgt := 219) C.1 C.2.1 dX12_jobs_215 (by decide) ?_
                    refine lv_istore (lv' := [(4, .int 1), (0, .ref (ad 0)), (1, .int w123_1), (2, .int r_37), (3, .int r_37)]) C.1 C.2.1 dX12_jobs_219 hl (by decide) rfl (fun ls hl => ?_)
                    have hl : lv_has ls 5 [(0, .ref (ad 0)), (1, .int w123_1), (2, .int r_37), (3, .int r_37), (4, .int 1)] := lv_sub hl [1, 2, 3, 4, 0] rfl
                    refine lv_iload C.1 C.2.1 dX12_jobs_221 (lv_at hl 4 rfl) ?_
                    refine lv_if_eq (tgt := 233) C.1 C.2.1 dX12_jobs_223 (by decide) (fun h => absurd h (by decide)) (fun _ => ?_)
                    refine lv_aload_n C.1 C.2.1 dX12_jobs_226 rfl (lv_at hl 0 rfl) ?_
                    refine lv_iload_n C.1 C.2.1 dX12_jobs_227 rfl (lv_at hl 1 rfl) ?_
                    refine lv_iload_n C.1 C.2.1 dX12_jobs_228 rfl (lv_at hl 2 rfl) ?_
                    refine lv_iload_n C.1 C.2.1 dX12_jobs_229 rfl (lv_at hl 3 rfl) ?_
                    refine g_Vv (As := [.int w123_1, .int r_37, .int r_37]) (rest := []) C hP hD hS hA (T_X12_doJob l D K Z Y ad t_36 hok (w123_1) (show (0 : Int) ≤ (w123_1 : Int32).toInt ∧ (w123_1 : Int32).toInt ≤ 1280 from ⟨by omega, by omega⟩) (r_37) (show (1 : Int) ≤ (r_37 : Int32).toInt ∧ (r_37 : Int32).toInt ≤ 1280 from ⟨by omega, by omega⟩) (r_37) (show (1 : Int) ≤ (r_37 : Int32).toInt ∧ (r_37 : Int32).toInt ≤ 1280 from ⟨by omega, by omega⟩) (show (t_36.1 0 78).toInt = 6 from by omega) (show (t_36.1 0 83).toInt ≤ 426 from by omega) (show w123_1.toInt < r_37.toInt from by omega) (show r_37.toInt < r_37.toInt from by omega) (show r_37.toInt < (t_36.1 0 77).toInt from by omega) (show lnS (t_36.1 0 77).toInt (t_36.2.2.1 37) (t_36.2.2.1 38) from lnS_cg hn0 (by omega) e_52 e_53)) hE hZ (uwV m_79_21 m_79_22 m_79_23 m_1_5 m_80_0) (hdV 3 (by decide +kernel) rfl) ⟨Nat.le_of_ble_eq_true rfl, Nat.le_of_ble_eq_true rfl⟩ rfl rfl (ci := 11) (q0 := 0) rfl rfl rfl hl.1 (Nat.le_of_ble_eq_true rfl) dX12_jobs_230 ⟨Nat.le_of_ble_eq_true rfl, Nat.le_of_ble_eq_true rfl⟩ (fun t_99 H locs hw hP hD hS => ?_)
                    obtain ⟨hok, f_101, p_102, p_103⟩ := hw
                    have hfr : frA [(0, 0), (0, 2), (0, 5), (0, 6), (0, 7), (0, 9), (0, 10), (0, 11), (0, 12), (0, 14), (0, 15), (0, 16), (0, 17), (0, 18), (0, 30), (0, 31), (0, 35), (0, 36), (0, 38), (0, 41), (0, 42), (0, 43), (0, 44), (0, 45), (0, 46), (0, 47), (0, 48), (0, 51), (0, 52), (0, 60), (0, 67), (0, 68), (0, 69), (0, 70), (0, 71), (0, 72), (0, 73), (0, 77), (0, 78), (0, 79), (0, 80), (0, 81), (0, 82), (0, 83), (0, 88), (0, 90), (0, 91), (0, 93)] [(0, 8), (0, 13)] [2, 3, 5, 7, 8, 9, 10, 11, 12, 13, 14, 15, 16, 17, 18, 19, 20, 21, 22, 24, 25, 26, 27, 28, 29, 30, 31, 32, 33, 34, 35, 36, 37, 38, 39, 40, 41, 42, 43, 44] [4, 6, 23] t t_99 := frA_tr hfr f_101 rfl
                    have h_104 : (t_99.1 0 0).toInt = (t_36.1 0 0).toInt := ti_eq (f_101.1 0 0 rfl)
                    have h_105 : (t_99.1 0 2).toInt = (t_36.1 0 2).toInt := ti_eq (f_101.1 0 2 rfl)
                    have h_106 : (t_99.1 0 77).toInt = (t_36.1 0 77).toInt := ti_eq (f_101.1 0 77 rfl)
                    have e_107 : t_99.2.2.1 1 = t.2.2.1 1 := (f_101.2.2.1 1 rfl).trans (e_50)
                    have e_108 : t_99.2.2.1 36 = t1.2.2.1 36 := (f_101.2.2.1 36 rfl).trans (e_51)
                    have e_109 : t_99.2.2.1 37 = t1.2.2.1 37 := (f_101.2.2.1 37 rfl).trans (e_52)
                    have e_110 : t_99.2.2.1 38 = t1.2.2.1 38 := (f_101.2.2.1 38 rfl).trans (e_53)
                    have h_111 : (0 : Int) ≤ (t_99.1 0 78).toInt ∧ (t_99.1 0 78).toInt ≤ 6 := hok.1 0 78
                    have h_112 : (0 : Int) ≤ (t_99.1 0 83).toInt ∧ (t_99.1 0 83).toInt ≤ 427 := hok.1 0 83
                    replace p_102 : (t_99.1 0 83).toInt = (t_36.1 0 83).toInt + 1 := p_102
                    replace p_103 : (t_99.1 0 78).toInt = 6 := p_103
                    refine lv_iload C.1 C.2.1 dX12_jobs_233 (lv_at hl 4 rfl) ?_
                    refine lv_if_eq (tgt := 244) C.1 C.2.1 dX12_jobs_235 (by decide) (fun h => absurd h (by decide)) (fun _ => ?_)
                    refine lv_iload_n C.1 C.2.1 dX12_jobs_238 rfl (lv_at hl 3 rfl) ?_
                    refine lv_iconst (v := 1) C.1 C.2.1 dX12_jobs_239 (by decide) ?_
                    obtain ⟨v_113, e_114⟩ : ∃ z, z = (r_37 : Int32) + (1 : Int32) := ⟨_, rfl⟩
                    have h_115 : v_113.toInt = r_37.toInt + 1 := by rw [e_114]; exact ti_iadd (by show (_ : Int) ≤ r_37.toInt + 1; omega) (by show r_37.toInt + 1 < (_ : Int); omega)
                    refine k_iadd (v := v_113) C e_114.symm dX12_jobs_240 ?_
                    refine lv_goto (tgt := 245) C.1 C.2.1 dX12_jobs_241 (by decide) ?_
                    refine lv_istore_n (lv' := [(1, .int v_113), (0, .ref (ad 0)), (2, .int r_37), (3, .int r_37), (4, .int 1)]) C.1 C.2.1 dX12_jobs_245 rfl hl (by decide) rfl (fun ls hl => ?_)
                    have hl : lv_has ls 5 [(0, .ref (ad 0)), (1, .int v_113), (2, .int r_37), (3, .int r_37), (4, .int 1)] := lv_sub hl [1, 0, 2, 3, 4] rfl
                    refine lv_goto (tgt := 123) C.1 C.2.1 dX12_jobs_246 (by decide) ?_
                    exact ih_123 t_99 v_113 _ _ _ hok hfr ⟨by omega, (i_rng _).2⟩ (show (0 : Int) ≤ ((t_99.1 0 0) : Int32).toInt ∧ ((t_99.1 0 0) : Int32).toInt ≤ 0 from ⟨by omega, by omega⟩) (show (0 : Int) ≤ ((t_99.1 0 2) : Int32).toInt ∧ ((t_99.1 0 2) : Int32).toInt ≤ 0 from ⟨by omega, by omega⟩) (show lnS (t_99.1 0 77).toInt (t_99.2.2.1 37) (t_99.2.2.1 38) from by first | exact hi80_0 | exact lnS_cg hn0 (by omega) e_109 e_110) (show 0 ≤ v_113.toInt from by omega) (show v_113.toInt ≤ (t_99.1 0 77).toInt from by omega) (show 3 * (t_99.1 0 83).toInt ≤ v_113.toInt from by omega) (show (t_99.1 0 2).toInt = 0 from by omega) (show dkR (t.2.2.1 1) (t_99.2.2.1 37) (t_99.2.2.1 38) (t_99.1 0 77).toInt ((t.1 0 2).toInt).toNat from by first | exact hi80_1 | exact dkR_go e_109 e_110 (by omega) hi123_5) (show cc (t.2.2.1 1) ((t.1 0 2).toInt).toNat 0 0 = ((t_99.1 0 83).toInt : Int).toNat + cc (t.2.2.1 1) ((t.1 0 2).toInt).toNat (pS (t_99.2.2.1 37) (t_99.1 0 77).toInt ((t.1 0 2).toInt).toNat (v_113.toInt : Int).toNat) 0 from by first | exact jc_b hi80_2 | exact jc_go e_109 (by omega) (jP1 hi123_6 hi123_5 (by omega) (fun z => absurd (hj.mpr z) (by omega)) (by omega) (by assumption)) | exact jc_go e_109 (by omega) (jP6 (jPd hi123_6 hi123_5 (by omega) (hj.mp (by omega)) hn1 (by omega) (hw1.mp (by omega)) (by assumption)) hi123_5 hn2 (by omega) (hw2.mp (by omega)) (by omega) (by assumption)) | exact jc_go e_109 (by omega) (jP4 (jPd hi123_6 hi123_5 (by omega) (hj.mp (by omega)) hn1 (by omega) (hw1.mp (by omega)) (by assumption)) hi123_5 hn2 (by omega) (fun z => by first | (exfalso; omega) | (have hz := hs4 (by omega); rw [hgl _ (by omega) (by omega)] at hz; exact hz.elim (fun a => absurd (hw2.mpr a) (by omega)) id)) (by omega)) | exact jc_go e_109 (by omega) (jP2 hi123_6 hi123_5 (by omega) (hj.mp (by omega)) hn1 (by omega) (fun z => by first | (exfalso; omega) | (have hz := hs2 (by omega); rw [hgl _ (by omega) (by omega)] at hz; exact hz.elim (fun a => absurd (hw1.mpr a) (by omega)) id)) (by omega)) | (exfalso; omega)) (show ∀ i : Nat, i < ((t.1 0 2).toInt).toNat → (t_99.2.2.1 36) i = (t.2.2.1 1) i from by first | exact fun i hi => hi80_3 i (by omega) | (rw [e_108]; exact hi123_7)) (show 0 ≤ (t_99.1 0 83).toInt from by omega) (show (1300 - v_113.toInt) < (fuel_123 : Int) from by omega) hP hD hS (lv_sub hl [0, 1] rfl)
            · replace c_89 : ¬ r_84.toInt = 0 := i_ne c_89
              refine lv_aload_n C.1 C.2.1 dX12_jobs_175 rfl (lv_at hl 0 rfl) ?_
              refine lv_iload_n C.1 C.2.1 dX12_jobs_176 rfl (lv_at hl 2 rfl) ?_
              refine lv_iconst (v := 1) C.1 C.2.1 dX12_jobs_177 (by decide) ?_
              obtain ⟨v_116, e_117⟩ : ∃ z, z = (r_37 : Int32) + (1 : Int32) := ⟨_, rfl⟩
              have h_118 : v_116.toInt = r_37.toInt + 1 := by rw [e_117]; exact ti_iadd (by show (_ : Int) ≤ r_37.toInt + 1; omega) (by show r_37.toInt + 1 < (_ : Int); omega)
              refine k_iadd (v := v_116) C e_117.symm dX12_jobs_178 ?_
              refine va_ldcwS C.1 C.2.1 C.2.2.2.1 (hE.2 32 (by decide)) dX12_jobs_179 ?_
              refine g_Vi (As := [.int v_116, .ref (Z 32)]) (rest := []) C hP hD hS hA (U_X12_search l D K Z Y ad t_36 hok (v_116) (show (1 : Int) ≤ (v_116 : Int32).toInt ∧ (v_116 : Int32).toInt ≤ 1281 from ⟨by omega, by omega⟩) (32) (show sS 32 from ⟨by decide, by decide, by decide⟩) (show v_116.toInt ≤ 1280 from by omega)) hE hZ (uwV m_79_17 m_79_18 m_79_19 m_1_5 m_79_20) (hdV 2 (by decide +kernel) rfl) ⟨Nat.le_of_ble_eq_true rfl, Nat.le_of_ble_eq_true rfl⟩ rfl rfl (ci := 11) (q0 := 0) rfl rfl rfl hl.1 (Nat.le_of_ble_eq_true rfl) dX12_jobs_182 ⟨Nat.le_of_ble_eq_true rfl, Nat.le_of_ble_eq_true rfl⟩ (fun r_120 t_119 H locs hw hP hD hS => ?_)
              obtain ⟨hok, f_121, h_122, h_123, p_124, p_125, p_126, p_127, p_128⟩ := hw
              have hfr : frA [(0, 0), (0, 2), (0, 5), (0, 6), (0, 7), (0, 9), (0, 10), (0, 11), (0, 12), (0, 14), (0, 15), (0, 16), (0, 17), (0, 18), (0, 30), (0, 31), (0, 35), (0, 36), (0, 38), (0, 41), (0, 42), (0, 43), (0, 44), (0, 45), (0, 46), (0, 47), (0, 48), (0, 51), (0, 52), (0, 60), (0, 67), (0, 68), (0, 69), (0, 70), (0, 71), (0, 72), (0, 73), (0, 77), (0, 78), (0, 79), (0, 80), (0, 81), (0, 82), (0, 83), (0, 88), (0, 90), (0, 91), (0, 93)] [(0, 8), (0, 13)] [2, 3, 5, 7, 8, 9, 10, 11, 12, 13, 14, 15, 16, 17, 18, 19, 20, 21, 22, 24, 25, 26, 27, 28, 29, 30, 31, 32, 33, 34, 35, 36, 37, 38, 39, 40, 41, 42, 43, 44] [4, 6, 23] t t_119 := frA_tr hfr f_121 rfl
              have h_129 : (t_119.1 0 0).toInt = (t_36.1 0 0).toInt := ti_eq (f_121.1 0 0 rfl)
              have h_130 : (t_119.1 0 2).toInt = (t_36.1 0 2).toInt := ti_eq (f_121.1 0 2 rfl)
              have h_131 : (t_119.1 0 77).toInt = (t_36.1 0 77).toInt := ti_eq (f_121.1 0 77 rfl)
              have h_132 : (t_119.1 0 83).toInt = (t_36.1 0 83).toInt := ti_eq (f_121.1 0 83 rfl)
              have e_133 : t_119.2.2.1 1 = t.2.2.1 1 := (f_121.2.2.1 1 rfl).trans (e_50)
              have e_134 : t_119.2.2.1 36 = t1.2.2.1 36 := (f_121.2.2.1 36 rfl).trans (e_51)
              have e_135 : t_119.2.2.1 37 = t1.2.2.1 37 := (f_121.2.2.1 37 rfl).trans (e_52)
              have e_136 : t_119.2.2.1 38 = t1.2.2.1 38 := (f_121.2.2.1 38 rfl).trans (e_53)
              have h_137 : (0 : Int) ≤ (t_119.1 0 78).toInt ∧ (t_119.1 0 78).toInt ≤ 6 := hok.1 0 78
              have h_138 : (0 : Int) ≤ (t_119.1 0 83).toInt ∧ (t_119.1 0 83).toInt ≤ 427 := hok.1 0 83
              replace p_124 : v_116.toInt ≤ r_120.toInt := p_124
              replace p_125 : r_120.toInt ≤ (t_36.1 0 77).toInt ∨ r_120.toInt = v_116.toInt := p_125
              replace p_126 : (t_36.1 0 78).toInt = 6 → (t_119.1 0 78).toInt = 6 := p_126
              replace p_127 : ∀ i : Int32, v_116.toInt ≤ i.toInt → i.toInt < r_120.toInt → ¬ wBl (gD t_36 i) 0 32 ∧ ¬ jOK (gD t_36 i) := p_127
              replace p_128 : r_120.toInt < (t_36.1 0 77).toInt → wBl (gD t_36 r_120) 0 32 ∨ jOK (gD t_36 r_120) := p_128
              have hs3 := p_127
              have hs4 := p_128
              rw [hq2] at hs3 hs4
              have hn2 := sr_nat hs3 hgl (by omega) (by omega)
              have hq3 : gD t_119 = gD t1 := gD_same e_134 e_135 e_136
              refine lv_goto (tgt := 189) C.1 C.2.1 dX12_jobs_185 (by decide) ?_
              refine lv_istore_n (lv' := [(3, .int r_120), (0, .ref (ad 0)), (1, .int w123_1), (2, .int r_37)]) C.1 C.2.1 dX12_jobs_189 rfl hl (by decide) rfl (fun ls hl => ?_)
              have hl : lv_has ls 5 [(0, .ref (ad 0)), (1, .int w123_1), (2, .int r_37), (3, .int r_120)] := lv_sub hl [1, 2, 3, 0] rfl
              refine lv_iload_n C.1 C.2.1 dX12_jobs_190 rfl (lv_at hl 3 rfl) ?_
              refine lv_iload_n C.1 C.2.1 dX12_jobs_191 rfl (lv_at hl 2 rfl) ?_
              refine lv_icmp_le (tgt := 218) C.1 C.2.1 dX12_jobs_192 (by decide) (fun c_139 => ?_) (fun c_139 => ?_)
              · replace c_139 : r_120.toInt ≤ r_37.toInt := i_le c_139
                refine lv_iconst (v := 0) C.1 C.2.1 dX12_jobs_218 (by decide) ?_
                refine lv_istore (lv' := [(4, .int 0), (0, .ref (ad 0)), (1, .int w123_1), (2, .int r_37), (3, .int r_120)]) C.1 C.2.1 dX12_jobs_219 hl (by decide) rfl (fun ls hl => ?_)
                have hl : lv_has ls 5 [(0, .ref (ad 0)), (1, .int w123_1), (2, .int r_37), (3, .int r_120), (4, .int 0)] := lv_sub hl [1, 2, 3, 4, 0] rfl
                refine lv_iload C.1 C.2.1 dX12_jobs_221 (lv_at hl 4 rfl) ?_
                refine lv_if_eq (tgt := 233) C.1 C.2.1 dX12_jobs_223 (by decide) (fun _ => ?_) (fun h => absurd (by decide) h)
                refine lv_iload C.1 C.2.1 dX12_jobs_233 (lv_at hl 4 rfl) ?_
                refine lv_if_eq (tgt := 244) C.1 C.2.1 dX12_jobs_235 (by decide) (fun _ => ?_) (fun h => absurd (by decide) h)
                refine lv_iload_n C.1 C.2.1 dX12_jobs_244 rfl (lv_at hl 3 rfl) ?_
                refine lv_istore_n (lv' := [(1, .int r_120), (0, .ref (ad 0)), (2, .int r_37), (3, .int r_120), (4, .int 0)]) C.1 C.2.1 dX12_jobs_245 rfl hl (by decide) rfl (fun ls hl => ?_)
                have hl : lv_has ls 5 [(0, .ref (ad 0)), (1, .int r_120), (2, .int r_37), (3, .int r_120), (4, .int 0)] := lv_sub hl [1, 0, 2, 3, 4] rfl
                refine lv_goto (tgt := 123) C.1 C.2.1 dX12_jobs_246 (by decide) ?_
                exact ih_123 t_119 r_120 _ _ _ hok hfr ⟨by omega, (i_rng _).2⟩ (show (0 : Int) ≤ ((t_119.1 0 0) : Int32).toInt ∧ ((t_119.1 0 0) : Int32).toInt ≤ 0 from ⟨by omega, by omega⟩) (show (0 : Int) ≤ ((t_119.1 0 2) : Int32).toInt ∧ ((t_119.1 0 2) : Int32).toInt ≤ 0 from ⟨by omega, by omega⟩) (show lnS (t_119.1 0 77).toInt (t_119.2.2.1 37) (t_119.2.2.1 38) from by first | exact hi80_0 | exact lnS_cg hn0 (by omega) e_135 e_136) (show 0 ≤ r_120.toInt from by omega) (show r_120.toInt ≤ (t_119.1 0 77).toInt from by omega) (show 3 * (t_119.1 0 83).toInt ≤ r_120.toInt from by omega) (show (t_119.1 0 2).toInt = 0 from by omega) (show dkR (t.2.2.1 1) (t_119.2.2.1 37) (t_119.2.2.1 38) (t_119.1 0 77).toInt ((t.1 0 2).toInt).toNat from by first | exact hi80_1 | exact dkR_go e_135 e_136 (by omega) hi123_5) (show cc (t.2.2.1 1) ((t.1 0 2).toInt).toNat 0 0 = ((t_119.1 0 83).toInt : Int).toNat + cc (t.2.2.1 1) ((t.1 0 2).toInt).toNat (pS (t_119.2.2.1 37) (t_119.1 0 77).toInt ((t.1 0 2).toInt).toNat (r_120.toInt : Int).toNat) 0 from by first | exact jc_b hi80_2 | exact jc_go e_135 (by omega) (jP1 hi123_6 hi123_5 (by omega) (fun z => absurd (hj.mpr z) (by omega)) (by omega) (by assumption)) | exact jc_go e_135 (by omega) (jP6 (jPd hi123_6 hi123_5 (by omega) (hj.mp (by omega)) hn1 (by omega) (hw1.mp (by omega)) (by assumption)) hi123_5 hn2 (by omega) (hw2.mp (by omega)) (by omega) (by assumption)) | exact jc_go e_135 (by omega) (jP4 (jPd hi123_6 hi123_5 (by omega) (hj.mp (by omega)) hn1 (by omega) (hw1.mp (by omega)) (by assumption)) hi123_5 hn2 (by omega) (fun z => by first | (exfalso; omega) | (have hz := hs4 (by omega); rw [hgl _ (by omega) (by omega)] at hz; exact hz.elim (fun a => absurd (hw2.mpr a) (by omega)) id)) (by omega)) | exact jc_go e_135 (by omega) (jP2 hi123_6 hi123_5 (by omega) (hj.mp (by omega)) hn1 (by omega) (fun z => by first | (exfalso; omega) | (have hz := hs2 (by omega); rw [hgl _ (by omega) (by omega)] at hz; exact hz.elim (fun a => absurd (hw1.mpr a) (by omega)) id)) (by omega)) | (exfalso; omega)) (show ∀ i : Nat, i < ((t.1 0 2).toInt).toNat → (t_119.2.2.1 36) i = (t.2.2.1 1) i from by first | exact fun i hi => hi80_3 i (by omega) | (rw [e_134]; exact hi123_7)) (show 0 ≤ (t_119.1 0 83).toInt from by omega) (show (1300 - r_120.toInt) < (fuel_123 : Int) from by omega) hP hD hS (lv_sub hl [0, 1] rfl)
              · replace c_139 : r_37.toInt < r_120.toInt := i_nle c_139
                refine lv_iload_n C.1 C.2.1 dX12_jobs_195 rfl (lv_at hl 3 rfl) ?_
                refine lv_aload_n C.1 C.2.1 dX12_jobs_196 rfl (lv_at hl 0 rfl) ?_
                refine k_get (v := .int (t_119.1 0 77)) C hP 0 rfl rfl inlX12 77 (by decide) m_78_14 rfl dX12_jobs_197 ?_
                refine lv_icmp_ge (tgt := 218) C.1 C.2.1 dX12_jobs_200 (by decide) (fun c_140 => ?_) (fun c_140 => ?_)
                · replace c_140 : (t_119.1 0 77).toInt ≤ r_120.toInt := i_le c_140
                  refine lv_iconst (v := 0) C.1 C.2.1 dX12_jobs_218 (by decide) ?_
                  refine lv_istore (lv' := [(4, .int 0), (0, .ref (ad 0)), (1, .int w123_1), (2, .int r_37), (3, .int r_120)]) C.1 C.2.1 dX12_jobs_219 hl (by decide) rfl (fun ls hl => ?_)
                  have hl : lv_has ls 5 [(0, .ref (ad 0)), (1, .int w123_1), (2, .int r_37), (3, .int r_120), (4, .int 0)] := lv_sub hl [1, 2, 3, 4, 0] rfl
                  refine lv_iload C.1 C.2.1 dX12_jobs_221 (lv_at hl 4 rfl) ?_
                  refine lv_if_eq (tgt := 233) C.1 C.2.1 dX12_jobs_223 (by decide) (fun _ => ?_) (fun h => absurd (by decide) h)
                  refine lv_iload C.1 C.2.1 dX12_jobs_233 (lv_at hl 4 rfl) ?_
                  refine lv_if_eq (tgt := 244) C.1 C.2.1 dX12_jobs_235 (by decide) (fun _ => ?_) (fun h => absurd (by decide) h)
                  refine lv_iload_n C.1 C.2.1 dX12_jobs_244 rfl (lv_at hl 3 rfl) ?_
                  refine lv_istore_n (lv' := [(1, .int r_120), (0, .ref (ad 0)), (2, .int r_37), (3, .int r_120), (4, .int 0)]) C.1 C.2.1 dX12_jobs_245 rfl hl (by decide) rfl (fun ls hl => ?_)
                  have hl : lv_has ls 5 [(0, .ref (ad 0)), (1, .int r_120), (2, .int r_37), (3, .int r_120), (4, .int 0)] := lv_sub hl [1, 0, 2, 3, 4] rfl
                  refine lv_goto (tgt := 123) C.1 C.2.1 dX12_jobs_246 (by decide) ?_
                  exact ih_123 t_119 r_120 _ _ _ hok hfr ⟨by omega, (i_rng _).2⟩ (show (0 : Int) ≤ ((t_119.1 0 0) : Int32).toInt ∧ ((t_119.1 0 0) : Int32).toInt ≤ 0 from ⟨by omega, by omega⟩) (show (0 : Int) ≤ ((t_119.1 0 2) : Int32).toInt ∧ ((t_119.1 0 2) : Int32).toInt ≤ 0 from ⟨by omega, by omega⟩) (show lnS (t_119.1 0 77).toInt (t_119.2.2.1 37) (t_119.2.2.1 38) from by first | exact hi80_0 | exact lnS_cg hn0 (by omega) e_135 e_136) (show 0 ≤ r_120.toInt from by omega) (show r_120.toInt ≤ (t_119.1 0 77).toInt from by omega) (show 3 * (t_119.1 0 83).toInt ≤ r_120.toInt from by omega) (show (t_119.1 0 2).toInt = 0 from by omega) (show dkR (t.2.2.1 1) (t_119.2.2.1 37) (t_119.2.2.1 38) (t_119.1 0 77).toInt ((t.1 0 2).toInt).toNat from by first | exact hi80_1 | exact dkR_go e_135 e_136 (by omega) hi123_5) (show cc (t.2.2.1 1) ((t.1 0 2).toInt).toNat 0 0 = ((t_119.1 0 83).toInt : Int).toNat + cc (t.2.2.1 1) ((t.1 0 2).toInt).toNat (pS (t_119.2.2.1 37) (t_119.1 0 77).toInt ((t.1 0 2).toInt).toNat (r_120.toInt : Int).toNat) 0 from by first | exact jc_b hi80_2 | exact jc_go e_135 (by omega) (jP1 hi123_6 hi123_5 (by omega) (fun z => absurd (hj.mpr z) (by omega)) (by omega) (by assumption)) | exact jc_go e_135 (by omega) (jP6 (jPd hi123_6 hi123_5 (by omega) (hj.mp (by omega)) hn1 (by omega) (hw1.mp (by omega)) (by assumption)) hi123_5 hn2 (by omega) (hw2.mp (by omega)) (by omega) (by assumption)) | exact jc_go e_135 (by omega) (jP4 (jPd hi123_6 hi123_5 (by omega) (hj.mp (by omega)) hn1 (by omega) (hw1.mp (by omega)) (by assumption)) hi123_5 hn2 (by omega) (fun z => by first | (exfalso; omega) | (have hz := hs4 (by omega); rw [hgl _ (by omega) (by omega)] at hz; exact hz.elim (fun a => absurd (hw2.mpr a) (by omega)) id)) (by omega)) | exact jc_go e_135 (by omega) (jP2 hi123_6 hi123_5 (by omega) (hj.mp (by omega)) hn1 (by omega) (fun z => by first | (exfalso; omega) | (have hz := hs2 (by omega); rw [hgl _ (by omega) (by omega)] at hz; exact hz.elim (fun a => absurd (hw1.mpr a) (by omega)) id)) (by omega)) | (exfalso; omega)) (show ∀ i : Nat, i < ((t.1 0 2).toInt).toNat → (t_119.2.2.1 36) i = (t.2.2.1 1) i from by first | exact fun i hi => hi80_3 i (by omega) | (rw [e_134]; exact hi123_7)) (show 0 ≤ (t_119.1 0 83).toInt from by omega) (show (1300 - r_120.toInt) < (fuel_123 : Int) from by omega) hP hD hS (lv_sub hl [0, 1] rfl)
                · replace c_140 : r_120.toInt < (t_119.1 0 77).toInt := i_nle c_140
                  refine lv_aload_n C.1 C.2.1 dX12_jobs_203 rfl (lv_at hl 0 rfl) ?_
                  refine lv_iload_n C.1 C.2.1 dX12_jobs_204 rfl (lv_at hl 3 rfl) ?_
                  refine va_ldcwS C.1 C.2.1 C.2.2.2.1 (hE.2 32 (by decide)) dX12_jobs_205 ?_
                  refine g_Vi (As := [.int r_120, .ref (Z 32)]) (rest := []) C hP hD hS hA (U_X12_isWord l D K Z Y ad t_119 hok (r_120) (show (0 : Int) ≤ (r_120 : Int32).toInt ∧ (r_120 : Int32).toInt ≤ 1280 from ⟨by omega, by omega⟩) (32) (show sS 32 from ⟨by decide, by decide, by decide⟩)) hE hZ (uwV m_79_1 m_79_2 m_79_3 m_1_5 m_79_4) (hdV 2 (by decide +kernel) rfl) ⟨Nat.le_of_ble_eq_true rfl, Nat.le_of_ble_eq_true rfl⟩ rfl rfl (ci := 11) (q0 := 0) rfl rfl rfl hl.1 (Nat.le_of_ble_eq_true rfl) dX12_jobs_208 ⟨Nat.le_of_ble_eq_true rfl, Nat.le_of_ble_eq_true rfl⟩ (fun r_142 t_141 H locs hw hP hD hS => ?_)
                  obtain ⟨h_144, h_145, p_146⟩ := hw
                  replace p_146 : r_142.toInt = 1 ↔ wBl (gD t_119 r_120) 0 32 := p_146
                  have hw2 := p_146
                  try rw [hq3, hgl _ (by omega) (by omega)] at hw2
                  refine lv_if_eq (tgt := 218) C.1 C.2.1 dX12_jobs_211 (by decide) (fun c_147 => ?_) (fun c_147 => ?_)
                  · replace c_147 : r_142.toInt = 0 := i_eq c_147
                    refine lv_iconst (v := 0) C.1 C.2.1 dX12_jobs_218 (by decide) ?_
                    refine lv_istore (lv' := [(4, .int 0), (0, .ref (ad 0)), (1, .int w123_1), (2, .int r_37), (3, .int r_120)]) C.1 C.2.1 dX12_jobs_219 hl (by decide) rfl (fun ls hl => ?_)
                    have hl : lv_has ls 5 [(0, .ref (ad 0)), (1, .int w123_1), (2, .int r_37), (3, .int r_120), (4, .int 0)] := lv_sub hl [1, 2, 3, 4, 0] rfl
                    refine lv_iload C.1 C.2.1 dX12_jobs_221 (lv_at hl 4 rfl) ?_
                    refine lv_if_eq (tgt := 233) C.1 C.2.1 dX12_jobs_223 (by decide) (fun _ => ?_) (fun h => absurd (by decide) h)
                    refine lv_iload C.1 C.2.1 dX12_jobs_233 (lv_at hl 4 rfl) ?_
                    refine lv_if_eq (tgt := 244) C.1 C.2.1 dX12_jobs_235 (by decide) (fun _ => ?_) (fun h => absurd (by decide) h)
                    refine lv_iload_n C.1 C.2.1 dX12_jobs_244 rfl (lv_at hl 3 rfl) ?_
                    refine lv_istore_n (lv' := [(1, .int r_120), (0, .ref (ad 0)), (2, .int r_37), (3, .int r_120), (4, .int 0)]) C.1 C.2.1 dX12_jobs_245 rfl hl (by decide) rfl (fun ls hl => ?_)
                    have hl : lv_has ls 5 [(0, .ref (ad 0)), (1, .int r_120), (2, .int r_37), (3, .int r_120), (4, .int 0)] := lv_sub hl [1, 0, 2, 3, 4] rfl
                    refine lv_goto (tgt := 123) C.1 C.2.1 dX12_jobs_246 (by decide) ?_
                    exact ih_123 t_119 r_120 _ _ _ hok hfr ⟨by omega, (i_rng _).2⟩ (show (0 : Int) ≤ ((t_119.1 0 0) : Int32).toInt ∧ ((t_119.1 0 0) : Int32).toInt ≤ 0 from ⟨by omega, by omega⟩) (show (0 : Int) ≤ ((t_119.1 0 2) : Int32).toInt ∧ ((t_119.1 0 2) : Int32).toInt ≤ 0 from ⟨by omega, by omega⟩) (show lnS (t_119.1 0 77).toInt (t_119.2.2.1 37) (t_119.2.2.1 38) from by first | exact hi80_0 | exact lnS_cg hn0 (by omega) e_135 e_136) (show 0 ≤ r_120.toInt from by omega) (show r_120.toInt ≤ (t_119.1 0 77).toInt from by omega) (show 3 * (t_119.1 0 83).toInt ≤ r_120.toInt from by omega) (show (t_119.1 0 2).toInt = 0 from by omega) (show dkR (t.2.2.1 1) (t_119.2.2.1 37) (t_119.2.2.1 38) (t_119.1 0 77).toInt ((t.1 0 2).toInt).toNat from by first | exact hi80_1 | exact dkR_go e_135 e_136 (by omega) hi123_5) (show cc (t.2.2.1 1) ((t.1 0 2).toInt).toNat 0 0 = ((t_119.1 0 83).toInt : Int).toNat + cc (t.2.2.1 1) ((t.1 0 2).toInt).toNat (pS (t_119.2.2.1 37) (t_119.1 0 77).toInt ((t.1 0 2).toInt).toNat (r_120.toInt : Int).toNat) 0 from by first | exact jc_b hi80_2 | exact jc_go e_135 (by omega) (jP1 hi123_6 hi123_5 (by omega) (fun z => absurd (hj.mpr z) (by omega)) (by omega) (by assumption)) | exact jc_go e_135 (by omega) (jP6 (jPd hi123_6 hi123_5 (by omega) (hj.mp (by omega)) hn1 (by omega) (hw1.mp (by omega)) (by assumption)) hi123_5 hn2 (by omega) (hw2.mp (by omega)) (by omega) (by assumption)) | exact jc_go e_135 (by omega) (jP4 (jPd hi123_6 hi123_5 (by omega) (hj.mp (by omega)) hn1 (by omega) (hw1.mp (by omega)) (by assumption)) hi123_5 hn2 (by omega) (fun z => by first | (exfalso; omega) | (have hz := hs4 (by omega); rw [hgl _ (by omega) (by omega)] at hz; exact hz.elim (fun a => absurd (hw2.mpr a) (by omega)) id)) (by omega)) | exact jc_go e_135 (by omega) (jP2 hi123_6 hi123_5 (by omega) (hj.mp (by omega)) hn1 (by omega) (fun z => by first | (exfalso; omega) | (have hz := hs2 (by omega); rw [hgl _ (by omega) (by omega)] at hz; exact hz.elim (fun a => absurd (hw1.mpr a) (by omega)) id)) (by omega)) | (exfalso; omega)) (show ∀ i : Nat, i < ((t.1 0 2).toInt).toNat → (t_119.2.2.1 36) i = (t.2.2.1 1) i from by first | exact fun i hi => hi80_3 i (by omega) | (rw [e_134]; exact hi123_7)) (show 0 ≤ (t_119.1 0 83).toInt from by omega) (show (1300 - r_120.toInt) < (fuel_123 : Int) from by omega) hP hD hS (lv_sub hl [0, 1] rfl)
                  · replace c_147 : ¬ r_142.toInt = 0 := i_ne c_147
                    refine lv_iconst (v := 1) C.1 C.2.1 dX12_jobs_214 (by decide) ?_
                    refine lv_goto (tgt := 219) C.1 C.2.1 dX12_jobs_215 (by decide) ?_
                    refine lv_istore (lv' := [(4, .int 1), (0, .ref (ad 0)), (1, .int w123_1), (2, .int r_37), (3, .int r_120)]) C.1 C.2.1 dX12_jobs_219 hl (by decide) rfl (fun ls hl => ?_)
                    have hl : lv_has ls 5 [(0, .ref (ad 0)), (1, .int w123_1), (2, .int r_37), (3, .int r_120), (4, .int 1)] := lv_sub hl [1, 2, 3, 4, 0] rfl
                    refine lv_iload C.1 C.2.1 dX12_jobs_221 (lv_at hl 4 rfl) ?_
                    refine lv_if_eq (tgt := 233) C.1 C.2.1 dX12_jobs_223 (by decide) (fun h => absurd h (by decide)) (fun _ => ?_)
                    refine lv_aload_n C.1 C.2.1 dX12_jobs_226 rfl (lv_at hl 0 rfl) ?_
                    refine lv_iload_n C.1 C.2.1 dX12_jobs_227 rfl (lv_at hl 1 rfl) ?_
                    refine lv_iload_n C.1 C.2.1 dX12_jobs_228 rfl (lv_at hl 2 rfl) ?_
                    refine lv_iload_n C.1 C.2.1 dX12_jobs_229 rfl (lv_at hl 3 rfl) ?_
                    refine g_Vv (As := [.int w123_1, .int r_37, .int r_120]) (rest := []) C hP hD hS hA (T_X12_doJob l D K Z Y ad t_119 hok (w123_1) (show (0 : Int) ≤ (w123_1 : Int32).toInt ∧ (w123_1 : Int32).toInt ≤ 1280 from ⟨by omega, by omega⟩) (r_37) (show (1 : Int) ≤ (r_37 : Int32).toInt ∧ (r_37 : Int32).toInt ≤ 1280 from ⟨by omega, by omega⟩) (r_120) (show (1 : Int) ≤ (r_120 : Int32).toInt ∧ (r_120 : Int32).toInt ≤ 1280 from ⟨by omega, by omega⟩) (show (t_119.1 0 78).toInt = 6 from by omega) (show (t_119.1 0 83).toInt ≤ 426 from by omega) (show w123_1.toInt < r_37.toInt from by omega) (show r_37.toInt < r_120.toInt from by omega) (show r_120.toInt < (t_119.1 0 77).toInt from by omega) (show lnS (t_119.1 0 77).toInt (t_119.2.2.1 37) (t_119.2.2.1 38) from lnS_cg hn0 (by omega) e_135 e_136)) hE hZ (uwV m_79_21 m_79_22 m_79_23 m_1_5 m_80_0) (hdV 3 (by decide +kernel) rfl) ⟨Nat.le_of_ble_eq_true rfl, Nat.le_of_ble_eq_true rfl⟩ rfl rfl (ci := 11) (q0 := 0) rfl rfl rfl hl.1 (Nat.le_of_ble_eq_true rfl) dX12_jobs_230 ⟨Nat.le_of_ble_eq_true rfl, Nat.le_of_ble_eq_true rfl⟩ (fun t_148 H locs hw hP hD hS => ?_)
                    obtain ⟨hok, f_150, p_151, p_152⟩ := hw
                    have hfr : frA [(0, 0), (0, 2), (0, 5), (0, 6), (0, 7), (0, 9), (0, 10), (0, 11), (0, 12), (0, 14), (0, 15), (0, 16), (0, 17), (0, 18), (0, 30), (0, 31), (0, 35), (0, 36), (0, 38), (0, 41), (0, 42), (0, 43), (0, 44), (0, 45), (0, 46), (0, 47), (0, 48), (0, 51), (0, 52), (0, 60), (0, 67), (0, 68), (0, 69), (0, 70), (0, 71), (0, 72), (0, 73), (0, 77), (0, 78), (0, 79), (0, 80), (0, 81), (0, 82), (0, 83), (0, 88), (0, 90), (0, 91), (0, 93)] [(0, 8), (0, 13)] [2, 3, 5, 7, 8, 9, 10, 11, 12, 13, 14, 15, 16, 17, 18, 19, 20, 21, 22, 24, 25, 26, 27, 28, 29, 30, 31, 32, 33, 34, 35, 36, 37, 38, 39, 40, 41, 42, 43, 44] [4, 6, 23] t t_148 := frA_tr hfr f_150 rfl
                    have h_153 : (t_148.1 0 0).toInt = (t_119.1 0 0).toInt := ti_eq (f_150.1 0 0 rfl)
                    have h_154 : (t_148.1 0 2).toInt = (t_119.1 0 2).toInt := ti_eq (f_150.1 0 2 rfl)
                    have h_155 : (t_148.1 0 77).toInt = (t_119.1 0 77).toInt := ti_eq (f_150.1 0 77 rfl)
                    have e_156 : t_148.2.2.1 1 = t.2.2.1 1 := (f_150.2.2.1 1 rfl).trans (e_133)
                    have e_157 : t_148.2.2.1 36 = t1.2.2.1 36 := (f_150.2.2.1 36 rfl).trans (e_134)
                    have e_158 : t_148.2.2.1 37 = t1.2.2.1 37 := (f_150.2.2.1 37 rfl).trans (e_135)
                    have e_159 : t_148.2.2.1 38 = t1.2.2.1 38 := (f_150.2.2.1 38 rfl).trans (e_136)
                    have h_160 : (0 : Int) ≤ (t_148.1 0 78).toInt ∧ (t_148.1 0 78).toInt ≤ 6 := hok.1 0 78
                    have h_161 : (0 : Int) ≤ (t_148.1 0 83).toInt ∧ (t_148.1 0 83).toInt ≤ 427 := hok.1 0 83
                    replace p_151 : (t_148.1 0 83).toInt = (t_119.1 0 83).toInt + 1 := p_151
                    replace p_152 : (t_148.1 0 78).toInt = 6 := p_152
                    refine lv_iload C.1 C.2.1 dX12_jobs_233 (lv_at hl 4 rfl) ?_
                    refine lv_if_eq (tgt := 244) C.1 C.2.1 dX12_jobs_235 (by decide) (fun h => absurd h (by decide)) (fun _ => ?_)
                    refine lv_iload_n C.1 C.2.1 dX12_jobs_238 rfl (lv_at hl 3 rfl) ?_
                    refine lv_iconst (v := 1) C.1 C.2.1 dX12_jobs_239 (by decide) ?_
                    obtain ⟨v_162, e_163⟩ : ∃ z, z = (r_120 : Int32) + (1 : Int32) := ⟨_, rfl⟩
                    have h_164 : v_162.toInt = r_120.toInt + 1 := by rw [e_163]; exact ti_iadd (by show (_ : Int) ≤ r_120.toInt + 1; omega) (by show r_120.toInt + 1 < (_ : Int); omega)
                    refine k_iadd (v := v_162) C e_163.symm dX12_jobs_240 ?_
                    refine lv_goto (tgt := 245) C.1 C.2.1 dX12_jobs_241 (by decide) ?_
                    refine lv_istore_n (lv' := [(1, .int v_162), (0, .ref (ad 0)), (2, .int r_37), (3, .int r_120), (4, .int 1)]) C.1 C.2.1 dX12_jobs_245 rfl hl (by decide) rfl (fun ls hl => ?_)
                    have hl : lv_has ls 5 [(0, .ref (ad 0)), (1, .int v_162), (2, .int r_37), (3, .int r_120), (4, .int 1)] := lv_sub hl [1, 0, 2, 3, 4] rfl
                    refine lv_goto (tgt := 123) C.1 C.2.1 dX12_jobs_246 (by decide) ?_
                    exact ih_123 t_148 v_162 _ _ _ hok hfr ⟨by omega, (i_rng _).2⟩ (show (0 : Int) ≤ ((t_148.1 0 0) : Int32).toInt ∧ ((t_148.1 0 0) : Int32).toInt ≤ 0 from ⟨by omega, by omega⟩) (show (0 : Int) ≤ ((t_148.1 0 2) : Int32).toInt ∧ ((t_148.1 0 2) : Int32).toInt ≤ 0 from ⟨by omega, by omega⟩) (show lnS (t_148.1 0 77).toInt (t_148.2.2.1 37) (t_148.2.2.1 38) from by first | exact hi80_0 | exact lnS_cg hn0 (by omega) e_158 e_159) (show 0 ≤ v_162.toInt from by omega) (show v_162.toInt ≤ (t_148.1 0 77).toInt from by omega) (show 3 * (t_148.1 0 83).toInt ≤ v_162.toInt from by omega) (show (t_148.1 0 2).toInt = 0 from by omega) (show dkR (t.2.2.1 1) (t_148.2.2.1 37) (t_148.2.2.1 38) (t_148.1 0 77).toInt ((t.1 0 2).toInt).toNat from by first | exact hi80_1 | exact dkR_go e_158 e_159 (by omega) hi123_5) (show cc (t.2.2.1 1) ((t.1 0 2).toInt).toNat 0 0 = ((t_148.1 0 83).toInt : Int).toNat + cc (t.2.2.1 1) ((t.1 0 2).toInt).toNat (pS (t_148.2.2.1 37) (t_148.1 0 77).toInt ((t.1 0 2).toInt).toNat (v_162.toInt : Int).toNat) 0 from by first | exact jc_b hi80_2 | exact jc_go e_158 (by omega) (jP1 hi123_6 hi123_5 (by omega) (fun z => absurd (hj.mpr z) (by omega)) (by omega) (by assumption)) | exact jc_go e_158 (by omega) (jP6 (jPd hi123_6 hi123_5 (by omega) (hj.mp (by omega)) hn1 (by omega) (hw1.mp (by omega)) (by assumption)) hi123_5 hn2 (by omega) (hw2.mp (by omega)) (by omega) (by assumption)) | exact jc_go e_158 (by omega) (jP4 (jPd hi123_6 hi123_5 (by omega) (hj.mp (by omega)) hn1 (by omega) (hw1.mp (by omega)) (by assumption)) hi123_5 hn2 (by omega) (fun z => by first | (exfalso; omega) | (have hz := hs4 (by omega); rw [hgl _ (by omega) (by omega)] at hz; exact hz.elim (fun a => absurd (hw2.mpr a) (by omega)) id)) (by omega)) | exact jc_go e_158 (by omega) (jP2 hi123_6 hi123_5 (by omega) (hj.mp (by omega)) hn1 (by omega) (fun z => by first | (exfalso; omega) | (have hz := hs2 (by omega); rw [hgl _ (by omega) (by omega)] at hz; exact hz.elim (fun a => absurd (hw1.mpr a) (by omega)) id)) (by omega)) | (exfalso; omega)) (show ∀ i : Nat, i < ((t.1 0 2).toInt).toNat → (t_148.2.2.1 36) i = (t.2.2.1 1) i from by first | exact fun i hi => hi80_3 i (by omega) | (rw [e_157]; exact hi123_7)) (show 0 ≤ (t_148.1 0 83).toInt from by omega) (show (1300 - v_162.toInt) < (fuel_123 : Int) from by omega) hP hD hS (lv_sub hl [0, 1] rfl)
        · replace c_32 : r_15.toInt = 0 := i_eq c_32
          obtain ⟨v_165, e_166⟩ : ∃ z, z = w123_1 + 1 := ⟨_, rfl⟩
          have h_167 : v_165.toInt = w123_1.toInt + 1 := by rw [e_166]; exact ti_iadd (by show (_ : Int) ≤ w123_1.toInt + 1; omega) (by show w123_1.toInt + 1 < (_ : Int); omega)
          refine lv_iinc (v := v_165) (lv' := [(1, .int v_165), (0, .ref (ad 0))]) C.1 C.2.1 dX12_jobs_139 hl (k := 1) rfl e_166.symm (by decide) rfl (fun ls hl => ?_)
          have hl : lv_has ls 5 [(0, .ref (ad 0)), (1, .int v_165)] := lv_sub hl [1, 0] rfl
          refine lv_goto (tgt := 123) C.1 C.2.1 dX12_jobs_142 (by decide) ?_
          exact ih_123 t_14 v_165 _ _ _ hok hfr ⟨by omega, (i_rng _).2⟩ (show (0 : Int) ≤ ((t_14.1 0 0) : Int32).toInt ∧ ((t_14.1 0 0) : Int32).toInt ≤ 0 from ⟨by omega, by omega⟩) (show (0 : Int) ≤ ((t_14.1 0 2) : Int32).toInt ∧ ((t_14.1 0 2) : Int32).toInt ≤ 0 from ⟨by omega, by omega⟩) (show lnS (t_14.1 0 77).toInt (t_14.2.2.1 37) (t_14.2.2.1 38) from by first | exact hi80_0 | exact lnS_cg hn0 (by omega) e_28 e_29) (show 0 ≤ v_165.toInt from by omega) (show v_165.toInt ≤ (t_14.1 0 77).toInt from by omega) (show 3 * (t_14.1 0 83).toInt ≤ v_165.toInt from by omega) (show (t_14.1 0 2).toInt = 0 from by omega) (show dkR (t.2.2.1 1) (t_14.2.2.1 37) (t_14.2.2.1 38) (t_14.1 0 77).toInt ((t.1 0 2).toInt).toNat from by first | exact hi80_1 | exact dkR_go e_28 e_29 (by omega) hi123_5) (show cc (t.2.2.1 1) ((t.1 0 2).toInt).toNat 0 0 = ((t_14.1 0 83).toInt : Int).toNat + cc (t.2.2.1 1) ((t.1 0 2).toInt).toNat (pS (t_14.2.2.1 37) (t_14.1 0 77).toInt ((t.1 0 2).toInt).toNat (v_165.toInt : Int).toNat) 0 from by first | exact jc_b hi80_2 | exact jc_go e_28 (by omega) (jP1 hi123_6 hi123_5 (by omega) (fun z => absurd (hj.mpr z) (by omega)) (by omega) (by assumption)) | exact jc_go e_28 (by omega) (jP6 (jPd hi123_6 hi123_5 (by omega) (hj.mp (by omega)) hn1 (by omega) (hw1.mp (by omega)) (by assumption)) hi123_5 hn2 (by omega) (hw2.mp (by omega)) (by omega) (by assumption)) | exact jc_go e_28 (by omega) (jP4 (jPd hi123_6 hi123_5 (by omega) (hj.mp (by omega)) hn1 (by omega) (hw1.mp (by omega)) (by assumption)) hi123_5 hn2 (by omega) (fun z => by first | (exfalso; omega) | (have hz := hs4 (by omega); rw [hgl _ (by omega) (by omega)] at hz; exact hz.elim (fun a => absurd (hw2.mpr a) (by omega)) id)) (by omega)) | exact jc_go e_28 (by omega) (jP2 hi123_6 hi123_5 (by omega) (hj.mp (by omega)) hn1 (by omega) (fun z => by first | (exfalso; omega) | (have hz := hs2 (by omega); rw [hgl _ (by omega) (by omega)] at hz; exact hz.elim (fun a => absurd (hw1.mpr a) (by omega)) id)) (by omega)) | (exfalso; omega)) (show ∀ i : Nat, i < ((t.1 0 2).toInt).toNat → (t_14.2.2.1 36) i = (t.2.2.1 1) i from by first | exact fun i hi => hi80_3 i (by omega) | (rw [e_27]; exact hi123_7)) (show 0 ≤ (t_14.1 0 83).toInt from by omega) (show (1300 - v_165.toInt) < (fuel_123 : Int) from by omega) hP hD hS (lv_sub hl [0, 1] rfl)
  have L_80 : ∀ (fuel_80 : Nat) (t1 : tSt) (w80_1 : Int32) (H : Heap) (locs : List Loc) (ls : Array Slot), okM t1 → frA [(0, 0), (0, 2), (0, 5), (0, 6), (0, 7), (0, 9), (0, 10), (0, 11), (0, 12), (0, 14), (0, 15), (0, 16), (0, 17), (0, 18), (0, 30), (0, 31), (0, 35), (0, 36), (0, 38), (0, 41), (0, 42), (0, 43), (0, 44), (0, 45), (0, 46), (0, 47), (0, 48), (0, 51), (0, 52), (0, 60), (0, 67), (0, 68), (0, 69), (0, 70), (0, 71), (0, 72), (0, 73), (0, 77), (0, 78), (0, 79), (0, 80), (0, 81), (0, 82), (0, 83), (0, 88), (0, 90), (0, 91), (0, 93)] [(0, 8), (0, 13)] [2, 3, 5, 7, 8, 9, 10, 11, 12, 13, 14, 15, 16, 17, 18, 19, 20, 21, 22, 24, 25, 26, 27, 28, 29, 30, 31, 32, 33, 34, 35, 36, 37, 38, 39, 40, 41, 42, 43, 44] [4, 6, 23] t t1 → (0 : Int) ≤ w80_1.toInt ∧ w80_1.toInt ≤ 3999 → (0 : Int) ≤ (t1.1 0 0).toInt ∧ (t1.1 0 0).toInt ≤ 0 → (lnS (t1.1 0 77).toInt (t1.2.2.1 37) (t1.2.2.1 38)) → (dkR (t.2.2.1 1) (t1.2.2.1 37) (t1.2.2.1 38) (t1.1 0 77).toInt ((t.1 0 2).toInt).toNat) → (cc (t.2.2.1 1) ((t.1 0 2).toInt).toNat 0 0 = cc (t.2.2.1 1) ((t.1 0 2).toInt).toNat (pS (t1.2.2.1 37) (t1.1 0 77).toInt ((t.1 0 2).toInt).toNat 0) 0) → (∀ i : Nat, (i : Int) < w80_1.toInt → (t1.2.2.1 36) i = (t.2.2.1 1) i) → ((t1.1 0 2).toInt = (t.1 0 2).toInt) → (0 ≤ w80_1.toInt) → (3999 : Int) - w80_1.toInt < (fuel_80 : Int) → va_P D vwCl (WM K ad t1) H → va_D A (WM K ad t1) → va_S A s.heap H locs → lv_has ls 5 [(0, .ref (ad 0)), (1, .int w80_1)] → W p l e (rmD 21 0 0) s m [.ref (ad 0)].toArray below meth c H locs 0 0 (MQ below (QI D K (fun (r : Int32) (u : tSt) => okM u ∧ frA [(0, 0), (0, 2), (0, 5), (0, 6), (0, 7), (0, 9), (0, 10), (0, 11), (0, 12), (0, 14), (0, 15), (0, 16), (0, 17), (0, 18), (0, 30), (0, 31), (0, 35), (0, 36), (0, 38), (0, 41), (0, 42), (0, 43), (0, 44), (0, 45), (0, 46), (0, 47), (0, 48), (0, 51), (0, 52), (0, 60), (0, 67), (0, 68), (0, 69), (0, 70), (0, 71), (0, 72), (0, 73), (0, 77), (0, 78), (0, 79), (0, 80), (0, 81), (0, 82), (0, 83), (0, 88), (0, 90), (0, 91), (0, 93)] [(0, 8), (0, 13)] [2, 3, 5, 7, 8, 9, 10, 11, 12, 13, 14, 15, 16, 17, 18, 19, 20, 21, 22, 24, 25, 26, 27, 28, 29, 30, 31, 32, 33, 34, 35, 36, 37, 38, 39, 40, 41, 42, 43, 44] [4, 6, 23] t u ∧ (0 : Int) ≤ r.toInt ∧ r.toInt ≤ 511 ∧ ((u.1 0 2).toInt = 0) ∧ (r.toInt = ((cc (t.2.2.1 1) ((t.1 0 2).toInt).toNat 0 0 : Nat) : Int))) (fun (u : tSt) => WM K ad u) A) [.ref (ad 0)].toArray s 0 0 A) (F0 m 80 ls []) := by
    intro fuel_80
    induction fuel_80 with
    | zero =>
      intro t1 w80_1 H locs ls hok hfr hw80_1 hf80_0 hi80_0 hi80_1 hi80_2 hi80_3 hi80_4 hi80_5 hm80_80 hP hD hS hl
      have e_168 : t1.2.2.1 1 = t.2.2.1 1 := hfr.2.2.1 1 rfl
      have h_169 : (0 : Int) ≤ (t1.1 0 2).toInt ∧ (t1.1 0 2).toInt ≤ 1280 := hok.1 0 2
      have h_170 : (0 : Int) ≤ (t1.1 0 77).toInt ∧ (t1.1 0 77).toInt ≤ 1280 := hok.1 0 77
      have h_171 : (0 : Int) ≤ (t1.1 0 78).toInt ∧ (t1.1 0 78).toInt ≤ 6 := hok.1 0 78
      have h_172 : (0 : Int) ≤ (t1.1 0 83).toInt ∧ (t1.1 0 83).toInt ≤ 427 := hok.1 0 83
      exact absurd hm80_80 (by omega)
    | succ fuel_80 ih_80 =>
      intro t1 w80_1 H locs ls hok hfr hw80_1 hf80_0 hi80_0 hi80_1 hi80_2 hi80_3 hi80_4 hi80_5 hm80_80 hP hD hS hl
      have hm80_80 : (3999 : Int) - w80_1.toInt < (fuel_80 : Int) + 1 := by omega
      have e_173 : t1.2.2.1 1 = t.2.2.1 1 := hfr.2.2.1 1 rfl
      have h_174 : (0 : Int) ≤ (t1.1 0 2).toInt ∧ (t1.1 0 2).toInt ≤ 1280 := hok.1 0 2
      have h_175 : (0 : Int) ≤ (t1.1 0 77).toInt ∧ (t1.1 0 77).toInt ≤ 1280 := hok.1 0 77
      have h_176 : (0 : Int) ≤ (t1.1 0 78).toInt ∧ (t1.1 0 78).toInt ≤ 6 := hok.1 0 78
      have h_177 : (0 : Int) ≤ (t1.1 0 83).toInt ∧ (t1.1 0 83).toInt ≤ 427 := hok.1 0 83
      refine lv_iload_n C.1 C.2.1 dX12_jobs_80 rfl (lv_at hl 1 rfl) ?_
      refine lv_aload_n C.1 C.2.1 dX12_jobs_81 rfl (lv_at hl 0 rfl) ?_
      refine k_get (v := .int (t1.1 0 2)) C hP 0 rfl rfl inlX12 2 (by decide) m_9_19 rfl dX12_jobs_82 ?_
      refine lv_icmp_ge (tgt := 106) C.1 C.2.1 dX12_jobs_85 (by decide) (fun c_178 => ?_) (fun c_178 => ?_)
      · replace c_178 : (t1.1 0 2).toInt ≤ w80_1.toInt := i_le c_178
        refine lv_aload_n C.1 C.2.1 dX12_jobs_106 rfl (lv_at hl 0 rfl) ?_
        refine lv_iconst (v := 0) C.1 C.2.1 dX12_jobs_107 (by decide) ?_
        refine k_put (ws' := WM K ad (uI t1 0 2 0)) (v := .int 0) C hP hD hS 0 rfl rfl inlX12 tyX12_ok nmX12 2 (by decide) m_9_19 rfl rfl rfl rfl rfl dX12_jobs_108 (fun H locs hP hD hS => ?_)
        have hok : okM (uI t1 0 2 0) := ⟨okI_I hok.1 0 2 0 (show (0 : Int) ≤ (0 : Int32).toInt ∧ (0 : Int32).toInt ≤ 1280 from ⟨by decide, by decide⟩), hok.2.1, hok.2.2.1, hok.2.2.2.1, hok.2.2.2.2.1, hok.2.2.2.2.2.1, hok.2.2.2.2.2.2.1, trivial⟩
        have hfr : frA [(0, 0), (0, 2), (0, 5), (0, 6), (0, 7), (0, 9), (0, 10), (0, 11), (0, 12), (0, 14), (0, 15), (0, 16), (0, 17), (0, 18), (0, 30), (0, 31), (0, 35), (0, 36), (0, 38), (0, 41), (0, 42), (0, 43), (0, 44), (0, 45), (0, 46), (0, 47), (0, 48), (0, 51), (0, 52), (0, 60), (0, 67), (0, 68), (0, 69), (0, 70), (0, 71), (0, 72), (0, 73), (0, 77), (0, 78), (0, 79), (0, 80), (0, 81), (0, 82), (0, 83), (0, 88), (0, 90), (0, 91), (0, 93)] [(0, 8), (0, 13)] [2, 3, 5, 7, 8, 9, 10, 11, 12, 13, 14, 15, 16, 17, 18, 19, 20, 21, 22, 24, 25, 26, 27, 28, 29, 30, 31, 32, 33, 34, 35, 36, 37, 38, 39, 40, 41, 42, 43, 44] [4, 6, 23] t (uI t1 0 2 0) := frA_I hfr 0 2 _ rfl
        refine lv_aload_n C.1 C.2.1 dX12_jobs_111 rfl (lv_at hl 0 rfl) ?_
        refine lv_iconst (v := 0) C.1 C.2.1 dX12_jobs_112 (by decide) ?_
        refine k_put (ws' := WM K ad (uI (uI t1 0 2 0) 0 88 0)) (v := .int 0) C hP hD hS 0 rfl rfl inlX12 tyX12_ok nmX12 88 (by decide) m_78_15 rfl (by decide) (by decide) rfl rfl dX12_jobs_113 (fun H locs hP hD hS => ?_)
        have hok : okM (uI (uI t1 0 2 0) 0 88 0) := ⟨okI_I hok.1 0 88 0 (show (0 : Int) ≤ (0 : Int32).toInt ∧ (0 : Int32).toInt ≤ 1 from ⟨by decide, by decide⟩), hok.2.1, hok.2.2.1, hok.2.2.2.1, hok.2.2.2.2.1, hok.2.2.2.2.2.1, hok.2.2.2.2.2.2.1, trivial⟩
        have hfr : frA [(0, 0), (0, 2), (0, 5), (0, 6), (0, 7), (0, 9), (0, 10), (0, 11), (0, 12), (0, 14), (0, 15), (0, 16), (0, 17), (0, 18), (0, 30), (0, 31), (0, 35), (0, 36), (0, 38), (0, 41), (0, 42), (0, 43), (0, 44), (0, 45), (0, 46), (0, 47), (0, 48), (0, 51), (0, 52), (0, 60), (0, 67), (0, 68), (0, 69), (0, 70), (0, 71), (0, 72), (0, 73), (0, 77), (0, 78), (0, 79), (0, 80), (0, 81), (0, 82), (0, 83), (0, 88), (0, 90), (0, 91), (0, 93)] [(0, 8), (0, 13)] [2, 3, 5, 7, 8, 9, 10, 11, 12, 13, 14, 15, 16, 17, 18, 19, 20, 21, 22, 24, 25, 26, 27, 28, 29, 30, 31, 32, 33, 34, 35, 36, 37, 38, 39, 40, 41, 42, 43, 44] [4, 6, 23] t (uI (uI t1 0 2 0) 0 88 0) := frA_I hfr 0 88 _ rfl
        refine lv_aload_n C.1 C.2.1 dX12_jobs_116 rfl (lv_at hl 0 rfl) ?_
        refine lv_iconst (v := 0) C.1 C.2.1 dX12_jobs_117 (by decide) ?_
        refine k_put (ws' := WM K ad (uI (uI (uI t1 0 2 0) 0 88 0) 0 83 0)) (v := .int 0) C hP hD hS 0 rfl rfl inlX12 tyX12_ok nmX12 83 (by decide) m_78_16 rfl rfl rfl rfl rfl dX12_jobs_118 (fun H locs hP hD hS => ?_)
        have hok : okM (uI (uI (uI t1 0 2 0) 0 88 0) 0 83 0) := ⟨okI_I hok.1 0 83 0 (show (0 : Int) ≤ (0 : Int32).toInt ∧ (0 : Int32).toInt ≤ 427 from ⟨by decide, by decide⟩), hok.2.1, hok.2.2.1, hok.2.2.2.1, hok.2.2.2.2.1, hok.2.2.2.2.2.1, hok.2.2.2.2.2.2.1, trivial⟩
        have hfr : frA [(0, 0), (0, 2), (0, 5), (0, 6), (0, 7), (0, 9), (0, 10), (0, 11), (0, 12), (0, 14), (0, 15), (0, 16), (0, 17), (0, 18), (0, 30), (0, 31), (0, 35), (0, 36), (0, 38), (0, 41), (0, 42), (0, 43), (0, 44), (0, 45), (0, 46), (0, 47), (0, 48), (0, 51), (0, 52), (0, 60), (0, 67), (0, 68), (0, 69), (0, 70), (0, 71), (0, 72), (0, 73), (0, 77), (0, 78), (0, 79), (0, 80), (0, 81), (0, 82), (0, 83), (0, 88), (0, 90), (0, 91), (0, 93)] [(0, 8), (0, 13)] [2, 3, 5, 7, 8, 9, 10, 11, 12, 13, 14, 15, 16, 17, 18, 19, 20, 21, 22, 24, 25, 26, 27, 28, 29, 30, 31, 32, 33, 34, 35, 36, 37, 38, 39, 40, 41, 42, 43, 44] [4, 6, 23] t (uI (uI (uI t1 0 2 0) 0 88 0) 0 83 0) := frA_I hfr 0 83 _ rfl
        refine lv_iconst (v := 0) C.1 C.2.1 dX12_jobs_121 (by decide) ?_
        refine lv_istore_n (lv' := [(1, .int 0), (0, .ref (ad 0))]) C.1 C.2.1 dX12_jobs_122 rfl hl (by decide) rfl (fun ls hl => ?_)
        have hl : lv_has ls 5 [(0, .ref (ad 0)), (1, .int 0)] := lv_sub hl [1, 0] rfl
        exact L_123 1400 (uI (uI (uI t1 0 2 0) 0 88 0) 0 83 0) 0 _ _ _ hok hfr ⟨by decide, by decide⟩ (show (0 : Int) ≤ ((t1.1 0 0) : Int32).toInt ∧ ((t1.1 0 0) : Int32).toInt ≤ 0 from ⟨by omega, by omega⟩) (show (0 : Int) ≤ (0 : Int32).toInt ∧ (0 : Int32).toInt ≤ 0 from ⟨by decide, by decide⟩) (show lnS (t1.1 0 77).toInt (t1.2.2.1 37) (t1.2.2.1 38) from by first | exact hi80_0 | exact lnS_cg hn0 (by omega) rfl rfl) (show 0 ≤ 0 from by omega) (show 0 ≤ (t1.1 0 77).toInt from by omega) (show 3 * 0 ≤ 0 from by omega) (show 0 = 0 from by omega) (show dkR (t.2.2.1 1) (t1.2.2.1 37) (t1.2.2.1 38) (t1.1 0 77).toInt ((t.1 0 2).toInt).toNat from by first | exact hi80_1 | exact dkR_go rfl rfl (by omega) hi123_5) (show cc (t.2.2.1 1) ((t.1 0 2).toInt).toNat 0 0 = (0 : Int).toNat + cc (t.2.2.1 1) ((t.1 0 2).toInt).toNat (pS (t1.2.2.1 37) (t1.1 0 77).toInt ((t.1 0 2).toInt).toNat (0 : Int).toNat) 0 from by first | exact jc_b hi80_2 | exact jc_go rfl (by omega) (jP1 hi123_6 hi123_5 (by omega) (fun z => absurd (hj.mpr z) (by omega)) (by omega) (by assumption)) | exact jc_go rfl (by omega) (jP6 (jPd hi123_6 hi123_5 (by omega) (hj.mp (by omega)) hn1 (by omega) (hw1.mp (by omega)) (by assumption)) hi123_5 hn2 (by omega) (hw2.mp (by omega)) (by omega) (by assumption)) | exact jc_go rfl (by omega) (jP4 (jPd hi123_6 hi123_5 (by omega) (hj.mp (by omega)) hn1 (by omega) (hw1.mp (by omega)) (by assumption)) hi123_5 hn2 (by omega) (fun z => by first | (exfalso; omega) | (have hz := hs4 (by omega); rw [hgl _ (by omega) (by omega)] at hz; exact hz.elim (fun a => absurd (hw2.mpr a) (by omega)) id)) (by omega)) | exact jc_go rfl (by omega) (jP2 hi123_6 hi123_5 (by omega) (hj.mp (by omega)) hn1 (by omega) (fun z => by first | (exfalso; omega) | (have hz := hs2 (by omega); rw [hgl _ (by omega) (by omega)] at hz; exact hz.elim (fun a => absurd (hw1.mpr a) (by omega)) id)) (by omega)) | (exfalso; omega)) (show ∀ i : Nat, i < ((t.1 0 2).toInt).toNat → (t1.2.2.1 36) i = (t.2.2.1 1) i from by first | exact fun i hi => hi80_3 i (by omega) | (rw [rfl]; exact hi123_7)) (show 0 ≤ 0 from by omega) (show (1300 - 0) < ((1400 : Nat) : Int) from by omega) hP hD hS (lv_sub hl [0, 1] rfl)
      · replace c_178 : w80_1.toInt < (t1.1 0 2).toInt := i_nle c_178
        refine lv_aload_n C.1 C.2.1 dX12_jobs_88 rfl (lv_at hl 0 rfl) ?_
        refine k_get (v := .ref (ad 36)) C hP 0 rfl rfl inlX12 74 (by decide) m_8_20 rfl dX12_jobs_89 ?_
        refine lv_iload_n C.1 C.2.1 dX12_jobs_92 rfl (lv_at hl 1 rfl) ?_
        refine lv_aload_n C.1 C.2.1 dX12_jobs_93 rfl (lv_at hl 0 rfl) ?_
        refine k_get (v := .ref (ad 1)) C hP 0 rfl rfl inlX12 1 (by decide) m_7_4 rfl dX12_jobs_94 ?_
        refine lv_iload_n C.1 C.2.1 dX12_jobs_97 rfl (lv_at hl 1 rfl) ?_
        have h_179 : (-3999 : Int) ≤ (t.2.2.1 1 (w80_1 : Int32).toNatClampNeg).toInt ∧ (t.2.2.1 1 (w80_1 : Int32).toNatClampNeg).toInt ≤ 127 := by rw [← e_173]; exact hok.2.1 1 _
        refine k_bld (v := (t.2.2.1 1 (w80_1 : Int32).toNatClampNeg)) C hP 1 rfl (vp_in_iff.mpr ⟨by omega, by omega⟩) (congrFun e_173 _) dX12_jobs_98 ?_
        obtain ⟨v_180, e_181⟩ : ∃ z, z = vp_nar .byte (t.2.2.1 1 (w80_1 : Int32).toNatClampNeg) := ⟨_, rfl⟩
        have h_182 : (-128 : Int) ≤ v_180.toInt ∧ v_180.toInt ≤ 127 := by rw [e_181]; exact nar_byte _
        refine k_bst (ws' := WM K ad (uB t1 36 (w80_1 : Int32).toNatClampNeg v_180)) (x' := v_180) C hP hD hS 36 rfl (vp_in_iff.mpr ⟨by omega, by omega⟩) rfl e_181.symm rfl dX12_jobs_99 (fun H locs hP hD hS => ?_)
        have hok : okM (uB t1 36 (w80_1 : Int32).toNatClampNeg v_180) := ⟨hok.1, okB_B hok.2.1 36 _ v_180 (show (-3999 : Int) ≤ (v_180 : Int32).toInt ∧ (v_180 : Int32).toInt ≤ 127 from ⟨by omega, by omega⟩), hok.2.2.1, hok.2.2.2.1, hok.2.2.2.2.1, hok.2.2.2.2.2.1, hok.2.2.2.2.2.2.1, trivial⟩
        have hfr : frA [(0, 0), (0, 2), (0, 5), (0, 6), (0, 7), (0, 9), (0, 10), (0, 11), (0, 12), (0, 14), (0, 15), (0, 16), (0, 17), (0, 18), (0, 30), (0, 31), (0, 35), (0, 36), (0, 38), (0, 41), (0, 42), (0, 43), (0, 44), (0, 45), (0, 46), (0, 47), (0, 48), (0, 51), (0, 52), (0, 60), (0, 67), (0, 68), (0, 69), (0, 70), (0, 71), (0, 72), (0, 73), (0, 77), (0, 78), (0, 79), (0, 80), (0, 81), (0, 82), (0, 83), (0, 88), (0, 90), (0, 91), (0, 93)] [(0, 8), (0, 13)] [2, 3, 5, 7, 8, 9, 10, 11, 12, 13, 14, 15, 16, 17, 18, 19, 20, 21, 22, 24, 25, 26, 27, 28, 29, 30, 31, 32, 33, 34, 35, 36, 37, 38, 39, 40, 41, 42, 43, 44] [4, 6, 23] t (uB t1 36 (w80_1 : Int32).toNatClampNeg v_180) := frA_B hfr 36 _ _ rfl
        obtain ⟨v_183, e_184⟩ : ∃ z, z = w80_1 + 1 := ⟨_, rfl⟩
        have h_185 : v_183.toInt = w80_1.toInt + 1 := by rw [e_184]; exact ti_iadd (by show (_ : Int) ≤ w80_1.toInt + 1; omega) (by show w80_1.toInt + 1 < (_ : Int); omega)
        refine lv_iinc (v := v_183) (lv' := [(1, .int v_183), (0, .ref (ad 0))]) C.1 C.2.1 dX12_jobs_100 hl (k := 1) rfl e_184.symm (by decide) rfl (fun ls hl => ?_)
        have hl : lv_has ls 5 [(0, .ref (ad 0)), (1, .int v_183)] := lv_sub hl [1, 0] rfl
        refine lv_goto (tgt := 80) C.1 C.2.1 dX12_jobs_103 (by decide) ?_
        exact ih_80 (uB t1 36 (w80_1 : Int32).toNatClampNeg v_180) v_183 _ _ _ hok hfr ⟨by omega, by omega⟩ (show (0 : Int) ≤ ((t1.1 0 0) : Int32).toInt ∧ ((t1.1 0 0) : Int32).toInt ≤ 0 from ⟨by omega, by omega⟩) (show lnS (t1.1 0 77).toInt (t1.2.2.1 37) (t1.2.2.1 38) from by first | exact hi12_3 | exact hi80_0) (show dkR (t.2.2.1 1) (t1.2.2.1 37) (t1.2.2.1 38) (t1.1 0 77).toInt ((t.1 0 2).toInt).toNat from by first | exact hi80_1 | exact dkI_R hi12_5 (by omega)) (show cc (t.2.2.1 1) ((t.1 0 2).toInt).toNat 0 0 = cc (t.2.2.1 1) ((t.1 0 2).toInt).toNat (pS (t1.2.2.1 37) (t1.1 0 77).toInt ((t.1 0 2).toInt).toNat 0) 0 from by first | exact hi80_2 | exact dkI_p hi12_5 (by omega) (by omega)) (show ∀ i : Nat, (i : Int) < v_183.toInt → ((uB t1 36 (w80_1 : Int32).toNatClampNeg v_180).2.2.1 36) i = (t.2.2.1 1) i from by intro i hi; first | (exfalso; omega) | (rcases Int.lt_or_eq_of_le (show (i : Int) ≤ w80_1.toInt from by omega) with h9 | h9 <;> first | exact row_old h9 (hi80_3 i h9) | exact row_nar h9 (by assumption) (hs0 i (by omega)))) (show (t1.1 0 2).toInt = (t.1 0 2).toInt from by omega) (show 0 ≤ v_183.toInt from by omega) (show (3999 : Int) - v_183.toInt < (fuel_80 : Int) from by omega) hP hD hS (lv_sub hl [0, 1] rfl)
  have L_12 : ∀ (fuel_12 : Nat) (t1 : tSt) (w12_1 : Int32) (H : Heap) (locs : List Loc) (ls : Array Slot), okM t1 → frA [(0, 0), (0, 2), (0, 5), (0, 6), (0, 7), (0, 9), (0, 10), (0, 11), (0, 12), (0, 14), (0, 15), (0, 16), (0, 17), (0, 18), (0, 30), (0, 31), (0, 35), (0, 36), (0, 38), (0, 41), (0, 42), (0, 43), (0, 44), (0, 45), (0, 46), (0, 47), (0, 48), (0, 51), (0, 52), (0, 60), (0, 67), (0, 68), (0, 69), (0, 70), (0, 71), (0, 72), (0, 73), (0, 77), (0, 78), (0, 79), (0, 80), (0, 81), (0, 82), (0, 83), (0, 88), (0, 90), (0, 91), (0, 93)] [(0, 8), (0, 13)] [2, 3, 5, 7, 8, 9, 10, 11, 12, 13, 14, 15, 16, 17, 18, 19, 20, 21, 22, 24, 25, 26, 27, 28, 29, 30, 31, 32, 33, 34, 35, 36, 37, 38, 39, 40, 41, 42, 43, 44] [4, 6, 23] t t1 → (0 : Int) ≤ w12_1.toInt ∧ w12_1.toInt ≤ 1281 → (0 : Int) ≤ (t1.1 0 0).toInt ∧ (t1.1 0 0).toInt ≤ 0 → (0 ≤ w12_1.toInt) → (w12_1.toInt ≤ (t1.1 0 2).toInt + 1) → ((t1.1 0 77).toInt ≤ w12_1.toInt) → (lnS (t1.1 0 77).toInt (t1.2.2.1 37) (t1.2.2.1 38)) → (∀ w : Int32, 0 ≤ w.toInt → w.toInt + 1 = (t1.1 0 77).toInt → w12_1.toInt = ((t1.2.2.1 38) w.toNatClampNeg).toInt + 1) → (dkI (t.2.2.1 1) (t1.2.2.1 37) (t1.2.2.1 38) (t1.1 0 77).toInt w12_1.toInt ((t.1 0 2).toInt).toNat) → ((t1.1 0 2).toInt = (t.1 0 2).toInt) → (1300 - w12_1.toInt) < (fuel_12 : Int) → va_P D vwCl (WM K ad t1) H → va_D A (WM K ad t1) → va_S A s.heap H locs → lv_has ls 5 [(0, .ref (ad 0)), (1, .int w12_1)] → W p l e (rmD 21 0 0) s m [.ref (ad 0)].toArray below meth c H locs 0 0 (MQ below (QI D K (fun (r : Int32) (u : tSt) => okM u ∧ frA [(0, 0), (0, 2), (0, 5), (0, 6), (0, 7), (0, 9), (0, 10), (0, 11), (0, 12), (0, 14), (0, 15), (0, 16), (0, 17), (0, 18), (0, 30), (0, 31), (0, 35), (0, 36), (0, 38), (0, 41), (0, 42), (0, 43), (0, 44), (0, 45), (0, 46), (0, 47), (0, 48), (0, 51), (0, 52), (0, 60), (0, 67), (0, 68), (0, 69), (0, 70), (0, 71), (0, 72), (0, 73), (0, 77), (0, 78), (0, 79), (0, 80), (0, 81), (0, 82), (0, 83), (0, 88), (0, 90), (0, 91), (0, 93)] [(0, 8), (0, 13)] [2, 3, 5, 7, 8, 9, 10, 11, 12, 13, 14, 15, 16, 17, 18, 19, 20, 21, 22, 24, 25, 26, 27, 28, 29, 30, 31, 32, 33, 34, 35, 36, 37, 38, 39, 40, 41, 42, 43, 44] [4, 6, 23] t u ∧ (0 : Int) ≤ r.toInt ∧ r.toInt ≤ 511 ∧ ((u.1 0 2).toInt = 0) ∧ (r.toInt = ((cc (t.2.2.1 1) ((t.1 0 2).toInt).toNat 0 0 : Nat) : Int))) (fun (u : tSt) => WM K ad u) A) [.ref (ad 0)].toArray s 0 0 A) (F0 m 12 ls []) := by
    intro fuel_12
    induction fuel_12 with
    | zero =>
      intro t1 w12_1 H locs ls hok hfr hw12_1 hf12_0 hi12_0 hi12_1 hi12_2 hi12_3 hi12_4 hi12_5 hi12_6 hm12_12 hP hD hS hl
      have e_186 : t1.2.2.1 1 = t.2.2.1 1 := hfr.2.2.1 1 rfl
      have h_187 : (0 : Int) ≤ (t1.1 0 2).toInt ∧ (t1.1 0 2).toInt ≤ 1280 := hok.1 0 2
      have h_188 : (0 : Int) ≤ (t1.1 0 77).toInt ∧ (t1.1 0 77).toInt ≤ 1280 := hok.1 0 77
      have h_189 : (0 : Int) ≤ (t1.1 0 78).toInt ∧ (t1.1 0 78).toInt ≤ 6 := hok.1 0 78
      have h_190 : (0 : Int) ≤ (t1.1 0 83).toInt ∧ (t1.1 0 83).toInt ≤ 427 := hok.1 0 83
      exact absurd hm12_12 (by omega)
    | succ fuel_12 ih_12 =>
      intro t1 w12_1 H locs ls hok hfr hw12_1 hf12_0 hi12_0 hi12_1 hi12_2 hi12_3 hi12_4 hi12_5 hi12_6 hm12_12 hP hD hS hl
      have hm12_12 : (1300 - w12_1.toInt) < (fuel_12 : Int) + 1 := by omega
      have e_191 : t1.2.2.1 1 = t.2.2.1 1 := hfr.2.2.1 1 rfl
      have h_192 : (0 : Int) ≤ (t1.1 0 2).toInt ∧ (t1.1 0 2).toInt ≤ 1280 := hok.1 0 2
      have h_193 : (0 : Int) ≤ (t1.1 0 77).toInt ∧ (t1.1 0 77).toInt ≤ 1280 := hok.1 0 77
      have h_194 : (0 : Int) ≤ (t1.1 0 78).toInt ∧ (t1.1 0 78).toInt ≤ 6 := hok.1 0 78
      have h_195 : (0 : Int) ≤ (t1.1 0 83).toInt ∧ (t1.1 0 83).toInt ≤ 427 := hok.1 0 83
      have hby := e_191
      refine lv_iload_n C.1 C.2.1 dX12_jobs_12 rfl (lv_at hl 1 rfl) ?_
      refine lv_aload_n C.1 C.2.1 dX12_jobs_13 rfl (lv_at hl 0 rfl) ?_
      refine k_get (v := .int (t1.1 0 2)) C hP 0 rfl rfl inlX12 2 (by decide) m_9_19 rfl dX12_jobs_14 ?_
      refine lv_icmp_ge (tgt := 78) C.1 C.2.1 dX12_jobs_17 (by decide) (fun c_196 => ?_) (fun c_196 => ?_)
      · replace c_196 : (t1.1 0 2).toInt ≤ w12_1.toInt := i_le c_196
        refine lv_iconst (v := 0) C.1 C.2.1 dX12_jobs_78 (by decide) ?_
        refine lv_istore_n (lv' := [(1, .int 0), (0, .ref (ad 0))]) C.1 C.2.1 dX12_jobs_79 rfl hl (by decide) rfl (fun ls hl => ?_)
        have hl : lv_has ls 5 [(0, .ref (ad 0)), (1, .int 0)] := lv_sub hl [1, 0] rfl
        exact L_80 4000 t1 0 _ _ _ hok hfr ⟨by decide, by decide⟩ (show (0 : Int) ≤ ((t1.1 0 0) : Int32).toInt ∧ ((t1.1 0 0) : Int32).toInt ≤ 0 from ⟨by omega, by omega⟩) (show lnS (t1.1 0 77).toInt (t1.2.2.1 37) (t1.2.2.1 38) from by first | exact hi12_3 | exact hi80_0) (show dkR (t.2.2.1 1) (t1.2.2.1 37) (t1.2.2.1 38) (t1.1 0 77).toInt ((t.1 0 2).toInt).toNat from by first | exact hi80_1 | exact dkI_R hi12_5 (by omega)) (show cc (t.2.2.1 1) ((t.1 0 2).toInt).toNat 0 0 = cc (t.2.2.1 1) ((t.1 0 2).toInt).toNat (pS (t1.2.2.1 37) (t1.1 0 77).toInt ((t.1 0 2).toInt).toNat 0) 0 from by first | exact hi80_2 | exact dkI_p hi12_5 (by omega) (by omega)) (show ∀ i : Nat, (i : Int) < 0 → (t1.2.2.1 36) i = (t.2.2.1 1) i from by intro i hi; first | (exfalso; omega) | (rcases Int.lt_or_eq_of_le (show (i : Int) ≤ w80_1.toInt from by omega) with h9 | h9 <;> first | exact row_old h9 (hi80_3 i h9) | exact row_nar h9 (by assumption) (hs0 i (by omega)))) (show (t1.1 0 2).toInt = (t.1 0 2).toInt from by omega) (show 0 ≤ 0 from by omega) (show (3999 : Int) - 0 < ((4000 : Nat) : Int) from by omega) hP hD hS (lv_sub hl [0, 1] rfl)
      · replace c_196 : w12_1.toInt < (t1.1 0 2).toInt := i_nle c_196
        refine lv_aload_n C.1 C.2.1 dX12_jobs_20 rfl (lv_at hl 0 rfl) ?_
        refine k_get (v := .ref (ad 37)) C hP 0 rfl rfl inlX12 75 (by decide) m_8_21 rfl dX12_jobs_21 ?_
        refine lv_aload_n C.1 C.2.1 dX12_jobs_24 rfl (lv_at hl 0 rfl) ?_
        refine k_get (v := .int (t1.1 0 77)) C hP 0 rfl rfl inlX12 77 (by decide) m_78_14 rfl dX12_jobs_25 ?_
        refine lv_iload_n C.1 C.2.1 dX12_jobs_28 rfl (lv_at hl 1 rfl) ?_
        refine k_ist (ws' := WM K ad (uB t1 37 ((t1.1 0 77) : Int32).toNatClampNeg w12_1)) (x' := w12_1) C hP hD hS 37 rfl (vp_in_iff.mpr ⟨by omega, by omega⟩) rfl rfl rfl dX12_jobs_29 (fun H locs hP hD hS => ?_)
        have hok : okM (uB t1 37 ((t1.1 0 77) : Int32).toNatClampNeg w12_1) := ⟨hok.1, okB_B hok.2.1 37 _ w12_1 (show (0 : Int) ≤ (w12_1 : Int32).toInt ∧ (w12_1 : Int32).toInt ≤ 1280 from ⟨by omega, by omega⟩), hok.2.2.1, hok.2.2.2.1, hok.2.2.2.2.1, hok.2.2.2.2.2.1, hok.2.2.2.2.2.2.1, trivial⟩
        have hfr : frA [(0, 0), (0, 2), (0, 5), (0, 6), (0, 7), (0, 9), (0, 10), (0, 11), (0, 12), (0, 14), (0, 15), (0, 16), (0, 17), (0, 18), (0, 30), (0, 31), (0, 35), (0, 36), (0, 38), (0, 41), (0, 42), (0, 43), (0, 44), (0, 45), (0, 46), (0, 47), (0, 48), (0, 51), (0, 52), (0, 60), (0, 67), (0, 68), (0, 69), (0, 70), (0, 71), (0, 72), (0, 73), (0, 77), (0, 78), (0, 79), (0, 80), (0, 81), (0, 82), (0, 83), (0, 88), (0, 90), (0, 91), (0, 93)] [(0, 8), (0, 13)] [2, 3, 5, 7, 8, 9, 10, 11, 12, 13, 14, 15, 16, 17, 18, 19, 20, 21, 22, 24, 25, 26, 27, 28, 29, 30, 31, 32, 33, 34, 35, 36, 37, 38, 39, 40, 41, 42, 43, 44] [4, 6, 23] t (uB t1 37 ((t1.1 0 77) : Int32).toNatClampNeg w12_1) := frA_B hfr 37 _ _ rfl
        refine lv_aload_n C.1 C.2.1 dX12_jobs_30 rfl (lv_at hl 0 rfl) ?_
        refine k_get (v := .ref (ad 38)) C hP 0 rfl rfl inlX12 76 (by decide) m_8_22 rfl dX12_jobs_31 ?_
        refine lv_aload_n C.1 C.2.1 dX12_jobs_34 rfl (lv_at hl 0 rfl) ?_
        refine k_get (v := .int (t1.1 0 77)) C hP 0 rfl rfl inlX12 77 (by decide) m_78_14 rfl dX12_jobs_35 ?_
        refine lv_aload_n C.1 C.2.1 dX12_jobs_38 rfl (lv_at hl 0 rfl) ?_
        refine k_get (v := .ref (ad 1)) C hP 0 rfl rfl inlX12 1 (by decide) m_7_4 rfl dX12_jobs_39 ?_
        refine lv_iload_n C.1 C.2.1 dX12_jobs_42 rfl (lv_at hl 1 rfl) ?_
        refine lv_aload_n C.1 C.2.1 dX12_jobs_43 rfl (lv_at hl 0 rfl) ?_
        refine k_get (v := .int (t1.1 0 2)) C hP 0 rfl rfl inlX12 2 (by decide) m_9_19 rfl dX12_jobs_44 ?_
        refine g_Si (As := [.ref (ad 1), .int w12_1, .int (t1.1 0 2)]) (rest := [.int (t1.1 0 77), .ref (ad 38)]) C hP hD hS hA (T_X12_lineEnd l D K Z Y ad (uB t1 37 ((t1.1 0 77) : Int32).toNatClampNeg w12_1) hok (w12_1) (show (0 : Int) ≤ (w12_1 : Int32).toInt ∧ (w12_1 : Int32).toInt ≤ 1280 from ⟨by omega, by omega⟩) ((t1.1 0 2)) (show (1 : Int) ≤ ((t1.1 0 2) : Int32).toInt ∧ ((t1.1 0 2) : Int32).toInt ≤ 1280 from ⟨by omega, by omega⟩)) hE hZ (uwS m_30_23 m_31_0 m_1_5 m_31_1) (hdS 3 (by decide +kernel) rfl) ⟨Nat.le_of_ble_eq_true rfl, Nat.le_of_ble_eq_true rfl⟩ rfl rfl rfl hl.1 (Nat.le_of_ble_eq_true rfl) dX12_jobs_47 ⟨Nat.le_of_ble_eq_true rfl, Nat.le_of_ble_eq_true rfl⟩ (fun r_198 t_197 H locs hw hP hD hS => ?_)
        obtain ⟨h_200, h_201, p_202, p_203, p_204⟩ := hw
        replace p_202 : w12_1.toInt ≤ r_198.toInt := p_202
        replace p_203 : r_198.toInt ≤ (t1.1 0 2).toInt ∨ r_198.toInt = w12_1.toInt := p_203
        replace p_204 : leP (t1.2.2.1 1) w12_1 (t1.1 0 2) r_198 := p_204
        have hle := leP_lE p_204 (by omega)
        rw [hby, hi12_6] at hle
        refine k_ist (ws' := WM K ad (uB (uB t1 37 ((t1.1 0 77) : Int32).toNatClampNeg w12_1) 38 ((t1.1 0 77) : Int32).toNatClampNeg r_198)) (x' := r_198) C hP hD hS 38 rfl (vp_in_iff.mpr ⟨by omega, by omega⟩) rfl rfl rfl dX12_jobs_50 (fun H locs hP hD hS => ?_)
        have hok : okM (uB (uB t1 37 ((t1.1 0 77) : Int32).toNatClampNeg w12_1) 38 ((t1.1 0 77) : Int32).toNatClampNeg r_198) := ⟨hok.1, okB_B hok.2.1 38 _ r_198 (show (0 : Int) ≤ (r_198 : Int32).toInt ∧ (r_198 : Int32).toInt ≤ 1280 from ⟨by omega, by omega⟩), hok.2.2.1, hok.2.2.2.1, hok.2.2.2.2.1, hok.2.2.2.2.2.1, hok.2.2.2.2.2.2.1, trivial⟩
        have hfr : frA [(0, 0), (0, 2), (0, 5), (0, 6), (0, 7), (0, 9), (0, 10), (0, 11), (0, 12), (0, 14), (0, 15), (0, 16), (0, 17), (0, 18), (0, 30), (0, 31), (0, 35), (0, 36), (0, 38), (0, 41), (0, 42), (0, 43), (0, 44), (0, 45), (0, 46), (0, 47), (0, 48), (0, 51), (0, 52), (0, 60), (0, 67), (0, 68), (0, 69), (0, 70), (0, 71), (0, 72), (0, 73), (0, 77), (0, 78), (0, 79), (0, 80), (0, 81), (0, 82), (0, 83), (0, 88), (0, 90), (0, 91), (0, 93)] [(0, 8), (0, 13)] [2, 3, 5, 7, 8, 9, 10, 11, 12, 13, 14, 15, 16, 17, 18, 19, 20, 21, 22, 24, 25, 26, 27, 28, 29, 30, 31, 32, 33, 34, 35, 36, 37, 38, 39, 40, 41, 42, 43, 44] [4, 6, 23] t (uB (uB t1 37 ((t1.1 0 77) : Int32).toNatClampNeg w12_1) 38 ((t1.1 0 77) : Int32).toNatClampNeg r_198) := frA_B hfr 38 _ _ rfl
        have hlt : ((uB (uB t1 37 ((t1.1 0 77) : Int32).toNatClampNeg w12_1) 38 ((t1.1 0 77) : Int32).toNatClampNeg r_198).2.2.1 38 ((t1.1 0 77) : Int32).toNatClampNeg).toInt = (r_198 : Int32).toInt := by show (upd _ _ _ _).toInt = _; rw [pk_us]
        refine lv_aload_n C.1 C.2.1 dX12_jobs_51 rfl (lv_at hl 0 rfl) ?_
        refine lv_dup C.1 C.2.1 dX12_jobs_52 rfl ?_
        refine k_get (v := .int (t1.1 0 77)) C hP 0 rfl rfl inlX12 77 (by decide) m_78_14 rfl dX12_jobs_53 ?_
        refine lv_iconst (v := 1) C.1 C.2.1 dX12_jobs_56 (by decide) ?_
        obtain ⟨v_205, e_206⟩ : ∃ z, z = ((t1.1 0 77) : Int32) + (1 : Int32) := ⟨_, rfl⟩
        have h_207 : v_205.toInt = (t1.1 0 77).toInt + 1 := by rw [e_206]; exact ti_iadd (by show (_ : Int) ≤ (t1.1 0 77).toInt + 1; omega) (by show (t1.1 0 77).toInt + 1 < (_ : Int); omega)
        refine k_iadd (v := v_205) C e_206.symm dX12_jobs_57 ?_
        refine k_put (ws' := WM K ad (uI (uB (uB t1 37 ((t1.1 0 77) : Int32).toNatClampNeg w12_1) 38 ((t1.1 0 77) : Int32).toNatClampNeg r_198) 0 77 v_205)) (v := .int v_205) C hP hD hS 0 rfl rfl inlX12 tyX12_ok nmX12 77 (by decide) m_78_14 rfl rfl rfl rfl rfl dX12_jobs_58 (fun H locs hP hD hS => ?_)
        have hok : okM (uI (uB (uB t1 37 ((t1.1 0 77) : Int32).toNatClampNeg w12_1) 38 ((t1.1 0 77) : Int32).toNatClampNeg r_198) 0 77 v_205) := ⟨okI_I hok.1 0 77 v_205 (show (0 : Int) ≤ (v_205 : Int32).toInt ∧ (v_205 : Int32).toInt ≤ 1280 from ⟨by omega, by omega⟩), hok.2.1, hok.2.2.1, hok.2.2.2.1, hok.2.2.2.2.1, hok.2.2.2.2.2.1, hok.2.2.2.2.2.2.1, trivial⟩
        have hfr : frA [(0, 0), (0, 2), (0, 5), (0, 6), (0, 7), (0, 9), (0, 10), (0, 11), (0, 12), (0, 14), (0, 15), (0, 16), (0, 17), (0, 18), (0, 30), (0, 31), (0, 35), (0, 36), (0, 38), (0, 41), (0, 42), (0, 43), (0, 44), (0, 45), (0, 46), (0, 47), (0, 48), (0, 51), (0, 52), (0, 60), (0, 67), (0, 68), (0, 69), (0, 70), (0, 71), (0, 72), (0, 73), (0, 77), (0, 78), (0, 79), (0, 80), (0, 81), (0, 82), (0, 83), (0, 88), (0, 90), (0, 91), (0, 93)] [(0, 8), (0, 13)] [2, 3, 5, 7, 8, 9, 10, 11, 12, 13, 14, 15, 16, 17, 18, 19, 20, 21, 22, 24, 25, 26, 27, 28, 29, 30, 31, 32, 33, 34, 35, 36, 37, 38, 39, 40, 41, 42, 43, 44] [4, 6, 23] t (uI (uB (uB t1 37 ((t1.1 0 77) : Int32).toNatClampNeg w12_1) 38 ((t1.1 0 77) : Int32).toNatClampNeg r_198) 0 77 v_205) := frA_I hfr 0 77 _ rfl
        refine lv_aload_n C.1 C.2.1 dX12_jobs_61 rfl (lv_at hl 0 rfl) ?_
        refine k_get (v := .ref (ad 38)) C hP 0 rfl rfl inlX12 76 (by decide) m_8_22 rfl dX12_jobs_62 ?_
        refine lv_aload_n C.1 C.2.1 dX12_jobs_65 rfl (lv_at hl 0 rfl) ?_
        refine k_get (v := .int v_205) C hP 0 rfl rfl inlX12 77 (by decide) m_78_14 rfl dX12_jobs_66 ?_
        refine lv_iconst (v := 1) C.1 C.2.1 dX12_jobs_69 (by decide) ?_
        obtain ⟨v_208, e_209⟩ : ∃ z, z = (v_205 : Int32) - (1 : Int32) := ⟨_, rfl⟩
        have h_210 : v_208.toInt = v_205.toInt - 1 := by rw [e_209]; exact ti_isub (by show (_ : Int) ≤ v_205.toInt - 1; omega) (by show v_205.toInt - 1 < (_ : Int); omega)
        refine k_isub (v := v_208) C e_209.symm dX12_jobs_70 ?_
        have h_211 : (0 : Int) ≤ ((uI (uB (uB t1 37 ((t1.1 0 77) : Int32).toNatClampNeg w12_1) 38 ((t1.1 0 77) : Int32).toNatClampNeg r_198) 0 77 v_205).2.2.1 38 (v_208 : Int32).toNatClampNeg).toInt ∧ ((uI (uB (uB t1 37 ((t1.1 0 77) : Int32).toNatClampNeg w12_1) 38 ((t1.1 0 77) : Int32).toNatClampNeg r_198) 0 77 v_205).2.2.1 38 (v_208 : Int32).toNatClampNeg).toInt ≤ 1280 := hok.2.1 38 _
        refine k_ild (v := ((uI (uB (uB t1 37 ((t1.1 0 77) : Int32).toNatClampNeg w12_1) 38 ((t1.1 0 77) : Int32).toNatClampNeg r_198) 0 77 v_205).2.2.1 38 (v_208 : Int32).toNatClampNeg)) C hP 38 rfl (vp_in_iff.mpr ⟨by omega, by omega⟩) rfl dX12_jobs_71 ?_
        have hlx : (v_208 : Int32) = (t1.1 0 77) := Int32.toInt_inj.mp (by omega)
        have hlq : ((uI (uB (uB t1 37 ((t1.1 0 77) : Int32).toNatClampNeg w12_1) 38 ((t1.1 0 77) : Int32).toNatClampNeg r_198) 0 77 v_205).2.2.1 38 (v_208 : Int32).toNatClampNeg).toInt = _ := (congrArg (fun z : Int32 => (((uI (uB (uB t1 37 ((t1.1 0 77) : Int32).toNatClampNeg w12_1) 38 ((t1.1 0 77) : Int32).toNatClampNeg r_198) 0 77 v_205).2.2.1 38) z.toNatClampNeg).toInt) hlx).trans hlt
        refine lv_iconst (v := 1) C.1 C.2.1 dX12_jobs_72 (by decide) ?_
        obtain ⟨v_212, e_213⟩ : ∃ z, z = (((uI (uB (uB t1 37 ((t1.1 0 77) : Int32).toNatClampNeg w12_1) 38 ((t1.1 0 77) : Int32).toNatClampNeg r_198) 0 77 v_205).2.2.1 38 (v_208 : Int32).toNatClampNeg) : Int32) + (1 : Int32) := ⟨_, rfl⟩
        have h_214 : v_212.toInt = ((uI (uB (uB t1 37 ((t1.1 0 77) : Int32).toNatClampNeg w12_1) 38 ((t1.1 0 77) : Int32).toNatClampNeg r_198) 0 77 v_205).2.2.1 38 (v_208 : Int32).toNatClampNeg).toInt + 1 := by rw [e_213]; exact ti_iadd (by show (_ : Int) ≤ ((uI (uB (uB t1 37 ((t1.1 0 77) : Int32).toNatClampNeg w12_1) 38 ((t1.1 0 77) : Int32).toNatClampNeg r_198) 0 77 v_205).2.2.1 38 (v_208 : Int32).toNatClampNeg).toInt + 1; omega) (by show ((uI (uB (uB t1 37 ((t1.1 0 77) : Int32).toNatClampNeg w12_1) 38 ((t1.1 0 77) : Int32).toNatClampNeg r_198) 0 77 v_205).2.2.1 38 (v_208 : Int32).toNatClampNeg).toInt + 1 < (_ : Int); omega)
        refine k_iadd (v := v_212) C e_213.symm dX12_jobs_73 ?_
        refine lv_istore_n (lv' := [(1, .int v_212), (0, .ref (ad 0))]) C.1 C.2.1 dX12_jobs_74 rfl hl (by decide) rfl (fun ls hl => ?_)
        have hl : lv_has ls 5 [(0, .ref (ad 0)), (1, .int v_212)] := lv_sub hl [1, 0] rfl
        refine lv_goto (tgt := 12) C.1 C.2.1 dX12_jobs_75 (by decide) ?_
        exact ih_12 (uI (uB (uB t1 37 ((t1.1 0 77) : Int32).toNatClampNeg w12_1) 38 ((t1.1 0 77) : Int32).toNatClampNeg r_198) 0 77 v_205) v_212 _ _ _ hok hfr ⟨by omega, by omega⟩ (show (0 : Int) ≤ ((t1.1 0 0) : Int32).toInt ∧ ((t1.1 0 0) : Int32).toInt ≤ 0 from ⟨by omega, by omega⟩) (show 0 ≤ v_212.toInt from by omega) (show v_212.toInt ≤ (t1.1 0 2).toInt + 1 from by omega) (show v_205.toInt ≤ v_212.toInt from by omega) (show lnS v_205.toInt ((uI (uB (uB t1 37 ((t1.1 0 77) : Int32).toNatClampNeg w12_1) 38 ((t1.1 0 77) : Int32).toNatClampNeg r_198) 0 77 v_205).2.2.1 37) ((uI (uB (uB t1 37 ((t1.1 0 77) : Int32).toNatClampNeg w12_1) 38 ((t1.1 0 77) : Int32).toNatClampNeg r_198) 0 77 v_205).2.2.1 38) from by first | exact lnS_0 (by omega) | exact lnS_up (n := (t1.1 0 77)) (f := (t1.2.2.1 37)) (g := (t1.2.2.1 38)) hi12_3 (by omega) (by omega) (by omega) (fun w h1 h2 => by have := hi12_4 w h1 (by omega); omega)) (show ∀ w : Int32, 0 ≤ w.toInt → w.toInt + 1 = v_205.toInt → v_212.toInt = (((uI (uB (uB t1 37 ((t1.1 0 77) : Int32).toNatClampNeg w12_1) 38 ((t1.1 0 77) : Int32).toNatClampNeg r_198) 0 77 v_205).2.2.1 38) w.toNatClampNeg).toInt + 1 from by intro w h1 h2; first | (exfalso; omega) | (have hw : w = (t1.1 0 77) := Int32.toInt_inj.mp (by omega); rw [hw]; show _ = (upd _ _ _ _).toInt + 1; rw [pk_us]; omega)) (show dkI (t.2.2.1 1) ((uI (uB (uB t1 37 ((t1.1 0 77) : Int32).toNatClampNeg w12_1) 38 ((t1.1 0 77) : Int32).toNatClampNeg r_198) 0 77 v_205).2.2.1 37) ((uI (uB (uB t1 37 ((t1.1 0 77) : Int32).toNatClampNeg w12_1) 38 ((t1.1 0 77) : Int32).toNatClampNeg r_198) 0 77 v_205).2.2.1 38) v_205.toInt v_212.toInt ((t.1 0 2).toInt).toNat from by first | exact dkI_0 | exact dkI_up (k := (t1.1 0 77)) (dF := (t1.2.2.1 37)) (dT := (t1.2.2.1 38)) (w := w12_1) hi12_5 (by omega) (by omega) hle (by omega) (by omega)) (show (t1.1 0 2).toInt = (t.1 0 2).toInt from by omega) (show (1300 - v_212.toInt) < (fuel_12 : Int) from by omega) hP hD hS (lv_sub hl [0, 1] rfl)
  refine lv_aload_n C.1 C.2.1 dX12_jobs_0 rfl (lv_at hl 0 rfl) ?_
  refine lv_iconst (v := 0) C.1 C.2.1 dX12_jobs_1 (by decide) ?_
  refine k_put (ws' := WM K ad (uI t 0 0 0)) (v := .int 0) C hP hD hS 0 rfl rfl inlX12 tyX12_ok nmX12 0 (by decide) m_9_18 rfl rfl rfl rfl rfl dX12_jobs_2 (fun H locs hP hD hS => ?_)
  have hok : okM (uI t 0 0 0) := ⟨okI_I hok.1 0 0 0 (show (0 : Int) ≤ (0 : Int32).toInt ∧ (0 : Int32).toInt ≤ 1 from ⟨by decide, by decide⟩), hok.2.1, hok.2.2.1, hok.2.2.2.1, hok.2.2.2.2.1, hok.2.2.2.2.2.1, hok.2.2.2.2.2.2.1, trivial⟩
  have hfr : frA [(0, 0), (0, 2), (0, 5), (0, 6), (0, 7), (0, 9), (0, 10), (0, 11), (0, 12), (0, 14), (0, 15), (0, 16), (0, 17), (0, 18), (0, 30), (0, 31), (0, 35), (0, 36), (0, 38), (0, 41), (0, 42), (0, 43), (0, 44), (0, 45), (0, 46), (0, 47), (0, 48), (0, 51), (0, 52), (0, 60), (0, 67), (0, 68), (0, 69), (0, 70), (0, 71), (0, 72), (0, 73), (0, 77), (0, 78), (0, 79), (0, 80), (0, 81), (0, 82), (0, 83), (0, 88), (0, 90), (0, 91), (0, 93)] [(0, 8), (0, 13)] [2, 3, 5, 7, 8, 9, 10, 11, 12, 13, 14, 15, 16, 17, 18, 19, 20, 21, 22, 24, 25, 26, 27, 28, 29, 30, 31, 32, 33, 34, 35, 36, 37, 38, 39, 40, 41, 42, 43, 44] [4, 6, 23] t (uI t 0 0 0) := frA_I hfr 0 0 _ rfl
  refine lv_aload_n C.1 C.2.1 dX12_jobs_5 rfl (lv_at hl 0 rfl) ?_
  refine lv_iconst (v := 0) C.1 C.2.1 dX12_jobs_6 (by decide) ?_
  refine k_put (ws' := WM K ad (uI (uI t 0 0 0) 0 77 0)) (v := .int 0) C hP hD hS 0 rfl rfl inlX12 tyX12_ok nmX12 77 (by decide) m_78_14 rfl rfl rfl rfl rfl dX12_jobs_7 (fun H locs hP hD hS => ?_)
  have hok : okM (uI (uI t 0 0 0) 0 77 0) := ⟨okI_I hok.1 0 77 0 (show (0 : Int) ≤ (0 : Int32).toInt ∧ (0 : Int32).toInt ≤ 1280 from ⟨by decide, by decide⟩), hok.2.1, hok.2.2.1, hok.2.2.2.1, hok.2.2.2.2.1, hok.2.2.2.2.2.1, hok.2.2.2.2.2.2.1, trivial⟩
  have hfr : frA [(0, 0), (0, 2), (0, 5), (0, 6), (0, 7), (0, 9), (0, 10), (0, 11), (0, 12), (0, 14), (0, 15), (0, 16), (0, 17), (0, 18), (0, 30), (0, 31), (0, 35), (0, 36), (0, 38), (0, 41), (0, 42), (0, 43), (0, 44), (0, 45), (0, 46), (0, 47), (0, 48), (0, 51), (0, 52), (0, 60), (0, 67), (0, 68), (0, 69), (0, 70), (0, 71), (0, 72), (0, 73), (0, 77), (0, 78), (0, 79), (0, 80), (0, 81), (0, 82), (0, 83), (0, 88), (0, 90), (0, 91), (0, 93)] [(0, 8), (0, 13)] [2, 3, 5, 7, 8, 9, 10, 11, 12, 13, 14, 15, 16, 17, 18, 19, 20, 21, 22, 24, 25, 26, 27, 28, 29, 30, 31, 32, 33, 34, 35, 36, 37, 38, 39, 40, 41, 42, 43, 44] [4, 6, 23] t (uI (uI t 0 0 0) 0 77 0) := frA_I hfr 0 77 _ rfl
  refine lv_iconst (v := 0) C.1 C.2.1 dX12_jobs_10 (by decide) ?_
  refine lv_istore_n (lv' := [(1, .int 0), (0, .ref (ad 0))]) C.1 C.2.1 dX12_jobs_11 rfl hl (by decide) rfl (fun ls hl => ?_)
  have hl : lv_has ls 5 [(0, .ref (ad 0)), (1, .int 0)] := lv_sub hl [1, 0] rfl
  exact L_12 1400 (uI (uI t 0 0 0) 0 77 0) 0 _ _ _ hok hfr ⟨by decide, by decide⟩ (show (0 : Int) ≤ (0 : Int32).toInt ∧ (0 : Int32).toInt ≤ 0 from ⟨by decide, by decide⟩) (show 0 ≤ 0 from by omega) (show 0 ≤ (t.1 0 2).toInt + 1 from by omega) (show 0 ≤ 0 from by omega) (show lnS 0 (t.2.2.1 37) (t.2.2.1 38) from by first | exact lnS_0 (by omega) | exact lnS_up (n := (t1.1 0 77)) (f := (t.2.2.1 37)) (g := (t.2.2.1 38)) hi12_3 (by omega) (by omega) (by omega) (fun w h1 h2 => by have := hi12_4 w h1 (by omega); omega)) (show ∀ w : Int32, 0 ≤ w.toInt → w.toInt + 1 = 0 → 0 = ((t.2.2.1 38) w.toNatClampNeg).toInt + 1 from by intro w h1 h2; first | (exfalso; omega) | (have hw : w = (t1.1 0 77) := Int32.toInt_inj.mp (by omega); rw [hw]; show _ = (upd _ _ _ _).toInt + 1; rw [pk_us]; omega)) (show dkI (t.2.2.1 1) (t.2.2.1 37) (t.2.2.1 38) 0 0 ((t.1 0 2).toInt).toNat from by first | exact dkI_0 | exact dkI_up (k := (t1.1 0 77)) (dF := (t1.2.2.1 37)) (dT := (t1.2.2.1 38)) (w := w12_1) hi12_5 (by omega) (by omega) hle (by omega) (by omega)) (show (t.1 0 2).toInt = (t.1 0 2).toInt from by omega) (show (1300 - 0) < ((1400 : Nat) : Int) from by omega) hP hD hS (lv_sub hl [0, 1] rfl)
