set_option maxHeartbeats 4000000 in
set_option maxRecDepth 100000 in
theorem U_X12_lay (l : Launch) (D : va_G) (K : Nat → ClassId) (Z Y : Nat → Nat) (ad : Nat → Nat) (t : tSt) (hok : okM t) (x1 : Int32) (hs0 : (t.1 0 2).toInt ≤ 1276) : tMet l yX12_lay cX12_lay 3 none (rmD 0 0 0) D K Z Y [.ref (ad 0), .int x1] (WM K ad t) (QV D K (fun (u : tSt) => okM u ∧ frA [(0, 2)] [] [1] [] t u ∧ ((u.1 0 2).toInt = (t.1 0 2).toInt + 4) ∧ (∀ i : Nat, (i : Int) < (t.1 0 2).toInt → (u.2.2.1 1) i = (t.2.2.1 1) i) ∧ (∀ k : Nat, k < 4 → (u.2.2.1 1) (((t.1 0 2).toInt).toNat + k) = bK x1 k)) (fun (u : tSt) => WM K ad u)) 0 0 := by
  refine t_met RX12 ⟨rfl, by decide +kernel⟩ (Nat.le_of_ble_eq_true rfl) ?_
  intro p e s m below meth c A ls C hE hZ hr hlocks hA hP hD hS hl
  have hl : lv_has ls 3 [(0, .ref (ad 0)), (1, .int x1)] := hl
  have hokt := hok
  have hfr : frA [(0, 2)] [] [1] [] t t := frA_rf
  have h_1 : (0 : Int) ≤ (t.1 0 2).toInt ∧ (t.1 0 2).toInt ≤ 1280 := hok.1 0 2
  have L_3 : ∀ (fuel_3 : Nat) (t1 : tSt) (w3_2 : Int32) (H : Heap) (locs : List Loc) (ls : Array Slot), okM t1 → frA [(0, 2)] [] [1] [] t t1 → (-128 : Int) ≤ w3_2.toInt ∧ w3_2.toInt ≤ 24 → ((t1.1 0 2).toInt * 8 + w3_2.toInt = (t.1 0 2).toInt * 8 + 24) → (-8 ≤ w3_2.toInt) → (∀ i : Nat, (i : Int) < (t.1 0 2).toInt → (t1.2.2.1 1) i = (t.2.2.1 1) i) → (∀ k : Nat, (k : Int) < (t1.1 0 2).toInt - (t.1 0 2).toInt → (t1.2.2.1 1) (((t.1 0 2).toInt).toNat + k) = bK x1 k) → w3_2.toInt - (-128 : Int) < (fuel_3 : Int) → va_P D vwCl (WM K ad t1) H → va_D A (WM K ad t1) → va_S A s.heap H locs → lv_has ls 3 [(0, .ref (ad 0)), (1, .int x1), (2, .int w3_2)] → W p l e (rmD 0 0 0) s m [.ref (ad 0), .int x1].toArray below meth c H locs 0 0 (MQ below (QV D K (fun (u : tSt) => okM u ∧ frA [(0, 2)] [] [1] [] t u ∧ ((u.1 0 2).toInt = (t.1 0 2).toInt + 4) ∧ (∀ i : Nat, (i : Int) < (t.1 0 2).toInt → (u.2.2.1 1) i = (t.2.2.1 1) i) ∧ (∀ k : Nat, k < 4 → (u.2.2.1 1) (((t.1 0 2).toInt).toNat + k) = bK x1 k)) (fun (u : tSt) => WM K ad u) A) [.ref (ad 0), .int x1].toArray s 0 0 A) (F0 m 3 ls []) := by
    intro fuel_3
    induction fuel_3 with
    | zero =>
      intro t1 w3_2 H locs ls hok hfr hw3_2 hi3_0 hi3_1 hi3_2 hi3_3 hm3_3 hP hD hS hl
      have h_2 : (0 : Int) ≤ (t1.1 0 2).toInt ∧ (t1.1 0 2).toInt ≤ 1280 := hok.1 0 2
      exact absurd hm3_3 (by omega)
    | succ fuel_3 ih_3 =>
      intro t1 w3_2 H locs ls hok hfr hw3_2 hi3_0 hi3_1 hi3_2 hi3_3 hm3_3 hP hD hS hl
      have hm3_3 : w3_2.toInt - (-128 : Int) < (fuel_3 : Int) + 1 := by omega
      have h_3 : (0 : Int) ≤ (t1.1 0 2).toInt ∧ (t1.1 0 2).toInt ≤ 1280 := hok.1 0 2
      refine lv_iload_n C.1 C.2.1 dX12_lay_3 rfl (lv_at hl 2 rfl) ?_
      refine lv_if_lt (tgt := 36) C.1 C.2.1 dX12_lay_4 (by decide) (fun c_4 => ?_) (fun c_4 => ?_)
      · replace c_4 : w3_2.toInt < 0 := i_lt c_4
        exact g_vret C hr hlocks hP hD hS t1 rfl ⟨hok, hfr, (show (t1.1 0 2).toInt = (t.1 0 2).toInt + 4 from by omega), (show ∀ i : Nat, (i : Int) < (t.1 0 2).toInt → (t1.2.2.1 1) i = (t.2.2.1 1) i from by exact hi3_2), (show ∀ k : Nat, k < 4 → (t1.2.2.1 1) (((t.1 0 2).toInt).toNat + k) = bK x1 k from by intro k hk; exact hi3_3 k (by omega))⟩ (Nat.le_of_ble_eq_true rfl) (Nat.le_of_ble_eq_true rfl) dX12_lay_36
      · replace c_4 : 0 ≤ w3_2.toInt := i_nlt c_4
        refine lv_aload_n C.1 C.2.1 dX12_lay_7 rfl (lv_at hl 0 rfl) ?_
        refine k_get (v := .ref (ad 1)) C hP 0 rfl rfl inlX12 1 (by decide) m_7_4 rfl dX12_lay_8 ?_
        refine lv_aload_n C.1 C.2.1 dX12_lay_11 rfl (lv_at hl 0 rfl) ?_
        refine k_get (v := .int (t1.1 0 2)) C hP 0 rfl rfl inlX12 2 (by decide) m_9_19 rfl dX12_lay_12 ?_
        refine lv_iload_n C.1 C.2.1 dX12_lay_15 rfl (lv_at hl 1 rfl) ?_
        refine lv_iload_n C.1 C.2.1 dX12_lay_16 rfl (lv_at hl 2 rfl) ?_
        obtain ⟨v_5, e_6⟩ : ∃ z, z = (x1 : Int32) >>> ((w3_2 : Int32) &&& 31) := ⟨_, rfl⟩
        refine k_ishr (v := v_5) C e_6.symm dX12_lay_17 ?_
        obtain ⟨v_8, e_9⟩ : ∃ z, z = (v_5 : Int32).toInt8.toInt32 := ⟨_, rfl⟩
        have h_10 : (-128 : Int) ≤ v_8.toInt ∧ v_8.toInt ≤ 127 := by rw [e_9]; exact nar_byte _
        refine lv_i2b (v := v_8) C.1 C.2.1 dX12_lay_18 e_9.symm ?_
        obtain ⟨v_11, e_12⟩ : ∃ z, z = vp_nar .byte v_8 := ⟨_, rfl⟩
        have h_13 : (-128 : Int) ≤ v_11.toInt ∧ v_11.toInt ≤ 127 := by rw [e_12]; exact nar_byte _
        refine k_bst (ws' := WM K ad (uB t1 1 ((t1.1 0 2) : Int32).toNatClampNeg v_11)) (x' := v_11) C hP hD hS 1 rfl (vp_in_iff.mpr ⟨by omega, by omega⟩) rfl e_12.symm rfl dX12_lay_19 (fun H locs hP hD hS => ?_)
        have hok : okM (uB t1 1 ((t1.1 0 2) : Int32).toNatClampNeg v_11) := ⟨hok.1, okB_B hok.2.1 1 _ v_11 (show (-3999 : Int) ≤ (v_11 : Int32).toInt ∧ (v_11 : Int32).toInt ≤ 127 from ⟨by omega, by omega⟩), hok.2.2.1, hok.2.2.2.1, hok.2.2.2.2.1, hok.2.2.2.2.2.1, hok.2.2.2.2.2.2.1, trivial⟩
        have hfr : frA [(0, 2)] [] [1] [] t (uB t1 1 ((t1.1 0 2) : Int32).toNatClampNeg v_11) := frA_B hfr 1 _ _ rfl
        refine lv_aload_n C.1 C.2.1 dX12_lay_20 rfl (lv_at hl 0 rfl) ?_
        refine lv_dup C.1 C.2.1 dX12_lay_21 rfl ?_
        refine k_get (v := .int (t1.1 0 2)) C hP 0 rfl rfl inlX12 2 (by decide) m_9_19 rfl dX12_lay_22 ?_
        refine lv_iconst (v := 1) C.1 C.2.1 dX12_lay_25 (by decide) ?_
        obtain ⟨v_14, e_15⟩ : ∃ z, z = ((t1.1 0 2) : Int32) + (1 : Int32) := ⟨_, rfl⟩
        have h_16 : v_14.toInt = (t1.1 0 2).toInt + 1 := by rw [e_15]; exact ti_iadd (by show (_ : Int) ≤ (t1.1 0 2).toInt + 1; omega) (by show (t1.1 0 2).toInt + 1 < (_ : Int); omega)
        refine k_iadd (v := v_14) C e_15.symm dX12_lay_26 ?_
        refine k_put (ws' := WM K ad (uI (uB t1 1 ((t1.1 0 2) : Int32).toNatClampNeg v_11) 0 2 v_14)) (v := .int v_14) C hP hD hS 0 rfl rfl inlX12 tyX12_ok nmX12 2 (by decide) m_9_19 rfl rfl rfl rfl rfl dX12_lay_27 (fun H locs hP hD hS => ?_)
        have hok : okM (uI (uB t1 1 ((t1.1 0 2) : Int32).toNatClampNeg v_11) 0 2 v_14) := ⟨okI_I hok.1 0 2 v_14 (show (0 : Int) ≤ (v_14 : Int32).toInt ∧ (v_14 : Int32).toInt ≤ 1280 from ⟨by omega, by omega⟩), hok.2.1, hok.2.2.1, hok.2.2.2.1, hok.2.2.2.2.1, hok.2.2.2.2.2.1, hok.2.2.2.2.2.2.1, trivial⟩
        have hfr : frA [(0, 2)] [] [1] [] t (uI (uB t1 1 ((t1.1 0 2) : Int32).toNatClampNeg v_11) 0 2 v_14) := frA_I hfr 0 2 _ rfl
        obtain ⟨v_17, e_18⟩ : ∃ z, z = w3_2 + (-8) := ⟨_, rfl⟩
        have h_19 : v_17.toInt = w3_2.toInt + (-8) := by rw [e_18]; exact ti_iadd (by show (_ : Int) ≤ w3_2.toInt + (-8); omega) (by show w3_2.toInt + (-8) < (_ : Int); omega)
        refine lv_iinc (v := v_17) (lv' := [(2, .int v_17), (0, .ref (ad 0)), (1, .int x1)]) C.1 C.2.1 dX12_lay_30 hl (k := 2) rfl e_18.symm (by decide) rfl (fun ls hl => ?_)
        have hl : lv_has ls 3 [(0, .ref (ad 0)), (1, .int x1), (2, .int v_17)] := lv_sub hl [1, 2, 0] rfl
        refine lv_goto (tgt := 3) C.1 C.2.1 dX12_lay_33 (by decide) ?_
        exact ih_3 (uI (uB t1 1 ((t1.1 0 2) : Int32).toNatClampNeg v_11) 0 2 v_14) v_17 _ _ _ hok hfr ⟨by omega, by omega⟩ (show v_14.toInt * 8 + v_17.toInt = (t.1 0 2).toInt * 8 + 24 from by omega) (show -8 ≤ v_17.toInt from by omega) (show ∀ i : Nat, (i : Int) < (t.1 0 2).toInt → ((uI (uB t1 1 ((t1.1 0 2) : Int32).toNatClampNeg v_11) 0 2 v_14).2.2.1 1) i = (t.2.2.1 1) i from by intro i hi; first | rfl | exact row_old (by omega) (hi3_2 i hi)) (show ∀ k : Nat, (k : Int) < v_14.toInt - (t.1 0 2).toInt → ((uI (uB t1 1 ((t1.1 0 2) : Int32).toNatClampNeg v_11) 0 2 v_14).2.2.1 1) (((t.1 0 2).toInt).toNat + k) = bK x1 k from by intro k hk; first | (exfalso; omega) | (by_cases hz : (k : Int) < (t1.1 0 2).toInt - (t.1 0 2).toInt; exact row_old (by omega) (hi3_3 k hz); exact row_new (by omega) (bK_st (by assumption) (by assumption) (by assumption) (by omega) (by omega)))) (show v_17.toInt - (-128 : Int) < (fuel_3 : Int) from by omega) hP hD hS (lv_sub hl [0, 1, 2] rfl)
  refine lv_bipush (v := 24) C.1 C.2.1 dX12_lay_0 (by decide) ?_
  refine lv_istore_n (lv' := [(2, .int 24), (0, .ref (ad 0)), (1, .int x1)]) C.1 C.2.1 dX12_lay_2 rfl hl (by decide) rfl (fun ls hl => ?_)
  have hl : lv_has ls 3 [(0, .ref (ad 0)), (1, .int x1), (2, .int 24)] := lv_sub hl [1, 2, 0] rfl
  exact L_3 153 t 24 _ _ _ hok hfr ⟨by decide, by decide⟩ (show (t.1 0 2).toInt * 8 + 24 = (t.1 0 2).toInt * 8 + 24 from by omega) (show -8 ≤ 24 from by omega) (show ∀ i : Nat, (i : Int) < (t.1 0 2).toInt → (t.2.2.1 1) i = (t.2.2.1 1) i from by intro i hi; first | rfl | exact row_old (by omega) (hi3_2 i hi)) (show ∀ k : Nat, (k : Int) < (t.1 0 2).toInt - (t.1 0 2).toInt → (t.2.2.1 1) (((t.1 0 2).toInt).toNat + k) = bK x1 k from by intro k hk; first | (exfalso; omega) | (by_cases hz : (k : Int) < (t1.1 0 2).toInt - (t.1 0 2).toInt; exact row_old (by omega) (hi3_3 k hz); exact row_new (by omega) (bK_st (by assumption) (by assumption) (by assumption) (by omega) (by omega)))) (show 24 - (-128 : Int) < ((153 : Nat) : Int) from by omega) hP hD hS (lv_sub hl [0, 1, 2] rfl)

set_option maxHeartbeats 4000000 in
set_option maxRecDepth 100000 in
theorem U_X12_feed (l : Launch) (D : va_G) (K : Nat → ClassId) (Z Y : Nat → Nat) (ad : Nat → Nat) (t : tSt) (hok : okM t) (x1 : Int32) (x2 : Int32) (x3 : Int32) (x4 : Int32) (x5 : Int32) (hs0 : (t.1 0 2).toInt ≤ 1260) : tMet l yX12_feed cX12_feed 6 (some .boolean) (rmD 1 0 0) D K Z Y [.ref (ad 0), .int x1, .int x2, .int x3, .int x4, .int x5] (WM K ad t) (QI D K (fun (r : Int32) (u : tSt) => okM u ∧ frA [(0, 0), (0, 2)] [] [1] [] t u ∧ (1 : Int) ≤ r.toInt ∧ r.toInt ≤ 1 ∧ (r.toInt = 1) ∧ ((u.1 0 2).toInt = (t.1 0 2).toInt + 20) ∧ (r.toInt = 1 → fdT (t.2.2.1 1) (u.2.2.1 1) (t.1 0 2).toInt x1 x2 x3 x4 x5)) (fun (u : tSt) => WM K ad u)) 0 0 := by
  refine t_met RX12 ⟨rfl, by decide +kernel⟩ (Nat.le_of_ble_eq_true rfl) ?_
  intro p e s m below meth c A ls C hE hZ hr hlocks hA hP hD hS hl
  have hl : lv_has ls 6 [(0, .ref (ad 0)), (1, .int x1), (2, .int x2), (3, .int x3), (4, .int x4), (5, .int x5)] := hl
  have hokt := hok
  have hfr : frA [(0, 0), (0, 2)] [] [1] [] t t := frA_rf
  have h_1 : (0 : Int) ≤ (t.1 0 2).toInt ∧ (t.1 0 2).toInt ≤ 1280 := hok.1 0 2
  refine lv_aload_n C.1 C.2.1 dX12_feed_0 rfl (lv_at hl 0 rfl) ?_
  refine lv_iconst (v := 0) C.1 C.2.1 dX12_feed_1 (by decide) ?_
  refine k_put (ws' := WM K ad (uI t 0 0 0)) (v := .int 0) C hP hD hS 0 rfl rfl inlX12 tyX12_ok nmX12 0 (by decide) m_9_18 rfl rfl rfl rfl rfl dX12_feed_2 (fun H locs hP hD hS => ?_)
  have hok : okM (uI t 0 0 0) := ⟨okI_I hok.1 0 0 0 (show (0 : Int) ≤ (0 : Int32).toInt ∧ (0 : Int32).toInt ≤ 1 from ⟨by decide, by decide⟩), hok.2.1, hok.2.2.1, hok.2.2.2.1, hok.2.2.2.2.1, hok.2.2.2.2.2.1, hok.2.2.2.2.2.2.1, trivial⟩
  have hfr : frA [(0, 0), (0, 2)] [] [1] [] t (uI t 0 0 0) := frA_I hfr 0 0 _ rfl
  refine lv_aload_n C.1 C.2.1 dX12_feed_5 rfl (lv_at hl 0 rfl) ?_
  refine k_get (v := .int (t.1 0 2)) C hP 0 rfl rfl inlX12 2 (by decide) m_9_19 rfl dX12_feed_6 ?_
  refine lv_bipush (v := 20) C.1 C.2.1 dX12_feed_9 (by decide) ?_
  obtain ⟨v_2, e_3⟩ : ∃ z, z = ((t.1 0 2) : Int32) + (20 : Int32) := ⟨_, rfl⟩
  have h_4 : v_2.toInt = (t.1 0 2).toInt + 20 := by rw [e_3]; exact ti_iadd (by show (_ : Int) ≤ (t.1 0 2).toInt + 20; omega) (by show (t.1 0 2).toInt + 20 < (_ : Int); omega)
  refine k_iadd (v := v_2) C e_3.symm dX12_feed_11 ?_
  refine lv_sipush (v := 8192) C.1 C.2.1 dX12_feed_12 (by decide) ?_
  refine lv_icmp_le (tgt := 20) C.1 C.2.1 dX12_feed_15 (by decide) (fun c_5 => ?_) (fun c_5 => False.elim (by have c_5 : 8192 < v_2.toInt := i_nle c_5; omega))
  replace c_5 : v_2.toInt ≤ 8192 := i_le c_5
  refine lv_aload_n C.1 C.2.1 dX12_feed_20 rfl (lv_at hl 0 rfl) ?_
  refine lv_iload_n C.1 C.2.1 dX12_feed_21 rfl (lv_at hl 1 rfl) ?_
  refine g_Vv (As := [.int x1]) (rest := []) C hP hD hS hA (U_X12_lay l D K Z Y ad (uI t 0 0 0) hok (x1) (show (t.1 0 2).toInt ≤ 1276 from by omega)) hE hZ (uwV m_9_20 m_9_21 m_9_22 m_1_5 m_9_23) (hdV 1 (by decide +kernel) rfl) ⟨Nat.le_of_ble_eq_true rfl, Nat.le_of_ble_eq_true rfl⟩ rfl rfl (ci := 11) (q0 := 0) rfl rfl rfl hl.1 (Nat.le_of_ble_eq_true rfl) dX12_feed_22 ⟨Nat.le_of_ble_eq_true rfl, Nat.le_of_ble_eq_true rfl⟩ (fun t_6 H locs hw hP hD hS => ?_)
  obtain ⟨hok, f_8, p_9, p_10, p_11⟩ := hw
  have hfr : frA [(0, 0), (0, 2)] [] [1] [] t t_6 := frA_tr hfr f_8 rfl
  have h_12 : (t_6.1 0 0).toInt = 0 := by rw [show (t_6.1 0 0) = (0 : Int32) from f_8.1 0 0 rfl]; rfl
  have h_13 : (0 : Int) ≤ (t_6.1 0 2).toInt ∧ (t_6.1 0 2).toInt ≤ 1280 := hok.1 0 2
  replace p_9 : (t_6.1 0 2).toInt = (t.1 0 2).toInt + 4 := p_9
  replace p_10 : ∀ i : Nat, (i : Int) < (t.1 0 2).toInt → (t_6.2.2.1 1) i = (t.2.2.1 1) i := p_10
  replace p_11 : ∀ k : Nat, k < 4 → (t_6.2.2.1 1) (((t.1 0 2).toInt).toNat + k) = bK x1 k := p_11
  have a1 := p_10
  have b1 := p_11
  have n1 := p_9
  refine lv_aload_n C.1 C.2.1 dX12_feed_25 rfl (lv_at hl 0 rfl) ?_
  refine lv_iload_n C.1 C.2.1 dX12_feed_26 rfl (lv_at hl 2 rfl) ?_
  refine g_Vv (As := [.int x2]) (rest := []) C hP hD hS hA (U_X12_lay l D K Z Y ad t_6 hok (x2) (show (t_6.1 0 2).toInt ≤ 1276 from by omega)) hE hZ (uwV m_9_20 m_9_21 m_9_22 m_1_5 m_9_23) (hdV 1 (by decide +kernel) rfl) ⟨Nat.le_of_ble_eq_true rfl, Nat.le_of_ble_eq_true rfl⟩ rfl rfl (ci := 11) (q0 := 0) rfl rfl rfl hl.1 (Nat.le_of_ble_eq_true rfl) dX12_feed_27 ⟨Nat.le_of_ble_eq_true rfl, Nat.le_of_ble_eq_true rfl⟩ (fun t_14 H locs hw hP hD hS => ?_)
  obtain ⟨hok, f_16, p_17, p_18, p_19⟩ := hw
  have hfr : frA [(0, 0), (0, 2)] [] [1] [] t t_14 := frA_tr hfr f_16 rfl
  have h_20 : (t_14.1 0 0).toInt = (t_6.1 0 0).toInt := ti_eq (f_16.1 0 0 rfl)
  have h_21 : (0 : Int) ≤ (t_14.1 0 2).toInt ∧ (t_14.1 0 2).toInt ≤ 1280 := hok.1 0 2
  replace p_17 : (t_14.1 0 2).toInt = (t_6.1 0 2).toInt + 4 := p_17
  replace p_18 : ∀ i : Nat, (i : Int) < (t_6.1 0 2).toInt → (t_14.2.2.1 1) i = (t_6.2.2.1 1) i := p_18
  replace p_19 : ∀ k : Nat, k < 4 → (t_14.2.2.1 1) (((t_6.1 0 2).toInt).toNat + k) = bK x2 k := p_19
  have a2 := p_18
  have b2 := p_19
  have n2 := p_17
  refine lv_aload_n C.1 C.2.1 dX12_feed_30 rfl (lv_at hl 0 rfl) ?_
  refine lv_iload_n C.1 C.2.1 dX12_feed_31 rfl (lv_at hl 3 rfl) ?_
  refine g_Vv (As := [.int x3]) (rest := []) C hP hD hS hA (U_X12_lay l D K Z Y ad t_14 hok (x3) (show (t_14.1 0 2).toInt ≤ 1276 from by omega)) hE hZ (uwV m_9_20 m_9_21 m_9_22 m_1_5 m_9_23) (hdV 1 (by decide +kernel) rfl) ⟨Nat.le_of_ble_eq_true rfl, Nat.le_of_ble_eq_true rfl⟩ rfl rfl (ci := 11) (q0 := 0) rfl rfl rfl hl.1 (Nat.le_of_ble_eq_true rfl) dX12_feed_32 ⟨Nat.le_of_ble_eq_true rfl, Nat.le_of_ble_eq_true rfl⟩ (fun t_22 H locs hw hP hD hS => ?_)
  obtain ⟨hok, f_24, p_25, p_26, p_27⟩ := hw
  have hfr : frA [(0, 0), (0, 2)] [] [1] [] t t_22 := frA_tr hfr f_24 rfl
  have h_28 : (t_22.1 0 0).toInt = (t_14.1 0 0).toInt := ti_eq (f_24.1 0 0 rfl)
  have h_29 : (0 : Int) ≤ (t_22.1 0 2).toInt ∧ (t_22.1 0 2).toInt ≤ 1280 := hok.1 0 2
  replace p_25 : (t_22.1 0 2).toInt = (t_14.1 0 2).toInt + 4 := p_25
  replace p_26 : ∀ i : Nat, (i : Int) < (t_14.1 0 2).toInt → (t_22.2.2.1 1) i = (t_14.2.2.1 1) i := p_26
  replace p_27 : ∀ k : Nat, k < 4 → (t_22.2.2.1 1) (((t_14.1 0 2).toInt).toNat + k) = bK x3 k := p_27
  have a3 := p_26
  have b3 := p_27
  have n3 := p_25
  refine lv_aload_n C.1 C.2.1 dX12_feed_35 rfl (lv_at hl 0 rfl) ?_
  refine lv_iload C.1 C.2.1 dX12_feed_36 (lv_at hl 4 rfl) ?_
  refine g_Vv (As := [.int x4]) (rest := []) C hP hD hS hA (U_X12_lay l D K Z Y ad t_22 hok (x4) (show (t_22.1 0 2).toInt ≤ 1276 from by omega)) hE hZ (uwV m_9_20 m_9_21 m_9_22 m_1_5 m_9_23) (hdV 1 (by decide +kernel) rfl) ⟨Nat.le_of_ble_eq_true rfl, Nat.le_of_ble_eq_true rfl⟩ rfl rfl (ci := 11) (q0 := 0) rfl rfl rfl hl.1 (Nat.le_of_ble_eq_true rfl) dX12_feed_38 ⟨Nat.le_of_ble_eq_true rfl, Nat.le_of_ble_eq_true rfl⟩ (fun t_30 H locs hw hP hD hS => ?_)
  obtain ⟨hok, f_32, p_33, p_34, p_35⟩ := hw
  have hfr : frA [(0, 0), (0, 2)] [] [1] [] t t_30 := frA_tr hfr f_32 rfl
  have h_36 : (t_30.1 0 0).toInt = (t_22.1 0 0).toInt := ti_eq (f_32.1 0 0 rfl)
  have h_37 : (0 : Int) ≤ (t_30.1 0 2).toInt ∧ (t_30.1 0 2).toInt ≤ 1280 := hok.1 0 2
  replace p_33 : (t_30.1 0 2).toInt = (t_22.1 0 2).toInt + 4 := p_33
  replace p_34 : ∀ i : Nat, (i : Int) < (t_22.1 0 2).toInt → (t_30.2.2.1 1) i = (t_22.2.2.1 1) i := p_34
  replace p_35 : ∀ k : Nat, k < 4 → (t_30.2.2.1 1) (((t_22.1 0 2).toInt).toNat + k) = bK x4 k := p_35
  have a4 := p_34
  have b4 := p_35
  have n4 := p_33
  refine lv_aload_n C.1 C.2.1 dX12_feed_41 rfl (lv_at hl 0 rfl) ?_
  refine lv_iload C.1 C.2.1 dX12_feed_42 (lv_at hl 5 rfl) ?_
  refine g_Vv (As := [.int x5]) (rest := []) C hP hD hS hA (U_X12_lay l D K Z Y ad t_30 hok (x5) (show (t_30.1 0 2).toInt ≤ 1276 from by omega)) hE hZ (uwV m_9_20 m_9_21 m_9_22 m_1_5 m_9_23) (hdV 1 (by decide +kernel) rfl) ⟨Nat.le_of_ble_eq_true rfl, Nat.le_of_ble_eq_true rfl⟩ rfl rfl (ci := 11) (q0 := 0) rfl rfl rfl hl.1 (Nat.le_of_ble_eq_true rfl) dX12_feed_44 ⟨Nat.le_of_ble_eq_true rfl, Nat.le_of_ble_eq_true rfl⟩ (fun t_38 H locs hw hP hD hS => ?_)
  obtain ⟨hok, f_40, p_41, p_42, p_43⟩ := hw
  have hfr : frA [(0, 0), (0, 2)] [] [1] [] t t_38 := frA_tr hfr f_40 rfl
  have h_44 : (t_38.1 0 0).toInt = (t_30.1 0 0).toInt := ti_eq (f_40.1 0 0 rfl)
  have h_45 : (0 : Int) ≤ (t_38.1 0 2).toInt ∧ (t_38.1 0 2).toInt ≤ 1280 := hok.1 0 2
  replace p_41 : (t_38.1 0 2).toInt = (t_30.1 0 2).toInt + 4 := p_41
  replace p_42 : ∀ i : Nat, (i : Int) < (t_30.1 0 2).toInt → (t_38.2.2.1 1) i = (t_30.2.2.1 1) i := p_42
  replace p_43 : ∀ k : Nat, k < 4 → (t_38.2.2.1 1) (((t_30.1 0 2).toInt).toNat + k) = bK x5 k := p_43
  have a5 := p_42
  have b5 := p_43
  have n5 := p_41
  refine lv_iconst (v := 1) C.1 C.2.1 dX12_feed_47 (by decide) ?_
  exact g_iret C hr hlocks hP hD hS (by decide) t_38 rfl ⟨hok, hfr, by decide, by decide, (show 1 = 1 from by omega), (show (t_38.1 0 2).toInt = (t.1 0 2).toInt + 20 from by omega), (show 1 = 1 → fdT (t.2.2.1 1) (t_38.2.2.1 1) (t.1 0 2).toInt x1 x2 x3 x4 x5 from by intro _; exact fd_all (by omega) n1 n2 n3 n4 a1 b1 a2 b2 a3 b3 a4 b4 a5 b5)⟩ (Nat.le_of_ble_eq_true rfl) (Nat.le_of_ble_eq_true rfl) dX12_feed_48

set_option maxHeartbeats 4000000 in
set_option maxRecDepth 100000 in
theorem U_X12_isDigit (l : Launch) (D : va_G) (K : Nat → ClassId) (Z Y : Nat → Nat) (ad : Nat → Nat) (t : tSt) (hok : okM t) (x0 : Int32) (hx0 : (0 : Int) ≤ x0.toInt ∧ x0.toInt ≤ 255) : tMet l yX12_isDigit cX12_isDigit 1 (some .boolean) (rmD 0 0 0) D K Z Y [.int x0] (WM K ad t) (QI D K (fun (r : Int32) (u : Unit) => (0 : Int) ≤ r.toInt ∧ r.toInt ≤ 1 ∧ (r.toInt = 1 ↔ (48 ≤ x0.toInt ∧ x0.toInt ≤ 57))) (fun (_ : Unit) => WM K ad t)) 0 0 := by
  refine t_met RX12 ⟨rfl, by decide +kernel⟩ (Nat.le_of_ble_eq_true rfl) ?_
  intro p e s m below meth c A ls C hE hZ hr hlocks hA hP hD hS hl
  have hl : lv_has ls 1 [(0, .int x0)] := hl
  refine lv_iload_n C.1 C.2.1 dX12_isDigit_0 rfl (lv_at hl 0 rfl) ?_
  refine lv_bipush (v := 48) C.1 C.2.1 dX12_isDigit_1 (by decide) ?_
  refine lv_icmp_lt (tgt := 16) C.1 C.2.1 dX12_isDigit_3 (by decide) (fun c_1 => ?_) (fun c_1 => ?_)
  · replace c_1 : x0.toInt < 48 := i_lt c_1
    refine lv_iconst (v := 0) C.1 C.2.1 dX12_isDigit_16 (by decide) ?_
    exact g_iret C hr hlocks hP hD hS (by decide) () rfl ⟨by decide, by decide, (show 0 = 1 ↔ (48 ≤ x0.toInt ∧ x0.toInt ≤ 57) from by omega)⟩ (Nat.le_of_ble_eq_true rfl) (Nat.le_of_ble_eq_true rfl) dX12_isDigit_17
  · replace c_1 : 48 ≤ x0.toInt := i_nlt c_1
    refine lv_iload_n C.1 C.2.1 dX12_isDigit_6 rfl (lv_at hl 0 rfl) ?_
    refine lv_bipush (v := 57) C.1 C.2.1 dX12_isDigit_7 (by decide) ?_
    refine lv_icmp_gt (tgt := 16) C.1 C.2.1 dX12_isDigit_9 (by decide) (fun c_2 => ?_) (fun c_2 => ?_)
    · replace c_2 : 57 < x0.toInt := i_lt c_2
      refine lv_iconst (v := 0) C.1 C.2.1 dX12_isDigit_16 (by decide) ?_
      exact g_iret C hr hlocks hP hD hS (by decide) () rfl ⟨by decide, by decide, (show 0 = 1 ↔ (48 ≤ x0.toInt ∧ x0.toInt ≤ 57) from by omega)⟩ (Nat.le_of_ble_eq_true rfl) (Nat.le_of_ble_eq_true rfl) dX12_isDigit_17
    · replace c_2 : x0.toInt ≤ 57 := i_nlt c_2
      refine lv_iconst (v := 1) C.1 C.2.1 dX12_isDigit_12 (by decide) ?_
      refine lv_goto (tgt := 17) C.1 C.2.1 dX12_isDigit_13 (by decide) ?_
      exact g_iret C hr hlocks hP hD hS (by decide) () rfl ⟨by decide, by decide, (show 1 = 1 ↔ (48 ≤ x0.toInt ∧ x0.toInt ≤ 57) from by omega)⟩ (Nat.le_of_ble_eq_true rfl) (Nat.le_of_ble_eq_true rfl) dX12_isDigit_17

set_option maxHeartbeats 4000000 in
set_option maxRecDepth 100000 in
theorem U_X12_isGreat (l : Launch) (D : va_G) (K : Nat → ClassId) (Z Y : Nat → Nat) (ad : Nat → Nat) (t : tSt) (hok : okM t) (x0 : Int32) (hx0 : (0 : Int) ≤ x0.toInt ∧ x0.toInt ≤ 255) : tMet l yX12_isGreat cX12_isGreat 1 (some .boolean) (rmD 0 0 0) D K Z Y [.int x0] (WM K ad t) (QI D K (fun (r : Int32) (u : Unit) => (0 : Int) ≤ r.toInt ∧ r.toInt ≤ 1 ∧ (r.toInt = 1 ↔ (65 ≤ x0.toInt ∧ x0.toInt ≤ 90))) (fun (_ : Unit) => WM K ad t)) 0 0 := by
  refine t_met RX12 ⟨rfl, by decide +kernel⟩ (Nat.le_of_ble_eq_true rfl) ?_
  intro p e s m below meth c A ls C hE hZ hr hlocks hA hP hD hS hl
  have hl : lv_has ls 1 [(0, .int x0)] := hl
  refine lv_iload_n C.1 C.2.1 dX12_isGreat_0 rfl (lv_at hl 0 rfl) ?_
  refine lv_bipush (v := 65) C.1 C.2.1 dX12_isGreat_1 (by decide) ?_
  refine lv_icmp_lt (tgt := 16) C.1 C.2.1 dX12_isGreat_3 (by decide) (fun c_1 => ?_) (fun c_1 => ?_)
  · replace c_1 : x0.toInt < 65 := i_lt c_1
    refine lv_iconst (v := 0) C.1 C.2.1 dX12_isGreat_16 (by decide) ?_
    exact g_iret C hr hlocks hP hD hS (by decide) () rfl ⟨by decide, by decide, (show 0 = 1 ↔ (65 ≤ x0.toInt ∧ x0.toInt ≤ 90) from by omega)⟩ (Nat.le_of_ble_eq_true rfl) (Nat.le_of_ble_eq_true rfl) dX12_isGreat_17
  · replace c_1 : 65 ≤ x0.toInt := i_nlt c_1
    refine lv_iload_n C.1 C.2.1 dX12_isGreat_6 rfl (lv_at hl 0 rfl) ?_
    refine lv_bipush (v := 90) C.1 C.2.1 dX12_isGreat_7 (by decide) ?_
    refine lv_icmp_gt (tgt := 16) C.1 C.2.1 dX12_isGreat_9 (by decide) (fun c_2 => ?_) (fun c_2 => ?_)
    · replace c_2 : 90 < x0.toInt := i_lt c_2
      refine lv_iconst (v := 0) C.1 C.2.1 dX12_isGreat_16 (by decide) ?_
      exact g_iret C hr hlocks hP hD hS (by decide) () rfl ⟨by decide, by decide, (show 0 = 1 ↔ (65 ≤ x0.toInt ∧ x0.toInt ≤ 90) from by omega)⟩ (Nat.le_of_ble_eq_true rfl) (Nat.le_of_ble_eq_true rfl) dX12_isGreat_17
    · replace c_2 : x0.toInt ≤ 90 := i_nlt c_2
      refine lv_iconst (v := 1) C.1 C.2.1 dX12_isGreat_12 (by decide) ?_
      refine lv_goto (tgt := 17) C.1 C.2.1 dX12_isGreat_13 (by decide) ?_
      exact g_iret C hr hlocks hP hD hS (by decide) () rfl ⟨by decide, by decide, (show 1 = 1 ↔ (65 ≤ x0.toInt ∧ x0.toInt ≤ 90) from by omega)⟩ (Nat.le_of_ble_eq_true rfl) (Nat.le_of_ble_eq_true rfl) dX12_isGreat_17

set_option maxHeartbeats 4000000 in
set_option maxRecDepth 100000 in
theorem U_X12_isWord (l : Launch) (D : va_G) (K : Nat → ClassId) (Z Y : Nat → Nat) (ad : Nat → Nat) (t : tSt) (hok : okM t) (x1 : Int32) (hx1 : (0 : Int) ≤ x1.toInt ∧ x1.toInt ≤ 1280) (i2 : Nat) (hi2 : sS i2) : tMet l yX12_isWord cX12_isWord 4 (some .boolean) (rmD 8 0 0) D K Z Y [.ref (ad 0), .int x1, .ref (Z i2)] (WM K ad t) (QI D K (fun (r : Int32) (u : Unit) => (0 : Int) ≤ r.toInt ∧ r.toInt ≤ 1 ∧ (r.toInt = 1 ↔ wBl (gD t x1) 0 i2)) (fun (_ : Unit) => WM K ad t)) 0 0 := by
  refine t_met RX12 ⟨rfl, by decide +kernel⟩ (Nat.le_of_ble_eq_true rfl) ?_
  intro p e s m below meth c A ls C hE hZ hr hlocks hA hP hD hS hl
  have hl : lv_has ls 4 [(0, .ref (ad 0)), (1, .int x1), (2, .ref (Z i2))] := hl
  have L_2 : ∀ (fuel_2 : Nat) (w2_3 : Int32) (H : Heap) (locs : List Loc) (ls : Array Slot), (0 : Int) ≤ w2_3.toInt ∧ w2_3.toInt ≤ 400 → (0 ≤ w2_3.toInt) → (∀ k : Nat, (k : Int) < w2_3.toInt → gD t x1 (0 + k) = (sByt i2).getD k 0) → (400 : Int) - w2_3.toInt < (fuel_2 : Int) → va_P D vwCl (WM K ad t) H → va_D A (WM K ad t) → va_S A s.heap H locs → lv_has ls 4 [(0, .ref (ad 0)), (1, .int x1), (2, .ref (Z i2)), (3, .int w2_3)] → W p l e (rmD 8 0 0) s m [.ref (ad 0), .int x1, .ref (Z i2)].toArray below meth c H locs 0 0 (MQ below (QI D K (fun (r : Int32) (u : Unit) => (0 : Int) ≤ r.toInt ∧ r.toInt ≤ 1 ∧ (r.toInt = 1 ↔ wBl (gD t x1) 0 i2)) (fun (_ : Unit) => WM K ad t) A) [.ref (ad 0), .int x1, .ref (Z i2)].toArray s 0 0 A) (F0 m 2 ls []) := by
    intro fuel_2
    induction fuel_2 with
    | zero =>
      intro w2_3 H locs ls hw2_3 hi2_0 hi2_1 hm2_2 hP hD hS hl
      exact absurd hm2_2 (by omega)
    | succ fuel_2 ih_2 =>
      intro w2_3 H locs ls hw2_3 hi2_0 hi2_1 hm2_2 hP hD hS hl
      have hm2_2 : (400 : Int) - w2_3.toInt < (fuel_2 : Int) + 1 := by omega
      refine lv_iload_n C.1 C.2.1 dX12_isWord_2 rfl (lv_at hl 3 rfl) ?_
      refine lv_aload_n C.1 C.2.1 dX12_isWord_3 rfl (lv_at hl 2 rfl) ?_
      refine g_Ti (As := []) (rest := [.int w2_3]) C hP hD hS hA (TJ_length l D K Z Y (WM K ad t) i2 (sS_lt hi2)) hE hZ (uwV m_79_5 m_14_22 m_14_23 m_14_8 m_15_0) (hdV 0 (by decide +kernel) rfl) ⟨Nat.le_of_ble_eq_true rfl, Nat.le_of_ble_eq_true rfl⟩ rfl rfl (i0 := i2) (sS_lt hi2) rfl rfl hl.1 (Nat.le_of_ble_eq_true rfl) dX12_isWord_4 ⟨Nat.le_of_ble_eq_true rfl, Nat.le_of_ble_eq_true rfl⟩ (fun r_1 u_r_1 H locs hw hP hD hS => ?_)
      have h_2 : r_1.toInt = sL i2 := hw
      have h_3 := sS_len hi2
      refine lv_icmp_ge (tgt := 34) C.1 C.2.1 dX12_isWord_7 (by decide) (fun c_4 => ?_) (fun c_4 => ?_)
      · replace c_4 : r_1.toInt ≤ w2_3.toInt := i_le c_4
        refine lv_aload_n C.1 C.2.1 dX12_isWord_34 rfl (lv_at hl 0 rfl) ?_
        refine lv_iload_n C.1 C.2.1 dX12_isWord_35 rfl (lv_at hl 1 rfl) ?_
        refine lv_aload_n C.1 C.2.1 dX12_isWord_36 rfl (lv_at hl 2 rfl) ?_
        refine g_Ti (As := []) (rest := [.int x1, .ref (ad 0)]) C hP hD hS hA (TJ_length l D K Z Y (WM K ad t) i2 (sS_lt hi2)) hE hZ (uwV m_79_5 m_14_22 m_14_23 m_14_8 m_15_0) (hdV 0 (by decide +kernel) rfl) ⟨Nat.le_of_ble_eq_true rfl, Nat.le_of_ble_eq_true rfl⟩ rfl rfl (i0 := i2) (sS_lt hi2) rfl rfl hl.1 (Nat.le_of_ble_eq_true rfl) dX12_isWord_37 ⟨Nat.le_of_ble_eq_true rfl, Nat.le_of_ble_eq_true rfl⟩ (fun r_5 u_r_5 H locs hw hP hD hS => ?_)
        have h_6 : r_5.toInt = sL i2 := hw
        have h_7 := sS_len hi2
        refine lv_iconst (v := 1) C.1 C.2.1 dX12_isWord_40 (by decide) ?_
        obtain ⟨v_8, e_9⟩ : ∃ z, z = (r_5 : Int32) + (1 : Int32) := ⟨_, rfl⟩
        have h_10 : v_8.toInt = r_5.toInt + 1 := by rw [e_9]; exact ti_iadd (by show (_ : Int) ≤ r_5.toInt + 1; omega) (by show r_5.toInt + 1 < (_ : Int); omega)
        refine k_iadd (v := v_8) C e_9.symm dX12_isWord_41 ?_
        refine g_Vi (As := [.int x1, .int v_8]) (rest := []) C hP hD hS hA (T_X12_deckLetter l D K Z Y ad t hok (x1) (show (0 : Int) ≤ (x1 : Int32).toInt ∧ (x1 : Int32).toInt ≤ 1280 from ⟨by omega, by omega⟩) (v_8) (show (1 : Int) ≤ (v_8 : Int32).toInt ∧ (v_8 : Int32).toInt ≤ 200 from ⟨by omega, by omega⟩)) hE hZ (uwV m_79_6 m_79_7 m_79_8 m_1_5 m_79_9) (hdV 2 (by decide +kernel) rfl) ⟨Nat.le_of_ble_eq_true rfl, Nat.le_of_ble_eq_true rfl⟩ rfl rfl (ci := 11) (q0 := 0) rfl rfl rfl hl.1 (Nat.le_of_ble_eq_true rfl) dX12_isWord_42 ⟨Nat.le_of_ble_eq_true rfl, Nat.le_of_ble_eq_true rfl⟩ (fun r_12 t_11 H locs hw hP hD hS => ?_)
        obtain ⟨h_14, h_15, p_16, p_17, p_18, p_19⟩ := hw
        replace p_16 : r_12 = fDeck t x1 v_8 := p_16
        replace p_17 : r_12.toInt = (fDeck t x1 v_8).toInt := p_17
        replace p_18 : ¬ r_12.toInt = 32 → (t.2.2.1 37 (x1 : Int32).toNatClampNeg).toInt + v_8.toInt ≤ (t.2.2.1 38 (x1 : Int32).toNatClampNeg).toInt := p_18
        replace p_19 : 81 ≤ v_8.toInt → r_12.toInt = 32 := p_19
        have hl2 := p_16
        refine lv_bipush (v := 32) C.1 C.2.1 dX12_isWord_45 (by decide) ?_
        refine lv_icmp_ne (tgt := 54) C.1 C.2.1 dX12_isWord_47 (by decide) (fun c_20 => ?_) (fun c_20 => ?_)
        · replace c_20 : ¬ r_12.toInt = 32 := i_ne c_20
          refine lv_iconst (v := 0) C.1 C.2.1 dX12_isWord_54 (by decide) ?_
          exact g_iret C hr hlocks hP hD hS (by decide) () rfl ⟨by decide, by decide, (show 0 = 1 ↔ wBl (gD t x1) 0 i2 from by first | exact iw_0 (fun hz => iw_no (c := 1) hz hl1 (by assumption) (by assumption) (by omega) (by omega) (by decide) (by have hq : (1 : Int32).toInt = 1 := rfl; omega)) | exact iw_00 (iw_bl (a := 0) (by omega) hl2) (by omega) | exact iw_1 (fun k hk => hi2_1 k (by have hq : sL i2 = ((sByt i2).length : Int) := rfl; omega)) (iw_bl (a := 0) (by omega) hl2) (by omega))⟩ (Nat.le_of_ble_eq_true rfl) (Nat.le_of_ble_eq_true rfl) dX12_isWord_55
        · replace c_20 : r_12.toInt = 32 := i_eq c_20
          refine lv_iconst (v := 1) C.1 C.2.1 dX12_isWord_50 (by decide) ?_
          refine lv_goto (tgt := 55) C.1 C.2.1 dX12_isWord_51 (by decide) ?_
          exact g_iret C hr hlocks hP hD hS (by decide) () rfl ⟨by decide, by decide, (show 1 = 1 ↔ wBl (gD t x1) 0 i2 from by first | exact iw_0 (fun hz => iw_no (c := 1) hz hl1 (by assumption) (by assumption) (by omega) (by omega) (by decide) (by have hq : (1 : Int32).toInt = 1 := rfl; omega)) | exact iw_00 (iw_bl (a := 0) (by omega) hl2) (by omega) | exact iw_1 (fun k hk => hi2_1 k (by have hq : sL i2 = ((sByt i2).length : Int) := rfl; omega)) (iw_bl (a := 0) (by omega) hl2) (by omega))⟩ (Nat.le_of_ble_eq_true rfl) (Nat.le_of_ble_eq_true rfl) dX12_isWord_55
      · replace c_4 : w2_3.toInt < r_1.toInt := i_nle c_4
        refine lv_aload_n C.1 C.2.1 dX12_isWord_10 rfl (lv_at hl 0 rfl) ?_
        refine lv_iload_n C.1 C.2.1 dX12_isWord_11 rfl (lv_at hl 1 rfl) ?_
        refine lv_iload_n C.1 C.2.1 dX12_isWord_12 rfl (lv_at hl 3 rfl) ?_
        refine lv_iconst (v := 1) C.1 C.2.1 dX12_isWord_13 (by decide) ?_
        obtain ⟨v_21, e_22⟩ : ∃ z, z = (w2_3 : Int32) + (1 : Int32) := ⟨_, rfl⟩
        have h_23 : v_21.toInt = w2_3.toInt + 1 := by rw [e_22]; exact ti_iadd (by show (_ : Int) ≤ w2_3.toInt + 1; omega) (by show w2_3.toInt + 1 < (_ : Int); omega)
        refine k_iadd (v := v_21) C e_22.symm dX12_isWord_14 ?_
        refine g_Vi (As := [.int x1, .int v_21]) (rest := []) C hP hD hS hA (T_X12_deckLetter l D K Z Y ad t hok (x1) (show (0 : Int) ≤ (x1 : Int32).toInt ∧ (x1 : Int32).toInt ≤ 1280 from ⟨by omega, by omega⟩) (v_21) (show (1 : Int) ≤ (v_21 : Int32).toInt ∧ (v_21 : Int32).toInt ≤ 200 from ⟨by omega, by omega⟩)) hE hZ (uwV m_79_6 m_79_7 m_79_8 m_1_5 m_79_9) (hdV 2 (by decide +kernel) rfl) ⟨Nat.le_of_ble_eq_true rfl, Nat.le_of_ble_eq_true rfl⟩ rfl rfl (ci := 11) (q0 := 0) rfl rfl rfl hl.1 (Nat.le_of_ble_eq_true rfl) dX12_isWord_15 ⟨Nat.le_of_ble_eq_true rfl, Nat.le_of_ble_eq_true rfl⟩ (fun r_25 t_24 H locs hw hP hD hS => ?_)
        obtain ⟨h_27, h_28, p_29, p_30, p_31, p_32⟩ := hw
        replace p_29 : r_25 = fDeck t x1 v_21 := p_29
        replace p_30 : r_25.toInt = (fDeck t x1 v_21).toInt := p_30
        replace p_31 : ¬ r_25.toInt = 32 → (t.2.2.1 37 (x1 : Int32).toNatClampNeg).toInt + v_21.toInt ≤ (t.2.2.1 38 (x1 : Int32).toNatClampNeg).toInt := p_31
        replace p_32 : 81 ≤ v_21.toInt → r_25.toInt = 32 := p_32
        have hl1 := p_29
        refine lv_aload_n C.1 C.2.1 dX12_isWord_18 rfl (lv_at hl 2 rfl) ?_
        refine lv_iload_n C.1 C.2.1 dX12_isWord_19 rfl (lv_at hl 3 rfl) ?_
        refine g_Ti (As := [.int w2_3]) (rest := [.int r_25]) C hP hD hS hA (TJ_charAt l D K Z Y (WM K ad t) i2 (sS_lt hi2) w2_3 (show 0 ≤ w2_3.toInt ∧ w2_3.toInt < sL i2 from by omega)) hE hZ (uwV m_31_19 m_17_21 m_17_22 m_14_8 m_17_23) (hdV 1 (by decide +kernel) rfl) ⟨Nat.le_of_ble_eq_true rfl, Nat.le_of_ble_eq_true rfl⟩ rfl rfl (i0 := i2) (sS_lt hi2) rfl rfl hl.1 (Nat.le_of_ble_eq_true rfl) dX12_isWord_20 ⟨Nat.le_of_ble_eq_true rfl, Nat.le_of_ble_eq_true rfl⟩ (fun r_33 u_r_33 H locs hw hP hD hS => ?_)
        have er_33 : r_33 = (sByt i2).getD (w2_3 : Int32).toNatClampNeg 0 := hw
        have h_34 : (32 : Int) ≤ r_33.toInt ∧ r_33.toInt ≤ 126 := by rw [er_33]; exact sByt_rr (sS_lt hi2) (by omega) (by omega)
        refine lv_icmp_eq (tgt := 28) C.1 C.2.1 dX12_isWord_23 (by decide) (fun c_35 => ?_) (fun c_35 => ?_)
        · replace c_35 : r_25.toInt = r_33.toInt := i_eq c_35
          obtain ⟨v_36, e_37⟩ : ∃ z, z = w2_3 + 1 := ⟨_, rfl⟩
          have h_38 : v_36.toInt = w2_3.toInt + 1 := by rw [e_37]; exact ti_iadd (by show (_ : Int) ≤ w2_3.toInt + 1; omega) (by show w2_3.toInt + 1 < (_ : Int); omega)
          refine lv_iinc (v := v_36) (lv' := [(3, .int v_36), (0, .ref (ad 0)), (1, .int x1), (2, .ref (Z i2))]) C.1 C.2.1 dX12_isWord_28 hl (k := 3) rfl e_37.symm (by decide) rfl (fun ls hl => ?_)
          have hl : lv_has ls 4 [(0, .ref (ad 0)), (1, .int x1), (2, .ref (Z i2)), (3, .int v_36)] := lv_sub hl [1, 2, 3, 0] rfl
          refine lv_goto (tgt := 2) C.1 C.2.1 dX12_isWord_31 (by decide) ?_
          exact ih_2 v_36 _ _ _ ⟨by omega, by omega⟩ (show 0 ≤ v_36.toInt from by omega) (show ∀ k : Nat, (k : Int) < v_36.toInt → gD t x1 (0 + k) = (sByt i2).getD k 0 from by intro k hk; first | (exfalso; omega) | (rcases Int.lt_or_eq_of_le (show (k : Int) ≤ w2_3.toInt from by omega) with h9 | h9 <;> first | exact hi2_1 k h9 | exact iw_new (c := 1) h9 (by decide) (by assumption) (by have hq : (1 : Int32).toInt = 1 := rfl; omega) hl1 (by assumption))) (show (400 : Int) - v_36.toInt < (fuel_2 : Int) from by omega) hP hD hS (lv_sub hl [0, 1, 2, 3] rfl)
        · replace c_35 : ¬ r_25.toInt = r_33.toInt := i_ne c_35
          refine lv_iconst (v := 0) C.1 C.2.1 dX12_isWord_26 (by decide) ?_
          exact g_iret C hr hlocks hP hD hS (by decide) () rfl ⟨by decide, by decide, (show 0 = 1 ↔ wBl (gD t x1) 0 i2 from by first | exact iw_0 (fun hz => iw_no (c := 1) hz hl1 (by assumption) (by assumption) (by omega) (by omega) (by decide) (by have hq : (1 : Int32).toInt = 1 := rfl; omega)) | exact iw_00 (iw_bl (a := 0) (by omega) hl2) (by omega) | exact iw_1 (fun k hk => hi2_1 k (by have hq : sL i2 = ((sByt i2).length : Int) := rfl; omega)) (iw_bl (a := 0) (by omega) hl2) (by omega))⟩ (Nat.le_of_ble_eq_true rfl) (Nat.le_of_ble_eq_true rfl) dX12_isWord_27
  refine lv_iconst (v := 0) C.1 C.2.1 dX12_isWord_0 (by decide) ?_
  refine lv_istore_n (lv' := [(3, .int 0), (0, .ref (ad 0)), (1, .int x1), (2, .ref (Z i2))]) C.1 C.2.1 dX12_isWord_1 rfl hl (by decide) rfl (fun ls hl => ?_)
  have hl : lv_has ls 4 [(0, .ref (ad 0)), (1, .int x1), (2, .ref (Z i2)), (3, .int 0)] := lv_sub hl [1, 2, 3, 0] rfl
  exact L_2 401 0 _ _ _ ⟨by decide, by decide⟩ (show 0 ≤ 0 from by omega) (show ∀ k : Nat, (k : Int) < 0 → gD t x1 (0 + k) = (sByt i2).getD k 0 from by intro k hk; first | (exfalso; omega) | (rcases Int.lt_or_eq_of_le (show (k : Int) ≤ w2_3.toInt from by omega) with h9 | h9 <;> first | exact hi2_1 k h9 | exact iw_new (c := 1) h9 (by decide) (by assumption) (by have hq : (1 : Int32).toInt = 1 := rfl; omega) hl1 (by assumption))) (show (400 : Int) - 0 < ((401 : Nat) : Int) from by omega) hP hD hS (lv_sub hl [0, 1, 2, 3] rfl)

set_option maxHeartbeats 4000000 in
set_option maxRecDepth 100000 in
theorem U_X12_hasWordAt (l : Launch) (D : va_G) (K : Nat → ClassId) (Z Y : Nat → Nat) (ad : Nat → Nat) (t : tSt) (hok : okM t) (x1 : Int32) (hx1 : (0 : Int) ≤ x1.toInt ∧ x1.toInt ≤ 1280) (x2 : Int32) (hx2 : (1 : Int) ≤ x2.toInt ∧ x2.toInt ≤ 150) (i3 : Nat) (hi3 : sS i3) (hs0 : 1 ≤ x2.toInt) : tMet l yX12_hasWordAt cX12_hasWordAt 5 (some .boolean) (rmD 8 0 0) D K Z Y [.ref (ad 0), .int x1, .int x2, .ref (Z i3)] (WM K ad t) (QI D K (fun (r : Int32) (u : Unit) => (0 : Int) ≤ r.toInt ∧ r.toInt ≤ 1 ∧ (r.toInt = 1 ↔ wBl (gD t x1) (x2.toInt - 1).toNat i3)) (fun (_ : Unit) => WM K ad t)) 0 0 := by
  refine t_met RX12 ⟨rfl, by decide +kernel⟩ (Nat.le_of_ble_eq_true rfl) ?_
  intro p e s m below meth c A ls C hE hZ hr hlocks hA hP hD hS hl
  have hl : lv_has ls 5 [(0, .ref (ad 0)), (1, .int x1), (2, .int x2), (3, .ref (Z i3))] := hl
  have L_3 : ∀ (fuel_3 : Nat) (w3_4 : Int32) (H : Heap) (locs : List Loc) (ls : Array Slot), (0 : Int) ≤ w3_4.toInt ∧ w3_4.toInt ≤ 400 → (0 ≤ w3_4.toInt) → (∀ k : Nat, (k : Int) < w3_4.toInt → gD t x1 ((x2.toInt - 1).toNat + k) = (sByt i3).getD k 0) → (400 : Int) - w3_4.toInt < (fuel_3 : Int) → va_P D vwCl (WM K ad t) H → va_D A (WM K ad t) → va_S A s.heap H locs → lv_has ls 5 [(0, .ref (ad 0)), (1, .int x1), (2, .int x2), (3, .ref (Z i3)), (4, .int w3_4)] → W p l e (rmD 8 0 0) s m [.ref (ad 0), .int x1, .int x2, .ref (Z i3)].toArray below meth c H locs 0 0 (MQ below (QI D K (fun (r : Int32) (u : Unit) => (0 : Int) ≤ r.toInt ∧ r.toInt ≤ 1 ∧ (r.toInt = 1 ↔ wBl (gD t x1) (x2.toInt - 1).toNat i3)) (fun (_ : Unit) => WM K ad t) A) [.ref (ad 0), .int x1, .int x2, .ref (Z i3)].toArray s 0 0 A) (F0 m 3 ls []) := by
    intro fuel_3
    induction fuel_3 with
    | zero =>
      intro w3_4 H locs ls hw3_4 hi3_0 hi3_1 hm3_3 hP hD hS hl
      exact absurd hm3_3 (by omega)
    | succ fuel_3 ih_3 =>
      intro w3_4 H locs ls hw3_4 hi3_0 hi3_1 hm3_3 hP hD hS hl
      have hm3_3 : (400 : Int) - w3_4.toInt < (fuel_3 : Int) + 1 := by omega
      refine lv_iload C.1 C.2.1 dX12_hasWordAt_3 (lv_at hl 4 rfl) ?_
      refine lv_aload_n C.1 C.2.1 dX12_hasWordAt_5 rfl (lv_at hl 3 rfl) ?_
      refine g_Ti (As := []) (rest := [.int w3_4]) C hP hD hS hA (TJ_length l D K Z Y (WM K ad t) i3 (sS_lt hi3)) hE hZ (uwV m_79_5 m_14_22 m_14_23 m_14_8 m_15_0) (hdV 0 (by decide +kernel) rfl) ⟨Nat.le_of_ble_eq_true rfl, Nat.le_of_ble_eq_true rfl⟩ rfl rfl (i0 := i3) (sS_lt hi3) rfl rfl hl.1 (Nat.le_of_ble_eq_true rfl) dX12_hasWordAt_6 ⟨Nat.le_of_ble_eq_true rfl, Nat.le_of_ble_eq_true rfl⟩ (fun r_1 u_r_1 H locs hw hP hD hS => ?_)
      have h_2 : r_1.toInt = sL i3 := hw
      have h_3 := sS_len hi3
      refine lv_icmp_ge (tgt := 38) C.1 C.2.1 dX12_hasWordAt_9 (by decide) (fun c_4 => ?_) (fun c_4 => ?_)
      · replace c_4 : r_1.toInt ≤ w3_4.toInt := i_le c_4
        refine lv_aload_n C.1 C.2.1 dX12_hasWordAt_38 rfl (lv_at hl 0 rfl) ?_
        refine lv_iload_n C.1 C.2.1 dX12_hasWordAt_39 rfl (lv_at hl 1 rfl) ?_
        refine lv_iload_n C.1 C.2.1 dX12_hasWordAt_40 rfl (lv_at hl 2 rfl) ?_
        refine lv_aload_n C.1 C.2.1 dX12_hasWordAt_41 rfl (lv_at hl 3 rfl) ?_
        refine g_Ti (As := []) (rest := [.int x2, .int x1, .ref (ad 0)]) C hP hD hS hA (TJ_length l D K Z Y (WM K ad t) i3 (sS_lt hi3)) hE hZ (uwV m_79_5 m_14_22 m_14_23 m_14_8 m_15_0) (hdV 0 (by decide +kernel) rfl) ⟨Nat.le_of_ble_eq_true rfl, Nat.le_of_ble_eq_true rfl⟩ rfl rfl (i0 := i3) (sS_lt hi3) rfl rfl hl.1 (Nat.le_of_ble_eq_true rfl) dX12_hasWordAt_42 ⟨Nat.le_of_ble_eq_true rfl, Nat.le_of_ble_eq_true rfl⟩ (fun r_5 u_r_5 H locs hw hP hD hS => ?_)
        have h_6 : r_5.toInt = sL i3 := hw
        have h_7 := sS_len hi3
        obtain ⟨v_8, e_9⟩ : ∃ z, z = (x2 : Int32) + (r_5 : Int32) := ⟨_, rfl⟩
        have h_10 : v_8.toInt = x2.toInt + r_5.toInt := by rw [e_9]; exact ti_iadd (by show (_ : Int) ≤ x2.toInt + r_5.toInt; omega) (by show x2.toInt + r_5.toInt < (_ : Int); omega)
        refine k_iadd (v := v_8) C e_9.symm dX12_hasWordAt_45 ?_
        refine g_Vi (As := [.int x1, .int v_8]) (rest := []) C hP hD hS hA (T_X12_deckLetter l D K Z Y ad t hok (x1) (show (0 : Int) ≤ (x1 : Int32).toInt ∧ (x1 : Int32).toInt ≤ 1280 from ⟨by omega, by omega⟩) (v_8) (show (1 : Int) ≤ (v_8 : Int32).toInt ∧ (v_8 : Int32).toInt ≤ 200 from ⟨by omega, by omega⟩)) hE hZ (uwV m_79_6 m_79_7 m_79_8 m_1_5 m_79_9) (hdV 2 (by decide +kernel) rfl) ⟨Nat.le_of_ble_eq_true rfl, Nat.le_of_ble_eq_true rfl⟩ rfl rfl (ci := 11) (q0 := 0) rfl rfl rfl hl.1 (Nat.le_of_ble_eq_true rfl) dX12_hasWordAt_46 ⟨Nat.le_of_ble_eq_true rfl, Nat.le_of_ble_eq_true rfl⟩ (fun r_12 t_11 H locs hw hP hD hS => ?_)
        obtain ⟨h_14, h_15, p_16, p_17, p_18, p_19⟩ := hw
        replace p_16 : r_12 = fDeck t x1 v_8 := p_16
        replace p_17 : r_12.toInt = (fDeck t x1 v_8).toInt := p_17
        replace p_18 : ¬ r_12.toInt = 32 → (t.2.2.1 37 (x1 : Int32).toNatClampNeg).toInt + v_8.toInt ≤ (t.2.2.1 38 (x1 : Int32).toNatClampNeg).toInt := p_18
        replace p_19 : 81 ≤ v_8.toInt → r_12.toInt = 32 := p_19
        have hl2 := p_16
        refine lv_bipush (v := 32) C.1 C.2.1 dX12_hasWordAt_49 (by decide) ?_
        refine lv_icmp_ne (tgt := 58) C.1 C.2.1 dX12_hasWordAt_51 (by decide) (fun c_20 => ?_) (fun c_20 => ?_)
        · replace c_20 : ¬ r_12.toInt = 32 := i_ne c_20
          refine lv_iconst (v := 0) C.1 C.2.1 dX12_hasWordAt_58 (by decide) ?_
          exact g_iret C hr hlocks hP hD hS (by decide) () rfl ⟨by decide, by decide, (show 0 = 1 ↔ wBl (gD t x1) (x2.toInt - 1).toNat i3 from by first | exact iw_0 (fun hz => iw_no (c := x2) hz hl1 (by assumption) (by assumption) (by omega) (by omega) (by omega) (by omega)) | exact iw_00 (iw_bl (by omega) hl2) (by omega) | exact iw_1 (fun k hk => hi3_1 k (by have hq : sL i3 = ((sByt i3).length : Int) := rfl; omega)) (iw_bl (by omega) hl2) (by omega))⟩ (Nat.le_of_ble_eq_true rfl) (Nat.le_of_ble_eq_true rfl) dX12_hasWordAt_59
        · replace c_20 : r_12.toInt = 32 := i_eq c_20
          refine lv_iconst (v := 1) C.1 C.2.1 dX12_hasWordAt_54 (by decide) ?_
          refine lv_goto (tgt := 59) C.1 C.2.1 dX12_hasWordAt_55 (by decide) ?_
          exact g_iret C hr hlocks hP hD hS (by decide) () rfl ⟨by decide, by decide, (show 1 = 1 ↔ wBl (gD t x1) (x2.toInt - 1).toNat i3 from by first | exact iw_0 (fun hz => iw_no (c := x2) hz hl1 (by assumption) (by assumption) (by omega) (by omega) (by omega) (by omega)) | exact iw_00 (iw_bl (by omega) hl2) (by omega) | exact iw_1 (fun k hk => hi3_1 k (by have hq : sL i3 = ((sByt i3).length : Int) := rfl; omega)) (iw_bl (by omega) hl2) (by omega))⟩ (Nat.le_of_ble_eq_true rfl) (Nat.le_of_ble_eq_true rfl) dX12_hasWordAt_59
      · replace c_4 : w3_4.toInt < r_1.toInt := i_nle c_4
        refine lv_aload_n C.1 C.2.1 dX12_hasWordAt_12 rfl (lv_at hl 0 rfl) ?_
        refine lv_iload_n C.1 C.2.1 dX12_hasWordAt_13 rfl (lv_at hl 1 rfl) ?_
        refine lv_iload_n C.1 C.2.1 dX12_hasWordAt_14 rfl (lv_at hl 2 rfl) ?_
        refine lv_iload C.1 C.2.1 dX12_hasWordAt_15 (lv_at hl 4 rfl) ?_
        obtain ⟨v_21, e_22⟩ : ∃ z, z = (x2 : Int32) + (w3_4 : Int32) := ⟨_, rfl⟩
        have h_23 : v_21.toInt = x2.toInt + w3_4.toInt := by rw [e_22]; exact ti_iadd (by show (_ : Int) ≤ x2.toInt + w3_4.toInt; omega) (by show x2.toInt + w3_4.toInt < (_ : Int); omega)
        refine k_iadd (v := v_21) C e_22.symm dX12_hasWordAt_17 ?_
        refine g_Vi (As := [.int x1, .int v_21]) (rest := []) C hP hD hS hA (T_X12_deckLetter l D K Z Y ad t hok (x1) (show (0 : Int) ≤ (x1 : Int32).toInt ∧ (x1 : Int32).toInt ≤ 1280 from ⟨by omega, by omega⟩) (v_21) (show (1 : Int) ≤ (v_21 : Int32).toInt ∧ (v_21 : Int32).toInt ≤ 200 from ⟨by omega, by omega⟩)) hE hZ (uwV m_79_6 m_79_7 m_79_8 m_1_5 m_79_9) (hdV 2 (by decide +kernel) rfl) ⟨Nat.le_of_ble_eq_true rfl, Nat.le_of_ble_eq_true rfl⟩ rfl rfl (ci := 11) (q0 := 0) rfl rfl rfl hl.1 (Nat.le_of_ble_eq_true rfl) dX12_hasWordAt_18 ⟨Nat.le_of_ble_eq_true rfl, Nat.le_of_ble_eq_true rfl⟩ (fun r_25 t_24 H locs hw hP hD hS => ?_)
        obtain ⟨h_27, h_28, p_29, p_30, p_31, p_32⟩ := hw
        replace p_29 : r_25 = fDeck t x1 v_21 := p_29
        replace p_30 : r_25.toInt = (fDeck t x1 v_21).toInt := p_30
        replace p_31 : ¬ r_25.toInt = 32 → (t.2.2.1 37 (x1 : Int32).toNatClampNeg).toInt + v_21.toInt ≤ (t.2.2.1 38 (x1 : Int32).toNatClampNeg).toInt := p_31
        replace p_32 : 81 ≤ v_21.toInt → r_25.toInt = 32 := p_32
        have hl1 := p_29
        refine lv_aload_n C.1 C.2.1 dX12_hasWordAt_21 rfl (lv_at hl 3 rfl) ?_
        refine lv_iload C.1 C.2.1 dX12_hasWordAt_22 (lv_at hl 4 rfl) ?_
        refine g_Ti (As := [.int w3_4]) (rest := [.int r_25]) C hP hD hS hA (TJ_charAt l D K Z Y (WM K ad t) i3 (sS_lt hi3) w3_4 (show 0 ≤ w3_4.toInt ∧ w3_4.toInt < sL i3 from by omega)) hE hZ (uwV m_31_19 m_17_21 m_17_22 m_14_8 m_17_23) (hdV 1 (by decide +kernel) rfl) ⟨Nat.le_of_ble_eq_true rfl, Nat.le_of_ble_eq_true rfl⟩ rfl rfl (i0 := i3) (sS_lt hi3) rfl rfl hl.1 (Nat.le_of_ble_eq_true rfl) dX12_hasWordAt_24 ⟨Nat.le_of_ble_eq_true rfl, Nat.le_of_ble_eq_true rfl⟩ (fun r_33 u_r_33 H locs hw hP hD hS => ?_)
        have er_33 : r_33 = (sByt i3).getD (w3_4 : Int32).toNatClampNeg 0 := hw
        have h_34 : (32 : Int) ≤ r_33.toInt ∧ r_33.toInt ≤ 126 := by rw [er_33]; exact sByt_rr (sS_lt hi3) (by omega) (by omega)
        refine lv_icmp_eq (tgt := 32) C.1 C.2.1 dX12_hasWordAt_27 (by decide) (fun c_35 => ?_) (fun c_35 => ?_)
        · replace c_35 : r_25.toInt = r_33.toInt := i_eq c_35
          obtain ⟨v_36, e_37⟩ : ∃ z, z = w3_4 + 1 := ⟨_, rfl⟩
          have h_38 : v_36.toInt = w3_4.toInt + 1 := by rw [e_37]; exact ti_iadd (by show (_ : Int) ≤ w3_4.toInt + 1; omega) (by show w3_4.toInt + 1 < (_ : Int); omega)
          refine lv_iinc (v := v_36) (lv' := [(4, .int v_36), (0, .ref (ad 0)), (1, .int x1), (2, .int x2), (3, .ref (Z i3))]) C.1 C.2.1 dX12_hasWordAt_32 hl (k := 4) rfl e_37.symm (by decide) rfl (fun ls hl => ?_)
          have hl : lv_has ls 5 [(0, .ref (ad 0)), (1, .int x1), (2, .int x2), (3, .ref (Z i3)), (4, .int v_36)] := lv_sub hl [1, 2, 3, 4, 0] rfl
          refine lv_goto (tgt := 3) C.1 C.2.1 dX12_hasWordAt_35 (by decide) ?_
          exact ih_3 v_36 _ _ _ ⟨by omega, by omega⟩ (show 0 ≤ v_36.toInt from by omega) (show ∀ k : Nat, (k : Int) < v_36.toInt → gD t x1 ((x2.toInt - 1).toNat + k) = (sByt i3).getD k 0 from by intro k hk; first | (exfalso; omega) | (rcases Int.lt_or_eq_of_le (show (k : Int) ≤ w3_4.toInt from by omega) with h9 | h9 <;> first | exact hi3_1 k h9 | exact iw_new (c := x2) h9 (by omega) (by assumption) (by omega) hl1 (by assumption))) (show (400 : Int) - v_36.toInt < (fuel_3 : Int) from by omega) hP hD hS (lv_sub hl [0, 1, 2, 3, 4] rfl)
        · replace c_35 : ¬ r_25.toInt = r_33.toInt := i_ne c_35
          refine lv_iconst (v := 0) C.1 C.2.1 dX12_hasWordAt_30 (by decide) ?_
          exact g_iret C hr hlocks hP hD hS (by decide) () rfl ⟨by decide, by decide, (show 0 = 1 ↔ wBl (gD t x1) (x2.toInt - 1).toNat i3 from by first | exact iw_0 (fun hz => iw_no (c := x2) hz hl1 (by assumption) (by assumption) (by omega) (by omega) (by omega) (by omega)) | exact iw_00 (iw_bl (by omega) hl2) (by omega) | exact iw_1 (fun k hk => hi3_1 k (by have hq : sL i3 = ((sByt i3).length : Int) := rfl; omega)) (iw_bl (by omega) hl2) (by omega))⟩ (Nat.le_of_ble_eq_true rfl) (Nat.le_of_ble_eq_true rfl) dX12_hasWordAt_31
  refine lv_iconst (v := 0) C.1 C.2.1 dX12_hasWordAt_0 (by decide) ?_
  refine lv_istore (lv' := [(4, .int 0), (0, .ref (ad 0)), (1, .int x1), (2, .int x2), (3, .ref (Z i3))]) C.1 C.2.1 dX12_hasWordAt_1 hl (by decide) rfl (fun ls hl => ?_)
  have hl : lv_has ls 5 [(0, .ref (ad 0)), (1, .int x1), (2, .int x2), (3, .ref (Z i3)), (4, .int 0)] := lv_sub hl [1, 2, 3, 4, 0] rfl
  exact L_3 401 0 _ _ _ ⟨by decide, by decide⟩ (show 0 ≤ 0 from by omega) (show ∀ k : Nat, (k : Int) < 0 → gD t x1 ((x2.toInt - 1).toNat + k) = (sByt i3).getD k 0 from by intro k hk; first | (exfalso; omega) | (rcases Int.lt_or_eq_of_le (show (k : Int) ≤ w3_4.toInt from by omega) with h9 | h9 <;> first | exact hi3_1 k h9 | exact iw_new (c := x2) h9 (by omega) (by assumption) (by omega) hl1 (by assumption))) (show (400 : Int) - 0 < ((401 : Nat) : Int) from by omega) hP hD hS (lv_sub hl [0, 1, 2, 3, 4] rfl)

set_option maxHeartbeats 4000000 in
set_option maxRecDepth 100000 in
theorem U_X12_optionOf (l : Launch) (D : va_G) (K : Nat → ClassId) (Z Y : Nat → Nat) (ad : Nat → Nat) (t : tSt) (hok : okM t) (x0 : Int32) (hx0 : (0 : Int) ≤ x0.toInt ∧ x0.toInt ≤ 4) : tMet l yX12_optionOf cX12_optionOf 1 (some (.object "java/lang/String")) (rmD 0 0 0) D K Z Y [.int x0] (WM K ad t) (QR D K (fun (u : Nat) => sS u ∧ (u = 26 + (x0.toInt).toNat)) (fun u => Z u) (fun (_ : Nat) => WM K ad t)) 0 0 := by
  refine t_met RX12 ⟨rfl, by decide +kernel⟩ (Nat.le_of_ble_eq_true rfl) ?_
  intro p e s m below meth c A ls C hE hZ hr hlocks hA hP hD hS hl
  have hl : lv_has ls 1 [(0, .int x0)] := hl
  refine lv_iload_n C.1 C.2.1 dX12_optionOf_0 rfl (lv_at hl 0 rfl) ?_
  by_cases c_1 : x0 = 0
  · refine lv_tableIn (tgt := 32) (off := 31) C.1 C.2.1 dX12_optionOf_1 (by rw [c_1]; decide) (by rw [c_1]; decide) (by rw [c_1]; decide) (by decide) ?_
    replace c_1 : x0.toInt = 0 := i_eq c_1
    refine va_ldcwS C.1 C.2.1 C.2.2.2.1 (hE.2 26 (by decide)) dX12_optionOf_32 ?_
    exact g_rret C hr hlocks hP hD hS (Or.inl ⟨_, rfl⟩) 26 rfl rfl ⟨(show sS 26 from ⟨by decide, by decide, by decide⟩), (show 26 = 26 + (x0.toInt).toNat from by omega)⟩ (Nat.le_of_ble_eq_true rfl) (Nat.le_of_ble_eq_true rfl) dX12_optionOf_35
  replace c_1 : ¬ x0.toInt = 0 := i_ne c_1
  by_cases c_2 : x0 = 1
  · refine lv_tableIn (tgt := 36) (off := 35) C.1 C.2.1 dX12_optionOf_1 (by rw [c_2]; decide) (by rw [c_2]; decide) (by rw [c_2]; decide) (by decide) ?_
    replace c_2 : x0.toInt = 1 := i_eq c_2
    refine va_ldcwS C.1 C.2.1 C.2.2.2.1 (hE.2 27 (by decide)) dX12_optionOf_36 ?_
    exact g_rret C hr hlocks hP hD hS (Or.inl ⟨_, rfl⟩) 27 rfl rfl ⟨(show sS 27 from ⟨by decide, by decide, by decide⟩), (show 27 = 26 + (x0.toInt).toNat from by omega)⟩ (Nat.le_of_ble_eq_true rfl) (Nat.le_of_ble_eq_true rfl) dX12_optionOf_39
  replace c_2 : ¬ x0.toInt = 1 := i_ne c_2
  by_cases c_3 : x0 = 2
  · refine lv_tableIn (tgt := 40) (off := 39) C.1 C.2.1 dX12_optionOf_1 (by rw [c_3]; decide) (by rw [c_3]; decide) (by rw [c_3]; decide) (by decide) ?_
    replace c_3 : x0.toInt = 2 := i_eq c_3
    refine va_ldcwS C.1 C.2.1 C.2.2.2.1 (hE.2 28 (by decide)) dX12_optionOf_40 ?_
    exact g_rret C hr hlocks hP hD hS (Or.inl ⟨_, rfl⟩) 28 rfl rfl ⟨(show sS 28 from ⟨by decide, by decide, by decide⟩), (show 28 = 26 + (x0.toInt).toNat from by omega)⟩ (Nat.le_of_ble_eq_true rfl) (Nat.le_of_ble_eq_true rfl) dX12_optionOf_43
  replace c_3 : ¬ x0.toInt = 2 := i_ne c_3
  by_cases c_4 : x0 = 3
  · refine lv_tableIn (tgt := 44) (off := 43) C.1 C.2.1 dX12_optionOf_1 (by rw [c_4]; decide) (by rw [c_4]; decide) (by rw [c_4]; decide) (by decide) ?_
    replace c_4 : x0.toInt = 3 := i_eq c_4
    refine va_ldcwS C.1 C.2.1 C.2.2.2.1 (hE.2 29 (by decide)) dX12_optionOf_44 ?_
    exact g_rret C hr hlocks hP hD hS (Or.inl ⟨_, rfl⟩) 29 rfl rfl ⟨(show sS 29 from ⟨by decide, by decide, by decide⟩), (show 29 = 26 + (x0.toInt).toNat from by omega)⟩ (Nat.le_of_ble_eq_true rfl) (Nat.le_of_ble_eq_true rfl) dX12_optionOf_47
  replace c_4 : ¬ x0.toInt = 3 := i_ne c_4
  refine lv_tableOut (tgt := 48) C.1 C.2.1 dX12_optionOf_1 (by omega) (by decide) ?_
  refine va_ldcwS C.1 C.2.1 C.2.2.2.1 (hE.2 30 (by decide)) dX12_optionOf_48 ?_
  exact g_rret C hr hlocks hP hD hS (Or.inl ⟨_, rfl⟩) 30 rfl rfl ⟨(show sS 30 from ⟨by decide, by decide, by decide⟩), (show 30 = 26 + (x0.toInt).toNat from by omega)⟩ (Nat.le_of_ble_eq_true rfl) (Nat.le_of_ble_eq_true rfl) dX12_optionOf_51

set_option maxHeartbeats 4000000 in
set_option maxRecDepth 100000 in
theorem U_X12_isJob (l : Launch) (D : va_G) (K : Nat → ClassId) (Z Y : Nat → Nat) (ad : Nat → Nat) (t : tSt) (hok : okM t) (x1 : Int32) (hx1 : (0 : Int) ≤ x1.toInt ∧ x1.toInt ≤ 1280) : tMet l yX12_isJob cX12_isJob 6 (some .boolean) (rmD 9 0 0) D K Z Y [.ref (ad 0), .int x1] (WM K ad t) (QI D K (fun (r : Int32) (u : tSt) => okM u ∧ frA [(0, 78), (0, 79), (0, 80), (0, 81)] [] [] [] t u ∧ (0 : Int) ≤ r.toInt ∧ r.toInt ≤ 1 ∧ (r.toInt = 1 → (u.1 0 78).toInt = 6) ∧ ((t.1 0 78).toInt = 6 → (u.1 0 78).toInt = 6) ∧ (r.toInt = 1 ↔ jOK (gD t x1))) (fun (u : tSt) => WM K ad u)) 0 0 := by
  refine t_met RX12 ⟨rfl, by decide +kernel⟩ (Nat.le_of_ble_eq_true rfl) ?_
  intro p e s m below meth c A ls C hE hZ hr hlocks hA hP hD hS hl
  have hl : lv_has ls 6 [(0, .ref (ad 0)), (1, .int x1)] := hl
  have hokt := hok
  have hfr : frA [(0, 78), (0, 79), (0, 80), (0, 81)] [] [] [] t t := frA_rf
  have h_1 : (0 : Int) ≤ (t.1 0 78).toInt ∧ (t.1 0 78).toInt ≤ 6 := hok.1 0 78
  have L_225 : ∀ (fuel_225 : Nat) (t1 : tSt) (w225_2 : Int32) (w225_3 : Int32) (w225_4 : Int32) (H : Heap) (locs : List Loc) (ls : Array Slot), okM t1 → frA [(0, 78), (0, 79), (0, 80), (0, 81)] [] [] [] t t1 → (-2147483647 : Int) ≤ w225_3.toInt ∧ w225_3.toInt ≤ 17 → (6 : Int) ≤ (t1.1 0 78).toInt ∧ (t1.1 0 78).toInt ≤ 6 → (7 ≤ w225_4.toInt) → (w225_4.toInt ≤ 81) → ((t1.1 0 78).toInt = 6) → (∃ s d : Nat, jX (gD t x1) s d ∧ ((oN (gD t x1) (6 + s + d) 5 : Nat) : Int) + 1 ≤ w225_4.toInt ∧ ∀ j : Nat, oN (gD t x1) (6 + s + d) 5 ≤ j → (j : Int) < w225_4.toInt - 1 → gD t x1 j = 32) → (81 - w225_4.toInt) < (fuel_225 : Int) → va_P D vwCl (WM K ad t1) H → va_D A (WM K ad t1) → va_S A s.heap H locs → lv_has ls 6 [(0, .ref (ad 0)), (1, .int x1), (2, .int w225_2), (3, .int w225_3), (4, .int w225_4)] → W p l e (rmD 9 0 0) s m [.ref (ad 0), .int x1].toArray below meth c H locs 0 0 (MQ below (QI D K (fun (r : Int32) (u : tSt) => okM u ∧ frA [(0, 78), (0, 79), (0, 80), (0, 81)] [] [] [] t u ∧ (0 : Int) ≤ r.toInt ∧ r.toInt ≤ 1 ∧ (r.toInt = 1 → (u.1 0 78).toInt = 6) ∧ ((t.1 0 78).toInt = 6 → (u.1 0 78).toInt = 6) ∧ (r.toInt = 1 ↔ jOK (gD t x1))) (fun (u : tSt) => WM K ad u) A) [.ref (ad 0), .int x1].toArray s 0 0 A) (F0 m 225 ls []) := by
    intro fuel_225
    induction fuel_225 with
    | zero =>
      intro t1 w225_2 w225_3 w225_4 H locs ls hok hfr hw225_3 hf225_78 hi225_0 hi225_1 hi225_2 hi225_3 hm225_225 hP hD hS hl
      have e_2 : t1.2.2.1 36 = t.2.2.1 36 := hfr.2.2.1 36 rfl
      have e_3 : t1.2.2.1 37 = t.2.2.1 37 := hfr.2.2.1 37 rfl
      have e_4 : t1.2.2.1 38 = t.2.2.1 38 := hfr.2.2.1 38 rfl
      exact absurd hm225_225 (by omega)
    | succ fuel_225 ih_225 =>
      intro t1 w225_2 w225_3 w225_4 H locs ls hok hfr hw225_3 hf225_78 hi225_0 hi225_1 hi225_2 hi225_3 hm225_225 hP hD hS hl
      have hm225_225 : (81 - w225_4.toInt) < (fuel_225 : Int) + 1 := by omega
      have e_5 : t1.2.2.1 36 = t.2.2.1 36 := hfr.2.2.1 36 rfl
      have e_6 : t1.2.2.1 37 = t.2.2.1 37 := hfr.2.2.1 37 rfl
      have e_7 : t1.2.2.1 38 = t.2.2.1 38 := hfr.2.2.1 38 rfl
      have hfd : ∀ c, fDeck t1 x1 c = fDeck t x1 c := fun c => by unfold fDeck; rw [hfr.2.2.1 36 rfl, hfr.2.2.1 37 rfl, hfr.2.2.1 38 rfl]
      refine lv_iload C.1 C.2.1 dX12_isJob_225 (lv_at hl 4 rfl) ?_
      refine lv_bipush (v := 81) C.1 C.2.1 dX12_isJob_227 (by decide) ?_
      refine lv_icmp_ge (tgt := 252) C.1 C.2.1 dX12_isJob_229 (by decide) (fun c_8 => ?_) (fun c_8 => ?_)
      · replace c_8 : 81 ≤ w225_4.toInt := i_le c_8
        refine lv_iconst (v := 1) C.1 C.2.1 dX12_isJob_252 (by decide) ?_
        exact g_iret C hr hlocks hP hD hS (by decide) t1 rfl ⟨hok, hfr, by decide, by decide, (show 1 = 1 → (t1.1 0 78).toInt = 6 from by omega), (show (t.1 0 78).toInt = 6 → (t1.1 0 78).toInt = 6 from by omega), (show 1 = 1 ↔ jOK (gD t x1) from by first | exact jz (fun z => absurd (kyA.mpr z.1) (by omega)) | exact jr0 hi16_3 hna (by omega) (by first | exact Or.inl (by omega) | exact Or.inr (Or.inl (by omega)) | exact Or.inr (Or.inr (fun z => absurd (congrArg Int32.toInt ((jl hl3 (by omega)).trans z)) (by have hq : (32 : Int32).toInt = 32 := rfl; omega)))) | exact jr1 gD_80 hi92_5 hi92_6 hi92_7 (by omega) hi92_9 (by omega) (by first | exact Or.inl (by omega) | exact Or.inr (jd_no hl4 (fun z => absurd (hd4.mpr z) (by omega)) (by omega))) (by first | exact Or.inl (by omega) | exact Or.inr (fun z => absurd (congrArg Int32.toInt ((jl hl5 (by omega)).trans z)) (by have hq : (32 : Int32).toInt = 32 := rfl; omega))) | exact jx_no hi225_3 (by omega) (fun z => absurd (congrArg Int32.toInt ((jl hl6 (by omega)).trans z)) (by have hq : (32 : Int32).toInt = 32 := rfl; omega)) | exact jx_yes hi225_3 (by omega))⟩ (Nat.le_of_ble_eq_true rfl) (Nat.le_of_ble_eq_true rfl) dX12_isJob_253
      · replace c_8 : w225_4.toInt < 81 := i_nle c_8
        refine lv_aload_n C.1 C.2.1 dX12_isJob_232 rfl (lv_at hl 0 rfl) ?_
        refine lv_iload_n C.1 C.2.1 dX12_isJob_233 rfl (lv_at hl 1 rfl) ?_
        refine lv_iload C.1 C.2.1 dX12_isJob_234 (lv_at hl 4 rfl) ?_
        refine g_Vi (As := [.int x1, .int w225_4]) (rest := []) C hP hD hS hA (T_X12_deckLetter l D K Z Y ad t1 hok (x1) (show (0 : Int) ≤ (x1 : Int32).toInt ∧ (x1 : Int32).toInt ≤ 1280 from ⟨by omega, by omega⟩) (w225_4) (show (1 : Int) ≤ (w225_4 : Int32).toInt ∧ (w225_4 : Int32).toInt ≤ 200 from ⟨by omega, by omega⟩)) hE hZ (uwV m_79_6 m_79_7 m_79_8 m_1_5 m_79_9) (hdV 2 (by decide +kernel) rfl) ⟨Nat.le_of_ble_eq_true rfl, Nat.le_of_ble_eq_true rfl⟩ rfl rfl (ci := 11) (q0 := 0) rfl rfl rfl hl.1 (Nat.le_of_ble_eq_true rfl) dX12_isJob_236 ⟨Nat.le_of_ble_eq_true rfl, Nat.le_of_ble_eq_true rfl⟩ (fun r_10 t_9 H locs hw hP hD hS => ?_)
        obtain ⟨h_12, h_13, p_14, p_15, p_16, p_17⟩ := hw
        replace p_14 : r_10 = fDeck t1 x1 w225_4 := p_14
        replace p_15 : r_10.toInt = (fDeck t1 x1 w225_4).toInt := p_15
        replace p_16 : ¬ r_10.toInt = 32 → (t1.2.2.1 37 (x1 : Int32).toNatClampNeg).toInt + w225_4.toInt ≤ (t1.2.2.1 38 (x1 : Int32).toNatClampNeg).toInt := p_16
        have h_18 : (t1.2.2.1 37 (x1 : Int32).toNatClampNeg).toInt = (t.2.2.1 37 (x1 : Int32).toNatClampNeg).toInt := tb_eq e_6 _
        have h_19 : (t1.2.2.1 38 (x1 : Int32).toNatClampNeg).toInt = (t.2.2.1 38 (x1 : Int32).toNatClampNeg).toInt := tb_eq e_7 _
        replace p_17 : 81 ≤ w225_4.toInt → r_10.toInt = 32 := p_17
        have hl6 := p_14
        rw [hfd] at hl6
        refine lv_bipush (v := 32) C.1 C.2.1 dX12_isJob_239 (by decide) ?_
        refine lv_icmp_eq (tgt := 246) C.1 C.2.1 dX12_isJob_241 (by decide) (fun c_20 => ?_) (fun c_20 => ?_)
        · replace c_20 : r_10.toInt = 32 := i_eq c_20
          obtain ⟨v_21, e_22⟩ : ∃ z, z = w225_4 + 1 := ⟨_, rfl⟩
          have h_23 : v_21.toInt = w225_4.toInt + 1 := by rw [e_22]; exact ti_iadd (by show (_ : Int) ≤ w225_4.toInt + 1; omega) (by show w225_4.toInt + 1 < (_ : Int); omega)
          refine lv_iinc (v := v_21) (lv' := [(4, .int v_21), (0, .ref (ad 0)), (1, .int x1), (2, .int w225_2), (3, .int w225_3)]) C.1 C.2.1 dX12_isJob_246 hl (k := 4) rfl e_22.symm (by decide) rfl (fun ls hl => ?_)
          have hl : lv_has ls 6 [(0, .ref (ad 0)), (1, .int x1), (2, .int w225_2), (3, .int w225_3), (4, .int v_21)] := lv_sub hl [1, 2, 3, 4, 0] rfl
          refine lv_goto (tgt := 225) C.1 C.2.1 dX12_isJob_249 (by decide) ?_
          exact ih_225 t1 w225_2 w225_3 v_21 _ _ _ hok hfr ⟨by omega, by omega⟩ (show (6 : Int) ≤ ((t1.1 0 78) : Int32).toInt ∧ ((t1.1 0 78) : Int32).toInt ≤ 6 from ⟨by omega, by omega⟩) (show 7 ≤ v_21.toInt from by omega) (show v_21.toInt ≤ 81 from by omega) (show (t1.1 0 78).toInt = 6 from by omega) (show ∃ s d : Nat, jX (gD t x1) s d ∧ ((oN (gD t x1) (6 + s + d) 5 : Nat) : Int) + 1 ≤ v_21.toInt ∧ ∀ j : Nat, oN (gD t x1) (6 + s + d) 5 ≤ j → (j : Int) < v_21.toInt - 1 → gD t x1 j = 32 from by first | exact jx_o hi164_5 (by omega) | exact jx_n hi225_3 (by assumption) ((jl hl6 (by omega)).symm.trans (Int32.toInt_inj.mp (by have hq : (32 : Int32).toInt = 32 := rfl; omega)))) (show (81 - v_21.toInt) < (fuel_225 : Int) from by omega) hP hD hS (lv_sub hl [0, 1, 2, 3, 4] rfl)
        · replace c_20 : ¬ r_10.toInt = 32 := i_ne c_20
          refine lv_iconst (v := 0) C.1 C.2.1 dX12_isJob_244 (by decide) ?_
          exact g_iret C hr hlocks hP hD hS (by decide) t1 rfl ⟨hok, hfr, by decide, by decide, (show 0 = 1 → (t1.1 0 78).toInt = 6 from by omega), (show (t.1 0 78).toInt = 6 → (t1.1 0 78).toInt = 6 from by omega), (show 0 = 1 ↔ jOK (gD t x1) from by first | exact jz (fun z => absurd (kyA.mpr z.1) (by omega)) | exact jr0 hi16_3 hna (by omega) (by first | exact Or.inl (by omega) | exact Or.inr (Or.inl (by omega)) | exact Or.inr (Or.inr (fun z => absurd (congrArg Int32.toInt ((jl hl3 (by omega)).trans z)) (by have hq : (32 : Int32).toInt = 32 := rfl; omega)))) | exact jr1 gD_80 hi92_5 hi92_6 hi92_7 (by omega) hi92_9 (by omega) (by first | exact Or.inl (by omega) | exact Or.inr (jd_no hl4 (fun z => absurd (hd4.mpr z) (by omega)) (by omega))) (by first | exact Or.inl (by omega) | exact Or.inr (fun z => absurd (congrArg Int32.toInt ((jl hl5 (by omega)).trans z)) (by have hq : (32 : Int32).toInt = 32 := rfl; omega))) | exact jx_no hi225_3 (by omega) (fun z => absurd (congrArg Int32.toInt ((jl hl6 (by omega)).trans z)) (by have hq : (32 : Int32).toInt = 32 := rfl; omega)) | exact jx_yes hi225_3 (by omega))⟩ (Nat.le_of_ble_eq_true rfl) (Nat.le_of_ble_eq_true rfl) dX12_isJob_245
  have L_164 : ∀ (fuel_164 : Nat) (t1 : tSt) (w164_2 : Int32) (w164_3 : Int32) (w164_4 : Int32) (H : Heap) (locs : List Loc) (ls : Array Slot), okM t1 → frA [(0, 78), (0, 79), (0, 80), (0, 81)] [] [] [] t t1 → (-2147483647 : Int) ≤ w164_3.toInt ∧ w164_3.toInt ≤ 17 → (0 : Int) ≤ w164_4.toInt ∧ w164_4.toInt ≤ 5 → (6 : Int) ≤ (t1.1 0 78).toInt ∧ (t1.1 0 78).toInt ≤ 6 → (7 ≤ w164_2.toInt) → (w164_2.toInt ≤ 22 + 6 * w164_4.toInt) → (0 ≤ w164_4.toInt) → (w164_4.toInt ≤ 5) → ((t1.1 0 78).toInt = 6) → (∃ s d : Nat, jX (gD t x1) s d ∧ w164_2.toInt = ((oN (gD t x1) (6 + s + d) (w164_4.toInt : Int).toNat : Nat) : Int) + 1) → (5 : Int) - w164_4.toInt < (fuel_164 : Int) → va_P D vwCl (WM K ad t1) H → va_D A (WM K ad t1) → va_S A s.heap H locs → lv_has ls 6 [(0, .ref (ad 0)), (1, .int x1), (2, .int w164_2), (3, .int w164_3), (4, .int w164_4)] → W p l e (rmD 9 0 0) s m [.ref (ad 0), .int x1].toArray below meth c H locs 0 0 (MQ below (QI D K (fun (r : Int32) (u : tSt) => okM u ∧ frA [(0, 78), (0, 79), (0, 80), (0, 81)] [] [] [] t u ∧ (0 : Int) ≤ r.toInt ∧ r.toInt ≤ 1 ∧ (r.toInt = 1 → (u.1 0 78).toInt = 6) ∧ ((t.1 0 78).toInt = 6 → (u.1 0 78).toInt = 6) ∧ (r.toInt = 1 ↔ jOK (gD t x1))) (fun (u : tSt) => WM K ad u) A) [.ref (ad 0), .int x1].toArray s 0 0 A) (F0 m 164 ls []) := by
    intro fuel_164
    induction fuel_164 with
    | zero =>
      intro t1 w164_2 w164_3 w164_4 H locs ls hok hfr hw164_3 hw164_4 hf164_78 hi164_0 hi164_1 hi164_2 hi164_3 hi164_4 hi164_5 hm164_164 hP hD hS hl
      have e_24 : t1.2.2.1 36 = t.2.2.1 36 := hfr.2.2.1 36 rfl
      have e_25 : t1.2.2.1 37 = t.2.2.1 37 := hfr.2.2.1 37 rfl
      have e_26 : t1.2.2.1 38 = t.2.2.1 38 := hfr.2.2.1 38 rfl
      exact absurd hm164_164 (by omega)
    | succ fuel_164 ih_164 =>
      intro t1 w164_2 w164_3 w164_4 H locs ls hok hfr hw164_3 hw164_4 hf164_78 hi164_0 hi164_1 hi164_2 hi164_3 hi164_4 hi164_5 hm164_164 hP hD hS hl
      have hm164_164 : (5 : Int) - w164_4.toInt < (fuel_164 : Int) + 1 := by omega
      have e_27 : t1.2.2.1 36 = t.2.2.1 36 := hfr.2.2.1 36 rfl
      have e_28 : t1.2.2.1 37 = t.2.2.1 37 := hfr.2.2.1 37 rfl
      have e_29 : t1.2.2.1 38 = t.2.2.1 38 := hfr.2.2.1 38 rfl
      have L_216 : ∀ (t1 : tSt) (w216_2 : Int32) (w216_3 : Int32) (w216_4 : Int32) (w216_5 : Nat) (H : Heap) (locs : List Loc) (ls : Array Slot), okM t1 → frA [(0, 78), (0, 79), (0, 80), (0, 81)] [] [] [] t t1 → (-2147483647 : Int) ≤ w216_3.toInt ∧ w216_3.toInt ≤ 17 → (0 : Int) ≤ w216_4.toInt ∧ w216_4.toInt ≤ 4 → sS w216_5 → (6 : Int) ≤ (t1.1 0 78).toInt ∧ (t1.1 0 78).toInt ≤ 6 → (7 ≤ w216_2.toInt) → (w216_2.toInt ≤ 28 + 6 * w216_4.toInt) → (0 ≤ w216_4.toInt) → (w216_4.toInt ≤ 4) → ((t1.1 0 78).toInt = 6) → (∃ s d : Nat, jX (gD t x1) s d ∧ w216_2.toInt = ((oN (gD t x1) (6 + s + d) ((w216_4.toInt : Int).toNat + 1) : Nat) : Int) + 1) → (5 : Int) - w216_4.toInt < (fuel_164 : Int) + 1 → va_P D vwCl (WM K ad t1) H → va_D A (WM K ad t1) → va_S A s.heap H locs → lv_has ls 6 [(0, .ref (ad 0)), (1, .int x1), (2, .int w216_2), (3, .int w216_3), (4, .int w216_4), (5, .ref (Z w216_5))] → W p l e (rmD 9 0 0) s m [.ref (ad 0), .int x1].toArray below meth c H locs 0 0 (MQ below (QI D K (fun (r : Int32) (u : tSt) => okM u ∧ frA [(0, 78), (0, 79), (0, 80), (0, 81)] [] [] [] t u ∧ (0 : Int) ≤ r.toInt ∧ r.toInt ≤ 1 ∧ (r.toInt = 1 → (u.1 0 78).toInt = 6) ∧ ((t.1 0 78).toInt = 6 → (u.1 0 78).toInt = 6) ∧ (r.toInt = 1 ↔ jOK (gD t x1))) (fun (u : tSt) => WM K ad u) A) [.ref (ad 0), .int x1].toArray s 0 0 A) (F0 m 216 ls []) := by
        intro t1 w216_2 w216_3 w216_4 w216_5 H locs ls hok hfr hw216_3 hw216_4 hw216_5 hf216_78 hi216_0 hi216_1 hi216_2 hi216_3 hi216_4 hi216_5 hm216_164 hP hD hS hl
        have e_30 : t1.2.2.1 36 = t.2.2.1 36 := hfr.2.2.1 36 rfl
        have e_31 : t1.2.2.1 37 = t.2.2.1 37 := hfr.2.2.1 37 rfl
        have e_32 : t1.2.2.1 38 = t.2.2.1 38 := hfr.2.2.1 38 rfl
        obtain ⟨v_33, e_34⟩ : ∃ z, z = w216_4 + 1 := ⟨_, rfl⟩
        have h_35 : v_33.toInt = w216_4.toInt + 1 := by rw [e_34]; exact ti_iadd (by show (_ : Int) ≤ w216_4.toInt + 1; omega) (by show w216_4.toInt + 1 < (_ : Int); omega)
        refine lv_iinc (v := v_33) (lv' := [(4, .int v_33), (0, .ref (ad 0)), (1, .int x1), (2, .int w216_2), (3, .int w216_3), (5, .ref (Z w216_5))]) C.1 C.2.1 dX12_isJob_216 hl (k := 4) rfl e_34.symm (by decide) rfl (fun ls hl => ?_)
        have hl : lv_has ls 6 [(0, .ref (ad 0)), (1, .int x1), (2, .int w216_2), (3, .int w216_3), (4, .int v_33), (5, .ref (Z w216_5))] := lv_sub hl [1, 2, 3, 4, 0, 5] rfl
        refine lv_goto (tgt := 164) C.1 C.2.1 dX12_isJob_219 (by decide) ?_
        exact ih_164 t1 w216_2 w216_3 v_33 _ _ _ hok hfr ⟨by omega, by omega⟩ ⟨by omega, by omega⟩ (show (6 : Int) ≤ ((t1.1 0 78) : Int32).toInt ∧ ((t1.1 0 78) : Int32).toInt ≤ 6 from ⟨by omega, by omega⟩) (show 7 ≤ w216_2.toInt from by omega) (show w216_2.toInt ≤ 22 + 6 * v_33.toInt from by omega) (show 0 ≤ v_33.toInt from by omega) (show v_33.toInt ≤ 5 from by omega) (show (t1.1 0 78).toInt = 6 from by omega) (show ∃ s d : Nat, jX (gD t x1) s d ∧ w216_2.toInt = ((oN (gD t x1) (6 + s + d) (v_33.toInt : Int).toNat : Nat) : Int) + 1 from by first | exact jx_in hi92_5 hi92_6 hi92_7 (by omega) hi92_9 (by omega) ((jl hl5 (by omega)).symm.trans (Int32.toInt_inj.mp (by have hq : (32 : Int32).toInt = 32 := rfl; omega))) | (rw [(show ∀ z : Int, z = w216_4.toInt + 1 → 0 ≤ w216_4.toInt → z.toNat = w216_4.toInt.toNat + 1 from fun z hz h0 => by omega) _ (by assumption) (by omega)]; exact hi216_5)) (show (5 : Int) - v_33.toInt < (fuel_164 : Int) from by omega) hP hD hS (lv_sub hl [0, 1, 2, 3, 4] rfl)
      have hfd : ∀ c, fDeck t1 x1 c = fDeck t x1 c := fun c => by unfold fDeck; rw [hfr.2.2.1 36 rfl, hfr.2.2.1 37 rfl, hfr.2.2.1 38 rfl]
      have hgd : gD t1 x1 = gD t x1 := funext fun j => by unfold gD; rw [hfd]
      refine lv_iload C.1 C.2.1 dX12_isJob_164 (lv_at hl 4 rfl) ?_
      refine lv_iconst (v := 5) C.1 C.2.1 dX12_isJob_166 (by decide) ?_
      refine lv_icmp_ge (tgt := 222) C.1 C.2.1 dX12_isJob_167 (by decide) (fun c_36 => ?_) (fun c_36 => ?_)
      · replace c_36 : 5 ≤ w164_4.toInt := i_le c_36
        refine lv_iload_n C.1 C.2.1 dX12_isJob_222 rfl (lv_at hl 2 rfl) ?_
        refine lv_istore (lv' := [(4, .int w164_2), (0, .ref (ad 0)), (1, .int x1), (2, .int w164_2), (3, .int w164_3)]) C.1 C.2.1 dX12_isJob_223 hl (by decide) rfl (fun ls hl => ?_)
        have hl : lv_has ls 6 [(0, .ref (ad 0)), (1, .int x1), (2, .int w164_2), (3, .int w164_3), (4, .int w164_2)] := lv_sub hl [1, 2, 3, 4, 0] rfl
        exact L_225 200 t1 w164_2 w164_3 w164_2 _ _ _ hok hfr ⟨by omega, by omega⟩ (show (6 : Int) ≤ ((t1.1 0 78) : Int32).toInt ∧ ((t1.1 0 78) : Int32).toInt ≤ 6 from ⟨by omega, by omega⟩) (show 7 ≤ w164_2.toInt from by omega) (show w164_2.toInt ≤ 81 from by omega) (show (t1.1 0 78).toInt = 6 from by omega) (show ∃ s d : Nat, jX (gD t x1) s d ∧ ((oN (gD t x1) (6 + s + d) 5 : Nat) : Int) + 1 ≤ w164_2.toInt ∧ ∀ j : Nat, oN (gD t x1) (6 + s + d) 5 ≤ j → (j : Int) < w164_2.toInt - 1 → gD t x1 j = 32 from by first | exact jx_o hi164_5 (by omega) | exact jx_n hi225_3 (by assumption) ((jl hl6 (by omega)).symm.trans (Int32.toInt_inj.mp (by have hq : (32 : Int32).toInt = 32 := rfl; omega)))) (show (81 - w164_2.toInt) < ((200 : Nat) : Int) from by omega) hP hD hS (lv_sub hl [0, 1, 2, 3, 4] rfl)
      · replace c_36 : w164_4.toInt < 5 := i_nle c_36
        refine lv_iload C.1 C.2.1 dX12_isJob_170 (lv_at hl 4 rfl) ?_
        refine g_Sr (As := [.int w164_4]) (rest := []) C hP hD hS hA (U_X12_optionOf l D K Z Y ad t1 hok (w164_4) (show (0 : Int) ≤ (w164_4 : Int32).toInt ∧ (w164_4 : Int32).toInt ≤ 4 from ⟨by omega, by omega⟩)) hE hZ (uwS m_79_10 m_79_11 m_1_5 m_79_12) (hdS 1 (by decide +kernel) rfl) ⟨Nat.le_of_ble_eq_true rfl, Nat.le_of_ble_eq_true rfl⟩ rfl rfl rfl hl.1 (Nat.le_of_ble_eq_true rfl) dX12_isJob_172 ⟨Nat.le_of_ble_eq_true rfl, Nat.le_of_ble_eq_true rfl⟩ (fun t_37 H locs hw hP hD hS => ?_)
        obtain ⟨ht_37, p_40⟩ := hw
        replace p_40 : t_37 = 26 + (w164_4.toInt).toNat := p_40
        have hsq := sS_len ht_37
        have kyU := p_40
        refine lv_astore (lv' := [(5, .ref (Z t_37)), (0, .ref (ad 0)), (1, .int x1), (2, .int w164_2), (3, .int w164_3), (4, .int w164_4)]) C.1 C.2.1 dX12_isJob_175 hl (by decide) rfl (fun ls hl => ?_)
        have hl : lv_has ls 6 [(0, .ref (ad 0)), (1, .int x1), (2, .int w164_2), (3, .int w164_3), (4, .int w164_4), (5, .ref (Z t_37))] := lv_sub hl [1, 2, 3, 4, 5, 0] rfl
        refine lv_aload_n C.1 C.2.1 dX12_isJob_177 rfl (lv_at hl 0 rfl) ?_
        refine lv_iload_n C.1 C.2.1 dX12_isJob_178 rfl (lv_at hl 1 rfl) ?_
        refine lv_iload_n C.1 C.2.1 dX12_isJob_179 rfl (lv_at hl 2 rfl) ?_
        refine lv_iconst (v := 1) C.1 C.2.1 dX12_isJob_180 (by decide) ?_
        obtain ⟨v_41, e_42⟩ : ∃ z, z = (w164_2 : Int32) + (1 : Int32) := ⟨_, rfl⟩
        have h_44 := i_rng w164_2
        have h_43 : v_41.toInt = w164_2.toInt + 1 := by rw [e_42]; exact ti_iadd (by show (_ : Int) ≤ w164_2.toInt + 1; omega) (by show w164_2.toInt + 1 < (_ : Int); omega)
        refine k_iadd (v := v_41) C e_42.symm dX12_isJob_181 ?_
        refine lv_aload C.1 C.2.1 dX12_isJob_182 (lv_at hl 5 rfl) ?_
        refine g_Vi (As := [.int x1, .int v_41, .ref (Z t_37)]) (rest := []) C hP hD hS hA (U_X12_hasWordAt l D K Z Y ad t1 hok (x1) (show (0 : Int) ≤ (x1 : Int32).toInt ∧ (x1 : Int32).toInt ≤ 1280 from ⟨by omega, by omega⟩) (v_41) (show (1 : Int) ≤ (v_41 : Int32).toInt ∧ (v_41 : Int32).toInt ≤ 150 from ⟨by omega, by omega⟩) (t_37) ht_37 (show 1 ≤ v_41.toInt from by omega)) hE hZ (uwV m_79_13 m_79_14 m_79_15 m_1_5 m_79_16) (hdV 3 (by decide +kernel) rfl) ⟨Nat.le_of_ble_eq_true rfl, Nat.le_of_ble_eq_true rfl⟩ rfl rfl (ci := 11) (q0 := 0) rfl rfl rfl hl.1 (Nat.le_of_ble_eq_true rfl) dX12_isJob_184 ⟨Nat.le_of_ble_eq_true rfl, Nat.le_of_ble_eq_true rfl⟩ (fun r_46 t_45 H locs hw hP hD hS => ?_)
        obtain ⟨h_48, h_49, p_50⟩ := hw
        replace p_50 : r_46.toInt = 1 ↔ wBl (gD t1 x1) (v_41.toInt - 1).toNat t_37 := p_50
        have kyH := p_50
        rw [hgd] at kyH
        refine lv_if_ne (tgt := 193) C.1 C.2.1 dX12_isJob_187 (by decide) (fun c_51 => ?_) (fun c_51 => ?_)
        · replace c_51 : ¬ r_46.toInt = 0 := i_ne c_51
          refine lv_aload_n C.1 C.2.1 dX12_isJob_193 rfl (lv_at hl 0 rfl) ?_
          refine lv_aload_n C.1 C.2.1 dX12_isJob_194 rfl (lv_at hl 0 rfl) ?_
          refine k_get (v := .int (t1.1 0 80)) C hP 0 rfl rfl inlX12 80 (by decide) m_79_0 rfl dX12_isJob_195 ?_
          refine lv_iconst (v := 1) C.1 C.2.1 dX12_isJob_198 (by decide) ?_
          refine lv_iload C.1 C.2.1 dX12_isJob_199 (lv_at hl 4 rfl) ?_
          obtain ⟨v_52, e_53⟩ : ∃ z, z = (1 : Int32) <<< ((w164_4 : Int32) &&& 31) := ⟨_, rfl⟩
          refine k_ishl (v := v_52) C e_53.symm dX12_isJob_201 ?_
          obtain ⟨v_55, e_56⟩ : ∃ z, z = ((t1.1 0 80) : Int32) ||| (v_52 : Int32) := ⟨_, rfl⟩
          refine k_ior (v := v_55) C e_56.symm dX12_isJob_202 ?_
          refine k_put (ws' := WM K ad (uI t1 0 80 v_55)) (v := .int v_55) C hP hD hS 0 rfl rfl inlX12 tyX12_ok nmX12 80 (by decide) m_79_0 rfl rfl rfl rfl rfl dX12_isJob_203 (fun H locs hP hD hS => ?_)
          have hok : okM (uI t1 0 80 v_55) := ⟨okI_I hok.1 0 80 v_55 (show (-2147483648 : Int) ≤ (v_55 : Int32).toInt ∧ (v_55 : Int32).toInt ≤ 2147483647 from (i_rng _)), hok.2.1, hok.2.2.1, hok.2.2.2.1, hok.2.2.2.2.1, hok.2.2.2.2.2.1, hok.2.2.2.2.2.2.1, trivial⟩
          have hfr : frA [(0, 78), (0, 79), (0, 80), (0, 81)] [] [] [] t (uI t1 0 80 v_55) := frA_I hfr 0 80 _ rfl
          refine lv_iload_n C.1 C.2.1 dX12_isJob_206 rfl (lv_at hl 2 rfl) ?_
          refine lv_iconst (v := 1) C.1 C.2.1 dX12_isJob_207 (by decide) ?_
          refine lv_aload C.1 C.2.1 dX12_isJob_208 (lv_at hl 5 rfl) ?_
          refine g_Ti (As := []) (rest := [.int 1, .int w164_2]) C hP hD hS hA (TJ_length l D K Z Y (WM K ad (uI t1 0 80 v_55)) t_37 (sS_lt ht_37)) hE hZ (uwV m_79_5 m_14_22 m_14_23 m_14_8 m_15_0) (hdV 0 (by decide +kernel) rfl) ⟨Nat.le_of_ble_eq_true rfl, Nat.le_of_ble_eq_true rfl⟩ rfl rfl (i0 := t_37) (sS_lt ht_37) rfl rfl hl.1 (Nat.le_of_ble_eq_true rfl) dX12_isJob_210 ⟨Nat.le_of_ble_eq_true rfl, Nat.le_of_ble_eq_true rfl⟩ (fun r_58 u_r_58 H locs hw hP hD hS => ?_)
          have h_59 : r_58.toInt = sL t_37 := hw
          have h_60 := sS_len ht_37
          obtain ⟨v_61, e_62⟩ : ∃ z, z = (1 : Int32) + (r_58 : Int32) := ⟨_, rfl⟩
          have h_63 : v_61.toInt = 1 + r_58.toInt := by rw [e_62]; exact ti_iadd (by show (_ : Int) ≤ 1 + r_58.toInt; omega) (by show 1 + r_58.toInt < (_ : Int); omega)
          refine k_iadd (v := v_61) C e_62.symm dX12_isJob_213 ?_
          obtain ⟨v_64, e_65⟩ : ∃ z, z = (w164_2 : Int32) + (v_61 : Int32) := ⟨_, rfl⟩
          have h_67 := i_rng w164_2
          have h_66 : v_64.toInt = w164_2.toInt + v_61.toInt := by rw [e_65]; exact ti_iadd (by show (_ : Int) ≤ w164_2.toInt + v_61.toInt; omega) (by show w164_2.toInt + v_61.toInt < (_ : Int); omega)
          refine k_iadd (v := v_64) C e_65.symm dX12_isJob_214 ?_
          refine lv_istore_n (lv' := [(2, .int v_64), (0, .ref (ad 0)), (1, .int x1), (3, .int w164_3), (4, .int w164_4), (5, .ref (Z t_37))]) C.1 C.2.1 dX12_isJob_215 rfl hl (by decide) rfl (fun ls hl => ?_)
          have hl : lv_has ls 6 [(0, .ref (ad 0)), (1, .int x1), (2, .int v_64), (3, .int w164_3), (4, .int w164_4), (5, .ref (Z t_37))] := lv_sub hl [1, 2, 0, 3, 4, 5] rfl
          exact L_216 (uI t1 0 80 v_55) v_64 w164_3 w164_4 (t_37) _ _ _ hok hfr ⟨by omega, by omega⟩ ⟨by omega, by omega⟩ ht_37 (show (6 : Int) ≤ ((t1.1 0 78) : Int32).toInt ∧ ((t1.1 0 78) : Int32).toInt ≤ 6 from ⟨by omega, by omega⟩) (show 7 ≤ v_64.toInt from by omega) (show v_64.toInt ≤ 28 + 6 * w164_4.toInt from by omega) (show 0 ≤ w164_4.toInt from by omega) (show w164_4.toInt ≤ 4 from by omega) (show (t1.1 0 78).toInt = 6 from by omega) (show ∃ s d : Nat, jX (gD t x1) s d ∧ v_64.toInt = ((oN (gD t x1) (6 + s + d) ((w164_4.toInt : Int).toNat + 1) : Nat) : Int) + 1 from by first | exact jo_f hi164_5 (by omega) kyU (by assumption) (fun z => absurd (kyH.mpr z) (by omega)) | exact jo_t hi164_5 (by omega) kyU (by assumption) (kyH.mp (by omega)) (by omega)) (show (5 : Int) - w164_4.toInt < (fuel_164 : Int) + 1 from by omega) hP hD hS (lv_sub hl [0, 1, 2, 3, 4, 5] rfl)
        · replace c_51 : r_46.toInt = 0 := i_eq c_51
          refine lv_goto (tgt := 216) C.1 C.2.1 dX12_isJob_190 (by decide) ?_
          exact L_216 t1 w164_2 w164_3 w164_4 (t_37) _ _ _ hok hfr ⟨by omega, by omega⟩ ⟨by omega, by omega⟩ ht_37 (show (6 : Int) ≤ ((t1.1 0 78) : Int32).toInt ∧ ((t1.1 0 78) : Int32).toInt ≤ 6 from ⟨by omega, by omega⟩) (show 7 ≤ w164_2.toInt from by omega) (show w164_2.toInt ≤ 28 + 6 * w164_4.toInt from by omega) (show 0 ≤ w164_4.toInt from by omega) (show w164_4.toInt ≤ 4 from by omega) (show (t1.1 0 78).toInt = 6 from by omega) (show ∃ s d : Nat, jX (gD t x1) s d ∧ w164_2.toInt = ((oN (gD t x1) (6 + s + d) ((w164_4.toInt : Int).toNat + 1) : Nat) : Int) + 1 from by first | exact jo_f hi164_5 (by omega) kyU (by assumption) (fun z => absurd (kyH.mpr z) (by omega)) | exact jo_t hi164_5 (by omega) kyU (by assumption) (kyH.mp (by omega)) (by omega)) (show (5 : Int) - w164_4.toInt < (fuel_164 : Int) + 1 from by omega) hP hD hS (lv_sub hl [0, 1, 2, 3, 4, 5] rfl)
  have L_92 : ∀ (fuel_92 : Nat) (t1 : tSt) (w92_2 : Int32) (w92_3 : Int32) (H : Heap) (locs : List Loc) (ls : Array Slot), okM t1 → frA [(0, 78), (0, 79), (0, 80), (0, 81)] [] [] [] t t1 → (-2147483647 : Int) ≤ w92_2.toInt ∧ w92_2.toInt ≤ 31 → (-2147483647 : Int) ≤ w92_3.toInt ∧ w92_3.toInt ≤ 17 → (6 : Int) ≤ (t1.1 0 78).toInt ∧ (t1.1 0 78).toInt ≤ 6 → (w92_3.toInt ≤ w92_2.toInt) → (w92_2.toInt ≤ w92_3.toInt + 5) → (7 ≤ w92_3.toInt) → (w92_3.toInt ≤ 17) → ((t1.1 0 78).toInt = 6) → (wBl (gD t x1) 0 25) → (∀ j : Nat, (j : Int) < w92_3.toInt - 7 → anL (gD t x1 (5 + j))) → (gD t x1 (w92_3.toInt - 2).toNat = 32) → (8 ≤ w92_3.toInt) → (∀ j : Nat, (j : Int) < w92_2.toInt - w92_3.toInt → dgL (gD t x1 ((w92_3.toInt - 1).toNat + j))) → (w92_3.toInt + 6 - w92_2.toInt) < (fuel_92 : Int) → va_P D vwCl (WM K ad t1) H → va_D A (WM K ad t1) → va_S A s.heap H locs → lv_has ls 6 [(0, .ref (ad 0)), (1, .int x1), (2, .int w92_2), (3, .int w92_3)] → W p l e (rmD 9 0 0) s m [.ref (ad 0), .int x1].toArray below meth c H locs 0 0 (MQ below (QI D K (fun (r : Int32) (u : tSt) => okM u ∧ frA [(0, 78), (0, 79), (0, 80), (0, 81)] [] [] [] t u ∧ (0 : Int) ≤ r.toInt ∧ r.toInt ≤ 1 ∧ (r.toInt = 1 → (u.1 0 78).toInt = 6) ∧ ((t.1 0 78).toInt = 6 → (u.1 0 78).toInt = 6) ∧ (r.toInt = 1 ↔ jOK (gD t x1))) (fun (u : tSt) => WM K ad u) A) [.ref (ad 0), .int x1].toArray s 0 0 A) (F0 m 92 ls []) := by
    intro fuel_92
    induction fuel_92 with
    | zero =>
      intro t1 w92_2 w92_3 H locs ls hok hfr hw92_2 hw92_3 hf92_78 hi92_0 hi92_1 hi92_2 hi92_3 hi92_4 hi92_5 hi92_6 hi92_7 hi92_8 hi92_9 hm92_92 hP hD hS hl
      have e_68 : t1.2.2.1 36 = t.2.2.1 36 := hfr.2.2.1 36 rfl
      have e_69 : t1.2.2.1 37 = t.2.2.1 37 := hfr.2.2.1 37 rfl
      have e_70 : t1.2.2.1 38 = t.2.2.1 38 := hfr.2.2.1 38 rfl
      exact absurd hm92_92 (by omega)
    | succ fuel_92 ih_92 =>
      intro t1 w92_2 w92_3 H locs ls hok hfr hw92_2 hw92_3 hf92_78 hi92_0 hi92_1 hi92_2 hi92_3 hi92_4 hi92_5 hi92_6 hi92_7 hi92_8 hi92_9 hm92_92 hP hD hS hl
      have hm92_92 : (w92_3.toInt + 6 - w92_2.toInt) < (fuel_92 : Int) + 1 := by omega
      have e_71 : t1.2.2.1 36 = t.2.2.1 36 := hfr.2.2.1 36 rfl
      have e_72 : t1.2.2.1 37 = t.2.2.1 37 := hfr.2.2.1 37 rfl
      have e_73 : t1.2.2.1 38 = t.2.2.1 38 := hfr.2.2.1 38 rfl
      have hfd : ∀ c, fDeck t1 x1 c = fDeck t x1 c := fun c => by unfold fDeck; rw [hfr.2.2.1 36 rfl, hfr.2.2.1 37 rfl, hfr.2.2.1 38 rfl]
      refine lv_aload_n C.1 C.2.1 dX12_isJob_92 rfl (lv_at hl 0 rfl) ?_
      refine lv_iload_n C.1 C.2.1 dX12_isJob_93 rfl (lv_at hl 1 rfl) ?_
      refine lv_iload_n C.1 C.2.1 dX12_isJob_94 rfl (lv_at hl 2 rfl) ?_
      refine g_Vi (As := [.int x1, .int w92_2]) (rest := []) C hP hD hS hA (T_X12_deckLetter l D K Z Y ad t1 hok (x1) (show (0 : Int) ≤ (x1 : Int32).toInt ∧ (x1 : Int32).toInt ≤ 1280 from ⟨by omega, by omega⟩) (w92_2) (show (1 : Int) ≤ (w92_2 : Int32).toInt ∧ (w92_2 : Int32).toInt ≤ 200 from ⟨by omega, by omega⟩)) hE hZ (uwV m_79_6 m_79_7 m_79_8 m_1_5 m_79_9) (hdV 2 (by decide +kernel) rfl) ⟨Nat.le_of_ble_eq_true rfl, Nat.le_of_ble_eq_true rfl⟩ rfl rfl (ci := 11) (q0 := 0) rfl rfl rfl hl.1 (Nat.le_of_ble_eq_true rfl) dX12_isJob_95 ⟨Nat.le_of_ble_eq_true rfl, Nat.le_of_ble_eq_true rfl⟩ (fun r_75 t_74 H locs hw hP hD hS => ?_)
      obtain ⟨h_77, h_78, p_79, p_80, p_81, p_82⟩ := hw
      replace p_79 : r_75 = fDeck t1 x1 w92_2 := p_79
      replace p_80 : r_75.toInt = (fDeck t1 x1 w92_2).toInt := p_80
      replace p_81 : ¬ r_75.toInt = 32 → (t1.2.2.1 37 (x1 : Int32).toNatClampNeg).toInt + w92_2.toInt ≤ (t1.2.2.1 38 (x1 : Int32).toNatClampNeg).toInt := p_81
      have h_83 : (t1.2.2.1 37 (x1 : Int32).toNatClampNeg).toInt = (t.2.2.1 37 (x1 : Int32).toNatClampNeg).toInt := tb_eq e_72 _
      have h_84 : (t1.2.2.1 38 (x1 : Int32).toNatClampNeg).toInt = (t.2.2.1 38 (x1 : Int32).toNatClampNeg).toInt := tb_eq e_73 _
      replace p_82 : 81 ≤ w92_2.toInt → r_75.toInt = 32 := p_82
      have hl4 := p_79
      rw [hfd] at hl4
      refine g_Si (As := [.int r_75]) (rest := []) C hP hD hS hA (U_X12_isDigit l D K Z Y ad t1 hok (r_75) (show (0 : Int) ≤ (r_75 : Int32).toInt ∧ (r_75 : Int32).toInt ≤ 255 from ⟨by omega, by omega⟩)) hE hZ (uwS m_32_15 m_32_16 m_1_5 m_32_17) (hdS 1 (by decide +kernel) rfl) ⟨Nat.le_of_ble_eq_true rfl, Nat.le_of_ble_eq_true rfl⟩ rfl rfl rfl hl.1 (Nat.le_of_ble_eq_true rfl) dX12_isJob_98 ⟨Nat.le_of_ble_eq_true rfl, Nat.le_of_ble_eq_true rfl⟩ (fun r_86 t_85 H locs hw hP hD hS => ?_)
      obtain ⟨h_88, h_89, p_90⟩ := hw
      replace p_90 : r_86.toInt = 1 ↔ (48 ≤ r_75.toInt ∧ r_75.toInt ≤ 57) := p_90
      have hd4 := p_90
      refine lv_if_eq (tgt := 138) C.1 C.2.1 dX12_isJob_101 (by decide) (fun c_91 => ?_) (fun c_91 => ?_)
      · replace c_91 : r_86.toInt = 0 := i_eq c_91
        refine lv_iload_n C.1 C.2.1 dX12_isJob_138 rfl (lv_at hl 2 rfl) ?_
        refine lv_iload_n C.1 C.2.1 dX12_isJob_139 rfl (lv_at hl 3 rfl) ?_
        refine lv_icmp_eq (tgt := 154) C.1 C.2.1 dX12_isJob_140 (by decide) (fun c_92 => ?_) (fun c_92 => ?_)
        · replace c_92 : w92_2.toInt = w92_3.toInt := i_eq c_92
          refine lv_iconst (v := 0) C.1 C.2.1 dX12_isJob_154 (by decide) ?_
          exact g_iret C hr hlocks hP hD hS (by decide) t1 rfl ⟨hok, hfr, by decide, by decide, (show 0 = 1 → (t1.1 0 78).toInt = 6 from by omega), (show (t.1 0 78).toInt = 6 → (t1.1 0 78).toInt = 6 from by omega), (show 0 = 1 ↔ jOK (gD t x1) from by first | exact jz (fun z => absurd (kyA.mpr z.1) (by omega)) | exact jr0 hi16_3 hna (by omega) (by first | exact Or.inl (by omega) | exact Or.inr (Or.inl (by omega)) | exact Or.inr (Or.inr (fun z => absurd (congrArg Int32.toInt ((jl hl3 (by omega)).trans z)) (by have hq : (32 : Int32).toInt = 32 := rfl; omega)))) | exact jr1 gD_80 hi92_5 hi92_6 hi92_7 (by omega) hi92_9 (by omega) (by first | exact Or.inl (by omega) | exact Or.inr (jd_no hl4 (fun z => absurd (hd4.mpr z) (by omega)) (by omega))) (by first | exact Or.inl (by omega) | exact Or.inr (fun z => absurd (congrArg Int32.toInt ((jl hl5 (by omega)).trans z)) (by have hq : (32 : Int32).toInt = 32 := rfl; omega))) | exact jx_no hi225_3 (by omega) (fun z => absurd (congrArg Int32.toInt ((jl hl6 (by omega)).trans z)) (by have hq : (32 : Int32).toInt = 32 := rfl; omega)) | exact jx_yes hi225_3 (by omega))⟩ (Nat.le_of_ble_eq_true rfl) (Nat.le_of_ble_eq_true rfl) dX12_isJob_155
        · replace c_92 : ¬ w92_2.toInt = w92_3.toInt := i_ne c_92
          refine lv_aload_n C.1 C.2.1 dX12_isJob_143 rfl (lv_at hl 0 rfl) ?_
          refine lv_iload_n C.1 C.2.1 dX12_isJob_144 rfl (lv_at hl 1 rfl) ?_
          refine lv_iload_n C.1 C.2.1 dX12_isJob_145 rfl (lv_at hl 2 rfl) ?_
          refine g_Vi (As := [.int x1, .int w92_2]) (rest := []) C hP hD hS hA (T_X12_deckLetter l D K Z Y ad t1 hok (x1) (show (0 : Int) ≤ (x1 : Int32).toInt ∧ (x1 : Int32).toInt ≤ 1280 from ⟨by omega, by omega⟩) (w92_2) (show (1 : Int) ≤ (w92_2 : Int32).toInt ∧ (w92_2 : Int32).toInt ≤ 200 from ⟨by omega, by omega⟩)) hE hZ (uwV m_79_6 m_79_7 m_79_8 m_1_5 m_79_9) (hdV 2 (by decide +kernel) rfl) ⟨Nat.le_of_ble_eq_true rfl, Nat.le_of_ble_eq_true rfl⟩ rfl rfl (ci := 11) (q0 := 0) rfl rfl rfl hl.1 (Nat.le_of_ble_eq_true rfl) dX12_isJob_146 ⟨Nat.le_of_ble_eq_true rfl, Nat.le_of_ble_eq_true rfl⟩ (fun r_94 t_93 H locs hw hP hD hS => ?_)
          obtain ⟨h_96, h_97, p_98, p_99, p_100, p_101⟩ := hw
          replace p_98 : r_94 = fDeck t1 x1 w92_2 := p_98
          replace p_99 : r_94.toInt = (fDeck t1 x1 w92_2).toInt := p_99
          replace p_100 : ¬ r_94.toInt = 32 → (t1.2.2.1 37 (x1 : Int32).toNatClampNeg).toInt + w92_2.toInt ≤ (t1.2.2.1 38 (x1 : Int32).toNatClampNeg).toInt := p_100
          replace p_101 : 81 ≤ w92_2.toInt → r_94.toInt = 32 := p_101
          have hl5 := p_98
          rw [hfd] at hl5
          refine lv_bipush (v := 32) C.1 C.2.1 dX12_isJob_149 (by decide) ?_
          refine lv_icmp_eq (tgt := 156) C.1 C.2.1 dX12_isJob_151 (by decide) (fun c_102 => ?_) (fun c_102 => ?_)
          · replace c_102 : r_94.toInt = 32 := i_eq c_102
            refine lv_aload_n C.1 C.2.1 dX12_isJob_156 rfl (lv_at hl 0 rfl) ?_
            refine lv_iconst (v := 0) C.1 C.2.1 dX12_isJob_157 (by decide) ?_
            refine k_put (ws' := WM K ad (uI t1 0 80 0)) (v := .int 0) C hP hD hS 0 rfl rfl inlX12 tyX12_ok nmX12 80 (by decide) m_79_0 rfl rfl rfl rfl rfl dX12_isJob_158 (fun H locs hP hD hS => ?_)
            have hok : okM (uI t1 0 80 0) := ⟨okI_I hok.1 0 80 0 (show (-2147483648 : Int) ≤ (0 : Int32).toInt ∧ (0 : Int32).toInt ≤ 2147483647 from (i_rng _)), hok.2.1, hok.2.2.1, hok.2.2.2.1, hok.2.2.2.2.1, hok.2.2.2.2.2.1, hok.2.2.2.2.2.2.1, trivial⟩
            have hfr : frA [(0, 78), (0, 79), (0, 80), (0, 81)] [] [] [] t (uI t1 0 80 0) := frA_I hfr 0 80 _ rfl
            refine lv_iconst (v := 0) C.1 C.2.1 dX12_isJob_161 (by decide) ?_
            refine lv_istore (lv' := [(4, .int 0), (0, .ref (ad 0)), (1, .int x1), (2, .int w92_2), (3, .int w92_3)]) C.1 C.2.1 dX12_isJob_162 hl (by decide) rfl (fun ls hl => ?_)
            have hl : lv_has ls 6 [(0, .ref (ad 0)), (1, .int x1), (2, .int w92_2), (3, .int w92_3), (4, .int 0)] := lv_sub hl [1, 2, 3, 4, 0] rfl
            exact L_164 6 (uI t1 0 80 0) w92_2 w92_3 0 _ _ _ hok hfr ⟨by omega, by omega⟩ ⟨by decide, by decide⟩ (show (6 : Int) ≤ ((t1.1 0 78) : Int32).toInt ∧ ((t1.1 0 78) : Int32).toInt ≤ 6 from ⟨by omega, by omega⟩) (show 7 ≤ w92_2.toInt from by omega) (show w92_2.toInt ≤ 22 + 6 * 0 from by omega) (show 0 ≤ 0 from by omega) (show 0 ≤ 5 from by omega) (show (t1.1 0 78).toInt = 6 from by omega) (show ∃ s d : Nat, jX (gD t x1) s d ∧ w92_2.toInt = ((oN (gD t x1) (6 + s + d) (0 : Int).toNat : Nat) : Int) + 1 from by first | exact jx_in hi92_5 hi92_6 hi92_7 (by omega) hi92_9 (by omega) ((jl hl5 (by omega)).symm.trans (Int32.toInt_inj.mp (by have hq : (32 : Int32).toInt = 32 := rfl; omega))) | (rw [(show ∀ z : Int, z = w216_4.toInt + 1 → 0 ≤ w216_4.toInt → z.toNat = w216_4.toInt.toNat + 1 from fun z hz h0 => by omega) _ (by assumption) (by omega)]; exact hi216_5)) (show (5 : Int) - 0 < ((6 : Nat) : Int) from by omega) hP hD hS (lv_sub hl [0, 1, 2, 3, 4] rfl)
          · replace c_102 : ¬ r_94.toInt = 32 := i_ne c_102
            refine lv_iconst (v := 0) C.1 C.2.1 dX12_isJob_154 (by decide) ?_
            exact g_iret C hr hlocks hP hD hS (by decide) t1 rfl ⟨hok, hfr, by decide, by decide, (show 0 = 1 → (t1.1 0 78).toInt = 6 from by omega), (show (t.1 0 78).toInt = 6 → (t1.1 0 78).toInt = 6 from by omega), (show 0 = 1 ↔ jOK (gD t x1) from by first | exact jz (fun z => absurd (kyA.mpr z.1) (by omega)) | exact jr0 hi16_3 hna (by omega) (by first | exact Or.inl (by omega) | exact Or.inr (Or.inl (by omega)) | exact Or.inr (Or.inr (fun z => absurd (congrArg Int32.toInt ((jl hl3 (by omega)).trans z)) (by have hq : (32 : Int32).toInt = 32 := rfl; omega)))) | exact jr1 gD_80 hi92_5 hi92_6 hi92_7 (by omega) hi92_9 (by omega) (by first | exact Or.inl (by omega) | exact Or.inr (jd_no hl4 (fun z => absurd (hd4.mpr z) (by omega)) (by omega))) (by first | exact Or.inl (by omega) | exact Or.inr (fun z => absurd (congrArg Int32.toInt ((jl hl5 (by omega)).trans z)) (by have hq : (32 : Int32).toInt = 32 := rfl; omega))) | exact jx_no hi225_3 (by omega) (fun z => absurd (congrArg Int32.toInt ((jl hl6 (by omega)).trans z)) (by have hq : (32 : Int32).toInt = 32 := rfl; omega)) | exact jx_yes hi225_3 (by omega))⟩ (Nat.le_of_ble_eq_true rfl) (Nat.le_of_ble_eq_true rfl) dX12_isJob_155
      · replace c_91 : ¬ r_86.toInt = 0 := i_ne c_91
        refine lv_iload_n C.1 C.2.1 dX12_isJob_104 rfl (lv_at hl 2 rfl) ?_
        refine lv_iload_n C.1 C.2.1 dX12_isJob_105 rfl (lv_at hl 3 rfl) ?_
        refine lv_iconst (v := 5) C.1 C.2.1 dX12_isJob_106 (by decide) ?_
        obtain ⟨v_103, e_104⟩ : ∃ z, z = (w92_3 : Int32) + (5 : Int32) := ⟨_, rfl⟩
        have h_105 : v_103.toInt = w92_3.toInt + 5 := by rw [e_104]; exact ti_iadd (by show (_ : Int) ≤ w92_3.toInt + 5; omega) (by show w92_3.toInt + 5 < (_ : Int); omega)
        refine k_iadd (v := v_103) C e_104.symm dX12_isJob_107 ?_
        refine lv_icmp_ge (tgt := 138) C.1 C.2.1 dX12_isJob_108 (by decide) (fun c_106 => ?_) (fun c_106 => ?_)
        · replace c_106 : v_103.toInt ≤ w92_2.toInt := i_le c_106
          refine lv_iload_n C.1 C.2.1 dX12_isJob_138 rfl (lv_at hl 2 rfl) ?_
          refine lv_iload_n C.1 C.2.1 dX12_isJob_139 rfl (lv_at hl 3 rfl) ?_
          refine lv_icmp_eq (tgt := 154) C.1 C.2.1 dX12_isJob_140 (by decide) (fun c_107 => ?_) (fun c_107 => ?_)
          · replace c_107 : w92_2.toInt = w92_3.toInt := i_eq c_107
            refine lv_iconst (v := 0) C.1 C.2.1 dX12_isJob_154 (by decide) ?_
            exact g_iret C hr hlocks hP hD hS (by decide) t1 rfl ⟨hok, hfr, by decide, by decide, (show 0 = 1 → (t1.1 0 78).toInt = 6 from by omega), (show (t.1 0 78).toInt = 6 → (t1.1 0 78).toInt = 6 from by omega), (show 0 = 1 ↔ jOK (gD t x1) from by first | exact jz (fun z => absurd (kyA.mpr z.1) (by omega)) | exact jr0 hi16_3 hna (by omega) (by first | exact Or.inl (by omega) | exact Or.inr (Or.inl (by omega)) | exact Or.inr (Or.inr (fun z => absurd (congrArg Int32.toInt ((jl hl3 (by omega)).trans z)) (by have hq : (32 : Int32).toInt = 32 := rfl; omega)))) | exact jr1 gD_80 hi92_5 hi92_6 hi92_7 (by omega) hi92_9 (by omega) (by first | exact Or.inl (by omega) | exact Or.inr (jd_no hl4 (fun z => absurd (hd4.mpr z) (by omega)) (by omega))) (by first | exact Or.inl (by omega) | exact Or.inr (fun z => absurd (congrArg Int32.toInt ((jl hl5 (by omega)).trans z)) (by have hq : (32 : Int32).toInt = 32 := rfl; omega))) | exact jx_no hi225_3 (by omega) (fun z => absurd (congrArg Int32.toInt ((jl hl6 (by omega)).trans z)) (by have hq : (32 : Int32).toInt = 32 := rfl; omega)) | exact jx_yes hi225_3 (by omega))⟩ (Nat.le_of_ble_eq_true rfl) (Nat.le_of_ble_eq_true rfl) dX12_isJob_155
          · replace c_107 : ¬ w92_2.toInt = w92_3.toInt := i_ne c_107
            refine lv_aload_n C.1 C.2.1 dX12_isJob_143 rfl (lv_at hl 0 rfl) ?_
            refine lv_iload_n C.1 C.2.1 dX12_isJob_144 rfl (lv_at hl 1 rfl) ?_
            refine lv_iload_n C.1 C.2.1 dX12_isJob_145 rfl (lv_at hl 2 rfl) ?_
            refine g_Vi (As := [.int x1, .int w92_2]) (rest := []) C hP hD hS hA (T_X12_deckLetter l D K Z Y ad t1 hok (x1) (show (0 : Int) ≤ (x1 : Int32).toInt ∧ (x1 : Int32).toInt ≤ 1280 from ⟨by omega, by omega⟩) (w92_2) (show (1 : Int) ≤ (w92_2 : Int32).toInt ∧ (w92_2 : Int32).toInt ≤ 200 from ⟨by omega, by omega⟩)) hE hZ (uwV m_79_6 m_79_7 m_79_8 m_1_5 m_79_9) (hdV 2 (by decide +kernel) rfl) ⟨Nat.le_of_ble_eq_true rfl, Nat.le_of_ble_eq_true rfl⟩ rfl rfl (ci := 11) (q0 := 0) rfl rfl rfl hl.1 (Nat.le_of_ble_eq_true rfl) dX12_isJob_146 ⟨Nat.le_of_ble_eq_true rfl, Nat.le_of_ble_eq_true rfl⟩ (fun r_109 t_108 H locs hw hP hD hS => ?_)
            obtain ⟨h_111, h_112, p_113, p_114, p_115, p_116⟩ := hw
            replace p_113 : r_109 = fDeck t1 x1 w92_2 := p_113
            replace p_114 : r_109.toInt = (fDeck t1 x1 w92_2).toInt := p_114
            replace p_115 : ¬ r_109.toInt = 32 → (t1.2.2.1 37 (x1 : Int32).toNatClampNeg).toInt + w92_2.toInt ≤ (t1.2.2.1 38 (x1 : Int32).toNatClampNeg).toInt := p_115
            replace p_116 : 81 ≤ w92_2.toInt → r_109.toInt = 32 := p_116
            have hl5 := p_113
            rw [hfd] at hl5
            refine lv_bipush (v := 32) C.1 C.2.1 dX12_isJob_149 (by decide) ?_
            refine lv_icmp_eq (tgt := 156) C.1 C.2.1 dX12_isJob_151 (by decide) (fun c_117 => ?_) (fun c_117 => ?_)
            · replace c_117 : r_109.toInt = 32 := i_eq c_117
              refine lv_aload_n C.1 C.2.1 dX12_isJob_156 rfl (lv_at hl 0 rfl) ?_
              refine lv_iconst (v := 0) C.1 C.2.1 dX12_isJob_157 (by decide) ?_
              refine k_put (ws' := WM K ad (uI t1 0 80 0)) (v := .int 0) C hP hD hS 0 rfl rfl inlX12 tyX12_ok nmX12 80 (by decide) m_79_0 rfl rfl rfl rfl rfl dX12_isJob_158 (fun H locs hP hD hS => ?_)
              have hok : okM (uI t1 0 80 0) := ⟨okI_I hok.1 0 80 0 (show (-2147483648 : Int) ≤ (0 : Int32).toInt ∧ (0 : Int32).toInt ≤ 2147483647 from (i_rng _)), hok.2.1, hok.2.2.1, hok.2.2.2.1, hok.2.2.2.2.1, hok.2.2.2.2.2.1, hok.2.2.2.2.2.2.1, trivial⟩
              have hfr : frA [(0, 78), (0, 79), (0, 80), (0, 81)] [] [] [] t (uI t1 0 80 0) := frA_I hfr 0 80 _ rfl
              refine lv_iconst (v := 0) C.1 C.2.1 dX12_isJob_161 (by decide) ?_
              refine lv_istore (lv' := [(4, .int 0), (0, .ref (ad 0)), (1, .int x1), (2, .int w92_2), (3, .int w92_3)]) C.1 C.2.1 dX12_isJob_162 hl (by decide) rfl (fun ls hl => ?_)
              have hl : lv_has ls 6 [(0, .ref (ad 0)), (1, .int x1), (2, .int w92_2), (3, .int w92_3), (4, .int 0)] := lv_sub hl [1, 2, 3, 4, 0] rfl
              exact L_164 6 (uI t1 0 80 0) w92_2 w92_3 0 _ _ _ hok hfr ⟨by omega, by omega⟩ ⟨by decide, by decide⟩ (show (6 : Int) ≤ ((t1.1 0 78) : Int32).toInt ∧ ((t1.1 0 78) : Int32).toInt ≤ 6 from ⟨by omega, by omega⟩) (show 7 ≤ w92_2.toInt from by omega) (show w92_2.toInt ≤ 22 + 6 * 0 from by omega) (show 0 ≤ 0 from by omega) (show 0 ≤ 5 from by omega) (show (t1.1 0 78).toInt = 6 from by omega) (show ∃ s d : Nat, jX (gD t x1) s d ∧ w92_2.toInt = ((oN (gD t x1) (6 + s + d) (0 : Int).toNat : Nat) : Int) + 1 from by first | exact jx_in hi92_5 hi92_6 hi92_7 (by omega) hi92_9 (by omega) ((jl hl5 (by omega)).symm.trans (Int32.toInt_inj.mp (by have hq : (32 : Int32).toInt = 32 := rfl; omega))) | (rw [(show ∀ z : Int, z = w216_4.toInt + 1 → 0 ≤ w216_4.toInt → z.toNat = w216_4.toInt.toNat + 1 from fun z hz h0 => by omega) _ (by assumption) (by omega)]; exact hi216_5)) (show (5 : Int) - 0 < ((6 : Nat) : Int) from by omega) hP hD hS (lv_sub hl [0, 1, 2, 3, 4] rfl)
            · replace c_117 : ¬ r_109.toInt = 32 := i_ne c_117
              refine lv_iconst (v := 0) C.1 C.2.1 dX12_isJob_154 (by decide) ?_
              exact g_iret C hr hlocks hP hD hS (by decide) t1 rfl ⟨hok, hfr, by decide, by decide, (show 0 = 1 → (t1.1 0 78).toInt = 6 from by omega), (show (t.1 0 78).toInt = 6 → (t1.1 0 78).toInt = 6 from by omega), (show 0 = 1 ↔ jOK (gD t x1) from by first | exact jz (fun z => absurd (kyA.mpr z.1) (by omega)) | exact jr0 hi16_3 hna (by omega) (by first | exact Or.inl (by omega) | exact Or.inr (Or.inl (by omega)) | exact Or.inr (Or.inr (fun z => absurd (congrArg Int32.toInt ((jl hl3 (by omega)).trans z)) (by have hq : (32 : Int32).toInt = 32 := rfl; omega)))) | exact jr1 gD_80 hi92_5 hi92_6 hi92_7 (by omega) hi92_9 (by omega) (by first | exact Or.inl (by omega) | exact Or.inr (jd_no hl4 (fun z => absurd (hd4.mpr z) (by omega)) (by omega))) (by first | exact Or.inl (by omega) | exact Or.inr (fun z => absurd (congrArg Int32.toInt ((jl hl5 (by omega)).trans z)) (by have hq : (32 : Int32).toInt = 32 := rfl; omega))) | exact jx_no hi225_3 (by omega) (fun z => absurd (congrArg Int32.toInt ((jl hl6 (by omega)).trans z)) (by have hq : (32 : Int32).toInt = 32 := rfl; omega)) | exact jx_yes hi225_3 (by omega))⟩ (Nat.le_of_ble_eq_true rfl) (Nat.le_of_ble_eq_true rfl) dX12_isJob_155
        · replace c_106 : w92_2.toInt < v_103.toInt := i_nle c_106
          refine lv_aload_n C.1 C.2.1 dX12_isJob_111 rfl (lv_at hl 0 rfl) ?_
          refine lv_bipush (v := 10) C.1 C.2.1 dX12_isJob_112 (by decide) ?_
          refine lv_aload_n C.1 C.2.1 dX12_isJob_114 rfl (lv_at hl 0 rfl) ?_
          refine k_get (v := .int (t1.1 0 81)) C hP 0 rfl rfl inlX12 81 (by decide) m_78_23 rfl dX12_isJob_115 ?_
          obtain ⟨v_118, e_119⟩ : ∃ z, z = (10 : Int32) * ((t1.1 0 81) : Int32) := ⟨_, rfl⟩
          refine k_imul (v := v_118) C e_119.symm dX12_isJob_118 ?_
          refine lv_aload_n C.1 C.2.1 dX12_isJob_119 rfl (lv_at hl 0 rfl) ?_
          refine lv_iload_n C.1 C.2.1 dX12_isJob_120 rfl (lv_at hl 1 rfl) ?_
          refine lv_iload_n C.1 C.2.1 dX12_isJob_121 rfl (lv_at hl 2 rfl) ?_
          refine g_Vi (As := [.int x1, .int w92_2]) (rest := [.int v_118, .ref (ad 0)]) C hP hD hS hA (T_X12_deckLetter l D K Z Y ad t1 hok (x1) (show (0 : Int) ≤ (x1 : Int32).toInt ∧ (x1 : Int32).toInt ≤ 1280 from ⟨by omega, by omega⟩) (w92_2) (show (1 : Int) ≤ (w92_2 : Int32).toInt ∧ (w92_2 : Int32).toInt ≤ 200 from ⟨by omega, by omega⟩)) hE hZ (uwV m_79_6 m_79_7 m_79_8 m_1_5 m_79_9) (hdV 2 (by decide +kernel) rfl) ⟨Nat.le_of_ble_eq_true rfl, Nat.le_of_ble_eq_true rfl⟩ rfl rfl (ci := 11) (q0 := 0) rfl rfl rfl hl.1 (Nat.le_of_ble_eq_true rfl) dX12_isJob_122 ⟨Nat.le_of_ble_eq_true rfl, Nat.le_of_ble_eq_true rfl⟩ (fun r_122 t_121 H locs hw hP hD hS => ?_)
          obtain ⟨h_124, h_125, p_126, p_127, p_128, p_129⟩ := hw
          replace p_126 : r_122 = fDeck t1 x1 w92_2 := p_126
          replace p_127 : r_122.toInt = (fDeck t1 x1 w92_2).toInt := p_127
          replace p_128 : ¬ r_122.toInt = 32 → (t1.2.2.1 37 (x1 : Int32).toNatClampNeg).toInt + w92_2.toInt ≤ (t1.2.2.1 38 (x1 : Int32).toNatClampNeg).toInt := p_128
          replace p_129 : 81 ≤ w92_2.toInt → r_122.toInt = 32 := p_129
          obtain ⟨v_130, e_131⟩ : ∃ z, z = (v_118 : Int32) + (r_122 : Int32) := ⟨_, rfl⟩
          refine k_iadd (v := v_130) C e_131.symm dX12_isJob_125 ?_
          refine lv_bipush (v := 48) C.1 C.2.1 dX12_isJob_126 (by decide) ?_
          obtain ⟨v_133, e_134⟩ : ∃ z, z = (v_130 : Int32) - (48 : Int32) := ⟨_, rfl⟩
          refine k_isub (v := v_133) C e_134.symm dX12_isJob_128 ?_
          refine k_put (ws' := WM K ad (uI t1 0 81 v_133)) (v := .int v_133) C hP hD hS 0 rfl rfl inlX12 tyX12_ok nmX12 81 (by decide) m_78_23 rfl rfl rfl rfl rfl dX12_isJob_129 (fun H locs hP hD hS => ?_)
          have hok : okM (uI t1 0 81 v_133) := ⟨okI_I hok.1 0 81 v_133 (show (-2147483648 : Int) ≤ (v_133 : Int32).toInt ∧ (v_133 : Int32).toInt ≤ 2147483647 from (i_rng _)), hok.2.1, hok.2.2.1, hok.2.2.2.1, hok.2.2.2.2.1, hok.2.2.2.2.2.1, hok.2.2.2.2.2.2.1, trivial⟩
          have hfr : frA [(0, 78), (0, 79), (0, 80), (0, 81)] [] [] [] t (uI t1 0 81 v_133) := frA_I hfr 0 81 _ rfl
          obtain ⟨v_136, e_137⟩ : ∃ z, z = w92_2 + 1 := ⟨_, rfl⟩
          have h_138 : v_136.toInt = w92_2.toInt + 1 := by rw [e_137]; exact ti_iadd (by show (_ : Int) ≤ w92_2.toInt + 1; omega) (by show w92_2.toInt + 1 < (_ : Int); omega)
          refine lv_iinc (v := v_136) (lv' := [(2, .int v_136), (0, .ref (ad 0)), (1, .int x1), (3, .int w92_3)]) C.1 C.2.1 dX12_isJob_132 hl (k := 2) rfl e_137.symm (by decide) rfl (fun ls hl => ?_)
          have hl : lv_has ls 6 [(0, .ref (ad 0)), (1, .int x1), (2, .int v_136), (3, .int w92_3)] := lv_sub hl [1, 2, 0, 3] rfl
          refine lv_goto (tgt := 92) C.1 C.2.1 dX12_isJob_135 (by decide) ?_
          exact ih_92 (uI t1 0 81 v_133) v_136 w92_3 _ _ _ hok hfr ⟨by omega, by omega⟩ ⟨by omega, by omega⟩ (show (6 : Int) ≤ ((t1.1 0 78) : Int32).toInt ∧ ((t1.1 0 78) : Int32).toInt ≤ 6 from ⟨by omega, by omega⟩) (show w92_3.toInt ≤ v_136.toInt from by omega) (show v_136.toInt ≤ w92_3.toInt + 5 from by omega) (show 7 ≤ w92_3.toInt from by omega) (show w92_3.toInt ≤ 17 from by omega) (show (t1.1 0 78).toInt = 6 from by omega) (show wBl (gD t x1) 0 25 from by first | exact hi92_5 | exact hi16_4) (show ∀ j : Nat, (j : Int) < w92_3.toInt - 7 → anL (gD t x1 (5 + j)) from by first | exact hi92_6 | exact fun j hj => hi16_3 j (by omega)) (show gD t x1 (w92_3.toInt - 2).toNat = 32 from by first | exact hi92_7 | exact ja_b hl3 (by omega) (by assumption) (by omega)) (show 8 ≤ w92_3.toInt from by omega) (show ∀ j : Nat, (j : Int) < v_136.toInt - w92_3.toInt → dgL (gD t x1 ((w92_3.toInt - 1).toNat + j)) from by intro j hj; first | (exfalso; omega) | (rcases Int.lt_or_eq_of_le (show (j : Int) ≤ w92_2.toInt - w92_3.toInt from by omega) with h9 | h9 <;> first | exact hi92_9 j h9 | exact jd_new hl4 (hd4.mp (by omega)) h9 (by omega))) (show (w92_3.toInt + 6 - v_136.toInt) < (fuel_92 : Int) from by omega) hP hD hS (lv_sub hl [0, 1, 2, 3] rfl)
  have L_16 : ∀ (fuel_16 : Nat) (t1 : tSt) (w16_2 : Int32) (H : Heap) (locs : List Loc) (ls : Array Slot), okM t1 → frA [(0, 78), (0, 79), (0, 80), (0, 81)] [] [] [] t t1 → (6 ≤ w16_2.toInt) → (w16_2.toInt ≤ 81) → ((t1.1 0 78).toInt = (t.1 0 78).toInt) → (∀ j : Nat, (j : Int) < w16_2.toInt - 6 → anL (gD t x1 (5 + j))) → (wBl (gD t x1) 0 25) → (82 - w16_2.toInt) < (fuel_16 : Int) → va_P D vwCl (WM K ad t1) H → va_D A (WM K ad t1) → va_S A s.heap H locs → lv_has ls 6 [(0, .ref (ad 0)), (1, .int x1), (2, .int w16_2)] → W p l e (rmD 9 0 0) s m [.ref (ad 0), .int x1].toArray below meth c H locs 0 0 (MQ below (QI D K (fun (r : Int32) (u : tSt) => okM u ∧ frA [(0, 78), (0, 79), (0, 80), (0, 81)] [] [] [] t u ∧ (0 : Int) ≤ r.toInt ∧ r.toInt ≤ 1 ∧ (r.toInt = 1 → (u.1 0 78).toInt = 6) ∧ ((t.1 0 78).toInt = 6 → (u.1 0 78).toInt = 6) ∧ (r.toInt = 1 ↔ jOK (gD t x1))) (fun (u : tSt) => WM K ad u) A) [.ref (ad 0), .int x1].toArray s 0 0 A) (F0 m 16 ls []) := by
    intro fuel_16
    induction fuel_16 with
    | zero =>
      intro t1 w16_2 H locs ls hok hfr hi16_0 hi16_1 hi16_2 hi16_3 hi16_4 hm16_16 hP hD hS hl
      have e_139 : t1.2.2.1 36 = t.2.2.1 36 := hfr.2.2.1 36 rfl
      have e_140 : t1.2.2.1 37 = t.2.2.1 37 := hfr.2.2.1 37 rfl
      have e_141 : t1.2.2.1 38 = t.2.2.1 38 := hfr.2.2.1 38 rfl
      have h_142 : (0 : Int) ≤ (t1.1 0 78).toInt ∧ (t1.1 0 78).toInt ≤ 6 := hok.1 0 78
      exact absurd hm16_16 (by omega)
    | succ fuel_16 ih_16 =>
      intro t1 w16_2 H locs ls hok hfr hi16_0 hi16_1 hi16_2 hi16_3 hi16_4 hm16_16 hP hD hS hl
      have hm16_16 : (82 - w16_2.toInt) < (fuel_16 : Int) + 1 := by omega
      have e_143 : t1.2.2.1 36 = t.2.2.1 36 := hfr.2.2.1 36 rfl
      have e_144 : t1.2.2.1 37 = t.2.2.1 37 := hfr.2.2.1 37 rfl
      have e_145 : t1.2.2.1 38 = t.2.2.1 38 := hfr.2.2.1 38 rfl
      have h_146 : (0 : Int) ≤ (t1.1 0 78).toInt ∧ (t1.1 0 78).toInt ≤ 6 := hok.1 0 78
      have L_40 : ∀ (t1 : tSt) (w40_2 : Int32) (H : Heap) (locs : List Loc) (ls : Array Slot), okM t1 → frA [(0, 78), (0, 79), (0, 80), (0, 81)] [] [] [] t t1 → (6 ≤ w40_2.toInt) → (w40_2.toInt ≤ 80) → ((t1.1 0 78).toInt = (t.1 0 78).toInt) → (∀ j : Nat, (j : Int) < w40_2.toInt - 6 → anL (gD t x1 (5 + j))) → (wBl (gD t x1) 0 25) → (anL (gD t x1 (w40_2.toInt - 1).toNat)) → (82 - w40_2.toInt) < (fuel_16 : Int) + 1 → va_P D vwCl (WM K ad t1) H → va_D A (WM K ad t1) → va_S A s.heap H locs → lv_has ls 6 [(0, .ref (ad 0)), (1, .int x1), (2, .int w40_2)] → W p l e (rmD 9 0 0) s m [.ref (ad 0), .int x1].toArray below meth c H locs 0 0 (MQ below (QI D K (fun (r : Int32) (u : tSt) => okM u ∧ frA [(0, 78), (0, 79), (0, 80), (0, 81)] [] [] [] t u ∧ (0 : Int) ≤ r.toInt ∧ r.toInt ≤ 1 ∧ (r.toInt = 1 → (u.1 0 78).toInt = 6) ∧ ((t.1 0 78).toInt = 6 → (u.1 0 78).toInt = 6) ∧ (r.toInt = 1 ↔ jOK (gD t x1))) (fun (u : tSt) => WM K ad u) A) [.ref (ad 0), .int x1].toArray s 0 0 A) (F0 m 40 ls []) := by
        intro t1 w40_2 H locs ls hok hfr hi40_0 hi40_1 hi40_2 hi40_3 hi40_4 hi40_5 hm40_16 hP hD hS hl
        have e_147 : t1.2.2.1 36 = t.2.2.1 36 := hfr.2.2.1 36 rfl
        have e_148 : t1.2.2.1 37 = t.2.2.1 37 := hfr.2.2.1 37 rfl
        have e_149 : t1.2.2.1 38 = t.2.2.1 38 := hfr.2.2.1 38 rfl
        have h_150 : (0 : Int) ≤ (t1.1 0 78).toInt ∧ (t1.1 0 78).toInt ≤ 6 := hok.1 0 78
        obtain ⟨v_151, e_152⟩ : ∃ z, z = w40_2 + 1 := ⟨_, rfl⟩
        have h_153 : v_151.toInt = w40_2.toInt + 1 := by rw [e_152]; exact ti_iadd (by show (_ : Int) ≤ w40_2.toInt + 1; omega) (by show w40_2.toInt + 1 < (_ : Int); omega)
        refine lv_iinc (v := v_151) (lv' := [(2, .int v_151), (0, .ref (ad 0)), (1, .int x1)]) C.1 C.2.1 dX12_isJob_40 hl (k := 2) rfl e_152.symm (by decide) rfl (fun ls hl => ?_)
        have hl : lv_has ls 6 [(0, .ref (ad 0)), (1, .int x1), (2, .int v_151)] := lv_sub hl [1, 2, 0] rfl
        refine lv_goto (tgt := 16) C.1 C.2.1 dX12_isJob_43 (by decide) ?_
        exact ih_16 t1 v_151 _ _ _ hok hfr (show 6 ≤ v_151.toInt from by omega) (show v_151.toInt ≤ 81 from by omega) (show (t1.1 0 78).toInt = (t.1 0 78).toInt from by omega) (show ∀ j : Nat, (j : Int) < v_151.toInt - 6 → anL (gD t x1 (5 + j)) from by intro j hj; first | (exfalso; omega) | (rcases Int.lt_or_eq_of_le (show (j : Int) ≤ w40_2.toInt - 6 from by omega) with h9 | h9 <;> first | exact hi40_3 j h9 | exact ja_new hi40_5 h9)) (show wBl (gD t x1) 0 25 from by first | exact kyA.mp (by omega) | exact hi40_4) (show (82 - v_151.toInt) < (fuel_16 : Int) from by omega) hP hD hS (lv_sub hl [0, 1, 2] rfl)
      have hfd : ∀ c, fDeck t1 x1 c = fDeck t x1 c := fun c => by unfold fDeck; rw [hfr.2.2.1 36 rfl, hfr.2.2.1 37 rfl, hfr.2.2.1 38 rfl]
      refine lv_aload_n C.1 C.2.1 dX12_isJob_16 rfl (lv_at hl 0 rfl) ?_
      refine lv_iload_n C.1 C.2.1 dX12_isJob_17 rfl (lv_at hl 1 rfl) ?_
      refine lv_iload_n C.1 C.2.1 dX12_isJob_18 rfl (lv_at hl 2 rfl) ?_
      refine g_Vi (As := [.int x1, .int w16_2]) (rest := []) C hP hD hS hA (T_X12_deckLetter l D K Z Y ad t1 hok (x1) (show (0 : Int) ≤ (x1 : Int32).toInt ∧ (x1 : Int32).toInt ≤ 1280 from ⟨by omega, by omega⟩) (w16_2) (show (1 : Int) ≤ (w16_2 : Int32).toInt ∧ (w16_2 : Int32).toInt ≤ 200 from ⟨by omega, by omega⟩)) hE hZ (uwV m_79_6 m_79_7 m_79_8 m_1_5 m_79_9) (hdV 2 (by decide +kernel) rfl) ⟨Nat.le_of_ble_eq_true rfl, Nat.le_of_ble_eq_true rfl⟩ rfl rfl (ci := 11) (q0 := 0) rfl rfl rfl hl.1 (Nat.le_of_ble_eq_true rfl) dX12_isJob_19 ⟨Nat.le_of_ble_eq_true rfl, Nat.le_of_ble_eq_true rfl⟩ (fun r_155 t_154 H locs hw hP hD hS => ?_)
      obtain ⟨h_157, h_158, p_159, p_160, p_161, p_162⟩ := hw
      replace p_159 : r_155 = fDeck t1 x1 w16_2 := p_159
      replace p_160 : r_155.toInt = (fDeck t1 x1 w16_2).toInt := p_160
      replace p_161 : ¬ r_155.toInt = 32 → (t1.2.2.1 37 (x1 : Int32).toNatClampNeg).toInt + w16_2.toInt ≤ (t1.2.2.1 38 (x1 : Int32).toNatClampNeg).toInt := p_161
      have h_163 : (t1.2.2.1 37 (x1 : Int32).toNatClampNeg).toInt = (t.2.2.1 37 (x1 : Int32).toNatClampNeg).toInt := tb_eq e_144 _
      have h_164 : (t1.2.2.1 38 (x1 : Int32).toNatClampNeg).toInt = (t.2.2.1 38 (x1 : Int32).toNatClampNeg).toInt := tb_eq e_145 _
      replace p_162 : 81 ≤ w16_2.toInt → r_155.toInt = 32 := p_162
      have hl1 := p_159
      rw [hfd] at hl1
      refine g_Si (As := [.int r_155]) (rest := []) C hP hD hS hA (U_X12_isGreat l D K Z Y ad t1 hok (r_155) (show (0 : Int) ≤ (r_155 : Int32).toInt ∧ (r_155 : Int32).toInt ≤ 255 from ⟨by omega, by omega⟩)) hE hZ (uwS m_32_12 m_32_13 m_1_5 m_32_14) (hdS 1 (by decide +kernel) rfl) ⟨Nat.le_of_ble_eq_true rfl, Nat.le_of_ble_eq_true rfl⟩ rfl rfl rfl hl.1 (Nat.le_of_ble_eq_true rfl) dX12_isJob_22 ⟨Nat.le_of_ble_eq_true rfl, Nat.le_of_ble_eq_true rfl⟩ (fun r_166 t_165 H locs hw hP hD hS => ?_)
      obtain ⟨h_168, h_169, p_170⟩ := hw
      replace p_170 : r_166.toInt = 1 ↔ (65 ≤ r_155.toInt ∧ r_155.toInt ≤ 90) := p_170
      have hg := p_170
      refine lv_if_ne (tgt := 40) C.1 C.2.1 dX12_isJob_25 (by decide) (fun c_171 => ?_) (fun c_171 => ?_)
      · replace c_171 : ¬ r_166.toInt = 0 := i_ne c_171
        exact L_40 t1 w16_2 _ _ _ hok hfr (show 6 ≤ w16_2.toInt from by omega) (show w16_2.toInt ≤ 80 from by omega) (show (t1.1 0 78).toInt = (t.1 0 78).toInt from by omega) (show ∀ j : Nat, (j : Int) < w16_2.toInt - 6 → anL (gD t x1 (5 + j)) from by exact hi16_3) (show wBl (gD t x1) 0 25 from by exact hi16_4) (show anL (gD t x1 (w16_2.toInt - 1).toNat) from by first | exact ja_q hl1 (Or.inl (hg.mp (by omega))) (by omega) | exact ja_q hl2 (Or.inr (hd.mp (by omega))) (by omega)) (show (82 - w16_2.toInt) < (fuel_16 : Int) + 1 from by omega) hP hD hS (lv_sub hl [0, 1, 2] rfl)
      · replace c_171 : r_166.toInt = 0 := i_eq c_171
        refine lv_aload_n C.1 C.2.1 dX12_isJob_28 rfl (lv_at hl 0 rfl) ?_
        refine lv_iload_n C.1 C.2.1 dX12_isJob_29 rfl (lv_at hl 1 rfl) ?_
        refine lv_iload_n C.1 C.2.1 dX12_isJob_30 rfl (lv_at hl 2 rfl) ?_
        refine g_Vi (As := [.int x1, .int w16_2]) (rest := []) C hP hD hS hA (T_X12_deckLetter l D K Z Y ad t1 hok (x1) (show (0 : Int) ≤ (x1 : Int32).toInt ∧ (x1 : Int32).toInt ≤ 1280 from ⟨by omega, by omega⟩) (w16_2) (show (1 : Int) ≤ (w16_2 : Int32).toInt ∧ (w16_2 : Int32).toInt ≤ 200 from ⟨by omega, by omega⟩)) hE hZ (uwV m_79_6 m_79_7 m_79_8 m_1_5 m_79_9) (hdV 2 (by decide +kernel) rfl) ⟨Nat.le_of_ble_eq_true rfl, Nat.le_of_ble_eq_true rfl⟩ rfl rfl (ci := 11) (q0 := 0) rfl rfl rfl hl.1 (Nat.le_of_ble_eq_true rfl) dX12_isJob_31 ⟨Nat.le_of_ble_eq_true rfl, Nat.le_of_ble_eq_true rfl⟩ (fun r_173 t_172 H locs hw hP hD hS => ?_)
        obtain ⟨h_175, h_176, p_177, p_178, p_179, p_180⟩ := hw
        replace p_177 : r_173 = fDeck t1 x1 w16_2 := p_177
        replace p_178 : r_173.toInt = (fDeck t1 x1 w16_2).toInt := p_178
        replace p_179 : ¬ r_173.toInt = 32 → (t1.2.2.1 37 (x1 : Int32).toNatClampNeg).toInt + w16_2.toInt ≤ (t1.2.2.1 38 (x1 : Int32).toNatClampNeg).toInt := p_179
        replace p_180 : 81 ≤ w16_2.toInt → r_173.toInt = 32 := p_180
        have hl2 := p_177
        rw [hfd] at hl2
        refine g_Si (As := [.int r_173]) (rest := []) C hP hD hS hA (U_X12_isDigit l D K Z Y ad t1 hok (r_173) (show (0 : Int) ≤ (r_173 : Int32).toInt ∧ (r_173 : Int32).toInt ≤ 255 from ⟨by omega, by omega⟩)) hE hZ (uwS m_32_15 m_32_16 m_1_5 m_32_17) (hdS 1 (by decide +kernel) rfl) ⟨Nat.le_of_ble_eq_true rfl, Nat.le_of_ble_eq_true rfl⟩ rfl rfl rfl hl.1 (Nat.le_of_ble_eq_true rfl) dX12_isJob_34 ⟨Nat.le_of_ble_eq_true rfl, Nat.le_of_ble_eq_true rfl⟩ (fun r_182 t_181 H locs hw hP hD hS => ?_)
        obtain ⟨h_184, h_185, p_186⟩ := hw
        replace p_186 : r_182.toInt = 1 ↔ (48 ≤ r_173.toInt ∧ r_173.toInt ≤ 57) := p_186
        have hd := p_186
        refine lv_if_eq (tgt := 46) C.1 C.2.1 dX12_isJob_37 (by decide) (fun c_187 => ?_) (fun c_187 => ?_)
        · replace c_187 : r_182.toInt = 0 := i_eq c_187
          have hna := ja_n hl1 (fun z => absurd (hg.mpr z) (by omega)) hl2 (fun z => absurd (hd.mpr z) (by omega)) (by omega)
          refine lv_aload_n C.1 C.2.1 dX12_isJob_46 rfl (lv_at hl 0 rfl) ?_
          refine lv_bipush (v := 6) C.1 C.2.1 dX12_isJob_47 (by decide) ?_
          refine k_put (ws' := WM K ad (uI t1 0 78 6)) (v := .int 6) C hP hD hS 0 rfl rfl inlX12 tyX12_ok nmX12 78 (by decide) m_78_21 rfl rfl rfl rfl rfl dX12_isJob_49 (fun H locs hP hD hS => ?_)
          have hok : okM (uI t1 0 78 6) := ⟨okI_I hok.1 0 78 6 (show (0 : Int) ≤ (6 : Int32).toInt ∧ (6 : Int32).toInt ≤ 6 from ⟨by decide, by decide⟩), hok.2.1, hok.2.2.1, hok.2.2.2.1, hok.2.2.2.2.1, hok.2.2.2.2.2.1, hok.2.2.2.2.2.2.1, trivial⟩
          have hfr : frA [(0, 78), (0, 79), (0, 80), (0, 81)] [] [] [] t (uI t1 0 78 6) := frA_I hfr 0 78 _ rfl
          refine lv_aload_n C.1 C.2.1 dX12_isJob_52 rfl (lv_at hl 0 rfl) ?_
          refine lv_iload_n C.1 C.2.1 dX12_isJob_53 rfl (lv_at hl 2 rfl) ?_
          refine k_put (ws' := WM K ad (uI (uI t1 0 78 6) 0 79 w16_2)) (v := .int w16_2) C hP hD hS 0 rfl rfl inlX12 tyX12_ok nmX12 79 (by decide) m_78_22 rfl rfl rfl rfl rfl dX12_isJob_54 (fun H locs hP hD hS => ?_)
          have hok : okM (uI (uI t1 0 78 6) 0 79 w16_2) := ⟨okI_I hok.1 0 79 w16_2 (show (0 : Int) ≤ (w16_2 : Int32).toInt ∧ (w16_2 : Int32).toInt ≤ 81 from ⟨by omega, by omega⟩), hok.2.1, hok.2.2.1, hok.2.2.2.1, hok.2.2.2.2.1, hok.2.2.2.2.2.1, hok.2.2.2.2.2.2.1, trivial⟩
          have hfr : frA [(0, 78), (0, 79), (0, 80), (0, 81)] [] [] [] t (uI (uI t1 0 78 6) 0 79 w16_2) := frA_I hfr 0 79 _ rfl
          refine lv_iload_n C.1 C.2.1 dX12_isJob_57 rfl (lv_at hl 2 rfl) ?_
          refine lv_bipush (v := 6) C.1 C.2.1 dX12_isJob_58 (by decide) ?_
          refine lv_icmp_eq (tgt := 80) C.1 C.2.1 dX12_isJob_60 (by decide) (fun c_188 => ?_) (fun c_188 => ?_)
          · replace c_188 : w16_2.toInt = 6 := i_eq c_188
            refine lv_iconst (v := 0) C.1 C.2.1 dX12_isJob_80 (by decide) ?_
            exact g_iret C hr hlocks hP hD hS (by decide) (uI (uI t1 0 78 6) 0 79 w16_2) rfl ⟨hok, hfr, by decide, by decide, (show 0 = 1 → 6 = 6 from by omega), (show (t.1 0 78).toInt = 6 → 6 = 6 from by omega), (show 0 = 1 ↔ jOK (gD t x1) from by first | exact jz (fun z => absurd (kyA.mpr z.1) (by omega)) | exact jr0 hi16_3 hna (by omega) (by first | exact Or.inl (by omega) | exact Or.inr (Or.inl (by omega)) | exact Or.inr (Or.inr (fun z => absurd (congrArg Int32.toInt ((jl hl3 (by omega)).trans z)) (by have hq : (32 : Int32).toInt = 32 := rfl; omega)))) | exact jr1 gD_80 hi92_5 hi92_6 hi92_7 (by omega) hi92_9 (by omega) (by first | exact Or.inl (by omega) | exact Or.inr (jd_no hl4 (fun z => absurd (hd4.mpr z) (by omega)) (by omega))) (by first | exact Or.inl (by omega) | exact Or.inr (fun z => absurd (congrArg Int32.toInt ((jl hl5 (by omega)).trans z)) (by have hq : (32 : Int32).toInt = 32 := rfl; omega))) | exact jx_no hi225_3 (by omega) (fun z => absurd (congrArg Int32.toInt ((jl hl6 (by omega)).trans z)) (by have hq : (32 : Int32).toInt = 32 := rfl; omega)) | exact jx_yes hi225_3 (by omega))⟩ (Nat.le_of_ble_eq_true rfl) (Nat.le_of_ble_eq_true rfl) dX12_isJob_81
          · replace c_188 : ¬ w16_2.toInt = 6 := i_ne c_188
            refine lv_iload_n C.1 C.2.1 dX12_isJob_63 rfl (lv_at hl 2 rfl) ?_
            refine lv_bipush (v := 16) C.1 C.2.1 dX12_isJob_64 (by decide) ?_
            refine lv_icmp_gt (tgt := 80) C.1 C.2.1 dX12_isJob_66 (by decide) (fun c_189 => ?_) (fun c_189 => ?_)
            · replace c_189 : 16 < w16_2.toInt := i_lt c_189
              refine lv_iconst (v := 0) C.1 C.2.1 dX12_isJob_80 (by decide) ?_
              exact g_iret C hr hlocks hP hD hS (by decide) (uI (uI t1 0 78 6) 0 79 w16_2) rfl ⟨hok, hfr, by decide, by decide, (show 0 = 1 → 6 = 6 from by omega), (show (t.1 0 78).toInt = 6 → 6 = 6 from by omega), (show 0 = 1 ↔ jOK (gD t x1) from by first | exact jz (fun z => absurd (kyA.mpr z.1) (by omega)) | exact jr0 hi16_3 hna (by omega) (by first | exact Or.inl (by omega) | exact Or.inr (Or.inl (by omega)) | exact Or.inr (Or.inr (fun z => absurd (congrArg Int32.toInt ((jl hl3 (by omega)).trans z)) (by have hq : (32 : Int32).toInt = 32 := rfl; omega)))) | exact jr1 gD_80 hi92_5 hi92_6 hi92_7 (by omega) hi92_9 (by omega) (by first | exact Or.inl (by omega) | exact Or.inr (jd_no hl4 (fun z => absurd (hd4.mpr z) (by omega)) (by omega))) (by first | exact Or.inl (by omega) | exact Or.inr (fun z => absurd (congrArg Int32.toInt ((jl hl5 (by omega)).trans z)) (by have hq : (32 : Int32).toInt = 32 := rfl; omega))) | exact jx_no hi225_3 (by omega) (fun z => absurd (congrArg Int32.toInt ((jl hl6 (by omega)).trans z)) (by have hq : (32 : Int32).toInt = 32 := rfl; omega)) | exact jx_yes hi225_3 (by omega))⟩ (Nat.le_of_ble_eq_true rfl) (Nat.le_of_ble_eq_true rfl) dX12_isJob_81
            · replace c_189 : w16_2.toInt ≤ 16 := i_nlt c_189
              refine lv_aload_n C.1 C.2.1 dX12_isJob_69 rfl (lv_at hl 0 rfl) ?_
              refine lv_iload_n C.1 C.2.1 dX12_isJob_70 rfl (lv_at hl 1 rfl) ?_
              refine lv_iload_n C.1 C.2.1 dX12_isJob_71 rfl (lv_at hl 2 rfl) ?_
              refine g_Vi (As := [.int x1, .int w16_2]) (rest := []) C hP hD hS hA (T_X12_deckLetter l D K Z Y ad (uI (uI t1 0 78 6) 0 79 w16_2) hok (x1) (show (0 : Int) ≤ (x1 : Int32).toInt ∧ (x1 : Int32).toInt ≤ 1280 from ⟨by omega, by omega⟩) (w16_2) (show (1 : Int) ≤ (w16_2 : Int32).toInt ∧ (w16_2 : Int32).toInt ≤ 200 from ⟨by omega, by omega⟩)) hE hZ (uwV m_79_6 m_79_7 m_79_8 m_1_5 m_79_9) (hdV 2 (by decide +kernel) rfl) ⟨Nat.le_of_ble_eq_true rfl, Nat.le_of_ble_eq_true rfl⟩ rfl rfl (ci := 11) (q0 := 0) rfl rfl rfl hl.1 (Nat.le_of_ble_eq_true rfl) dX12_isJob_72 ⟨Nat.le_of_ble_eq_true rfl, Nat.le_of_ble_eq_true rfl⟩ (fun r_191 t_190 H locs hw hP hD hS => ?_)
              obtain ⟨h_193, h_194, p_195, p_196, p_197, p_198⟩ := hw
              replace p_195 : r_191 = fDeck t1 x1 w16_2 := p_195
              replace p_196 : r_191.toInt = (fDeck t1 x1 w16_2).toInt := p_196
              replace p_197 : ¬ r_191.toInt = 32 → (t1.2.2.1 37 (x1 : Int32).toNatClampNeg).toInt + w16_2.toInt ≤ (t1.2.2.1 38 (x1 : Int32).toNatClampNeg).toInt := p_197
              replace p_198 : 81 ≤ w16_2.toInt → r_191.toInt = 32 := p_198
              have hl3 := p_195
              rw [hfd] at hl3
              refine lv_bipush (v := 32) C.1 C.2.1 dX12_isJob_75 (by decide) ?_
              refine lv_icmp_eq (tgt := 82) C.1 C.2.1 dX12_isJob_77 (by decide) (fun c_199 => ?_) (fun c_199 => ?_)
              · replace c_199 : r_191.toInt = 32 := i_eq c_199
                obtain ⟨v_200, e_201⟩ : ∃ z, z = w16_2 + 1 := ⟨_, rfl⟩
                have h_202 : v_200.toInt = w16_2.toInt + 1 := by rw [e_201]; exact ti_iadd (by show (_ : Int) ≤ w16_2.toInt + 1; omega) (by show w16_2.toInt + 1 < (_ : Int); omega)
                refine lv_iinc (v := v_200) (lv' := [(2, .int v_200), (0, .ref (ad 0)), (1, .int x1)]) C.1 C.2.1 dX12_isJob_82 hl (k := 2) rfl e_201.symm (by decide) rfl (fun ls hl => ?_)
                have hl : lv_has ls 6 [(0, .ref (ad 0)), (1, .int x1), (2, .int v_200)] := lv_sub hl [1, 2, 0] rfl
                refine lv_iload_n C.1 C.2.1 dX12_isJob_85 rfl (lv_at hl 2 rfl) ?_
                refine lv_istore_n (lv' := [(3, .int v_200), (0, .ref (ad 0)), (1, .int x1), (2, .int v_200)]) C.1 C.2.1 dX12_isJob_86 rfl hl (by decide) rfl (fun ls hl => ?_)
                have hl : lv_has ls 6 [(0, .ref (ad 0)), (1, .int x1), (2, .int v_200), (3, .int v_200)] := lv_sub hl [1, 2, 3, 0] rfl
                refine lv_aload_n C.1 C.2.1 dX12_isJob_87 rfl (lv_at hl 0 rfl) ?_
                refine lv_iconst (v := 0) C.1 C.2.1 dX12_isJob_88 (by decide) ?_
                refine k_put (ws' := WM K ad (uI (uI (uI t1 0 78 6) 0 79 w16_2) 0 81 0)) (v := .int 0) C hP hD hS 0 rfl rfl inlX12 tyX12_ok nmX12 81 (by decide) m_78_23 rfl rfl rfl rfl rfl dX12_isJob_89 (fun H locs hP hD hS => ?_)
                have hok : okM (uI (uI (uI t1 0 78 6) 0 79 w16_2) 0 81 0) := ⟨okI_I hok.1 0 81 0 (show (-2147483648 : Int) ≤ (0 : Int32).toInt ∧ (0 : Int32).toInt ≤ 2147483647 from (i_rng _)), hok.2.1, hok.2.2.1, hok.2.2.2.1, hok.2.2.2.2.1, hok.2.2.2.2.2.1, hok.2.2.2.2.2.2.1, trivial⟩
                have hfr : frA [(0, 78), (0, 79), (0, 80), (0, 81)] [] [] [] t (uI (uI (uI t1 0 78 6) 0 79 w16_2) 0 81 0) := frA_I hfr 0 81 _ rfl
                exact L_92 20 (uI (uI (uI t1 0 78 6) 0 79 w16_2) 0 81 0) v_200 v_200 _ _ _ hok hfr ⟨by omega, by omega⟩ ⟨by omega, by omega⟩ (show (6 : Int) ≤ (6 : Int32).toInt ∧ (6 : Int32).toInt ≤ 6 from ⟨by decide, by decide⟩) (show v_200.toInt ≤ v_200.toInt from by omega) (show v_200.toInt ≤ v_200.toInt + 5 from by omega) (show 7 ≤ v_200.toInt from by omega) (show v_200.toInt ≤ 17 from by omega) (show 6 = 6 from by omega) (show wBl (gD t x1) 0 25 from by first | exact hi92_5 | exact hi16_4) (show ∀ j : Nat, (j : Int) < v_200.toInt - 7 → anL (gD t x1 (5 + j)) from by first | exact hi92_6 | exact fun j hj => hi16_3 j (by omega)) (show gD t x1 (v_200.toInt - 2).toNat = 32 from by first | exact hi92_7 | exact ja_b hl3 (by omega) (by assumption) (by omega)) (show 8 ≤ v_200.toInt from by omega) (show ∀ j : Nat, (j : Int) < v_200.toInt - v_200.toInt → dgL (gD t x1 ((v_200.toInt - 1).toNat + j)) from by intro j hj; first | (exfalso; omega) | (rcases Int.lt_or_eq_of_le (show (j : Int) ≤ w92_2.toInt - w92_3.toInt from by omega) with h9 | h9 <;> first | exact hi92_9 j h9 | exact jd_new hl4 (hd4.mp (by omega)) h9 (by omega))) (show (v_200.toInt + 6 - v_200.toInt) < ((20 : Nat) : Int) from by omega) hP hD hS (lv_sub hl [0, 1, 2, 3] rfl)
              · replace c_199 : ¬ r_191.toInt = 32 := i_ne c_199
                refine lv_iconst (v := 0) C.1 C.2.1 dX12_isJob_80 (by decide) ?_
                exact g_iret C hr hlocks hP hD hS (by decide) (uI (uI t1 0 78 6) 0 79 w16_2) rfl ⟨hok, hfr, by decide, by decide, (show 0 = 1 → 6 = 6 from by omega), (show (t.1 0 78).toInt = 6 → 6 = 6 from by omega), (show 0 = 1 ↔ jOK (gD t x1) from by first | exact jz (fun z => absurd (kyA.mpr z.1) (by omega)) | exact jr0 hi16_3 hna (by omega) (by first | exact Or.inl (by omega) | exact Or.inr (Or.inl (by omega)) | exact Or.inr (Or.inr (fun z => absurd (congrArg Int32.toInt ((jl hl3 (by omega)).trans z)) (by have hq : (32 : Int32).toInt = 32 := rfl; omega)))) | exact jr1 gD_80 hi92_5 hi92_6 hi92_7 (by omega) hi92_9 (by omega) (by first | exact Or.inl (by omega) | exact Or.inr (jd_no hl4 (fun z => absurd (hd4.mpr z) (by omega)) (by omega))) (by first | exact Or.inl (by omega) | exact Or.inr (fun z => absurd (congrArg Int32.toInt ((jl hl5 (by omega)).trans z)) (by have hq : (32 : Int32).toInt = 32 := rfl; omega))) | exact jx_no hi225_3 (by omega) (fun z => absurd (congrArg Int32.toInt ((jl hl6 (by omega)).trans z)) (by have hq : (32 : Int32).toInt = 32 := rfl; omega)) | exact jx_yes hi225_3 (by omega))⟩ (Nat.le_of_ble_eq_true rfl) (Nat.le_of_ble_eq_true rfl) dX12_isJob_81
        · replace c_187 : ¬ r_182.toInt = 0 := i_ne c_187
          exact L_40 t1 w16_2 _ _ _ hok hfr (show 6 ≤ w16_2.toInt from by omega) (show w16_2.toInt ≤ 80 from by omega) (show (t1.1 0 78).toInt = (t.1 0 78).toInt from by omega) (show ∀ j : Nat, (j : Int) < w16_2.toInt - 6 → anL (gD t x1 (5 + j)) from by exact hi16_3) (show wBl (gD t x1) 0 25 from by exact hi16_4) (show anL (gD t x1 (w16_2.toInt - 1).toNat) from by first | exact ja_q hl1 (Or.inl (hg.mp (by omega))) (by omega) | exact ja_q hl2 (Or.inr (hd.mp (by omega))) (by omega)) (show (82 - w16_2.toInt) < (fuel_16 : Int) + 1 from by omega) hP hD hS (lv_sub hl [0, 1, 2] rfl)
  refine lv_aload_n C.1 C.2.1 dX12_isJob_0 rfl (lv_at hl 0 rfl) ?_
  refine lv_iload_n C.1 C.2.1 dX12_isJob_1 rfl (lv_at hl 1 rfl) ?_
  refine va_ldcwS C.1 C.2.1 C.2.2.2.1 (hE.2 25 (by decide)) dX12_isJob_2 ?_
  refine g_Vi (As := [.int x1, .ref (Z 25)]) (rest := []) C hP hD hS hA (U_X12_isWord l D K Z Y ad t hok (x1) (show (0 : Int) ≤ (x1 : Int32).toInt ∧ (x1 : Int32).toInt ≤ 1280 from ⟨by omega, by omega⟩) (25) (show sS 25 from ⟨by decide, by decide, by decide⟩)) hE hZ (uwV m_79_1 m_79_2 m_79_3 m_1_5 m_79_4) (hdV 2 (by decide +kernel) rfl) ⟨Nat.le_of_ble_eq_true rfl, Nat.le_of_ble_eq_true rfl⟩ rfl rfl (ci := 11) (q0 := 0) rfl rfl rfl hl.1 (Nat.le_of_ble_eq_true rfl) dX12_isJob_5 ⟨Nat.le_of_ble_eq_true rfl, Nat.le_of_ble_eq_true rfl⟩ (fun r_204 t_203 H locs hw hP hD hS => ?_)
  obtain ⟨h_206, h_207, p_208⟩ := hw
  replace p_208 : r_204.toInt = 1 ↔ wBl (gD t x1) 0 25 := p_208
  have kyA := p_208
  refine lv_if_ne (tgt := 13) C.1 C.2.1 dX12_isJob_8 (by decide) (fun c_209 => ?_) (fun c_209 => ?_)
  · replace c_209 : ¬ r_204.toInt = 0 := i_ne c_209
    refine lv_bipush (v := 6) C.1 C.2.1 dX12_isJob_13 (by decide) ?_
    refine lv_istore_n (lv' := [(2, .int 6), (0, .ref (ad 0)), (1, .int x1)]) C.1 C.2.1 dX12_isJob_15 rfl hl (by decide) rfl (fun ls hl => ?_)
    have hl : lv_has ls 6 [(0, .ref (ad 0)), (1, .int x1), (2, .int 6)] := lv_sub hl [1, 2, 0] rfl
    exact L_16 100 t 6 _ _ _ hok hfr (show 6 ≤ 6 from by omega) (show 6 ≤ 81 from by omega) (show (t.1 0 78).toInt = (t.1 0 78).toInt from by omega) (show ∀ j : Nat, (j : Int) < 6 - 6 → anL (gD t x1 (5 + j)) from by intro j hj; first | (exfalso; omega) | (rcases Int.lt_or_eq_of_le (show (j : Int) ≤ w40_2.toInt - 6 from by omega) with h9 | h9 <;> first | exact hi40_3 j h9 | exact ja_new hi40_5 h9)) (show wBl (gD t x1) 0 25 from by first | exact kyA.mp (by omega) | exact hi40_4) (show (82 - 6) < ((100 : Nat) : Int) from by omega) hP hD hS (lv_sub hl [0, 1, 2] rfl)
  · replace c_209 : r_204.toInt = 0 := i_eq c_209
    refine lv_iconst (v := 0) C.1 C.2.1 dX12_isJob_11 (by decide) ?_
    exact g_iret C hr hlocks hP hD hS (by decide) t rfl ⟨hok, hfr, by decide, by decide, (show 0 = 1 → (t.1 0 78).toInt = 6 from by omega), (show (t.1 0 78).toInt = 6 → (t.1 0 78).toInt = 6 from by omega), (show 0 = 1 ↔ jOK (gD t x1) from by first | exact jz (fun z => absurd (kyA.mpr z.1) (by omega)) | exact jr0 hi16_3 hna (by omega) (by first | exact Or.inl (by omega) | exact Or.inr (Or.inl (by omega)) | exact Or.inr (Or.inr (fun z => absurd (congrArg Int32.toInt ((jl hl3 (by omega)).trans z)) (by have hq : (32 : Int32).toInt = 32 := rfl; omega)))) | exact jr1 gD_80 hi92_5 hi92_6 hi92_7 (by omega) hi92_9 (by omega) (by first | exact Or.inl (by omega) | exact Or.inr (jd_no hl4 (fun z => absurd (hd4.mpr z) (by omega)) (by omega))) (by first | exact Or.inl (by omega) | exact Or.inr (fun z => absurd (congrArg Int32.toInt ((jl hl5 (by omega)).trans z)) (by have hq : (32 : Int32).toInt = 32 := rfl; omega))) | exact jx_no hi225_3 (by omega) (fun z => absurd (congrArg Int32.toInt ((jl hl6 (by omega)).trans z)) (by have hq : (32 : Int32).toInt = 32 := rfl; omega)) | exact jx_yes hi225_3 (by omega))⟩ (Nat.le_of_ble_eq_true rfl) (Nat.le_of_ble_eq_true rfl) dX12_isJob_12
