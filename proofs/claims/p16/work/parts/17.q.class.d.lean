set_option maxHeartbeats 4000000 in
set_option maxRecDepth 100000 in
theorem U_X11_punchTape (l : Launch) (D : va_G) (K : Nat → ClassId) (Z Y : Nat → Nat) (ad : Nat → Nat) (d : dSt) (t : tSt) (hok : okX t) (x1 : Int32) (hs0 : (t.1 0 1).toInt ≤ 1276) : tMet l yX11_punchTape cX11_punchTape 3 none (rmD 0 0 0) D K Z Y [.ref (ad 0), .int x1] ((WX d) K ad t) (QV D K (fun (u : tSt) => okX u ∧ frA [(0, 1)] [] [1] [] t u ∧ ((u.1 0 1).toInt = (t.1 0 1).toInt + 4) ∧ (∀ i : Nat, (i : Int) < (t.1 0 1).toInt → (u.2.2.1 1) i = (t.2.2.1 1) i) ∧ (∀ k : Nat, k < 4 → (u.2.2.1 1) (((t.1 0 1).toInt).toNat + k) = bK x1 k)) (fun (u : tSt) => (WX d) K ad u)) 0 0 := by
  refine t_met RX11 ⟨rfl, by decide +kernel⟩ (Nat.le_of_ble_eq_true rfl) ?_
  intro p e s m below meth c A ls C hE hZ hr hlocks hA hP hD hS hl
  have hl : lv_has ls 3 [(0, .ref (ad 0)), (1, .int x1)] := hl
  have hokt := hok
  have hfr : frA [(0, 1)] [] [1] [] t t := frA_rf
  have h_1 : (0 : Int) ≤ (t.1 0 1).toInt ∧ (t.1 0 1).toInt ≤ 1280 := hok.1 0 1
  have L_3 : ∀ (fuel_3 : Nat) (t1 : tSt) (w3_2 : Int32) (H : Heap) (locs : List Loc) (ls : Array Slot), okX t1 → frA [(0, 1)] [] [1] [] t t1 → (-128 : Int) ≤ w3_2.toInt ∧ w3_2.toInt ≤ 24 → ((t1.1 0 1).toInt * 8 + w3_2.toInt = (t.1 0 1).toInt * 8 + 24) → (-8 ≤ w3_2.toInt) → (∀ i : Nat, (i : Int) < (t.1 0 1).toInt → (t1.2.2.1 1) i = (t.2.2.1 1) i) → (∀ k : Nat, (k : Int) < (t1.1 0 1).toInt - (t.1 0 1).toInt → (t1.2.2.1 1) (((t.1 0 1).toInt).toNat + k) = bK x1 k) → w3_2.toInt - (-128 : Int) < (fuel_3 : Int) → va_P D vwCl ((WX d) K ad t1) H → va_D A ((WX d) K ad t1) → va_S A s.heap H locs → lv_has ls 3 [(0, .ref (ad 0)), (1, .int x1), (2, .int w3_2)] → W p l e (rmD 0 0 0) s m [.ref (ad 0), .int x1].toArray below meth c H locs 0 0 (MQ below (QV D K (fun (u : tSt) => okX u ∧ frA [(0, 1)] [] [1] [] t u ∧ ((u.1 0 1).toInt = (t.1 0 1).toInt + 4) ∧ (∀ i : Nat, (i : Int) < (t.1 0 1).toInt → (u.2.2.1 1) i = (t.2.2.1 1) i) ∧ (∀ k : Nat, k < 4 → (u.2.2.1 1) (((t.1 0 1).toInt).toNat + k) = bK x1 k)) (fun (u : tSt) => (WX d) K ad u) A) [.ref (ad 0), .int x1].toArray s 0 0 A) (F0 m 3 ls []) := by
    intro fuel_3
    induction fuel_3 with
    | zero =>
      intro t1 w3_2 H locs ls hok hfr hw3_2 hi3_0 hi3_1 hi3_2 hi3_3 hm3_3 hP hD hS hl
      have h_2 : (0 : Int) ≤ (t1.1 0 1).toInt ∧ (t1.1 0 1).toInt ≤ 1280 := hok.1 0 1
      exact absurd hm3_3 (by omega)
    | succ fuel_3 ih_3 =>
      intro t1 w3_2 H locs ls hok hfr hw3_2 hi3_0 hi3_1 hi3_2 hi3_3 hm3_3 hP hD hS hl
      have hm3_3 : w3_2.toInt - (-128 : Int) < (fuel_3 : Int) + 1 := by omega
      have h_3 : (0 : Int) ≤ (t1.1 0 1).toInt ∧ (t1.1 0 1).toInt ≤ 1280 := hok.1 0 1
      have L_40 : ∀ (t1 : tSt) (w40_2 : Int32) (H : Heap) (locs : List Loc) (ls : Array Slot), okX t1 → frA [(0, 1)] [] [1] [] t t1 → (0 : Int) ≤ w40_2.toInt ∧ w40_2.toInt ≤ 24 → (1 : Int) ≤ (t1.1 0 1).toInt ∧ (t1.1 0 1).toInt ≤ 1280 → ((t1.1 0 1).toInt * 8 + w40_2.toInt = (t.1 0 1).toInt * 8 + 32) → (0 ≤ w40_2.toInt) → (∀ i : Nat, (i : Int) < (t.1 0 1).toInt → (t1.2.2.1 1) i = (t.2.2.1 1) i) → (∀ k : Nat, (k : Int) < (t1.1 0 1).toInt - (t.1 0 1).toInt → (t1.2.2.1 1) (((t.1 0 1).toInt).toNat + k) = bK x1 k) → w40_2.toInt - (-128 : Int) < (fuel_3 : Int) + 1 → va_P D vwCl ((WX d) K ad t1) H → va_D A ((WX d) K ad t1) → va_S A s.heap H locs → lv_has ls 3 [(0, .ref (ad 0)), (1, .int x1), (2, .int w40_2)] → W p l e (rmD 0 0 0) s m [.ref (ad 0), .int x1].toArray below meth c H locs 0 0 (MQ below (QV D K (fun (u : tSt) => okX u ∧ frA [(0, 1)] [] [1] [] t u ∧ ((u.1 0 1).toInt = (t.1 0 1).toInt + 4) ∧ (∀ i : Nat, (i : Int) < (t.1 0 1).toInt → (u.2.2.1 1) i = (t.2.2.1 1) i) ∧ (∀ k : Nat, k < 4 → (u.2.2.1 1) (((t.1 0 1).toInt).toNat + k) = bK x1 k)) (fun (u : tSt) => (WX d) K ad u) A) [.ref (ad 0), .int x1].toArray s 0 0 A) (F0 m 40 ls []) := by
        intro t1 w40_2 H locs ls hok hfr hw40_2 hf40_1 hi40_0 hi40_1 hi40_2 hi40_3 hm40_3 hP hD hS hl
        obtain ⟨v_4, e_5⟩ : ∃ z, z = w40_2 + (-8) := ⟨_, rfl⟩
        have h_6 : v_4.toInt = w40_2.toInt + (-8) := by rw [e_5]; exact ti_iadd (by show (_ : Int) ≤ w40_2.toInt + (-8); omega) (by show w40_2.toInt + (-8) < (_ : Int); omega)
        refine lv_iinc (v := v_4) (lv' := [(2, .int v_4), (0, .ref (ad 0)), (1, .int x1)]) C.1 C.2.1 dX11_punchTape_40 hl (k := 2) rfl e_5.symm (by decide) rfl (fun ls hl => ?_)
        have hl : lv_has ls 3 [(0, .ref (ad 0)), (1, .int x1), (2, .int v_4)] := lv_sub hl [1, 2, 0] rfl
        refine lv_goto (tgt := 3) C.1 C.2.1 dX11_punchTape_43 (by decide) ?_
        exact ih_3 t1 v_4 _ _ _ hok hfr ⟨by omega, by omega⟩ (show (t1.1 0 1).toInt * 8 + v_4.toInt = (t.1 0 1).toInt * 8 + 24 from by omega) (show -8 ≤ v_4.toInt from by omega) (show ∀ i : Nat, (i : Int) < (t.1 0 1).toInt → (t1.2.2.1 1) i = (t.2.2.1 1) i from by first | (intro i hi; rfl) | exact hi40_2) (show ∀ k : Nat, (k : Int) < (t1.1 0 1).toInt - (t.1 0 1).toInt → (t1.2.2.1 1) (((t.1 0 1).toInt).toNat + k) = bK x1 k from by first | (intro k hk; exfalso; omega) | exact hi40_3) (show v_4.toInt - (-128 : Int) < (fuel_3 : Int) from by omega) hP hD hS (lv_sub hl [0, 1, 2] rfl)
      refine lv_iload_n C.1 C.2.1 dX11_punchTape_3 rfl (lv_at hl 2 rfl) ?_
      refine lv_if_lt (tgt := 46) C.1 C.2.1 dX11_punchTape_4 (by decide) (fun c_7 => ?_) (fun c_7 => ?_)
      · replace c_7 : w3_2.toInt < 0 := i_lt c_7
        exact g_vret C hr hlocks hP hD hS t1 rfl ⟨hok, hfr, (show (t1.1 0 1).toInt = (t.1 0 1).toInt + 4 from by omega), (show ∀ i : Nat, (i : Int) < (t.1 0 1).toInt → (t1.2.2.1 1) i = (t.2.2.1 1) i from by exact hi3_2), (show ∀ k : Nat, k < 4 → (t1.2.2.1 1) (((t.1 0 1).toInt).toNat + k) = bK x1 k from by intro k hk; exact hi3_3 k (by omega))⟩ (Nat.le_of_ble_eq_true rfl) (Nat.le_of_ble_eq_true rfl) dX11_punchTape_46
      · replace c_7 : 0 ≤ w3_2.toInt := i_nlt c_7
        refine lv_aload_n C.1 C.2.1 dX11_punchTape_7 rfl (lv_at hl 0 rfl) ?_
        refine k_get (v := .int (t1.1 0 1)) C hP 0 rfl rfl inlX11 1 (by decide) m_9_9 rfl dX11_punchTape_8 ?_
        refine lv_sipush (v := 8192) C.1 C.2.1 dX11_punchTape_11 (by decide) ?_
        refine lv_icmp_ge (tgt := 40) C.1 C.2.1 dX11_punchTape_14 (by decide) (fun c_8 => False.elim (by have c_8 : 8192 ≤ (t1.1 0 1).toInt := i_le c_8; omega)) (fun c_8 => ?_)
        replace c_8 : (t1.1 0 1).toInt < 8192 := i_nle c_8
        refine lv_aload_n C.1 C.2.1 dX11_punchTape_17 rfl (lv_at hl 0 rfl) ?_
        refine k_get (v := .ref (ad 1)) C hP 0 rfl rfl inlX11 0 (by decide) m_2_6 rfl dX11_punchTape_18 ?_
        refine lv_aload_n C.1 C.2.1 dX11_punchTape_21 rfl (lv_at hl 0 rfl) ?_
        refine k_get (v := .int (t1.1 0 1)) C hP 0 rfl rfl inlX11 1 (by decide) m_9_9 rfl dX11_punchTape_22 ?_
        refine lv_iload_n C.1 C.2.1 dX11_punchTape_25 rfl (lv_at hl 1 rfl) ?_
        refine lv_iload_n C.1 C.2.1 dX11_punchTape_26 rfl (lv_at hl 2 rfl) ?_
        obtain ⟨v_9, e_10⟩ : ∃ z, z = (x1 : Int32) >>> ((w3_2 : Int32) &&& 31) := ⟨_, rfl⟩
        refine k_ishr (v := v_9) C e_10.symm dX11_punchTape_27 ?_
        obtain ⟨v_12, e_13⟩ : ∃ z, z = (v_9 : Int32).toInt8.toInt32 := ⟨_, rfl⟩
        have h_14 : (-128 : Int) ≤ v_12.toInt ∧ v_12.toInt ≤ 127 := by rw [e_13]; exact nar_byte _
        refine lv_i2b (v := v_12) C.1 C.2.1 dX11_punchTape_28 e_13.symm ?_
        obtain ⟨v_15, e_16⟩ : ∃ z, z = vp_nar .byte v_12 := ⟨_, rfl⟩
        have h_17 : (-128 : Int) ≤ v_15.toInt ∧ v_15.toInt ≤ 127 := by rw [e_16]; exact nar_byte _
        refine k_bst (ws' := (WX d) K ad (uB t1 1 ((t1.1 0 1) : Int32).toNatClampNeg v_15)) (x' := v_15) C hP hD hS 1 rfl (vp_in_iff.mpr ⟨by omega, by omega⟩) rfl e_16.symm rfl dX11_punchTape_29 (fun H locs hP hD hS => ?_)
        have hok : okX (uB t1 1 ((t1.1 0 1) : Int32).toNatClampNeg v_15) := ⟨hok.1, okB_B hok.2.1 1 _ v_15 (show (-128 : Int) ≤ (v_15 : Int32).toInt ∧ (v_15 : Int32).toInt ≤ 127 from ⟨by omega, by omega⟩), trivial⟩
        have hfr : frA [(0, 1)] [] [1] [] t (uB t1 1 ((t1.1 0 1) : Int32).toNatClampNeg v_15) := frA_B hfr 1 _ _ rfl
        refine lv_aload_n C.1 C.2.1 dX11_punchTape_30 rfl (lv_at hl 0 rfl) ?_
        refine lv_dup C.1 C.2.1 dX11_punchTape_31 rfl ?_
        refine k_get (v := .int (t1.1 0 1)) C hP 0 rfl rfl inlX11 1 (by decide) m_9_9 rfl dX11_punchTape_32 ?_
        refine lv_iconst (v := 1) C.1 C.2.1 dX11_punchTape_35 (by decide) ?_
        obtain ⟨v_18, e_19⟩ : ∃ z, z = ((t1.1 0 1) : Int32) + (1 : Int32) := ⟨_, rfl⟩
        have h_20 : v_18.toInt = (t1.1 0 1).toInt + 1 := by rw [e_19]; exact ti_iadd (by show (_ : Int) ≤ (t1.1 0 1).toInt + 1; omega) (by show (t1.1 0 1).toInt + 1 < (_ : Int); omega)
        refine k_iadd (v := v_18) C e_19.symm dX11_punchTape_36 ?_
        refine k_put (ws' := (WX d) K ad (uI (uB t1 1 ((t1.1 0 1) : Int32).toNatClampNeg v_15) 0 1 v_18)) (v := .int v_18) C hP hD hS 0 rfl rfl inlX11 tyX11_ok nmX11 1 (by decide) m_9_9 rfl rfl rfl rfl rfl dX11_punchTape_37 (fun H locs hP hD hS => ?_)
        have hok : okX (uI (uB t1 1 ((t1.1 0 1) : Int32).toNatClampNeg v_15) 0 1 v_18) := ⟨okI_I hok.1 0 1 v_18 (show (0 : Int) ≤ (v_18 : Int32).toInt ∧ (v_18 : Int32).toInt ≤ 1280 from ⟨by omega, by omega⟩), hok.2.1, trivial⟩
        have hfr : frA [(0, 1)] [] [1] [] t (uI (uB t1 1 ((t1.1 0 1) : Int32).toNatClampNeg v_15) 0 1 v_18) := frA_I hfr 0 1 _ rfl
        exact L_40 (uI (uB t1 1 ((t1.1 0 1) : Int32).toNatClampNeg v_15) 0 1 v_18) w3_2 _ _ _ hok hfr ⟨by omega, by omega⟩ (show (1 : Int) ≤ (v_18 : Int32).toInt ∧ (v_18 : Int32).toInt ≤ 1280 from ⟨by omega, by omega⟩) (show v_18.toInt * 8 + w3_2.toInt = (t.1 0 1).toInt * 8 + 32 from by omega) (show 0 ≤ w3_2.toInt from by omega) (show ∀ i : Nat, (i : Int) < (t.1 0 1).toInt → ((uI (uB t1 1 ((t1.1 0 1) : Int32).toNatClampNeg v_15) 0 1 v_18).2.2.1 1) i = (t.2.2.1 1) i from by intro i hi; first | exact row_old (by omega) (hi3_2 i hi) | (exfalso; omega)) (show ∀ k : Nat, (k : Int) < v_18.toInt - (t.1 0 1).toInt → ((uI (uB t1 1 ((t1.1 0 1) : Int32).toNatClampNeg v_15) 0 1 v_18).2.2.1 1) (((t.1 0 1).toInt).toNat + k) = bK x1 k from by intro k hk; first | (exfalso; omega) | (by_cases hz : (k : Int) < (t1.1 0 1).toInt - (t.1 0 1).toInt; exact row_old (by omega) (hi3_3 k hz); exact row_new (by omega) (bK_st (by assumption) (by assumption) (by assumption) (by omega) (by omega)))) (show w3_2.toInt - (-128 : Int) < (fuel_3 : Int) + 1 from by omega) hP hD hS (lv_sub hl [0, 1, 2] rfl)
  refine lv_bipush (v := 24) C.1 C.2.1 dX11_punchTape_0 (by decide) ?_
  refine lv_istore_n (lv' := [(2, .int 24), (0, .ref (ad 0)), (1, .int x1)]) C.1 C.2.1 dX11_punchTape_2 rfl hl (by decide) rfl (fun ls hl => ?_)
  have hl : lv_has ls 3 [(0, .ref (ad 0)), (1, .int x1), (2, .int 24)] := lv_sub hl [1, 2, 0] rfl
  exact L_3 153 t 24 _ _ _ hok hfr ⟨by decide, by decide⟩ (show (t.1 0 1).toInt * 8 + 24 = (t.1 0 1).toInt * 8 + 24 from by omega) (show -8 ≤ 24 from by omega) (show ∀ i : Nat, (i : Int) < (t.1 0 1).toInt → (t.2.2.1 1) i = (t.2.2.1 1) i from by first | (intro i hi; rfl) | exact hi40_2) (show ∀ k : Nat, (k : Int) < (t.1 0 1).toInt - (t.1 0 1).toInt → (t.2.2.1 1) (((t.1 0 1).toInt).toNat + k) = bK x1 k from by first | (intro k hk; exfalso; omega) | exact hi40_3) (show 24 - (-128 : Int) < ((153 : Nat) : Int) from by omega) hP hD hS (lv_sub hl [0, 1, 2] rfl)

set_option maxHeartbeats 4000000 in
set_option maxRecDepth 100000 in
theorem U_X11_feed (l : Launch) (D : va_G) (K : Nat → ClassId) (Z Y : Nat → Nat) (ad : Nat → Nat) (d : dSt) (t : tSt) (hok : okX t) (x1 : Int32) (x2 : Int32) (x3 : Int32) (x4 : Int32) (x5 : Int32) (hs0 : (t.1 0 1).toInt ≤ 1260) : tMet l yX11_feed cX11_feed 6 (some .boolean) (rmD 1 0 0) D K Z Y [.ref (ad 0), .int x1, .int x2, .int x3, .int x4, .int x5] ((WX d) K ad t) (QI D K (fun (r : Int32) (u : tSt) => okX u ∧ frA [(0, 1)] [] [1] [] t u ∧ (1 : Int) ≤ r.toInt ∧ r.toInt ≤ 1 ∧ (r.toInt = 1) ∧ ((u.1 0 1).toInt = (t.1 0 1).toInt + 20) ∧ (r.toInt = 1 → fdT (t.2.2.1 1) (u.2.2.1 1) (t.1 0 1).toInt x1 x2 x3 x4 x5)) (fun (u : tSt) => (WX d) K ad u)) 0 0 := by
  refine t_met RX11 ⟨rfl, by decide +kernel⟩ (Nat.le_of_ble_eq_true rfl) ?_
  intro p e s m below meth c A ls C hE hZ hr hlocks hA hP hD hS hl
  have hl : lv_has ls 6 [(0, .ref (ad 0)), (1, .int x1), (2, .int x2), (3, .int x3), (4, .int x4), (5, .int x5)] := hl
  have hokt := hok
  have hfr : frA [(0, 1)] [] [1] [] t t := frA_rf
  have h_1 : (0 : Int) ≤ (t.1 0 1).toInt ∧ (t.1 0 1).toInt ≤ 1280 := hok.1 0 1
  refine lv_aload_n C.1 C.2.1 dX11_feed_0 rfl (lv_at hl 0 rfl) ?_
  refine k_get (v := .int (t.1 0 1)) C hP 0 rfl rfl inlX11 1 (by decide) m_9_9 rfl dX11_feed_1 ?_
  refine lv_bipush (v := 20) C.1 C.2.1 dX11_feed_4 (by decide) ?_
  obtain ⟨v_2, e_3⟩ : ∃ z, z = ((t.1 0 1) : Int32) + (20 : Int32) := ⟨_, rfl⟩
  have h_4 : v_2.toInt = (t.1 0 1).toInt + 20 := by rw [e_3]; exact ti_iadd (by show (_ : Int) ≤ (t.1 0 1).toInt + 20; omega) (by show (t.1 0 1).toInt + 20 < (_ : Int); omega)
  refine k_iadd (v := v_2) C e_3.symm dX11_feed_6 ?_
  refine lv_sipush (v := 8192) C.1 C.2.1 dX11_feed_7 (by decide) ?_
  refine lv_icmp_le (tgt := 15) C.1 C.2.1 dX11_feed_10 (by decide) (fun c_5 => ?_) (fun c_5 => False.elim (by have c_5 : 8192 < v_2.toInt := i_nle c_5; omega))
  replace c_5 : v_2.toInt ≤ 8192 := i_le c_5
  refine lv_aload_n C.1 C.2.1 dX11_feed_15 rfl (lv_at hl 0 rfl) ?_
  refine lv_iload_n C.1 C.2.1 dX11_feed_16 rfl (lv_at hl 1 rfl) ?_
  refine g_Vv (As := [.int x1]) (rest := []) C hP hD hS hA (U_X11_punchTape l D K Z Y ad d t hok (x1) (show (t.1 0 1).toInt ≤ 1276 from by omega)) hE hZ (uwV m_9_10 m_9_11 m_9_12 m_1_2 m_9_13) (hdV 1 (by decide +kernel) rfl) ⟨Nat.le_of_ble_eq_true rfl, Nat.le_of_ble_eq_true rfl⟩ rfl rfl (ci := 10) (q0 := 0) rfl rfl rfl hl.1 (Nat.le_of_ble_eq_true rfl) dX11_feed_17 ⟨Nat.le_of_ble_eq_true rfl, Nat.le_of_ble_eq_true rfl⟩ (fun t_6 H locs hw hP hD hS => ?_)
  obtain ⟨hok, f_8, p_9, p_10, p_11⟩ := hw
  have hfr : frA [(0, 1)] [] [1] [] t t_6 := frA_tr hfr f_8 rfl
  have h_12 : (0 : Int) ≤ (t_6.1 0 1).toInt ∧ (t_6.1 0 1).toInt ≤ 1280 := hok.1 0 1
  replace p_9 : (t_6.1 0 1).toInt = (t.1 0 1).toInt + 4 := p_9
  replace p_10 : ∀ i : Nat, (i : Int) < (t.1 0 1).toInt → (t_6.2.2.1 1) i = (t.2.2.1 1) i := p_10
  replace p_11 : ∀ k : Nat, k < 4 → (t_6.2.2.1 1) (((t.1 0 1).toInt).toNat + k) = bK x1 k := p_11
  have a1 := p_10
  have b1 := p_11
  have n1 := p_9
  refine lv_aload_n C.1 C.2.1 dX11_feed_20 rfl (lv_at hl 0 rfl) ?_
  refine lv_iload_n C.1 C.2.1 dX11_feed_21 rfl (lv_at hl 2 rfl) ?_
  refine g_Vv (As := [.int x2]) (rest := []) C hP hD hS hA (U_X11_punchTape l D K Z Y ad d t_6 hok (x2) (show (t_6.1 0 1).toInt ≤ 1276 from by omega)) hE hZ (uwV m_9_10 m_9_11 m_9_12 m_1_2 m_9_13) (hdV 1 (by decide +kernel) rfl) ⟨Nat.le_of_ble_eq_true rfl, Nat.le_of_ble_eq_true rfl⟩ rfl rfl (ci := 10) (q0 := 0) rfl rfl rfl hl.1 (Nat.le_of_ble_eq_true rfl) dX11_feed_22 ⟨Nat.le_of_ble_eq_true rfl, Nat.le_of_ble_eq_true rfl⟩ (fun t_13 H locs hw hP hD hS => ?_)
  obtain ⟨hok, f_15, p_16, p_17, p_18⟩ := hw
  have hfr : frA [(0, 1)] [] [1] [] t t_13 := frA_tr hfr f_15 rfl
  have h_19 : (0 : Int) ≤ (t_13.1 0 1).toInt ∧ (t_13.1 0 1).toInt ≤ 1280 := hok.1 0 1
  replace p_16 : (t_13.1 0 1).toInt = (t_6.1 0 1).toInt + 4 := p_16
  replace p_17 : ∀ i : Nat, (i : Int) < (t_6.1 0 1).toInt → (t_13.2.2.1 1) i = (t_6.2.2.1 1) i := p_17
  replace p_18 : ∀ k : Nat, k < 4 → (t_13.2.2.1 1) (((t_6.1 0 1).toInt).toNat + k) = bK x2 k := p_18
  have a2 := p_17
  have b2 := p_18
  have n2 := p_16
  refine lv_aload_n C.1 C.2.1 dX11_feed_25 rfl (lv_at hl 0 rfl) ?_
  refine lv_iload_n C.1 C.2.1 dX11_feed_26 rfl (lv_at hl 3 rfl) ?_
  refine g_Vv (As := [.int x3]) (rest := []) C hP hD hS hA (U_X11_punchTape l D K Z Y ad d t_13 hok (x3) (show (t_13.1 0 1).toInt ≤ 1276 from by omega)) hE hZ (uwV m_9_10 m_9_11 m_9_12 m_1_2 m_9_13) (hdV 1 (by decide +kernel) rfl) ⟨Nat.le_of_ble_eq_true rfl, Nat.le_of_ble_eq_true rfl⟩ rfl rfl (ci := 10) (q0 := 0) rfl rfl rfl hl.1 (Nat.le_of_ble_eq_true rfl) dX11_feed_27 ⟨Nat.le_of_ble_eq_true rfl, Nat.le_of_ble_eq_true rfl⟩ (fun t_20 H locs hw hP hD hS => ?_)
  obtain ⟨hok, f_22, p_23, p_24, p_25⟩ := hw
  have hfr : frA [(0, 1)] [] [1] [] t t_20 := frA_tr hfr f_22 rfl
  have h_26 : (0 : Int) ≤ (t_20.1 0 1).toInt ∧ (t_20.1 0 1).toInt ≤ 1280 := hok.1 0 1
  replace p_23 : (t_20.1 0 1).toInt = (t_13.1 0 1).toInt + 4 := p_23
  replace p_24 : ∀ i : Nat, (i : Int) < (t_13.1 0 1).toInt → (t_20.2.2.1 1) i = (t_13.2.2.1 1) i := p_24
  replace p_25 : ∀ k : Nat, k < 4 → (t_20.2.2.1 1) (((t_13.1 0 1).toInt).toNat + k) = bK x3 k := p_25
  have a3 := p_24
  have b3 := p_25
  have n3 := p_23
  refine lv_aload_n C.1 C.2.1 dX11_feed_30 rfl (lv_at hl 0 rfl) ?_
  refine lv_iload C.1 C.2.1 dX11_feed_31 (lv_at hl 4 rfl) ?_
  refine g_Vv (As := [.int x4]) (rest := []) C hP hD hS hA (U_X11_punchTape l D K Z Y ad d t_20 hok (x4) (show (t_20.1 0 1).toInt ≤ 1276 from by omega)) hE hZ (uwV m_9_10 m_9_11 m_9_12 m_1_2 m_9_13) (hdV 1 (by decide +kernel) rfl) ⟨Nat.le_of_ble_eq_true rfl, Nat.le_of_ble_eq_true rfl⟩ rfl rfl (ci := 10) (q0 := 0) rfl rfl rfl hl.1 (Nat.le_of_ble_eq_true rfl) dX11_feed_33 ⟨Nat.le_of_ble_eq_true rfl, Nat.le_of_ble_eq_true rfl⟩ (fun t_27 H locs hw hP hD hS => ?_)
  obtain ⟨hok, f_29, p_30, p_31, p_32⟩ := hw
  have hfr : frA [(0, 1)] [] [1] [] t t_27 := frA_tr hfr f_29 rfl
  have h_33 : (0 : Int) ≤ (t_27.1 0 1).toInt ∧ (t_27.1 0 1).toInt ≤ 1280 := hok.1 0 1
  replace p_30 : (t_27.1 0 1).toInt = (t_20.1 0 1).toInt + 4 := p_30
  replace p_31 : ∀ i : Nat, (i : Int) < (t_20.1 0 1).toInt → (t_27.2.2.1 1) i = (t_20.2.2.1 1) i := p_31
  replace p_32 : ∀ k : Nat, k < 4 → (t_27.2.2.1 1) (((t_20.1 0 1).toInt).toNat + k) = bK x4 k := p_32
  have a4 := p_31
  have b4 := p_32
  have n4 := p_30
  refine lv_aload_n C.1 C.2.1 dX11_feed_36 rfl (lv_at hl 0 rfl) ?_
  refine lv_iload C.1 C.2.1 dX11_feed_37 (lv_at hl 5 rfl) ?_
  refine g_Vv (As := [.int x5]) (rest := []) C hP hD hS hA (U_X11_punchTape l D K Z Y ad d t_27 hok (x5) (show (t_27.1 0 1).toInt ≤ 1276 from by omega)) hE hZ (uwV m_9_10 m_9_11 m_9_12 m_1_2 m_9_13) (hdV 1 (by decide +kernel) rfl) ⟨Nat.le_of_ble_eq_true rfl, Nat.le_of_ble_eq_true rfl⟩ rfl rfl (ci := 10) (q0 := 0) rfl rfl rfl hl.1 (Nat.le_of_ble_eq_true rfl) dX11_feed_39 ⟨Nat.le_of_ble_eq_true rfl, Nat.le_of_ble_eq_true rfl⟩ (fun t_34 H locs hw hP hD hS => ?_)
  obtain ⟨hok, f_36, p_37, p_38, p_39⟩ := hw
  have hfr : frA [(0, 1)] [] [1] [] t t_34 := frA_tr hfr f_36 rfl
  have h_40 : (0 : Int) ≤ (t_34.1 0 1).toInt ∧ (t_34.1 0 1).toInt ≤ 1280 := hok.1 0 1
  replace p_37 : (t_34.1 0 1).toInt = (t_27.1 0 1).toInt + 4 := p_37
  replace p_38 : ∀ i : Nat, (i : Int) < (t_27.1 0 1).toInt → (t_34.2.2.1 1) i = (t_27.2.2.1 1) i := p_38
  replace p_39 : ∀ k : Nat, k < 4 → (t_34.2.2.1 1) (((t_27.1 0 1).toInt).toNat + k) = bK x5 k := p_39
  have a5 := p_38
  have b5 := p_39
  have n5 := p_37
  refine lv_iconst (v := 1) C.1 C.2.1 dX11_feed_42 (by decide) ?_
  exact g_iret C hr hlocks hP hD hS (by decide) t_34 rfl ⟨hok, hfr, by decide, by decide, (show 1 = 1 from by omega), (show (t_34.1 0 1).toInt = (t.1 0 1).toInt + 20 from by omega), (show 1 = 1 → fdT (t.2.2.1 1) (t_34.2.2.1 1) (t.1 0 1).toInt x1 x2 x3 x4 x5 from by intro _; exact fd_all (by omega) n1 n2 n3 n4 a1 b1 a2 b2 a3 b3 a4 b4 a5 b5)⟩ (Nat.le_of_ble_eq_true rfl) (Nat.le_of_ble_eq_true rfl) dX11_feed_43
