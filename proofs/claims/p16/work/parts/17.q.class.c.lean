set_option maxHeartbeats 4000000 in
set_option maxRecDepth 100000 in
theorem U_X3_openBody (l : Launch) (D : va_G) (K : Nat → ClassId) (Z Y : Nat → Nat) (ad : Nat → Nat) (d : dSt) (t : tSt) (hok : okX t)  : tMet l yX3_openBody cX3_openBody 1 (some .int) (rmD 6 0 0) D K Z Y [.ref (ad 7)] ((WX d) K ad t) (QI D K (fun (r : Int32) (u : tSt) => okX u ∧ frA [(7, 4), (7, 5), (7, 6), (7, 7)] [] [] [] t u ∧ (2 : Int) ≤ r.toInt ∧ r.toInt ≤ 3 ∧ (r.toInt = 3 ∧ (aW (t.2.2.1 51) 0 13 ∧ (t.2.2.1 51) (sByt 13).length = 32) ∨ r.toInt = 2 ∧ ¬ (aW (t.2.2.1 51) 0 13 ∧ (t.2.2.1 51) (sByt 13).length = 32))) (fun (u : tSt) => (WX d) K ad u)) 0 0 := by
  refine t_met RX3 ⟨rfl, by decide +kernel⟩ (Nat.le_of_ble_eq_true rfl) ?_
  intro p e s m below meth c A ls C hE hZ hr hlocks hA hP hD hS hl
  have hl : lv_has ls 1 [(0, .ref (ad 7))] := hl
  have hokt := hok
  have hfr : frA [(7, 4), (7, 5), (7, 6), (7, 7)] [] [] [] t t := frA_rf
  refine lv_aload_n C.1 C.2.1 dX3_openBody_0 rfl (lv_at hl 0 rfl) ?_
  refine lv_iconst (v := 0) C.1 C.2.1 dX3_openBody_1 (by decide) ?_
  refine k_put (ws' := (WX d) K ad (uI t 7 4 0)) (v := .int 0) C hP hD hS 7 rfl rfl inlX3 tyX3_ok nmX3 4 (by decide) m_73_15 rfl rfl rfl rfl rfl dX3_openBody_2 (fun H locs hP hD hS => ?_)
  have hok : okX (uI t 7 4 0) := ⟨okI_I hok.1 7 4 0 (show (0 : Int) ≤ (0 : Int32).toInt ∧ (0 : Int32).toInt ≤ 2 from ⟨by decide, by decide⟩), hok.2.1, trivial⟩
  have hfr : frA [(7, 4), (7, 5), (7, 6), (7, 7)] [] [] [] t (uI t 7 4 0) := frA_I hfr 7 4 _ rfl
  refine lv_aload_n C.1 C.2.1 dX3_openBody_5 rfl (lv_at hl 0 rfl) ?_
  refine lv_aload_n C.1 C.2.1 dX3_openBody_6 rfl (lv_at hl 0 rfl) ?_
  refine k_get (v := .ref (ad 29)) C hP 7 rfl rfl inlX3 0 (by decide) m_6_23 rfl dX3_openBody_7 ?_
  have h_1 : (0 : Int) ≤ (t.1 29 2).toInt ∧ (t.1 29 2).toInt ≤ 1280 := hok.1 29 2
  refine k_get (v := .int (t.1 29 2)) C hP 29 rfl rfl inlX9 2 (by decide) m_71_16 rfl dX3_openBody_10 ?_
  refine k_put (ws' := (WX d) K ad (uI (uI t 7 4 0) 7 5 (t.1 29 2))) (v := .int (t.1 29 2)) C hP hD hS 7 rfl rfl inlX3 tyX3_ok nmX3 5 (by decide) m_73_16 rfl rfl rfl rfl rfl dX3_openBody_13 (fun H locs hP hD hS => ?_)
  have hok : okX (uI (uI t 7 4 0) 7 5 (t.1 29 2)) := ⟨okI_I hok.1 7 5 (t.1 29 2) (show (0 : Int) ≤ ((t.1 29 2) : Int32).toInt ∧ ((t.1 29 2) : Int32).toInt ≤ 1281 from ⟨by omega, by omega⟩), hok.2.1, trivial⟩
  have hfr : frA [(7, 4), (7, 5), (7, 6), (7, 7)] [] [] [] t (uI (uI t 7 4 0) 7 5 (t.1 29 2)) := frA_I hfr 7 5 _ rfl
  refine lv_aload_n C.1 C.2.1 dX3_openBody_16 rfl (lv_at hl 0 rfl) ?_
  refine va_ldcS C.1 C.2.1 C.2.2.2.1 (hE.2 13 (by decide)) dX3_openBody_17 ?_
  refine g_Vi (As := [.ref (Z 13)]) (rest := []) C hP hD hS hA (U_X3_isCard l D K Z Y ad d (uI (uI t 7 4 0) 7 5 (t.1 29 2)) hok (13) (show sS 13 from ⟨by decide, by decide, by decide⟩)) hE hZ (uwV m_73_18 m_73_19 m_73_20 m_2_17 m_73_21) (hdV 1 (by decide +kernel) rfl) ⟨Nat.le_of_ble_eq_true rfl, Nat.le_of_ble_eq_true rfl⟩ rfl rfl (ci := 2) (q0 := 7) rfl rfl rfl hl.1 (Nat.le_of_ble_eq_true rfl) dX3_openBody_19 ⟨Nat.le_of_ble_eq_true rfl, Nat.le_of_ble_eq_true rfl⟩ (fun r_3 t_2 H locs hw hP hD hS => ?_)
  obtain ⟨h_5, h_6, p_7⟩ := hw
  replace p_7 : r_3.toInt = 1 ↔ (aW (t.2.2.1 51) 0 13 ∧ (t.2.2.1 51) (sByt 13).length = 32) := p_7
  have kyC := p_7
  refine lv_if_eq (tgt := 30) C.1 C.2.1 dX3_openBody_22 (by decide) (fun c_8 => ?_) (fun c_8 => ?_)
  · replace c_8 : r_3.toInt = 0 := i_eq c_8
    refine lv_aload_n C.1 C.2.1 dX3_openBody_30 rfl (lv_at hl 0 rfl) ?_
    refine va_ldcS C.1 C.2.1 C.2.2.2.1 (hE.2 14 (by decide)) dX3_openBody_31 ?_
    refine g_Vi (As := [.ref (Z 14)]) (rest := []) C hP hD hS hA (U_X3_isCard l D K Z Y ad d (uI (uI t 7 4 0) 7 5 (t.1 29 2)) hok (14) (show sS 14 from ⟨by decide, by decide, by decide⟩)) hE hZ (uwV m_73_18 m_73_19 m_73_20 m_2_17 m_73_21) (hdV 1 (by decide +kernel) rfl) ⟨Nat.le_of_ble_eq_true rfl, Nat.le_of_ble_eq_true rfl⟩ rfl rfl (ci := 2) (q0 := 7) rfl rfl rfl hl.1 (Nat.le_of_ble_eq_true rfl) dX3_openBody_33 ⟨Nat.le_of_ble_eq_true rfl, Nat.le_of_ble_eq_true rfl⟩ (fun r_10 t_9 H locs hw hP hD hS => ?_)
    obtain ⟨h_12, h_13, p_14⟩ := hw
    replace p_14 : r_10.toInt = 1 ↔ (aW (t.2.2.1 51) 0 14 ∧ (t.2.2.1 51) (sByt 14).length = 32) := p_14
    refine lv_if_eq (tgt := 58) C.1 C.2.1 dX3_openBody_36 (by decide) (fun c_15 => ?_) (fun c_15 => ?_)
    · replace c_15 : r_10.toInt = 0 := i_eq c_15
      refine lv_aload_n C.1 C.2.1 dX3_openBody_58 rfl (lv_at hl 0 rfl) ?_
      refine va_ldcS C.1 C.2.1 C.2.2.2.1 (hE.2 15 (by decide)) dX3_openBody_59 ?_
      refine g_Vi (As := [.ref (Z 15)]) (rest := []) C hP hD hS hA (U_X3_isCard l D K Z Y ad d (uI (uI t 7 4 0) 7 5 (t.1 29 2)) hok (15) (show sS 15 from ⟨by decide, by decide, by decide⟩)) hE hZ (uwV m_73_18 m_73_19 m_73_20 m_2_17 m_73_21) (hdV 1 (by decide +kernel) rfl) ⟨Nat.le_of_ble_eq_true rfl, Nat.le_of_ble_eq_true rfl⟩ rfl rfl (ci := 2) (q0 := 7) rfl rfl rfl hl.1 (Nat.le_of_ble_eq_true rfl) dX3_openBody_61 ⟨Nat.le_of_ble_eq_true rfl, Nat.le_of_ble_eq_true rfl⟩ (fun r_17 t_16 H locs hw hP hD hS => ?_)
      obtain ⟨h_19, h_20, p_21⟩ := hw
      replace p_21 : r_17.toInt = 1 ↔ (aW (t.2.2.1 51) 0 15 ∧ (t.2.2.1 51) (sByt 15).length = 32) := p_21
      refine lv_if_eq (tgt := 72) C.1 C.2.1 dX3_openBody_64 (by decide) (fun c_22 => ?_) (fun c_22 => ?_)
      · replace c_22 : r_17.toInt = 0 := i_eq c_22
        refine lv_iconst (v := 2) C.1 C.2.1 dX3_openBody_72 (by decide) ?_
        exact g_iret C hr hlocks hP hD hS rfl (uI (uI t 7 4 0) 7 5 (t.1 29 2)) rfl ⟨hok, hfr, by decide, by decide, (show 2 = 3 ∧ (aW (t.2.2.1 51) 0 13 ∧ (t.2.2.1 51) (sByt 13).length = 32) ∨ 2 = 2 ∧ ¬ (aW (t.2.2.1 51) 0 13 ∧ (t.2.2.1 51) (sByt 13).length = 32) from by first | exact Or.inl ⟨by omega, kyC.mp (by omega)⟩ | exact Or.inr ⟨by omega, fun hq => absurd (kyC.mpr hq) (by omega)⟩)⟩ (Nat.le_of_ble_eq_true rfl) (Nat.le_of_ble_eq_true rfl) dX3_openBody_73
      · replace c_22 : ¬ r_17.toInt = 0 := i_ne c_22
        refine lv_aload_n C.1 C.2.1 dX3_openBody_67 rfl (lv_at hl 0 rfl) ?_
        refine lv_iconst (v := 2) C.1 C.2.1 dX3_openBody_68 (by decide) ?_
        refine k_put (ws' := (WX d) K ad (uI (uI (uI t 7 4 0) 7 5 (t.1 29 2)) 7 4 2)) (v := .int 2) C hP hD hS 7 rfl rfl inlX3 tyX3_ok nmX3 4 (by decide) m_73_15 rfl rfl rfl rfl rfl dX3_openBody_69 (fun H locs hP hD hS => ?_)
        have hok : okX (uI (uI (uI t 7 4 0) 7 5 (t.1 29 2)) 7 4 2) := ⟨okI_I hok.1 7 4 2 (show (0 : Int) ≤ (2 : Int32).toInt ∧ (2 : Int32).toInt ≤ 2 from ⟨by decide, by decide⟩), hok.2.1, trivial⟩
        have hfr : frA [(7, 4), (7, 5), (7, 6), (7, 7)] [] [] [] t (uI (uI (uI t 7 4 0) 7 5 (t.1 29 2)) 7 4 2) := frA_I hfr 7 4 _ rfl
        refine lv_iconst (v := 2) C.1 C.2.1 dX3_openBody_72 (by decide) ?_
        exact g_iret C hr hlocks hP hD hS rfl (uI (uI (uI t 7 4 0) 7 5 (t.1 29 2)) 7 4 2) rfl ⟨hok, hfr, by decide, by decide, (show 2 = 3 ∧ (aW (t.2.2.1 51) 0 13 ∧ (t.2.2.1 51) (sByt 13).length = 32) ∨ 2 = 2 ∧ ¬ (aW (t.2.2.1 51) 0 13 ∧ (t.2.2.1 51) (sByt 13).length = 32) from by first | exact Or.inl ⟨by omega, kyC.mp (by omega)⟩ | exact Or.inr ⟨by omega, fun hq => absurd (kyC.mpr hq) (by omega)⟩)⟩ (Nat.le_of_ble_eq_true rfl) (Nat.le_of_ble_eq_true rfl) dX3_openBody_73
    · replace c_15 : ¬ r_10.toInt = 0 := i_ne c_15
      refine lv_aload_n C.1 C.2.1 dX3_openBody_39 rfl (lv_at hl 0 rfl) ?_
      refine lv_iconst (v := 1) C.1 C.2.1 dX3_openBody_40 (by decide) ?_
      refine k_put (ws' := (WX d) K ad (uI (uI (uI t 7 4 0) 7 5 (t.1 29 2)) 7 4 1)) (v := .int 1) C hP hD hS 7 rfl rfl inlX3 tyX3_ok nmX3 4 (by decide) m_73_15 rfl rfl rfl rfl rfl dX3_openBody_41 (fun H locs hP hD hS => ?_)
      have hok : okX (uI (uI (uI t 7 4 0) 7 5 (t.1 29 2)) 7 4 1) := ⟨okI_I hok.1 7 4 1 (show (0 : Int) ≤ (1 : Int32).toInt ∧ (1 : Int32).toInt ≤ 2 from ⟨by decide, by decide⟩), hok.2.1, trivial⟩
      have hfr : frA [(7, 4), (7, 5), (7, 6), (7, 7)] [] [] [] t (uI (uI (uI t 7 4 0) 7 5 (t.1 29 2)) 7 4 1) := frA_I hfr 7 4 _ rfl
      refine lv_aload_n C.1 C.2.1 dX3_openBody_44 rfl (lv_at hl 0 rfl) ?_
      refine lv_aload_n C.1 C.2.1 dX3_openBody_45 rfl (lv_at hl 0 rfl) ?_
      refine k_get (v := .ref (ad 29)) C hP 7 rfl rfl inlX3 0 (by decide) m_6_23 rfl dX3_openBody_46 ?_
      have h_23 : (0 : Int) ≤ (t.1 29 4).toInt ∧ (t.1 29 4).toInt ≤ 1281 := hok.1 29 4
      refine k_get (v := .int (t.1 29 4)) C hP 29 rfl rfl inlX9 4 (by decide) m_73_17 rfl dX3_openBody_49 ?_
      refine k_put (ws' := (WX d) K ad (uI (uI (uI (uI t 7 4 0) 7 5 (t.1 29 2)) 7 4 1) 7 5 (t.1 29 4))) (v := .int (t.1 29 4)) C hP hD hS 7 rfl rfl inlX3 tyX3_ok nmX3 5 (by decide) m_73_16 rfl rfl rfl rfl rfl dX3_openBody_52 (fun H locs hP hD hS => ?_)
      have hok : okX (uI (uI (uI (uI t 7 4 0) 7 5 (t.1 29 2)) 7 4 1) 7 5 (t.1 29 4)) := ⟨okI_I hok.1 7 5 (t.1 29 4) (show (0 : Int) ≤ ((t.1 29 4) : Int32).toInt ∧ ((t.1 29 4) : Int32).toInt ≤ 1281 from ⟨by omega, by omega⟩), hok.2.1, trivial⟩
      have hfr : frA [(7, 4), (7, 5), (7, 6), (7, 7)] [] [] [] t (uI (uI (uI (uI t 7 4 0) 7 5 (t.1 29 2)) 7 4 1) 7 5 (t.1 29 4)) := frA_I hfr 7 5 _ rfl
      refine lv_goto (tgt := 72) C.1 C.2.1 dX3_openBody_55 (by decide) ?_
      refine lv_iconst (v := 2) C.1 C.2.1 dX3_openBody_72 (by decide) ?_
      exact g_iret C hr hlocks hP hD hS rfl (uI (uI (uI (uI t 7 4 0) 7 5 (t.1 29 2)) 7 4 1) 7 5 (t.1 29 4)) rfl ⟨hok, hfr, by decide, by decide, (show 2 = 3 ∧ (aW (t.2.2.1 51) 0 13 ∧ (t.2.2.1 51) (sByt 13).length = 32) ∨ 2 = 2 ∧ ¬ (aW (t.2.2.1 51) 0 13 ∧ (t.2.2.1 51) (sByt 13).length = 32) from by first | exact Or.inl ⟨by omega, kyC.mp (by omega)⟩ | exact Or.inr ⟨by omega, fun hq => absurd (kyC.mpr hq) (by omega)⟩)⟩ (Nat.le_of_ble_eq_true rfl) (Nat.le_of_ble_eq_true rfl) dX3_openBody_73
  · replace c_8 : ¬ r_3.toInt = 0 := i_ne c_8
    refine lv_aload_n C.1 C.2.1 dX3_openBody_25 rfl (lv_at hl 0 rfl) ?_
    refine g_Vi (As := []) (rest := []) C hP hD hS hA (T_X3_openData l D K Z Y ad d (uI (uI t 7 4 0) 7 5 (t.1 29 2)) hok ) hE hZ (uwV m_73_22 m_73_23 m_74_0 m_2_17 m_74_1) (hdV 0 (by decide +kernel) rfl) ⟨Nat.le_of_ble_eq_true rfl, Nat.le_of_ble_eq_true rfl⟩ rfl rfl (ci := 2) (q0 := 7) rfl rfl rfl hl.1 (Nat.le_of_ble_eq_true rfl) dX3_openBody_26 ⟨Nat.le_of_ble_eq_true rfl, Nat.le_of_ble_eq_true rfl⟩ (fun r_25 t_24 H locs hw hP hD hS => ?_)
    obtain ⟨hok, f_26, h_27, h_28⟩ := hw
    have hfr : frA [(7, 4), (7, 5), (7, 6), (7, 7)] [] [] [] t t_24 := frA_tr hfr f_26 rfl
    have h_29 : (t_24.1 7 4).toInt = 0 := by rw [show (t_24.1 7 4) = (0 : Int32) from f_26.1 7 4 rfl]; rfl
    have h_30 : (t_24.1 29 2).toInt = (t.1 29 2).toInt := ti_eq (f_26.1 29 2 rfl)
    have h_31 : (t_24.1 7 5).toInt = (t.1 29 2).toInt := ti_eq (f_26.1 7 5 rfl)
    have e_32 : t_24.2.2.1 51 = t.2.2.1 51 := f_26.2.2.1 51 rfl
    exact g_iret C hr hlocks hP hD hS rfl t_24 rfl ⟨hok, hfr, by omega, by omega, (show r_25.toInt = 3 ∧ (aW (t.2.2.1 51) 0 13 ∧ (t.2.2.1 51) (sByt 13).length = 32) ∨ r_25.toInt = 2 ∧ ¬ (aW (t.2.2.1 51) 0 13 ∧ (t.2.2.1 51) (sByt 13).length = 32) from by first | exact Or.inl ⟨by omega, kyC.mp (by omega)⟩ | exact Or.inr ⟨by omega, fun hq => absurd (kyC.mpr hq) (by omega)⟩)⟩ (Nat.le_of_ble_eq_true rfl) (Nat.le_of_ble_eq_true rfl) dX3_openBody_29

set_option maxHeartbeats 4000000 in
set_option maxRecDepth 100000 in
theorem U_X3_seek (l : Launch) (D : va_G) (K : Nat → ClassId) (Z Y : Nat → Nat) (ad : Nat → Nat) (d : dSt) (t : tSt) (hok : okX t)  : tMet l yX3_seek cX3_seek 3 (some .boolean) (rmD 7 0 0) D K Z Y [.ref (ad 7)] ((WX d) K ad t) (QI D K (fun (r : Int32) (u : tSt) => okX u ∧ frA [(7, 2), (7, 3), (7, 4), (7, 5), (7, 6), (7, 7), (7, 8), (29, 2), (29, 3), (29, 4), (29, 5)] [] [30, 51] [] t u ∧ (0 : Int) ≤ r.toInt ∧ r.toInt ≤ 1 ∧ (r.toInt = 1 → cc (t.2.2.1 1) ((t.1 29 7).toInt).toNat ((t.1 29 4).toInt).toNat 0 = 1 + cc (t.2.2.1 1) ((t.1 29 7).toInt).toNat ((u.1 29 4).toInt).toNat 0) ∧ (r.toInt = 0 → cc (t.2.2.1 1) ((t.1 29 7).toInt).toNat ((t.1 29 4).toInt).toNat 0 = 0) ∧ (0 ≤ (u.1 29 4).toInt)) (fun (u : tSt) => (WX d) K ad u)) 0 0 := by
  refine t_met RX3 ⟨rfl, by decide +kernel⟩ (Nat.le_of_ble_eq_true rfl) ?_
  intro p e s m below meth c A ls C hE hZ hr hlocks hA hP hD hS hl
  have hl : lv_has ls 3 [(0, .ref (ad 7))] := hl
  have hokt := hok
  have hfr : frA [(7, 2), (7, 3), (7, 4), (7, 5), (7, 6), (7, 7), (7, 8), (29, 2), (29, 3), (29, 4), (29, 5)] [] [30, 51] [] t t := frA_rf
  have h_1 : (0 : Int) ≤ (t.1 29 2).toInt ∧ (t.1 29 2).toInt ≤ 1280 := hok.1 29 2
  have h_2 : (0 : Int) ≤ (t.1 29 4).toInt ∧ (t.1 29 4).toInt ≤ 1281 := hok.1 29 4
  have h_3 : (0 : Int) ≤ (t.1 29 7).toInt ∧ (t.1 29 7).toInt ≤ 1280 := hok.1 29 7
  have L_4 : ∀ (fuel_4 : Nat) (t1 : tSt) (w4_1 : Int32) (w4_2 : Int32) (H : Heap) (locs : List Loc) (ls : Array Slot), okX t1 → frA [(7, 2), (7, 3), (7, 4), (7, 5), (7, 6), (7, 7), (7, 8), (29, 2), (29, 3), (29, 4), (29, 5)] [] [30, 51] [] t t1 → (0 : Int) ≤ w4_1.toInt ∧ w4_1.toInt ≤ 3 → (0 : Int) ≤ w4_2.toInt ∧ w4_2.toInt ≤ 32399 → (cc (t.2.2.1 1) ((t.1 29 7).toInt).toNat ((t.1 29 4).toInt).toNat 0 = cc (t.2.2.1 1) ((t.1 29 7).toInt).toNat ((t1.1 29 4).toInt).toNat (w4_1.toInt : Int).toNat) → (0 ≤ w4_1.toInt) → (w4_1.toInt ≤ 3) → (0 ≤ w4_2.toInt) → (w4_2.toInt ≤ (t1.1 29 4).toInt) → ((t1.1 29 7).toInt = (t.1 29 7).toInt) → (32399 : Int) - w4_2.toInt < (fuel_4 : Int) → va_P D vwCl ((WX d) K ad t1) H → va_D A ((WX d) K ad t1) → va_S A s.heap H locs → lv_has ls 3 [(0, .ref (ad 7)), (1, .int w4_1), (2, .int w4_2)] → W p l e (rmD 7 0 0) s m [.ref (ad 7)].toArray below meth c H locs 0 0 (MQ below (QI D K (fun (r : Int32) (u : tSt) => okX u ∧ frA [(7, 2), (7, 3), (7, 4), (7, 5), (7, 6), (7, 7), (7, 8), (29, 2), (29, 3), (29, 4), (29, 5)] [] [30, 51] [] t u ∧ (0 : Int) ≤ r.toInt ∧ r.toInt ≤ 1 ∧ (r.toInt = 1 → cc (t.2.2.1 1) ((t.1 29 7).toInt).toNat ((t.1 29 4).toInt).toNat 0 = 1 + cc (t.2.2.1 1) ((t.1 29 7).toInt).toNat ((u.1 29 4).toInt).toNat 0) ∧ (r.toInt = 0 → cc (t.2.2.1 1) ((t.1 29 7).toInt).toNat ((t.1 29 4).toInt).toNat 0 = 0) ∧ (0 ≤ (u.1 29 4).toInt)) (fun (u : tSt) => (WX d) K ad u) A) [.ref (ad 7)].toArray s 0 0 A) (F0 m 4 ls []) := by
    intro fuel_4
    induction fuel_4 with
    | zero =>
      intro t1 w4_1 w4_2 H locs ls hok hfr hw4_1 hw4_2 hi4_0 hi4_1 hi4_2 hi4_3 hi4_4 hi4_5 hm4_4 hP hD hS hl
      have h_4 : (t1.1 29 7).toInt = (t.1 29 7).toInt := ti_eq (hfr.1 29 7 rfl)
      have e_5 : t1.2.2.1 1 = t.2.2.1 1 := hfr.2.2.1 1 rfl
      have h_6 : (0 : Int) ≤ (t1.1 29 2).toInt ∧ (t1.1 29 2).toInt ≤ 1280 := hok.1 29 2
      have h_7 : (0 : Int) ≤ (t1.1 29 4).toInt ∧ (t1.1 29 4).toInt ≤ 1281 := hok.1 29 4
      have h_8 : (0 : Int) ≤ (t1.1 29 7).toInt ∧ (t1.1 29 7).toInt ≤ 1280 := hok.1 29 7
      exact absurd hm4_4 (by omega)
    | succ fuel_4 ih_4 =>
      intro t1 w4_1 w4_2 H locs ls hok hfr hw4_1 hw4_2 hi4_0 hi4_1 hi4_2 hi4_3 hi4_4 hi4_5 hm4_4 hP hD hS hl
      have hm4_4 : (32399 : Int) - w4_2.toInt < (fuel_4 : Int) + 1 := by omega
      have h_9 : (t1.1 29 7).toInt = (t.1 29 7).toInt := ti_eq (hfr.1 29 7 rfl)
      have e_10 : t1.2.2.1 1 = t.2.2.1 1 := hfr.2.2.1 1 rfl
      have h_11 : (0 : Int) ≤ (t1.1 29 2).toInt ∧ (t1.1 29 2).toInt ≤ 1280 := hok.1 29 2
      have h_12 : (0 : Int) ≤ (t1.1 29 4).toInt ∧ (t1.1 29 4).toInt ≤ 1281 := hok.1 29 4
      have h_13 : (0 : Int) ≤ (t1.1 29 7).toInt ∧ (t1.1 29 7).toInt ≤ 1280 := hok.1 29 7
      have L_95 : ∀ (t1 : tSt) (w95_1 : Int32) (w95_2 : Int32) (H : Heap) (locs : List Loc) (ls : Array Slot), okX t1 → frA [(7, 2), (7, 3), (7, 4), (7, 5), (7, 6), (7, 7), (7, 8), (29, 2), (29, 3), (29, 4), (29, 5)] [] [30, 51] [] t t1 → (0 : Int) ≤ w95_1.toInt ∧ w95_1.toInt ≤ 3 → (0 : Int) ≤ w95_2.toInt ∧ w95_2.toInt ≤ 8192 → (cc (t.2.2.1 1) ((t.1 29 7).toInt).toNat ((t.1 29 4).toInt).toNat 0 = cc (t.2.2.1 1) ((t.1 29 7).toInt).toNat ((t1.1 29 4).toInt).toNat (w95_1.toInt : Int).toNat) → (0 ≤ w95_1.toInt) → (w95_1.toInt ≤ 3) → (0 ≤ w95_2.toInt) → (w95_2.toInt + 1 ≤ (t1.1 29 4).toInt) → ((t1.1 29 7).toInt = (t.1 29 7).toInt) → (32399 : Int) - w95_2.toInt < (fuel_4 : Int) + 1 → va_P D vwCl ((WX d) K ad t1) H → va_D A ((WX d) K ad t1) → va_S A s.heap H locs → lv_has ls 3 [(0, .ref (ad 7)), (1, .int w95_1), (2, .int w95_2)] → W p l e (rmD 7 0 0) s m [.ref (ad 7)].toArray below meth c H locs 0 0 (MQ below (QI D K (fun (r : Int32) (u : tSt) => okX u ∧ frA [(7, 2), (7, 3), (7, 4), (7, 5), (7, 6), (7, 7), (7, 8), (29, 2), (29, 3), (29, 4), (29, 5)] [] [30, 51] [] t u ∧ (0 : Int) ≤ r.toInt ∧ r.toInt ≤ 1 ∧ (r.toInt = 1 → cc (t.2.2.1 1) ((t.1 29 7).toInt).toNat ((t.1 29 4).toInt).toNat 0 = 1 + cc (t.2.2.1 1) ((t.1 29 7).toInt).toNat ((u.1 29 4).toInt).toNat 0) ∧ (r.toInt = 0 → cc (t.2.2.1 1) ((t.1 29 7).toInt).toNat ((t.1 29 4).toInt).toNat 0 = 0) ∧ (0 ≤ (u.1 29 4).toInt)) (fun (u : tSt) => (WX d) K ad u) A) [.ref (ad 7)].toArray s 0 0 A) (F0 m 95 ls []) := by
        intro t1 w95_1 w95_2 H locs ls hok hfr hw95_1 hw95_2 hi95_0 hi95_1 hi95_2 hi95_3 hi95_4 hi95_5 hm95_4 hP hD hS hl
        have h_14 : (t1.1 29 7).toInt = (t.1 29 7).toInt := ti_eq (hfr.1 29 7 rfl)
        have e_15 : t1.2.2.1 1 = t.2.2.1 1 := hfr.2.2.1 1 rfl
        have h_16 : (0 : Int) ≤ (t1.1 29 2).toInt ∧ (t1.1 29 2).toInt ≤ 1280 := hok.1 29 2
        have h_17 : (0 : Int) ≤ (t1.1 29 4).toInt ∧ (t1.1 29 4).toInt ≤ 1281 := hok.1 29 4
        have h_18 : (0 : Int) ≤ (t1.1 29 7).toInt ∧ (t1.1 29 7).toInt ≤ 1280 := hok.1 29 7
        obtain ⟨v_19, e_20⟩ : ∃ z, z = w95_2 + 1 := ⟨_, rfl⟩
        have h_21 : v_19.toInt = w95_2.toInt + 1 := by rw [e_20]; exact ti_iadd (by show (_ : Int) ≤ w95_2.toInt + 1; omega) (by show w95_2.toInt + 1 < (_ : Int); omega)
        refine lv_iinc (v := v_19) (lv' := [(2, .int v_19), (0, .ref (ad 7)), (1, .int w95_1)]) C.1 C.2.1 dX3_seek_95 hl (k := 2) rfl e_20.symm (by decide) rfl (fun ls hl => ?_)
        have hl : lv_has ls 3 [(0, .ref (ad 7)), (1, .int w95_1), (2, .int v_19)] := lv_sub hl [1, 2, 0] rfl
        refine lv_goto (tgt := 4) C.1 C.2.1 dX3_seek_98 (by decide) ?_
        exact ih_4 t1 w95_1 v_19 _ _ _ hok hfr ⟨by omega, by omega⟩ ⟨by omega, by omega⟩ (show cc (t.2.2.1 1) ((t.1 29 7).toInt).toNat ((t.1 29 4).toInt).toNat 0 = cc (t.2.2.1 1) ((t.1 29 7).toInt).toNat ((t1.1 29 4).toInt).toNat (w95_1.toInt : Int).toNat from by first | rfl | exact hi95_0) (show 0 ≤ w95_1.toInt from by omega) (show w95_1.toInt ≤ 3 from by omega) (show 0 ≤ v_19.toInt from by omega) (show v_19.toInt ≤ (t1.1 29 4).toInt from by omega) (show (t1.1 29 7).toInt = (t.1 29 7).toInt from by omega) (show (32399 : Int) - v_19.toInt < (fuel_4 : Int) from by omega) hP hD hS (lv_sub hl [0, 1, 2] rfl)
      have hby := e_10
      refine lv_iload_n C.1 C.2.1 dX3_seek_4 rfl (lv_at hl 2 rfl) ?_
      refine lv_sipush (v := 8192) C.1 C.2.1 dX3_seek_5 (by decide) ?_
      refine lv_icmp_gt (tgt := 101) C.1 C.2.1 dX3_seek_8 (by decide) (fun c_22 => ?_) (fun c_22 => ?_)
      · replace c_22 : 8192 < w4_2.toInt := i_lt c_22
        refine lv_iconst (v := 0) C.1 C.2.1 dX3_seek_101 (by decide) ?_
        exact g_iret C hr hlocks hP hD hS (by decide) t1 rfl ⟨hok, hfr, by decide, by decide, (show 0 = 1 → cc (t.2.2.1 1) ((t.1 29 7).toInt).toNat ((t.1 29 4).toInt).toNat 0 = 1 + cc (t.2.2.1 1) ((t.1 29 7).toInt).toNat ((t1.1 29 4).toInt).toNat 0 from by intro hz; first | exact absurd hz (by decide) | exact sk_fin hi4_0 (by omega) (hv1 (by omega)).1 (by have hq := (hv1 (by omega)).2.1; omega) (hv2 (by omega)) hj (by omega) (by omega) (hce.mp (by omega))), (show 0 = 0 → cc (t.2.2.1 1) ((t.1 29 7).toInt).toNat ((t.1 29 4).toInt).toNat 0 = 0 from by intro hz; first | exact absurd hz (by decide) | exact sk_none hi4_0 (hv0 (by omega)) | (exfalso; omega)), (show 0 ≤ (t1.1 29 4).toInt from by omega)⟩ (Nat.le_of_ble_eq_true rfl) (Nat.le_of_ble_eq_true rfl) dX3_seek_102
      · replace c_22 : w4_2.toInt ≤ 8192 := i_nlt c_22
        refine lv_aload_n C.1 C.2.1 dX3_seek_11 rfl (lv_at hl 0 rfl) ?_
        refine k_get (v := .ref (ad 29)) C hP 7 rfl rfl inlX3 0 (by decide) m_6_23 rfl dX3_seek_12 ?_
        refine g_Vi (As := []) (rest := []) C hP hD hS hA (U_X9_advance l D K Z Y ad d t1 hok ) hE hZ (uwV m_71_18 m_13_19 m_13_20 m_1_17 m_13_21) (hdV 0 (by decide +kernel) rfl) ⟨Nat.le_of_ble_eq_true rfl, Nat.le_of_ble_eq_true rfl⟩ rfl rfl (ci := 8) (q0 := 29) rfl rfl rfl hl.1 (Nat.le_of_ble_eq_true rfl) dX3_seek_15 ⟨Nat.le_of_ble_eq_true rfl, Nat.le_of_ble_eq_true rfl⟩ (fun r_24 t_23 H locs hw hP hD hS => ?_)
        obtain ⟨hok, f_25, h_26, h_27, p_28, p_29, p_30, p_31⟩ := hw
        have hfr : frA [(7, 2), (7, 3), (7, 4), (7, 5), (7, 6), (7, 7), (7, 8), (29, 2), (29, 3), (29, 4), (29, 5)] [] [30, 51] [] t t_23 := frA_tr hfr f_25 rfl
        have h_32 : (t_23.1 29 7).toInt = (t1.1 29 7).toInt := ti_eq (f_25.1 29 7 rfl)
        have e_33 : t_23.2.2.1 1 = t.2.2.1 1 := (f_25.2.2.1 1 rfl).trans (e_10)
        have h_34 : (0 : Int) ≤ (t_23.1 29 2).toInt ∧ (t_23.1 29 2).toInt ≤ 1280 := hok.1 29 2
        have h_35 : (0 : Int) ≤ (t_23.1 29 4).toInt ∧ (t_23.1 29 4).toInt ≤ 1281 := hok.1 29 4
        have h_36 : (0 : Int) ≤ (t_23.1 29 7).toInt ∧ (t_23.1 29 7).toInt ≤ 1280 := hok.1 29 7
        replace p_28 : r_24.toInt = 0 → (t1.1 29 7).toInt ≤ (t1.1 29 4).toInt := p_28
        replace p_29 : r_24.toInt = 1 → (t1.1 29 4).toInt < (t1.1 29 7).toInt ∧ (t_23.1 29 4).toInt = ((lE (t1.2.2.1 1) ((t1.1 29 7).toInt).toNat ((t1.1 29 4).toInt).toNat : Nat) : Int) + 1 ∧ (t_23.1 29 2).toInt = (t1.1 29 4).toInt := p_29
        replace p_30 : r_24.toInt = 1 → gR (t_23.2.2.1 51) = gT (t1.2.2.1 1) ((t1.1 29 4).toInt).toNat (lE (t1.2.2.1 1) ((t1.1 29 7).toInt).toNat ((t1.1 29 4).toInt).toNat) := p_30
        replace p_31 : r_24.toInt = 1 → (t1.1 29 4).toInt + 1 ≤ (t_23.1 29 4).toInt ∧ (t_23.1 29 4).toInt ≤ 1281 := p_31
        have hv0 := p_28
        have hv1 := p_29
        have hv2 := p_30
        have hv3 := p_31
        rw [hi4_5] at hv0 hv1 hv2
        rw [hby] at hv1 hv2
        refine lv_if_eq (tgt := 101) C.1 C.2.1 dX3_seek_18 (by decide) (fun c_37 => ?_) (fun c_37 => ?_)
        · replace c_37 : r_24.toInt = 0 := i_eq c_37
          refine lv_iconst (v := 0) C.1 C.2.1 dX3_seek_101 (by decide) ?_
          exact g_iret C hr hlocks hP hD hS (by decide) t_23 rfl ⟨hok, hfr, by decide, by decide, (show 0 = 1 → cc (t.2.2.1 1) ((t.1 29 7).toInt).toNat ((t.1 29 4).toInt).toNat 0 = 1 + cc (t.2.2.1 1) ((t.1 29 7).toInt).toNat ((t_23.1 29 4).toInt).toNat 0 from by intro hz; first | exact absurd hz (by decide) | exact sk_fin hi4_0 (by omega) (hv1 (by omega)).1 (by have hq := (hv1 (by omega)).2.1; omega) (hv2 (by omega)) hj (by omega) (by omega) (hce.mp (by omega))), (show 0 = 0 → cc (t.2.2.1 1) ((t.1 29 7).toInt).toNat ((t.1 29 4).toInt).toNat 0 = 0 from by intro hz; first | exact absurd hz (by decide) | exact sk_none hi4_0 (hv0 (by omega)) | (exfalso; omega)), (show 0 ≤ (t_23.1 29 4).toInt from by omega)⟩ (Nat.le_of_ble_eq_true rfl) (Nat.le_of_ble_eq_true rfl) dX3_seek_102
        · replace c_37 : ¬ r_24.toInt = 0 := i_ne c_37
          refine lv_aload_n C.1 C.2.1 dX3_seek_21 rfl (lv_at hl 0 rfl) ?_
          refine g_Vi (As := []) (rest := []) C hP hD hS hA (U_X3_isJob l D K Z Y ad d t_23 hok ) hE hZ (uwV m_71_19 m_71_20 m_71_21 m_2_17 m_71_22) (hdV 0 (by decide +kernel) rfl) ⟨Nat.le_of_ble_eq_true rfl, Nat.le_of_ble_eq_true rfl⟩ rfl rfl (ci := 2) (q0 := 7) rfl rfl rfl hl.1 (Nat.le_of_ble_eq_true rfl) dX3_seek_22 ⟨Nat.le_of_ble_eq_true rfl, Nat.le_of_ble_eq_true rfl⟩ (fun r_39 t_38 H locs hw hP hD hS => ?_)
          obtain ⟨hok, f_40, h_41, h_42, p_43⟩ := hw
          have hfr : frA [(7, 2), (7, 3), (7, 4), (7, 5), (7, 6), (7, 7), (7, 8), (29, 2), (29, 3), (29, 4), (29, 5)] [] [30, 51] [] t t_38 := frA_tr hfr f_40 rfl
          have h_44 : (t_38.1 29 2).toInt = (t_23.1 29 2).toInt := ti_eq (f_40.1 29 2 rfl)
          have h_45 : (t_38.1 29 4).toInt = (t_23.1 29 4).toInt := ti_eq (f_40.1 29 4 rfl)
          have h_46 : (t_38.1 29 7).toInt = (t_23.1 29 7).toInt := ti_eq (f_40.1 29 7 rfl)
          have e_47 : t_38.2.2.1 1 = t.2.2.1 1 := (f_40.2.2.1 1 rfl).trans (e_33)
          have e_48 : t_38.2.2.1 51 = t_23.2.2.1 51 := f_40.2.2.1 51 rfl
          have h_49 : (0 : Int) ≤ (t_38.1 29 2).toInt ∧ (t_38.1 29 2).toInt ≤ 1280 := hok.1 29 2
          have h_50 : (0 : Int) ≤ (t_38.1 29 4).toInt ∧ (t_38.1 29 4).toInt ≤ 1281 := hok.1 29 4
          have h_51 : (0 : Int) ≤ (t_38.1 29 7).toInt ∧ (t_38.1 29 7).toInt ≤ 1280 := hok.1 29 7
          replace p_43 : r_39.toInt = 1 ↔ jOK (gR (t_23.2.2.1 51)) := p_43
          have hj := p_43
          have hrw := e_48
          refine lv_if_eq (tgt := 33) C.1 C.2.1 dX3_seek_25 (by decide) (fun c_52 => ?_) (fun c_52 => ?_)
          · replace c_52 : r_39.toInt = 0 := i_eq c_52
            refine lv_iload_n C.1 C.2.1 dX3_seek_33 rfl (lv_at hl 1 rfl) ?_
            refine lv_iconst (v := 1) C.1 C.2.1 dX3_seek_34 (by decide) ?_
            refine lv_icmp_ne (tgt := 46) C.1 C.2.1 dX3_seek_35 (by decide) (fun c_53 => ?_) (fun c_53 => ?_)
            · replace c_53 : ¬ w4_1.toInt = 1 := i_ne c_53
              refine lv_iload_n C.1 C.2.1 dX3_seek_46 rfl (lv_at hl 1 rfl) ?_
              refine lv_iconst (v := 2) C.1 C.2.1 dX3_seek_47 (by decide) ?_
              refine lv_icmp_ne (tgt := 68) C.1 C.2.1 dX3_seek_48 (by decide) (fun c_54 => ?_) (fun c_54 => ?_)
              · replace c_54 : ¬ w4_1.toInt = 2 := i_ne c_54
                refine lv_iload_n C.1 C.2.1 dX3_seek_68 rfl (lv_at hl 1 rfl) ?_
                refine lv_iconst (v := 3) C.1 C.2.1 dX3_seek_69 (by decide) ?_
                refine lv_icmp_ne (tgt := 95) C.1 C.2.1 dX3_seek_70 (by decide) (fun c_55 => ?_) (fun c_55 => ?_)
                · replace c_55 : ¬ w4_1.toInt = 3 := i_ne c_55
                  exact L_95 t_38 w4_1 w4_2 _ _ _ hok hfr ⟨by omega, by omega⟩ ⟨by omega, by omega⟩ (show cc (t.2.2.1 1) ((t.1 29 7).toInt).toNat ((t.1 29 4).toInt).toNat 0 = cc (t.2.2.1 1) ((t.1 29 7).toInt).toNat ((t_38.1 29 4).toInt).toNat (w4_1.toInt : Int).toNat from by first | exact sk_job hi4_0 (by omega) (hv1 (by omega)).1 (by have hq := (hv1 (by omega)).2.1; omega) (hv2 (by omega)) hj (by omega) | exact sk_body hi4_0 (by omega) (hv1 (by omega)).1 (by have hq := (hv1 (by omega)).2.1; omega) (hv2 (by omega)) hj (by omega) (by omega) hb | exact sk_data hi4_0 (by omega) (hv1 (by omega)).1 (by have hq := (hv1 (by omega)).2.1; omega) (hv2 (by omega)) hj (by omega) (by omega) (hc.mp (by omega)) (by omega) | exact sk_keep hi4_0 (by omega) (hv1 (by omega)).1 (by have hq := (hv1 (by omega)).2.1; omega) (hv2 (by omega)) hj (by omega) (by omega) (by omega) (fun e => by first | (exfalso; omega) | exact fun z => absurd (hc.mpr z) (by omega)) (fun e => by first | (exfalso; omega) | exact fun z => absurd (hce.mpr z) (by omega))) (show 0 ≤ w4_1.toInt from by omega) (show w4_1.toInt ≤ 3 from by omega) (show 0 ≤ w4_2.toInt from by omega) (show w4_2.toInt + 1 ≤ (t_38.1 29 4).toInt from by omega) (show (t_38.1 29 7).toInt = (t.1 29 7).toInt from by omega) (show (32399 : Int) - w4_2.toInt < (fuel_4 : Int) + 1 from by omega) hP hD hS (lv_sub hl [0, 1, 2] rfl)
                · replace c_55 : w4_1.toInt = 3 := i_eq c_55
                  refine lv_aload_n C.1 C.2.1 dX3_seek_73 rfl (lv_at hl 0 rfl) ?_
                  refine va_ldcS C.1 C.2.1 C.2.2.2.1 (hE.2 16 (by decide)) dX3_seek_74 ?_
                  refine g_Vi (As := [.ref (Z 16)]) (rest := []) C hP hD hS hA (U_X3_isCard l D K Z Y ad d t_38 hok (16) (show sS 16 from ⟨by decide, by decide, by decide⟩)) hE hZ (uwV m_73_18 m_73_19 m_73_20 m_2_17 m_73_21) (hdV 1 (by decide +kernel) rfl) ⟨Nat.le_of_ble_eq_true rfl, Nat.le_of_ble_eq_true rfl⟩ rfl rfl (ci := 2) (q0 := 7) rfl rfl rfl hl.1 (Nat.le_of_ble_eq_true rfl) dX3_seek_76 ⟨Nat.le_of_ble_eq_true rfl, Nat.le_of_ble_eq_true rfl⟩ (fun r_57 t_56 H locs hw hP hD hS => ?_)
                  obtain ⟨h_59, h_60, p_61⟩ := hw
                  replace p_61 : r_57.toInt = 1 ↔ (aW (t_38.2.2.1 51) 0 16 ∧ (t_38.2.2.1 51) (sByt 16).length = 32) := p_61
                  have hce := p_61
                  rw [hrw] at hce
                  refine lv_if_eq (tgt := 95) C.1 C.2.1 dX3_seek_79 (by decide) (fun c_62 => ?_) (fun c_62 => ?_)
                  · replace c_62 : r_57.toInt = 0 := i_eq c_62
                    exact L_95 t_38 w4_1 w4_2 _ _ _ hok hfr ⟨by omega, by omega⟩ ⟨by omega, by omega⟩ (show cc (t.2.2.1 1) ((t.1 29 7).toInt).toNat ((t.1 29 4).toInt).toNat 0 = cc (t.2.2.1 1) ((t.1 29 7).toInt).toNat ((t_38.1 29 4).toInt).toNat (w4_1.toInt : Int).toNat from by first | exact sk_job hi4_0 (by omega) (hv1 (by omega)).1 (by have hq := (hv1 (by omega)).2.1; omega) (hv2 (by omega)) hj (by omega) | exact sk_body hi4_0 (by omega) (hv1 (by omega)).1 (by have hq := (hv1 (by omega)).2.1; omega) (hv2 (by omega)) hj (by omega) (by omega) hb | exact sk_data hi4_0 (by omega) (hv1 (by omega)).1 (by have hq := (hv1 (by omega)).2.1; omega) (hv2 (by omega)) hj (by omega) (by omega) (hc.mp (by omega)) (by omega) | exact sk_keep hi4_0 (by omega) (hv1 (by omega)).1 (by have hq := (hv1 (by omega)).2.1; omega) (hv2 (by omega)) hj (by omega) (by omega) (by omega) (fun e => by first | (exfalso; omega) | exact fun z => absurd (hc.mpr z) (by omega)) (fun e => by first | (exfalso; omega) | exact fun z => absurd (hce.mpr z) (by omega))) (show 0 ≤ w4_1.toInt from by omega) (show w4_1.toInt ≤ 3 from by omega) (show 0 ≤ w4_2.toInt from by omega) (show w4_2.toInt + 1 ≤ (t_38.1 29 4).toInt from by omega) (show (t_38.1 29 7).toInt = (t.1 29 7).toInt from by omega) (show (32399 : Int) - w4_2.toInt < (fuel_4 : Int) + 1 from by omega) hP hD hS (lv_sub hl [0, 1, 2] rfl)
                  · replace c_62 : ¬ r_57.toInt = 0 := i_ne c_62
                    refine lv_aload_n C.1 C.2.1 dX3_seek_82 rfl (lv_at hl 0 rfl) ?_
                    refine lv_aload_n C.1 C.2.1 dX3_seek_83 rfl (lv_at hl 0 rfl) ?_
                    refine k_get (v := .ref (ad 29)) C hP 7 rfl rfl inlX3 0 (by decide) m_6_23 rfl dX3_seek_84 ?_
                    refine k_get (v := .int (t_38.1 29 2)) C hP 29 rfl rfl inlX9 2 (by decide) m_71_16 rfl dX3_seek_87 ?_
                    refine k_put (ws' := (WX d) K ad (uI t_38 7 8 (t_38.1 29 2))) (v := .int (t_38.1 29 2)) C hP hD hS 7 rfl rfl inlX3 tyX3_ok nmX3 8 (by decide) m_71_17 rfl rfl rfl rfl rfl dX3_seek_90 (fun H locs hP hD hS => ?_)
                    have hok : okX (uI t_38 7 8 (t_38.1 29 2)) := ⟨okI_I hok.1 7 8 (t_38.1 29 2) (show (0 : Int) ≤ ((t_38.1 29 2) : Int32).toInt ∧ ((t_38.1 29 2) : Int32).toInt ≤ 1280 from ⟨by omega, by omega⟩), hok.2.1, trivial⟩
                    have hfr : frA [(7, 2), (7, 3), (7, 4), (7, 5), (7, 6), (7, 7), (7, 8), (29, 2), (29, 3), (29, 4), (29, 5)] [] [30, 51] [] t (uI t_38 7 8 (t_38.1 29 2)) := frA_I hfr 7 8 _ rfl
                    refine lv_iconst (v := 1) C.1 C.2.1 dX3_seek_93 (by decide) ?_
                    exact g_iret C hr hlocks hP hD hS (by decide) (uI t_38 7 8 (t_38.1 29 2)) rfl ⟨hok, hfr, by decide, by decide, (show 1 = 1 → cc (t.2.2.1 1) ((t.1 29 7).toInt).toNat ((t.1 29 4).toInt).toNat 0 = 1 + cc (t.2.2.1 1) ((t.1 29 7).toInt).toNat ((t_38.1 29 4).toInt).toNat 0 from by intro hz; first | exact absurd hz (by decide) | exact sk_fin hi4_0 (by omega) (hv1 (by omega)).1 (by have hq := (hv1 (by omega)).2.1; omega) (hv2 (by omega)) hj (by omega) (by omega) (hce.mp (by omega))), (show 1 = 0 → cc (t.2.2.1 1) ((t.1 29 7).toInt).toNat ((t.1 29 4).toInt).toNat 0 = 0 from by intro hz; first | exact absurd hz (by decide) | exact sk_none hi4_0 (hv0 (by omega)) | (exfalso; omega)), (show 0 ≤ (t_38.1 29 4).toInt from by omega)⟩ (Nat.le_of_ble_eq_true rfl) (Nat.le_of_ble_eq_true rfl) dX3_seek_94
              · replace c_54 : w4_1.toInt = 2 := i_eq c_54
                refine lv_aload_n C.1 C.2.1 dX3_seek_51 rfl (lv_at hl 0 rfl) ?_
                refine va_ldcS C.1 C.2.1 C.2.2.2.1 (hE.2 13 (by decide)) dX3_seek_52 ?_
                refine g_Vi (As := [.ref (Z 13)]) (rest := []) C hP hD hS hA (U_X3_isCard l D K Z Y ad d t_38 hok (13) (show sS 13 from ⟨by decide, by decide, by decide⟩)) hE hZ (uwV m_73_18 m_73_19 m_73_20 m_2_17 m_73_21) (hdV 1 (by decide +kernel) rfl) ⟨Nat.le_of_ble_eq_true rfl, Nat.le_of_ble_eq_true rfl⟩ rfl rfl (ci := 2) (q0 := 7) rfl rfl rfl hl.1 (Nat.le_of_ble_eq_true rfl) dX3_seek_54 ⟨Nat.le_of_ble_eq_true rfl, Nat.le_of_ble_eq_true rfl⟩ (fun r_64 t_63 H locs hw hP hD hS => ?_)
                obtain ⟨h_66, h_67, p_68⟩ := hw
                replace p_68 : r_64.toInt = 1 ↔ (aW (t_38.2.2.1 51) 0 13 ∧ (t_38.2.2.1 51) (sByt 13).length = 32) := p_68
                have hc := p_68
                rw [hrw] at hc
                refine lv_if_eq (tgt := 68) C.1 C.2.1 dX3_seek_57 (by decide) (fun c_69 => ?_) (fun c_69 => ?_)
                · replace c_69 : r_64.toInt = 0 := i_eq c_69
                  refine lv_iload_n C.1 C.2.1 dX3_seek_68 rfl (lv_at hl 1 rfl) ?_
                  refine lv_iconst (v := 3) C.1 C.2.1 dX3_seek_69 (by decide) ?_
                  refine lv_icmp_ne (tgt := 95) C.1 C.2.1 dX3_seek_70 (by decide) (fun c_70 => ?_) (fun c_70 => False.elim (by have c_70 : w4_1.toInt = 3 := i_eq c_70; omega))
                  replace c_70 : ¬ w4_1.toInt = 3 := i_ne c_70
                  exact L_95 t_38 w4_1 w4_2 _ _ _ hok hfr ⟨by omega, by omega⟩ ⟨by omega, by omega⟩ (show cc (t.2.2.1 1) ((t.1 29 7).toInt).toNat ((t.1 29 4).toInt).toNat 0 = cc (t.2.2.1 1) ((t.1 29 7).toInt).toNat ((t_38.1 29 4).toInt).toNat (w4_1.toInt : Int).toNat from by first | exact sk_job hi4_0 (by omega) (hv1 (by omega)).1 (by have hq := (hv1 (by omega)).2.1; omega) (hv2 (by omega)) hj (by omega) | exact sk_body hi4_0 (by omega) (hv1 (by omega)).1 (by have hq := (hv1 (by omega)).2.1; omega) (hv2 (by omega)) hj (by omega) (by omega) hb | exact sk_data hi4_0 (by omega) (hv1 (by omega)).1 (by have hq := (hv1 (by omega)).2.1; omega) (hv2 (by omega)) hj (by omega) (by omega) (hc.mp (by omega)) (by omega) | exact sk_keep hi4_0 (by omega) (hv1 (by omega)).1 (by have hq := (hv1 (by omega)).2.1; omega) (hv2 (by omega)) hj (by omega) (by omega) (by omega) (fun e => by first | (exfalso; omega) | exact fun z => absurd (hc.mpr z) (by omega)) (fun e => by first | (exfalso; omega) | exact fun z => absurd (hce.mpr z) (by omega))) (show 0 ≤ w4_1.toInt from by omega) (show w4_1.toInt ≤ 3 from by omega) (show 0 ≤ w4_2.toInt from by omega) (show w4_2.toInt + 1 ≤ (t_38.1 29 4).toInt from by omega) (show (t_38.1 29 7).toInt = (t.1 29 7).toInt from by omega) (show (32399 : Int) - w4_2.toInt < (fuel_4 : Int) + 1 from by omega) hP hD hS (lv_sub hl [0, 1, 2] rfl)
                · replace c_69 : ¬ r_64.toInt = 0 := i_ne c_69
                  refine lv_aload_n C.1 C.2.1 dX3_seek_60 rfl (lv_at hl 0 rfl) ?_
                  refine g_Vi (As := []) (rest := []) C hP hD hS hA (T_X3_openData l D K Z Y ad d t_38 hok ) hE hZ (uwV m_73_22 m_73_23 m_74_0 m_2_17 m_74_1) (hdV 0 (by decide +kernel) rfl) ⟨Nat.le_of_ble_eq_true rfl, Nat.le_of_ble_eq_true rfl⟩ rfl rfl (ci := 2) (q0 := 7) rfl rfl rfl hl.1 (Nat.le_of_ble_eq_true rfl) dX3_seek_61 ⟨Nat.le_of_ble_eq_true rfl, Nat.le_of_ble_eq_true rfl⟩ (fun r_72 t_71 H locs hw hP hD hS => ?_)
                  obtain ⟨hok, f_73, h_74, h_75⟩ := hw
                  have hfr : frA [(7, 2), (7, 3), (7, 4), (7, 5), (7, 6), (7, 7), (7, 8), (29, 2), (29, 3), (29, 4), (29, 5)] [] [30, 51] [] t t_71 := frA_tr hfr f_73 rfl
                  have h_76 : (t_71.1 29 2).toInt = (t_38.1 29 2).toInt := ti_eq (f_73.1 29 2 rfl)
                  have h_77 : (t_71.1 29 4).toInt = (t_38.1 29 4).toInt := ti_eq (f_73.1 29 4 rfl)
                  have h_78 : (t_71.1 29 7).toInt = (t_38.1 29 7).toInt := ti_eq (f_73.1 29 7 rfl)
                  have e_79 : t_71.2.2.1 1 = t.2.2.1 1 := (f_73.2.2.1 1 rfl).trans (e_47)
                  have e_80 : t_71.2.2.1 51 = t_23.2.2.1 51 := (f_73.2.2.1 51 rfl).trans (e_48)
                  have h_81 : (0 : Int) ≤ (t_71.1 29 2).toInt ∧ (t_71.1 29 2).toInt ≤ 1280 := hok.1 29 2
                  have h_82 : (0 : Int) ≤ (t_71.1 29 4).toInt ∧ (t_71.1 29 4).toInt ≤ 1281 := hok.1 29 4
                  have h_83 : (0 : Int) ≤ (t_71.1 29 7).toInt ∧ (t_71.1 29 7).toInt ≤ 1280 := hok.1 29 7
                  refine lv_istore_n (lv' := [(1, .int r_72), (0, .ref (ad 7)), (2, .int w4_2)]) C.1 C.2.1 dX3_seek_64 rfl hl (by decide) rfl (fun ls hl => ?_)
                  have hl : lv_has ls 3 [(0, .ref (ad 7)), (1, .int r_72), (2, .int w4_2)] := lv_sub hl [1, 0, 2] rfl
                  refine lv_goto (tgt := 95) C.1 C.2.1 dX3_seek_65 (by decide) ?_
                  exact L_95 t_71 r_72 w4_2 _ _ _ hok hfr ⟨by omega, by omega⟩ ⟨by omega, by omega⟩ (show cc (t.2.2.1 1) ((t.1 29 7).toInt).toNat ((t.1 29 4).toInt).toNat 0 = cc (t.2.2.1 1) ((t.1 29 7).toInt).toNat ((t_71.1 29 4).toInt).toNat (r_72.toInt : Int).toNat from by first | exact sk_job hi4_0 (by omega) (hv1 (by omega)).1 (by have hq := (hv1 (by omega)).2.1; omega) (hv2 (by omega)) hj (by omega) | exact sk_body hi4_0 (by omega) (hv1 (by omega)).1 (by have hq := (hv1 (by omega)).2.1; omega) (hv2 (by omega)) hj (by omega) (by omega) hb | exact sk_data hi4_0 (by omega) (hv1 (by omega)).1 (by have hq := (hv1 (by omega)).2.1; omega) (hv2 (by omega)) hj (by omega) (by omega) (hc.mp (by omega)) (by omega) | exact sk_keep hi4_0 (by omega) (hv1 (by omega)).1 (by have hq := (hv1 (by omega)).2.1; omega) (hv2 (by omega)) hj (by omega) (by omega) (by omega) (fun e => by first | (exfalso; omega) | exact fun z => absurd (hc.mpr z) (by omega)) (fun e => by first | (exfalso; omega) | exact fun z => absurd (hce.mpr z) (by omega))) (show 0 ≤ r_72.toInt from by omega) (show r_72.toInt ≤ 3 from by omega) (show 0 ≤ w4_2.toInt from by omega) (show w4_2.toInt + 1 ≤ (t_71.1 29 4).toInt from by omega) (show (t_71.1 29 7).toInt = (t.1 29 7).toInt from by omega) (show (32399 : Int) - w4_2.toInt < (fuel_4 : Int) + 1 from by omega) hP hD hS (lv_sub hl [0, 1, 2] rfl)
            · replace c_53 : w4_1.toInt = 1 := i_eq c_53
              refine lv_aload_n C.1 C.2.1 dX3_seek_38 rfl (lv_at hl 0 rfl) ?_
              refine g_Vi (As := []) (rest := []) C hP hD hS hA (U_X3_openBody l D K Z Y ad d t_38 hok ) hE hZ (uwV m_73_11 m_73_12 m_73_13 m_2_17 m_73_14) (hdV 0 (by decide +kernel) rfl) ⟨Nat.le_of_ble_eq_true rfl, Nat.le_of_ble_eq_true rfl⟩ rfl rfl (ci := 2) (q0 := 7) rfl rfl rfl hl.1 (Nat.le_of_ble_eq_true rfl) dX3_seek_39 ⟨Nat.le_of_ble_eq_true rfl, Nat.le_of_ble_eq_true rfl⟩ (fun r_85 t_84 H locs hw hP hD hS => ?_)
              obtain ⟨hok, f_86, h_87, h_88, p_89⟩ := hw
              have hfr : frA [(7, 2), (7, 3), (7, 4), (7, 5), (7, 6), (7, 7), (7, 8), (29, 2), (29, 3), (29, 4), (29, 5)] [] [30, 51] [] t t_84 := frA_tr hfr f_86 rfl
              have h_90 : (t_84.1 29 2).toInt = (t_38.1 29 2).toInt := ti_eq (f_86.1 29 2 rfl)
              have h_91 : (t_84.1 29 4).toInt = (t_38.1 29 4).toInt := ti_eq (f_86.1 29 4 rfl)
              have h_92 : (t_84.1 29 7).toInt = (t_38.1 29 7).toInt := ti_eq (f_86.1 29 7 rfl)
              have e_93 : t_84.2.2.1 1 = t.2.2.1 1 := (f_86.2.2.1 1 rfl).trans (e_47)
              have e_94 : t_84.2.2.1 51 = t_23.2.2.1 51 := (f_86.2.2.1 51 rfl).trans (e_48)
              have h_95 : (0 : Int) ≤ (t_84.1 29 2).toInt ∧ (t_84.1 29 2).toInt ≤ 1280 := hok.1 29 2
              have h_96 : (0 : Int) ≤ (t_84.1 29 4).toInt ∧ (t_84.1 29 4).toInt ≤ 1281 := hok.1 29 4
              have h_97 : (0 : Int) ≤ (t_84.1 29 7).toInt ∧ (t_84.1 29 7).toInt ≤ 1280 := hok.1 29 7
              replace p_89 : r_85.toInt = 3 ∧ (aW (t_38.2.2.1 51) 0 13 ∧ (t_38.2.2.1 51) (sByt 13).length = 32) ∨ r_85.toInt = 2 ∧ ¬ (aW (t_38.2.2.1 51) 0 13 ∧ (t_38.2.2.1 51) (sByt 13).length = 32) := p_89
              have hb := p_89
              rw [hrw] at hb
              refine lv_istore_n (lv' := [(1, .int r_85), (0, .ref (ad 7)), (2, .int w4_2)]) C.1 C.2.1 dX3_seek_42 rfl hl (by decide) rfl (fun ls hl => ?_)
              have hl : lv_has ls 3 [(0, .ref (ad 7)), (1, .int r_85), (2, .int w4_2)] := lv_sub hl [1, 0, 2] rfl
              refine lv_goto (tgt := 95) C.1 C.2.1 dX3_seek_43 (by decide) ?_
              exact L_95 t_84 r_85 w4_2 _ _ _ hok hfr ⟨by omega, by omega⟩ ⟨by omega, by omega⟩ (show cc (t.2.2.1 1) ((t.1 29 7).toInt).toNat ((t.1 29 4).toInt).toNat 0 = cc (t.2.2.1 1) ((t.1 29 7).toInt).toNat ((t_84.1 29 4).toInt).toNat (r_85.toInt : Int).toNat from by first | exact sk_job hi4_0 (by omega) (hv1 (by omega)).1 (by have hq := (hv1 (by omega)).2.1; omega) (hv2 (by omega)) hj (by omega) | exact sk_body hi4_0 (by omega) (hv1 (by omega)).1 (by have hq := (hv1 (by omega)).2.1; omega) (hv2 (by omega)) hj (by omega) (by omega) hb | exact sk_data hi4_0 (by omega) (hv1 (by omega)).1 (by have hq := (hv1 (by omega)).2.1; omega) (hv2 (by omega)) hj (by omega) (by omega) (hc.mp (by omega)) (by omega) | exact sk_keep hi4_0 (by omega) (hv1 (by omega)).1 (by have hq := (hv1 (by omega)).2.1; omega) (hv2 (by omega)) hj (by omega) (by omega) (by omega) (fun e => by first | (exfalso; omega) | exact fun z => absurd (hc.mpr z) (by omega)) (fun e => by first | (exfalso; omega) | exact fun z => absurd (hce.mpr z) (by omega))) (show 0 ≤ r_85.toInt from by omega) (show r_85.toInt ≤ 3 from by omega) (show 0 ≤ w4_2.toInt from by omega) (show w4_2.toInt + 1 ≤ (t_84.1 29 4).toInt from by omega) (show (t_84.1 29 7).toInt = (t.1 29 7).toInt from by omega) (show (32399 : Int) - w4_2.toInt < (fuel_4 : Int) + 1 from by omega) hP hD hS (lv_sub hl [0, 1, 2] rfl)
          · replace c_52 : ¬ r_39.toInt = 0 := i_ne c_52
            refine lv_iconst (v := 1) C.1 C.2.1 dX3_seek_28 (by decide) ?_
            refine lv_istore_n (lv' := [(1, .int 1), (0, .ref (ad 7)), (2, .int w4_2)]) C.1 C.2.1 dX3_seek_29 rfl hl (by decide) rfl (fun ls hl => ?_)
            have hl : lv_has ls 3 [(0, .ref (ad 7)), (1, .int 1), (2, .int w4_2)] := lv_sub hl [1, 0, 2] rfl
            refine lv_goto (tgt := 95) C.1 C.2.1 dX3_seek_30 (by decide) ?_
            exact L_95 t_38 1 w4_2 _ _ _ hok hfr ⟨by decide, by decide⟩ ⟨by omega, by omega⟩ (show cc (t.2.2.1 1) ((t.1 29 7).toInt).toNat ((t.1 29 4).toInt).toNat 0 = cc (t.2.2.1 1) ((t.1 29 7).toInt).toNat ((t_38.1 29 4).toInt).toNat (1 : Int).toNat from by first | exact sk_job hi4_0 (by omega) (hv1 (by omega)).1 (by have hq := (hv1 (by omega)).2.1; omega) (hv2 (by omega)) hj (by omega) | exact sk_body hi4_0 (by omega) (hv1 (by omega)).1 (by have hq := (hv1 (by omega)).2.1; omega) (hv2 (by omega)) hj (by omega) (by omega) hb | exact sk_data hi4_0 (by omega) (hv1 (by omega)).1 (by have hq := (hv1 (by omega)).2.1; omega) (hv2 (by omega)) hj (by omega) (by omega) (hc.mp (by omega)) (by omega) | exact sk_keep hi4_0 (by omega) (hv1 (by omega)).1 (by have hq := (hv1 (by omega)).2.1; omega) (hv2 (by omega)) hj (by omega) (by omega) (by omega) (fun e => by first | (exfalso; omega) | exact fun z => absurd (hc.mpr z) (by omega)) (fun e => by first | (exfalso; omega) | exact fun z => absurd (hce.mpr z) (by omega))) (show 0 ≤ 1 from by omega) (show 1 ≤ 3 from by omega) (show 0 ≤ w4_2.toInt from by omega) (show w4_2.toInt + 1 ≤ (t_38.1 29 4).toInt from by omega) (show (t_38.1 29 7).toInt = (t.1 29 7).toInt from by omega) (show (32399 : Int) - w4_2.toInt < (fuel_4 : Int) + 1 from by omega) hP hD hS (lv_sub hl [0, 1, 2] rfl)
  refine lv_iconst (v := 0) C.1 C.2.1 dX3_seek_0 (by decide) ?_
  refine lv_istore_n (lv' := [(1, .int 0), (0, .ref (ad 7))]) C.1 C.2.1 dX3_seek_1 rfl hl (by decide) rfl (fun ls hl => ?_)
  have hl : lv_has ls 3 [(0, .ref (ad 7)), (1, .int 0)] := lv_sub hl [1, 0] rfl
  refine lv_iconst (v := 0) C.1 C.2.1 dX3_seek_2 (by decide) ?_
  refine lv_istore_n (lv' := [(2, .int 0), (0, .ref (ad 7)), (1, .int 0)]) C.1 C.2.1 dX3_seek_3 rfl hl (by decide) rfl (fun ls hl => ?_)
  have hl : lv_has ls 3 [(0, .ref (ad 7)), (1, .int 0), (2, .int 0)] := lv_sub hl [1, 2, 0] rfl
  exact L_4 32400 t 0 0 _ _ _ hok hfr ⟨by decide, by decide⟩ ⟨by decide, by decide⟩ (show cc (t.2.2.1 1) ((t.1 29 7).toInt).toNat ((t.1 29 4).toInt).toNat 0 = cc (t.2.2.1 1) ((t.1 29 7).toInt).toNat ((t.1 29 4).toInt).toNat (0 : Int).toNat from by first | rfl | exact hi95_0) (show 0 ≤ 0 from by omega) (show 0 ≤ 3 from by omega) (show 0 ≤ 0 from by omega) (show 0 ≤ (t.1 29 4).toInt from by omega) (show (t.1 29 7).toInt = (t.1 29 7).toInt from by omega) (show (32399 : Int) - 0 < ((32400 : Nat) : Int) from by omega) hP hD hS (lv_sub hl [0, 1, 2] rfl)

set_option maxHeartbeats 4000000 in
set_option maxRecDepth 100000 in
theorem U_X11_jobs (l : Launch) (D : va_G) (K : Nat → ClassId) (Z Y : Nat → Nat) (ad : Nat → Nat) (d : dSt) (t : tSt) (hok : okX t) (hod : okD d)  : dMet l yX11_jobs cX11_jobs 5 (some .int) (rmD 12 13000 3640000) D K Z Y [.ref (ad 0)] ((WX d) K ad t) (QDI D K ad d (fun (r : Int32) (u : tSt) (dd : dSt) => okX u ∧ frA [(0, 1), (2, 2), (2, 3), (2, 4), (2, 5), (2, 6), (2, 7), (3, 8), (4, 3), (4, 4), (4, 5), (4, 8), (4, 9), (4, 10), (4, 11), (4, 12), (4, 13), (4, 14), (4, 15), (5, 7), (5, 9), (5, 10), (5, 11), (5, 12), (5, 14), (5, 15), (5, 16), (5, 17), (5, 18), (5, 19), (7, 2), (7, 3), (7, 4), (7, 5), (7, 6), (7, 7), (7, 8), (7, 9), (7, 10), (7, 12), (7, 14), (7, 15), (18, 1), (18, 2), (18, 3), (19, 3), (20, 3), (21, 3), (23, 3), (23, 6), (23, 12), (24, 2), (24, 3), (24, 4), (24, 5), (24, 6), (24, 8), (29, 2), (29, 3), (29, 4), (29, 5), (29, 6), (29, 7)] [(4, 6), (4, 7), (5, 13), (24, 7), (24, 9)] [8, 9, 10, 11, 12, 15, 16, 17, 22, 26, 27, 28, 30, 31, 32, 33, 34, 35, 36, 37, 38, 39, 40, 42, 43, 44, 45, 46, 47, 48, 49, 50, 51] [13, 14, 25, 41] t u ∧ okD dd ∧ (-2147483648 : Int) ≤ r.toInt ∧ r.toInt ≤ 2147483647 ∧ ((u.1 0 1).toInt = 0) ∧ (((u.1 18 2).toInt ≤ (t.1 18 2).toInt ∨ (u.1 18 2).toInt ≤ 1281)) ∧ (r.toInt = ((cc (t.2.2.1 1) ((t.1 0 1).toInt).toNat 0 0 : Nat) : Int)))) 13000 3640000 := by
  refine d_met d RX11 ⟨rfl, by decide +kernel⟩ (Nat.le_of_ble_eq_true rfl) ?_
  intro p e s m below meth c A ls C hE hZ hX hr hlocks hA hP hD hS hl
  have hl : lv_has ls 5 [(0, .ref (ad 0))] := hl
  have hle : dLe d d := dLe_rf
  have hdf : dFr s.heap.size d d := dFr_rf
  have hokt := hok
  have hfr : frA [(0, 1), (2, 2), (2, 3), (2, 4), (2, 5), (2, 6), (2, 7), (3, 8), (4, 3), (4, 4), (4, 5), (4, 8), (4, 9), (4, 10), (4, 11), (4, 12), (4, 13), (4, 14), (4, 15), (5, 7), (5, 9), (5, 10), (5, 11), (5, 12), (5, 14), (5, 15), (5, 16), (5, 17), (5, 18), (5, 19), (7, 2), (7, 3), (7, 4), (7, 5), (7, 6), (7, 7), (7, 8), (7, 9), (7, 10), (7, 12), (7, 14), (7, 15), (18, 1), (18, 2), (18, 3), (19, 3), (20, 3), (21, 3), (23, 3), (23, 6), (23, 12), (24, 2), (24, 3), (24, 4), (24, 5), (24, 6), (24, 8), (29, 2), (29, 3), (29, 4), (29, 5), (29, 6), (29, 7)] [(4, 6), (4, 7), (5, 13), (24, 7), (24, 9)] [8, 9, 10, 11, 12, 15, 16, 17, 22, 26, 27, 28, 30, 31, 32, 33, 34, 35, 36, 37, 38, 39, 40, 42, 43, 44, 45, 46, 47, 48, 49, 50, 51] [13, 14, 25, 41] t t := frA_rf
  have h_1 : (0 : Int) ≤ (t.1 0 1).toInt ∧ (t.1 0 1).toInt ≤ 1280 := hok.1 0 1
  have h_2 : (0 : Int) ≤ (t.1 18 2).toInt ∧ (t.1 18 2).toInt ≤ 2700 := hok.1 18 2
  have h_3 : (0 : Int) ≤ (t.1 29 4).toInt ∧ (t.1 29 4).toInt ≤ 1281 := hok.1 29 4
  have h_4 : (0 : Int) ≤ (t.1 29 7).toInt ∧ (t.1 29 7).toInt ≤ 1280 := hok.1 29 7
  have L_21 : ∀ (fuel_21 : Nat) (t1 : tSt) (d1 : dSt) (w21_1 : Int32) (w21_2 : Int32) (w21_3 : Int32) (H : Heap) (locs : List Loc) (ls : Array Slot), okX t1 → frA [(0, 1), (2, 2), (2, 3), (2, 4), (2, 5), (2, 6), (2, 7), (3, 8), (4, 3), (4, 4), (4, 5), (4, 8), (4, 9), (4, 10), (4, 11), (4, 12), (4, 13), (4, 14), (4, 15), (5, 7), (5, 9), (5, 10), (5, 11), (5, 12), (5, 14), (5, 15), (5, 16), (5, 17), (5, 18), (5, 19), (7, 2), (7, 3), (7, 4), (7, 5), (7, 6), (7, 7), (7, 8), (7, 9), (7, 10), (7, 12), (7, 14), (7, 15), (18, 1), (18, 2), (18, 3), (19, 3), (20, 3), (21, 3), (23, 3), (23, 6), (23, 12), (24, 2), (24, 3), (24, 4), (24, 5), (24, 6), (24, 8), (29, 2), (29, 3), (29, 4), (29, 5), (29, 6), (29, 7)] [(4, 6), (4, 7), (5, 13), (24, 7), (24, 9)] [8, 9, 10, 11, 12, 15, 16, 17, 22, 26, 27, 28, 30, 31, 32, 33, 34, 35, 36, 37, 38, 39, 40, 42, 43, 44, 45, 46, 47, 48, 49, 50, 51] [13, 14, 25, 41] t t1 → okD d1 → dLe d d1 → dFr s.heap.size d d1 → (0 : Int) ≤ w21_1.toInt ∧ w21_1.toInt ≤ 3999 → (0 : Int) ≤ w21_3.toInt ∧ w21_3.toInt ≤ 512 → ((t1.1 0 1).toInt = 0) → (((t1.1 18 2).toInt ≤ (t.1 18 2).toInt ∨ (t1.1 18 2).toInt ≤ 1281)) → (cc (t.2.2.1 1) ((t.1 0 1).toInt).toNat 0 0 = (w21_2.toInt : Int).toNat + cc (t.2.2.1 1) ((t.1 0 1).toInt).toNat ((t1.1 29 4).toInt).toNat 0) → (0 ≤ w21_2.toInt) → (w21_2.toInt = w21_3.toInt) → ((t1.1 29 7).toInt = (t.1 0 1).toInt) → (w21_1.toInt = (t.1 0 1).toInt) → (512 : Int) - w21_3.toInt < (fuel_21 : Int) → va_P D vwCl ((WX d1) K ad t1) H → va_D A ((WX d1) K ad t1) → va_S A s.heap H locs → lv_has ls 5 [(0, .ref (ad 0)), (1, .int w21_1), (2, .int w21_2), (3, .int w21_3)] → W p l e (rmD 12 13000 3640000) s m [.ref (ad 0)].toArray below meth c H locs (newC d d1) 246800 (MQ below (QDI D K ad d (fun (r : Int32) (u : tSt) (dd : dSt) => okX u ∧ frA [(0, 1), (2, 2), (2, 3), (2, 4), (2, 5), (2, 6), (2, 7), (3, 8), (4, 3), (4, 4), (4, 5), (4, 8), (4, 9), (4, 10), (4, 11), (4, 12), (4, 13), (4, 14), (4, 15), (5, 7), (5, 9), (5, 10), (5, 11), (5, 12), (5, 14), (5, 15), (5, 16), (5, 17), (5, 18), (5, 19), (7, 2), (7, 3), (7, 4), (7, 5), (7, 6), (7, 7), (7, 8), (7, 9), (7, 10), (7, 12), (7, 14), (7, 15), (18, 1), (18, 2), (18, 3), (19, 3), (20, 3), (21, 3), (23, 3), (23, 6), (23, 12), (24, 2), (24, 3), (24, 4), (24, 5), (24, 6), (24, 8), (29, 2), (29, 3), (29, 4), (29, 5), (29, 6), (29, 7)] [(4, 6), (4, 7), (5, 13), (24, 7), (24, 9)] [8, 9, 10, 11, 12, 15, 16, 17, 22, 26, 27, 28, 30, 31, 32, 33, 34, 35, 36, 37, 38, 39, 40, 42, 43, 44, 45, 46, 47, 48, 49, 50, 51] [13, 14, 25, 41] t u ∧ okD dd ∧ (-2147483648 : Int) ≤ r.toInt ∧ r.toInt ≤ 2147483647 ∧ ((u.1 0 1).toInt = 0) ∧ (((u.1 18 2).toInt ≤ (t.1 18 2).toInt ∨ (u.1 18 2).toInt ≤ 1281)) ∧ (r.toInt = ((cc (t.2.2.1 1) ((t.1 0 1).toInt).toNat 0 0 : Nat) : Int))) s.heap.size A) [.ref (ad 0)].toArray s 13000 3640000 A) (F0 m 21 ls []) := by
    intro fuel_21
    induction fuel_21 with
    | zero =>
      intro t1 d1 w21_1 w21_2 w21_3 H locs ls hok hfr hod hle hdf hw21_1 hw21_3 hi21_0 hi21_1 hi21_2 hi21_3 hi21_4 hi21_5 hi21_6 hm21_21 hP hD hS hl
      have e_5 : t1.2.2.1 1 = t.2.2.1 1 := hfr.2.2.1 1 rfl
      have h_6 : (0 : Int) ≤ (t1.1 0 1).toInt ∧ (t1.1 0 1).toInt ≤ 1280 := hok.1 0 1
      have h_7 : (0 : Int) ≤ (t1.1 18 2).toInt ∧ (t1.1 18 2).toInt ≤ 2700 := hok.1 18 2
      have h_8 : (0 : Int) ≤ (t1.1 29 4).toInt ∧ (t1.1 29 4).toInt ≤ 1281 := hok.1 29 4
      have h_9 : (0 : Int) ≤ (t1.1 29 7).toInt ∧ (t1.1 29 7).toInt ≤ 1280 := hok.1 29 7
      exact absurd hm21_21 (by omega)
    | succ fuel_21 ih_21 =>
      intro t1 d1 w21_1 w21_2 w21_3 H locs ls hok hfr hod hle hdf hw21_1 hw21_3 hi21_0 hi21_1 hi21_2 hi21_3 hi21_4 hi21_5 hi21_6 hm21_21 hP hD hS hl
      have hm21_21 : (512 : Int) - w21_3.toInt < (fuel_21 : Int) + 1 := by omega
      have e_10 : t1.2.2.1 1 = t.2.2.1 1 := hfr.2.2.1 1 rfl
      have h_11 : (0 : Int) ≤ (t1.1 0 1).toInt ∧ (t1.1 0 1).toInt ≤ 1280 := hok.1 0 1
      have h_12 : (0 : Int) ≤ (t1.1 18 2).toInt ∧ (t1.1 18 2).toInt ≤ 2700 := hok.1 18 2
      have h_13 : (0 : Int) ≤ (t1.1 29 4).toInt ∧ (t1.1 29 4).toInt ≤ 1281 := hok.1 29 4
      have h_14 : (0 : Int) ≤ (t1.1 29 7).toInt ∧ (t1.1 29 7).toInt ≤ 1280 := hok.1 29 7
      have L_144 : ∀ (t1 : tSt) (d1 : dSt) (w144_1 : Int32) (w144_2 : Int32) (w144_3 : Int32) (w144_4 : Int32) (H : Heap) (locs : List Loc) (ls : Array Slot), okX t1 → frA [(0, 1), (2, 2), (2, 3), (2, 4), (2, 5), (2, 6), (2, 7), (3, 8), (4, 3), (4, 4), (4, 5), (4, 8), (4, 9), (4, 10), (4, 11), (4, 12), (4, 13), (4, 14), (4, 15), (5, 7), (5, 9), (5, 10), (5, 11), (5, 12), (5, 14), (5, 15), (5, 16), (5, 17), (5, 18), (5, 19), (7, 2), (7, 3), (7, 4), (7, 5), (7, 6), (7, 7), (7, 8), (7, 9), (7, 10), (7, 12), (7, 14), (7, 15), (18, 1), (18, 2), (18, 3), (19, 3), (20, 3), (21, 3), (23, 3), (23, 6), (23, 12), (24, 2), (24, 3), (24, 4), (24, 5), (24, 6), (24, 8), (29, 2), (29, 3), (29, 4), (29, 5), (29, 6), (29, 7)] [(4, 6), (4, 7), (5, 13), (24, 7), (24, 9)] [8, 9, 10, 11, 12, 15, 16, 17, 22, 26, 27, 28, 30, 31, 32, 33, 34, 35, 36, 37, 38, 39, 40, 42, 43, 44, 45, 46, 47, 48, 49, 50, 51] [13, 14, 25, 41] t t1 → okD d1 → dLe d d1 → dFr s.heap.size d d1 → (0 : Int) ≤ w144_1.toInt ∧ w144_1.toInt ≤ 3999 → (0 : Int) ≤ w144_3.toInt ∧ w144_3.toInt ≤ 511 → (0 : Int) ≤ w144_4.toInt ∧ w144_4.toInt ≤ 4 → ((t1.1 0 1).toInt = 0) → ((t1.1 18 2).toInt ≤ 1281) → (cc (t.2.2.1 1) ((t.1 0 1).toInt).toNat 0 0 = ((w144_2.toInt : Int).toNat + 1) + cc (t.2.2.1 1) ((t.1 0 1).toInt).toNat ((t1.1 29 4).toInt).toNat 0) → (0 ≤ w144_2.toInt) → (w144_2.toInt = w144_3.toInt) → ((t1.1 29 7).toInt = (t.1 0 1).toInt) → (w144_1.toInt = (t.1 0 1).toInt) → (512 : Int) - w144_3.toInt < (fuel_21 : Int) + 1 → va_P D vwCl ((WX d1) K ad t1) H → va_D A ((WX d1) K ad t1) → va_S A s.heap H locs → lv_has ls 5 [(0, .ref (ad 0)), (1, .int w144_1), (2, .int w144_2), (3, .int w144_3), (4, .int w144_4)] → W p l e (rmD 12 13000 3640000) s m [.ref (ad 0)].toArray below meth c H locs (newC d d1) 246800 (MQ below (QDI D K ad d (fun (r : Int32) (u : tSt) (dd : dSt) => okX u ∧ frA [(0, 1), (2, 2), (2, 3), (2, 4), (2, 5), (2, 6), (2, 7), (3, 8), (4, 3), (4, 4), (4, 5), (4, 8), (4, 9), (4, 10), (4, 11), (4, 12), (4, 13), (4, 14), (4, 15), (5, 7), (5, 9), (5, 10), (5, 11), (5, 12), (5, 14), (5, 15), (5, 16), (5, 17), (5, 18), (5, 19), (7, 2), (7, 3), (7, 4), (7, 5), (7, 6), (7, 7), (7, 8), (7, 9), (7, 10), (7, 12), (7, 14), (7, 15), (18, 1), (18, 2), (18, 3), (19, 3), (20, 3), (21, 3), (23, 3), (23, 6), (23, 12), (24, 2), (24, 3), (24, 4), (24, 5), (24, 6), (24, 8), (29, 2), (29, 3), (29, 4), (29, 5), (29, 6), (29, 7)] [(4, 6), (4, 7), (5, 13), (24, 7), (24, 9)] [8, 9, 10, 11, 12, 15, 16, 17, 22, 26, 27, 28, 30, 31, 32, 33, 34, 35, 36, 37, 38, 39, 40, 42, 43, 44, 45, 46, 47, 48, 49, 50, 51] [13, 14, 25, 41] t u ∧ okD dd ∧ (-2147483648 : Int) ≤ r.toInt ∧ r.toInt ≤ 2147483647 ∧ ((u.1 0 1).toInt = 0) ∧ (((u.1 18 2).toInt ≤ (t.1 18 2).toInt ∨ (u.1 18 2).toInt ≤ 1281)) ∧ (r.toInt = ((cc (t.2.2.1 1) ((t.1 0 1).toInt).toNat 0 0 : Nat) : Int))) s.heap.size A) [.ref (ad 0)].toArray s 13000 3640000 A) (F0 m 144 ls []) := by
        intro t1 d1 w144_1 w144_2 w144_3 w144_4 H locs ls hok hfr hod hle hdf hw144_1 hw144_3 hw144_4 hi144_0 hi144_1 hi144_2 hi144_3 hi144_4 hi144_5 hi144_6 hm144_21 hP hD hS hl
        have e_15 : t1.2.2.1 1 = t.2.2.1 1 := hfr.2.2.1 1 rfl
        have h_16 : (0 : Int) ≤ (t1.1 0 1).toInt ∧ (t1.1 0 1).toInt ≤ 1280 := hok.1 0 1
        have h_17 : (0 : Int) ≤ (t1.1 18 2).toInt ∧ (t1.1 18 2).toInt ≤ 2700 := hok.1 18 2
        have h_18 : (0 : Int) ≤ (t1.1 29 4).toInt ∧ (t1.1 29 4).toInt ≤ 1281 := hok.1 29 4
        have h_19 : (0 : Int) ≤ (t1.1 29 7).toInt ∧ (t1.1 29 7).toInt ≤ 1280 := hok.1 29 7
        refine lv_aload_n C.1 C.2.1 dX11_jobs_144 rfl (lv_at hl 0 rfl) ?_
        refine lv_iload C.1 C.2.1 dX11_jobs_145 (lv_at hl 4 rfl) ?_
        refine g_DVv (As := [.int w144_4]) (rest := []) C hP hD hS hA (T_X11_closeJob l D K Z Y ad d1 t1 hok hod (w144_4) (show (0 : Int) ≤ (w144_4 : Int32).toInt ∧ (w144_4 : Int32).toInt ≤ 4 from ⟨by omega, by omega⟩)) hE hZ hX hle hdf (uwV m_77_1 m_77_2 m_77_3 m_1_2 m_77_4) (hdV 1 (by decide +kernel) rfl) ⟨Nat.le_of_ble_eq_true rfl, Nat.le_of_ble_eq_true rfl⟩ rfl rfl (ci := 10) (q0 := 0) rfl rfl rfl hl.1 (Nat.le_of_ble_eq_true rfl) dX11_jobs_147 ⟨Nat.le_of_ble_eq_true rfl, Nat.le_of_ble_eq_true rfl⟩ (fun t_20 d_22 H locs hw hP hD hS hln hle hdf => ?_)
        obtain ⟨hok, f_23, hod⟩ := hw
        have hfr : frA [(0, 1), (2, 2), (2, 3), (2, 4), (2, 5), (2, 6), (2, 7), (3, 8), (4, 3), (4, 4), (4, 5), (4, 8), (4, 9), (4, 10), (4, 11), (4, 12), (4, 13), (4, 14), (4, 15), (5, 7), (5, 9), (5, 10), (5, 11), (5, 12), (5, 14), (5, 15), (5, 16), (5, 17), (5, 18), (5, 19), (7, 2), (7, 3), (7, 4), (7, 5), (7, 6), (7, 7), (7, 8), (7, 9), (7, 10), (7, 12), (7, 14), (7, 15), (18, 1), (18, 2), (18, 3), (19, 3), (20, 3), (21, 3), (23, 3), (23, 6), (23, 12), (24, 2), (24, 3), (24, 4), (24, 5), (24, 6), (24, 8), (29, 2), (29, 3), (29, 4), (29, 5), (29, 6), (29, 7)] [(4, 6), (4, 7), (5, 13), (24, 7), (24, 9)] [8, 9, 10, 11, 12, 15, 16, 17, 22, 26, 27, 28, 30, 31, 32, 33, 34, 35, 36, 37, 38, 39, 40, 42, 43, 44, 45, 46, 47, 48, 49, 50, 51] [13, 14, 25, 41] t t_20 := frA_tr hfr f_23 rfl
        have h_24 : (t_20.1 0 1).toInt = (t1.1 0 1).toInt := ti_eq (f_23.1 0 1 rfl)
        have h_25 : (t_20.1 18 2).toInt = (t1.1 18 2).toInt := ti_eq (f_23.1 18 2 rfl)
        have h_26 : (t_20.1 29 4).toInt = (t1.1 29 4).toInt := ti_eq (f_23.1 29 4 rfl)
        have h_27 : (t_20.1 29 7).toInt = (t1.1 29 7).toInt := ti_eq (f_23.1 29 7 rfl)
        have e_28 : t_20.2.2.1 1 = t.2.2.1 1 := (f_23.2.2.1 1 rfl).trans (e_15)
        have h_29 : (0 : Int) ≤ (t_20.1 0 1).toInt ∧ (t_20.1 0 1).toInt ≤ 1280 := hok.1 0 1
        have h_30 : (0 : Int) ≤ (t_20.1 18 2).toInt ∧ (t_20.1 18 2).toInt ≤ 2700 := hok.1 18 2
        have h_31 : (0 : Int) ≤ (t_20.1 29 4).toInt ∧ (t_20.1 29 4).toInt ≤ 1281 := hok.1 29 4
        have h_32 : (0 : Int) ≤ (t_20.1 29 7).toInt ∧ (t_20.1 29 7).toInt ≤ 1280 := hok.1 29 7
        obtain ⟨v_33, e_34⟩ : ∃ z, z = w144_2 + 1 := ⟨_, rfl⟩
        have h_35 : v_33.toInt = w144_2.toInt + 1 := by rw [e_34]; exact ti_iadd (by show (_ : Int) ≤ w144_2.toInt + 1; omega) (by show w144_2.toInt + 1 < (_ : Int); omega)
        refine lv_iinc (v := v_33) (lv' := [(2, .int v_33), (0, .ref (ad 0)), (1, .int w144_1), (3, .int w144_3), (4, .int w144_4)]) C.1 C.2.1 dX11_jobs_150 hl (k := 2) rfl e_34.symm (by decide) rfl (fun ls hl => ?_)
        have hl : lv_has ls 5 [(0, .ref (ad 0)), (1, .int w144_1), (2, .int v_33), (3, .int w144_3), (4, .int w144_4)] := lv_sub hl [1, 2, 0, 3, 4] rfl
        obtain ⟨v_36, e_37⟩ : ∃ z, z = w144_3 + 1 := ⟨_, rfl⟩
        have h_38 : v_36.toInt = w144_3.toInt + 1 := by rw [e_37]; exact ti_iadd (by show (_ : Int) ≤ w144_3.toInt + 1; omega) (by show w144_3.toInt + 1 < (_ : Int); omega)
        refine lv_iinc (v := v_36) (lv' := [(3, .int v_36), (0, .ref (ad 0)), (1, .int w144_1), (2, .int v_33), (4, .int w144_4)]) C.1 C.2.1 dX11_jobs_153 hl (k := 3) rfl e_37.symm (by decide) rfl (fun ls hl => ?_)
        have hl : lv_has ls 5 [(0, .ref (ad 0)), (1, .int w144_1), (2, .int v_33), (3, .int v_36), (4, .int w144_4)] := lv_sub hl [1, 2, 3, 0, 4] rfl
        refine lv_goto (tgt := 21) C.1 C.2.1 dX11_jobs_156 (by decide) ?_
        exact ih_21 t_20 d_22 w144_1 v_33 v_36 _ _ _ hok hfr hod hle hdf ⟨by omega, by omega⟩ ⟨by omega, by omega⟩ (show (t_20.1 0 1).toInt = 0 from by omega) (show ((t_20.1 18 2).toInt ≤ (t.1 18 2).toInt ∨ (t_20.1 18 2).toInt ≤ 1281) from by omega) (show cc (t.2.2.1 1) ((t.1 0 1).toInt).toNat 0 0 = (v_33.toInt : Int).toNat + cc (t.2.2.1 1) ((t.1 0 1).toInt).toNat ((t_20.1 29 4).toInt).toNat 0 from by first | exact jc_nx hi144_2 (by assumption) (by omega) (by omega) | exact jc_st (by omega)) (show 0 ≤ v_33.toInt from by omega) (show v_33.toInt = v_36.toInt from by omega) (show (t_20.1 29 7).toInt = (t.1 0 1).toInt from by omega) (show w144_1.toInt = (t.1 0 1).toInt from by omega) (show (512 : Int) - v_36.toInt < (fuel_21 : Int) from by omega) hP hD hS (lv_sub hl [0, 1, 2, 3] rfl)
      have L_122 : ∀ (t1 : tSt) (d1 : dSt) (w122_1 : Int32) (w122_2 : Int32) (w122_3 : Int32) (w122_4 : Int32) (H : Heap) (locs : List Loc) (ls : Array Slot), okX t1 → frA [(0, 1), (2, 2), (2, 3), (2, 4), (2, 5), (2, 6), (2, 7), (3, 8), (4, 3), (4, 4), (4, 5), (4, 8), (4, 9), (4, 10), (4, 11), (4, 12), (4, 13), (4, 14), (4, 15), (5, 7), (5, 9), (5, 10), (5, 11), (5, 12), (5, 14), (5, 15), (5, 16), (5, 17), (5, 18), (5, 19), (7, 2), (7, 3), (7, 4), (7, 5), (7, 6), (7, 7), (7, 8), (7, 9), (7, 10), (7, 12), (7, 14), (7, 15), (18, 1), (18, 2), (18, 3), (19, 3), (20, 3), (21, 3), (23, 3), (23, 6), (23, 12), (24, 2), (24, 3), (24, 4), (24, 5), (24, 6), (24, 8), (29, 2), (29, 3), (29, 4), (29, 5), (29, 6), (29, 7)] [(4, 6), (4, 7), (5, 13), (24, 7), (24, 9)] [8, 9, 10, 11, 12, 15, 16, 17, 22, 26, 27, 28, 30, 31, 32, 33, 34, 35, 36, 37, 38, 39, 40, 42, 43, 44, 45, 46, 47, 48, 49, 50, 51] [13, 14, 25, 41] t t1 → okD d1 → dLe d d1 → dFr s.heap.size d d1 → (0 : Int) ≤ w122_1.toInt ∧ w122_1.toInt ≤ 3999 → (0 : Int) ≤ w122_3.toInt ∧ w122_3.toInt ≤ 511 → (-1 : Int) ≤ w122_4.toInt ∧ w122_4.toInt ≤ 4 → ((t1.1 0 1).toInt = 0) → ((t1.1 18 2).toInt ≤ 1281) → (cc (t.2.2.1 1) ((t.1 0 1).toInt).toNat 0 0 = ((w122_2.toInt : Int).toNat + 1) + cc (t.2.2.1 1) ((t.1 0 1).toInt).toNat ((t1.1 29 4).toInt).toNat 0) → (0 ≤ w122_2.toInt) → (w122_2.toInt = w122_3.toInt) → ((t1.1 29 7).toInt = (t.1 0 1).toInt) → (w122_1.toInt = (t.1 0 1).toInt) → (512 : Int) - w122_3.toInt < (fuel_21 : Int) + 1 → va_P D vwCl ((WX d1) K ad t1) H → va_D A ((WX d1) K ad t1) → va_S A s.heap H locs → lv_has ls 5 [(0, .ref (ad 0)), (1, .int w122_1), (2, .int w122_2), (3, .int w122_3), (4, .int w122_4)] → W p l e (rmD 12 13000 3640000) s m [.ref (ad 0)].toArray below meth c H locs (newC d d1) 246800 (MQ below (QDI D K ad d (fun (r : Int32) (u : tSt) (dd : dSt) => okX u ∧ frA [(0, 1), (2, 2), (2, 3), (2, 4), (2, 5), (2, 6), (2, 7), (3, 8), (4, 3), (4, 4), (4, 5), (4, 8), (4, 9), (4, 10), (4, 11), (4, 12), (4, 13), (4, 14), (4, 15), (5, 7), (5, 9), (5, 10), (5, 11), (5, 12), (5, 14), (5, 15), (5, 16), (5, 17), (5, 18), (5, 19), (7, 2), (7, 3), (7, 4), (7, 5), (7, 6), (7, 7), (7, 8), (7, 9), (7, 10), (7, 12), (7, 14), (7, 15), (18, 1), (18, 2), (18, 3), (19, 3), (20, 3), (21, 3), (23, 3), (23, 6), (23, 12), (24, 2), (24, 3), (24, 4), (24, 5), (24, 6), (24, 8), (29, 2), (29, 3), (29, 4), (29, 5), (29, 6), (29, 7)] [(4, 6), (4, 7), (5, 13), (24, 7), (24, 9)] [8, 9, 10, 11, 12, 15, 16, 17, 22, 26, 27, 28, 30, 31, 32, 33, 34, 35, 36, 37, 38, 39, 40, 42, 43, 44, 45, 46, 47, 48, 49, 50, 51] [13, 14, 25, 41] t u ∧ okD dd ∧ (-2147483648 : Int) ≤ r.toInt ∧ r.toInt ≤ 2147483647 ∧ ((u.1 0 1).toInt = 0) ∧ (((u.1 18 2).toInt ≤ (t.1 18 2).toInt ∨ (u.1 18 2).toInt ≤ 1281)) ∧ (r.toInt = ((cc (t.2.2.1 1) ((t.1 0 1).toInt).toNat 0 0 : Nat) : Int))) s.heap.size A) [.ref (ad 0)].toArray s 13000 3640000 A) (F0 m 122 ls []) := by
        intro t1 d1 w122_1 w122_2 w122_3 w122_4 H locs ls hok hfr hod hle hdf hw122_1 hw122_3 hw122_4 hi122_0 hi122_1 hi122_2 hi122_3 hi122_4 hi122_5 hi122_6 hm122_21 hP hD hS hl
        have e_39 : t1.2.2.1 1 = t.2.2.1 1 := hfr.2.2.1 1 rfl
        have h_40 : (0 : Int) ≤ (t1.1 0 1).toInt ∧ (t1.1 0 1).toInt ≤ 1280 := hok.1 0 1
        have h_41 : (0 : Int) ≤ (t1.1 18 2).toInt ∧ (t1.1 18 2).toInt ≤ 2700 := hok.1 18 2
        have h_42 : (0 : Int) ≤ (t1.1 29 4).toInt ∧ (t1.1 29 4).toInt ≤ 1281 := hok.1 29 4
        have h_43 : (0 : Int) ≤ (t1.1 29 7).toInt ∧ (t1.1 29 7).toInt ≤ 1280 := hok.1 29 7
        refine lv_iload C.1 C.2.1 dX11_jobs_122 (lv_at hl 4 rfl) ?_
        refine lv_iconst (v := (-1)) C.1 C.2.1 dX11_jobs_124 (by decide) ?_
        refine lv_icmp_ne (tgt := 137) C.1 C.2.1 dX11_jobs_125 (by decide) (fun c_44 => ?_) (fun c_44 => ?_)
        · replace c_44 : ¬ w122_4.toInt = (-1) := i_ne c_44
          refine lv_aload_n C.1 C.2.1 dX11_jobs_137 rfl (lv_at hl 0 rfl) ?_
          refine k_get (v := .ref (ad 4)) C hP 0 rfl rfl inlX11 4 (by decide) m_2_9 rfl dX11_jobs_138 ?_
          refine hz_Vv (As := []) (rest := []) C hP hD hS hA (T_X2_clear l D K Z Y ad d1 t1 hok ) hE hZ (uwV m_11_0 m_11_1 m_11_2 m_1_23 m_11_3) (hdV 0 (by decide +kernel) rfl) ⟨Nat.le_of_ble_eq_true rfl, Nat.le_of_ble_eq_true rfl⟩ rfl rfl (ci := 1) (q0 := 4) rfl rfl rfl hl.1 (Nat.le_of_ble_eq_true rfl) dX11_jobs_141 ⟨Nat.le_trans (newC_le _ _) (Nat.le_of_ble_eq_true rfl), (Nat.le_of_ble_eq_true rfl)⟩ (fun t_45 H locs hw hP hD hS => ?_)
          obtain ⟨hok, f_47⟩ := hw
          have hfr : frA [(0, 1), (2, 2), (2, 3), (2, 4), (2, 5), (2, 6), (2, 7), (3, 8), (4, 3), (4, 4), (4, 5), (4, 8), (4, 9), (4, 10), (4, 11), (4, 12), (4, 13), (4, 14), (4, 15), (5, 7), (5, 9), (5, 10), (5, 11), (5, 12), (5, 14), (5, 15), (5, 16), (5, 17), (5, 18), (5, 19), (7, 2), (7, 3), (7, 4), (7, 5), (7, 6), (7, 7), (7, 8), (7, 9), (7, 10), (7, 12), (7, 14), (7, 15), (18, 1), (18, 2), (18, 3), (19, 3), (20, 3), (21, 3), (23, 3), (23, 6), (23, 12), (24, 2), (24, 3), (24, 4), (24, 5), (24, 6), (24, 8), (29, 2), (29, 3), (29, 4), (29, 5), (29, 6), (29, 7)] [(4, 6), (4, 7), (5, 13), (24, 7), (24, 9)] [8, 9, 10, 11, 12, 15, 16, 17, 22, 26, 27, 28, 30, 31, 32, 33, 34, 35, 36, 37, 38, 39, 40, 42, 43, 44, 45, 46, 47, 48, 49, 50, 51] [13, 14, 25, 41] t t_45 := frA_tr hfr f_47 rfl
          have h_48 : (t_45.1 0 1).toInt = (t1.1 0 1).toInt := ti_eq (f_47.1 0 1 rfl)
          have h_49 : (t_45.1 18 2).toInt = (t1.1 18 2).toInt := ti_eq (f_47.1 18 2 rfl)
          have h_50 : (t_45.1 29 4).toInt = (t1.1 29 4).toInt := ti_eq (f_47.1 29 4 rfl)
          have h_51 : (t_45.1 29 7).toInt = (t1.1 29 7).toInt := ti_eq (f_47.1 29 7 rfl)
          have e_52 : t_45.2.2.1 1 = t.2.2.1 1 := (f_47.2.2.1 1 rfl).trans (e_39)
          have h_53 : (0 : Int) ≤ (t_45.1 0 1).toInt ∧ (t_45.1 0 1).toInt ≤ 1280 := hok.1 0 1
          have h_54 : (0 : Int) ≤ (t_45.1 18 2).toInt ∧ (t_45.1 18 2).toInt ≤ 2700 := hok.1 18 2
          have h_55 : (0 : Int) ≤ (t_45.1 29 4).toInt ∧ (t_45.1 29 4).toInt ≤ 1281 := hok.1 29 4
          have h_56 : (0 : Int) ≤ (t_45.1 29 7).toInt ∧ (t_45.1 29 7).toInt ≤ 1280 := hok.1 29 7
          exact L_144 t_45 d1 w122_1 w122_2 w122_3 w122_4 _ _ _ hok hfr hod hle hdf ⟨by omega, by omega⟩ ⟨by omega, by omega⟩ ⟨by omega, by omega⟩ (show (t_45.1 0 1).toInt = 0 from by omega) (show (t_45.1 18 2).toInt ≤ 1281 from by omega) (show cc (t.2.2.1 1) ((t.1 0 1).toInt).toNat 0 0 = ((w122_2.toInt : Int).toNat + 1) + cc (t.2.2.1 1) ((t.1 0 1).toInt).toNat ((t_45.1 29 4).toInt).toNat 0 from by first | exact jc_on hi122_2 (by omega) | exact jc_on hi137_2 (by omega)) (show 0 ≤ w122_2.toInt from by omega) (show w122_2.toInt = w122_3.toInt from by omega) (show (t_45.1 29 7).toInt = (t.1 0 1).toInt from by omega) (show w122_1.toInt = (t.1 0 1).toInt from by omega) (show (512 : Int) - w122_3.toInt < (fuel_21 : Int) + 1 from by omega) hP hD hS (lv_sub hl [0, 1, 2, 3, 4] rfl)
        · replace c_44 : w122_4.toInt = (-1) := i_eq c_44
          refine lv_aload_n C.1 C.2.1 dX11_jobs_128 rfl (lv_at hl 0 rfl) ?_
          refine g_DVi (As := []) (rest := []) C hP hD hS hA (T_X11_runJob l D K Z Y ad d1 t1 hok hod ) hE hZ hX hle hdf (uwV m_76_14 m_76_15 m_76_16 m_1_2 m_76_17) (hdV 0 (by decide +kernel) rfl) ⟨Nat.le_of_ble_eq_true rfl, Nat.le_of_ble_eq_true rfl⟩ rfl rfl (ci := 10) (q0 := 0) rfl rfl rfl hl.1 (Nat.le_of_ble_eq_true rfl) dX11_jobs_129 ⟨Nat.le_of_ble_eq_true rfl, Nat.le_of_ble_eq_true rfl⟩ (fun r_58 t_57 d_59 H locs hw hP hD hS hln hle hdf => ?_)
          obtain ⟨hok, f_60, hod, h_61, h_62⟩ := hw
          have hfr : frA [(0, 1), (2, 2), (2, 3), (2, 4), (2, 5), (2, 6), (2, 7), (3, 8), (4, 3), (4, 4), (4, 5), (4, 8), (4, 9), (4, 10), (4, 11), (4, 12), (4, 13), (4, 14), (4, 15), (5, 7), (5, 9), (5, 10), (5, 11), (5, 12), (5, 14), (5, 15), (5, 16), (5, 17), (5, 18), (5, 19), (7, 2), (7, 3), (7, 4), (7, 5), (7, 6), (7, 7), (7, 8), (7, 9), (7, 10), (7, 12), (7, 14), (7, 15), (18, 1), (18, 2), (18, 3), (19, 3), (20, 3), (21, 3), (23, 3), (23, 6), (23, 12), (24, 2), (24, 3), (24, 4), (24, 5), (24, 6), (24, 8), (29, 2), (29, 3), (29, 4), (29, 5), (29, 6), (29, 7)] [(4, 6), (4, 7), (5, 13), (24, 7), (24, 9)] [8, 9, 10, 11, 12, 15, 16, 17, 22, 26, 27, 28, 30, 31, 32, 33, 34, 35, 36, 37, 38, 39, 40, 42, 43, 44, 45, 46, 47, 48, 49, 50, 51] [13, 14, 25, 41] t t_57 := frA_tr hfr f_60 rfl
          have h_63 : (t_57.1 0 1).toInt = (t1.1 0 1).toInt := ti_eq (f_60.1 0 1 rfl)
          have h_64 : (t_57.1 18 2).toInt = (t1.1 18 2).toInt := ti_eq (f_60.1 18 2 rfl)
          have h_65 : (t_57.1 29 4).toInt = (t1.1 29 4).toInt := ti_eq (f_60.1 29 4 rfl)
          have h_66 : (t_57.1 29 7).toInt = (t1.1 29 7).toInt := ti_eq (f_60.1 29 7 rfl)
          have e_67 : t_57.2.2.1 1 = t.2.2.1 1 := (f_60.2.2.1 1 rfl).trans (e_39)
          have h_68 : (0 : Int) ≤ (t_57.1 0 1).toInt ∧ (t_57.1 0 1).toInt ≤ 1280 := hok.1 0 1
          have h_69 : (0 : Int) ≤ (t_57.1 18 2).toInt ∧ (t_57.1 18 2).toInt ≤ 2700 := hok.1 18 2
          have h_70 : (0 : Int) ≤ (t_57.1 29 4).toInt ∧ (t_57.1 29 4).toInt ≤ 1281 := hok.1 29 4
          have h_71 : (0 : Int) ≤ (t_57.1 29 7).toInt ∧ (t_57.1 29 7).toInt ≤ 1280 := hok.1 29 7
          refine lv_istore (lv' := [(4, .int r_58), (0, .ref (ad 0)), (1, .int w122_1), (2, .int w122_2), (3, .int w122_3)]) C.1 C.2.1 dX11_jobs_132 hl (by decide) rfl (fun ls hl => ?_)
          have hl : lv_has ls 5 [(0, .ref (ad 0)), (1, .int w122_1), (2, .int w122_2), (3, .int w122_3), (4, .int r_58)] := lv_sub hl [1, 2, 3, 4, 0] rfl
          refine lv_goto (tgt := 144) C.1 C.2.1 dX11_jobs_134 (by decide) ?_
          exact L_144 t_57 d_59 w122_1 w122_2 w122_3 r_58 _ _ _ hok hfr hod hle hdf ⟨by omega, by omega⟩ ⟨by omega, by omega⟩ ⟨by omega, by omega⟩ (show (t_57.1 0 1).toInt = 0 from by omega) (show (t_57.1 18 2).toInt ≤ 1281 from by omega) (show cc (t.2.2.1 1) ((t.1 0 1).toInt).toNat 0 0 = ((w122_2.toInt : Int).toNat + 1) + cc (t.2.2.1 1) ((t.1 0 1).toInt).toNat ((t_57.1 29 4).toInt).toNat 0 from by first | exact jc_on hi122_2 (by omega) | exact jc_on hi137_2 (by omega)) (show 0 ≤ w122_2.toInt from by omega) (show w122_2.toInt = w122_3.toInt from by omega) (show (t_57.1 29 7).toInt = (t.1 0 1).toInt from by omega) (show w122_1.toInt = (t.1 0 1).toInt from by omega) (show (512 : Int) - w122_3.toInt < (fuel_21 : Int) + 1 from by omega) hP hD hS (lv_sub hl [0, 1, 2, 3, 4] rfl)
      have L_66 : ∀ (t1 : tSt) (d1 : dSt) (w66_1 : Int32) (w66_2 : Int32) (w66_3 : Int32) (H : Heap) (locs : List Loc) (ls : Array Slot), okX t1 → frA [(0, 1), (2, 2), (2, 3), (2, 4), (2, 5), (2, 6), (2, 7), (3, 8), (4, 3), (4, 4), (4, 5), (4, 8), (4, 9), (4, 10), (4, 11), (4, 12), (4, 13), (4, 14), (4, 15), (5, 7), (5, 9), (5, 10), (5, 11), (5, 12), (5, 14), (5, 15), (5, 16), (5, 17), (5, 18), (5, 19), (7, 2), (7, 3), (7, 4), (7, 5), (7, 6), (7, 7), (7, 8), (7, 9), (7, 10), (7, 12), (7, 14), (7, 15), (18, 1), (18, 2), (18, 3), (19, 3), (20, 3), (21, 3), (23, 3), (23, 6), (23, 12), (24, 2), (24, 3), (24, 4), (24, 5), (24, 6), (24, 8), (29, 2), (29, 3), (29, 4), (29, 5), (29, 6), (29, 7)] [(4, 6), (4, 7), (5, 13), (24, 7), (24, 9)] [8, 9, 10, 11, 12, 15, 16, 17, 22, 26, 27, 28, 30, 31, 32, 33, 34, 35, 36, 37, 38, 39, 40, 42, 43, 44, 45, 46, 47, 48, 49, 50, 51] [13, 14, 25, 41] t t1 → okD d1 → dLe d d1 → dFr s.heap.size d d1 → (0 : Int) ≤ w66_1.toInt ∧ w66_1.toInt ≤ 3999 → (0 : Int) ≤ w66_3.toInt ∧ w66_3.toInt ≤ 511 → ((t1.1 0 1).toInt = 0) → (((t1.1 18 2).toInt ≤ (t.1 18 2).toInt ∨ (t1.1 18 2).toInt ≤ 1281)) → (cc (t.2.2.1 1) ((t.1 0 1).toInt).toNat 0 0 = ((w66_2.toInt : Int).toNat + 1) + cc (t.2.2.1 1) ((t.1 0 1).toInt).toNat ((t1.1 29 4).toInt).toNat 0) → (0 ≤ w66_2.toInt) → (w66_2.toInt = w66_3.toInt) → ((t1.1 29 7).toInt = (t.1 0 1).toInt) → (w66_1.toInt = (t.1 0 1).toInt) → (512 : Int) - w66_3.toInt < (fuel_21 : Int) + 1 → va_P D vwCl ((WX d1) K ad t1) H → va_D A ((WX d1) K ad t1) → va_S A s.heap H locs → lv_has ls 5 [(0, .ref (ad 0)), (1, .int w66_1), (2, .int w66_2), (3, .int w66_3)] → W p l e (rmD 12 13000 3640000) s m [.ref (ad 0)].toArray below meth c H locs (newC d d1) 246800 (MQ below (QDI D K ad d (fun (r : Int32) (u : tSt) (dd : dSt) => okX u ∧ frA [(0, 1), (2, 2), (2, 3), (2, 4), (2, 5), (2, 6), (2, 7), (3, 8), (4, 3), (4, 4), (4, 5), (4, 8), (4, 9), (4, 10), (4, 11), (4, 12), (4, 13), (4, 14), (4, 15), (5, 7), (5, 9), (5, 10), (5, 11), (5, 12), (5, 14), (5, 15), (5, 16), (5, 17), (5, 18), (5, 19), (7, 2), (7, 3), (7, 4), (7, 5), (7, 6), (7, 7), (7, 8), (7, 9), (7, 10), (7, 12), (7, 14), (7, 15), (18, 1), (18, 2), (18, 3), (19, 3), (20, 3), (21, 3), (23, 3), (23, 6), (23, 12), (24, 2), (24, 3), (24, 4), (24, 5), (24, 6), (24, 8), (29, 2), (29, 3), (29, 4), (29, 5), (29, 6), (29, 7)] [(4, 6), (4, 7), (5, 13), (24, 7), (24, 9)] [8, 9, 10, 11, 12, 15, 16, 17, 22, 26, 27, 28, 30, 31, 32, 33, 34, 35, 36, 37, 38, 39, 40, 42, 43, 44, 45, 46, 47, 48, 49, 50, 51] [13, 14, 25, 41] t u ∧ okD dd ∧ (-2147483648 : Int) ≤ r.toInt ∧ r.toInt ≤ 2147483647 ∧ ((u.1 0 1).toInt = 0) ∧ (((u.1 18 2).toInt ≤ (t.1 18 2).toInt ∨ (u.1 18 2).toInt ≤ 1281)) ∧ (r.toInt = ((cc (t.2.2.1 1) ((t.1 0 1).toInt).toNat 0 0 : Nat) : Int))) s.heap.size A) [.ref (ad 0)].toArray s 13000 3640000 A) (F0 m 66 ls []) := by
        intro t1 d1 w66_1 w66_2 w66_3 H locs ls hok hfr hod hle hdf hw66_1 hw66_3 hi66_0 hi66_1 hi66_2 hi66_3 hi66_4 hi66_5 hi66_6 hm66_21 hP hD hS hl
        have e_72 : t1.2.2.1 1 = t.2.2.1 1 := hfr.2.2.1 1 rfl
        have h_73 : (0 : Int) ≤ (t1.1 0 1).toInt ∧ (t1.1 0 1).toInt ≤ 1280 := hok.1 0 1
        have h_74 : (0 : Int) ≤ (t1.1 18 2).toInt ∧ (t1.1 18 2).toInt ≤ 2700 := hok.1 18 2
        have h_75 : (0 : Int) ≤ (t1.1 29 4).toInt ∧ (t1.1 29 4).toInt ≤ 1281 := hok.1 29 4
        have h_76 : (0 : Int) ≤ (t1.1 29 7).toInt ∧ (t1.1 29 7).toInt ≤ 1280 := hok.1 29 7
        refine lv_aload_n C.1 C.2.1 dX11_jobs_66 rfl (lv_at hl 0 rfl) ?_
        refine g_DVi (As := []) (rest := []) C hP hD hS hA (T_X11_layJob l D K Z Y ad d1 t1 hok hod ) hE hZ hX hle hdf (uwV m_74_10 m_74_11 m_74_12 m_1_2 m_74_13) (hdV 0 (by decide +kernel) rfl) ⟨Nat.le_of_ble_eq_true rfl, Nat.le_of_ble_eq_true rfl⟩ rfl rfl (ci := 10) (q0 := 0) rfl rfl rfl hl.1 (Nat.le_of_ble_eq_true rfl) dX11_jobs_67 ⟨Nat.le_of_ble_eq_true rfl, Nat.le_of_ble_eq_true rfl⟩ (fun r_78 t_77 d_79 H locs hw hP hD hS hln hle hdf => ?_)
        obtain ⟨hok, f_80, hod, h_81, h_82, p_83⟩ := hw
        have hfr : frA [(0, 1), (2, 2), (2, 3), (2, 4), (2, 5), (2, 6), (2, 7), (3, 8), (4, 3), (4, 4), (4, 5), (4, 8), (4, 9), (4, 10), (4, 11), (4, 12), (4, 13), (4, 14), (4, 15), (5, 7), (5, 9), (5, 10), (5, 11), (5, 12), (5, 14), (5, 15), (5, 16), (5, 17), (5, 18), (5, 19), (7, 2), (7, 3), (7, 4), (7, 5), (7, 6), (7, 7), (7, 8), (7, 9), (7, 10), (7, 12), (7, 14), (7, 15), (18, 1), (18, 2), (18, 3), (19, 3), (20, 3), (21, 3), (23, 3), (23, 6), (23, 12), (24, 2), (24, 3), (24, 4), (24, 5), (24, 6), (24, 8), (29, 2), (29, 3), (29, 4), (29, 5), (29, 6), (29, 7)] [(4, 6), (4, 7), (5, 13), (24, 7), (24, 9)] [8, 9, 10, 11, 12, 15, 16, 17, 22, 26, 27, 28, 30, 31, 32, 33, 34, 35, 36, 37, 38, 39, 40, 42, 43, 44, 45, 46, 47, 48, 49, 50, 51] [13, 14, 25, 41] t t_77 := frA_tr hfr f_80 rfl
        have h_84 : (t_77.1 0 1).toInt = (t1.1 0 1).toInt := ti_eq (f_80.1 0 1 rfl)
        have h_85 : (t_77.1 29 4).toInt = (t1.1 29 4).toInt := ti_eq (f_80.1 29 4 rfl)
        have h_86 : (t_77.1 29 7).toInt = (t1.1 29 7).toInt := ti_eq (f_80.1 29 7 rfl)
        have e_87 : t_77.2.2.1 1 = t.2.2.1 1 := (f_80.2.2.1 1 rfl).trans (e_72)
        have h_88 : (0 : Int) ≤ (t_77.1 0 1).toInt ∧ (t_77.1 0 1).toInt ≤ 1280 := hok.1 0 1
        have h_89 : (0 : Int) ≤ (t_77.1 18 2).toInt ∧ (t_77.1 18 2).toInt ≤ 2700 := hok.1 18 2
        have h_90 : (0 : Int) ≤ (t_77.1 29 4).toInt ∧ (t_77.1 29 4).toInt ≤ 1281 := hok.1 29 4
        have h_91 : (0 : Int) ≤ (t_77.1 29 7).toInt ∧ (t_77.1 29 7).toInt ≤ 1280 := hok.1 29 7
        replace p_83 : (t_77.1 18 2).toInt ≤ 1281 := p_83
        refine lv_istore (lv' := [(4, .int r_78), (0, .ref (ad 0)), (1, .int w66_1), (2, .int w66_2), (3, .int w66_3)]) C.1 C.2.1 dX11_jobs_70 hl (by decide) rfl (fun ls hl => ?_)
        have hl : lv_has ls 5 [(0, .ref (ad 0)), (1, .int w66_1), (2, .int w66_2), (3, .int w66_3), (4, .int r_78)] := lv_sub hl [1, 2, 3, 4, 0] rfl
        refine lv_iload C.1 C.2.1 dX11_jobs_72 (lv_at hl 4 rfl) ?_
        refine lv_iconst (v := 3) C.1 C.2.1 dX11_jobs_74 (by decide) ?_
        refine lv_icmp_ne (tgt := 122) C.1 C.2.1 dX11_jobs_75 (by decide) (fun c_92 => ?_) (fun c_92 => ?_)
        · replace c_92 : ¬ r_78.toInt = 3 := i_ne c_92
          exact L_122 t_77 d_79 w66_1 w66_2 w66_3 r_78 _ _ _ hok hfr hod hle hdf ⟨by omega, by omega⟩ ⟨by omega, by omega⟩ ⟨by omega, by omega⟩ (show (t_77.1 0 1).toInt = 0 from by omega) (show (t_77.1 18 2).toInt ≤ 1281 from by omega) (show cc (t.2.2.1 1) ((t.1 0 1).toInt).toNat 0 0 = ((w66_2.toInt : Int).toNat + 1) + cc (t.2.2.1 1) ((t.1 0 1).toInt).toNat ((t_77.1 29 4).toInt).toNat 0 from by exact jc_on hi66_2 (by omega)) (show 0 ≤ w66_2.toInt from by omega) (show w66_2.toInt = w66_3.toInt from by omega) (show (t_77.1 29 7).toInt = (t.1 0 1).toInt from by omega) (show w66_1.toInt = (t.1 0 1).toInt from by omega) (show (512 : Int) - w66_3.toInt < (fuel_21 : Int) + 1 from by omega) hP hD hS (lv_sub hl [0, 1, 2, 3, 4] rfl)
        · replace c_92 : r_78.toInt = 3 := i_eq c_92
          refine lv_aload_n C.1 C.2.1 dX11_jobs_78 rfl (lv_at hl 0 rfl) ?_
          refine k_get (v := .ref (ad 7)) C hP 0 rfl rfl inlX11 7 (by decide) m_2_18 rfl dX11_jobs_79 ?_
          refine lv_iconst (v := 1) C.1 C.2.1 dX11_jobs_82 (by decide) ?_
          refine hz_Vi (As := [.int 1]) (rest := []) C hP hD hS hA (T_X3_wants l D K Z Y ad d_79 t_77 hok 1 (show (0 : Int) ≤ (1 : Int32).toInt ∧ (1 : Int32).toInt ≤ 4 from ⟨by decide, by decide⟩)) hE hZ (uwV m_76_10 m_76_11 m_76_12 m_2_17 m_76_13) (hdV 1 (by decide +kernel) rfl) ⟨Nat.le_of_ble_eq_true rfl, Nat.le_of_ble_eq_true rfl⟩ rfl rfl (ci := 2) (q0 := 7) rfl rfl rfl hl.1 (Nat.le_of_ble_eq_true rfl) dX11_jobs_83 ⟨Nat.le_trans (newC_le _ _) (Nat.le_of_ble_eq_true rfl), (Nat.le_of_ble_eq_true rfl)⟩ (fun r_94 t_93 H locs hw hP hD hS => ?_)
          obtain ⟨h_96, h_97⟩ := hw
          refine lv_if_eq (tgt := 122) C.1 C.2.1 dX11_jobs_86 (by decide) (fun c_98 => ?_) (fun c_98 => ?_)
          · replace c_98 : r_94.toInt = 0 := i_eq c_98
            exact L_122 t_77 d_79 w66_1 w66_2 w66_3 r_78 _ _ _ hok hfr hod hle hdf ⟨by omega, by omega⟩ ⟨by omega, by omega⟩ ⟨by omega, by omega⟩ (show (t_77.1 0 1).toInt = 0 from by omega) (show (t_77.1 18 2).toInt ≤ 1281 from by omega) (show cc (t.2.2.1 1) ((t.1 0 1).toInt).toNat 0 0 = ((w66_2.toInt : Int).toNat + 1) + cc (t.2.2.1 1) ((t.1 0 1).toInt).toNat ((t_77.1 29 4).toInt).toNat 0 from by exact jc_on hi66_2 (by omega)) (show 0 ≤ w66_2.toInt from by omega) (show w66_2.toInt = w66_3.toInt from by omega) (show (t_77.1 29 7).toInt = (t.1 0 1).toInt from by omega) (show w66_1.toInt = (t.1 0 1).toInt from by omega) (show (512 : Int) - w66_3.toInt < (fuel_21 : Int) + 1 from by omega) hP hD hS (lv_sub hl [0, 1, 2, 3, 4] rfl)
          · replace c_98 : ¬ r_94.toInt = 0 := i_ne c_98
            refine lv_aload_n C.1 C.2.1 dX11_jobs_89 rfl (lv_at hl 0 rfl) ?_
            refine k_get (v := .ref (ad 5)) C hP 0 rfl rfl inlX11 5 (by decide) m_2_10 rfl dX11_jobs_90 ?_
            refine lv_aload_n C.1 C.2.1 dX11_jobs_93 rfl (lv_at hl 0 rfl) ?_
            refine k_get (v := .ref (ad 7)) C hP 0 rfl rfl inlX11 7 (by decide) m_2_18 rfl dX11_jobs_94 ?_
            have h_99 : (0 : Int) ≤ (t_77.1 7 5).toInt ∧ (t_77.1 7 5).toInt ≤ 1281 := hok.1 7 5
            refine k_get (v := .int (t_77.1 7 5)) C hP 7 rfl rfl inlX3 5 (by decide) m_71_10 rfl dX11_jobs_97 ?_
            refine lv_aload_n C.1 C.2.1 dX11_jobs_100 rfl (lv_at hl 0 rfl) ?_
            refine k_get (v := .ref (ad 7)) C hP 0 rfl rfl inlX11 7 (by decide) m_2_18 rfl dX11_jobs_101 ?_
            have h_100 : (0 : Int) ≤ (t_77.1 7 6).toInt ∧ (t_77.1 7 6).toInt ≤ 1280 := hok.1 7 6
            refine k_get (v := .int (t_77.1 7 6)) C hP 7 rfl rfl inlX3 6 (by decide) m_71_11 rfl dX11_jobs_104 ?_
            refine lv_iconst (v := 1) C.1 C.2.1 dX11_jobs_107 (by decide) ?_
            refine hz_Vv (As := [.int (t_77.1 7 5), .int (t_77.1 7 6), .int 1]) (rest := []) C hP hD hS hA (T_X0_open l D K Z Y ad d_79 t_77 hok ((t_77.1 7 5)) (show (0 : Int) ≤ ((t_77.1 7 5) : Int32).toInt ∧ ((t_77.1 7 5) : Int32).toInt ≤ 1281 from ⟨by omega, by omega⟩) ((t_77.1 7 6)) (show (0 : Int) ≤ ((t_77.1 7 6) : Int32).toInt ∧ ((t_77.1 7 6) : Int32).toInt ≤ 1280 from ⟨by omega, by omega⟩) 1 (show (0 : Int) ≤ (1 : Int32).toInt ∧ (1 : Int32).toInt ≤ 1 from ⟨by decide, by decide⟩)) hE hZ (uwV m_11_22 m_11_23 m_12_0 m_2_2 m_12_1) (hdV 3 (by decide +kernel) rfl) ⟨Nat.le_of_ble_eq_true rfl, Nat.le_of_ble_eq_true rfl⟩ rfl rfl (ci := 0) (q0 := 5) rfl rfl rfl hl.1 (Nat.le_of_ble_eq_true rfl) dX11_jobs_108 ⟨Nat.le_trans (newC_le _ _) (Nat.le_of_ble_eq_true rfl), (Nat.le_of_ble_eq_true rfl)⟩ (fun t_101 H locs hw hP hD hS => ?_)
            obtain ⟨hok, f_103⟩ := hw
            have hfr : frA [(0, 1), (2, 2), (2, 3), (2, 4), (2, 5), (2, 6), (2, 7), (3, 8), (4, 3), (4, 4), (4, 5), (4, 8), (4, 9), (4, 10), (4, 11), (4, 12), (4, 13), (4, 14), (4, 15), (5, 7), (5, 9), (5, 10), (5, 11), (5, 12), (5, 14), (5, 15), (5, 16), (5, 17), (5, 18), (5, 19), (7, 2), (7, 3), (7, 4), (7, 5), (7, 6), (7, 7), (7, 8), (7, 9), (7, 10), (7, 12), (7, 14), (7, 15), (18, 1), (18, 2), (18, 3), (19, 3), (20, 3), (21, 3), (23, 3), (23, 6), (23, 12), (24, 2), (24, 3), (24, 4), (24, 5), (24, 6), (24, 8), (29, 2), (29, 3), (29, 4), (29, 5), (29, 6), (29, 7)] [(4, 6), (4, 7), (5, 13), (24, 7), (24, 9)] [8, 9, 10, 11, 12, 15, 16, 17, 22, 26, 27, 28, 30, 31, 32, 33, 34, 35, 36, 37, 38, 39, 40, 42, 43, 44, 45, 46, 47, 48, 49, 50, 51] [13, 14, 25, 41] t t_101 := frA_tr hfr f_103 rfl
            have h_104 : (t_101.1 7 5).toInt = (t_77.1 7 5).toInt := ti_eq (f_103.1 7 5 rfl)
            have h_105 : (t_101.1 7 6).toInt = (t_77.1 7 6).toInt := ti_eq (f_103.1 7 6 rfl)
            have h_106 : (t_101.1 0 1).toInt = (t_77.1 0 1).toInt := ti_eq (f_103.1 0 1 rfl)
            have h_107 : (t_101.1 18 2).toInt = (t_77.1 18 2).toInt := ti_eq (f_103.1 18 2 rfl)
            have h_108 : (t_101.1 29 4).toInt = (t_77.1 29 4).toInt := ti_eq (f_103.1 29 4 rfl)
            have h_109 : (t_101.1 29 7).toInt = (t_77.1 29 7).toInt := ti_eq (f_103.1 29 7 rfl)
            have e_110 : t_101.2.2.1 1 = t.2.2.1 1 := (f_103.2.2.1 1 rfl).trans (e_87)
            have h_111 : (0 : Int) ≤ (t_101.1 0 1).toInt ∧ (t_101.1 0 1).toInt ≤ 1280 := hok.1 0 1
            have h_112 : (0 : Int) ≤ (t_101.1 18 2).toInt ∧ (t_101.1 18 2).toInt ≤ 2700 := hok.1 18 2
            have h_113 : (0 : Int) ≤ (t_101.1 29 4).toInt ∧ (t_101.1 29 4).toInt ≤ 1281 := hok.1 29 4
            have h_114 : (0 : Int) ≤ (t_101.1 29 7).toInt ∧ (t_101.1 29 7).toInt ≤ 1280 := hok.1 29 7
            refine lv_aload_n C.1 C.2.1 dX11_jobs_111 rfl (lv_at hl 0 rfl) ?_
            refine k_get (v := .ref (ad 6)) C hP 0 rfl rfl inlX11 6 (by decide) m_2_14 rfl dX11_jobs_112 ?_
            refine lv_bipush (v := 75) C.1 C.2.1 dX11_jobs_115 (by decide) ?_
            refine lv_iconst (v := 1) C.1 C.2.1 dX11_jobs_117 (by decide) ?_
            refine g_DVi (As := [.int 75, .int 1]) (rest := []) C hP hD hS hA (T_X7_printWrongs l D K Z Y ad d_79 t_101 hok hod 75 (show (72 : Int) ≤ (75 : Int32).toInt ∧ (75 : Int32).toInt ≤ 120 from ⟨by decide, by decide⟩) 1 (show (0 : Int) ≤ (1 : Int32).toInt ∧ (1 : Int32).toInt ≤ 1 from ⟨by decide, by decide⟩)) hE hZ hX hle hdf (uwV m_40_9 m_40_10 m_40_11 m_2_13 m_40_12) (hdV 2 (by decide +kernel) rfl) ⟨Nat.le_of_ble_eq_true rfl, Nat.le_of_ble_eq_true rfl⟩ rfl rfl (ci := 6) (q0 := 6) rfl rfl rfl hl.1 (Nat.le_of_ble_eq_true rfl) dX11_jobs_118 ⟨Nat.le_of_ble_eq_true rfl, Nat.le_of_ble_eq_true rfl⟩ (fun r_116 t_115 d_117 H locs hw hP hD hS hln hle hdf => ?_)
            obtain ⟨hok, f_118, hod, h_119, h_120⟩ := hw
            have hfr : frA [(0, 1), (2, 2), (2, 3), (2, 4), (2, 5), (2, 6), (2, 7), (3, 8), (4, 3), (4, 4), (4, 5), (4, 8), (4, 9), (4, 10), (4, 11), (4, 12), (4, 13), (4, 14), (4, 15), (5, 7), (5, 9), (5, 10), (5, 11), (5, 12), (5, 14), (5, 15), (5, 16), (5, 17), (5, 18), (5, 19), (7, 2), (7, 3), (7, 4), (7, 5), (7, 6), (7, 7), (7, 8), (7, 9), (7, 10), (7, 12), (7, 14), (7, 15), (18, 1), (18, 2), (18, 3), (19, 3), (20, 3), (21, 3), (23, 3), (23, 6), (23, 12), (24, 2), (24, 3), (24, 4), (24, 5), (24, 6), (24, 8), (29, 2), (29, 3), (29, 4), (29, 5), (29, 6), (29, 7)] [(4, 6), (4, 7), (5, 13), (24, 7), (24, 9)] [8, 9, 10, 11, 12, 15, 16, 17, 22, 26, 27, 28, 30, 31, 32, 33, 34, 35, 36, 37, 38, 39, 40, 42, 43, 44, 45, 46, 47, 48, 49, 50, 51] [13, 14, 25, 41] t t_115 := frA_tr hfr f_118 rfl
            have h_121 : (t_115.1 7 5).toInt = (t_101.1 7 5).toInt := ti_eq (f_118.1 7 5 rfl)
            have h_122 : (t_115.1 7 6).toInt = (t_101.1 7 6).toInt := ti_eq (f_118.1 7 6 rfl)
            have h_123 : (t_115.1 0 1).toInt = (t_101.1 0 1).toInt := ti_eq (f_118.1 0 1 rfl)
            have h_124 : (t_115.1 18 2).toInt = (t_101.1 18 2).toInt := ti_eq (f_118.1 18 2 rfl)
            have h_125 : (t_115.1 29 4).toInt = (t_101.1 29 4).toInt := ti_eq (f_118.1 29 4 rfl)
            have h_126 : (t_115.1 29 7).toInt = (t_101.1 29 7).toInt := ti_eq (f_118.1 29 7 rfl)
            have e_127 : t_115.2.2.1 1 = t.2.2.1 1 := (f_118.2.2.1 1 rfl).trans (e_110)
            have h_128 : (0 : Int) ≤ (t_115.1 0 1).toInt ∧ (t_115.1 0 1).toInt ≤ 1280 := hok.1 0 1
            have h_129 : (0 : Int) ≤ (t_115.1 18 2).toInt ∧ (t_115.1 18 2).toInt ≤ 2700 := hok.1 18 2
            have h_130 : (0 : Int) ≤ (t_115.1 29 4).toInt ∧ (t_115.1 29 4).toInt ≤ 1281 := hok.1 29 4
            have h_131 : (0 : Int) ≤ (t_115.1 29 7).toInt ∧ (t_115.1 29 7).toInt ≤ 1280 := hok.1 29 7
            refine lv_pop C.1 C.2.1 dX11_jobs_121 rfl ?_
            exact L_122 t_115 d_117 w66_1 w66_2 w66_3 r_78 _ _ _ hok hfr hod hle hdf ⟨by omega, by omega⟩ ⟨by omega, by omega⟩ ⟨by omega, by omega⟩ (show (t_115.1 0 1).toInt = 0 from by omega) (show (t_115.1 18 2).toInt ≤ 1281 from by omega) (show cc (t.2.2.1 1) ((t.1 0 1).toInt).toNat 0 0 = ((w66_2.toInt : Int).toNat + 1) + cc (t.2.2.1 1) ((t.1 0 1).toInt).toNat ((t_115.1 29 4).toInt).toNat 0 from by exact jc_on hi66_2 (by omega)) (show 0 ≤ w66_2.toInt from by omega) (show w66_2.toInt = w66_3.toInt from by omega) (show (t_115.1 29 7).toInt = (t.1 0 1).toInt from by omega) (show w66_1.toInt = (t.1 0 1).toInt from by omega) (show (512 : Int) - w66_3.toInt < (fuel_21 : Int) + 1 from by omega) hP hD hS (lv_sub hl [0, 1, 2, 3, 4] rfl)
      have hby := e_10
      refine lv_iload_n C.1 C.2.1 dX11_jobs_21 rfl (lv_at hl 3 rfl) ?_
      refine lv_sipush (v := 512) C.1 C.2.1 dX11_jobs_22 (by decide) ?_
      refine lv_icmp_ge (tgt := 159) C.1 C.2.1 dX11_jobs_25 (by decide) (fun c_132 => ?_) (fun c_132 => ?_)
      · replace c_132 : 512 ≤ w21_3.toInt := i_le c_132
        refine lv_iload_n C.1 C.2.1 dX11_jobs_159 rfl (lv_at hl 2 rfl) ?_
        exact g_Diret C hr hlocks hP hD hS rfl ⟨hok, hfr, hod, (i_rng _).1, (i_rng _).2, (show (t1.1 0 1).toInt = 0 from by omega), (show ((t1.1 18 2).toInt ≤ (t.1 18 2).toInt ∨ (t1.1 18 2).toInt ≤ 1281) from by omega), (show w21_2.toInt = ((cc (t.2.2.1 1) ((t.1 0 1).toInt).toNat 0 0 : Nat) : Int) from by first | exact jc_0 hi21_2 (hk0 (by omega)) (by omega) | exact (jc_no hi21_2 (by omega) (by omega)).elim)⟩ hle hdf (Nat.le_of_ble_eq_true rfl) (Nat.le_of_ble_eq_true rfl) dX11_jobs_160
      · replace c_132 : w21_3.toInt < 512 := i_nle c_132
        refine lv_aload_n C.1 C.2.1 dX11_jobs_28 rfl (lv_at hl 0 rfl) ?_
        refine k_get (v := .ref (ad 7)) C hP 0 rfl rfl inlX11 7 (by decide) m_2_18 rfl dX11_jobs_29 ?_
        refine hz_Vi (As := []) (rest := []) C hP hD hS hA (U_X3_seek l D K Z Y ad d1 t1 hok ) hE hZ (uwV m_71_12 m_71_13 m_71_14 m_2_17 m_71_15) (hdV 0 (by decide +kernel) rfl) ⟨Nat.le_of_ble_eq_true rfl, Nat.le_of_ble_eq_true rfl⟩ rfl rfl (ci := 2) (q0 := 7) rfl rfl rfl hl.1 (Nat.le_of_ble_eq_true rfl) dX11_jobs_32 ⟨Nat.le_trans (newC_le _ _) (Nat.le_of_ble_eq_true rfl), (Nat.le_of_ble_eq_true rfl)⟩ (fun r_134 t_133 H locs hw hP hD hS => ?_)
        obtain ⟨hok, f_135, h_136, h_137, p_138, p_139, p_140⟩ := hw
        have hfr : frA [(0, 1), (2, 2), (2, 3), (2, 4), (2, 5), (2, 6), (2, 7), (3, 8), (4, 3), (4, 4), (4, 5), (4, 8), (4, 9), (4, 10), (4, 11), (4, 12), (4, 13), (4, 14), (4, 15), (5, 7), (5, 9), (5, 10), (5, 11), (5, 12), (5, 14), (5, 15), (5, 16), (5, 17), (5, 18), (5, 19), (7, 2), (7, 3), (7, 4), (7, 5), (7, 6), (7, 7), (7, 8), (7, 9), (7, 10), (7, 12), (7, 14), (7, 15), (18, 1), (18, 2), (18, 3), (19, 3), (20, 3), (21, 3), (23, 3), (23, 6), (23, 12), (24, 2), (24, 3), (24, 4), (24, 5), (24, 6), (24, 8), (29, 2), (29, 3), (29, 4), (29, 5), (29, 6), (29, 7)] [(4, 6), (4, 7), (5, 13), (24, 7), (24, 9)] [8, 9, 10, 11, 12, 15, 16, 17, 22, 26, 27, 28, 30, 31, 32, 33, 34, 35, 36, 37, 38, 39, 40, 42, 43, 44, 45, 46, 47, 48, 49, 50, 51] [13, 14, 25, 41] t t_133 := frA_tr hfr f_135 rfl
        have h_141 : (t_133.1 0 1).toInt = (t1.1 0 1).toInt := ti_eq (f_135.1 0 1 rfl)
        have h_142 : (t_133.1 18 2).toInt = (t1.1 18 2).toInt := ti_eq (f_135.1 18 2 rfl)
        have h_143 : (t_133.1 29 7).toInt = (t1.1 29 7).toInt := ti_eq (f_135.1 29 7 rfl)
        have e_144 : t_133.2.2.1 1 = t.2.2.1 1 := (f_135.2.2.1 1 rfl).trans (e_10)
        have h_145 : (0 : Int) ≤ (t_133.1 0 1).toInt ∧ (t_133.1 0 1).toInt ≤ 1280 := hok.1 0 1
        have h_146 : (0 : Int) ≤ (t_133.1 18 2).toInt ∧ (t_133.1 18 2).toInt ≤ 2700 := hok.1 18 2
        have h_147 : (0 : Int) ≤ (t_133.1 29 4).toInt ∧ (t_133.1 29 4).toInt ≤ 1281 := hok.1 29 4
        have h_148 : (0 : Int) ≤ (t_133.1 29 7).toInt ∧ (t_133.1 29 7).toInt ≤ 1280 := hok.1 29 7
        replace p_138 : r_134.toInt = 1 → cc (t1.2.2.1 1) ((t1.1 29 7).toInt).toNat ((t1.1 29 4).toInt).toNat 0 = 1 + cc (t1.2.2.1 1) ((t1.1 29 7).toInt).toNat ((t_133.1 29 4).toInt).toNat 0 := p_138
        replace p_139 : r_134.toInt = 0 → cc (t1.2.2.1 1) ((t1.1 29 7).toInt).toNat ((t1.1 29 4).toInt).toNat 0 = 0 := p_139
        replace p_140 : 0 ≤ (t_133.1 29 4).toInt := p_140
        have hk1 := p_138
        have hk0 := p_139
        rw [hby, hi21_5] at hk1 hk0
        refine lv_if_eq (tgt := 159) C.1 C.2.1 dX11_jobs_35 (by decide) (fun c_149 => ?_) (fun c_149 => ?_)
        · replace c_149 : r_134.toInt = 0 := i_eq c_149
          refine lv_iload_n C.1 C.2.1 dX11_jobs_159 rfl (lv_at hl 2 rfl) ?_
          exact g_Diret C hr hlocks hP hD hS rfl ⟨hok, hfr, hod, (i_rng _).1, (i_rng _).2, (show (t_133.1 0 1).toInt = 0 from by omega), (show ((t_133.1 18 2).toInt ≤ (t.1 18 2).toInt ∨ (t_133.1 18 2).toInt ≤ 1281) from by omega), (show w21_2.toInt = ((cc (t.2.2.1 1) ((t.1 0 1).toInt).toNat 0 0 : Nat) : Int) from by first | exact jc_0 hi21_2 (hk0 (by omega)) (by omega) | exact (jc_no hi21_2 (by omega) (by omega)).elim)⟩ hle hdf (Nat.le_of_ble_eq_true rfl) (Nat.le_of_ble_eq_true rfl) dX11_jobs_160
        · replace c_149 : ¬ r_134.toInt = 0 := i_ne c_149
          refine lv_iload_n C.1 C.2.1 dX11_jobs_38 rfl (lv_at hl 2 rfl) ?_
          refine lv_if_ne (tgt := 66) C.1 C.2.1 dX11_jobs_39 (by decide) (fun c_150 => ?_) (fun c_150 => ?_)
          · replace c_150 : ¬ w21_2.toInt = 0 := i_ne c_150
            exact L_66 t_133 d1 w21_1 w21_2 w21_3 _ _ _ hok hfr hod hle hdf ⟨by omega, by omega⟩ ⟨by omega, by omega⟩ (show (t_133.1 0 1).toInt = 0 from by omega) (show ((t_133.1 18 2).toInt ≤ (t.1 18 2).toInt ∨ (t_133.1 18 2).toInt ≤ 1281) from by omega) (show cc (t.2.2.1 1) ((t.1 0 1).toInt).toNat 0 0 = ((w21_2.toInt : Int).toNat + 1) + cc (t.2.2.1 1) ((t.1 0 1).toInt).toNat ((t_133.1 29 4).toInt).toNat 0 from by exact jc_on (jc_up hi21_2 (hk1 (by omega))) (by omega)) (show 0 ≤ w21_2.toInt from by omega) (show w21_2.toInt = w21_3.toInt from by omega) (show (t_133.1 29 7).toInt = (t.1 0 1).toInt from by omega) (show w21_1.toInt = (t.1 0 1).toInt from by omega) (show (512 : Int) - w21_3.toInt < (fuel_21 : Int) + 1 from by omega) hP hD hS (lv_sub hl [0, 1, 2, 3] rfl)
          · replace c_150 : w21_2.toInt = 0 := i_eq c_150
            refine lv_aload_n C.1 C.2.1 dX11_jobs_42 rfl (lv_at hl 0 rfl) ?_
            refine k_get (v := .ref (ad 1)) C hP 0 rfl rfl inlX11 0 (by decide) m_2_6 rfl dX11_jobs_43 ?_
            refine lv_iconst (v := 0) C.1 C.2.1 dX11_jobs_46 (by decide) ?_
            refine lv_aload_n C.1 C.2.1 dX11_jobs_47 rfl (lv_at hl 0 rfl) ?_
            refine k_get (v := .ref (ad 2)) C hP 0 rfl rfl inlX11 2 (by decide) m_2_7 rfl dX11_jobs_48 ?_
            refine k_get (v := .ref (ad 8)) C hP 2 rfl rfl inlX9 0 (by decide) m_10_12 rfl dX11_jobs_51 ?_
            refine lv_iconst (v := 0) C.1 C.2.1 dX11_jobs_54 (by decide) ?_
            refine lv_iload_n C.1 C.2.1 dX11_jobs_55 rfl (lv_at hl 1 rfl) ?_
            refine k_copy (ws' := (WX d1) K ad (uF t_133 8 (va_cpy (t_133.2.2.1 1) (t_133.2.2.1 8) (0 : Int32).toNatClampNeg (0 : Int32).toNatClampNeg (w21_1 : Int32).toNatClampNeg))) C hl.1 hP hD hS 1 8 2 rfl rfl rfl rfl (by decide) (by decide) (fun hz => by have hz2 : w21_1.toInt < 0 := i_lt hz; omega) rfl rfl rfl (by have hq1 := clamp_eq (x := (0 : Int32)) (by first | decide | omega); have hq2 := clamp_eq (x := (w21_1 : Int32)) (by first | decide | omega); first | (have hq3 : (0 : Int32).toInt = 0 := rfl; omega) | omega) (by have hq1 := clamp_eq (x := (0 : Int32)) (by first | decide | omega); have hq2 := clamp_eq (x := (w21_1 : Int32)) (by first | decide | omega); first | (have hq3 : (0 : Int32).toInt = 0 := rfl; omega) | omega) (fun i hi => fit_b (hok.2.1 1 _)) m_10_13 m_10_14 m_10_15 m_10_16 (Nat.le_of_ble_eq_true rfl) (Nat.le_of_ble_eq_true rfl) rfl dX11_jobs_56 (fun H locs hP hD hS => ?_)
            have hok : okX (uF t_133 8 (va_cpy (t_133.2.2.1 1) (t_133.2.2.1 8) (0 : Int32).toNatClampNeg (0 : Int32).toNatClampNeg (w21_1 : Int32).toNatClampNeg)) := ⟨hok.1, okB_F hok.2.1 8 (cpy_r (hok.2.1 1) (hok.2.1 8)), trivial⟩
            have hfr : frA [(0, 1), (2, 2), (2, 3), (2, 4), (2, 5), (2, 6), (2, 7), (3, 8), (4, 3), (4, 4), (4, 5), (4, 8), (4, 9), (4, 10), (4, 11), (4, 12), (4, 13), (4, 14), (4, 15), (5, 7), (5, 9), (5, 10), (5, 11), (5, 12), (5, 14), (5, 15), (5, 16), (5, 17), (5, 18), (5, 19), (7, 2), (7, 3), (7, 4), (7, 5), (7, 6), (7, 7), (7, 8), (7, 9), (7, 10), (7, 12), (7, 14), (7, 15), (18, 1), (18, 2), (18, 3), (19, 3), (20, 3), (21, 3), (23, 3), (23, 6), (23, 12), (24, 2), (24, 3), (24, 4), (24, 5), (24, 6), (24, 8), (29, 2), (29, 3), (29, 4), (29, 5), (29, 6), (29, 7)] [(4, 6), (4, 7), (5, 13), (24, 7), (24, 9)] [8, 9, 10, 11, 12, 15, 16, 17, 22, 26, 27, 28, 30, 31, 32, 33, 34, 35, 36, 37, 38, 39, 40, 42, 43, 44, 45, 46, 47, 48, 49, 50, 51] [13, 14, 25, 41] t (uF t_133 8 (va_cpy (t_133.2.2.1 1) (t_133.2.2.1 8) (0 : Int32).toNatClampNeg (0 : Int32).toNatClampNeg (w21_1 : Int32).toNatClampNeg)) := frA_F hfr 8 _ rfl
            refine lv_aload_n C.1 C.2.1 dX11_jobs_59 rfl (lv_at hl 0 rfl) ?_
            refine k_get (v := .ref (ad 7)) C hP 0 rfl rfl inlX11 7 (by decide) m_2_18 rfl dX11_jobs_60 ?_
            refine hz_Vv (As := []) (rest := []) C hP hD hS hA (T_X3_openAccounts l D K Z Y ad d1 (uF t_133 8 (va_cpy (t_133.2.2.1 1) (t_133.2.2.1 8) (0 : Int32).toNatClampNeg (0 : Int32).toNatClampNeg (w21_1 : Int32).toNatClampNeg)) hok ) hE hZ (uwV m_74_4 m_74_5 m_74_6 m_2_17 m_74_7) (hdV 0 (by decide +kernel) rfl) ⟨Nat.le_of_ble_eq_true rfl, Nat.le_of_ble_eq_true rfl⟩ rfl rfl (ci := 2) (q0 := 7) rfl rfl rfl hl.1 (Nat.le_of_ble_eq_true rfl) dX11_jobs_63 ⟨Nat.le_trans (newC_le _ _) (Nat.le_of_ble_eq_true rfl), (Nat.le_of_ble_eq_true rfl)⟩ (fun t_151 H locs hw hP hD hS => ?_)
            obtain ⟨hok, f_153⟩ := hw
            have hfr : frA [(0, 1), (2, 2), (2, 3), (2, 4), (2, 5), (2, 6), (2, 7), (3, 8), (4, 3), (4, 4), (4, 5), (4, 8), (4, 9), (4, 10), (4, 11), (4, 12), (4, 13), (4, 14), (4, 15), (5, 7), (5, 9), (5, 10), (5, 11), (5, 12), (5, 14), (5, 15), (5, 16), (5, 17), (5, 18), (5, 19), (7, 2), (7, 3), (7, 4), (7, 5), (7, 6), (7, 7), (7, 8), (7, 9), (7, 10), (7, 12), (7, 14), (7, 15), (18, 1), (18, 2), (18, 3), (19, 3), (20, 3), (21, 3), (23, 3), (23, 6), (23, 12), (24, 2), (24, 3), (24, 4), (24, 5), (24, 6), (24, 8), (29, 2), (29, 3), (29, 4), (29, 5), (29, 6), (29, 7)] [(4, 6), (4, 7), (5, 13), (24, 7), (24, 9)] [8, 9, 10, 11, 12, 15, 16, 17, 22, 26, 27, 28, 30, 31, 32, 33, 34, 35, 36, 37, 38, 39, 40, 42, 43, 44, 45, 46, 47, 48, 49, 50, 51] [13, 14, 25, 41] t t_151 := frA_tr hfr f_153 rfl
            have h_154 : (t_151.1 0 1).toInt = (t_133.1 0 1).toInt := ti_eq (f_153.1 0 1 rfl)
            have h_155 : (t_151.1 18 2).toInt = (t_133.1 18 2).toInt := ti_eq (f_153.1 18 2 rfl)
            have h_156 : (t_151.1 29 4).toInt = (t_133.1 29 4).toInt := ti_eq (f_153.1 29 4 rfl)
            have h_157 : (t_151.1 29 7).toInt = (t_133.1 29 7).toInt := ti_eq (f_153.1 29 7 rfl)
            have e_158 : t_151.2.2.1 1 = t.2.2.1 1 := (f_153.2.2.1 1 rfl).trans ((uF_ne rfl).trans e_144)
            have h_159 : (0 : Int) ≤ (t_151.1 0 1).toInt ∧ (t_151.1 0 1).toInt ≤ 1280 := hok.1 0 1
            have h_160 : (0 : Int) ≤ (t_151.1 18 2).toInt ∧ (t_151.1 18 2).toInt ≤ 2700 := hok.1 18 2
            have h_161 : (0 : Int) ≤ (t_151.1 29 4).toInt ∧ (t_151.1 29 4).toInt ≤ 1281 := hok.1 29 4
            have h_162 : (0 : Int) ≤ (t_151.1 29 7).toInt ∧ (t_151.1 29 7).toInt ≤ 1280 := hok.1 29 7
            exact L_66 t_151 d1 w21_1 w21_2 w21_3 _ _ _ hok hfr hod hle hdf ⟨by omega, by omega⟩ ⟨by omega, by omega⟩ (show (t_151.1 0 1).toInt = 0 from by omega) (show ((t_151.1 18 2).toInt ≤ (t.1 18 2).toInt ∨ (t_151.1 18 2).toInt ≤ 1281) from by omega) (show cc (t.2.2.1 1) ((t.1 0 1).toInt).toNat 0 0 = ((w21_2.toInt : Int).toNat + 1) + cc (t.2.2.1 1) ((t.1 0 1).toInt).toNat ((t_151.1 29 4).toInt).toNat 0 from by exact jc_on (jc_up hi21_2 (hk1 (by omega))) (by omega)) (show 0 ≤ w21_2.toInt from by omega) (show w21_2.toInt = w21_3.toInt from by omega) (show (t_151.1 29 7).toInt = (t.1 0 1).toInt from by omega) (show w21_1.toInt = (t.1 0 1).toInt from by omega) (show (512 : Int) - w21_3.toInt < (fuel_21 : Int) + 1 from by omega) hP hD hS (lv_sub hl [0, 1, 2, 3] rfl)
  refine lv_aload_n C.1 C.2.1 dX11_jobs_0 rfl (lv_at hl 0 rfl) ?_
  refine hz_Vi (As := []) (rest := []) C hP hD hS hA (T_X11_useUpTape l D K Z Y ad d t hok ) hE hZ (uwV m_10_20 m_10_21 m_10_22 m_1_2 m_10_23) (hdV 0 (by decide +kernel) rfl) ⟨Nat.le_of_ble_eq_true rfl, Nat.le_of_ble_eq_true rfl⟩ rfl rfl (ci := 10) (q0 := 0) rfl rfl rfl hl.1 (Nat.le_of_ble_eq_true rfl) dX11_jobs_1 ⟨Nat.le_trans (newC_le _ _) (Nat.le_of_ble_eq_true rfl), (Nat.le_of_ble_eq_true rfl)⟩ (fun r_164 t_163 H locs hw hP hD hS => ?_)
  obtain ⟨hok, f_165, h_166, h_167, p_168, p_169⟩ := hw
  have hfr : frA [(0, 1), (2, 2), (2, 3), (2, 4), (2, 5), (2, 6), (2, 7), (3, 8), (4, 3), (4, 4), (4, 5), (4, 8), (4, 9), (4, 10), (4, 11), (4, 12), (4, 13), (4, 14), (4, 15), (5, 7), (5, 9), (5, 10), (5, 11), (5, 12), (5, 14), (5, 15), (5, 16), (5, 17), (5, 18), (5, 19), (7, 2), (7, 3), (7, 4), (7, 5), (7, 6), (7, 7), (7, 8), (7, 9), (7, 10), (7, 12), (7, 14), (7, 15), (18, 1), (18, 2), (18, 3), (19, 3), (20, 3), (21, 3), (23, 3), (23, 6), (23, 12), (24, 2), (24, 3), (24, 4), (24, 5), (24, 6), (24, 8), (29, 2), (29, 3), (29, 4), (29, 5), (29, 6), (29, 7)] [(4, 6), (4, 7), (5, 13), (24, 7), (24, 9)] [8, 9, 10, 11, 12, 15, 16, 17, 22, 26, 27, 28, 30, 31, 32, 33, 34, 35, 36, 37, 38, 39, 40, 42, 43, 44, 45, 46, 47, 48, 49, 50, 51] [13, 14, 25, 41] t t_163 := frA_tr hfr f_165 rfl
  have h_170 : (t_163.1 18 2).toInt = (t.1 18 2).toInt := ti_eq (f_165.1 18 2 rfl)
  have h_171 : (t_163.1 29 4).toInt = (t.1 29 4).toInt := ti_eq (f_165.1 29 4 rfl)
  have h_172 : (t_163.1 29 7).toInt = (t.1 29 7).toInt := ti_eq (f_165.1 29 7 rfl)
  have e_173 : t_163.2.2.1 1 = t.2.2.1 1 := f_165.2.2.1 1 rfl
  have h_174 : (0 : Int) ≤ (t_163.1 0 1).toInt ∧ (t_163.1 0 1).toInt ≤ 1280 := hok.1 0 1
  have h_175 : (0 : Int) ≤ (t_163.1 18 2).toInt ∧ (t_163.1 18 2).toInt ≤ 2700 := hok.1 18 2
  have h_176 : (0 : Int) ≤ (t_163.1 29 4).toInt ∧ (t_163.1 29 4).toInt ≤ 1281 := hok.1 29 4
  have h_177 : (0 : Int) ≤ (t_163.1 29 7).toInt ∧ (t_163.1 29 7).toInt ≤ 1280 := hok.1 29 7
  replace p_168 : r_164.toInt = (t.1 0 1).toInt := p_168
  replace p_169 : (t_163.1 0 1).toInt = 0 := p_169
  refine lv_istore_n (lv' := [(1, .int r_164), (0, .ref (ad 0))]) C.1 C.2.1 dX11_jobs_4 rfl hl (by decide) rfl (fun ls hl => ?_)
  have hl : lv_has ls 5 [(0, .ref (ad 0)), (1, .int r_164)] := lv_sub hl [1, 0] rfl
  refine lv_aload_n C.1 C.2.1 dX11_jobs_5 rfl (lv_at hl 0 rfl) ?_
  refine k_get (v := .ref (ad 7)) C hP 0 rfl rfl inlX11 7 (by decide) m_2_18 rfl dX11_jobs_6 ?_
  refine k_get (v := .ref (ad 29)) C hP 7 rfl rfl inlX3 0 (by decide) m_43_15 rfl dX11_jobs_9 ?_
  refine lv_iconst (v := 0) C.1 C.2.1 dX11_jobs_12 (by decide) ?_
  refine lv_iload_n C.1 C.2.1 dX11_jobs_13 rfl (lv_at hl 1 rfl) ?_
  have h_178 : (0 : Int32).toInt = 0 := rfl
  refine hz_Vv (As := [.int 0, .int r_164]) (rest := []) C hP hD hS hA (T_X9_open l D K Z Y ad d t_163 hok 0 (show (0 : Int) ≤ (0 : Int32).toInt ∧ (0 : Int32).toInt ≤ 0 from ⟨by decide, by decide⟩) (r_164) (show (0 : Int) ≤ (r_164 : Int32).toInt ∧ (r_164 : Int32).toInt ≤ 1280 from ⟨by omega, by omega⟩)) hE hZ (uwV m_43_18 m_12_10 m_12_11 m_1_17 m_12_12) (hdV 2 (by decide +kernel) rfl) ⟨Nat.le_of_ble_eq_true rfl, Nat.le_of_ble_eq_true rfl⟩ rfl rfl (ci := 8) (q0 := 29) rfl rfl rfl hl.1 (Nat.le_of_ble_eq_true rfl) dX11_jobs_14 ⟨Nat.le_trans (newC_le _ _) (Nat.le_of_ble_eq_true rfl), (Nat.le_of_ble_eq_true rfl)⟩ (fun t_179 H locs hw hP hD hS => ?_)
  obtain ⟨hok, f_181, p_182, p_183⟩ := hw
  have hfr : frA [(0, 1), (2, 2), (2, 3), (2, 4), (2, 5), (2, 6), (2, 7), (3, 8), (4, 3), (4, 4), (4, 5), (4, 8), (4, 9), (4, 10), (4, 11), (4, 12), (4, 13), (4, 14), (4, 15), (5, 7), (5, 9), (5, 10), (5, 11), (5, 12), (5, 14), (5, 15), (5, 16), (5, 17), (5, 18), (5, 19), (7, 2), (7, 3), (7, 4), (7, 5), (7, 6), (7, 7), (7, 8), (7, 9), (7, 10), (7, 12), (7, 14), (7, 15), (18, 1), (18, 2), (18, 3), (19, 3), (20, 3), (21, 3), (23, 3), (23, 6), (23, 12), (24, 2), (24, 3), (24, 4), (24, 5), (24, 6), (24, 8), (29, 2), (29, 3), (29, 4), (29, 5), (29, 6), (29, 7)] [(4, 6), (4, 7), (5, 13), (24, 7), (24, 9)] [8, 9, 10, 11, 12, 15, 16, 17, 22, 26, 27, 28, 30, 31, 32, 33, 34, 35, 36, 37, 38, 39, 40, 42, 43, 44, 45, 46, 47, 48, 49, 50, 51] [13, 14, 25, 41] t t_179 := frA_tr hfr f_181 rfl
  have h_184 : (t_179.1 0 1).toInt = (t_163.1 0 1).toInt := ti_eq (f_181.1 0 1 rfl)
  have h_185 : (t_179.1 18 2).toInt = (t_163.1 18 2).toInt := ti_eq (f_181.1 18 2 rfl)
  have e_186 : t_179.2.2.1 1 = t.2.2.1 1 := (f_181.2.2.1 1 rfl).trans (e_173)
  have h_187 : (0 : Int) ≤ (t_179.1 0 1).toInt ∧ (t_179.1 0 1).toInt ≤ 1280 := hok.1 0 1
  have h_188 : (0 : Int) ≤ (t_179.1 18 2).toInt ∧ (t_179.1 18 2).toInt ≤ 2700 := hok.1 18 2
  have h_189 : (0 : Int) ≤ (t_179.1 29 4).toInt ∧ (t_179.1 29 4).toInt ≤ 1281 := hok.1 29 4
  have h_190 : (0 : Int) ≤ (t_179.1 29 7).toInt ∧ (t_179.1 29 7).toInt ≤ 1280 := hok.1 29 7
  replace p_182 : (t_179.1 29 4).toInt = (0 : Int32).toInt := p_182
  replace p_183 : (t_179.1 29 7).toInt = r_164.toInt := p_183
  refine lv_iconst (v := 0) C.1 C.2.1 dX11_jobs_17 (by decide) ?_
  refine lv_istore_n (lv' := [(2, .int 0), (0, .ref (ad 0)), (1, .int r_164)]) C.1 C.2.1 dX11_jobs_18 rfl hl (by decide) rfl (fun ls hl => ?_)
  have hl : lv_has ls 5 [(0, .ref (ad 0)), (1, .int r_164), (2, .int 0)] := lv_sub hl [1, 2, 0] rfl
  refine lv_iconst (v := 0) C.1 C.2.1 dX11_jobs_19 (by decide) ?_
  refine lv_istore_n (lv' := [(3, .int 0), (0, .ref (ad 0)), (1, .int r_164), (2, .int 0)]) C.1 C.2.1 dX11_jobs_20 rfl hl (by decide) rfl (fun ls hl => ?_)
  have hl : lv_has ls 5 [(0, .ref (ad 0)), (1, .int r_164), (2, .int 0), (3, .int 0)] := lv_sub hl [1, 2, 3, 0] rfl
  exact L_21 513 t_179 d r_164 0 0 _ _ _ hok hfr hod hle hdf ⟨by omega, by omega⟩ ⟨by decide, by decide⟩ (show (t_179.1 0 1).toInt = 0 from by omega) (show ((t_179.1 18 2).toInt ≤ (t.1 18 2).toInt ∨ (t_179.1 18 2).toInt ≤ 1281) from by omega) (show cc (t.2.2.1 1) ((t.1 0 1).toInt).toNat 0 0 = (0 : Int).toNat + cc (t.2.2.1 1) ((t.1 0 1).toInt).toNat ((t_179.1 29 4).toInt).toNat 0 from by first | exact jc_nx hi144_2 (by assumption) (by omega) (by omega) | exact jc_st (by omega)) (show 0 ≤ 0 from by omega) (show 0 = 0 from by omega) (show (t_179.1 29 7).toInt = (t.1 0 1).toInt from by omega) (show r_164.toInt = (t.1 0 1).toInt from by omega) (show (512 : Int) - 0 < ((513 : Nat) : Int) from by omega) hP hD hS (lv_sub hl [0, 1, 2, 3] rfl)
