theorem dX12_sayNames_0 : decode cX12_sayNames 0 = .ok (.iconst 0, 1) := by decide +kernel
theorem dX12_sayNames_1 : decode cX12_sayNames 1 = .ok (.istore_n 2, 1) := by decide +kernel
theorem dX12_sayNames_10 : decode cX12_sayNames 10 = .ok (.if_icmp .eq 106, 3) := by decide +kernel
theorem dX12_sayNames_102 : decode cX12_sayNames 102 = .ok (.aload_n 0, 1) := by decide +kernel
theorem dX12_sayNames_103 : decode cX12_sayNames 103 = .ok (.aload_n 0, 1) := by decide +kernel
theorem dX12_sayNames_104 : decode cX12_sayNames 104 = .ok (.getfield 89, 3) := by decide +kernel
theorem dX12_sayNames_107 : decode cX12_sayNames 107 = .ok (.iload_n 3, 1) := by decide +kernel
theorem dX12_sayNames_108 : decode cX12_sayNames 108 = .ok (.laload, 1) := by decide +kernel
theorem dX12_sayNames_109 : decode cX12_sayNames 109 = .ok (.invokevirtual 700, 3) := by decide +kernel
theorem dX12_sayNames_112 : decode cX12_sayNames 112 = .ok (.istore_n 3, 1) := by decide +kernel
theorem dX12_sayNames_113 : decode cX12_sayNames 113 = .ok (.goto (-105), 3) := by decide +kernel
theorem dX12_sayNames_116 : decode cX12_sayNames 116 = .ok (.iload_n 2, 1) := by decide +kernel
theorem dX12_sayNames_117 : decode cX12_sayNames 117 = .ok (.ireturn, 1) := by decide +kernel
theorem dX12_sayNames_13 : decode cX12_sayNames 13 = .ok (.aload_n 0, 1) := by decide +kernel
theorem dX12_sayNames_14 : decode cX12_sayNames 14 = .ok (.invokevirtual 263, 3) := by decide +kernel
theorem dX12_sayNames_17 : decode cX12_sayNames 17 = .ok (.aload_n 0, 1) := by decide +kernel
theorem dX12_sayNames_18 : decode cX12_sayNames 18 = .ok (.aload_n 0, 1) := by decide +kernel
theorem dX12_sayNames_19 : decode cX12_sayNames 19 = .ok (.getfield 89, 3) := by decide +kernel
theorem dX12_sayNames_2 : decode cX12_sayNames 2 = .ok (.aload_n 0, 1) := by decide +kernel
theorem dX12_sayNames_22 : decode cX12_sayNames 22 = .ok (.iload_n 3, 1) := by decide +kernel
theorem dX12_sayNames_23 : decode cX12_sayNames 23 = .ok (.laload, 1) := by decide +kernel
theorem dX12_sayNames_24 : decode cX12_sayNames 24 = .ok (.invokevirtual 703, 3) := by decide +kernel
theorem dX12_sayNames_27 : decode cX12_sayNames 27 = .ok (.aload_n 0, 1) := by decide +kernel
theorem dX12_sayNames_28 : decode cX12_sayNames 28 = .ok (.bipush 12, 2) := by decide +kernel
theorem dX12_sayNames_3 : decode cX12_sayNames 3 = .ok (.lconst 0, 1) := by decide +kernel
theorem dX12_sayNames_30 : decode cX12_sayNames 30 = .ok (.invokevirtual 667, 3) := by decide +kernel
theorem dX12_sayNames_33 : decode cX12_sayNames 33 = .ok (.aload_n 0, 1) := by decide +kernel
theorem dX12_sayNames_34 : decode cX12_sayNames 34 = .ok (.aload_n 0, 1) := by decide +kernel
theorem dX12_sayNames_35 : decode cX12_sayNames 35 = .ok (.getfield 92, 3) := by decide +kernel
theorem dX12_sayNames_38 : decode cX12_sayNames 38 = .ok (.iload_n 3, 1) := by decide +kernel
theorem dX12_sayNames_39 : decode cX12_sayNames 39 = .ok (.iaload, 1) := by decide +kernel
theorem dX12_sayNames_4 : decode cX12_sayNames 4 = .ok (.invokevirtual 700, 3) := by decide +kernel
theorem dX12_sayNames_40 : decode cX12_sayNames 40 = .ok (.invokevirtual 697, 3) := by decide +kernel
theorem dX12_sayNames_43 : decode cX12_sayNames 43 = .ok (.iconst 0, 1) := by decide +kernel
theorem dX12_sayNames_44 : decode cX12_sayNames 44 = .ok (.istore 4, 2) := by decide +kernel
theorem dX12_sayNames_46 : decode cX12_sayNames 46 = .ok (.iload 4, 2) := by decide +kernel
theorem dX12_sayNames_48 : decode cX12_sayNames 48 = .ok (.aload_n 0, 1) := by decide +kernel
theorem dX12_sayNames_49 : decode cX12_sayNames 49 = .ok (.getfield 98, 3) := by decide +kernel
theorem dX12_sayNames_52 : decode cX12_sayNames 52 = .ok (.iload_n 3, 1) := by decide +kernel
theorem dX12_sayNames_53 : decode cX12_sayNames 53 = .ok (.iaload, 1) := by decide +kernel
theorem dX12_sayNames_54 : decode cX12_sayNames 54 = .ok (.if_icmp .ge 39, 3) := by decide +kernel
theorem dX12_sayNames_57 : decode cX12_sayNames 57 = .ok (.iload 4, 2) := by decide +kernel
theorem dX12_sayNames_59 : decode cX12_sayNames 59 = .ok (.iload_n 1, 1) := by decide +kernel
theorem dX12_sayNames_60 : decode cX12_sayNames 60 = .ok (.if_icmp .ge 33, 3) := by decide +kernel
theorem dX12_sayNames_63 : decode cX12_sayNames 63 = .ok (.aload_n 0, 1) := by decide +kernel
theorem dX12_sayNames_64 : decode cX12_sayNames 64 = .ok (.bipush 32, 2) := by decide +kernel
theorem dX12_sayNames_66 : decode cX12_sayNames 66 = .ok (.invokevirtual 189, 3) := by decide +kernel
theorem dX12_sayNames_69 : decode cX12_sayNames 69 = .ok (.aload_n 0, 1) := by decide +kernel
theorem dX12_sayNames_7 : decode cX12_sayNames 7 = .ok (.istore_n 3, 1) := by decide +kernel
theorem dX12_sayNames_70 : decode cX12_sayNames 70 = .ok (.aload_n 0, 1) := by decide +kernel
theorem dX12_sayNames_71 : decode cX12_sayNames 71 = .ok (.getfield 101, 3) := by decide +kernel
theorem dX12_sayNames_74 : decode cX12_sayNames 74 = .ok (.bipush 16, 2) := by decide +kernel
theorem dX12_sayNames_76 : decode cX12_sayNames 76 = .ok (.iload_n 3, 1) := by decide +kernel
theorem dX12_sayNames_77 : decode cX12_sayNames 77 = .ok (.imul, 1) := by decide +kernel
theorem dX12_sayNames_78 : decode cX12_sayNames 78 = .ok (.iload 4, 2) := by decide +kernel
theorem dX12_sayNames_8 : decode cX12_sayNames 8 = .ok (.iload_n 3, 1) := by decide +kernel
theorem dX12_sayNames_80 : decode cX12_sayNames 80 = .ok (.iadd, 1) := by decide +kernel
theorem dX12_sayNames_81 : decode cX12_sayNames 81 = .ok (.iaload, 1) := by decide +kernel
theorem dX12_sayNames_82 : decode cX12_sayNames 82 = .ok (.i2l, 1) := by decide +kernel
theorem dX12_sayNames_83 : decode cX12_sayNames 83 = .ok (.iconst 4, 1) := by decide +kernel
theorem dX12_sayNames_84 : decode cX12_sayNames 84 = .ok (.invokevirtual 199, 3) := by decide +kernel
theorem dX12_sayNames_87 : decode cX12_sayNames 87 = .ok (.iinc 4 1, 3) := by decide +kernel
theorem dX12_sayNames_9 : decode cX12_sayNames 9 = .ok (.iconst (-1), 1) := by decide +kernel
theorem dX12_sayNames_90 : decode cX12_sayNames 90 = .ok (.goto (-44), 3) := by decide +kernel
theorem dX12_sayNames_93 : decode cX12_sayNames 93 = .ok (.aload_n 0, 1) := by decide +kernel
theorem dX12_sayNames_94 : decode cX12_sayNames 94 = .ok (.bipush 18, 2) := by decide +kernel
theorem dX12_sayNames_96 : decode cX12_sayNames 96 = .ok (.invokevirtual 269, 3) := by decide +kernel
theorem dX12_sayNames_99 : decode cX12_sayNames 99 = .ok (.iinc 2 1, 3) := by decide +kernel
set_option maxHeartbeats 4000000 in
set_option maxRecDepth 100000 in
theorem T_X12_sayNames (l : Launch) (D : va_G) (K : Nat → ClassId) (Z Y : Nat → Nat) (ad : Nat → Nat) (t : tSt) (hok : okM t) (x1 : Int32) (hx1 : (10 : Int) ≤ x1.toInt ∧ x1.toInt ≤ 16) : tMet l yX12_sayNames cX12_sayNames 5 (some .int) (rmD 3 0 0) D K Z Y [.ref (ad 0), .int x1] (WM K ad t) (QI D K (fun (r : Int32) (u : tSt) => okM u ∧ frA [(0, 30)] [] [11, 12, 13, 14] [] t u ∧ (-2147483648 : Int) ≤ r.toInt ∧ r.toInt ≤ 2147483647) (fun (u : tSt) => WM K ad u)) 0 0 := by
  refine t_met RX12 ⟨rfl, by decide +kernel⟩ (Nat.le_of_ble_eq_true rfl) ?_
  intro p e s m below meth c A ls C hE hZ hr hlocks hA hP hD hS hl
  have hl : lv_has ls 5 [(0, .ref (ad 0)), (1, .int x1)] := hl
  have hokt := hok
  have hfr : frA [(0, 30)] [] [11, 12, 13, 14] [] t t := frA_rf
  have h_1 : (0 : Int) ≤ (t.1 0 30).toInt ∧ (t.1 0 30).toInt ≤ 120 := hok.1 0 30
  have h_2 : (0 : Int) ≤ (t.1 0 52).toInt ∧ (t.1 0 52).toInt ≤ 1200 := hok.1 0 52
  have L_8 : ∀ (fuel_8 : Nat) (t1 : tSt) (w8_2 : Int32) (w8_3 : Int32) (H : Heap) (locs : List Loc) (ls : Array Slot), okM t1 → frA [(0, 30)] [] [11, 12, 13, 14] [] t t1 → (-1 : Int) ≤ w8_3.toInt ∧ w8_3.toInt ≤ 1199 → (w8_3.toInt = -1 ∨ (0 ≤ w8_3.toInt ∧ w8_3.toInt < (t.1 0 52).toInt)) → (kM (t.2.2.2 23) (t.1 0 52) w8_3) < (fuel_8 : Int) → va_P D vwCl (WM K ad t1) H → va_D A (WM K ad t1) → va_S A s.heap H locs → lv_has ls 5 [(0, .ref (ad 0)), (1, .int x1), (2, .int w8_2), (3, .int w8_3)] → W p l e (rmD 3 0 0) s m [.ref (ad 0), .int x1].toArray below meth c H locs 0 0 (MQ below (QI D K (fun (r : Int32) (u : tSt) => okM u ∧ frA [(0, 30)] [] [11, 12, 13, 14] [] t u ∧ (-2147483648 : Int) ≤ r.toInt ∧ r.toInt ≤ 2147483647) (fun (u : tSt) => WM K ad u) A) [.ref (ad 0), .int x1].toArray s 0 0 A) (F0 m 8 ls []) := by
    intro fuel_8
    induction fuel_8 with
    | zero =>
      intro t1 w8_2 w8_3 H locs ls hok hfr hw8_3 hi8_0 hm8_8 hP hD hS hl
      have h_3 : (t1.1 0 52).toInt = (t.1 0 52).toInt := ti_eq (hfr.1 0 52 rfl)
      have e_4 : t1.2.2.2 23 = t.2.2.2 23 := hfr.2.2.2 23 rfl
      have h_5 : (0 : Int) ≤ (t1.1 0 30).toInt ∧ (t1.1 0 30).toInt ≤ 120 := hok.1 0 30
      have h_6 : (0 : Int) ≤ (t1.1 0 52).toInt ∧ (t1.1 0 52).toInt ≤ 1200 := hok.1 0 52
      have hkm := kM_r (t.2.2.2 23) (t.1 0 52) w8_3 (by omega)
      exact absurd hm8_8 (by omega)
    | succ fuel_8 ih_8 =>
      intro t1 w8_2 w8_3 H locs ls hok hfr hw8_3 hi8_0 hm8_8 hP hD hS hl
      have hm8_8 : (kM (t.2.2.2 23) (t.1 0 52) w8_3) < (fuel_8 : Int) + 1 := by omega
      have h_7 : (t1.1 0 52).toInt = (t.1 0 52).toInt := ti_eq (hfr.1 0 52 rfl)
      have e_8 : t1.2.2.2 23 = t.2.2.2 23 := hfr.2.2.2 23 rfl
      have h_9 : (0 : Int) ≤ (t1.1 0 30).toInt ∧ (t1.1 0 30).toInt ≤ 120 := hok.1 0 30
      have h_10 : (0 : Int) ≤ (t1.1 0 52).toInt ∧ (t1.1 0 52).toInt ≤ 1200 := hok.1 0 52
      have L_93 : ∀ (t1 : tSt) (w93_2 : Int32) (w93_3 : Int32) (w93_4 : Int32) (H : Heap) (locs : List Loc) (ls : Array Slot), okM t1 → frA [(0, 30)] [] [11, 12, 13, 14] [] t t1 → (0 : Int) ≤ w93_3.toInt ∧ w93_3.toInt ≤ 1199 → (0 : Int) ≤ w93_4.toInt ∧ w93_4.toInt ≤ 16 → (0 ≤ w93_3.toInt) → (w93_3.toInt < (t.1 0 52).toInt) → (kM (t.2.2.2 23) (t.1 0 52) w93_3) < (fuel_8 : Int) + 1 → va_P D vwCl (WM K ad t1) H → va_D A (WM K ad t1) → va_S A s.heap H locs → lv_has ls 5 [(0, .ref (ad 0)), (1, .int x1), (2, .int w93_2), (3, .int w93_3), (4, .int w93_4)] → W p l e (rmD 3 0 0) s m [.ref (ad 0), .int x1].toArray below meth c H locs 0 0 (MQ below (QI D K (fun (r : Int32) (u : tSt) => okM u ∧ frA [(0, 30)] [] [11, 12, 13, 14] [] t u ∧ (-2147483648 : Int) ≤ r.toInt ∧ r.toInt ≤ 2147483647) (fun (u : tSt) => WM K ad u) A) [.ref (ad 0), .int x1].toArray s 0 0 A) (F0 m 93 ls []) := by
        intro t1 w93_2 w93_3 w93_4 H locs ls hok hfr hw93_3 hw93_4 hi93_0 hi93_1 hm93_8 hP hD hS hl
        have h_11 : (t1.1 0 52).toInt = (t.1 0 52).toInt := ti_eq (hfr.1 0 52 rfl)
        have e_12 : t1.2.2.2 23 = t.2.2.2 23 := hfr.2.2.2 23 rfl
        have h_13 : (0 : Int) ≤ (t1.1 0 30).toInt ∧ (t1.1 0 30).toInt ≤ 120 := hok.1 0 30
        have h_14 : (0 : Int) ≤ (t1.1 0 52).toInt ∧ (t1.1 0 52).toInt ≤ 1200 := hok.1 0 52
        refine lv_aload_n C.1 C.2.1 dX12_sayNames_93 rfl (lv_at hl 0 rfl) ?_
        refine lv_bipush (v := 18) C.1 C.2.1 dX12_sayNames_94 (by decide) ?_
        refine g_Vv (As := [.int 18]) (rest := []) C hP hD hS hA (T_X12_print l D K Z Y ad t1 hok 18 (show (17 : Int) ≤ (18 : Int32).toInt ∧ (18 : Int32).toInt ≤ 19 from ⟨by decide, by decide⟩)) hE hZ (uwV m_42_21 m_42_22 m_42_23 m_1_5 m_43_0) (hdV 1 (by decide +kernel) rfl) ⟨Nat.le_of_ble_eq_true rfl, Nat.le_of_ble_eq_true rfl⟩ rfl rfl (ci := 11) (q0 := 0) rfl rfl rfl hl.1 (Nat.le_of_ble_eq_true rfl) dX12_sayNames_96 ⟨Nat.le_of_ble_eq_true rfl, Nat.le_of_ble_eq_true rfl⟩ (fun t_15 H locs hw hP hD hS => ?_)
        obtain ⟨hok, f_17⟩ := hw
        have hfr : frA [(0, 30)] [] [11, 12, 13, 14] [] t t_15 := frA_tr hfr f_17 rfl
        have h_18 : (t_15.1 0 52).toInt = (t1.1 0 52).toInt := ti_eq (f_17.1 0 52 rfl)
        have e_19 : t_15.2.2.2 23 = t.2.2.2 23 := (f_17.2.2.2 23 rfl).trans (e_12)
        have h_20 : (0 : Int) ≤ (t_15.1 0 30).toInt ∧ (t_15.1 0 30).toInt ≤ 120 := hok.1 0 30
        have h_21 : (0 : Int) ≤ (t_15.1 0 52).toInt ∧ (t_15.1 0 52).toInt ≤ 1200 := hok.1 0 52
        obtain ⟨v_22, e_23⟩ : ∃ z, z = w93_2 + 1 := ⟨_, rfl⟩
        refine lv_iinc (v := v_22) (lv' := [(2, .int v_22), (0, .ref (ad 0)), (1, .int x1), (3, .int w93_3), (4, .int w93_4)]) C.1 C.2.1 dX12_sayNames_99 hl (k := 2) rfl e_23.symm (by decide) rfl (fun ls hl => ?_)
        have hl : lv_has ls 5 [(0, .ref (ad 0)), (1, .int x1), (2, .int v_22), (3, .int w93_3), (4, .int w93_4)] := lv_sub hl [1, 2, 0, 3, 4] rfl
        refine lv_aload_n C.1 C.2.1 dX12_sayNames_102 rfl (lv_at hl 0 rfl) ?_
        refine lv_aload_n C.1 C.2.1 dX12_sayNames_103 rfl (lv_at hl 0 rfl) ?_
        refine k_get (v := .ref (ad 23)) C hP 0 rfl rfl inlX12 53 (by decide) m_8_7 rfl dX12_sayNames_104 ?_
        refine lv_iload_n C.1 C.2.1 dX12_sayNames_107 rfl (lv_at hl 3 rfl) ?_
        refine k_lld (v := (t.2.2.2 23 (w93_3 : Int32).toNatClampNeg)) C hP 23 rfl (vp_in_iff.mpr ⟨by omega, by omega⟩) (congrFun e_19 _) dX12_sayNames_108 ?_
        refine g_Vi (As := [.long (t.2.2.2 23 (w93_3 : Int32).toNatClampNeg)]) (rest := []) C hP hD hS hA (T_X12_nextSymbol l D K Z Y ad t_15 hok ((t.2.2.2 23 (w93_3 : Int32).toNatClampNeg))) hE hZ (uwV m_70_0 m_70_1 m_70_2 m_1_5 m_70_3) (hdV 1 (by decide +kernel) rfl) ⟨Nat.le_of_ble_eq_true rfl, Nat.le_of_ble_eq_true rfl⟩ rfl rfl (ci := 11) (q0 := 0) rfl rfl rfl hl.1 (Nat.le_of_ble_eq_true rfl) dX12_sayNames_109 ⟨Nat.le_of_ble_eq_true rfl, Nat.le_of_ble_eq_true rfl⟩ (fun r_25 t_24 H locs hw hP hD hS => ?_)
        obtain ⟨h_27, h_28, p_29⟩ := hw
        replace p_29 : r_25.toInt = -1 ∨ (0 ≤ r_25.toInt ∧ r_25.toInt < (t_15.1 0 52).toInt ∧ (t.2.2.2 23 (w93_3 : Int32).toNatClampNeg).toInt < (t_15.2.2.2 23 (r_25 : Int32).toNatClampNeg).toInt) := p_29
        have h_30 : (t_15.2.2.2 23 (r_25 : Int32).toNatClampNeg).toInt = (t.2.2.2 23 (r_25 : Int32).toNatClampNeg).toInt := tg_eq e_19 _
        refine lv_istore_n (lv' := [(3, .int r_25), (0, .ref (ad 0)), (1, .int x1), (2, .int v_22), (4, .int w93_4)]) C.1 C.2.1 dX12_sayNames_112 rfl hl (by decide) rfl (fun ls hl => ?_)
        have hl : lv_has ls 5 [(0, .ref (ad 0)), (1, .int x1), (2, .int v_22), (3, .int r_25), (4, .int w93_4)] := lv_sub hl [1, 2, 3, 0, 4] rfl
        have hkl := kM_lt (t.2.2.2 23) (t.1 0 52) w93_3 r_25 (by omega) (by omega) (by omega)
        refine lv_goto (tgt := 8) C.1 C.2.1 dX12_sayNames_113 (by decide) ?_
        have hkm := kM_r (t.2.2.2 23) (t.1 0 52) r_25 (by omega)
        exact ih_8 t_15 v_22 r_25 _ _ _ hok hfr ⟨by omega, by omega⟩ (show r_25.toInt = -1 ∨ (0 ≤ r_25.toInt ∧ r_25.toInt < (t.1 0 52).toInt) from by omega) (show (kM (t.2.2.2 23) (t.1 0 52) r_25) < (fuel_8 : Int) from by omega) hP hD hS (lv_sub hl [0, 1, 2, 3] rfl)
      have L_46 : ∀ (fuel_46 : Nat) (t1 : tSt) (w46_2 : Int32) (w46_3 : Int32) (w46_4 : Int32) (H : Heap) (locs : List Loc) (ls : Array Slot), okM t1 → frA [(0, 30)] [] [11, 12, 13, 14] [] t t1 → (0 : Int) ≤ w46_3.toInt ∧ w46_3.toInt ≤ 1199 → (0 : Int) ≤ w46_4.toInt ∧ w46_4.toInt ≤ 16 → (0 ≤ w46_3.toInt) → (w46_3.toInt < (t.1 0 52).toInt) → ((t1.1 0 30).toInt ≤ 22 + 5 * w46_4.toInt) → (0 ≤ w46_4.toInt) → (w46_4.toInt ≤ 16) → (kM (t.2.2.2 23) (t.1 0 52) w46_3) < (fuel_8 : Int) + 1 → (16 : Int) - w46_4.toInt < (fuel_46 : Int) → va_P D vwCl (WM K ad t1) H → va_D A (WM K ad t1) → va_S A s.heap H locs → lv_has ls 5 [(0, .ref (ad 0)), (1, .int x1), (2, .int w46_2), (3, .int w46_3), (4, .int w46_4)] → W p l e (rmD 3 0 0) s m [.ref (ad 0), .int x1].toArray below meth c H locs 0 0 (MQ below (QI D K (fun (r : Int32) (u : tSt) => okM u ∧ frA [(0, 30)] [] [11, 12, 13, 14] [] t u ∧ (-2147483648 : Int) ≤ r.toInt ∧ r.toInt ≤ 2147483647) (fun (u : tSt) => WM K ad u) A) [.ref (ad 0), .int x1].toArray s 0 0 A) (F0 m 46 ls []) := by
        intro fuel_46
        induction fuel_46 with
        | zero =>
          intro t1 w46_2 w46_3 w46_4 H locs ls hok hfr hw46_3 hw46_4 hi46_0 hi46_1 hi46_2 hi46_3 hi46_4 hm46_8 hm46_46 hP hD hS hl
          have h_31 : (t1.1 0 52).toInt = (t.1 0 52).toInt := ti_eq (hfr.1 0 52 rfl)
          have e_32 : t1.2.2.2 23 = t.2.2.2 23 := hfr.2.2.2 23 rfl
          have h_33 : (0 : Int) ≤ (t1.1 0 30).toInt ∧ (t1.1 0 30).toInt ≤ 120 := hok.1 0 30
          have h_34 : (0 : Int) ≤ (t1.1 0 52).toInt ∧ (t1.1 0 52).toInt ≤ 1200 := hok.1 0 52
          exact absurd hm46_46 (by omega)
        | succ fuel_46 ih_46 =>
          intro t1 w46_2 w46_3 w46_4 H locs ls hok hfr hw46_3 hw46_4 hi46_0 hi46_1 hi46_2 hi46_3 hi46_4 hm46_8 hm46_46 hP hD hS hl
          have hm46_46 : (16 : Int) - w46_4.toInt < (fuel_46 : Int) + 1 := by omega
          have h_35 : (t1.1 0 52).toInt = (t.1 0 52).toInt := ti_eq (hfr.1 0 52 rfl)
          have e_36 : t1.2.2.2 23 = t.2.2.2 23 := hfr.2.2.2 23 rfl
          have h_37 : (0 : Int) ≤ (t1.1 0 30).toInt ∧ (t1.1 0 30).toInt ≤ 120 := hok.1 0 30
          have h_38 : (0 : Int) ≤ (t1.1 0 52).toInt ∧ (t1.1 0 52).toInt ≤ 1200 := hok.1 0 52
          refine lv_iload C.1 C.2.1 dX12_sayNames_46 (lv_at hl 4 rfl) ?_
          refine lv_aload_n C.1 C.2.1 dX12_sayNames_48 rfl (lv_at hl 0 rfl) ?_
          refine k_get (v := .ref (ad 26)) C hP 0 rfl rfl inlX12 56 (by decide) m_8_10 rfl dX12_sayNames_49 ?_
          refine lv_iload_n C.1 C.2.1 dX12_sayNames_52 rfl (lv_at hl 3 rfl) ?_
          obtain ⟨v_39, e_40⟩ : ∃ z, z = (t1.2.2.1 26 (w46_3 : Int32).toNatClampNeg) := ⟨_, rfl⟩
          have h_41 : (0 : Int) ≤ v_39.toInt ∧ v_39.toInt ≤ 16 := by rw [e_40]; exact hok.2.1 26 _
          refine k_ild (v := v_39) C hP 26 rfl (vp_in_iff.mpr ⟨by omega, by omega⟩) e_40.symm dX12_sayNames_53 ?_
          refine lv_icmp_ge (tgt := 93) C.1 C.2.1 dX12_sayNames_54 (by decide) (fun c_42 => ?_) (fun c_42 => ?_)
          · replace c_42 : v_39.toInt ≤ w46_4.toInt := i_le c_42
            have hkm := kM_r (t.2.2.2 23) (t.1 0 52) w46_3 (by omega)
            exact L_93 t1 w46_2 w46_3 w46_4 _ _ _ hok hfr ⟨by omega, by omega⟩ ⟨by omega, by omega⟩ (show 0 ≤ w46_3.toInt from by omega) (show w46_3.toInt < (t.1 0 52).toInt from by omega) (show (kM (t.2.2.2 23) (t.1 0 52) w46_3) < (fuel_8 : Int) + 1 from by omega) hP hD hS (lv_sub hl [0, 1, 2, 3, 4] rfl)
          · replace c_42 : w46_4.toInt < v_39.toInt := i_nle c_42
            refine lv_iload C.1 C.2.1 dX12_sayNames_57 (lv_at hl 4 rfl) ?_
            refine lv_iload_n C.1 C.2.1 dX12_sayNames_59 rfl (lv_at hl 1 rfl) ?_
            refine lv_icmp_ge (tgt := 93) C.1 C.2.1 dX12_sayNames_60 (by decide) (fun c_43 => ?_) (fun c_43 => ?_)
            · replace c_43 : x1.toInt ≤ w46_4.toInt := i_le c_43
              have hkm := kM_r (t.2.2.2 23) (t.1 0 52) w46_3 (by omega)
              exact L_93 t1 w46_2 w46_3 w46_4 _ _ _ hok hfr ⟨by omega, by omega⟩ ⟨by omega, by omega⟩ (show 0 ≤ w46_3.toInt from by omega) (show w46_3.toInt < (t.1 0 52).toInt from by omega) (show (kM (t.2.2.2 23) (t.1 0 52) w46_3) < (fuel_8 : Int) + 1 from by omega) hP hD hS (lv_sub hl [0, 1, 2, 3, 4] rfl)
            · replace c_43 : w46_4.toInt < x1.toInt := i_nle c_43
              refine lv_aload_n C.1 C.2.1 dX12_sayNames_63 rfl (lv_at hl 0 rfl) ?_
              refine lv_bipush (v := 32) C.1 C.2.1 dX12_sayNames_64 (by decide) ?_
              refine g_Vv (As := [.int 32]) (rest := []) C hP hD hS hA (T_X12_say l D K Z Y ad t1 hok 32 (show (t1.1 0 30).toInt ≤ 119 from by omega)) hE hZ (uwV m_42_13 m_42_14 m_42_15 m_1_5 m_42_16) (hdV 1 (by decide +kernel) rfl) ⟨Nat.le_of_ble_eq_true rfl, Nat.le_of_ble_eq_true rfl⟩ rfl rfl (ci := 11) (q0 := 0) rfl rfl rfl hl.1 (Nat.le_of_ble_eq_true rfl) dX12_sayNames_66 ⟨Nat.le_of_ble_eq_true rfl, Nat.le_of_ble_eq_true rfl⟩ (fun t_44 H locs hw hP hD hS => ?_)
              obtain ⟨hok, f_46, p_47⟩ := hw
              have hfr : frA [(0, 30)] [] [11, 12, 13, 14] [] t t_44 := frA_tr hfr f_46 rfl
              have h_48 : (t_44.1 0 52).toInt = (t1.1 0 52).toInt := ti_eq (f_46.1 0 52 rfl)
              have e_49 : t_44.2.2.2 23 = t.2.2.2 23 := (f_46.2.2.2 23 rfl).trans (e_36)
              have h_50 : (0 : Int) ≤ (t_44.1 0 30).toInt ∧ (t_44.1 0 30).toInt ≤ 120 := hok.1 0 30
              have h_51 : (0 : Int) ≤ (t_44.1 0 52).toInt ∧ (t_44.1 0 52).toInt ≤ 1200 := hok.1 0 52
              replace p_47 : (t_44.1 0 30).toInt = (t1.1 0 30).toInt + 1 := p_47
              refine lv_aload_n C.1 C.2.1 dX12_sayNames_69 rfl (lv_at hl 0 rfl) ?_
              refine lv_aload_n C.1 C.2.1 dX12_sayNames_70 rfl (lv_at hl 0 rfl) ?_
              refine k_get (v := .ref (ad 27)) C hP 0 rfl rfl inlX12 57 (by decide) m_8_11 rfl dX12_sayNames_71 ?_
              refine lv_bipush (v := 16) C.1 C.2.1 dX12_sayNames_74 (by decide) ?_
              refine lv_iload_n C.1 C.2.1 dX12_sayNames_76 rfl (lv_at hl 3 rfl) ?_
              obtain ⟨v_52, e_53⟩ : ∃ z, z = (16 : Int32) * (w46_3 : Int32) := ⟨_, rfl⟩
              have h_54 : v_52.toInt = 16 * w46_3.toInt := by rw [e_53]; exact ti_mull (k := 16) (by decide) (by omega) (by omega)
              refine k_imul (v := v_52) C e_53.symm dX12_sayNames_77 ?_
              refine lv_iload C.1 C.2.1 dX12_sayNames_78 (lv_at hl 4 rfl) ?_
              obtain ⟨v_55, e_56⟩ : ∃ z, z = (v_52 : Int32) + (w46_4 : Int32) := ⟨_, rfl⟩
              have h_57 : v_55.toInt = v_52.toInt + w46_4.toInt := by rw [e_56]; exact ti_iadd (by show (_ : Int) ≤ v_52.toInt + w46_4.toInt; omega) (by show v_52.toInt + w46_4.toInt < (_ : Int); omega)
              refine k_iadd (v := v_55) C e_56.symm dX12_sayNames_80 ?_
              obtain ⟨v_58, e_59⟩ : ∃ z, z = (t_44.2.2.1 27 (v_55 : Int32).toNatClampNeg) := ⟨_, rfl⟩
              have h_60 : (0 : Int) ≤ v_58.toInt ∧ v_58.toInt ≤ 3999 := by rw [e_59]; exact hok.2.1 27 _
              refine k_ild (v := v_58) C hP 27 rfl (vp_in_iff.mpr ⟨by omega, by omega⟩) e_59.symm dX12_sayNames_81 ?_
              obtain ⟨v_61, e_62⟩ : ∃ z, z = (v_58 : Int32).toInt64 := ⟨_, rfl⟩
              have h_63 : v_61.toInt = v_58.toInt := by rw [e_62]; exact Jvm.Kit.i64_of_i32 _
              refine lv_i2l (v := v_61) C.1 C.2.1 dX12_sayNames_82 e_62.symm ?_
              refine lv_iconst (v := 4) C.1 C.2.1 dX12_sayNames_83 (by decide) ?_
              have h_64 : (4 : Int32).toInt = 4 := rfl
              refine g_Vv (As := [.long v_61, .int 4]) (rest := []) C hP hD hS hA (T_X12_sayDigits l D K Z Y ad t_44 hok (v_61) 4 (show (1 : Int) ≤ (4 : Int32).toInt ∧ (4 : Int32).toInt ≤ 10 from ⟨by decide, by decide⟩) (show (t_44.1 0 30).toInt + (4 : Int32).toInt ≤ 120 from by omega) (show 1 ≤ (4 : Int32).toInt from by omega) (show (4 : Int32).toInt ≤ 10 from by omega)) hE hZ (uwV m_42_9 m_42_10 m_42_11 m_1_5 m_42_12) (hdV 2 (by decide +kernel) rfl) ⟨Nat.le_of_ble_eq_true rfl, Nat.le_of_ble_eq_true rfl⟩ rfl rfl (ci := 11) (q0 := 0) rfl rfl rfl hl.1 (Nat.le_of_ble_eq_true rfl) dX12_sayNames_84 ⟨Nat.le_of_ble_eq_true rfl, Nat.le_of_ble_eq_true rfl⟩ (fun t_65 H locs hw hP hD hS => ?_)
              obtain ⟨hok, f_67, p_68⟩ := hw
              have hfr : frA [(0, 30)] [] [11, 12, 13, 14] [] t t_65 := frA_tr hfr f_67 rfl
              have h_69 : (t_65.1 0 52).toInt = (t_44.1 0 52).toInt := ti_eq (f_67.1 0 52 rfl)
              have e_70 : t_65.2.2.2 23 = t.2.2.2 23 := (f_67.2.2.2 23 rfl).trans (e_49)
              have h_71 : (0 : Int) ≤ (t_65.1 0 30).toInt ∧ (t_65.1 0 30).toInt ≤ 120 := hok.1 0 30
              have h_72 : (0 : Int) ≤ (t_65.1 0 52).toInt ∧ (t_65.1 0 52).toInt ≤ 1200 := hok.1 0 52
              replace p_68 : (t_65.1 0 30).toInt = (t_44.1 0 30).toInt + (4 : Int32).toInt := p_68
              obtain ⟨v_73, e_74⟩ : ∃ z, z = w46_4 + 1 := ⟨_, rfl⟩
              have h_75 : v_73.toInt = w46_4.toInt + 1 := by rw [e_74]; exact ti_iadd (by show (_ : Int) ≤ w46_4.toInt + 1; omega) (by show w46_4.toInt + 1 < (_ : Int); omega)
              refine lv_iinc (v := v_73) (lv' := [(4, .int v_73), (0, .ref (ad 0)), (1, .int x1), (2, .int w46_2), (3, .int w46_3)]) C.1 C.2.1 dX12_sayNames_87 hl (k := 4) rfl e_74.symm (by decide) rfl (fun ls hl => ?_)
              have hl : lv_has ls 5 [(0, .ref (ad 0)), (1, .int x1), (2, .int w46_2), (3, .int w46_3), (4, .int v_73)] := lv_sub hl [1, 2, 3, 4, 0] rfl
              refine lv_goto (tgt := 46) C.1 C.2.1 dX12_sayNames_90 (by decide) ?_
              have hkm := kM_r (t.2.2.2 23) (t.1 0 52) w46_3 (by omega)
              exact ih_46 t_65 w46_2 w46_3 v_73 _ _ _ hok hfr ⟨by omega, by omega⟩ ⟨by omega, by omega⟩ (show 0 ≤ w46_3.toInt from by omega) (show w46_3.toInt < (t.1 0 52).toInt from by omega) (show (t_65.1 0 30).toInt ≤ 22 + 5 * v_73.toInt from by omega) (show 0 ≤ v_73.toInt from by omega) (show v_73.toInt ≤ 16 from by omega) (show (kM (t.2.2.2 23) (t.1 0 52) w46_3) < (fuel_8 : Int) + 1 from by omega) (show (16 : Int) - v_73.toInt < (fuel_46 : Int) from by omega) hP hD hS (lv_sub hl [0, 1, 2, 3, 4] rfl)
      refine lv_iload_n C.1 C.2.1 dX12_sayNames_8 rfl (lv_at hl 3 rfl) ?_
      refine lv_iconst (v := (-1)) C.1 C.2.1 dX12_sayNames_9 (by decide) ?_
      refine lv_icmp_eq (tgt := 116) C.1 C.2.1 dX12_sayNames_10 (by decide) (fun c_76 => ?_) (fun c_76 => ?_)
      · replace c_76 : w8_3.toInt = (-1) := i_eq c_76
        refine lv_iload_n C.1 C.2.1 dX12_sayNames_116 rfl (lv_at hl 2 rfl) ?_
        exact g_iret C hr hlocks hP hD hS rfl t1 rfl ⟨hok, hfr, (i_rng _).1, (i_rng _).2⟩ (Nat.le_of_ble_eq_true rfl) (Nat.le_of_ble_eq_true rfl) dX12_sayNames_117
      · replace c_76 : ¬ w8_3.toInt = (-1) := i_ne c_76
        refine lv_aload_n C.1 C.2.1 dX12_sayNames_13 rfl (lv_at hl 0 rfl) ?_
        refine g_Vv (As := []) (rest := []) C hP hD hS hA (T_X12_begin l D K Z Y ad t1 hok ) hE hZ (uwV m_42_4 m_42_5 m_42_6 m_1_5 m_42_7) (hdV 0 (by decide +kernel) rfl) ⟨Nat.le_of_ble_eq_true rfl, Nat.le_of_ble_eq_true rfl⟩ rfl rfl (ci := 11) (q0 := 0) rfl rfl rfl hl.1 (Nat.le_of_ble_eq_true rfl) dX12_sayNames_14 ⟨Nat.le_of_ble_eq_true rfl, Nat.le_of_ble_eq_true rfl⟩ (fun t_77 H locs hw hP hD hS => ?_)
        obtain ⟨hok, f_79, p_80⟩ := hw
        have hfr : frA [(0, 30)] [] [11, 12, 13, 14] [] t t_77 := frA_tr hfr f_79 rfl
        have h_81 : (t_77.1 0 52).toInt = (t1.1 0 52).toInt := ti_eq (f_79.1 0 52 rfl)
        have e_82 : t_77.2.2.2 23 = t.2.2.2 23 := (f_79.2.2.2 23 rfl).trans (e_8)
        have h_83 : (0 : Int) ≤ (t_77.1 0 30).toInt ∧ (t_77.1 0 30).toInt ≤ 120 := hok.1 0 30
        have h_84 : (0 : Int) ≤ (t_77.1 0 52).toInt ∧ (t_77.1 0 52).toInt ≤ 1200 := hok.1 0 52
        replace p_80 : (t_77.1 0 30).toInt = 0 := p_80
        refine lv_aload_n C.1 C.2.1 dX12_sayNames_17 rfl (lv_at hl 0 rfl) ?_
        refine lv_aload_n C.1 C.2.1 dX12_sayNames_18 rfl (lv_at hl 0 rfl) ?_
        refine k_get (v := .ref (ad 23)) C hP 0 rfl rfl inlX12 53 (by decide) m_8_7 rfl dX12_sayNames_19 ?_
        refine lv_iload_n C.1 C.2.1 dX12_sayNames_22 rfl (lv_at hl 3 rfl) ?_
        refine k_lld (v := (t.2.2.2 23 (w8_3 : Int32).toNatClampNeg)) C hP 23 rfl (vp_in_iff.mpr ⟨by omega, by omega⟩) (congrFun e_82 _) dX12_sayNames_23 ?_
        refine g_Vv (As := [.long (t.2.2.2 23 (w8_3 : Int32).toNatClampNeg)]) (rest := []) C hP hD hS hA (T_X12_sayKey l D K Z Y ad t_77 hok ((t.2.2.2 23 (w8_3 : Int32).toNatClampNeg)) (show (t_77.1 0 30).toInt ≤ 100 from by omega)) hE hZ (uwV m_70_4 m_70_5 m_70_6 m_1_5 m_70_7) (hdV 1 (by decide +kernel) rfl) ⟨Nat.le_of_ble_eq_true rfl, Nat.le_of_ble_eq_true rfl⟩ rfl rfl (ci := 11) (q0 := 0) rfl rfl rfl hl.1 (Nat.le_of_ble_eq_true rfl) dX12_sayNames_24 ⟨Nat.le_of_ble_eq_true rfl, Nat.le_of_ble_eq_true rfl⟩ (fun t_85 H locs hw hP hD hS => ?_)
        obtain ⟨hok, f_87, p_88, p_89⟩ := hw
        have hfr : frA [(0, 30)] [] [11, 12, 13, 14] [] t t_85 := frA_tr hfr f_87 rfl
        have h_90 : (t_85.1 0 52).toInt = (t_77.1 0 52).toInt := ti_eq (f_87.1 0 52 rfl)
        have e_91 : t_85.2.2.2 23 = t.2.2.2 23 := (f_87.2.2.2 23 rfl).trans (e_82)
        have h_92 : (0 : Int) ≤ (t_85.1 0 30).toInt ∧ (t_85.1 0 30).toInt ≤ 120 := hok.1 0 30
        have h_93 : (0 : Int) ≤ (t_85.1 0 52).toInt ∧ (t_85.1 0 52).toInt ≤ 1200 := hok.1 0 52
        replace p_88 : (t_77.1 0 30).toInt ≤ (t_85.1 0 30).toInt := p_88
        replace p_89 : (t_85.1 0 30).toInt ≤ (t_77.1 0 30).toInt + 10 := p_89
        refine lv_aload_n C.1 C.2.1 dX12_sayNames_27 rfl (lv_at hl 0 rfl) ?_
        refine lv_bipush (v := 12) C.1 C.2.1 dX12_sayNames_28 (by decide) ?_
        have h_94 : (12 : Int32).toInt = 12 := rfl
        refine g_Vv (As := [.int 12]) (rest := []) C hP hD hS hA (T_X12_toColumn l D K Z Y ad t_85 hok 12 (show (2 : Int) ≤ (12 : Int32).toInt ∧ (12 : Int32).toInt ≤ 63 from ⟨by decide, by decide⟩) (show (12 : Int32).toInt ≤ 121 from by omega)) hE hZ (uwV m_42_17 m_42_18 m_42_19 m_1_5 m_42_20) (hdV 1 (by decide +kernel) rfl) ⟨Nat.le_of_ble_eq_true rfl, Nat.le_of_ble_eq_true rfl⟩ rfl rfl (ci := 11) (q0 := 0) rfl rfl rfl hl.1 (Nat.le_of_ble_eq_true rfl) dX12_sayNames_30 ⟨Nat.le_of_ble_eq_true rfl, Nat.le_of_ble_eq_true rfl⟩ (fun t_95 H locs hw hP hD hS => ?_)
        obtain ⟨hok, f_97, p_98, p_99⟩ := hw
        have hfr : frA [(0, 30)] [] [11, 12, 13, 14] [] t t_95 := frA_tr hfr f_97 rfl
        have h_100 : (t_95.1 0 52).toInt = (t_85.1 0 52).toInt := ti_eq (f_97.1 0 52 rfl)
        have e_101 : t_95.2.2.2 23 = t.2.2.2 23 := (f_97.2.2.2 23 rfl).trans (e_91)
        have h_102 : (0 : Int) ≤ (t_95.1 0 30).toInt ∧ (t_95.1 0 30).toInt ≤ 120 := hok.1 0 30
        have h_103 : (0 : Int) ≤ (t_95.1 0 52).toInt ∧ (t_95.1 0 52).toInt ≤ 1200 := hok.1 0 52
        replace p_98 : (t_85.1 0 30).toInt ≤ (t_95.1 0 30).toInt := p_98
        replace p_99 : (t_95.1 0 30).toInt ≤ (t_85.1 0 30).toInt ∨ (t_95.1 0 30).toInt ≤ (12 : Int32).toInt - 1 := p_99
        refine lv_aload_n C.1 C.2.1 dX12_sayNames_33 rfl (lv_at hl 0 rfl) ?_
        refine lv_aload_n C.1 C.2.1 dX12_sayNames_34 rfl (lv_at hl 0 rfl) ?_
        refine k_get (v := .ref (ad 24)) C hP 0 rfl rfl inlX12 54 (by decide) m_8_8 rfl dX12_sayNames_35 ?_
        refine lv_iload_n C.1 C.2.1 dX12_sayNames_38 rfl (lv_at hl 3 rfl) ?_
        obtain ⟨v_104, e_105⟩ : ∃ z, z = (t_95.2.2.1 24 (w8_3 : Int32).toNatClampNeg) := ⟨_, rfl⟩
        refine k_ild (v := v_104) C hP 24 rfl (vp_in_iff.mpr ⟨by omega, by omega⟩) e_105.symm dX12_sayNames_39 ?_
        refine g_Vv (As := [.int v_104]) (rest := []) C hP hD hS hA (T_X12_sayWord l D K Z Y ad t_95 hok (v_104) (show (t_95.1 0 30).toInt ≤ 109 from by omega)) hE hZ (uwV m_64_8 m_64_9 m_64_10 m_1_5 m_64_11) (hdV 1 (by decide +kernel) rfl) ⟨Nat.le_of_ble_eq_true rfl, Nat.le_of_ble_eq_true rfl⟩ rfl rfl (ci := 11) (q0 := 0) rfl rfl rfl hl.1 (Nat.le_of_ble_eq_true rfl) dX12_sayNames_40 ⟨Nat.le_of_ble_eq_true rfl, Nat.le_of_ble_eq_true rfl⟩ (fun t_106 H locs hw hP hD hS => ?_)
        obtain ⟨hok, f_108, p_109⟩ := hw
        have hfr : frA [(0, 30)] [] [11, 12, 13, 14] [] t t_106 := frA_tr hfr f_108 rfl
        have h_110 : (t_106.1 0 52).toInt = (t_95.1 0 52).toInt := ti_eq (f_108.1 0 52 rfl)
        have e_111 : t_106.2.2.2 23 = t.2.2.2 23 := (f_108.2.2.2 23 rfl).trans (e_101)
        have h_112 : (0 : Int) ≤ (t_106.1 0 30).toInt ∧ (t_106.1 0 30).toInt ≤ 120 := hok.1 0 30
        have h_113 : (0 : Int) ≤ (t_106.1 0 52).toInt ∧ (t_106.1 0 52).toInt ≤ 1200 := hok.1 0 52
        replace p_109 : (t_106.1 0 30).toInt = (t_95.1 0 30).toInt + 11 := p_109
        refine lv_iconst (v := 0) C.1 C.2.1 dX12_sayNames_43 (by decide) ?_
        refine lv_istore (lv' := [(4, .int 0), (0, .ref (ad 0)), (1, .int x1), (2, .int w8_2), (3, .int w8_3)]) C.1 C.2.1 dX12_sayNames_44 hl (by decide) rfl (fun ls hl => ?_)
        have hl : lv_has ls 5 [(0, .ref (ad 0)), (1, .int x1), (2, .int w8_2), (3, .int w8_3), (4, .int 0)] := lv_sub hl [1, 2, 3, 4, 0] rfl
        have hkm := kM_r (t.2.2.2 23) (t.1 0 52) w8_3 (by omega)
        exact L_46 17 t_106 w8_2 w8_3 0 _ _ _ hok hfr ⟨by omega, by omega⟩ ⟨by decide, by decide⟩ (show 0 ≤ w8_3.toInt from by omega) (show w8_3.toInt < (t.1 0 52).toInt from by omega) (show (t_106.1 0 30).toInt ≤ 22 + 5 * 0 from by omega) (show 0 ≤ 0 from by omega) (show 0 ≤ 16 from by omega) (show (kM (t.2.2.2 23) (t.1 0 52) w8_3) < (fuel_8 : Int) + 1 from by omega) (show (16 : Int) - 0 < ((17 : Nat) : Int) from by omega) hP hD hS (lv_sub hl [0, 1, 2, 3, 4] rfl)
  refine lv_iconst (v := 0) C.1 C.2.1 dX12_sayNames_0 (by decide) ?_
  refine lv_istore_n (lv' := [(2, .int 0), (0, .ref (ad 0)), (1, .int x1)]) C.1 C.2.1 dX12_sayNames_1 rfl hl (by decide) rfl (fun ls hl => ?_)
  have hl : lv_has ls 5 [(0, .ref (ad 0)), (1, .int x1), (2, .int 0)] := lv_sub hl [1, 2, 0] rfl
  refine lv_aload_n C.1 C.2.1 dX12_sayNames_2 rfl (lv_at hl 0 rfl) ?_
  refine lv_lconst (v := 0) C.1 C.2.1 dX12_sayNames_3 (by decide) ?_
  have h_114 : (0 : Int64).toInt = 0 := rfl
  refine g_Vi (As := [.long 0]) (rest := []) C hP hD hS hA (T_X12_nextSymbol l D K Z Y ad t hok 0) hE hZ (uwV m_70_0 m_70_1 m_70_2 m_1_5 m_70_3) (hdV 1 (by decide +kernel) rfl) ⟨Nat.le_of_ble_eq_true rfl, Nat.le_of_ble_eq_true rfl⟩ rfl rfl (ci := 11) (q0 := 0) rfl rfl rfl hl.1 (Nat.le_of_ble_eq_true rfl) dX12_sayNames_4 ⟨Nat.le_of_ble_eq_true rfl, Nat.le_of_ble_eq_true rfl⟩ (fun r_116 t_115 H locs hw hP hD hS => ?_)
  obtain ⟨h_118, h_119, p_120⟩ := hw
  replace p_120 : r_116.toInt = -1 ∨ (0 ≤ r_116.toInt ∧ r_116.toInt < (t.1 0 52).toInt ∧ (0 : Int64).toInt < (t.2.2.2 23 (r_116 : Int32).toNatClampNeg).toInt) := p_120
  refine lv_istore_n (lv' := [(3, .int r_116), (0, .ref (ad 0)), (1, .int x1), (2, .int 0)]) C.1 C.2.1 dX12_sayNames_7 rfl hl (by decide) rfl (fun ls hl => ?_)
  have hl : lv_has ls 5 [(0, .ref (ad 0)), (1, .int x1), (2, .int 0), (3, .int r_116)] := lv_sub hl [1, 2, 3, 0] rfl
  have hkm := kM_r (t.2.2.2 23) (t.1 0 52) r_116 (by omega)
  exact L_8 1300 t 0 r_116 _ _ _ hok hfr ⟨by omega, by omega⟩ (show r_116.toInt = -1 ∨ (0 ≤ r_116.toInt ∧ r_116.toInt < (t.1 0 52).toInt) from by omega) (show (kM (t.2.2.2 23) (t.1 0 52) r_116) < ((1300 : Nat) : Int) from by omega) hP hD hS (lv_sub hl [0, 1, 2, 3] rfl)

theorem dX12_finishJob_0 : decode cX12_finishJob 0 = .ok (.aload_n 0, 1) := by decide +kernel
theorem dX12_finishJob_1 : decode cX12_finishJob 1 = .ok (.invokevirtual 263, 3) := by decide +kernel
theorem dX12_finishJob_10 : decode cX12_finishJob 10 = .ok (.iload 4, 2) := by decide +kernel
theorem dX12_finishJob_100 : decode cX12_finishJob 100 = .ok (.aload_n 0, 1) := by decide +kernel
theorem dX12_finishJob_101 : decode cX12_finishJob 101 = .ok (.iconst 0, 1) := by decide +kernel
theorem dX12_finishJob_102 : decode cX12_finishJob 102 = .ok (.invokevirtual 816, 3) := by decide +kernel
theorem dX12_finishJob_105 : decode cX12_finishJob 105 = .ok (.ifCond .eq 12, 3) := by decide +kernel
theorem dX12_finishJob_108 : decode cX12_finishJob 108 = .ok (.iload_n 1, 1) := by decide +kernel
theorem dX12_finishJob_109 : decode cX12_finishJob 109 = .ok (.iconst 3, 1) := by decide +kernel
theorem dX12_finishJob_110 : decode cX12_finishJob 110 = .ok (.if_icmp .ge 7, 3) := by decide +kernel
theorem dX12_finishJob_113 : decode cX12_finishJob 113 = .ok (.aload_n 0, 1) := by decide +kernel
theorem dX12_finishJob_114 : decode cX12_finishJob 114 = .ok (.invokevirtual 846, 3) := by decide +kernel
theorem dX12_finishJob_117 : decode cX12_finishJob 117 = .ok (.aload_n 0, 1) := by decide +kernel
theorem dX12_finishJob_118 : decode cX12_finishJob 118 = .ok (.getfield 137, 3) := by decide +kernel
theorem dX12_finishJob_12 : decode cX12_finishJob 12 = .ok (.aload_n 0, 1) := by decide +kernel
theorem dX12_finishJob_121 : decode cX12_finishJob 121 = .ok (.aload_n 0, 1) := by decide +kernel
theorem dX12_finishJob_122 : decode cX12_finishJob 122 = .ok (.getfield 773, 3) := by decide +kernel
theorem dX12_finishJob_125 : decode cX12_finishJob 125 = .ok (.iload_n 1, 1) := by decide +kernel
theorem dX12_finishJob_126 : decode cX12_finishJob 126 = .ok (.iastore, 1) := by decide +kernel
theorem dX12_finishJob_127 : decode cX12_finishJob 127 = .ok (.aload_n 0, 1) := by decide +kernel
theorem dX12_finishJob_128 : decode cX12_finishJob 128 = .ok (.getfield 140, 3) := by decide +kernel
theorem dX12_finishJob_13 : decode cX12_finishJob 13 = .ok (.getfield 737, 3) := by decide +kernel
theorem dX12_finishJob_131 : decode cX12_finishJob 131 = .ok (.aload_n 0, 1) := by decide +kernel
theorem dX12_finishJob_132 : decode cX12_finishJob 132 = .ok (.getfield 773, 3) := by decide +kernel
theorem dX12_finishJob_135 : decode cX12_finishJob 135 = .ok (.iload_n 2, 1) := by decide +kernel
theorem dX12_finishJob_136 : decode cX12_finishJob 136 = .ok (.iastore, 1) := by decide +kernel
theorem dX12_finishJob_137 : decode cX12_finishJob 137 = .ok (.aload_n 0, 1) := by decide +kernel
theorem dX12_finishJob_138 : decode cX12_finishJob 138 = .ok (.getfield 143, 3) := by decide +kernel
theorem dX12_finishJob_141 : decode cX12_finishJob 141 = .ok (.aload_n 0, 1) := by decide +kernel
theorem dX12_finishJob_142 : decode cX12_finishJob 142 = .ok (.getfield 773, 3) := by decide +kernel
theorem dX12_finishJob_145 : decode cX12_finishJob 145 = .ok (.iload_n 3, 1) := by decide +kernel
theorem dX12_finishJob_146 : decode cX12_finishJob 146 = .ok (.iastore, 1) := by decide +kernel
theorem dX12_finishJob_147 : decode cX12_finishJob 147 = .ok (.aload_n 0, 1) := by decide +kernel
theorem dX12_finishJob_148 : decode cX12_finishJob 148 = .ok (.getfield 146, 3) := by decide +kernel
theorem dX12_finishJob_151 : decode cX12_finishJob 151 = .ok (.aload_n 0, 1) := by decide +kernel
theorem dX12_finishJob_152 : decode cX12_finishJob 152 = .ok (.getfield 773, 3) := by decide +kernel
theorem dX12_finishJob_155 : decode cX12_finishJob 155 = .ok (.aload_n 0, 1) := by decide +kernel
theorem dX12_finishJob_156 : decode cX12_finishJob 156 = .ok (.getfield 272, 3) := by decide +kernel
theorem dX12_finishJob_159 : decode cX12_finishJob 159 = .ok (.l2i, 1) := by decide +kernel
theorem dX12_finishJob_16 : decode cX12_finishJob 16 = .ok (.if_icmp .ge 23, 3) := by decide +kernel
theorem dX12_finishJob_160 : decode cX12_finishJob 160 = .ok (.iastore, 1) := by decide +kernel
theorem dX12_finishJob_161 : decode cX12_finishJob 161 = .ok (.aload_n 0, 1) := by decide +kernel
theorem dX12_finishJob_162 : decode cX12_finishJob 162 = .ok (.dup, 1) := by decide +kernel
theorem dX12_finishJob_163 : decode cX12_finishJob 163 = .ok (.getfield 773, 3) := by decide +kernel
theorem dX12_finishJob_166 : decode cX12_finishJob 166 = .ok (.iconst 1, 1) := by decide +kernel
theorem dX12_finishJob_167 : decode cX12_finishJob 167 = .ok (.iadd, 1) := by decide +kernel
theorem dX12_finishJob_168 : decode cX12_finishJob 168 = .ok (.putfield 773, 3) := by decide +kernel
theorem dX12_finishJob_171 : decode cX12_finishJob 171 = .ok (.aload_n 0, 1) := by decide +kernel
theorem dX12_finishJob_172 : decode cX12_finishJob 172 = .ok (.aload_n 0, 1) := by decide +kernel
theorem dX12_finishJob_173 : decode cX12_finishJob 173 = .ok (.getfield 773, 3) := by decide +kernel
theorem dX12_finishJob_176 : decode cX12_finishJob 176 = .ok (.putfield 849, 3) := by decide +kernel
theorem dX12_finishJob_179 : decode cX12_finishJob 179 = .ok (.return_, 1) := by decide +kernel
theorem dX12_finishJob_19 : decode cX12_finishJob 19 = .ok (.aload_n 0, 1) := by decide +kernel
theorem dX12_finishJob_20 : decode cX12_finishJob 20 = .ok (.aload_n 0, 1) := by decide +kernel
theorem dX12_finishJob_21 : decode cX12_finishJob 21 = .ok (.aload_n 0, 1) := by decide +kernel
theorem dX12_finishJob_22 : decode cX12_finishJob 22 = .ok (.getfield 788, 3) := by decide +kernel
theorem dX12_finishJob_25 : decode cX12_finishJob 25 = .ok (.iload 4, 2) := by decide +kernel
theorem dX12_finishJob_27 : decode cX12_finishJob 27 = .ok (.invokevirtual 725, 3) := by decide +kernel
theorem dX12_finishJob_30 : decode cX12_finishJob 30 = .ok (.invokevirtual 189, 3) := by decide +kernel
theorem dX12_finishJob_33 : decode cX12_finishJob 33 = .ok (.iinc 4 1, 3) := by decide +kernel
theorem dX12_finishJob_36 : decode cX12_finishJob 36 = .ok (.goto (-26), 3) := by decide +kernel
theorem dX12_finishJob_39 : decode cX12_finishJob 39 = .ok (.aload_n 0, 1) := by decide +kernel
theorem dX12_finishJob_4 : decode cX12_finishJob 4 = .ok (.aload_n 0, 1) := by decide +kernel
theorem dX12_finishJob_40 : decode cX12_finishJob 40 = .ok (.bipush 16, 2) := by decide +kernel
theorem dX12_finishJob_42 : decode cX12_finishJob 42 = .ok (.invokevirtual 667, 3) := by decide +kernel
theorem dX12_finishJob_45 : decode cX12_finishJob 45 = .ok (.aload_n 0, 1) := by decide +kernel
theorem dX12_finishJob_46 : decode cX12_finishJob 46 = .ok (.iload_n 1, 1) := by decide +kernel
theorem dX12_finishJob_47 : decode cX12_finishJob 47 = .ok (.invokestatic 839, 3) := by decide +kernel
theorem dX12_finishJob_5 : decode cX12_finishJob 5 = .ok (.getfield 734, 3) := by decide +kernel
theorem dX12_finishJob_50 : decode cX12_finishJob 50 = .ok (.invokevirtual 842, 3) := by decide +kernel
theorem dX12_finishJob_53 : decode cX12_finishJob 53 = .ok (.aload_n 0, 1) := by decide +kernel
theorem dX12_finishJob_54 : decode cX12_finishJob 54 = .ok (.bipush 22, 2) := by decide +kernel
theorem dX12_finishJob_56 : decode cX12_finishJob 56 = .ok (.invokevirtual 667, 3) := by decide +kernel
theorem dX12_finishJob_59 : decode cX12_finishJob 59 = .ok (.aload_n 0, 1) := by decide +kernel
theorem dX12_finishJob_60 : decode cX12_finishJob 60 = .ok (.iload_n 2, 1) := by decide +kernel
theorem dX12_finishJob_61 : decode cX12_finishJob 61 = .ok (.i2l, 1) := by decide +kernel
theorem dX12_finishJob_62 : decode cX12_finishJob 62 = .ok (.iconst 4, 1) := by decide +kernel
theorem dX12_finishJob_63 : decode cX12_finishJob 63 = .ok (.invokevirtual 199, 3) := by decide +kernel
theorem dX12_finishJob_66 : decode cX12_finishJob 66 = .ok (.aload_n 0, 1) := by decide +kernel
theorem dX12_finishJob_67 : decode cX12_finishJob 67 = .ok (.bipush 27, 2) := by decide +kernel
theorem dX12_finishJob_69 : decode cX12_finishJob 69 = .ok (.invokevirtual 667, 3) := by decide +kernel
theorem dX12_finishJob_72 : decode cX12_finishJob 72 = .ok (.aload_n 0, 1) := by decide +kernel
theorem dX12_finishJob_73 : decode cX12_finishJob 73 = .ok (.iload_n 3, 1) := by decide +kernel
theorem dX12_finishJob_74 : decode cX12_finishJob 74 = .ok (.i2l, 1) := by decide +kernel
theorem dX12_finishJob_75 : decode cX12_finishJob 75 = .ok (.iconst 4, 1) := by decide +kernel
theorem dX12_finishJob_76 : decode cX12_finishJob 76 = .ok (.invokevirtual 199, 3) := by decide +kernel
theorem dX12_finishJob_79 : decode cX12_finishJob 79 = .ok (.aload_n 0, 1) := by decide +kernel
theorem dX12_finishJob_8 : decode cX12_finishJob 8 = .ok (.istore 4, 2) := by decide +kernel
theorem dX12_finishJob_80 : decode cX12_finishJob 80 = .ok (.bipush 36, 2) := by decide +kernel
theorem dX12_finishJob_82 : decode cX12_finishJob 82 = .ok (.invokevirtual 667, 3) := by decide +kernel
theorem dX12_finishJob_85 : decode cX12_finishJob 85 = .ok (.aload_n 0, 1) := by decide +kernel
theorem dX12_finishJob_86 : decode cX12_finishJob 86 = .ok (.aload_n 0, 1) := by decide +kernel
theorem dX12_finishJob_87 : decode cX12_finishJob 87 = .ok (.getfield 272, 3) := by decide +kernel
theorem dX12_finishJob_90 : decode cX12_finishJob 90 = .ok (.iconst 5, 1) := by decide +kernel
theorem dX12_finishJob_91 : decode cX12_finishJob 91 = .ok (.invokevirtual 199, 3) := by decide +kernel
theorem dX12_finishJob_94 : decode cX12_finishJob 94 = .ok (.aload_n 0, 1) := by decide +kernel
theorem dX12_finishJob_95 : decode cX12_finishJob 95 = .ok (.bipush 18, 2) := by decide +kernel
theorem dX12_finishJob_97 : decode cX12_finishJob 97 = .ok (.invokevirtual 269, 3) := by decide +kernel
set_option maxHeartbeats 4000000 in
set_option maxRecDepth 100000 in
theorem T_X12_finishJob (l : Launch) (D : va_G) (K : Nat → ClassId) (Z Y : Nat → Nat) (ad : Nat → Nat) (t : tSt) (hok : okM t) (x1 : Int32) (hx1 : (0 : Int) ≤ x1.toInt ∧ x1.toInt ≤ 4) (x2 : Int32) (hx2 : (-1 : Int) ≤ x2.toInt ∧ x2.toInt ≤ 9) (x3 : Int32) (hs0 : (t.1 0 83).toInt ≤ 426) (hs1 : (t.1 0 78).toInt = 6) : tMet l yX12_finishJob cX12_finishJob 5 none (rmD 8 0 0) D K Z Y [.ref (ad 0), .int x1, .int x2, .int x3] (WM K ad t) (QV D K (fun (u : tSt) => okM u ∧ frA [(0, 30), (0, 82), (0, 83)] [] [11, 12, 13, 14, 39, 40, 41, 42] [] t u ∧ ((u.1 0 83).toInt = (t.1 0 83).toInt + 1)) (fun (u : tSt) => WM K ad u)) 0 0 := by
  refine t_met RX12 ⟨rfl, by decide +kernel⟩ (Nat.le_of_ble_eq_true rfl) ?_
  intro p e s m below meth c A ls C hE hZ hr hlocks hA hP hD hS hl
  have hl : lv_has ls 5 [(0, .ref (ad 0)), (1, .int x1), (2, .int x2), (3, .int x3)] := hl
  have hokt := hok
  have hfr : frA [(0, 30), (0, 82), (0, 83)] [] [11, 12, 13, 14, 39, 40, 41, 42] [] t t := frA_rf
  have h_1 : (0 : Int) ≤ (t.1 0 30).toInt ∧ (t.1 0 30).toInt ≤ 120 := hok.1 0 30
  have h_2 : (0 : Int) ≤ (t.1 0 78).toInt ∧ (t.1 0 78).toInt ≤ 6 := hok.1 0 78
  have h_3 : (0 : Int) ≤ (t.1 0 79).toInt ∧ (t.1 0 79).toInt ≤ 81 := hok.1 0 79
  have h_4 : (0 : Int) ≤ (t.1 0 83).toInt ∧ (t.1 0 83).toInt ≤ 427 := hok.1 0 83
  have L_117 : ∀ (t1 : tSt) (w117_4 : Int32) (H : Heap) (locs : List Loc) (ls : Array Slot), okM t1 → frA [(0, 30), (0, 82), (0, 83)] [] [11, 12, 13, 14, 39, 40, 41, 42] [] t t1 → (0 : Int) ≤ w117_4.toInt ∧ w117_4.toInt ≤ 81 → ((t1.1 0 83).toInt = (t.1 0 83).toInt) → va_P D vwCl (WM K ad t1) H → va_D A (WM K ad t1) → va_S A s.heap H locs → lv_has ls 5 [(0, .ref (ad 0)), (1, .int x1), (2, .int x2), (3, .int x3), (4, .int w117_4)] → W p l e (rmD 8 0 0) s m [.ref (ad 0), .int x1, .int x2, .int x3].toArray below meth c H locs 0 0 (MQ below (QV D K (fun (u : tSt) => okM u ∧ frA [(0, 30), (0, 82), (0, 83)] [] [11, 12, 13, 14, 39, 40, 41, 42] [] t u ∧ ((u.1 0 83).toInt = (t.1 0 83).toInt + 1)) (fun (u : tSt) => WM K ad u) A) [.ref (ad 0), .int x1, .int x2, .int x3].toArray s 0 0 A) (F0 m 117 ls []) := by
    intro t1 w117_4 H locs ls hok hfr hw117_4 hi117_0 hP hD hS hl
    have h_5 : (t1.1 0 78).toInt = (t.1 0 78).toInt := ti_eq (hfr.1 0 78 rfl)
    have h_6 : (t1.1 0 79).toInt = (t.1 0 79).toInt := ti_eq (hfr.1 0 79 rfl)
    have e_7 : t1.2.2.1 37 = t.2.2.1 37 := hfr.2.2.1 37 rfl
    have e_8 : t1.2.2.1 38 = t.2.2.1 38 := hfr.2.2.1 38 rfl
    have h_9 : (0 : Int) ≤ (t1.1 0 30).toInt ∧ (t1.1 0 30).toInt ≤ 120 := hok.1 0 30
    have h_10 : (0 : Int) ≤ (t1.1 0 78).toInt ∧ (t1.1 0 78).toInt ≤ 6 := hok.1 0 78
    have h_11 : (0 : Int) ≤ (t1.1 0 79).toInt ∧ (t1.1 0 79).toInt ≤ 81 := hok.1 0 79
    have h_12 : (0 : Int) ≤ (t1.1 0 83).toInt ∧ (t1.1 0 83).toInt ≤ 427 := hok.1 0 83
    refine lv_aload_n C.1 C.2.1 dX12_finishJob_117 rfl (lv_at hl 0 rfl) ?_
    refine k_get (v := .ref (ad 39)) C hP 0 rfl rfl inlX12 84 (by decide) m_8_23 rfl dX12_finishJob_118 ?_
    refine lv_aload_n C.1 C.2.1 dX12_finishJob_121 rfl (lv_at hl 0 rfl) ?_
    refine k_get (v := .int (t1.1 0 83)) C hP 0 rfl rfl inlX12 83 (by decide) m_78_16 rfl dX12_finishJob_122 ?_
    refine lv_iload_n C.1 C.2.1 dX12_finishJob_125 rfl (lv_at hl 1 rfl) ?_
    refine k_ist (ws' := WM K ad (uB t1 39 ((t1.1 0 83) : Int32).toNatClampNeg x1)) (x' := x1) C hP hD hS 39 rfl (vp_in_iff.mpr ⟨by omega, by omega⟩) rfl rfl rfl dX12_finishJob_126 (fun H locs hP hD hS => ?_)
    have hok : okM (uB t1 39 ((t1.1 0 83) : Int32).toNatClampNeg x1) := ⟨hok.1, okB_B hok.2.1 39 _ x1 (show (0 : Int) ≤ (x1 : Int32).toInt ∧ (x1 : Int32).toInt ≤ 4 from ⟨by omega, by omega⟩), hok.2.2.1, hok.2.2.2.1, hok.2.2.2.2.1, hok.2.2.2.2.2.1, hok.2.2.2.2.2.2.1, trivial⟩
    have hfr : frA [(0, 30), (0, 82), (0, 83)] [] [11, 12, 13, 14, 39, 40, 41, 42] [] t (uB t1 39 ((t1.1 0 83) : Int32).toNatClampNeg x1) := frA_B hfr 39 _ _ rfl
    refine lv_aload_n C.1 C.2.1 dX12_finishJob_127 rfl (lv_at hl 0 rfl) ?_
    refine k_get (v := .ref (ad 40)) C hP 0 rfl rfl inlX12 85 (by decide) m_9_0 rfl dX12_finishJob_128 ?_
    refine lv_aload_n C.1 C.2.1 dX12_finishJob_131 rfl (lv_at hl 0 rfl) ?_
    refine k_get (v := .int (t1.1 0 83)) C hP 0 rfl rfl inlX12 83 (by decide) m_78_16 rfl dX12_finishJob_132 ?_
    refine lv_iload_n C.1 C.2.1 dX12_finishJob_135 rfl (lv_at hl 2 rfl) ?_
    obtain ⟨t_13, e_14⟩ : ∃ z, z = (uB t1 39 ((t1.1 0 83) : Int32).toNatClampNeg x1) := ⟨_, rfl⟩
    rw [← e_14] at hP hD hok hfr
    have h_15 : (t_13.1 0 83).toInt = ((t1.1 0 83) : Int32).toInt := by rw [e_14]; rfl
    have h_16 : (t_13.1 0 30).toInt = (t1.1 0 30).toInt := by rw [e_14]; rfl
    have h_17 : (t_13.1 0 78).toInt = (t1.1 0 78).toInt := by rw [e_14]; rfl
    have h_18 : (t_13.1 0 79).toInt = (t1.1 0 79).toInt := by rw [e_14]; rfl
    have e_19 : t_13.2.2.1 37 = t.2.2.1 37 := by rw [e_14]; exact (uB_ne rfl).trans e_7
    have e_20 : t_13.2.2.1 38 = t.2.2.1 38 := by rw [e_14]; exact (uB_ne rfl).trans e_8
    refine k_ist (ws' := WM K ad (uB t_13 40 ((t1.1 0 83) : Int32).toNatClampNeg x2)) (x' := x2) C hP hD hS 40 rfl (vp_in_iff.mpr ⟨by omega, by omega⟩) rfl rfl rfl dX12_finishJob_136 (fun H locs hP hD hS => ?_)
    have hok : okM (uB t_13 40 ((t1.1 0 83) : Int32).toNatClampNeg x2) := ⟨hok.1, okB_B hok.2.1 40 _ x2 (show (-1 : Int) ≤ (x2 : Int32).toInt ∧ (x2 : Int32).toInt ≤ 9 from ⟨by omega, by omega⟩), hok.2.2.1, hok.2.2.2.1, hok.2.2.2.2.1, hok.2.2.2.2.2.1, hok.2.2.2.2.2.2.1, trivial⟩
    have hfr : frA [(0, 30), (0, 82), (0, 83)] [] [11, 12, 13, 14, 39, 40, 41, 42] [] t (uB t_13 40 ((t1.1 0 83) : Int32).toNatClampNeg x2) := frA_B hfr 40 _ _ rfl
    refine lv_aload_n C.1 C.2.1 dX12_finishJob_137 rfl (lv_at hl 0 rfl) ?_
    refine k_get (v := .ref (ad 41)) C hP 0 rfl rfl inlX12 86 (by decide) m_9_1 rfl dX12_finishJob_138 ?_
    refine lv_aload_n C.1 C.2.1 dX12_finishJob_141 rfl (lv_at hl 0 rfl) ?_
    refine k_get (v := .int (t_13.1 0 83)) C hP 0 rfl rfl inlX12 83 (by decide) m_78_16 rfl dX12_finishJob_142 ?_
    refine lv_iload_n C.1 C.2.1 dX12_finishJob_145 rfl (lv_at hl 3 rfl) ?_
    obtain ⟨t_21, e_22⟩ : ∃ z, z = (uB t_13 40 ((t1.1 0 83) : Int32).toNatClampNeg x2) := ⟨_, rfl⟩
    rw [← e_22] at hP hD hok hfr
    have h_23 : (t_21.1 0 83).toInt = ((t_13.1 0 83) : Int32).toInt := by rw [e_22]; rfl
    have h_24 : (t_21.1 0 30).toInt = (t_13.1 0 30).toInt := by rw [e_22]; rfl
    have h_25 : (t_21.1 0 78).toInt = (t_13.1 0 78).toInt := by rw [e_22]; rfl
    have h_26 : (t_21.1 0 79).toInt = (t_13.1 0 79).toInt := by rw [e_22]; rfl
    have e_27 : t_21.2.2.1 37 = t.2.2.1 37 := by rw [e_22]; exact (uB_ne rfl).trans e_19
    have e_28 : t_21.2.2.1 38 = t.2.2.1 38 := by rw [e_22]; exact (uB_ne rfl).trans e_20
    refine k_ist (ws' := WM K ad (uB t_21 41 ((t_13.1 0 83) : Int32).toNatClampNeg x3)) (x' := x3) C hP hD hS 41 rfl (vp_in_iff.mpr ⟨by omega, by omega⟩) rfl rfl rfl dX12_finishJob_146 (fun H locs hP hD hS => ?_)
    have hok : okM (uB t_21 41 ((t_13.1 0 83) : Int32).toNatClampNeg x3) := ⟨hok.1, okB_B hok.2.1 41 _ x3 (show (-2147483648 : Int) ≤ (x3 : Int32).toInt ∧ (x3 : Int32).toInt ≤ 2147483647 from (i_rng _)), hok.2.2.1, hok.2.2.2.1, hok.2.2.2.2.1, hok.2.2.2.2.2.1, hok.2.2.2.2.2.2.1, trivial⟩
    have hfr : frA [(0, 30), (0, 82), (0, 83)] [] [11, 12, 13, 14, 39, 40, 41, 42] [] t (uB t_21 41 ((t_13.1 0 83) : Int32).toNatClampNeg x3) := frA_B hfr 41 _ _ rfl
    refine lv_aload_n C.1 C.2.1 dX12_finishJob_147 rfl (lv_at hl 0 rfl) ?_
    refine k_get (v := .ref (ad 42)) C hP 0 rfl rfl inlX12 87 (by decide) m_9_2 rfl dX12_finishJob_148 ?_
    refine lv_aload_n C.1 C.2.1 dX12_finishJob_151 rfl (lv_at hl 0 rfl) ?_
    refine k_get (v := .int (t_21.1 0 83)) C hP 0 rfl rfl inlX12 83 (by decide) m_78_16 rfl dX12_finishJob_152 ?_
    refine lv_aload_n C.1 C.2.1 dX12_finishJob_155 rfl (lv_at hl 0 rfl) ?_
    refine k_get (v := .long (t_21.2.1 0 8)) C hP 0 rfl rfl inlX12 8 (by decide) m_29_23 rfl dX12_finishJob_156 ?_
    obtain ⟨v_29, e_30⟩ : ∃ z, z = ((t_21.2.1 0 8)).toInt32 := ⟨_, rfl⟩
    refine lv_l2i (v := v_29) C.1 C.2.1 dX12_finishJob_159 e_30.symm ?_
    obtain ⟨t_31, e_32⟩ : ∃ z, z = (uB t_21 41 ((t_13.1 0 83) : Int32).toNatClampNeg x3) := ⟨_, rfl⟩
    rw [← e_32] at hP hD hok hfr
    have h_33 : (t_31.1 0 83).toInt = ((t_21.1 0 83) : Int32).toInt := by rw [e_32]; rfl
    have h_34 : (t_31.2.1 0 8).toInt = ((t_21.2.1 0 8) : Int64).toInt := by rw [e_32]; rfl
    have h_35 : (t_31.1 0 30).toInt = (t_21.1 0 30).toInt := by rw [e_32]; rfl
    have h_36 : (t_31.1 0 78).toInt = (t_21.1 0 78).toInt := by rw [e_32]; rfl
    have h_37 : (t_31.1 0 79).toInt = (t_21.1 0 79).toInt := by rw [e_32]; rfl
    have e_38 : t_31.2.2.1 37 = t.2.2.1 37 := by rw [e_32]; exact (uB_ne rfl).trans e_27
    have e_39 : t_31.2.2.1 38 = t.2.2.1 38 := by rw [e_32]; exact (uB_ne rfl).trans e_28
    refine k_ist (ws' := WM K ad (uB t_31 42 ((t_21.1 0 83) : Int32).toNatClampNeg v_29)) (x' := v_29) C hP hD hS 42 rfl (vp_in_iff.mpr ⟨by omega, by omega⟩) rfl rfl rfl dX12_finishJob_160 (fun H locs hP hD hS => ?_)
    have hok : okM (uB t_31 42 ((t_21.1 0 83) : Int32).toNatClampNeg v_29) := ⟨hok.1, okB_B hok.2.1 42 _ v_29 (show (-2147483648 : Int) ≤ (v_29 : Int32).toInt ∧ (v_29 : Int32).toInt ≤ 2147483647 from (i_rng _)), hok.2.2.1, hok.2.2.2.1, hok.2.2.2.2.1, hok.2.2.2.2.2.1, hok.2.2.2.2.2.2.1, trivial⟩
    have hfr : frA [(0, 30), (0, 82), (0, 83)] [] [11, 12, 13, 14, 39, 40, 41, 42] [] t (uB t_31 42 ((t_21.1 0 83) : Int32).toNatClampNeg v_29) := frA_B hfr 42 _ _ rfl
    refine lv_aload_n C.1 C.2.1 dX12_finishJob_161 rfl (lv_at hl 0 rfl) ?_
    refine lv_dup C.1 C.2.1 dX12_finishJob_162 rfl ?_
    refine k_get (v := .int (t_31.1 0 83)) C hP 0 rfl rfl inlX12 83 (by decide) m_78_16 rfl dX12_finishJob_163 ?_
    refine lv_iconst (v := 1) C.1 C.2.1 dX12_finishJob_166 (by decide) ?_
    obtain ⟨v_40, e_41⟩ : ∃ z, z = ((t_31.1 0 83) : Int32) + (1 : Int32) := ⟨_, rfl⟩
    have h_42 : v_40.toInt = (t_31.1 0 83).toInt + 1 := by rw [e_41]; exact ti_iadd (by show (_ : Int) ≤ (t_31.1 0 83).toInt + 1; omega) (by show (t_31.1 0 83).toInt + 1 < (_ : Int); omega)
    refine k_iadd (v := v_40) C e_41.symm dX12_finishJob_167 ?_
    refine k_put (ws' := WM K ad (uI (uB t_31 42 ((t_21.1 0 83) : Int32).toNatClampNeg v_29) 0 83 v_40)) (v := .int v_40) C hP hD hS 0 rfl rfl inlX12 tyX12_ok nmX12 83 (by decide) m_78_16 rfl rfl rfl rfl rfl dX12_finishJob_168 (fun H locs hP hD hS => ?_)
    have hok : okM (uI (uB t_31 42 ((t_21.1 0 83) : Int32).toNatClampNeg v_29) 0 83 v_40) := ⟨okI_I hok.1 0 83 v_40 (show (0 : Int) ≤ (v_40 : Int32).toInt ∧ (v_40 : Int32).toInt ≤ 427 from ⟨by omega, by omega⟩), hok.2.1, hok.2.2.1, hok.2.2.2.1, hok.2.2.2.2.1, hok.2.2.2.2.2.1, hok.2.2.2.2.2.2.1, trivial⟩
    have hfr : frA [(0, 30), (0, 82), (0, 83)] [] [11, 12, 13, 14, 39, 40, 41, 42] [] t (uI (uB t_31 42 ((t_21.1 0 83) : Int32).toNatClampNeg v_29) 0 83 v_40) := frA_I hfr 0 83 _ rfl
    refine lv_aload_n C.1 C.2.1 dX12_finishJob_171 rfl (lv_at hl 0 rfl) ?_
    refine lv_aload_n C.1 C.2.1 dX12_finishJob_172 rfl (lv_at hl 0 rfl) ?_
    refine k_get (v := .int v_40) C hP 0 rfl rfl inlX12 83 (by decide) m_78_16 rfl dX12_finishJob_173 ?_
    refine k_put (ws' := WM K ad (uI (uI (uB t_31 42 ((t_21.1 0 83) : Int32).toNatClampNeg v_29) 0 83 v_40) 0 82 v_40)) (v := .int v_40) C hP hD hS 0 rfl rfl inlX12 tyX12_ok nmX12 82 (by decide) m_81_19 rfl rfl rfl rfl rfl dX12_finishJob_176 (fun H locs hP hD hS => ?_)
    have hok : okM (uI (uI (uB t_31 42 ((t_21.1 0 83) : Int32).toNatClampNeg v_29) 0 83 v_40) 0 82 v_40) := ⟨okI_I hok.1 0 82 v_40 (show (0 : Int) ≤ (v_40 : Int32).toInt ∧ (v_40 : Int32).toInt ≤ 427 from ⟨by omega, by omega⟩), hok.2.1, hok.2.2.1, hok.2.2.2.1, hok.2.2.2.2.1, hok.2.2.2.2.2.1, hok.2.2.2.2.2.2.1, trivial⟩
    have hfr : frA [(0, 30), (0, 82), (0, 83)] [] [11, 12, 13, 14, 39, 40, 41, 42] [] t (uI (uI (uB t_31 42 ((t_21.1 0 83) : Int32).toNatClampNeg v_29) 0 83 v_40) 0 82 v_40) := frA_I hfr 0 82 _ rfl
    exact g_vret C hr hlocks hP hD hS (uI (uI (uB t_31 42 ((t_21.1 0 83) : Int32).toNatClampNeg v_29) 0 83 v_40) 0 82 v_40) rfl ⟨hok, hfr, (show v_40.toInt = (t.1 0 83).toInt + 1 from by omega)⟩ (Nat.le_of_ble_eq_true rfl) (Nat.le_of_ble_eq_true rfl) dX12_finishJob_179
  have L_10 : ∀ (fuel_10 : Nat) (t1 : tSt) (w10_4 : Int32) (H : Heap) (locs : List Loc) (ls : Array Slot), okM t1 → frA [(0, 30), (0, 82), (0, 83)] [] [11, 12, 13, 14, 39, 40, 41, 42] [] t t1 → (0 : Int) ≤ w10_4.toInt ∧ w10_4.toInt ≤ 81 → ((t1.1 0 30).toInt ≤ w10_4.toInt) → ((t1.1 0 83).toInt = (t.1 0 83).toInt) → (6 ≤ w10_4.toInt) → (81 : Int) - w10_4.toInt < (fuel_10 : Int) → va_P D vwCl (WM K ad t1) H → va_D A (WM K ad t1) → va_S A s.heap H locs → lv_has ls 5 [(0, .ref (ad 0)), (1, .int x1), (2, .int x2), (3, .int x3), (4, .int w10_4)] → W p l e (rmD 8 0 0) s m [.ref (ad 0), .int x1, .int x2, .int x3].toArray below meth c H locs 0 0 (MQ below (QV D K (fun (u : tSt) => okM u ∧ frA [(0, 30), (0, 82), (0, 83)] [] [11, 12, 13, 14, 39, 40, 41, 42] [] t u ∧ ((u.1 0 83).toInt = (t.1 0 83).toInt + 1)) (fun (u : tSt) => WM K ad u) A) [.ref (ad 0), .int x1, .int x2, .int x3].toArray s 0 0 A) (F0 m 10 ls []) := by
    intro fuel_10
    induction fuel_10 with
    | zero =>
      intro t1 w10_4 H locs ls hok hfr hw10_4 hi10_0 hi10_1 hi10_2 hm10_10 hP hD hS hl
      have h_43 : (t1.1 0 78).toInt = (t.1 0 78).toInt := ti_eq (hfr.1 0 78 rfl)
      have h_44 : (t1.1 0 79).toInt = (t.1 0 79).toInt := ti_eq (hfr.1 0 79 rfl)
      have e_45 : t1.2.2.1 37 = t.2.2.1 37 := hfr.2.2.1 37 rfl
      have e_46 : t1.2.2.1 38 = t.2.2.1 38 := hfr.2.2.1 38 rfl
      have h_47 : (0 : Int) ≤ (t1.1 0 30).toInt ∧ (t1.1 0 30).toInt ≤ 120 := hok.1 0 30
      have h_48 : (0 : Int) ≤ (t1.1 0 78).toInt ∧ (t1.1 0 78).toInt ≤ 6 := hok.1 0 78
      have h_49 : (0 : Int) ≤ (t1.1 0 79).toInt ∧ (t1.1 0 79).toInt ≤ 81 := hok.1 0 79
      have h_50 : (0 : Int) ≤ (t1.1 0 83).toInt ∧ (t1.1 0 83).toInt ≤ 427 := hok.1 0 83
      exact absurd hm10_10 (by omega)
    | succ fuel_10 ih_10 =>
      intro t1 w10_4 H locs ls hok hfr hw10_4 hi10_0 hi10_1 hi10_2 hm10_10 hP hD hS hl
      have hm10_10 : (81 : Int) - w10_4.toInt < (fuel_10 : Int) + 1 := by omega
      have h_51 : (t1.1 0 78).toInt = (t.1 0 78).toInt := ti_eq (hfr.1 0 78 rfl)
      have h_52 : (t1.1 0 79).toInt = (t.1 0 79).toInt := ti_eq (hfr.1 0 79 rfl)
      have e_53 : t1.2.2.1 37 = t.2.2.1 37 := hfr.2.2.1 37 rfl
      have e_54 : t1.2.2.1 38 = t.2.2.1 38 := hfr.2.2.1 38 rfl
      have h_55 : (0 : Int) ≤ (t1.1 0 30).toInt ∧ (t1.1 0 30).toInt ≤ 120 := hok.1 0 30
      have h_56 : (0 : Int) ≤ (t1.1 0 78).toInt ∧ (t1.1 0 78).toInt ≤ 6 := hok.1 0 78
      have h_57 : (0 : Int) ≤ (t1.1 0 79).toInt ∧ (t1.1 0 79).toInt ≤ 81 := hok.1 0 79
      have h_58 : (0 : Int) ≤ (t1.1 0 83).toInt ∧ (t1.1 0 83).toInt ≤ 427 := hok.1 0 83
      refine lv_iload C.1 C.2.1 dX12_finishJob_10 (lv_at hl 4 rfl) ?_
      refine lv_aload_n C.1 C.2.1 dX12_finishJob_12 rfl (lv_at hl 0 rfl) ?_
      refine k_get (v := .int (t1.1 0 79)) C hP 0 rfl rfl inlX12 79 (by decide) m_78_22 rfl dX12_finishJob_13 ?_
      refine lv_icmp_ge (tgt := 39) C.1 C.2.1 dX12_finishJob_16 (by decide) (fun c_59 => ?_) (fun c_59 => ?_)
      · replace c_59 : (t1.1 0 79).toInt ≤ w10_4.toInt := i_le c_59
        refine lv_aload_n C.1 C.2.1 dX12_finishJob_39 rfl (lv_at hl 0 rfl) ?_
        refine lv_bipush (v := 16) C.1 C.2.1 dX12_finishJob_40 (by decide) ?_
        have h_60 : (16 : Int32).toInt = 16 := rfl
        refine g_Vv (As := [.int 16]) (rest := []) C hP hD hS hA (T_X12_toColumn l D K Z Y ad t1 hok 16 (show (2 : Int) ≤ (16 : Int32).toInt ∧ (16 : Int32).toInt ≤ 63 from ⟨by decide, by decide⟩) (show (16 : Int32).toInt ≤ 121 from by omega)) hE hZ (uwV m_42_17 m_42_18 m_42_19 m_1_5 m_42_20) (hdV 1 (by decide +kernel) rfl) ⟨Nat.le_of_ble_eq_true rfl, Nat.le_of_ble_eq_true rfl⟩ rfl rfl (ci := 11) (q0 := 0) rfl rfl rfl hl.1 (Nat.le_of_ble_eq_true rfl) dX12_finishJob_42 ⟨Nat.le_of_ble_eq_true rfl, Nat.le_of_ble_eq_true rfl⟩ (fun t_61 H locs hw hP hD hS => ?_)
        obtain ⟨hok, f_63, p_64, p_65⟩ := hw
        have hfr : frA [(0, 30), (0, 82), (0, 83)] [] [11, 12, 13, 14, 39, 40, 41, 42] [] t t_61 := frA_tr hfr f_63 rfl
        have h_66 : (t_61.1 0 79).toInt = (t1.1 0 79).toInt := ti_eq (f_63.1 0 79 rfl)
        have h_67 : (t_61.1 0 78).toInt = (t1.1 0 78).toInt := ti_eq (f_63.1 0 78 rfl)
        have h_68 : (t_61.1 0 83).toInt = (t1.1 0 83).toInt := ti_eq (f_63.1 0 83 rfl)
        have e_69 : t_61.2.2.1 37 = t.2.2.1 37 := (f_63.2.2.1 37 rfl).trans (e_53)
        have e_70 : t_61.2.2.1 38 = t.2.2.1 38 := (f_63.2.2.1 38 rfl).trans (e_54)
        have h_71 : (0 : Int) ≤ (t_61.1 0 30).toInt ∧ (t_61.1 0 30).toInt ≤ 120 := hok.1 0 30
        have h_72 : (0 : Int) ≤ (t_61.1 0 78).toInt ∧ (t_61.1 0 78).toInt ≤ 6 := hok.1 0 78
        have h_73 : (0 : Int) ≤ (t_61.1 0 83).toInt ∧ (t_61.1 0 83).toInt ≤ 427 := hok.1 0 83
        replace p_64 : (t1.1 0 30).toInt ≤ (t_61.1 0 30).toInt := p_64
        replace p_65 : (t_61.1 0 30).toInt ≤ (t1.1 0 30).toInt ∨ (t_61.1 0 30).toInt ≤ (16 : Int32).toInt - 1 := p_65
        refine lv_aload_n C.1 C.2.1 dX12_finishJob_45 rfl (lv_at hl 0 rfl) ?_
        refine lv_iload_n C.1 C.2.1 dX12_finishJob_46 rfl (lv_at hl 1 rfl) ?_
        refine g_Sr (As := [.int x1]) (rest := [.ref (ad 0)]) C hP hD hS hA (T_X12_endOfJob l D K Z Y ad t_61 hok (x1) (show (0 : Int) ≤ (x1 : Int32).toInt ∧ (x1 : Int32).toInt ≤ 4 from ⟨by omega, by omega⟩)) hE hZ (uwS m_81_20 m_81_21 m_1_5 m_81_22) (hdS 1 (by decide +kernel) rfl) ⟨Nat.le_of_ble_eq_true rfl, Nat.le_of_ble_eq_true rfl⟩ rfl rfl rfl hl.1 (Nat.le_of_ble_eq_true rfl) dX12_finishJob_47 ⟨Nat.le_of_ble_eq_true rfl, Nat.le_of_ble_eq_true rfl⟩ (fun t_74 H locs hw hP hD hS => ?_)
        have ht_74 := hw
        have hsq := sS_len ht_74
        refine g_Vv (As := [.ref (Z t_74)]) (rest := []) C hP hD hS hA (T_X12_sayAll l D K Z Y ad t_61 hok (t_74) ht_74 (show (t_61.1 0 30).toInt ≤ 115 from by omega)) hE hZ (uwV m_81_23 m_82_0 m_82_1 m_1_5 m_82_2) (hdV 1 (by decide +kernel) rfl) ⟨Nat.le_of_ble_eq_true rfl, Nat.le_of_ble_eq_true rfl⟩ rfl rfl (ci := 11) (q0 := 0) rfl rfl rfl hl.1 (Nat.le_of_ble_eq_true rfl) dX12_finishJob_50 ⟨Nat.le_of_ble_eq_true rfl, Nat.le_of_ble_eq_true rfl⟩ (fun t_77 H locs hw hP hD hS => ?_)
        obtain ⟨hok, f_79, p_80⟩ := hw
        have hfr : frA [(0, 30), (0, 82), (0, 83)] [] [11, 12, 13, 14, 39, 40, 41, 42] [] t t_77 := frA_tr hfr f_79 rfl
        have h_81 : (t_77.1 0 79).toInt = (t_61.1 0 79).toInt := ti_eq (f_79.1 0 79 rfl)
        have h_82 : (t_77.1 0 78).toInt = (t_61.1 0 78).toInt := ti_eq (f_79.1 0 78 rfl)
        have h_83 : (t_77.1 0 83).toInt = (t_61.1 0 83).toInt := ti_eq (f_79.1 0 83 rfl)
        have e_84 : t_77.2.2.1 37 = t.2.2.1 37 := (f_79.2.2.1 37 rfl).trans (e_69)
        have e_85 : t_77.2.2.1 38 = t.2.2.1 38 := (f_79.2.2.1 38 rfl).trans (e_70)
        have h_86 : (0 : Int) ≤ (t_77.1 0 30).toInt ∧ (t_77.1 0 30).toInt ≤ 120 := hok.1 0 30
        have h_87 : (0 : Int) ≤ (t_77.1 0 78).toInt ∧ (t_77.1 0 78).toInt ≤ 6 := hok.1 0 78
        have h_88 : (0 : Int) ≤ (t_77.1 0 83).toInt ∧ (t_77.1 0 83).toInt ≤ 427 := hok.1 0 83
        replace p_80 : (t_77.1 0 30).toInt = (t_61.1 0 30).toInt + (sL t_74) := p_80
        refine lv_aload_n C.1 C.2.1 dX12_finishJob_53 rfl (lv_at hl 0 rfl) ?_
        refine lv_bipush (v := 22) C.1 C.2.1 dX12_finishJob_54 (by decide) ?_
        have h_89 : (22 : Int32).toInt = 22 := rfl
        refine g_Vv (As := [.int 22]) (rest := []) C hP hD hS hA (T_X12_toColumn l D K Z Y ad t_77 hok 22 (show (2 : Int) ≤ (22 : Int32).toInt ∧ (22 : Int32).toInt ≤ 63 from ⟨by decide, by decide⟩) (show (22 : Int32).toInt ≤ 121 from by omega)) hE hZ (uwV m_42_17 m_42_18 m_42_19 m_1_5 m_42_20) (hdV 1 (by decide +kernel) rfl) ⟨Nat.le_of_ble_eq_true rfl, Nat.le_of_ble_eq_true rfl⟩ rfl rfl (ci := 11) (q0 := 0) rfl rfl rfl hl.1 (Nat.le_of_ble_eq_true rfl) dX12_finishJob_56 ⟨Nat.le_of_ble_eq_true rfl, Nat.le_of_ble_eq_true rfl⟩ (fun t_90 H locs hw hP hD hS => ?_)
        obtain ⟨hok, f_92, p_93, p_94⟩ := hw
        have hfr : frA [(0, 30), (0, 82), (0, 83)] [] [11, 12, 13, 14, 39, 40, 41, 42] [] t t_90 := frA_tr hfr f_92 rfl
        have h_95 : (t_90.1 0 79).toInt = (t_77.1 0 79).toInt := ti_eq (f_92.1 0 79 rfl)
        have h_96 : (t_90.1 0 78).toInt = (t_77.1 0 78).toInt := ti_eq (f_92.1 0 78 rfl)
        have h_97 : (t_90.1 0 83).toInt = (t_77.1 0 83).toInt := ti_eq (f_92.1 0 83 rfl)
        have e_98 : t_90.2.2.1 37 = t.2.2.1 37 := (f_92.2.2.1 37 rfl).trans (e_84)
        have e_99 : t_90.2.2.1 38 = t.2.2.1 38 := (f_92.2.2.1 38 rfl).trans (e_85)
        have h_100 : (0 : Int) ≤ (t_90.1 0 30).toInt ∧ (t_90.1 0 30).toInt ≤ 120 := hok.1 0 30
        have h_101 : (0 : Int) ≤ (t_90.1 0 78).toInt ∧ (t_90.1 0 78).toInt ≤ 6 := hok.1 0 78
        have h_102 : (0 : Int) ≤ (t_90.1 0 83).toInt ∧ (t_90.1 0 83).toInt ≤ 427 := hok.1 0 83
        replace p_93 : (t_77.1 0 30).toInt ≤ (t_90.1 0 30).toInt := p_93
        replace p_94 : (t_90.1 0 30).toInt ≤ (t_77.1 0 30).toInt ∨ (t_90.1 0 30).toInt ≤ (22 : Int32).toInt - 1 := p_94
        refine lv_aload_n C.1 C.2.1 dX12_finishJob_59 rfl (lv_at hl 0 rfl) ?_
        refine lv_iload_n C.1 C.2.1 dX12_finishJob_60 rfl (lv_at hl 2 rfl) ?_
        obtain ⟨v_103, e_104⟩ : ∃ z, z = (x2 : Int32).toInt64 := ⟨_, rfl⟩
        have h_105 : v_103.toInt = x2.toInt := by rw [e_104]; exact Jvm.Kit.i64_of_i32 _
        refine lv_i2l (v := v_103) C.1 C.2.1 dX12_finishJob_61 e_104.symm ?_
        refine lv_iconst (v := 4) C.1 C.2.1 dX12_finishJob_62 (by decide) ?_
        have h_106 : (4 : Int32).toInt = 4 := rfl
        refine g_Vv (As := [.long v_103, .int 4]) (rest := []) C hP hD hS hA (T_X12_sayDigits l D K Z Y ad t_90 hok (v_103) 4 (show (1 : Int) ≤ (4 : Int32).toInt ∧ (4 : Int32).toInt ≤ 10 from ⟨by decide, by decide⟩) (show (t_90.1 0 30).toInt + (4 : Int32).toInt ≤ 120 from by omega) (show 1 ≤ (4 : Int32).toInt from by omega) (show (4 : Int32).toInt ≤ 10 from by omega)) hE hZ (uwV m_42_9 m_42_10 m_42_11 m_1_5 m_42_12) (hdV 2 (by decide +kernel) rfl) ⟨Nat.le_of_ble_eq_true rfl, Nat.le_of_ble_eq_true rfl⟩ rfl rfl (ci := 11) (q0 := 0) rfl rfl rfl hl.1 (Nat.le_of_ble_eq_true rfl) dX12_finishJob_63 ⟨Nat.le_of_ble_eq_true rfl, Nat.le_of_ble_eq_true rfl⟩ (fun t_107 H locs hw hP hD hS => ?_)
        obtain ⟨hok, f_109, p_110⟩ := hw
        have hfr : frA [(0, 30), (0, 82), (0, 83)] [] [11, 12, 13, 14, 39, 40, 41, 42] [] t t_107 := frA_tr hfr f_109 rfl
        have h_111 : (t_107.1 0 79).toInt = (t_90.1 0 79).toInt := ti_eq (f_109.1 0 79 rfl)
        have h_112 : (t_107.1 0 78).toInt = (t_90.1 0 78).toInt := ti_eq (f_109.1 0 78 rfl)
        have h_113 : (t_107.1 0 83).toInt = (t_90.1 0 83).toInt := ti_eq (f_109.1 0 83 rfl)
        have e_114 : t_107.2.2.1 37 = t.2.2.1 37 := (f_109.2.2.1 37 rfl).trans (e_98)
        have e_115 : t_107.2.2.1 38 = t.2.2.1 38 := (f_109.2.2.1 38 rfl).trans (e_99)
        have h_116 : (0 : Int) ≤ (t_107.1 0 30).toInt ∧ (t_107.1 0 30).toInt ≤ 120 := hok.1 0 30
        have h_117 : (0 : Int) ≤ (t_107.1 0 78).toInt ∧ (t_107.1 0 78).toInt ≤ 6 := hok.1 0 78
        have h_118 : (0 : Int) ≤ (t_107.1 0 83).toInt ∧ (t_107.1 0 83).toInt ≤ 427 := hok.1 0 83
        replace p_110 : (t_107.1 0 30).toInt = (t_90.1 0 30).toInt + (4 : Int32).toInt := p_110
        refine lv_aload_n C.1 C.2.1 dX12_finishJob_66 rfl (lv_at hl 0 rfl) ?_
        refine lv_bipush (v := 27) C.1 C.2.1 dX12_finishJob_67 (by decide) ?_
        have h_119 : (27 : Int32).toInt = 27 := rfl
        refine g_Vv (As := [.int 27]) (rest := []) C hP hD hS hA (T_X12_toColumn l D K Z Y ad t_107 hok 27 (show (2 : Int) ≤ (27 : Int32).toInt ∧ (27 : Int32).toInt ≤ 63 from ⟨by decide, by decide⟩) (show (27 : Int32).toInt ≤ 121 from by omega)) hE hZ (uwV m_42_17 m_42_18 m_42_19 m_1_5 m_42_20) (hdV 1 (by decide +kernel) rfl) ⟨Nat.le_of_ble_eq_true rfl, Nat.le_of_ble_eq_true rfl⟩ rfl rfl (ci := 11) (q0 := 0) rfl rfl rfl hl.1 (Nat.le_of_ble_eq_true rfl) dX12_finishJob_69 ⟨Nat.le_of_ble_eq_true rfl, Nat.le_of_ble_eq_true rfl⟩ (fun t_120 H locs hw hP hD hS => ?_)
        obtain ⟨hok, f_122, p_123, p_124⟩ := hw
        have hfr : frA [(0, 30), (0, 82), (0, 83)] [] [11, 12, 13, 14, 39, 40, 41, 42] [] t t_120 := frA_tr hfr f_122 rfl
        have h_125 : (t_120.1 0 79).toInt = (t_107.1 0 79).toInt := ti_eq (f_122.1 0 79 rfl)
        have h_126 : (t_120.1 0 78).toInt = (t_107.1 0 78).toInt := ti_eq (f_122.1 0 78 rfl)
        have h_127 : (t_120.1 0 83).toInt = (t_107.1 0 83).toInt := ti_eq (f_122.1 0 83 rfl)
        have e_128 : t_120.2.2.1 37 = t.2.2.1 37 := (f_122.2.2.1 37 rfl).trans (e_114)
        have e_129 : t_120.2.2.1 38 = t.2.2.1 38 := (f_122.2.2.1 38 rfl).trans (e_115)
        have h_130 : (0 : Int) ≤ (t_120.1 0 30).toInt ∧ (t_120.1 0 30).toInt ≤ 120 := hok.1 0 30
        have h_131 : (0 : Int) ≤ (t_120.1 0 78).toInt ∧ (t_120.1 0 78).toInt ≤ 6 := hok.1 0 78
        have h_132 : (0 : Int) ≤ (t_120.1 0 83).toInt ∧ (t_120.1 0 83).toInt ≤ 427 := hok.1 0 83
        replace p_123 : (t_107.1 0 30).toInt ≤ (t_120.1 0 30).toInt := p_123
        replace p_124 : (t_120.1 0 30).toInt ≤ (t_107.1 0 30).toInt ∨ (t_120.1 0 30).toInt ≤ (27 : Int32).toInt - 1 := p_124
        refine lv_aload_n C.1 C.2.1 dX12_finishJob_72 rfl (lv_at hl 0 rfl) ?_
        refine lv_iload_n C.1 C.2.1 dX12_finishJob_73 rfl (lv_at hl 3 rfl) ?_
        obtain ⟨v_133, e_134⟩ : ∃ z, z = (x3 : Int32).toInt64 := ⟨_, rfl⟩
        have h_135 : v_133.toInt = x3.toInt := by rw [e_134]; exact Jvm.Kit.i64_of_i32 _
        have h_136 := i_rng x3
        refine lv_i2l (v := v_133) C.1 C.2.1 dX12_finishJob_74 e_134.symm ?_
        refine lv_iconst (v := 4) C.1 C.2.1 dX12_finishJob_75 (by decide) ?_
        refine g_Vv (As := [.long v_133, .int 4]) (rest := []) C hP hD hS hA (T_X12_sayDigits l D K Z Y ad t_120 hok (v_133) 4 (show (1 : Int) ≤ (4 : Int32).toInt ∧ (4 : Int32).toInt ≤ 10 from ⟨by decide, by decide⟩) (show (t_120.1 0 30).toInt + (4 : Int32).toInt ≤ 120 from by omega) (show 1 ≤ (4 : Int32).toInt from by omega) (show (4 : Int32).toInt ≤ 10 from by omega)) hE hZ (uwV m_42_9 m_42_10 m_42_11 m_1_5 m_42_12) (hdV 2 (by decide +kernel) rfl) ⟨Nat.le_of_ble_eq_true rfl, Nat.le_of_ble_eq_true rfl⟩ rfl rfl (ci := 11) (q0 := 0) rfl rfl rfl hl.1 (Nat.le_of_ble_eq_true rfl) dX12_finishJob_76 ⟨Nat.le_of_ble_eq_true rfl, Nat.le_of_ble_eq_true rfl⟩ (fun t_137 H locs hw hP hD hS => ?_)
        obtain ⟨hok, f_139, p_140⟩ := hw
        have hfr : frA [(0, 30), (0, 82), (0, 83)] [] [11, 12, 13, 14, 39, 40, 41, 42] [] t t_137 := frA_tr hfr f_139 rfl
        have h_141 : (t_137.1 0 79).toInt = (t_120.1 0 79).toInt := ti_eq (f_139.1 0 79 rfl)
        have h_142 : (t_137.1 0 78).toInt = (t_120.1 0 78).toInt := ti_eq (f_139.1 0 78 rfl)
        have h_143 : (t_137.1 0 83).toInt = (t_120.1 0 83).toInt := ti_eq (f_139.1 0 83 rfl)
        have e_144 : t_137.2.2.1 37 = t.2.2.1 37 := (f_139.2.2.1 37 rfl).trans (e_128)
        have e_145 : t_137.2.2.1 38 = t.2.2.1 38 := (f_139.2.2.1 38 rfl).trans (e_129)
        have h_146 : (0 : Int) ≤ (t_137.1 0 30).toInt ∧ (t_137.1 0 30).toInt ≤ 120 := hok.1 0 30
        have h_147 : (0 : Int) ≤ (t_137.1 0 78).toInt ∧ (t_137.1 0 78).toInt ≤ 6 := hok.1 0 78
        have h_148 : (0 : Int) ≤ (t_137.1 0 83).toInt ∧ (t_137.1 0 83).toInt ≤ 427 := hok.1 0 83
        replace p_140 : (t_137.1 0 30).toInt = (t_120.1 0 30).toInt + (4 : Int32).toInt := p_140
        refine lv_aload_n C.1 C.2.1 dX12_finishJob_79 rfl (lv_at hl 0 rfl) ?_
        refine lv_bipush (v := 36) C.1 C.2.1 dX12_finishJob_80 (by decide) ?_
        have h_149 : (36 : Int32).toInt = 36 := rfl
        refine g_Vv (As := [.int 36]) (rest := []) C hP hD hS hA (T_X12_toColumn l D K Z Y ad t_137 hok 36 (show (2 : Int) ≤ (36 : Int32).toInt ∧ (36 : Int32).toInt ≤ 63 from ⟨by decide, by decide⟩) (show (36 : Int32).toInt ≤ 121 from by omega)) hE hZ (uwV m_42_17 m_42_18 m_42_19 m_1_5 m_42_20) (hdV 1 (by decide +kernel) rfl) ⟨Nat.le_of_ble_eq_true rfl, Nat.le_of_ble_eq_true rfl⟩ rfl rfl (ci := 11) (q0 := 0) rfl rfl rfl hl.1 (Nat.le_of_ble_eq_true rfl) dX12_finishJob_82 ⟨Nat.le_of_ble_eq_true rfl, Nat.le_of_ble_eq_true rfl⟩ (fun t_150 H locs hw hP hD hS => ?_)
        obtain ⟨hok, f_152, p_153, p_154⟩ := hw
        have hfr : frA [(0, 30), (0, 82), (0, 83)] [] [11, 12, 13, 14, 39, 40, 41, 42] [] t t_150 := frA_tr hfr f_152 rfl
        have h_155 : (t_150.1 0 79).toInt = (t_137.1 0 79).toInt := ti_eq (f_152.1 0 79 rfl)
        have h_156 : (t_150.1 0 78).toInt = (t_137.1 0 78).toInt := ti_eq (f_152.1 0 78 rfl)
        have h_157 : (t_150.1 0 83).toInt = (t_137.1 0 83).toInt := ti_eq (f_152.1 0 83 rfl)
        have e_158 : t_150.2.2.1 37 = t.2.2.1 37 := (f_152.2.2.1 37 rfl).trans (e_144)
        have e_159 : t_150.2.2.1 38 = t.2.2.1 38 := (f_152.2.2.1 38 rfl).trans (e_145)
        have h_160 : (0 : Int) ≤ (t_150.1 0 30).toInt ∧ (t_150.1 0 30).toInt ≤ 120 := hok.1 0 30
        have h_161 : (0 : Int) ≤ (t_150.1 0 78).toInt ∧ (t_150.1 0 78).toInt ≤ 6 := hok.1 0 78
        have h_162 : (0 : Int) ≤ (t_150.1 0 83).toInt ∧ (t_150.1 0 83).toInt ≤ 427 := hok.1 0 83
        replace p_153 : (t_137.1 0 30).toInt ≤ (t_150.1 0 30).toInt := p_153
        replace p_154 : (t_150.1 0 30).toInt ≤ (t_137.1 0 30).toInt ∨ (t_150.1 0 30).toInt ≤ (36 : Int32).toInt - 1 := p_154
        refine lv_aload_n C.1 C.2.1 dX12_finishJob_85 rfl (lv_at hl 0 rfl) ?_
        refine lv_aload_n C.1 C.2.1 dX12_finishJob_86 rfl (lv_at hl 0 rfl) ?_
        refine k_get (v := .long (t_150.2.1 0 8)) C hP 0 rfl rfl inlX12 8 (by decide) m_29_23 rfl dX12_finishJob_87 ?_
        refine lv_iconst (v := 5) C.1 C.2.1 dX12_finishJob_90 (by decide) ?_
        have h_163 : (5 : Int32).toInt = 5 := rfl
        refine g_Vv (As := [.long (t_150.2.1 0 8), .int 5]) (rest := []) C hP hD hS hA (T_X12_sayDigits l D K Z Y ad t_150 hok ((t_150.2.1 0 8)) 5 (show (1 : Int) ≤ (5 : Int32).toInt ∧ (5 : Int32).toInt ≤ 10 from ⟨by decide, by decide⟩) (show (t_150.1 0 30).toInt + (5 : Int32).toInt ≤ 120 from by omega) (show 1 ≤ (5 : Int32).toInt from by omega) (show (5 : Int32).toInt ≤ 10 from by omega)) hE hZ (uwV m_42_9 m_42_10 m_42_11 m_1_5 m_42_12) (hdV 2 (by decide +kernel) rfl) ⟨Nat.le_of_ble_eq_true rfl, Nat.le_of_ble_eq_true rfl⟩ rfl rfl (ci := 11) (q0 := 0) rfl rfl rfl hl.1 (Nat.le_of_ble_eq_true rfl) dX12_finishJob_91 ⟨Nat.le_of_ble_eq_true rfl, Nat.le_of_ble_eq_true rfl⟩ (fun t_164 H locs hw hP hD hS => ?_)
        obtain ⟨hok, f_166, p_167⟩ := hw
        have hfr : frA [(0, 30), (0, 82), (0, 83)] [] [11, 12, 13, 14, 39, 40, 41, 42] [] t t_164 := frA_tr hfr f_166 rfl
        have h_168 : (t_164.1 0 79).toInt = (t_150.1 0 79).toInt := ti_eq (f_166.1 0 79 rfl)
        have h_169 : (t_164.1 0 78).toInt = (t_150.1 0 78).toInt := ti_eq (f_166.1 0 78 rfl)
        have h_170 : (t_164.1 0 83).toInt = (t_150.1 0 83).toInt := ti_eq (f_166.1 0 83 rfl)
        have e_171 : t_164.2.2.1 37 = t.2.2.1 37 := (f_166.2.2.1 37 rfl).trans (e_158)
        have e_172 : t_164.2.2.1 38 = t.2.2.1 38 := (f_166.2.2.1 38 rfl).trans (e_159)
        have h_173 : (0 : Int) ≤ (t_164.1 0 30).toInt ∧ (t_164.1 0 30).toInt ≤ 120 := hok.1 0 30
        have h_174 : (0 : Int) ≤ (t_164.1 0 78).toInt ∧ (t_164.1 0 78).toInt ≤ 6 := hok.1 0 78
        have h_175 : (0 : Int) ≤ (t_164.1 0 83).toInt ∧ (t_164.1 0 83).toInt ≤ 427 := hok.1 0 83
        replace p_167 : (t_164.1 0 30).toInt = (t_150.1 0 30).toInt + (5 : Int32).toInt := p_167
        refine lv_aload_n C.1 C.2.1 dX12_finishJob_94 rfl (lv_at hl 0 rfl) ?_
        refine lv_bipush (v := 18) C.1 C.2.1 dX12_finishJob_95 (by decide) ?_
        refine g_Vv (As := [.int 18]) (rest := []) C hP hD hS hA (T_X12_print l D K Z Y ad t_164 hok 18 (show (17 : Int) ≤ (18 : Int32).toInt ∧ (18 : Int32).toInt ≤ 19 from ⟨by decide, by decide⟩)) hE hZ (uwV m_42_21 m_42_22 m_42_23 m_1_5 m_43_0) (hdV 1 (by decide +kernel) rfl) ⟨Nat.le_of_ble_eq_true rfl, Nat.le_of_ble_eq_true rfl⟩ rfl rfl (ci := 11) (q0 := 0) rfl rfl rfl hl.1 (Nat.le_of_ble_eq_true rfl) dX12_finishJob_97 ⟨Nat.le_of_ble_eq_true rfl, Nat.le_of_ble_eq_true rfl⟩ (fun t_176 H locs hw hP hD hS => ?_)
        obtain ⟨hok, f_178⟩ := hw
        have hfr : frA [(0, 30), (0, 82), (0, 83)] [] [11, 12, 13, 14, 39, 40, 41, 42] [] t t_176 := frA_tr hfr f_178 rfl
        have h_179 : (t_176.1 0 79).toInt = (t_164.1 0 79).toInt := ti_eq (f_178.1 0 79 rfl)
        have h_180 : (t_176.1 0 78).toInt = (t_164.1 0 78).toInt := ti_eq (f_178.1 0 78 rfl)
        have h_181 : (t_176.1 0 83).toInt = (t_164.1 0 83).toInt := ti_eq (f_178.1 0 83 rfl)
        have e_182 : t_176.2.2.1 37 = t.2.2.1 37 := (f_178.2.2.1 37 rfl).trans (e_171)
        have e_183 : t_176.2.2.1 38 = t.2.2.1 38 := (f_178.2.2.1 38 rfl).trans (e_172)
        have h_184 : (0 : Int) ≤ (t_176.1 0 30).toInt ∧ (t_176.1 0 30).toInt ≤ 120 := hok.1 0 30
        have h_185 : (0 : Int) ≤ (t_176.1 0 78).toInt ∧ (t_176.1 0 78).toInt ≤ 6 := hok.1 0 78
        have h_186 : (0 : Int) ≤ (t_176.1 0 83).toInt ∧ (t_176.1 0 83).toInt ≤ 427 := hok.1 0 83
        refine lv_aload_n C.1 C.2.1 dX12_finishJob_100 rfl (lv_at hl 0 rfl) ?_
        refine lv_iconst (v := 0) C.1 C.2.1 dX12_finishJob_101 (by decide) ?_
        refine g_Vi (As := [.int 0]) (rest := []) C hP hD hS hA (T_X12_hasOption l D K Z Y ad t_176 hok 0 (show (0 : Int) ≤ (0 : Int32).toInt ∧ (0 : Int32).toInt ≤ 4 from ⟨by decide, by decide⟩)) hE hZ (uwV m_80_19 m_80_20 m_80_21 m_1_5 m_80_22) (hdV 1 (by decide +kernel) rfl) ⟨Nat.le_of_ble_eq_true rfl, Nat.le_of_ble_eq_true rfl⟩ rfl rfl (ci := 11) (q0 := 0) rfl rfl rfl hl.1 (Nat.le_of_ble_eq_true rfl) dX12_finishJob_102 ⟨Nat.le_of_ble_eq_true rfl, Nat.le_of_ble_eq_true rfl⟩ (fun r_188 t_187 H locs hw hP hD hS => ?_)
        obtain ⟨h_190, h_191⟩ := hw
        refine lv_if_eq (tgt := 117) C.1 C.2.1 dX12_finishJob_105 (by decide) (fun c_192 => ?_) (fun c_192 => ?_)
        · replace c_192 : r_188.toInt = 0 := i_eq c_192
          exact L_117 t_176 w10_4 _ _ _ hok hfr ⟨by omega, by omega⟩ (show (t_176.1 0 83).toInt = (t.1 0 83).toInt from by omega) hP hD hS (lv_sub hl [0, 1, 2, 3, 4] rfl)
        · replace c_192 : ¬ r_188.toInt = 0 := i_ne c_192
          refine lv_iload_n C.1 C.2.1 dX12_finishJob_108 rfl (lv_at hl 1 rfl) ?_
          refine lv_iconst (v := 3) C.1 C.2.1 dX12_finishJob_109 (by decide) ?_
          refine lv_icmp_ge (tgt := 117) C.1 C.2.1 dX12_finishJob_110 (by decide) (fun c_193 => ?_) (fun c_193 => ?_)
          · replace c_193 : 3 ≤ x1.toInt := i_le c_193
            exact L_117 t_176 w10_4 _ _ _ hok hfr ⟨by omega, by omega⟩ (show (t_176.1 0 83).toInt = (t.1 0 83).toInt from by omega) hP hD hS (lv_sub hl [0, 1, 2, 3, 4] rfl)
          · replace c_193 : x1.toInt < 3 := i_nle c_193
            refine lv_aload_n C.1 C.2.1 dX12_finishJob_113 rfl (lv_at hl 0 rfl) ?_
            refine g_Vv (As := []) (rest := []) C hP hD hS hA (T_X12_dump l D K Z Y ad t_176 hok ) hE hZ (uwV m_82_3 m_82_4 m_82_5 m_1_5 m_82_6) (hdV 0 (by decide +kernel) rfl) ⟨Nat.le_of_ble_eq_true rfl, Nat.le_of_ble_eq_true rfl⟩ rfl rfl (ci := 11) (q0 := 0) rfl rfl rfl hl.1 (Nat.le_of_ble_eq_true rfl) dX12_finishJob_114 ⟨Nat.le_of_ble_eq_true rfl, Nat.le_of_ble_eq_true rfl⟩ (fun t_194 H locs hw hP hD hS => ?_)
            obtain ⟨hok, f_196⟩ := hw
            have hfr : frA [(0, 30), (0, 82), (0, 83)] [] [11, 12, 13, 14, 39, 40, 41, 42] [] t t_194 := frA_tr hfr f_196 rfl
            have h_197 : (t_194.1 0 79).toInt = (t_176.1 0 79).toInt := ti_eq (f_196.1 0 79 rfl)
            have h_198 : (t_194.1 0 78).toInt = (t_176.1 0 78).toInt := ti_eq (f_196.1 0 78 rfl)
            have h_199 : (t_194.1 0 83).toInt = (t_176.1 0 83).toInt := ti_eq (f_196.1 0 83 rfl)
            have e_200 : t_194.2.2.1 37 = t.2.2.1 37 := (f_196.2.2.1 37 rfl).trans (e_182)
            have e_201 : t_194.2.2.1 38 = t.2.2.1 38 := (f_196.2.2.1 38 rfl).trans (e_183)
            have h_202 : (0 : Int) ≤ (t_194.1 0 30).toInt ∧ (t_194.1 0 30).toInt ≤ 120 := hok.1 0 30
            have h_203 : (0 : Int) ≤ (t_194.1 0 78).toInt ∧ (t_194.1 0 78).toInt ≤ 6 := hok.1 0 78
            have h_204 : (0 : Int) ≤ (t_194.1 0 83).toInt ∧ (t_194.1 0 83).toInt ≤ 427 := hok.1 0 83
            exact L_117 t_194 w10_4 _ _ _ hok hfr ⟨by omega, by omega⟩ (show (t_194.1 0 83).toInt = (t.1 0 83).toInt from by omega) hP hD hS (lv_sub hl [0, 1, 2, 3, 4] rfl)
      · replace c_59 : w10_4.toInt < (t1.1 0 79).toInt := i_nle c_59
        refine lv_aload_n C.1 C.2.1 dX12_finishJob_19 rfl (lv_at hl 0 rfl) ?_
        refine lv_aload_n C.1 C.2.1 dX12_finishJob_20 rfl (lv_at hl 0 rfl) ?_
        refine lv_aload_n C.1 C.2.1 dX12_finishJob_21 rfl (lv_at hl 0 rfl) ?_
        have h_205 : (0 : Int) ≤ (t1.1 0 93).toInt ∧ (t1.1 0 93).toInt ≤ 1280 := hok.1 0 93
        refine k_get (v := .int (t1.1 0 93)) C hP 0 rfl rfl inlX12 93 (by decide) m_80_1 rfl dX12_finishJob_22 ?_
        refine lv_iload C.1 C.2.1 dX12_finishJob_25 (lv_at hl 4 rfl) ?_
        refine g_Vi (As := [.int (t1.1 0 93), .int w10_4]) (rest := [.ref (ad 0)]) C hP hD hS hA (T_X12_deckLetter l D K Z Y ad t1 hok ((t1.1 0 93)) (show (0 : Int) ≤ ((t1.1 0 93) : Int32).toInt ∧ ((t1.1 0 93) : Int32).toInt ≤ 1280 from ⟨by omega, by omega⟩) (w10_4) (show (1 : Int) ≤ (w10_4 : Int32).toInt ∧ (w10_4 : Int32).toInt ≤ 200 from ⟨by omega, by omega⟩)) hE hZ (uwV m_79_6 m_79_7 m_79_8 m_1_5 m_79_9) (hdV 2 (by decide +kernel) rfl) ⟨Nat.le_of_ble_eq_true rfl, Nat.le_of_ble_eq_true rfl⟩ rfl rfl (ci := 11) (q0 := 0) rfl rfl rfl hl.1 (Nat.le_of_ble_eq_true rfl) dX12_finishJob_27 ⟨Nat.le_of_ble_eq_true rfl, Nat.le_of_ble_eq_true rfl⟩ (fun r_207 t_206 H locs hw hP hD hS => ?_)
        obtain ⟨h_209, h_210, p_211, p_212, p_213, p_214⟩ := hw
        replace p_211 : r_207 = fDeck t1 (t1.1 0 93) w10_4 := p_211
        replace p_212 : r_207.toInt = (fDeck t1 (t1.1 0 93) w10_4).toInt := p_212
        replace p_213 : ¬ r_207.toInt = 32 → (t1.2.2.1 37 ((t1.1 0 93) : Int32).toNatClampNeg).toInt + w10_4.toInt ≤ (t1.2.2.1 38 ((t1.1 0 93) : Int32).toNatClampNeg).toInt := p_213
        have h_215 : (t1.2.2.1 37 ((t1.1 0 93) : Int32).toNatClampNeg).toInt = (t.2.2.1 37 ((t1.1 0 93) : Int32).toNatClampNeg).toInt := tb_eq e_53 _
        have h_216 : (t1.2.2.1 38 ((t1.1 0 93) : Int32).toNatClampNeg).toInt = (t.2.2.1 38 ((t1.1 0 93) : Int32).toNatClampNeg).toInt := tb_eq e_54 _
        replace p_214 : 81 ≤ w10_4.toInt → r_207.toInt = 32 := p_214
        refine g_Vv (As := [.int r_207]) (rest := []) C hP hD hS hA (T_X12_say l D K Z Y ad t1 hok (r_207) (show (t1.1 0 30).toInt ≤ 119 from by omega)) hE hZ (uwV m_42_13 m_42_14 m_42_15 m_1_5 m_42_16) (hdV 1 (by decide +kernel) rfl) ⟨Nat.le_of_ble_eq_true rfl, Nat.le_of_ble_eq_true rfl⟩ rfl rfl (ci := 11) (q0 := 0) rfl rfl rfl hl.1 (Nat.le_of_ble_eq_true rfl) dX12_finishJob_30 ⟨Nat.le_of_ble_eq_true rfl, Nat.le_of_ble_eq_true rfl⟩ (fun t_217 H locs hw hP hD hS => ?_)
        obtain ⟨hok, f_219, p_220⟩ := hw
        have hfr : frA [(0, 30), (0, 82), (0, 83)] [] [11, 12, 13, 14, 39, 40, 41, 42] [] t t_217 := frA_tr hfr f_219 rfl
        have h_221 : (t_217.1 0 79).toInt = (t1.1 0 79).toInt := ti_eq (f_219.1 0 79 rfl)
        have h_222 : (t_217.1 0 93).toInt = (t1.1 0 93).toInt := ti_eq (f_219.1 0 93 rfl)
        have h_223 : (t_217.1 0 78).toInt = (t1.1 0 78).toInt := ti_eq (f_219.1 0 78 rfl)
        have h_224 : (t_217.1 0 83).toInt = (t1.1 0 83).toInt := ti_eq (f_219.1 0 83 rfl)
        have e_225 : t_217.2.2.1 37 = t.2.2.1 37 := (f_219.2.2.1 37 rfl).trans (e_53)
        have e_226 : t_217.2.2.1 38 = t.2.2.1 38 := (f_219.2.2.1 38 rfl).trans (e_54)
        have h_227 : (0 : Int) ≤ (t_217.1 0 30).toInt ∧ (t_217.1 0 30).toInt ≤ 120 := hok.1 0 30
        have h_228 : (0 : Int) ≤ (t_217.1 0 78).toInt ∧ (t_217.1 0 78).toInt ≤ 6 := hok.1 0 78
        have h_229 : (0 : Int) ≤ (t_217.1 0 83).toInt ∧ (t_217.1 0 83).toInt ≤ 427 := hok.1 0 83
        replace p_220 : (t_217.1 0 30).toInt = (t1.1 0 30).toInt + 1 := p_220
        obtain ⟨v_230, e_231⟩ : ∃ z, z = w10_4 + 1 := ⟨_, rfl⟩
        have h_232 : v_230.toInt = w10_4.toInt + 1 := by rw [e_231]; exact ti_iadd (by show (_ : Int) ≤ w10_4.toInt + 1; omega) (by show w10_4.toInt + 1 < (_ : Int); omega)
        refine lv_iinc (v := v_230) (lv' := [(4, .int v_230), (0, .ref (ad 0)), (1, .int x1), (2, .int x2), (3, .int x3)]) C.1 C.2.1 dX12_finishJob_33 hl (k := 4) rfl e_231.symm (by decide) rfl (fun ls hl => ?_)
        have hl : lv_has ls 5 [(0, .ref (ad 0)), (1, .int x1), (2, .int x2), (3, .int x3), (4, .int v_230)] := lv_sub hl [1, 2, 3, 4, 0] rfl
        refine lv_goto (tgt := 10) C.1 C.2.1 dX12_finishJob_36 (by decide) ?_
        exact ih_10 t_217 v_230 _ _ _ hok hfr ⟨by omega, by omega⟩ (show (t_217.1 0 30).toInt ≤ v_230.toInt from by omega) (show (t_217.1 0 83).toInt = (t.1 0 83).toInt from by omega) (show 6 ≤ v_230.toInt from by omega) (show (81 : Int) - v_230.toInt < (fuel_10 : Int) from by omega) hP hD hS (lv_sub hl [0, 1, 2, 3, 4] rfl)
  refine lv_aload_n C.1 C.2.1 dX12_finishJob_0 rfl (lv_at hl 0 rfl) ?_
  refine g_Vv (As := []) (rest := []) C hP hD hS hA (T_X12_begin l D K Z Y ad t hok ) hE hZ (uwV m_42_4 m_42_5 m_42_6 m_1_5 m_42_7) (hdV 0 (by decide +kernel) rfl) ⟨Nat.le_of_ble_eq_true rfl, Nat.le_of_ble_eq_true rfl⟩ rfl rfl (ci := 11) (q0 := 0) rfl rfl rfl hl.1 (Nat.le_of_ble_eq_true rfl) dX12_finishJob_1 ⟨Nat.le_of_ble_eq_true rfl, Nat.le_of_ble_eq_true rfl⟩ (fun t_233 H locs hw hP hD hS => ?_)
  obtain ⟨hok, f_235, p_236⟩ := hw
  have hfr : frA [(0, 30), (0, 82), (0, 83)] [] [11, 12, 13, 14, 39, 40, 41, 42] [] t t_233 := frA_tr hfr f_235 rfl
  have h_237 : (t_233.1 0 78).toInt = (t.1 0 78).toInt := ti_eq (f_235.1 0 78 rfl)
  have h_238 : (t_233.1 0 79).toInt = (t.1 0 79).toInt := ti_eq (f_235.1 0 79 rfl)
  have h_239 : (t_233.1 0 83).toInt = (t.1 0 83).toInt := ti_eq (f_235.1 0 83 rfl)
  have e_240 : t_233.2.2.1 37 = t.2.2.1 37 := f_235.2.2.1 37 rfl
  have e_241 : t_233.2.2.1 38 = t.2.2.1 38 := f_235.2.2.1 38 rfl
  have h_242 : (0 : Int) ≤ (t_233.1 0 30).toInt ∧ (t_233.1 0 30).toInt ≤ 120 := hok.1 0 30
  have h_243 : (0 : Int) ≤ (t_233.1 0 78).toInt ∧ (t_233.1 0 78).toInt ≤ 6 := hok.1 0 78
  have h_244 : (0 : Int) ≤ (t_233.1 0 79).toInt ∧ (t_233.1 0 79).toInt ≤ 81 := hok.1 0 79
  have h_245 : (0 : Int) ≤ (t_233.1 0 83).toInt ∧ (t_233.1 0 83).toInt ≤ 427 := hok.1 0 83
  replace p_236 : (t_233.1 0 30).toInt = 0 := p_236
  refine lv_aload_n C.1 C.2.1 dX12_finishJob_4 rfl (lv_at hl 0 rfl) ?_
  refine k_get (v := .int (t_233.1 0 78)) C hP 0 rfl rfl inlX12 78 (by decide) m_78_21 rfl dX12_finishJob_5 ?_
  refine lv_istore (lv' := [(4, .int (t_233.1 0 78)), (0, .ref (ad 0)), (1, .int x1), (2, .int x2), (3, .int x3)]) C.1 C.2.1 dX12_finishJob_8 hl (by decide) rfl (fun ls hl => ?_)
  have hl : lv_has ls 5 [(0, .ref (ad 0)), (1, .int x1), (2, .int x2), (3, .int x3), (4, .int (t_233.1 0 78))] := lv_sub hl [1, 2, 3, 4, 0] rfl
  exact L_10 82 t_233 (t_233.1 0 78) _ _ _ hok hfr ⟨by omega, by omega⟩ (show (t_233.1 0 30).toInt ≤ (t_233.1 0 78).toInt from by omega) (show (t_233.1 0 83).toInt = (t.1 0 83).toInt from by omega) (show 6 ≤ (t_233.1 0 78).toInt from by omega) (show (81 : Int) - (t_233.1 0 78).toInt < ((82 : Nat) : Int) from by omega) hP hD hS (lv_sub hl [0, 1, 2, 3, 4] rfl)

theorem dX12_readCard_0 : decode cX12_readCard 0 = .ok (.aload_n 0, 1) := by decide +kernel
theorem dX12_readCard_1 : decode cX12_readCard 1 = .ok (.iload_n 1, 1) := by decide +kernel
theorem dX12_readCard_10 : decode cX12_readCard 10 = .ok (.ifCond .eq 15, 3) := by decide +kernel
theorem dX12_readCard_100 : decode cX12_readCard 100 = .ok (.iload 4, 2) := by decide +kernel
theorem dX12_readCard_102 : decode cX12_readCard 102 = .ok (.iload_n 2, 1) := by decide +kernel
theorem dX12_readCard_103 : decode cX12_readCard 103 = .ok (.if_icmp .ge 208, 3) := by decide +kernel
theorem dX12_readCard_106 : decode cX12_readCard 106 = .ok (.bipush 11, 2) := by decide +kernel
theorem dX12_readCard_108 : decode cX12_readCard 108 = .ok (.bipush 10, 2) := by decide +kernel
theorem dX12_readCard_110 : decode cX12_readCard 110 = .ok (.iload 4, 2) := by decide +kernel
theorem dX12_readCard_112 : decode cX12_readCard 112 = .ok (.imul, 1) := by decide +kernel
theorem dX12_readCard_113 : decode cX12_readCard 113 = .ok (.iadd, 1) := by decide +kernel
theorem dX12_readCard_114 : decode cX12_readCard 114 = .ok (.istore 5, 2) := by decide +kernel
theorem dX12_readCard_116 : decode cX12_readCard 116 = .ok (.aload_n 0, 1) := by decide +kernel
theorem dX12_readCard_117 : decode cX12_readCard 117 = .ok (.iload_n 1, 1) := by decide +kernel
theorem dX12_readCard_118 : decode cX12_readCard 118 = .ok (.iload 5, 2) := by decide +kernel
theorem dX12_readCard_120 : decode cX12_readCard 120 = .ok (.bipush 9, 2) := by decide +kernel
theorem dX12_readCard_122 : decode cX12_readCard 122 = .ok (.iadd, 1) := by decide +kernel
theorem dX12_readCard_123 : decode cX12_readCard 123 = .ok (.invokevirtual 725, 3) := by decide +kernel
theorem dX12_readCard_126 : decode cX12_readCard 126 = .ok (.istore 6, 2) := by decide +kernel
theorem dX12_readCard_128 : decode cX12_readCard 128 = .ok (.iload 6, 2) := by decide +kernel
theorem dX12_readCard_13 : decode cX12_readCard 13 = .ok (.aload_n 0, 1) := by decide +kernel
theorem dX12_readCard_130 : decode cX12_readCard 130 = .ok (.bipush 126, 2) := by decide +kernel
theorem dX12_readCard_132 : decode cX12_readCard 132 = .ok (.if_icmp .eq 17, 3) := by decide +kernel
theorem dX12_readCard_135 : decode cX12_readCard 135 = .ok (.iload 6, 2) := by decide +kernel
theorem dX12_readCard_137 : decode cX12_readCard 137 = .ok (.bipush 74, 2) := by decide +kernel
theorem dX12_readCard_139 : decode cX12_readCard 139 = .ok (.if_icmp .lt 14, 3) := by decide +kernel
theorem dX12_readCard_14 : decode cX12_readCard 14 = .ok (.iload_n 1, 1) := by decide +kernel
theorem dX12_readCard_142 : decode cX12_readCard 142 = .ok (.iload 6, 2) := by decide +kernel
theorem dX12_readCard_144 : decode cX12_readCard 144 = .ok (.bipush 82, 2) := by decide +kernel
theorem dX12_readCard_146 : decode cX12_readCard 146 = .ok (.if_icmp .gt 7, 3) := by decide +kernel
theorem dX12_readCard_149 : decode cX12_readCard 149 = .ok (.iconst 1, 1) := by decide +kernel
theorem dX12_readCard_15 : decode cX12_readCard 15 = .ok (.bipush 7, 2) := by decide +kernel
theorem dX12_readCard_150 : decode cX12_readCard 150 = .ok (.goto 4, 3) := by decide +kernel
theorem dX12_readCard_153 : decode cX12_readCard 153 = .ok (.iconst 0, 1) := by decide +kernel
theorem dX12_readCard_154 : decode cX12_readCard 154 = .ok (.istore 7, 2) := by decide +kernel
theorem dX12_readCard_156 : decode cX12_readCard 156 = .ok (.aload_n 0, 1) := by decide +kernel
theorem dX12_readCard_157 : decode cX12_readCard 157 = .ok (.iload_n 1, 1) := by decide +kernel
theorem dX12_readCard_158 : decode cX12_readCard 158 = .ok (.iload 5, 2) := by decide +kernel
theorem dX12_readCard_160 : decode cX12_readCard 160 = .ok (.iload 5, 2) := by decide +kernel
theorem dX12_readCard_162 : decode cX12_readCard 162 = .ok (.bipush 9, 2) := by decide +kernel
theorem dX12_readCard_164 : decode cX12_readCard 164 = .ok (.iadd, 1) := by decide +kernel
theorem dX12_readCard_165 : decode cX12_readCard 165 = .ok (.invokevirtual 819, 3) := by decide +kernel
theorem dX12_readCard_168 : decode cX12_readCard 168 = .ok (.ifCond .eq 16, 3) := by decide +kernel
theorem dX12_readCard_17 : decode cX12_readCard 17 = .ok (.bipush 11, 2) := by decide +kernel
theorem dX12_readCard_171 : decode cX12_readCard 171 = .ok (.iload 7, 2) := by decide +kernel
theorem dX12_readCard_173 : decode cX12_readCard 173 = .ok (.ifCond .ne 13, 3) := by decide +kernel
theorem dX12_readCard_176 : decode cX12_readCard 176 = .ok (.iload 6, 2) := by decide +kernel
theorem dX12_readCard_178 : decode cX12_readCard 178 = .ok (.invokestatic 455, 3) := by decide +kernel
theorem dX12_readCard_181 : decode cX12_readCard 181 = .ok (.ifCond .ne 5, 3) := by decide +kernel
theorem dX12_readCard_184 : decode cX12_readCard 184 = .ok (.iconst (-1), 1) := by decide +kernel
theorem dX12_readCard_185 : decode cX12_readCard 185 = .ok (.ireturn, 1) := by decide +kernel
theorem dX12_readCard_186 : decode cX12_readCard 186 = .ok (.lconst 0, 1) := by decide +kernel
theorem dX12_readCard_187 : decode cX12_readCard 187 = .ok (.lstore 8, 2) := by decide +kernel
theorem dX12_readCard_189 : decode cX12_readCard 189 = .ok (.iload 5, 2) := by decide +kernel
theorem dX12_readCard_19 : decode cX12_readCard 19 = .ok (.invokevirtual 819, 3) := by decide +kernel
theorem dX12_readCard_191 : decode cX12_readCard 191 = .ok (.istore 10, 2) := by decide +kernel
theorem dX12_readCard_193 : decode cX12_readCard 193 = .ok (.iload 10, 2) := by decide +kernel
theorem dX12_readCard_195 : decode cX12_readCard 195 = .ok (.iload 5, 2) := by decide +kernel
theorem dX12_readCard_197 : decode cX12_readCard 197 = .ok (.bipush 9, 2) := by decide +kernel
theorem dX12_readCard_199 : decode cX12_readCard 199 = .ok (.iadd, 1) := by decide +kernel
theorem dX12_readCard_2 : decode cX12_readCard 2 = .ok (.bipush 6, 2) := by decide +kernel
theorem dX12_readCard_200 : decode cX12_readCard 200 = .ok (.if_icmp .ge 30, 3) := by decide +kernel
theorem dX12_readCard_203 : decode cX12_readCard 203 = .ok (.ldc2_w 192, 3) := by decide +kernel
theorem dX12_readCard_206 : decode cX12_readCard 206 = .ok (.lload 8, 2) := by decide +kernel
theorem dX12_readCard_208 : decode cX12_readCard 208 = .ok (.lmul, 1) := by decide +kernel
theorem dX12_readCard_209 : decode cX12_readCard 209 = .ok (.aload_n 0, 1) := by decide +kernel
theorem dX12_readCard_210 : decode cX12_readCard 210 = .ok (.iload_n 1, 1) := by decide +kernel
theorem dX12_readCard_211 : decode cX12_readCard 211 = .ok (.iload 10, 2) := by decide +kernel
theorem dX12_readCard_213 : decode cX12_readCard 213 = .ok (.invokevirtual 725, 3) := by decide +kernel
theorem dX12_readCard_216 : decode cX12_readCard 216 = .ok (.i2l, 1) := by decide +kernel
theorem dX12_readCard_217 : decode cX12_readCard 217 = .ok (.ladd, 1) := by decide +kernel
theorem dX12_readCard_218 : decode cX12_readCard 218 = .ok (.ldc2_w 194, 3) := by decide +kernel
theorem dX12_readCard_22 : decode cX12_readCard 22 = .ok (.ifCond .ne 5, 3) := by decide +kernel
theorem dX12_readCard_221 : decode cX12_readCard 221 = .ok (.lsub, 1) := by decide +kernel
theorem dX12_readCard_222 : decode cX12_readCard 222 = .ok (.lstore 8, 2) := by decide +kernel
theorem dX12_readCard_224 : decode cX12_readCard 224 = .ok (.iinc 10 1, 3) := by decide +kernel
theorem dX12_readCard_227 : decode cX12_readCard 227 = .ok (.goto (-34), 3) := by decide +kernel
theorem dX12_readCard_230 : decode cX12_readCard 230 = .ok (.ldc2_w 192, 3) := by decide +kernel
theorem dX12_readCard_233 : decode cX12_readCard 233 = .ok (.lload 8, 2) := by decide +kernel
theorem dX12_readCard_235 : decode cX12_readCard 235 = .ok (.lmul, 1) := by decide +kernel
theorem dX12_readCard_236 : decode cX12_readCard 236 = .ok (.iload 6, 2) := by decide +kernel
theorem dX12_readCard_238 : decode cX12_readCard 238 = .ok (.bipush 126, 2) := by decide +kernel
theorem dX12_readCard_240 : decode cX12_readCard 240 = .ok (.if_icmp .ne 7, 3) := by decide +kernel
theorem dX12_readCard_243 : decode cX12_readCard 243 = .ok (.iconst 0, 1) := by decide +kernel
theorem dX12_readCard_244 : decode cX12_readCard 244 = .ok (.goto 23, 3) := by decide +kernel
theorem dX12_readCard_247 : decode cX12_readCard 247 = .ok (.iload 7, 2) := by decide +kernel
theorem dX12_readCard_249 : decode cX12_readCard 249 = .ok (.ifCond .eq 13, 3) := by decide +kernel
theorem dX12_readCard_25 : decode cX12_readCard 25 = .ok (.iconst (-1), 1) := by decide +kernel
theorem dX12_readCard_252 : decode cX12_readCard 252 = .ok (.iload 6, 2) := by decide +kernel
theorem dX12_readCard_254 : decode cX12_readCard 254 = .ok (.bipush 74, 2) := by decide +kernel
theorem dX12_readCard_256 : decode cX12_readCard 256 = .ok (.isub, 1) := by decide +kernel
theorem dX12_readCard_257 : decode cX12_readCard 257 = .ok (.iconst 1, 1) := by decide +kernel
theorem dX12_readCard_258 : decode cX12_readCard 258 = .ok (.iadd, 1) := by decide +kernel
theorem dX12_readCard_259 : decode cX12_readCard 259 = .ok (.goto 8, 3) := by decide +kernel
theorem dX12_readCard_26 : decode cX12_readCard 26 = .ok (.ireturn, 1) := by decide +kernel
theorem dX12_readCard_262 : decode cX12_readCard 262 = .ok (.iload 6, 2) := by decide +kernel
theorem dX12_readCard_264 : decode cX12_readCard 264 = .ok (.bipush 48, 2) := by decide +kernel
theorem dX12_readCard_266 : decode cX12_readCard 266 = .ok (.isub, 1) := by decide +kernel
theorem dX12_readCard_267 : decode cX12_readCard 267 = .ok (.i2l, 1) := by decide +kernel
theorem dX12_readCard_268 : decode cX12_readCard 268 = .ok (.ladd, 1) := by decide +kernel
theorem dX12_readCard_269 : decode cX12_readCard 269 = .ok (.lstore 8, 2) := by decide +kernel
theorem dX12_readCard_27 : decode cX12_readCard 27 = .ok (.aload_n 0, 1) := by decide +kernel
theorem dX12_readCard_271 : decode cX12_readCard 271 = .ok (.lload 8, 2) := by decide +kernel
theorem dX12_readCard_273 : decode cX12_readCard 273 = .ok (.ldc2_w 335, 3) := by decide +kernel
theorem dX12_readCard_276 : decode cX12_readCard 276 = .ok (.lcmp, 1) := by decide +kernel
theorem dX12_readCard_277 : decode cX12_readCard 277 = .ok (.ifCond .le 5, 3) := by decide +kernel
theorem dX12_readCard_28 : decode cX12_readCard 28 = .ok (.iload_n 1, 1) := by decide +kernel
theorem dX12_readCard_280 : decode cX12_readCard 280 = .ok (.iconst (-1), 1) := by decide +kernel
theorem dX12_readCard_281 : decode cX12_readCard 281 = .ok (.ireturn, 1) := by decide +kernel
theorem dX12_readCard_282 : decode cX12_readCard 282 = .ok (.aload_n 0, 1) := by decide +kernel
theorem dX12_readCard_283 : decode cX12_readCard 283 = .ok (.iload_n 3, 1) := by decide +kernel
theorem dX12_readCard_284 : decode cX12_readCard 284 = .ok (.iload 4, 2) := by decide +kernel
theorem dX12_readCard_286 : decode cX12_readCard 286 = .ok (.iadd, 1) := by decide +kernel
theorem dX12_readCard_287 : decode cX12_readCard 287 = .ok (.lload 8, 2) := by decide +kernel
theorem dX12_readCard_289 : decode cX12_readCard 289 = .ok (.l2i, 1) := by decide +kernel
theorem dX12_readCard_29 : decode cX12_readCard 29 = .ok (.bipush 6, 2) := by decide +kernel
theorem dX12_readCard_290 : decode cX12_readCard 290 = .ok (.iload 7, 2) := by decide +kernel
theorem dX12_readCard_292 : decode cX12_readCard 292 = .ok (.ifCond .eq 8, 3) := by decide +kernel
theorem dX12_readCard_295 : decode cX12_readCard 295 = .ok (.ldc 158, 2) := by decide +kernel
theorem dX12_readCard_297 : decode cX12_readCard 297 = .ok (.goto 4, 3) := by decide +kernel
theorem dX12_readCard_300 : decode cX12_readCard 300 = .ok (.iconst 0, 1) := by decide +kernel
theorem dX12_readCard_301 : decode cX12_readCard 301 = .ok (.ior, 1) := by decide +kernel
theorem dX12_readCard_302 : decode cX12_readCard 302 = .ok (.invokevirtual 214, 3) := by decide +kernel
theorem dX12_readCard_305 : decode cX12_readCard 305 = .ok (.iinc 4 1, 3) := by decide +kernel
theorem dX12_readCard_308 : decode cX12_readCard 308 = .ok (.goto (-208), 3) := by decide +kernel
theorem dX12_readCard_31 : decode cX12_readCard 31 = .ok (.invokevirtual 725, 3) := by decide +kernel
theorem dX12_readCard_311 : decode cX12_readCard 311 = .ok (.iload_n 2, 1) := by decide +kernel
theorem dX12_readCard_312 : decode cX12_readCard 312 = .ok (.ifCond .ne 8, 3) := by decide +kernel
theorem dX12_readCard_315 : decode cX12_readCard 315 = .ok (.aload_n 0, 1) := by decide +kernel
theorem dX12_readCard_316 : decode cX12_readCard 316 = .ok (.iload_n 3, 1) := by decide +kernel
theorem dX12_readCard_317 : decode cX12_readCard 317 = .ok (.putfield 602, 3) := by decide +kernel
theorem dX12_readCard_320 : decode cX12_readCard 320 = .ok (.iload_n 2, 1) := by decide +kernel
theorem dX12_readCard_321 : decode cX12_readCard 321 = .ok (.ireturn, 1) := by decide +kernel
theorem dX12_readCard_34 : decode cX12_readCard 34 = .ok (.bipush 48, 2) := by decide +kernel
theorem dX12_readCard_36 : decode cX12_readCard 36 = .ok (.isub, 1) := by decide +kernel
theorem dX12_readCard_37 : decode cX12_readCard 37 = .ok (.istore_n 2, 1) := by decide +kernel
theorem dX12_readCard_38 : decode cX12_readCard 38 = .ok (.iconst 0, 1) := by decide +kernel
theorem dX12_readCard_39 : decode cX12_readCard 39 = .ok (.istore_n 3, 1) := by decide +kernel
theorem dX12_readCard_4 : decode cX12_readCard 4 = .ok (.invokevirtual 725, 3) := by decide +kernel
theorem dX12_readCard_40 : decode cX12_readCard 40 = .ok (.bipush 7, 2) := by decide +kernel
theorem dX12_readCard_42 : decode cX12_readCard 42 = .ok (.istore 4, 2) := by decide +kernel
theorem dX12_readCard_44 : decode cX12_readCard 44 = .ok (.iload 4, 2) := by decide +kernel
theorem dX12_readCard_46 : decode cX12_readCard 46 = .ok (.bipush 11, 2) := by decide +kernel
theorem dX12_readCard_48 : decode cX12_readCard 48 = .ok (.if_icmp .ge 25, 3) := by decide +kernel
theorem dX12_readCard_51 : decode cX12_readCard 51 = .ok (.bipush 10, 2) := by decide +kernel
theorem dX12_readCard_53 : decode cX12_readCard 53 = .ok (.iload_n 3, 1) := by decide +kernel
theorem dX12_readCard_54 : decode cX12_readCard 54 = .ok (.imul, 1) := by decide +kernel
theorem dX12_readCard_55 : decode cX12_readCard 55 = .ok (.aload_n 0, 1) := by decide +kernel
theorem dX12_readCard_56 : decode cX12_readCard 56 = .ok (.iload_n 1, 1) := by decide +kernel
theorem dX12_readCard_57 : decode cX12_readCard 57 = .ok (.iload 4, 2) := by decide +kernel
theorem dX12_readCard_59 : decode cX12_readCard 59 = .ok (.invokevirtual 725, 3) := by decide +kernel
theorem dX12_readCard_62 : decode cX12_readCard 62 = .ok (.iadd, 1) := by decide +kernel
theorem dX12_readCard_63 : decode cX12_readCard 63 = .ok (.bipush 48, 2) := by decide +kernel
theorem dX12_readCard_65 : decode cX12_readCard 65 = .ok (.isub, 1) := by decide +kernel
theorem dX12_readCard_66 : decode cX12_readCard 66 = .ok (.istore_n 3, 1) := by decide +kernel
theorem dX12_readCard_67 : decode cX12_readCard 67 = .ok (.iinc 4 1, 3) := by decide +kernel
theorem dX12_readCard_7 : decode cX12_readCard 7 = .ok (.invokestatic 455, 3) := by decide +kernel
theorem dX12_readCard_70 : decode cX12_readCard 70 = .ok (.goto (-26), 3) := by decide +kernel
theorem dX12_readCard_73 : decode cX12_readCard 73 = .ok (.iload_n 2, 1) := by decide +kernel
theorem dX12_readCard_74 : decode cX12_readCard 74 = .ok (.bipush 7, 2) := by decide +kernel
theorem dX12_readCard_76 : decode cX12_readCard 76 = .ok (.if_icmp .gt 19, 3) := by decide +kernel
theorem dX12_readCard_79 : decode cX12_readCard 79 = .ok (.iload_n 3, 1) := by decide +kernel
theorem dX12_readCard_80 : decode cX12_readCard 80 = .ok (.sipush 3999, 3) := by decide +kernel
theorem dX12_readCard_83 : decode cX12_readCard 83 = .ok (.if_icmp .gt 12, 3) := by decide +kernel
theorem dX12_readCard_86 : decode cX12_readCard 86 = .ok (.iload_n 3, 1) := by decide +kernel
theorem dX12_readCard_87 : decode cX12_readCard 87 = .ok (.iload_n 2, 1) := by decide +kernel
theorem dX12_readCard_88 : decode cX12_readCard 88 = .ok (.iadd, 1) := by decide +kernel
theorem dX12_readCard_89 : decode cX12_readCard 89 = .ok (.sipush 4000, 3) := by decide +kernel
theorem dX12_readCard_92 : decode cX12_readCard 92 = .ok (.if_icmp .le 5, 3) := by decide +kernel
theorem dX12_readCard_95 : decode cX12_readCard 95 = .ok (.iconst (-1), 1) := by decide +kernel
theorem dX12_readCard_96 : decode cX12_readCard 96 = .ok (.ireturn, 1) := by decide +kernel
theorem dX12_readCard_97 : decode cX12_readCard 97 = .ok (.iconst 0, 1) := by decide +kernel
theorem dX12_readCard_98 : decode cX12_readCard 98 = .ok (.istore 4, 2) := by decide +kernel
set_option maxHeartbeats 4000000 in
set_option maxRecDepth 100000 in
theorem T_X12_readCard (l : Launch) (D : va_G) (K : Nat → ClassId) (Z Y : Nat → Nat) (ad : Nat → Nat) (t : tSt) (hok : okM t) (x1 : Int32) (hx1 : (2 : Int) ≤ x1.toInt ∧ x1.toInt ≤ 1279) : tMet l yX12_readCard cX12_readCard 11 (some .int) (rmD 9 0 0) D K Z Y [.ref (ad 0), .int x1] (WM K ad t) (QI D K (fun (r : Int32) (u : tSt) => okM u ∧ frA [(0, 45)] [] [2] [] t u ∧ (-1 : Int) ≤ r.toInt ∧ r.toInt ≤ 7) (fun (u : tSt) => WM K ad u)) 0 0 := by
  refine t_met RX12 ⟨rfl, by decide +kernel⟩ (Nat.le_of_ble_eq_true rfl) ?_
  intro p e s m below meth c A ls C hE hZ hr hlocks hA hP hD hS hl
  have hl : lv_has ls 11 [(0, .ref (ad 0)), (1, .int x1)] := hl
  have hokt := hok
  have hfr : frA [(0, 45)] [] [2] [] t t := frA_rf
  have L_320 : ∀ (t1 : tSt) (w320_2 : Int32) (w320_3 : Int32) (w320_4 : Int32) (H : Heap) (locs : List Loc) (ls : Array Slot), okM t1 → frA [(0, 45)] [] [2] [] t t1 → (-48 : Int) ≤ w320_2.toInt ∧ w320_2.toInt ≤ 7 → (-2147483648 : Int) ≤ w320_3.toInt ∧ w320_3.toInt ≤ 3999 → (0 : Int) ≤ w320_4.toInt ∧ w320_4.toInt ≤ 7 → (0 ≤ w320_2.toInt) → (w320_2.toInt ≤ 9) → va_P D vwCl (WM K ad t1) H → va_D A (WM K ad t1) → va_S A s.heap H locs → lv_has ls 11 [(0, .ref (ad 0)), (1, .int x1), (2, .int w320_2), (3, .int w320_3), (4, .int w320_4)] → W p l e (rmD 9 0 0) s m [.ref (ad 0), .int x1].toArray below meth c H locs 0 0 (MQ below (QI D K (fun (r : Int32) (u : tSt) => okM u ∧ frA [(0, 45)] [] [2] [] t u ∧ (-1 : Int) ≤ r.toInt ∧ r.toInt ≤ 7) (fun (u : tSt) => WM K ad u) A) [.ref (ad 0), .int x1].toArray s 0 0 A) (F0 m 320 ls []) := by
    intro t1 w320_2 w320_3 w320_4 H locs ls hok hfr hw320_2 hw320_3 hw320_4 hi320_0 hi320_1 hP hD hS hl
    have e_1 : t1.2.2.1 37 = t.2.2.1 37 := hfr.2.2.1 37 rfl
    have e_2 : t1.2.2.1 38 = t.2.2.1 38 := hfr.2.2.1 38 rfl
    refine lv_iload_n C.1 C.2.1 dX12_readCard_320 rfl (lv_at hl 2 rfl) ?_
    exact g_iret C hr hlocks hP hD hS rfl t1 rfl ⟨hok, hfr, by omega, by omega⟩ (Nat.le_of_ble_eq_true rfl) (Nat.le_of_ble_eq_true rfl) dX12_readCard_321
  have L_100 : ∀ (fuel_100 : Nat) (t1 : tSt) (w100_2 : Int32) (w100_3 : Int32) (w100_4 : Int32) (H : Heap) (locs : List Loc) (ls : Array Slot), okM t1 → frA [(0, 45)] [] [2] [] t t1 → (-48 : Int) ≤ w100_2.toInt ∧ w100_2.toInt ≤ 7 → (-2147483648 : Int) ≤ w100_3.toInt ∧ w100_3.toInt ≤ 3999 → (0 : Int) ≤ w100_4.toInt ∧ w100_4.toInt ≤ 7 → (0 ≤ w100_3.toInt) → (w100_3.toInt ≤ 3999) → (w100_3.toInt + w100_2.toInt ≤ 4000) → (0 ≤ w100_2.toInt) → (w100_2.toInt ≤ 7) → (7 : Int) - w100_4.toInt < (fuel_100 : Int) → va_P D vwCl (WM K ad t1) H → va_D A (WM K ad t1) → va_S A s.heap H locs → lv_has ls 11 [(0, .ref (ad 0)), (1, .int x1), (2, .int w100_2), (3, .int w100_3), (4, .int w100_4)] → W p l e (rmD 9 0 0) s m [.ref (ad 0), .int x1].toArray below meth c H locs 0 0 (MQ below (QI D K (fun (r : Int32) (u : tSt) => okM u ∧ frA [(0, 45)] [] [2] [] t u ∧ (-1 : Int) ≤ r.toInt ∧ r.toInt ≤ 7) (fun (u : tSt) => WM K ad u) A) [.ref (ad 0), .int x1].toArray s 0 0 A) (F0 m 100 ls []) := by
    intro fuel_100
    induction fuel_100 with
    | zero =>
      intro t1 w100_2 w100_3 w100_4 H locs ls hok hfr hw100_2 hw100_3 hw100_4 hi100_0 hi100_1 hi100_2 hi100_3 hi100_4 hm100_100 hP hD hS hl
      have e_3 : t1.2.2.1 37 = t.2.2.1 37 := hfr.2.2.1 37 rfl
      have e_4 : t1.2.2.1 38 = t.2.2.1 38 := hfr.2.2.1 38 rfl
      exact absurd hm100_100 (by omega)
    | succ fuel_100 ih_100 =>
      intro t1 w100_2 w100_3 w100_4 H locs ls hok hfr hw100_2 hw100_3 hw100_4 hi100_0 hi100_1 hi100_2 hi100_3 hi100_4 hm100_100 hP hD hS hl
      have hm100_100 : (7 : Int) - w100_4.toInt < (fuel_100 : Int) + 1 := by omega
      have e_5 : t1.2.2.1 37 = t.2.2.1 37 := hfr.2.2.1 37 rfl
      have e_6 : t1.2.2.1 38 = t.2.2.1 38 := hfr.2.2.1 38 rfl
      have L_301 : ∀ (t1 : tSt) (w301_2 : Int32) (w301_3 : Int32) (w301_4 : Int32) (w301_5 : Int32) (w301_6 : Int32) (w301_7 : Int32) (w301_8 : Int64) (w301_10 : Int32) (k301_1 : Int32) (k301_2 : Int32) (k301_3 : Int32) (H : Heap) (locs : List Loc) (ls : Array Slot), okM t1 → frA [(0, 45)] [] [2] [] t t1 → (1 : Int) ≤ w301_2.toInt ∧ w301_2.toInt ≤ 7 → (-2147483648 : Int) ≤ w301_3.toInt ∧ w301_3.toInt ≤ 3999 → (0 : Int) ≤ w301_4.toInt ∧ w301_4.toInt ≤ 6 → (11 : Int) ≤ w301_5.toInt ∧ w301_5.toInt ≤ 72 → (0 : Int) ≤ w301_6.toInt ∧ w301_6.toInt ≤ 255 → (0 : Int) ≤ w301_7.toInt ∧ w301_7.toInt ≤ 1 → (20 : Int) ≤ w301_10.toInt ∧ w301_10.toInt ≤ 81 → (-2147483648 : Int) ≤ k301_1.toInt ∧ k301_1.toInt ≤ 4005 → (0 : Int) ≤ k301_3.toInt ∧ k301_3.toInt ≤ 1073741824 → (0 ≤ w301_3.toInt) → (w301_3.toInt ≤ 3999) → (w301_3.toInt + w301_2.toInt ≤ 4000) → (0 ≤ w301_2.toInt) → (w301_2.toInt ≤ 7) → (w301_4.toInt < w301_2.toInt) → (k301_1.toInt = w301_3.toInt + w301_4.toInt) → (7 : Int) - w301_4.toInt < (fuel_100 : Int) + 1 → va_P D vwCl (WM K ad t1) H → va_D A (WM K ad t1) → va_S A s.heap H locs → lv_has ls 11 [(0, .ref (ad 0)), (1, .int x1), (2, .int w301_2), (3, .int w301_3), (4, .int w301_4), (5, .int w301_5), (6, .int w301_6), (7, .int w301_7), (8, .long w301_8), (10, .int w301_10)] → W p l e (rmD 9 0 0) s m [.ref (ad 0), .int x1].toArray below meth c H locs 0 0 (MQ below (QI D K (fun (r : Int32) (u : tSt) => okM u ∧ frA [(0, 45)] [] [2] [] t u ∧ (-1 : Int) ≤ r.toInt ∧ r.toInt ≤ 7) (fun (u : tSt) => WM K ad u) A) [.ref (ad 0), .int x1].toArray s 0 0 A) (F0 m 301 ls [.int k301_3, .int k301_2, .int k301_1, .ref (ad 0)]) := by
        intro t1 w301_2 w301_3 w301_4 w301_5 w301_6 w301_7 w301_8 w301_10 k301_1 k301_2 k301_3 H locs ls hok hfr hw301_2 hw301_3 hw301_4 hw301_5 hw301_6 hw301_7 hw301_10 hk301_1 hk301_3 hi301_0 hi301_1 hi301_2 hi301_3 hi301_4 hi301_5 hi301_6 hm301_100 hP hD hS hl
        have e_7 : t1.2.2.1 37 = t.2.2.1 37 := hfr.2.2.1 37 rfl
        have e_8 : t1.2.2.1 38 = t.2.2.1 38 := hfr.2.2.1 38 rfl
        obtain ⟨v_9, e_10⟩ : ∃ z, z = (k301_2 : Int32) ||| (k301_3 : Int32) := ⟨_, rfl⟩
        refine k_ior (v := v_9) C e_10.symm dX12_readCard_301 ?_
        refine g_Vv (As := [.int k301_1, .int v_9]) (rest := []) C hP hD hS hA (T_X12_setMemory l D K Z Y ad t1 hok (k301_1) (show (-3999 : Int) ≤ (k301_1 : Int32).toInt ∧ (k301_1 : Int32).toInt ≤ 3999 from ⟨by omega, by omega⟩) (v_9)) hE hZ (uwV m_38_15 m_38_16 m_38_17 m_1_5 m_38_18) (hdV 2 (by decide +kernel) rfl) ⟨Nat.le_of_ble_eq_true rfl, Nat.le_of_ble_eq_true rfl⟩ rfl rfl (ci := 11) (q0 := 0) rfl rfl rfl hl.1 (Nat.le_of_ble_eq_true rfl) dX12_readCard_302 ⟨Nat.le_of_ble_eq_true rfl, Nat.le_of_ble_eq_true rfl⟩ (fun t_12 H locs hw hP hD hS => ?_)
        obtain ⟨hok, f_14⟩ := hw
        have hfr : frA [(0, 45)] [] [2] [] t t_12 := frA_tr hfr f_14 rfl
        have e_15 : t_12.2.2.1 37 = t.2.2.1 37 := (f_14.2.2.1 37 rfl).trans (e_7)
        have e_16 : t_12.2.2.1 38 = t.2.2.1 38 := (f_14.2.2.1 38 rfl).trans (e_8)
        obtain ⟨v_17, e_18⟩ : ∃ z, z = w301_4 + 1 := ⟨_, rfl⟩
        have h_19 : v_17.toInt = w301_4.toInt + 1 := by rw [e_18]; exact ti_iadd (by show (_ : Int) ≤ w301_4.toInt + 1; omega) (by show w301_4.toInt + 1 < (_ : Int); omega)
        refine lv_iinc (v := v_17) (lv' := [(4, .int v_17), (0, .ref (ad 0)), (1, .int x1), (2, .int w301_2), (3, .int w301_3), (5, .int w301_5), (6, .int w301_6), (7, .int w301_7), (8, .long w301_8), (10, .int w301_10)]) C.1 C.2.1 dX12_readCard_305 hl (k := 4) rfl e_18.symm (by decide) rfl (fun ls hl => ?_)
        have hl : lv_has ls 11 [(0, .ref (ad 0)), (1, .int x1), (2, .int w301_2), (3, .int w301_3), (4, .int v_17), (5, .int w301_5), (6, .int w301_6), (7, .int w301_7), (8, .long w301_8), (10, .int w301_10)] := lv_sub hl [1, 2, 3, 4, 0, 5, 6, 7, 8, 9] rfl
        refine lv_goto (tgt := 100) C.1 C.2.1 dX12_readCard_308 (by decide) ?_
        exact ih_100 t_12 w301_2 w301_3 v_17 _ _ _ hok hfr ⟨by omega, by omega⟩ ⟨(i_rng _).1, by omega⟩ ⟨by omega, by omega⟩ (show 0 ≤ w301_3.toInt from by omega) (show w301_3.toInt ≤ 3999 from by omega) (show w301_3.toInt + w301_2.toInt ≤ 4000 from by omega) (show 0 ≤ w301_2.toInt from by omega) (show w301_2.toInt ≤ 7 from by omega) (show (7 : Int) - v_17.toInt < (fuel_100 : Int) from by omega) hP hD hS (lv_sub hl [0, 1, 2, 3, 4] rfl)
      have L_193 : ∀ (fuel_193 : Nat) (t1 : tSt) (w193_2 : Int32) (w193_3 : Int32) (w193_4 : Int32) (w193_5 : Int32) (w193_6 : Int32) (w193_7 : Int32) (w193_8 : Int64) (w193_10 : Int32) (H : Heap) (locs : List Loc) (ls : Array Slot), okM t1 → frA [(0, 45)] [] [2] [] t t1 → (1 : Int) ≤ w193_2.toInt ∧ w193_2.toInt ≤ 7 → (-2147483648 : Int) ≤ w193_3.toInt ∧ w193_3.toInt ≤ 3999 → (0 : Int) ≤ w193_4.toInt ∧ w193_4.toInt ≤ 6 → (11 : Int) ≤ w193_5.toInt ∧ w193_5.toInt ≤ 72 → (0 : Int) ≤ w193_6.toInt ∧ w193_6.toInt ≤ 255 → (0 : Int) ≤ w193_7.toInt ∧ w193_7.toInt ≤ 1 → (11 : Int) ≤ w193_10.toInt ∧ w193_10.toInt ≤ 81 → (0 ≤ w193_3.toInt) → (w193_3.toInt ≤ 3999) → (w193_3.toInt + w193_2.toInt ≤ 4000) → (0 ≤ w193_2.toInt) → (w193_2.toInt ≤ 7) → (w193_4.toInt < w193_2.toInt) → (w193_5.toInt = 11 + 10 * w193_4.toInt) → (w193_5.toInt ≤ w193_10.toInt) → (7 : Int) - w193_4.toInt < (fuel_100 : Int) + 1 → (81 : Int) - w193_10.toInt < (fuel_193 : Int) → va_P D vwCl (WM K ad t1) H → va_D A (WM K ad t1) → va_S A s.heap H locs → lv_has ls 11 [(0, .ref (ad 0)), (1, .int x1), (2, .int w193_2), (3, .int w193_3), (4, .int w193_4), (5, .int w193_5), (6, .int w193_6), (7, .int w193_7), (8, .long w193_8), (10, .int w193_10)] → W p l e (rmD 9 0 0) s m [.ref (ad 0), .int x1].toArray below meth c H locs 0 0 (MQ below (QI D K (fun (r : Int32) (u : tSt) => okM u ∧ frA [(0, 45)] [] [2] [] t u ∧ (-1 : Int) ≤ r.toInt ∧ r.toInt ≤ 7) (fun (u : tSt) => WM K ad u) A) [.ref (ad 0), .int x1].toArray s 0 0 A) (F0 m 193 ls []) := by
        intro fuel_193
        induction fuel_193 with
        | zero =>
          intro t1 w193_2 w193_3 w193_4 w193_5 w193_6 w193_7 w193_8 w193_10 H locs ls hok hfr hw193_2 hw193_3 hw193_4 hw193_5 hw193_6 hw193_7 hw193_10 hi193_0 hi193_1 hi193_2 hi193_3 hi193_4 hi193_5 hi193_6 hi193_7 hm193_100 hm193_193 hP hD hS hl
          have e_20 : t1.2.2.1 37 = t.2.2.1 37 := hfr.2.2.1 37 rfl
          have e_21 : t1.2.2.1 38 = t.2.2.1 38 := hfr.2.2.1 38 rfl
          exact absurd hm193_193 (by omega)
        | succ fuel_193 ih_193 =>
          intro t1 w193_2 w193_3 w193_4 w193_5 w193_6 w193_7 w193_8 w193_10 H locs ls hok hfr hw193_2 hw193_3 hw193_4 hw193_5 hw193_6 hw193_7 hw193_10 hi193_0 hi193_1 hi193_2 hi193_3 hi193_4 hi193_5 hi193_6 hi193_7 hm193_100 hm193_193 hP hD hS hl
          have hm193_193 : (81 : Int) - w193_10.toInt < (fuel_193 : Int) + 1 := by omega
          have e_22 : t1.2.2.1 37 = t.2.2.1 37 := hfr.2.2.1 37 rfl
          have e_23 : t1.2.2.1 38 = t.2.2.1 38 := hfr.2.2.1 38 rfl
          refine lv_iload C.1 C.2.1 dX12_readCard_193 (lv_at hl 9 rfl) ?_
          refine lv_iload C.1 C.2.1 dX12_readCard_195 (lv_at hl 5 rfl) ?_
          refine lv_bipush (v := 9) C.1 C.2.1 dX12_readCard_197 (by decide) ?_
          obtain ⟨v_24, e_25⟩ : ∃ z, z = (w193_5 : Int32) + (9 : Int32) := ⟨_, rfl⟩
          have h_26 : v_24.toInt = w193_5.toInt + 9 := by rw [e_25]; exact ti_iadd (by show (_ : Int) ≤ w193_5.toInt + 9; omega) (by show w193_5.toInt + 9 < (_ : Int); omega)
          refine k_iadd (v := v_24) C e_25.symm dX12_readCard_199 ?_
          refine lv_icmp_ge (tgt := 230) C.1 C.2.1 dX12_readCard_200 (by decide) (fun c_27 => ?_) (fun c_27 => ?_)
          · replace c_27 : v_24.toInt ≤ w193_10.toInt := i_le c_27
            refine lv_ldc2 (v := 10) C.1 C.2.1 C.2.2.2.1 (C.2.2.2.2.1 _ m_36_4) dX12_readCard_230 ?_
            refine lv_lload C.1 C.2.1 dX12_readCard_233 (lv_at hl 8 rfl) ?_
            obtain ⟨v_28, e_29⟩ : ∃ z, z = (10 : Int64) * (w193_8 : Int64) := ⟨_, rfl⟩
            refine k_lmul (v := v_28) C e_29.symm dX12_readCard_235 ?_
            refine lv_iload C.1 C.2.1 dX12_readCard_236 (lv_at hl 6 rfl) ?_
            refine lv_bipush (v := 126) C.1 C.2.1 dX12_readCard_238 (by decide) ?_
            refine lv_icmp_ne (tgt := 247) C.1 C.2.1 dX12_readCard_240 (by decide) (fun c_30 => ?_) (fun c_30 => ?_)
            · replace c_30 : ¬ w193_6.toInt = 126 := i_ne c_30
              refine lv_iload C.1 C.2.1 dX12_readCard_247 (lv_at hl 7 rfl) ?_
              refine lv_if_eq (tgt := 262) C.1 C.2.1 dX12_readCard_249 (by decide) (fun c_31 => ?_) (fun c_31 => ?_)
              · replace c_31 : w193_7.toInt = 0 := i_eq c_31
                refine lv_iload C.1 C.2.1 dX12_readCard_262 (lv_at hl 6 rfl) ?_
                refine lv_bipush (v := 48) C.1 C.2.1 dX12_readCard_264 (by decide) ?_
                obtain ⟨v_32, e_33⟩ : ∃ z, z = (w193_6 : Int32) - (48 : Int32) := ⟨_, rfl⟩
                have h_34 : v_32.toInt = w193_6.toInt - 48 := by rw [e_33]; exact ti_isub (by show (_ : Int) ≤ w193_6.toInt - 48; omega) (by show w193_6.toInt - 48 < (_ : Int); omega)
                refine k_isub (v := v_32) C e_33.symm dX12_readCard_266 ?_
                obtain ⟨v_35, e_36⟩ : ∃ z, z = (v_32 : Int32).toInt64 := ⟨_, rfl⟩
                have h_37 : v_35.toInt = v_32.toInt := by rw [e_36]; exact Jvm.Kit.i64_of_i32 _
                refine lv_i2l (v := v_35) C.1 C.2.1 dX12_readCard_267 e_36.symm ?_
                obtain ⟨v_38, e_39⟩ : ∃ z, z = (v_28 : Int64) + (v_35 : Int64) := ⟨_, rfl⟩
                refine k_ladd (v := v_38) C e_39.symm dX12_readCard_268 ?_
                refine lv_lstore (lv' := [(8, .long v_38), (0, .ref (ad 0)), (1, .int x1), (2, .int w193_2), (3, .int w193_3), (4, .int w193_4), (5, .int w193_5), (6, .int w193_6), (7, .int w193_7), (10, .int w193_10)]) C.1 C.2.1 dX12_readCard_269 hl (by decide) rfl (fun ls hl => ?_)
                have hl : lv_has ls 11 [(0, .ref (ad 0)), (1, .int x1), (2, .int w193_2), (3, .int w193_3), (4, .int w193_4), (5, .int w193_5), (6, .int w193_6), (7, .int w193_7), (8, .long v_38), (10, .int w193_10)] := lv_sub hl [1, 2, 3, 4, 5, 6, 7, 8, 0, 9] rfl
                refine lv_lload C.1 C.2.1 dX12_readCard_271 (lv_at hl 8 rfl) ?_
                refine lv_ldc2 (v := 1073741823) C.1 C.2.1 C.2.2.2.1 (C.2.2.2.2.1 _ m_36_3) dX12_readCard_273 ?_
                obtain ⟨v_40, e_41⟩ : ∃ z, z = lg_cmp (v_38 : Int64) 1073741823 := ⟨_, rfl⟩
                have h_42 : (-1 : Int) ≤ v_40.toInt ∧ v_40.toInt ≤ 1 := by rw [e_41]; exact cmp_rng _ _
                refine k_lcmp (v := v_40) C e_41.symm dX12_readCard_276 ?_
                refine lv_if_le (tgt := 282) C.1 C.2.1 dX12_readCard_277 (by decide) (fun c_43 => ?_) (fun c_43 => ?_)
                · replace c_43 : v_40.toInt ≤ 0 := i_le c_43
                  refine lv_aload_n C.1 C.2.1 dX12_readCard_282 rfl (lv_at hl 0 rfl) ?_
                  refine lv_iload_n C.1 C.2.1 dX12_readCard_283 rfl (lv_at hl 3 rfl) ?_
                  refine lv_iload C.1 C.2.1 dX12_readCard_284 (lv_at hl 4 rfl) ?_
                  obtain ⟨v_44, e_45⟩ : ∃ z, z = (w193_3 : Int32) + (w193_4 : Int32) := ⟨_, rfl⟩
                  have h_46 : v_44.toInt = w193_3.toInt + w193_4.toInt := by rw [e_45]; exact ti_iadd (by show (_ : Int) ≤ w193_3.toInt + w193_4.toInt; omega) (by show w193_3.toInt + w193_4.toInt < (_ : Int); omega)
                  refine k_iadd (v := v_44) C e_45.symm dX12_readCard_286 ?_
                  refine lv_lload C.1 C.2.1 dX12_readCard_287 (lv_at hl 8 rfl) ?_
                  obtain ⟨v_47, e_48⟩ : ∃ z, z = (v_38).toInt32 := ⟨_, rfl⟩
                  refine lv_l2i (v := v_47) C.1 C.2.1 dX12_readCard_289 e_48.symm ?_
                  refine lv_iload C.1 C.2.1 dX12_readCard_290 (lv_at hl 7 rfl) ?_
                  refine lv_if_eq (tgt := 300) C.1 C.2.1 dX12_readCard_292 (by decide) (fun c_49 => ?_) (fun c_49 => False.elim (by have c_49 : ¬ w193_7.toInt = 0 := i_ne c_49; omega))
                  replace c_49 : w193_7.toInt = 0 := i_eq c_49
                  refine lv_iconst (v := 0) C.1 C.2.1 dX12_readCard_300 (by decide) ?_
                  exact L_301 t1 w193_2 w193_3 w193_4 w193_5 w193_6 w193_7 v_38 w193_10 v_44 v_47 0 _ _ _ hok hfr ⟨by omega, by omega⟩ ⟨(i_rng _).1, by omega⟩ ⟨by omega, by omega⟩ ⟨by omega, by omega⟩ ⟨by omega, by omega⟩ ⟨by omega, by omega⟩ ⟨by omega, by omega⟩ ⟨(i_rng _).1, by omega⟩ ⟨by decide, by decide⟩ (show 0 ≤ w193_3.toInt from by omega) (show w193_3.toInt ≤ 3999 from by omega) (show w193_3.toInt + w193_2.toInt ≤ 4000 from by omega) (show 0 ≤ w193_2.toInt from by omega) (show w193_2.toInt ≤ 7 from by omega) (show w193_4.toInt < w193_2.toInt from by omega) (show v_44.toInt = w193_3.toInt + w193_4.toInt from by omega) (show (7 : Int) - w193_4.toInt < (fuel_100 : Int) + 1 from by omega) hP hD hS (lv_sub hl [0, 1, 2, 3, 4, 5, 6, 7, 8, 9] rfl)
                · replace c_43 : 0 < v_40.toInt := i_nle c_43
                  refine lv_iconst (v := (-1)) C.1 C.2.1 dX12_readCard_280 (by decide) ?_
                  exact g_iret C hr hlocks hP hD hS rfl t1 rfl ⟨hok, hfr, by decide, by decide⟩ (Nat.le_of_ble_eq_true rfl) (Nat.le_of_ble_eq_true rfl) dX12_readCard_281
              · replace c_31 : ¬ w193_7.toInt = 0 := i_ne c_31
                refine lv_iload C.1 C.2.1 dX12_readCard_252 (lv_at hl 6 rfl) ?_
                refine lv_bipush (v := 74) C.1 C.2.1 dX12_readCard_254 (by decide) ?_
                obtain ⟨v_50, e_51⟩ : ∃ z, z = (w193_6 : Int32) - (74 : Int32) := ⟨_, rfl⟩
                have h_52 : v_50.toInt = w193_6.toInt - 74 := by rw [e_51]; exact ti_isub (by show (_ : Int) ≤ w193_6.toInt - 74; omega) (by show w193_6.toInt - 74 < (_ : Int); omega)
                refine k_isub (v := v_50) C e_51.symm dX12_readCard_256 ?_
                refine lv_iconst (v := 1) C.1 C.2.1 dX12_readCard_257 (by decide) ?_
                obtain ⟨v_53, e_54⟩ : ∃ z, z = (v_50 : Int32) + (1 : Int32) := ⟨_, rfl⟩
                have h_55 : v_53.toInt = v_50.toInt + 1 := by rw [e_54]; exact ti_iadd (by show (_ : Int) ≤ v_50.toInt + 1; omega) (by show v_50.toInt + 1 < (_ : Int); omega)
                refine k_iadd (v := v_53) C e_54.symm dX12_readCard_258 ?_
                refine lv_goto (tgt := 267) C.1 C.2.1 dX12_readCard_259 (by decide) ?_
                obtain ⟨v_56, e_57⟩ : ∃ z, z = (v_53 : Int32).toInt64 := ⟨_, rfl⟩
                have h_58 : v_56.toInt = v_53.toInt := by rw [e_57]; exact Jvm.Kit.i64_of_i32 _
                refine lv_i2l (v := v_56) C.1 C.2.1 dX12_readCard_267 e_57.symm ?_
                obtain ⟨v_59, e_60⟩ : ∃ z, z = (v_28 : Int64) + (v_56 : Int64) := ⟨_, rfl⟩
                refine k_ladd (v := v_59) C e_60.symm dX12_readCard_268 ?_
                refine lv_lstore (lv' := [(8, .long v_59), (0, .ref (ad 0)), (1, .int x1), (2, .int w193_2), (3, .int w193_3), (4, .int w193_4), (5, .int w193_5), (6, .int w193_6), (7, .int w193_7), (10, .int w193_10)]) C.1 C.2.1 dX12_readCard_269 hl (by decide) rfl (fun ls hl => ?_)
                have hl : lv_has ls 11 [(0, .ref (ad 0)), (1, .int x1), (2, .int w193_2), (3, .int w193_3), (4, .int w193_4), (5, .int w193_5), (6, .int w193_6), (7, .int w193_7), (8, .long v_59), (10, .int w193_10)] := lv_sub hl [1, 2, 3, 4, 5, 6, 7, 8, 0, 9] rfl
                refine lv_lload C.1 C.2.1 dX12_readCard_271 (lv_at hl 8 rfl) ?_
                refine lv_ldc2 (v := 1073741823) C.1 C.2.1 C.2.2.2.1 (C.2.2.2.2.1 _ m_36_3) dX12_readCard_273 ?_
                obtain ⟨v_61, e_62⟩ : ∃ z, z = lg_cmp (v_59 : Int64) 1073741823 := ⟨_, rfl⟩
                have h_63 : (-1 : Int) ≤ v_61.toInt ∧ v_61.toInt ≤ 1 := by rw [e_62]; exact cmp_rng _ _
                refine k_lcmp (v := v_61) C e_62.symm dX12_readCard_276 ?_
                refine lv_if_le (tgt := 282) C.1 C.2.1 dX12_readCard_277 (by decide) (fun c_64 => ?_) (fun c_64 => ?_)
                · replace c_64 : v_61.toInt ≤ 0 := i_le c_64
                  refine lv_aload_n C.1 C.2.1 dX12_readCard_282 rfl (lv_at hl 0 rfl) ?_
                  refine lv_iload_n C.1 C.2.1 dX12_readCard_283 rfl (lv_at hl 3 rfl) ?_
                  refine lv_iload C.1 C.2.1 dX12_readCard_284 (lv_at hl 4 rfl) ?_
                  obtain ⟨v_65, e_66⟩ : ∃ z, z = (w193_3 : Int32) + (w193_4 : Int32) := ⟨_, rfl⟩
                  have h_67 : v_65.toInt = w193_3.toInt + w193_4.toInt := by rw [e_66]; exact ti_iadd (by show (_ : Int) ≤ w193_3.toInt + w193_4.toInt; omega) (by show w193_3.toInt + w193_4.toInt < (_ : Int); omega)
                  refine k_iadd (v := v_65) C e_66.symm dX12_readCard_286 ?_
                  refine lv_lload C.1 C.2.1 dX12_readCard_287 (lv_at hl 8 rfl) ?_
                  obtain ⟨v_68, e_69⟩ : ∃ z, z = (v_59).toInt32 := ⟨_, rfl⟩
                  refine lv_l2i (v := v_68) C.1 C.2.1 dX12_readCard_289 e_69.symm ?_
                  refine lv_iload C.1 C.2.1 dX12_readCard_290 (lv_at hl 7 rfl) ?_
                  refine lv_if_eq (tgt := 300) C.1 C.2.1 dX12_readCard_292 (by decide) (fun c_70 => False.elim (by have c_70 : w193_7.toInt = 0 := i_eq c_70; omega)) (fun c_70 => ?_)
                  replace c_70 : ¬ w193_7.toInt = 0 := i_ne c_70
                  refine lv_ldc (v := 1073741824) C.1 C.2.1 C.2.2.2.1 (C.2.2.2.2.1 _ m_34_19) dX12_readCard_295 ?_
                  refine lv_goto (tgt := 301) C.1 C.2.1 dX12_readCard_297 (by decide) ?_
                  exact L_301 t1 w193_2 w193_3 w193_4 w193_5 w193_6 w193_7 v_59 w193_10 v_65 v_68 1073741824 _ _ _ hok hfr ⟨by omega, by omega⟩ ⟨(i_rng _).1, by omega⟩ ⟨by omega, by omega⟩ ⟨by omega, by omega⟩ ⟨by omega, by omega⟩ ⟨by omega, by omega⟩ ⟨by omega, by omega⟩ ⟨(i_rng _).1, by omega⟩ ⟨by decide, by decide⟩ (show 0 ≤ w193_3.toInt from by omega) (show w193_3.toInt ≤ 3999 from by omega) (show w193_3.toInt + w193_2.toInt ≤ 4000 from by omega) (show 0 ≤ w193_2.toInt from by omega) (show w193_2.toInt ≤ 7 from by omega) (show w193_4.toInt < w193_2.toInt from by omega) (show v_65.toInt = w193_3.toInt + w193_4.toInt from by omega) (show (7 : Int) - w193_4.toInt < (fuel_100 : Int) + 1 from by omega) hP hD hS (lv_sub hl [0, 1, 2, 3, 4, 5, 6, 7, 8, 9] rfl)
                · replace c_64 : 0 < v_61.toInt := i_nle c_64
                  refine lv_iconst (v := (-1)) C.1 C.2.1 dX12_readCard_280 (by decide) ?_
                  exact g_iret C hr hlocks hP hD hS rfl t1 rfl ⟨hok, hfr, by decide, by decide⟩ (Nat.le_of_ble_eq_true rfl) (Nat.le_of_ble_eq_true rfl) dX12_readCard_281
            · replace c_30 : w193_6.toInt = 126 := i_eq c_30
              refine lv_iconst (v := 0) C.1 C.2.1 dX12_readCard_243 (by decide) ?_
              refine lv_goto (tgt := 267) C.1 C.2.1 dX12_readCard_244 (by decide) ?_
              refine lv_i2l (v := 0) C.1 C.2.1 dX12_readCard_267 (by decide) ?_
              obtain ⟨v_71, e_72⟩ : ∃ z, z = (v_28 : Int64) + (0 : Int64) := ⟨_, rfl⟩
              refine k_ladd (v := v_71) C e_72.symm dX12_readCard_268 ?_
              refine lv_lstore (lv' := [(8, .long v_71), (0, .ref (ad 0)), (1, .int x1), (2, .int w193_2), (3, .int w193_3), (4, .int w193_4), (5, .int w193_5), (6, .int w193_6), (7, .int w193_7), (10, .int w193_10)]) C.1 C.2.1 dX12_readCard_269 hl (by decide) rfl (fun ls hl => ?_)
              have hl : lv_has ls 11 [(0, .ref (ad 0)), (1, .int x1), (2, .int w193_2), (3, .int w193_3), (4, .int w193_4), (5, .int w193_5), (6, .int w193_6), (7, .int w193_7), (8, .long v_71), (10, .int w193_10)] := lv_sub hl [1, 2, 3, 4, 5, 6, 7, 8, 0, 9] rfl
              refine lv_lload C.1 C.2.1 dX12_readCard_271 (lv_at hl 8 rfl) ?_
              refine lv_ldc2 (v := 1073741823) C.1 C.2.1 C.2.2.2.1 (C.2.2.2.2.1 _ m_36_3) dX12_readCard_273 ?_
              obtain ⟨v_73, e_74⟩ : ∃ z, z = lg_cmp (v_71 : Int64) 1073741823 := ⟨_, rfl⟩
              have h_75 : (-1 : Int) ≤ v_73.toInt ∧ v_73.toInt ≤ 1 := by rw [e_74]; exact cmp_rng _ _
              refine k_lcmp (v := v_73) C e_74.symm dX12_readCard_276 ?_
              refine lv_if_le (tgt := 282) C.1 C.2.1 dX12_readCard_277 (by decide) (fun c_76 => ?_) (fun c_76 => ?_)
              · replace c_76 : v_73.toInt ≤ 0 := i_le c_76
                refine lv_aload_n C.1 C.2.1 dX12_readCard_282 rfl (lv_at hl 0 rfl) ?_
                refine lv_iload_n C.1 C.2.1 dX12_readCard_283 rfl (lv_at hl 3 rfl) ?_
                refine lv_iload C.1 C.2.1 dX12_readCard_284 (lv_at hl 4 rfl) ?_
                obtain ⟨v_77, e_78⟩ : ∃ z, z = (w193_3 : Int32) + (w193_4 : Int32) := ⟨_, rfl⟩
                have h_79 : v_77.toInt = w193_3.toInt + w193_4.toInt := by rw [e_78]; exact ti_iadd (by show (_ : Int) ≤ w193_3.toInt + w193_4.toInt; omega) (by show w193_3.toInt + w193_4.toInt < (_ : Int); omega)
                refine k_iadd (v := v_77) C e_78.symm dX12_readCard_286 ?_
                refine lv_lload C.1 C.2.1 dX12_readCard_287 (lv_at hl 8 rfl) ?_
                obtain ⟨v_80, e_81⟩ : ∃ z, z = (v_71).toInt32 := ⟨_, rfl⟩
                refine lv_l2i (v := v_80) C.1 C.2.1 dX12_readCard_289 e_81.symm ?_
                refine lv_iload C.1 C.2.1 dX12_readCard_290 (lv_at hl 7 rfl) ?_
                refine lv_if_eq (tgt := 300) C.1 C.2.1 dX12_readCard_292 (by decide) (fun c_82 => ?_) (fun c_82 => ?_)
                · replace c_82 : w193_7.toInt = 0 := i_eq c_82
                  refine lv_iconst (v := 0) C.1 C.2.1 dX12_readCard_300 (by decide) ?_
                  exact L_301 t1 w193_2 w193_3 w193_4 w193_5 w193_6 w193_7 v_71 w193_10 v_77 v_80 0 _ _ _ hok hfr ⟨by omega, by omega⟩ ⟨(i_rng _).1, by omega⟩ ⟨by omega, by omega⟩ ⟨by omega, by omega⟩ ⟨by omega, by omega⟩ ⟨by omega, by omega⟩ ⟨by omega, by omega⟩ ⟨(i_rng _).1, by omega⟩ ⟨by decide, by decide⟩ (show 0 ≤ w193_3.toInt from by omega) (show w193_3.toInt ≤ 3999 from by omega) (show w193_3.toInt + w193_2.toInt ≤ 4000 from by omega) (show 0 ≤ w193_2.toInt from by omega) (show w193_2.toInt ≤ 7 from by omega) (show w193_4.toInt < w193_2.toInt from by omega) (show v_77.toInt = w193_3.toInt + w193_4.toInt from by omega) (show (7 : Int) - w193_4.toInt < (fuel_100 : Int) + 1 from by omega) hP hD hS (lv_sub hl [0, 1, 2, 3, 4, 5, 6, 7, 8, 9] rfl)
                · replace c_82 : ¬ w193_7.toInt = 0 := i_ne c_82
                  refine lv_ldc (v := 1073741824) C.1 C.2.1 C.2.2.2.1 (C.2.2.2.2.1 _ m_34_19) dX12_readCard_295 ?_
                  refine lv_goto (tgt := 301) C.1 C.2.1 dX12_readCard_297 (by decide) ?_
                  exact L_301 t1 w193_2 w193_3 w193_4 w193_5 w193_6 w193_7 v_71 w193_10 v_77 v_80 1073741824 _ _ _ hok hfr ⟨by omega, by omega⟩ ⟨(i_rng _).1, by omega⟩ ⟨by omega, by omega⟩ ⟨by omega, by omega⟩ ⟨by omega, by omega⟩ ⟨by omega, by omega⟩ ⟨by omega, by omega⟩ ⟨(i_rng _).1, by omega⟩ ⟨by decide, by decide⟩ (show 0 ≤ w193_3.toInt from by omega) (show w193_3.toInt ≤ 3999 from by omega) (show w193_3.toInt + w193_2.toInt ≤ 4000 from by omega) (show 0 ≤ w193_2.toInt from by omega) (show w193_2.toInt ≤ 7 from by omega) (show w193_4.toInt < w193_2.toInt from by omega) (show v_77.toInt = w193_3.toInt + w193_4.toInt from by omega) (show (7 : Int) - w193_4.toInt < (fuel_100 : Int) + 1 from by omega) hP hD hS (lv_sub hl [0, 1, 2, 3, 4, 5, 6, 7, 8, 9] rfl)
              · replace c_76 : 0 < v_73.toInt := i_nle c_76
                refine lv_iconst (v := (-1)) C.1 C.2.1 dX12_readCard_280 (by decide) ?_
                exact g_iret C hr hlocks hP hD hS rfl t1 rfl ⟨hok, hfr, by decide, by decide⟩ (Nat.le_of_ble_eq_true rfl) (Nat.le_of_ble_eq_true rfl) dX12_readCard_281
          · replace c_27 : w193_10.toInt < v_24.toInt := i_nle c_27
            refine lv_ldc2 (v := 10) C.1 C.2.1 C.2.2.2.1 (C.2.2.2.2.1 _ m_36_4) dX12_readCard_203 ?_
            refine lv_lload C.1 C.2.1 dX12_readCard_206 (lv_at hl 8 rfl) ?_
            obtain ⟨v_83, e_84⟩ : ∃ z, z = (10 : Int64) * (w193_8 : Int64) := ⟨_, rfl⟩
            refine k_lmul (v := v_83) C e_84.symm dX12_readCard_208 ?_
            refine lv_aload_n C.1 C.2.1 dX12_readCard_209 rfl (lv_at hl 0 rfl) ?_
            refine lv_iload_n C.1 C.2.1 dX12_readCard_210 rfl (lv_at hl 1 rfl) ?_
            refine lv_iload C.1 C.2.1 dX12_readCard_211 (lv_at hl 9 rfl) ?_
            refine g_Vi (As := [.int x1, .int w193_10]) (rest := [.long v_83]) C hP hD hS hA (T_X12_deckLetter l D K Z Y ad t1 hok (x1) (show (0 : Int) ≤ (x1 : Int32).toInt ∧ (x1 : Int32).toInt ≤ 1280 from ⟨by omega, by omega⟩) (w193_10) (show (1 : Int) ≤ (w193_10 : Int32).toInt ∧ (w193_10 : Int32).toInt ≤ 200 from ⟨by omega, by omega⟩)) hE hZ (uwV m_79_6 m_79_7 m_79_8 m_1_5 m_79_9) (hdV 2 (by decide +kernel) rfl) ⟨Nat.le_of_ble_eq_true rfl, Nat.le_of_ble_eq_true rfl⟩ rfl rfl (ci := 11) (q0 := 0) rfl rfl rfl hl.1 (Nat.le_of_ble_eq_true rfl) dX12_readCard_213 ⟨Nat.le_of_ble_eq_true rfl, Nat.le_of_ble_eq_true rfl⟩ (fun r_86 t_85 H locs hw hP hD hS => ?_)
            obtain ⟨h_88, h_89, p_90, p_91, p_92, p_93⟩ := hw
            replace p_90 : r_86 = fDeck t1 x1 w193_10 := p_90
            replace p_91 : r_86.toInt = (fDeck t1 x1 w193_10).toInt := p_91
            replace p_92 : ¬ r_86.toInt = 32 → (t1.2.2.1 37 (x1 : Int32).toNatClampNeg).toInt + w193_10.toInt ≤ (t1.2.2.1 38 (x1 : Int32).toNatClampNeg).toInt := p_92
            have h_94 : (t1.2.2.1 37 (x1 : Int32).toNatClampNeg).toInt = (t.2.2.1 37 (x1 : Int32).toNatClampNeg).toInt := tb_eq e_22 _
            have h_95 : (t1.2.2.1 38 (x1 : Int32).toNatClampNeg).toInt = (t.2.2.1 38 (x1 : Int32).toNatClampNeg).toInt := tb_eq e_23 _
            replace p_93 : 81 ≤ w193_10.toInt → r_86.toInt = 32 := p_93
            obtain ⟨v_96, e_97⟩ : ∃ z, z = (r_86 : Int32).toInt64 := ⟨_, rfl⟩
            have h_98 : v_96.toInt = r_86.toInt := by rw [e_97]; exact Jvm.Kit.i64_of_i32 _
            refine lv_i2l (v := v_96) C.1 C.2.1 dX12_readCard_216 e_97.symm ?_
            obtain ⟨v_99, e_100⟩ : ∃ z, z = (v_83 : Int64) + (v_96 : Int64) := ⟨_, rfl⟩
            refine k_ladd (v := v_99) C e_100.symm dX12_readCard_217 ?_
            refine lv_ldc2 (v := 48) C.1 C.2.1 C.2.2.2.1 (C.2.2.2.2.1 _ m_36_5) dX12_readCard_218 ?_
            obtain ⟨v_101, e_102⟩ : ∃ z, z = (v_99 : Int64) - (48 : Int64) := ⟨_, rfl⟩
            refine k_lsub (v := v_101) C e_102.symm dX12_readCard_221 ?_
            refine lv_lstore (lv' := [(8, .long v_101), (0, .ref (ad 0)), (1, .int x1), (2, .int w193_2), (3, .int w193_3), (4, .int w193_4), (5, .int w193_5), (6, .int w193_6), (7, .int w193_7), (10, .int w193_10)]) C.1 C.2.1 dX12_readCard_222 hl (by decide) rfl (fun ls hl => ?_)
            have hl : lv_has ls 11 [(0, .ref (ad 0)), (1, .int x1), (2, .int w193_2), (3, .int w193_3), (4, .int w193_4), (5, .int w193_5), (6, .int w193_6), (7, .int w193_7), (8, .long v_101), (10, .int w193_10)] := lv_sub hl [1, 2, 3, 4, 5, 6, 7, 8, 0, 9] rfl
            obtain ⟨v_103, e_104⟩ : ∃ z, z = w193_10 + 1 := ⟨_, rfl⟩
            have h_105 : v_103.toInt = w193_10.toInt + 1 := by rw [e_104]; exact ti_iadd (by show (_ : Int) ≤ w193_10.toInt + 1; omega) (by show w193_10.toInt + 1 < (_ : Int); omega)
            refine lv_iinc (v := v_103) (lv' := [(10, .int v_103), (0, .ref (ad 0)), (1, .int x1), (2, .int w193_2), (3, .int w193_3), (4, .int w193_4), (5, .int w193_5), (6, .int w193_6), (7, .int w193_7), (8, .long v_101)]) C.1 C.2.1 dX12_readCard_224 hl (k := 9) rfl e_104.symm (by decide) rfl (fun ls hl => ?_)
            have hl : lv_has ls 11 [(0, .ref (ad 0)), (1, .int x1), (2, .int w193_2), (3, .int w193_3), (4, .int w193_4), (5, .int w193_5), (6, .int w193_6), (7, .int w193_7), (8, .long v_101), (10, .int v_103)] := lv_sub hl [1, 2, 3, 4, 5, 6, 7, 8, 9, 0] rfl
            refine lv_goto (tgt := 193) C.1 C.2.1 dX12_readCard_227 (by decide) ?_
            exact ih_193 t1 w193_2 w193_3 w193_4 w193_5 w193_6 w193_7 v_101 v_103 _ _ _ hok hfr ⟨by omega, by omega⟩ ⟨(i_rng _).1, by omega⟩ ⟨by omega, by omega⟩ ⟨by omega, by omega⟩ ⟨by omega, by omega⟩ ⟨by omega, by omega⟩ ⟨by omega, by omega⟩ (show 0 ≤ w193_3.toInt from by omega) (show w193_3.toInt ≤ 3999 from by omega) (show w193_3.toInt + w193_2.toInt ≤ 4000 from by omega) (show 0 ≤ w193_2.toInt from by omega) (show w193_2.toInt ≤ 7 from by omega) (show w193_4.toInt < w193_2.toInt from by omega) (show w193_5.toInt = 11 + 10 * w193_4.toInt from by omega) (show w193_5.toInt ≤ v_103.toInt from by omega) (show (7 : Int) - w193_4.toInt < (fuel_100 : Int) + 1 from by omega) (show (81 : Int) - v_103.toInt < (fuel_193 : Int) from by omega) hP hD hS (lv_sub hl [0, 1, 2, 3, 4, 5, 6, 7, 8, 9] rfl)
      refine lv_iload C.1 C.2.1 dX12_readCard_100 (lv_at hl 4 rfl) ?_
      refine lv_iload_n C.1 C.2.1 dX12_readCard_102 rfl (lv_at hl 2 rfl) ?_
      refine lv_icmp_ge (tgt := 311) C.1 C.2.1 dX12_readCard_103 (by decide) (fun c_106 => ?_) (fun c_106 => ?_)
      · replace c_106 : w100_2.toInt ≤ w100_4.toInt := i_le c_106
        refine lv_iload_n C.1 C.2.1 dX12_readCard_311 rfl (lv_at hl 2 rfl) ?_
        refine lv_if_ne (tgt := 320) C.1 C.2.1 dX12_readCard_312 (by decide) (fun c_107 => ?_) (fun c_107 => ?_)
        · replace c_107 : ¬ w100_2.toInt = 0 := i_ne c_107
          exact L_320 t1 w100_2 w100_3 w100_4 _ _ _ hok hfr ⟨by omega, by omega⟩ ⟨(i_rng _).1, by omega⟩ ⟨by omega, by omega⟩ (show 0 ≤ w100_2.toInt from by omega) (show w100_2.toInt ≤ 9 from by omega) hP hD hS (lv_sub hl [0, 1, 2, 3, 4] rfl)
        · replace c_107 : w100_2.toInt = 0 := i_eq c_107
          refine lv_aload_n C.1 C.2.1 dX12_readCard_315 rfl (lv_at hl 0 rfl) ?_
          refine lv_iload_n C.1 C.2.1 dX12_readCard_316 rfl (lv_at hl 3 rfl) ?_
          refine k_put (ws' := WM K ad (uI t1 0 45 w100_3)) (v := .int w100_3) C hP hD hS 0 rfl rfl inlX12 tyX12_ok nmX12 45 (by decide) m_29_0 rfl rfl rfl rfl rfl dX12_readCard_317 (fun H locs hP hD hS => ?_)
          have hok : okM (uI t1 0 45 w100_3) := ⟨okI_I hok.1 0 45 w100_3 (show (-3999 : Int) ≤ (w100_3 : Int32).toInt ∧ (w100_3 : Int32).toInt ≤ 3999 from ⟨by omega, by omega⟩), hok.2.1, hok.2.2.1, hok.2.2.2.1, hok.2.2.2.2.1, hok.2.2.2.2.2.1, hok.2.2.2.2.2.2.1, trivial⟩
          have hfr : frA [(0, 45)] [] [2] [] t (uI t1 0 45 w100_3) := frA_I hfr 0 45 _ rfl
          exact L_320 (uI t1 0 45 w100_3) w100_2 w100_3 w100_4 _ _ _ hok hfr ⟨by omega, by omega⟩ ⟨(i_rng _).1, by omega⟩ ⟨by omega, by omega⟩ (show 0 ≤ w100_2.toInt from by omega) (show w100_2.toInt ≤ 9 from by omega) hP hD hS (lv_sub hl [0, 1, 2, 3, 4] rfl)
      · replace c_106 : w100_4.toInt < w100_2.toInt := i_nle c_106
        refine lv_bipush (v := 11) C.1 C.2.1 dX12_readCard_106 (by decide) ?_
        refine lv_bipush (v := 10) C.1 C.2.1 dX12_readCard_108 (by decide) ?_
        refine lv_iload C.1 C.2.1 dX12_readCard_110 (lv_at hl 4 rfl) ?_
        obtain ⟨v_108, e_109⟩ : ∃ z, z = (10 : Int32) * (w100_4 : Int32) := ⟨_, rfl⟩
        have h_110 : v_108.toInt = 10 * w100_4.toInt := by rw [e_109]; exact ti_mull (k := 10) (by decide) (by omega) (by omega)
        refine k_imul (v := v_108) C e_109.symm dX12_readCard_112 ?_
        obtain ⟨v_111, e_112⟩ : ∃ z, z = (11 : Int32) + (v_108 : Int32) := ⟨_, rfl⟩
        have h_113 : v_111.toInt = 11 + v_108.toInt := by rw [e_112]; exact ti_iadd (by show (_ : Int) ≤ 11 + v_108.toInt; omega) (by show 11 + v_108.toInt < (_ : Int); omega)
        refine k_iadd (v := v_111) C e_112.symm dX12_readCard_113 ?_
        refine lv_istore (lv' := [(5, .int v_111), (0, .ref (ad 0)), (1, .int x1), (2, .int w100_2), (3, .int w100_3), (4, .int w100_4)]) C.1 C.2.1 dX12_readCard_114 hl (by decide) rfl (fun ls hl => ?_)
        have hl : lv_has ls 11 [(0, .ref (ad 0)), (1, .int x1), (2, .int w100_2), (3, .int w100_3), (4, .int w100_4), (5, .int v_111)] := lv_sub hl [1, 2, 3, 4, 5, 0] rfl
        refine lv_aload_n C.1 C.2.1 dX12_readCard_116 rfl (lv_at hl 0 rfl) ?_
        refine lv_iload_n C.1 C.2.1 dX12_readCard_117 rfl (lv_at hl 1 rfl) ?_
        refine lv_iload C.1 C.2.1 dX12_readCard_118 (lv_at hl 5 rfl) ?_
        refine lv_bipush (v := 9) C.1 C.2.1 dX12_readCard_120 (by decide) ?_
        obtain ⟨v_114, e_115⟩ : ∃ z, z = (v_111 : Int32) + (9 : Int32) := ⟨_, rfl⟩
        have h_116 : v_114.toInt = v_111.toInt + 9 := by rw [e_115]; exact ti_iadd (by show (_ : Int) ≤ v_111.toInt + 9; omega) (by show v_111.toInt + 9 < (_ : Int); omega)
        refine k_iadd (v := v_114) C e_115.symm dX12_readCard_122 ?_
        refine g_Vi (As := [.int x1, .int v_114]) (rest := []) C hP hD hS hA (T_X12_deckLetter l D K Z Y ad t1 hok (x1) (show (0 : Int) ≤ (x1 : Int32).toInt ∧ (x1 : Int32).toInt ≤ 1280 from ⟨by omega, by omega⟩) (v_114) (show (1 : Int) ≤ (v_114 : Int32).toInt ∧ (v_114 : Int32).toInt ≤ 200 from ⟨by omega, by omega⟩)) hE hZ (uwV m_79_6 m_79_7 m_79_8 m_1_5 m_79_9) (hdV 2 (by decide +kernel) rfl) ⟨Nat.le_of_ble_eq_true rfl, Nat.le_of_ble_eq_true rfl⟩ rfl rfl (ci := 11) (q0 := 0) rfl rfl rfl hl.1 (Nat.le_of_ble_eq_true rfl) dX12_readCard_123 ⟨Nat.le_of_ble_eq_true rfl, Nat.le_of_ble_eq_true rfl⟩ (fun r_118 t_117 H locs hw hP hD hS => ?_)
        obtain ⟨h_120, h_121, p_122, p_123, p_124, p_125⟩ := hw
        replace p_122 : r_118 = fDeck t1 x1 v_114 := p_122
        replace p_123 : r_118.toInt = (fDeck t1 x1 v_114).toInt := p_123
        replace p_124 : ¬ r_118.toInt = 32 → (t1.2.2.1 37 (x1 : Int32).toNatClampNeg).toInt + v_114.toInt ≤ (t1.2.2.1 38 (x1 : Int32).toNatClampNeg).toInt := p_124
        have h_126 : (t1.2.2.1 37 (x1 : Int32).toNatClampNeg).toInt = (t.2.2.1 37 (x1 : Int32).toNatClampNeg).toInt := tb_eq e_5 _
        have h_127 : (t1.2.2.1 38 (x1 : Int32).toNatClampNeg).toInt = (t.2.2.1 38 (x1 : Int32).toNatClampNeg).toInt := tb_eq e_6 _
        replace p_125 : 81 ≤ v_114.toInt → r_118.toInt = 32 := p_125
        refine lv_istore (lv' := [(6, .int r_118), (0, .ref (ad 0)), (1, .int x1), (2, .int w100_2), (3, .int w100_3), (4, .int w100_4), (5, .int v_111)]) C.1 C.2.1 dX12_readCard_126 hl (by decide) rfl (fun ls hl => ?_)
        have hl : lv_has ls 11 [(0, .ref (ad 0)), (1, .int x1), (2, .int w100_2), (3, .int w100_3), (4, .int w100_4), (5, .int v_111), (6, .int r_118)] := lv_sub hl [1, 2, 3, 4, 5, 6, 0] rfl
        refine lv_iload C.1 C.2.1 dX12_readCard_128 (lv_at hl 6 rfl) ?_
        refine lv_bipush (v := 126) C.1 C.2.1 dX12_readCard_130 (by decide) ?_
        refine lv_icmp_eq (tgt := 149) C.1 C.2.1 dX12_readCard_132 (by decide) (fun c_128 => ?_) (fun c_128 => ?_)
        · replace c_128 : r_118.toInt = 126 := i_eq c_128
          refine lv_iconst (v := 1) C.1 C.2.1 dX12_readCard_149 (by decide) ?_
          refine lv_goto (tgt := 154) C.1 C.2.1 dX12_readCard_150 (by decide) ?_
          refine lv_istore (lv' := [(7, .int 1), (0, .ref (ad 0)), (1, .int x1), (2, .int w100_2), (3, .int w100_3), (4, .int w100_4), (5, .int v_111), (6, .int r_118)]) C.1 C.2.1 dX12_readCard_154 hl (by decide) rfl (fun ls hl => ?_)
          have hl : lv_has ls 11 [(0, .ref (ad 0)), (1, .int x1), (2, .int w100_2), (3, .int w100_3), (4, .int w100_4), (5, .int v_111), (6, .int r_118), (7, .int 1)] := lv_sub hl [1, 2, 3, 4, 5, 6, 7, 0] rfl
          refine lv_aload_n C.1 C.2.1 dX12_readCard_156 rfl (lv_at hl 0 rfl) ?_
          refine lv_iload_n C.1 C.2.1 dX12_readCard_157 rfl (lv_at hl 1 rfl) ?_
          refine lv_iload C.1 C.2.1 dX12_readCard_158 (lv_at hl 5 rfl) ?_
          refine lv_iload C.1 C.2.1 dX12_readCard_160 (lv_at hl 5 rfl) ?_
          refine lv_bipush (v := 9) C.1 C.2.1 dX12_readCard_162 (by decide) ?_
          obtain ⟨v_129, e_130⟩ : ∃ z, z = (v_111 : Int32) + (9 : Int32) := ⟨_, rfl⟩
          have h_131 : v_129.toInt = v_111.toInt + 9 := by rw [e_130]; exact ti_iadd (by show (_ : Int) ≤ v_111.toInt + 9; omega) (by show v_111.toInt + 9 < (_ : Int); omega)
          refine k_iadd (v := v_129) C e_130.symm dX12_readCard_164 ?_
          refine g_Vi (As := [.int x1, .int v_111, .int v_129]) (rest := []) C hP hD hS hA (T_X12_areDigits l D K Z Y ad t1 hok (x1) (show (2 : Int) ≤ (x1 : Int32).toInt ∧ (x1 : Int32).toInt ≤ 1279 from ⟨by omega, by omega⟩) (v_111) (show (7 : Int) ≤ (v_111 : Int32).toInt ∧ (v_111 : Int32).toInt ≤ 72 from ⟨by omega, by omega⟩) (v_129) (show (11 : Int) ≤ (v_129 : Int32).toInt ∧ (v_129 : Int32).toInt ≤ 80 from ⟨by omega, by omega⟩)) hE hZ (uwV m_80_11 m_80_12 m_80_13 m_1_5 m_80_14) (hdV 3 (by decide +kernel) rfl) ⟨Nat.le_of_ble_eq_true rfl, Nat.le_of_ble_eq_true rfl⟩ rfl rfl (ci := 11) (q0 := 0) rfl rfl rfl hl.1 (Nat.le_of_ble_eq_true rfl) dX12_readCard_165 ⟨Nat.le_of_ble_eq_true rfl, Nat.le_of_ble_eq_true rfl⟩ (fun r_133 t_132 H locs hw hP hD hS => ?_)
          obtain ⟨h_135, h_136, p_137⟩ := hw
          replace p_137 : r_133.toInt = 1 → ∀ c : Int32, v_111.toInt ≤ c.toInt → c.toInt < v_129.toInt → 48 ≤ (fDeck t1 x1 c).toInt ∧ (fDeck t1 x1 c).toInt ≤ 57 := p_137
          refine lv_if_eq (tgt := 184) C.1 C.2.1 dX12_readCard_168 (by decide) (fun c_138 => ?_) (fun c_138 => ?_)
          · replace c_138 : r_133.toInt = 0 := i_eq c_138
            refine lv_iconst (v := (-1)) C.1 C.2.1 dX12_readCard_184 (by decide) ?_
            exact g_iret C hr hlocks hP hD hS rfl t1 rfl ⟨hok, hfr, by decide, by decide⟩ (Nat.le_of_ble_eq_true rfl) (Nat.le_of_ble_eq_true rfl) dX12_readCard_185
          · replace c_138 : ¬ r_133.toInt = 0 := i_ne c_138
            refine lv_iload C.1 C.2.1 dX12_readCard_171 (lv_at hl 7 rfl) ?_
            refine lv_if_ne (tgt := 186) C.1 C.2.1 dX12_readCard_173 (by decide) (fun _ => ?_) (fun h => absurd h (by decide))
            refine lv_lconst (v := 0) C.1 C.2.1 dX12_readCard_186 (by decide) ?_
            refine lv_lstore (lv' := [(8, .long 0), (0, .ref (ad 0)), (1, .int x1), (2, .int w100_2), (3, .int w100_3), (4, .int w100_4), (5, .int v_111), (6, .int r_118), (7, .int 1)]) C.1 C.2.1 dX12_readCard_187 hl (by decide) rfl (fun ls hl => ?_)
            have hl : lv_has ls 11 [(0, .ref (ad 0)), (1, .int x1), (2, .int w100_2), (3, .int w100_3), (4, .int w100_4), (5, .int v_111), (6, .int r_118), (7, .int 1), (8, .long 0)] := lv_sub hl [1, 2, 3, 4, 5, 6, 7, 8, 0] rfl
            refine lv_iload C.1 C.2.1 dX12_readCard_189 (lv_at hl 5 rfl) ?_
            refine lv_istore (lv' := [(10, .int v_111), (0, .ref (ad 0)), (1, .int x1), (2, .int w100_2), (3, .int w100_3), (4, .int w100_4), (5, .int v_111), (6, .int r_118), (7, .int 1), (8, .long 0)]) C.1 C.2.1 dX12_readCard_191 hl (by decide) rfl (fun ls hl => ?_)
            have hl : lv_has ls 11 [(0, .ref (ad 0)), (1, .int x1), (2, .int w100_2), (3, .int w100_3), (4, .int w100_4), (5, .int v_111), (6, .int r_118), (7, .int 1), (8, .long 0), (10, .int v_111)] := lv_sub hl [1, 2, 3, 4, 5, 6, 7, 8, 9, 0] rfl
            exact L_193 71 t1 w100_2 w100_3 w100_4 v_111 r_118 1 0 v_111 _ _ _ hok hfr ⟨by omega, by omega⟩ ⟨(i_rng _).1, by omega⟩ ⟨by omega, by omega⟩ ⟨by omega, by omega⟩ ⟨by omega, by omega⟩ ⟨by decide, by decide⟩ ⟨by omega, by omega⟩ (show 0 ≤ w100_3.toInt from by omega) (show w100_3.toInt ≤ 3999 from by omega) (show w100_3.toInt + w100_2.toInt ≤ 4000 from by omega) (show 0 ≤ w100_2.toInt from by omega) (show w100_2.toInt ≤ 7 from by omega) (show w100_4.toInt < w100_2.toInt from by omega) (show v_111.toInt = 11 + 10 * w100_4.toInt from by omega) (show v_111.toInt ≤ v_111.toInt from by omega) (show (7 : Int) - w100_4.toInt < (fuel_100 : Int) + 1 from by omega) (show (81 : Int) - v_111.toInt < ((71 : Nat) : Int) from by omega) hP hD hS (lv_sub hl [0, 1, 2, 3, 4, 5, 6, 7, 8, 9] rfl)
        · replace c_128 : ¬ r_118.toInt = 126 := i_ne c_128
          refine lv_iload C.1 C.2.1 dX12_readCard_135 (lv_at hl 6 rfl) ?_
          refine lv_bipush (v := 74) C.1 C.2.1 dX12_readCard_137 (by decide) ?_
          refine lv_icmp_lt (tgt := 153) C.1 C.2.1 dX12_readCard_139 (by decide) (fun c_139 => ?_) (fun c_139 => ?_)
          · replace c_139 : r_118.toInt < 74 := i_lt c_139
            refine lv_iconst (v := 0) C.1 C.2.1 dX12_readCard_153 (by decide) ?_
            refine lv_istore (lv' := [(7, .int 0), (0, .ref (ad 0)), (1, .int x1), (2, .int w100_2), (3, .int w100_3), (4, .int w100_4), (5, .int v_111), (6, .int r_118)]) C.1 C.2.1 dX12_readCard_154 hl (by decide) rfl (fun ls hl => ?_)
            have hl : lv_has ls 11 [(0, .ref (ad 0)), (1, .int x1), (2, .int w100_2), (3, .int w100_3), (4, .int w100_4), (5, .int v_111), (6, .int r_118), (7, .int 0)] := lv_sub hl [1, 2, 3, 4, 5, 6, 7, 0] rfl
            refine lv_aload_n C.1 C.2.1 dX12_readCard_156 rfl (lv_at hl 0 rfl) ?_
            refine lv_iload_n C.1 C.2.1 dX12_readCard_157 rfl (lv_at hl 1 rfl) ?_
            refine lv_iload C.1 C.2.1 dX12_readCard_158 (lv_at hl 5 rfl) ?_
            refine lv_iload C.1 C.2.1 dX12_readCard_160 (lv_at hl 5 rfl) ?_
            refine lv_bipush (v := 9) C.1 C.2.1 dX12_readCard_162 (by decide) ?_
            obtain ⟨v_140, e_141⟩ : ∃ z, z = (v_111 : Int32) + (9 : Int32) := ⟨_, rfl⟩
            have h_142 : v_140.toInt = v_111.toInt + 9 := by rw [e_141]; exact ti_iadd (by show (_ : Int) ≤ v_111.toInt + 9; omega) (by show v_111.toInt + 9 < (_ : Int); omega)
            refine k_iadd (v := v_140) C e_141.symm dX12_readCard_164 ?_
            refine g_Vi (As := [.int x1, .int v_111, .int v_140]) (rest := []) C hP hD hS hA (T_X12_areDigits l D K Z Y ad t1 hok (x1) (show (2 : Int) ≤ (x1 : Int32).toInt ∧ (x1 : Int32).toInt ≤ 1279 from ⟨by omega, by omega⟩) (v_111) (show (7 : Int) ≤ (v_111 : Int32).toInt ∧ (v_111 : Int32).toInt ≤ 72 from ⟨by omega, by omega⟩) (v_140) (show (11 : Int) ≤ (v_140 : Int32).toInt ∧ (v_140 : Int32).toInt ≤ 80 from ⟨by omega, by omega⟩)) hE hZ (uwV m_80_11 m_80_12 m_80_13 m_1_5 m_80_14) (hdV 3 (by decide +kernel) rfl) ⟨Nat.le_of_ble_eq_true rfl, Nat.le_of_ble_eq_true rfl⟩ rfl rfl (ci := 11) (q0 := 0) rfl rfl rfl hl.1 (Nat.le_of_ble_eq_true rfl) dX12_readCard_165 ⟨Nat.le_of_ble_eq_true rfl, Nat.le_of_ble_eq_true rfl⟩ (fun r_144 t_143 H locs hw hP hD hS => ?_)
            obtain ⟨h_146, h_147, p_148⟩ := hw
            replace p_148 : r_144.toInt = 1 → ∀ c : Int32, v_111.toInt ≤ c.toInt → c.toInt < v_140.toInt → 48 ≤ (fDeck t1 x1 c).toInt ∧ (fDeck t1 x1 c).toInt ≤ 57 := p_148
            refine lv_if_eq (tgt := 184) C.1 C.2.1 dX12_readCard_168 (by decide) (fun c_149 => ?_) (fun c_149 => ?_)
            · replace c_149 : r_144.toInt = 0 := i_eq c_149
              refine lv_iconst (v := (-1)) C.1 C.2.1 dX12_readCard_184 (by decide) ?_
              exact g_iret C hr hlocks hP hD hS rfl t1 rfl ⟨hok, hfr, by decide, by decide⟩ (Nat.le_of_ble_eq_true rfl) (Nat.le_of_ble_eq_true rfl) dX12_readCard_185
            · replace c_149 : ¬ r_144.toInt = 0 := i_ne c_149
              refine lv_iload C.1 C.2.1 dX12_readCard_171 (lv_at hl 7 rfl) ?_
              refine lv_if_ne (tgt := 186) C.1 C.2.1 dX12_readCard_173 (by decide) (fun h => absurd h (by decide)) (fun _ => ?_)
              refine lv_iload C.1 C.2.1 dX12_readCard_176 (lv_at hl 6 rfl) ?_
              refine g_Si (As := [.int r_118]) (rest := []) C hP hD hS hA (T_X12_isDigit l D K Z Y ad t1 hok (r_118) (show (0 : Int) ≤ (r_118 : Int32).toInt ∧ (r_118 : Int32).toInt ≤ 255 from ⟨by omega, by omega⟩)) hE hZ (uwS m_32_15 m_32_16 m_1_5 m_32_17) (hdS 1 (by decide +kernel) rfl) ⟨Nat.le_of_ble_eq_true rfl, Nat.le_of_ble_eq_true rfl⟩ rfl rfl rfl hl.1 (Nat.le_of_ble_eq_true rfl) dX12_readCard_178 ⟨Nat.le_of_ble_eq_true rfl, Nat.le_of_ble_eq_true rfl⟩ (fun r_151 t_150 H locs hw hP hD hS => ?_)
              obtain ⟨h_153, h_154, p_155⟩ := hw
              replace p_155 : r_151.toInt = 1 → 48 ≤ r_118.toInt ∧ r_118.toInt ≤ 57 := p_155
              refine lv_if_ne (tgt := 186) C.1 C.2.1 dX12_readCard_181 (by decide) (fun c_156 => ?_) (fun c_156 => ?_)
              · replace c_156 : ¬ r_151.toInt = 0 := i_ne c_156
                refine lv_lconst (v := 0) C.1 C.2.1 dX12_readCard_186 (by decide) ?_
                refine lv_lstore (lv' := [(8, .long 0), (0, .ref (ad 0)), (1, .int x1), (2, .int w100_2), (3, .int w100_3), (4, .int w100_4), (5, .int v_111), (6, .int r_118), (7, .int 0)]) C.1 C.2.1 dX12_readCard_187 hl (by decide) rfl (fun ls hl => ?_)
                have hl : lv_has ls 11 [(0, .ref (ad 0)), (1, .int x1), (2, .int w100_2), (3, .int w100_3), (4, .int w100_4), (5, .int v_111), (6, .int r_118), (7, .int 0), (8, .long 0)] := lv_sub hl [1, 2, 3, 4, 5, 6, 7, 8, 0] rfl
                refine lv_iload C.1 C.2.1 dX12_readCard_189 (lv_at hl 5 rfl) ?_
                refine lv_istore (lv' := [(10, .int v_111), (0, .ref (ad 0)), (1, .int x1), (2, .int w100_2), (3, .int w100_3), (4, .int w100_4), (5, .int v_111), (6, .int r_118), (7, .int 0), (8, .long 0)]) C.1 C.2.1 dX12_readCard_191 hl (by decide) rfl (fun ls hl => ?_)
                have hl : lv_has ls 11 [(0, .ref (ad 0)), (1, .int x1), (2, .int w100_2), (3, .int w100_3), (4, .int w100_4), (5, .int v_111), (6, .int r_118), (7, .int 0), (8, .long 0), (10, .int v_111)] := lv_sub hl [1, 2, 3, 4, 5, 6, 7, 8, 9, 0] rfl
                exact L_193 71 t1 w100_2 w100_3 w100_4 v_111 r_118 0 0 v_111 _ _ _ hok hfr ⟨by omega, by omega⟩ ⟨(i_rng _).1, by omega⟩ ⟨by omega, by omega⟩ ⟨by omega, by omega⟩ ⟨by omega, by omega⟩ ⟨by decide, by decide⟩ ⟨by omega, by omega⟩ (show 0 ≤ w100_3.toInt from by omega) (show w100_3.toInt ≤ 3999 from by omega) (show w100_3.toInt + w100_2.toInt ≤ 4000 from by omega) (show 0 ≤ w100_2.toInt from by omega) (show w100_2.toInt ≤ 7 from by omega) (show w100_4.toInt < w100_2.toInt from by omega) (show v_111.toInt = 11 + 10 * w100_4.toInt from by omega) (show v_111.toInt ≤ v_111.toInt from by omega) (show (7 : Int) - w100_4.toInt < (fuel_100 : Int) + 1 from by omega) (show (81 : Int) - v_111.toInt < ((71 : Nat) : Int) from by omega) hP hD hS (lv_sub hl [0, 1, 2, 3, 4, 5, 6, 7, 8, 9] rfl)
              · replace c_156 : r_151.toInt = 0 := i_eq c_156
                refine lv_iconst (v := (-1)) C.1 C.2.1 dX12_readCard_184 (by decide) ?_
                exact g_iret C hr hlocks hP hD hS rfl t1 rfl ⟨hok, hfr, by decide, by decide⟩ (Nat.le_of_ble_eq_true rfl) (Nat.le_of_ble_eq_true rfl) dX12_readCard_185
          · replace c_139 : 74 ≤ r_118.toInt := i_nlt c_139
            refine lv_iload C.1 C.2.1 dX12_readCard_142 (lv_at hl 6 rfl) ?_
            refine lv_bipush (v := 82) C.1 C.2.1 dX12_readCard_144 (by decide) ?_
            refine lv_icmp_gt (tgt := 153) C.1 C.2.1 dX12_readCard_146 (by decide) (fun c_157 => ?_) (fun c_157 => ?_)
            · replace c_157 : 82 < r_118.toInt := i_lt c_157
              refine lv_iconst (v := 0) C.1 C.2.1 dX12_readCard_153 (by decide) ?_
              refine lv_istore (lv' := [(7, .int 0), (0, .ref (ad 0)), (1, .int x1), (2, .int w100_2), (3, .int w100_3), (4, .int w100_4), (5, .int v_111), (6, .int r_118)]) C.1 C.2.1 dX12_readCard_154 hl (by decide) rfl (fun ls hl => ?_)
              have hl : lv_has ls 11 [(0, .ref (ad 0)), (1, .int x1), (2, .int w100_2), (3, .int w100_3), (4, .int w100_4), (5, .int v_111), (6, .int r_118), (7, .int 0)] := lv_sub hl [1, 2, 3, 4, 5, 6, 7, 0] rfl
              refine lv_aload_n C.1 C.2.1 dX12_readCard_156 rfl (lv_at hl 0 rfl) ?_
              refine lv_iload_n C.1 C.2.1 dX12_readCard_157 rfl (lv_at hl 1 rfl) ?_
              refine lv_iload C.1 C.2.1 dX12_readCard_158 (lv_at hl 5 rfl) ?_
              refine lv_iload C.1 C.2.1 dX12_readCard_160 (lv_at hl 5 rfl) ?_
              refine lv_bipush (v := 9) C.1 C.2.1 dX12_readCard_162 (by decide) ?_
              obtain ⟨v_158, e_159⟩ : ∃ z, z = (v_111 : Int32) + (9 : Int32) := ⟨_, rfl⟩
              have h_160 : v_158.toInt = v_111.toInt + 9 := by rw [e_159]; exact ti_iadd (by show (_ : Int) ≤ v_111.toInt + 9; omega) (by show v_111.toInt + 9 < (_ : Int); omega)
              refine k_iadd (v := v_158) C e_159.symm dX12_readCard_164 ?_
              refine g_Vi (As := [.int x1, .int v_111, .int v_158]) (rest := []) C hP hD hS hA (T_X12_areDigits l D K Z Y ad t1 hok (x1) (show (2 : Int) ≤ (x1 : Int32).toInt ∧ (x1 : Int32).toInt ≤ 1279 from ⟨by omega, by omega⟩) (v_111) (show (7 : Int) ≤ (v_111 : Int32).toInt ∧ (v_111 : Int32).toInt ≤ 72 from ⟨by omega, by omega⟩) (v_158) (show (11 : Int) ≤ (v_158 : Int32).toInt ∧ (v_158 : Int32).toInt ≤ 80 from ⟨by omega, by omega⟩)) hE hZ (uwV m_80_11 m_80_12 m_80_13 m_1_5 m_80_14) (hdV 3 (by decide +kernel) rfl) ⟨Nat.le_of_ble_eq_true rfl, Nat.le_of_ble_eq_true rfl⟩ rfl rfl (ci := 11) (q0 := 0) rfl rfl rfl hl.1 (Nat.le_of_ble_eq_true rfl) dX12_readCard_165 ⟨Nat.le_of_ble_eq_true rfl, Nat.le_of_ble_eq_true rfl⟩ (fun r_162 t_161 H locs hw hP hD hS => ?_)
              obtain ⟨h_164, h_165, p_166⟩ := hw
              replace p_166 : r_162.toInt = 1 → ∀ c : Int32, v_111.toInt ≤ c.toInt → c.toInt < v_158.toInt → 48 ≤ (fDeck t1 x1 c).toInt ∧ (fDeck t1 x1 c).toInt ≤ 57 := p_166
              refine lv_if_eq (tgt := 184) C.1 C.2.1 dX12_readCard_168 (by decide) (fun c_167 => ?_) (fun c_167 => ?_)
              · replace c_167 : r_162.toInt = 0 := i_eq c_167
                refine lv_iconst (v := (-1)) C.1 C.2.1 dX12_readCard_184 (by decide) ?_
                exact g_iret C hr hlocks hP hD hS rfl t1 rfl ⟨hok, hfr, by decide, by decide⟩ (Nat.le_of_ble_eq_true rfl) (Nat.le_of_ble_eq_true rfl) dX12_readCard_185
              · replace c_167 : ¬ r_162.toInt = 0 := i_ne c_167
                refine lv_iload C.1 C.2.1 dX12_readCard_171 (lv_at hl 7 rfl) ?_
                refine lv_if_ne (tgt := 186) C.1 C.2.1 dX12_readCard_173 (by decide) (fun h => absurd h (by decide)) (fun _ => ?_)
                refine lv_iload C.1 C.2.1 dX12_readCard_176 (lv_at hl 6 rfl) ?_
                refine g_Si (As := [.int r_118]) (rest := []) C hP hD hS hA (T_X12_isDigit l D K Z Y ad t1 hok (r_118) (show (0 : Int) ≤ (r_118 : Int32).toInt ∧ (r_118 : Int32).toInt ≤ 255 from ⟨by omega, by omega⟩)) hE hZ (uwS m_32_15 m_32_16 m_1_5 m_32_17) (hdS 1 (by decide +kernel) rfl) ⟨Nat.le_of_ble_eq_true rfl, Nat.le_of_ble_eq_true rfl⟩ rfl rfl rfl hl.1 (Nat.le_of_ble_eq_true rfl) dX12_readCard_178 ⟨Nat.le_of_ble_eq_true rfl, Nat.le_of_ble_eq_true rfl⟩ (fun r_169 t_168 H locs hw hP hD hS => ?_)
                obtain ⟨h_171, h_172, p_173⟩ := hw
                replace p_173 : r_169.toInt = 1 → 48 ≤ r_118.toInt ∧ r_118.toInt ≤ 57 := p_173
                refine lv_if_ne (tgt := 186) C.1 C.2.1 dX12_readCard_181 (by decide) (fun c_174 => ?_) (fun c_174 => ?_)
                · replace c_174 : ¬ r_169.toInt = 0 := i_ne c_174
                  refine lv_lconst (v := 0) C.1 C.2.1 dX12_readCard_186 (by decide) ?_
                  refine lv_lstore (lv' := [(8, .long 0), (0, .ref (ad 0)), (1, .int x1), (2, .int w100_2), (3, .int w100_3), (4, .int w100_4), (5, .int v_111), (6, .int r_118), (7, .int 0)]) C.1 C.2.1 dX12_readCard_187 hl (by decide) rfl (fun ls hl => ?_)
                  have hl : lv_has ls 11 [(0, .ref (ad 0)), (1, .int x1), (2, .int w100_2), (3, .int w100_3), (4, .int w100_4), (5, .int v_111), (6, .int r_118), (7, .int 0), (8, .long 0)] := lv_sub hl [1, 2, 3, 4, 5, 6, 7, 8, 0] rfl
                  refine lv_iload C.1 C.2.1 dX12_readCard_189 (lv_at hl 5 rfl) ?_
                  refine lv_istore (lv' := [(10, .int v_111), (0, .ref (ad 0)), (1, .int x1), (2, .int w100_2), (3, .int w100_3), (4, .int w100_4), (5, .int v_111), (6, .int r_118), (7, .int 0), (8, .long 0)]) C.1 C.2.1 dX12_readCard_191 hl (by decide) rfl (fun ls hl => ?_)
                  have hl : lv_has ls 11 [(0, .ref (ad 0)), (1, .int x1), (2, .int w100_2), (3, .int w100_3), (4, .int w100_4), (5, .int v_111), (6, .int r_118), (7, .int 0), (8, .long 0), (10, .int v_111)] := lv_sub hl [1, 2, 3, 4, 5, 6, 7, 8, 9, 0] rfl
                  exact L_193 71 t1 w100_2 w100_3 w100_4 v_111 r_118 0 0 v_111 _ _ _ hok hfr ⟨by omega, by omega⟩ ⟨(i_rng _).1, by omega⟩ ⟨by omega, by omega⟩ ⟨by omega, by omega⟩ ⟨by omega, by omega⟩ ⟨by decide, by decide⟩ ⟨by omega, by omega⟩ (show 0 ≤ w100_3.toInt from by omega) (show w100_3.toInt ≤ 3999 from by omega) (show w100_3.toInt + w100_2.toInt ≤ 4000 from by omega) (show 0 ≤ w100_2.toInt from by omega) (show w100_2.toInt ≤ 7 from by omega) (show w100_4.toInt < w100_2.toInt from by omega) (show v_111.toInt = 11 + 10 * w100_4.toInt from by omega) (show v_111.toInt ≤ v_111.toInt from by omega) (show (7 : Int) - w100_4.toInt < (fuel_100 : Int) + 1 from by omega) (show (81 : Int) - v_111.toInt < ((71 : Nat) : Int) from by omega) hP hD hS (lv_sub hl [0, 1, 2, 3, 4, 5, 6, 7, 8, 9] rfl)
                · replace c_174 : r_169.toInt = 0 := i_eq c_174
                  refine lv_iconst (v := (-1)) C.1 C.2.1 dX12_readCard_184 (by decide) ?_
                  exact g_iret C hr hlocks hP hD hS rfl t1 rfl ⟨hok, hfr, by decide, by decide⟩ (Nat.le_of_ble_eq_true rfl) (Nat.le_of_ble_eq_true rfl) dX12_readCard_185
            · replace c_157 : r_118.toInt ≤ 82 := i_nlt c_157
              refine lv_iconst (v := 1) C.1 C.2.1 dX12_readCard_149 (by decide) ?_
              refine lv_goto (tgt := 154) C.1 C.2.1 dX12_readCard_150 (by decide) ?_
              refine lv_istore (lv' := [(7, .int 1), (0, .ref (ad 0)), (1, .int x1), (2, .int w100_2), (3, .int w100_3), (4, .int w100_4), (5, .int v_111), (6, .int r_118)]) C.1 C.2.1 dX12_readCard_154 hl (by decide) rfl (fun ls hl => ?_)
              have hl : lv_has ls 11 [(0, .ref (ad 0)), (1, .int x1), (2, .int w100_2), (3, .int w100_3), (4, .int w100_4), (5, .int v_111), (6, .int r_118), (7, .int 1)] := lv_sub hl [1, 2, 3, 4, 5, 6, 7, 0] rfl
              refine lv_aload_n C.1 C.2.1 dX12_readCard_156 rfl (lv_at hl 0 rfl) ?_
              refine lv_iload_n C.1 C.2.1 dX12_readCard_157 rfl (lv_at hl 1 rfl) ?_
              refine lv_iload C.1 C.2.1 dX12_readCard_158 (lv_at hl 5 rfl) ?_
              refine lv_iload C.1 C.2.1 dX12_readCard_160 (lv_at hl 5 rfl) ?_
              refine lv_bipush (v := 9) C.1 C.2.1 dX12_readCard_162 (by decide) ?_
              obtain ⟨v_175, e_176⟩ : ∃ z, z = (v_111 : Int32) + (9 : Int32) := ⟨_, rfl⟩
              have h_177 : v_175.toInt = v_111.toInt + 9 := by rw [e_176]; exact ti_iadd (by show (_ : Int) ≤ v_111.toInt + 9; omega) (by show v_111.toInt + 9 < (_ : Int); omega)
              refine k_iadd (v := v_175) C e_176.symm dX12_readCard_164 ?_
              refine g_Vi (As := [.int x1, .int v_111, .int v_175]) (rest := []) C hP hD hS hA (T_X12_areDigits l D K Z Y ad t1 hok (x1) (show (2 : Int) ≤ (x1 : Int32).toInt ∧ (x1 : Int32).toInt ≤ 1279 from ⟨by omega, by omega⟩) (v_111) (show (7 : Int) ≤ (v_111 : Int32).toInt ∧ (v_111 : Int32).toInt ≤ 72 from ⟨by omega, by omega⟩) (v_175) (show (11 : Int) ≤ (v_175 : Int32).toInt ∧ (v_175 : Int32).toInt ≤ 80 from ⟨by omega, by omega⟩)) hE hZ (uwV m_80_11 m_80_12 m_80_13 m_1_5 m_80_14) (hdV 3 (by decide +kernel) rfl) ⟨Nat.le_of_ble_eq_true rfl, Nat.le_of_ble_eq_true rfl⟩ rfl rfl (ci := 11) (q0 := 0) rfl rfl rfl hl.1 (Nat.le_of_ble_eq_true rfl) dX12_readCard_165 ⟨Nat.le_of_ble_eq_true rfl, Nat.le_of_ble_eq_true rfl⟩ (fun r_179 t_178 H locs hw hP hD hS => ?_)
              obtain ⟨h_181, h_182, p_183⟩ := hw
              replace p_183 : r_179.toInt = 1 → ∀ c : Int32, v_111.toInt ≤ c.toInt → c.toInt < v_175.toInt → 48 ≤ (fDeck t1 x1 c).toInt ∧ (fDeck t1 x1 c).toInt ≤ 57 := p_183
              refine lv_if_eq (tgt := 184) C.1 C.2.1 dX12_readCard_168 (by decide) (fun c_184 => ?_) (fun c_184 => ?_)
              · replace c_184 : r_179.toInt = 0 := i_eq c_184
                refine lv_iconst (v := (-1)) C.1 C.2.1 dX12_readCard_184 (by decide) ?_
                exact g_iret C hr hlocks hP hD hS rfl t1 rfl ⟨hok, hfr, by decide, by decide⟩ (Nat.le_of_ble_eq_true rfl) (Nat.le_of_ble_eq_true rfl) dX12_readCard_185
              · replace c_184 : ¬ r_179.toInt = 0 := i_ne c_184
                refine lv_iload C.1 C.2.1 dX12_readCard_171 (lv_at hl 7 rfl) ?_
                refine lv_if_ne (tgt := 186) C.1 C.2.1 dX12_readCard_173 (by decide) (fun _ => ?_) (fun h => absurd h (by decide))
                refine lv_lconst (v := 0) C.1 C.2.1 dX12_readCard_186 (by decide) ?_
                refine lv_lstore (lv' := [(8, .long 0), (0, .ref (ad 0)), (1, .int x1), (2, .int w100_2), (3, .int w100_3), (4, .int w100_4), (5, .int v_111), (6, .int r_118), (7, .int 1)]) C.1 C.2.1 dX12_readCard_187 hl (by decide) rfl (fun ls hl => ?_)
                have hl : lv_has ls 11 [(0, .ref (ad 0)), (1, .int x1), (2, .int w100_2), (3, .int w100_3), (4, .int w100_4), (5, .int v_111), (6, .int r_118), (7, .int 1), (8, .long 0)] := lv_sub hl [1, 2, 3, 4, 5, 6, 7, 8, 0] rfl
                refine lv_iload C.1 C.2.1 dX12_readCard_189 (lv_at hl 5 rfl) ?_
                refine lv_istore (lv' := [(10, .int v_111), (0, .ref (ad 0)), (1, .int x1), (2, .int w100_2), (3, .int w100_3), (4, .int w100_4), (5, .int v_111), (6, .int r_118), (7, .int 1), (8, .long 0)]) C.1 C.2.1 dX12_readCard_191 hl (by decide) rfl (fun ls hl => ?_)
                have hl : lv_has ls 11 [(0, .ref (ad 0)), (1, .int x1), (2, .int w100_2), (3, .int w100_3), (4, .int w100_4), (5, .int v_111), (6, .int r_118), (7, .int 1), (8, .long 0), (10, .int v_111)] := lv_sub hl [1, 2, 3, 4, 5, 6, 7, 8, 9, 0] rfl
                exact L_193 71 t1 w100_2 w100_3 w100_4 v_111 r_118 1 0 v_111 _ _ _ hok hfr ⟨by omega, by omega⟩ ⟨(i_rng _).1, by omega⟩ ⟨by omega, by omega⟩ ⟨by omega, by omega⟩ ⟨by omega, by omega⟩ ⟨by decide, by decide⟩ ⟨by omega, by omega⟩ (show 0 ≤ w100_3.toInt from by omega) (show w100_3.toInt ≤ 3999 from by omega) (show w100_3.toInt + w100_2.toInt ≤ 4000 from by omega) (show 0 ≤ w100_2.toInt from by omega) (show w100_2.toInt ≤ 7 from by omega) (show w100_4.toInt < w100_2.toInt from by omega) (show v_111.toInt = 11 + 10 * w100_4.toInt from by omega) (show v_111.toInt ≤ v_111.toInt from by omega) (show (7 : Int) - w100_4.toInt < (fuel_100 : Int) + 1 from by omega) (show (81 : Int) - v_111.toInt < ((71 : Nat) : Int) from by omega) hP hD hS (lv_sub hl [0, 1, 2, 3, 4, 5, 6, 7, 8, 9] rfl)
  have L_95 : ∀ (t1 : tSt) (w95_2 : Int32) (w95_3 : Int32) (w95_4 : Int32) (H : Heap) (locs : List Loc) (ls : Array Slot), okM t1 → frA [(0, 45)] [] [2] [] t t1 → (-48 : Int) ≤ w95_2.toInt ∧ w95_2.toInt ≤ 207 → (11 : Int) ≤ w95_4.toInt ∧ w95_4.toInt ≤ 15 → va_P D vwCl (WM K ad t1) H → va_D A (WM K ad t1) → va_S A s.heap H locs → lv_has ls 11 [(0, .ref (ad 0)), (1, .int x1), (2, .int w95_2), (3, .int w95_3), (4, .int w95_4)] → W p l e (rmD 9 0 0) s m [.ref (ad 0), .int x1].toArray below meth c H locs 0 0 (MQ below (QI D K (fun (r : Int32) (u : tSt) => okM u ∧ frA [(0, 45)] [] [2] [] t u ∧ (-1 : Int) ≤ r.toInt ∧ r.toInt ≤ 7) (fun (u : tSt) => WM K ad u) A) [.ref (ad 0), .int x1].toArray s 0 0 A) (F0 m 95 ls []) := by
    intro t1 w95_2 w95_3 w95_4 H locs ls hok hfr hw95_2 hw95_4 hP hD hS hl
    have e_185 : t1.2.2.1 37 = t.2.2.1 37 := hfr.2.2.1 37 rfl
    have e_186 : t1.2.2.1 38 = t.2.2.1 38 := hfr.2.2.1 38 rfl
    refine lv_iconst (v := (-1)) C.1 C.2.1 dX12_readCard_95 (by decide) ?_
    exact g_iret C hr hlocks hP hD hS rfl t1 rfl ⟨hok, hfr, by decide, by decide⟩ (Nat.le_of_ble_eq_true rfl) (Nat.le_of_ble_eq_true rfl) dX12_readCard_96
  have L_44 : ∀ (fuel_44 : Nat) (t1 : tSt) (w44_2 : Int32) (w44_3 : Int32) (w44_4 : Int32) (H : Heap) (locs : List Loc) (ls : Array Slot), okM t1 → frA [(0, 45)] [] [2] [] t t1 → (-48 : Int) ≤ w44_2.toInt ∧ w44_2.toInt ≤ 207 → (7 : Int) ≤ w44_4.toInt ∧ w44_4.toInt ≤ 15 → (∀ c : Int32, 7 ≤ c.toInt → c.toInt < 11 → 48 ≤ (fDeck t x1 c).toInt ∧ (fDeck t x1 c).toInt ≤ 57) → (0 ≤ w44_3.toInt) → (w44_4.toInt = 7 ∧ w44_3.toInt = 0 ∨ w44_4.toInt = 8 ∧ w44_3.toInt ≤ 9 ∨ w44_4.toInt = 9 ∧ w44_3.toInt ≤ 99 ∨ w44_4.toInt = 10 ∧ w44_3.toInt ≤ 999 ∨ w44_4.toInt = 11 ∧ w44_3.toInt ≤ 9999) → (0 ≤ w44_2.toInt) → (w44_2.toInt ≤ 9) → (15 : Int) - w44_4.toInt < (fuel_44 : Int) → va_P D vwCl (WM K ad t1) H → va_D A (WM K ad t1) → va_S A s.heap H locs → lv_has ls 11 [(0, .ref (ad 0)), (1, .int x1), (2, .int w44_2), (3, .int w44_3), (4, .int w44_4)] → W p l e (rmD 9 0 0) s m [.ref (ad 0), .int x1].toArray below meth c H locs 0 0 (MQ below (QI D K (fun (r : Int32) (u : tSt) => okM u ∧ frA [(0, 45)] [] [2] [] t u ∧ (-1 : Int) ≤ r.toInt ∧ r.toInt ≤ 7) (fun (u : tSt) => WM K ad u) A) [.ref (ad 0), .int x1].toArray s 0 0 A) (F0 m 44 ls []) := by
    intro fuel_44
    induction fuel_44 with
    | zero =>
      intro t1 w44_2 w44_3 w44_4 H locs ls hok hfr hw44_2 hw44_4 hi44_0 hi44_1 hi44_2 hi44_3 hi44_4 hm44_44 hP hD hS hl
      have e_187 : t1.2.2.1 37 = t.2.2.1 37 := hfr.2.2.1 37 rfl
      have e_188 : t1.2.2.1 38 = t.2.2.1 38 := hfr.2.2.1 38 rfl
      exact absurd hm44_44 (by omega)
    | succ fuel_44 ih_44 =>
      intro t1 w44_2 w44_3 w44_4 H locs ls hok hfr hw44_2 hw44_4 hi44_0 hi44_1 hi44_2 hi44_3 hi44_4 hm44_44 hP hD hS hl
      have hm44_44 : (15 : Int) - w44_4.toInt < (fuel_44 : Int) + 1 := by omega
      have e_189 : t1.2.2.1 37 = t.2.2.1 37 := hfr.2.2.1 37 rfl
      have e_190 : t1.2.2.1 38 = t.2.2.1 38 := hfr.2.2.1 38 rfl
      have hfd : ∀ c, fDeck t1 x1 c = fDeck t x1 c := fun c => by unfold fDeck; rw [hfr.2.2.1 36 rfl, hfr.2.2.1 37 rfl, hfr.2.2.1 38 rfl]
      refine lv_iload C.1 C.2.1 dX12_readCard_44 (lv_at hl 4 rfl) ?_
      refine lv_bipush (v := 11) C.1 C.2.1 dX12_readCard_46 (by decide) ?_
      refine lv_icmp_ge (tgt := 73) C.1 C.2.1 dX12_readCard_48 (by decide) (fun c_191 => ?_) (fun c_191 => ?_)
      · replace c_191 : 11 ≤ w44_4.toInt := i_le c_191
        refine lv_iload_n C.1 C.2.1 dX12_readCard_73 rfl (lv_at hl 2 rfl) ?_
        refine lv_bipush (v := 7) C.1 C.2.1 dX12_readCard_74 (by decide) ?_
        refine lv_icmp_gt (tgt := 95) C.1 C.2.1 dX12_readCard_76 (by decide) (fun c_192 => ?_) (fun c_192 => ?_)
        · replace c_192 : 7 < w44_2.toInt := i_lt c_192
          exact L_95 t1 w44_2 w44_3 w44_4 _ _ _ hok hfr ⟨by omega, by omega⟩ ⟨by omega, by omega⟩ hP hD hS (lv_sub hl [0, 1, 2, 3, 4] rfl)
        · replace c_192 : w44_2.toInt ≤ 7 := i_nlt c_192
          refine lv_iload_n C.1 C.2.1 dX12_readCard_79 rfl (lv_at hl 3 rfl) ?_
          refine lv_sipush (v := 3999) C.1 C.2.1 dX12_readCard_80 (by decide) ?_
          refine lv_icmp_gt (tgt := 95) C.1 C.2.1 dX12_readCard_83 (by decide) (fun c_193 => ?_) (fun c_193 => ?_)
          · replace c_193 : 3999 < w44_3.toInt := i_lt c_193
            exact L_95 t1 w44_2 w44_3 w44_4 _ _ _ hok hfr ⟨by omega, by omega⟩ ⟨by omega, by omega⟩ hP hD hS (lv_sub hl [0, 1, 2, 3, 4] rfl)
          · replace c_193 : w44_3.toInt ≤ 3999 := i_nlt c_193
            refine lv_iload_n C.1 C.2.1 dX12_readCard_86 rfl (lv_at hl 3 rfl) ?_
            refine lv_iload_n C.1 C.2.1 dX12_readCard_87 rfl (lv_at hl 2 rfl) ?_
            obtain ⟨v_194, e_195⟩ : ∃ z, z = (w44_3 : Int32) + (w44_2 : Int32) := ⟨_, rfl⟩
            have h_196 : v_194.toInt = w44_3.toInt + w44_2.toInt := by rw [e_195]; exact ti_iadd (by show (_ : Int) ≤ w44_3.toInt + w44_2.toInt; omega) (by show w44_3.toInt + w44_2.toInt < (_ : Int); omega)
            refine k_iadd (v := v_194) C e_195.symm dX12_readCard_88 ?_
            refine lv_sipush (v := 4000) C.1 C.2.1 dX12_readCard_89 (by decide) ?_
            refine lv_icmp_le (tgt := 97) C.1 C.2.1 dX12_readCard_92 (by decide) (fun c_197 => ?_) (fun c_197 => ?_)
            · replace c_197 : v_194.toInt ≤ 4000 := i_le c_197
              refine lv_iconst (v := 0) C.1 C.2.1 dX12_readCard_97 (by decide) ?_
              refine lv_istore (lv' := [(4, .int 0), (0, .ref (ad 0)), (1, .int x1), (2, .int w44_2), (3, .int w44_3)]) C.1 C.2.1 dX12_readCard_98 hl (by decide) rfl (fun ls hl => ?_)
              have hl : lv_has ls 11 [(0, .ref (ad 0)), (1, .int x1), (2, .int w44_2), (3, .int w44_3), (4, .int 0)] := lv_sub hl [1, 2, 3, 4, 0] rfl
              exact L_100 8 t1 w44_2 w44_3 0 _ _ _ hok hfr ⟨by omega, by omega⟩ ⟨(i_rng _).1, by omega⟩ ⟨by decide, by decide⟩ (show 0 ≤ w44_3.toInt from by omega) (show w44_3.toInt ≤ 3999 from by omega) (show w44_3.toInt + w44_2.toInt ≤ 4000 from by omega) (show 0 ≤ w44_2.toInt from by omega) (show w44_2.toInt ≤ 7 from by omega) (show (7 : Int) - 0 < ((8 : Nat) : Int) from by omega) hP hD hS (lv_sub hl [0, 1, 2, 3, 4] rfl)
            · replace c_197 : 4000 < v_194.toInt := i_nle c_197
              exact L_95 t1 w44_2 w44_3 w44_4 _ _ _ hok hfr ⟨by omega, by omega⟩ ⟨by omega, by omega⟩ hP hD hS (lv_sub hl [0, 1, 2, 3, 4] rfl)
      · replace c_191 : w44_4.toInt < 11 := i_nle c_191
        refine lv_bipush (v := 10) C.1 C.2.1 dX12_readCard_51 (by decide) ?_
        refine lv_iload_n C.1 C.2.1 dX12_readCard_53 rfl (lv_at hl 3 rfl) ?_
        obtain ⟨v_198, e_199⟩ : ∃ z, z = (10 : Int32) * (w44_3 : Int32) := ⟨_, rfl⟩
        have h_200 : v_198.toInt = 10 * w44_3.toInt := by rw [e_199]; exact ti_mull (k := 10) (by decide) (by omega) (by omega)
        refine k_imul (v := v_198) C e_199.symm dX12_readCard_54 ?_
        refine lv_aload_n C.1 C.2.1 dX12_readCard_55 rfl (lv_at hl 0 rfl) ?_
        refine lv_iload_n C.1 C.2.1 dX12_readCard_56 rfl (lv_at hl 1 rfl) ?_
        refine lv_iload C.1 C.2.1 dX12_readCard_57 (lv_at hl 4 rfl) ?_
        refine g_Vi (As := [.int x1, .int w44_4]) (rest := [.int v_198]) C hP hD hS hA (T_X12_deckLetter l D K Z Y ad t1 hok (x1) (show (0 : Int) ≤ (x1 : Int32).toInt ∧ (x1 : Int32).toInt ≤ 1280 from ⟨by omega, by omega⟩) (w44_4) (show (1 : Int) ≤ (w44_4 : Int32).toInt ∧ (w44_4 : Int32).toInt ≤ 200 from ⟨by omega, by omega⟩)) hE hZ (uwV m_79_6 m_79_7 m_79_8 m_1_5 m_79_9) (hdV 2 (by decide +kernel) rfl) ⟨Nat.le_of_ble_eq_true rfl, Nat.le_of_ble_eq_true rfl⟩ rfl rfl (ci := 11) (q0 := 0) rfl rfl rfl hl.1 (Nat.le_of_ble_eq_true rfl) dX12_readCard_59 ⟨Nat.le_of_ble_eq_true rfl, Nat.le_of_ble_eq_true rfl⟩ (fun r_202 t_201 H locs hw hP hD hS => ?_)
        obtain ⟨h_204, h_205, p_206, p_207, p_208, p_209⟩ := hw
        replace p_206 : r_202 = fDeck t1 x1 w44_4 := p_206
        replace p_207 : r_202.toInt = (fDeck t1 x1 w44_4).toInt := p_207
        replace p_208 : ¬ r_202.toInt = 32 → (t1.2.2.1 37 (x1 : Int32).toNatClampNeg).toInt + w44_4.toInt ≤ (t1.2.2.1 38 (x1 : Int32).toNatClampNeg).toInt := p_208
        have h_210 : (t1.2.2.1 37 (x1 : Int32).toNatClampNeg).toInt = (t.2.2.1 37 (x1 : Int32).toNatClampNeg).toInt := tb_eq e_189 _
        have h_211 : (t1.2.2.1 38 (x1 : Int32).toNatClampNeg).toInt = (t.2.2.1 38 (x1 : Int32).toNatClampNeg).toInt := tb_eq e_190 _
        replace p_209 : 81 ≤ w44_4.toInt → r_202.toInt = 32 := p_209
        have hdg := hi44_0 w44_4 (by omega) (by omega)
        have hfe := ti_eq (hfd w44_4)
        obtain ⟨v_212, e_213⟩ : ∃ z, z = (v_198 : Int32) + (r_202 : Int32) := ⟨_, rfl⟩
        have h_214 : v_212.toInt = v_198.toInt + r_202.toInt := by rw [e_213]; exact ti_iadd (by show (_ : Int) ≤ v_198.toInt + r_202.toInt; omega) (by show v_198.toInt + r_202.toInt < (_ : Int); omega)
        refine k_iadd (v := v_212) C e_213.symm dX12_readCard_62 ?_
        refine lv_bipush (v := 48) C.1 C.2.1 dX12_readCard_63 (by decide) ?_
        obtain ⟨v_215, e_216⟩ : ∃ z, z = (v_212 : Int32) - (48 : Int32) := ⟨_, rfl⟩
        have h_217 : v_215.toInt = v_212.toInt - 48 := by rw [e_216]; exact ti_isub (by show (_ : Int) ≤ v_212.toInt - 48; omega) (by show v_212.toInt - 48 < (_ : Int); omega)
        refine k_isub (v := v_215) C e_216.symm dX12_readCard_65 ?_
        refine lv_istore_n (lv' := [(3, .int v_215), (0, .ref (ad 0)), (1, .int x1), (2, .int w44_2), (4, .int w44_4)]) C.1 C.2.1 dX12_readCard_66 rfl hl (by decide) rfl (fun ls hl => ?_)
        have hl : lv_has ls 11 [(0, .ref (ad 0)), (1, .int x1), (2, .int w44_2), (3, .int v_215), (4, .int w44_4)] := lv_sub hl [1, 2, 3, 0, 4] rfl
        obtain ⟨v_218, e_219⟩ : ∃ z, z = w44_4 + 1 := ⟨_, rfl⟩
        have h_220 : v_218.toInt = w44_4.toInt + 1 := by rw [e_219]; exact ti_iadd (by show (_ : Int) ≤ w44_4.toInt + 1; omega) (by show w44_4.toInt + 1 < (_ : Int); omega)
        refine lv_iinc (v := v_218) (lv' := [(4, .int v_218), (0, .ref (ad 0)), (1, .int x1), (2, .int w44_2), (3, .int v_215)]) C.1 C.2.1 dX12_readCard_67 hl (k := 4) rfl e_219.symm (by decide) rfl (fun ls hl => ?_)
        have hl : lv_has ls 11 [(0, .ref (ad 0)), (1, .int x1), (2, .int w44_2), (3, .int v_215), (4, .int v_218)] := lv_sub hl [1, 2, 3, 4, 0] rfl
        refine lv_goto (tgt := 44) C.1 C.2.1 dX12_readCard_70 (by decide) ?_
        exact ih_44 t1 w44_2 v_215 v_218 _ _ _ hok hfr ⟨by omega, by omega⟩ ⟨by omega, by omega⟩ (show ∀ c : Int32, 7 ≤ c.toInt → c.toInt < 11 → 48 ≤ (fDeck t x1 c).toInt ∧ (fDeck t x1 c).toInt ≤ 57 from by first | exact hi44_0 | exact hDG (by omega)) (show 0 ≤ v_215.toInt from by omega) (show v_218.toInt = 7 ∧ v_215.toInt = 0 ∨ v_218.toInt = 8 ∧ v_215.toInt ≤ 9 ∨ v_218.toInt = 9 ∧ v_215.toInt ≤ 99 ∨ v_218.toInt = 10 ∧ v_215.toInt ≤ 999 ∨ v_218.toInt = 11 ∧ v_215.toInt ≤ 9999 from by omega) (show 0 ≤ w44_2.toInt from by omega) (show w44_2.toInt ≤ 9 from by omega) (show (15 : Int) - v_218.toInt < (fuel_44 : Int) from by omega) hP hD hS (lv_sub hl [0, 1, 2, 3, 4] rfl)
  refine lv_aload_n C.1 C.2.1 dX12_readCard_0 rfl (lv_at hl 0 rfl) ?_
  refine lv_iload_n C.1 C.2.1 dX12_readCard_1 rfl (lv_at hl 1 rfl) ?_
  refine lv_bipush (v := 6) C.1 C.2.1 dX12_readCard_2 (by decide) ?_
  have h_221 : (6 : Int32).toInt = 6 := rfl
  refine g_Vi (As := [.int x1, .int 6]) (rest := []) C hP hD hS hA (T_X12_deckLetter l D K Z Y ad t hok (x1) (show (0 : Int) ≤ (x1 : Int32).toInt ∧ (x1 : Int32).toInt ≤ 1280 from ⟨by omega, by omega⟩) 6 (show (1 : Int) ≤ (6 : Int32).toInt ∧ (6 : Int32).toInt ≤ 200 from ⟨by decide, by decide⟩)) hE hZ (uwV m_79_6 m_79_7 m_79_8 m_1_5 m_79_9) (hdV 2 (by decide +kernel) rfl) ⟨Nat.le_of_ble_eq_true rfl, Nat.le_of_ble_eq_true rfl⟩ rfl rfl (ci := 11) (q0 := 0) rfl rfl rfl hl.1 (Nat.le_of_ble_eq_true rfl) dX12_readCard_4 ⟨Nat.le_of_ble_eq_true rfl, Nat.le_of_ble_eq_true rfl⟩ (fun r_223 t_222 H locs hw hP hD hS => ?_)
  obtain ⟨h_225, h_226, p_227, p_228, p_229, p_230⟩ := hw
  replace p_227 : r_223 = fDeck t x1 (6 : Int32) := p_227
  replace p_228 : r_223.toInt = (fDeck t x1 (6 : Int32)).toInt := p_228
  replace p_229 : ¬ r_223.toInt = 32 → (t.2.2.1 37 (x1 : Int32).toNatClampNeg).toInt + (6 : Int32).toInt ≤ (t.2.2.1 38 (x1 : Int32).toNatClampNeg).toInt := p_229
  replace p_230 : 81 ≤ (6 : Int32).toInt → r_223.toInt = 32 := p_230
  refine g_Si (As := [.int r_223]) (rest := []) C hP hD hS hA (T_X12_isDigit l D K Z Y ad t hok (r_223) (show (0 : Int) ≤ (r_223 : Int32).toInt ∧ (r_223 : Int32).toInt ≤ 255 from ⟨by omega, by omega⟩)) hE hZ (uwS m_32_15 m_32_16 m_1_5 m_32_17) (hdS 1 (by decide +kernel) rfl) ⟨Nat.le_of_ble_eq_true rfl, Nat.le_of_ble_eq_true rfl⟩ rfl rfl rfl hl.1 (Nat.le_of_ble_eq_true rfl) dX12_readCard_7 ⟨Nat.le_of_ble_eq_true rfl, Nat.le_of_ble_eq_true rfl⟩ (fun r_232 t_231 H locs hw hP hD hS => ?_)
  obtain ⟨h_234, h_235, p_236⟩ := hw
  replace p_236 : r_232.toInt = 1 → 48 ≤ r_223.toInt ∧ r_223.toInt ≤ 57 := p_236
  refine lv_if_eq (tgt := 25) C.1 C.2.1 dX12_readCard_10 (by decide) (fun c_237 => ?_) (fun c_237 => ?_)
  · replace c_237 : r_232.toInt = 0 := i_eq c_237
    refine lv_iconst (v := (-1)) C.1 C.2.1 dX12_readCard_25 (by decide) ?_
    exact g_iret C hr hlocks hP hD hS rfl t rfl ⟨hok, hfr, by decide, by decide⟩ (Nat.le_of_ble_eq_true rfl) (Nat.le_of_ble_eq_true rfl) dX12_readCard_26
  · replace c_237 : ¬ r_232.toInt = 0 := i_ne c_237
    refine lv_aload_n C.1 C.2.1 dX12_readCard_13 rfl (lv_at hl 0 rfl) ?_
    refine lv_iload_n C.1 C.2.1 dX12_readCard_14 rfl (lv_at hl 1 rfl) ?_
    refine lv_bipush (v := 7) C.1 C.2.1 dX12_readCard_15 (by decide) ?_
    refine lv_bipush (v := 11) C.1 C.2.1 dX12_readCard_17 (by decide) ?_
    have h_238 : (7 : Int32).toInt = 7 := rfl
    have h_239 : (11 : Int32).toInt = 11 := rfl
    refine g_Vi (As := [.int x1, .int 7, .int 11]) (rest := []) C hP hD hS hA (T_X12_areDigits l D K Z Y ad t hok (x1) (show (2 : Int) ≤ (x1 : Int32).toInt ∧ (x1 : Int32).toInt ≤ 1279 from ⟨by omega, by omega⟩) 7 (show (7 : Int) ≤ (7 : Int32).toInt ∧ (7 : Int32).toInt ≤ 72 from ⟨by decide, by decide⟩) 11 (show (11 : Int) ≤ (11 : Int32).toInt ∧ (11 : Int32).toInt ≤ 80 from ⟨by decide, by decide⟩)) hE hZ (uwV m_80_11 m_80_12 m_80_13 m_1_5 m_80_14) (hdV 3 (by decide +kernel) rfl) ⟨Nat.le_of_ble_eq_true rfl, Nat.le_of_ble_eq_true rfl⟩ rfl rfl (ci := 11) (q0 := 0) rfl rfl rfl hl.1 (Nat.le_of_ble_eq_true rfl) dX12_readCard_19 ⟨Nat.le_of_ble_eq_true rfl, Nat.le_of_ble_eq_true rfl⟩ (fun r_241 t_240 H locs hw hP hD hS => ?_)
    obtain ⟨h_243, h_244, p_245⟩ := hw
    replace p_245 : r_241.toInt = 1 → ∀ c : Int32, (7 : Int32).toInt ≤ c.toInt → c.toInt < (11 : Int32).toInt → 48 ≤ (fDeck t x1 c).toInt ∧ (fDeck t x1 c).toInt ≤ 57 := p_245
    have hDG := p_245
    refine lv_if_ne (tgt := 27) C.1 C.2.1 dX12_readCard_22 (by decide) (fun c_246 => ?_) (fun c_246 => ?_)
    · replace c_246 : ¬ r_241.toInt = 0 := i_ne c_246
      refine lv_aload_n C.1 C.2.1 dX12_readCard_27 rfl (lv_at hl 0 rfl) ?_
      refine lv_iload_n C.1 C.2.1 dX12_readCard_28 rfl (lv_at hl 1 rfl) ?_
      refine lv_bipush (v := 6) C.1 C.2.1 dX12_readCard_29 (by decide) ?_
      refine g_Vi (As := [.int x1, .int 6]) (rest := []) C hP hD hS hA (T_X12_deckLetter l D K Z Y ad t hok (x1) (show (0 : Int) ≤ (x1 : Int32).toInt ∧ (x1 : Int32).toInt ≤ 1280 from ⟨by omega, by omega⟩) 6 (show (1 : Int) ≤ (6 : Int32).toInt ∧ (6 : Int32).toInt ≤ 200 from ⟨by decide, by decide⟩)) hE hZ (uwV m_79_6 m_79_7 m_79_8 m_1_5 m_79_9) (hdV 2 (by decide +kernel) rfl) ⟨Nat.le_of_ble_eq_true rfl, Nat.le_of_ble_eq_true rfl⟩ rfl rfl (ci := 11) (q0 := 0) rfl rfl rfl hl.1 (Nat.le_of_ble_eq_true rfl) dX12_readCard_31 ⟨Nat.le_of_ble_eq_true rfl, Nat.le_of_ble_eq_true rfl⟩ (fun r_248 t_247 H locs hw hP hD hS => ?_)
      obtain ⟨h_250, h_251, p_252, p_253, p_254, p_255⟩ := hw
      replace p_252 : r_248 = fDeck t x1 (6 : Int32) := p_252
      replace p_253 : r_248.toInt = (fDeck t x1 (6 : Int32)).toInt := p_253
      replace p_254 : ¬ r_248.toInt = 32 → (t.2.2.1 37 (x1 : Int32).toNatClampNeg).toInt + (6 : Int32).toInt ≤ (t.2.2.1 38 (x1 : Int32).toNatClampNeg).toInt := p_254
      replace p_255 : 81 ≤ (6 : Int32).toInt → r_248.toInt = 32 := p_255
      refine lv_bipush (v := 48) C.1 C.2.1 dX12_readCard_34 (by decide) ?_
      obtain ⟨v_256, e_257⟩ : ∃ z, z = (r_248 : Int32) - (48 : Int32) := ⟨_, rfl⟩
      have h_258 : v_256.toInt = r_248.toInt - 48 := by rw [e_257]; exact ti_isub (by show (_ : Int) ≤ r_248.toInt - 48; omega) (by show r_248.toInt - 48 < (_ : Int); omega)
      refine k_isub (v := v_256) C e_257.symm dX12_readCard_36 ?_
      refine lv_istore_n (lv' := [(2, .int v_256), (0, .ref (ad 0)), (1, .int x1)]) C.1 C.2.1 dX12_readCard_37 rfl hl (by decide) rfl (fun ls hl => ?_)
      have hl : lv_has ls 11 [(0, .ref (ad 0)), (1, .int x1), (2, .int v_256)] := lv_sub hl [1, 2, 0] rfl
      refine lv_iconst (v := 0) C.1 C.2.1 dX12_readCard_38 (by decide) ?_
      refine lv_istore_n (lv' := [(3, .int 0), (0, .ref (ad 0)), (1, .int x1), (2, .int v_256)]) C.1 C.2.1 dX12_readCard_39 rfl hl (by decide) rfl (fun ls hl => ?_)
      have hl : lv_has ls 11 [(0, .ref (ad 0)), (1, .int x1), (2, .int v_256), (3, .int 0)] := lv_sub hl [1, 2, 3, 0] rfl
      refine lv_bipush (v := 7) C.1 C.2.1 dX12_readCard_40 (by decide) ?_
      refine lv_istore (lv' := [(4, .int 7), (0, .ref (ad 0)), (1, .int x1), (2, .int v_256), (3, .int 0)]) C.1 C.2.1 dX12_readCard_42 hl (by decide) rfl (fun ls hl => ?_)
      have hl : lv_has ls 11 [(0, .ref (ad 0)), (1, .int x1), (2, .int v_256), (3, .int 0), (4, .int 7)] := lv_sub hl [1, 2, 3, 4, 0] rfl
      exact L_44 9 t v_256 0 7 _ _ _ hok hfr ⟨by omega, by omega⟩ ⟨by decide, by decide⟩ (show ∀ c : Int32, 7 ≤ c.toInt → c.toInt < 11 → 48 ≤ (fDeck t x1 c).toInt ∧ (fDeck t x1 c).toInt ≤ 57 from by first | exact hi44_0 | exact hDG (by omega)) (show 0 ≤ 0 from by omega) (show 7 = 7 ∧ 0 = 0 ∨ 7 = 8 ∧ 0 ≤ 9 ∨ 7 = 9 ∧ 0 ≤ 99 ∨ 7 = 10 ∧ 0 ≤ 999 ∨ 7 = 11 ∧ 0 ≤ 9999 from by omega) (show 0 ≤ v_256.toInt from by omega) (show v_256.toInt ≤ 9 from by omega) (show (15 : Int) - 7 < ((9 : Nat) : Int) from by omega) hP hD hS (lv_sub hl [0, 1, 2, 3, 4] rfl)
    · replace c_246 : r_241.toInt = 0 := i_eq c_246
      refine lv_iconst (v := (-1)) C.1 C.2.1 dX12_readCard_25 (by decide) ?_
      exact g_iret C hr hlocks hP hD hS rfl t rfl ⟨hok, hfr, by decide, by decide⟩ (Nat.le_of_ble_eq_true rfl) (Nat.le_of_ble_eq_true rfl) dX12_readCard_26

theorem dX12_areColumns_0 : decode cX12_areColumns 0 = .ok (.aload_n 0, 1) := by decide +kernel
theorem dX12_areColumns_1 : decode cX12_areColumns 1 = .ok (.iconst 1, 1) := by decide +kernel
theorem dX12_areColumns_10 : decode cX12_areColumns 10 = .ok (.aload_n 0, 1) := by decide +kernel
theorem dX12_areColumns_11 : decode cX12_areColumns 11 = .ok (.iconst 1, 1) := by decide +kernel
theorem dX12_areColumns_12 : decode cX12_areColumns 12 = .ok (.bipush 10, 2) := by decide +kernel
theorem dX12_areColumns_14 : decode cX12_areColumns 14 = .ok (.invokevirtual 575, 3) := by decide +kernel
theorem dX12_areColumns_17 : decode cX12_areColumns 17 = .ok (.istore_n 1, 1) := by decide +kernel
theorem dX12_areColumns_18 : decode cX12_areColumns 18 = .ok (.iload_n 1, 1) := by decide +kernel
theorem dX12_areColumns_19 : decode cX12_areColumns 19 = .ok (.ifCond .eq 12, 3) := by decide +kernel
theorem dX12_areColumns_2 : decode cX12_areColumns 2 = .ok (.bipush 10, 2) := by decide +kernel
theorem dX12_areColumns_22 : decode cX12_areColumns 22 = .ok (.aload_n 0, 1) := by decide +kernel
theorem dX12_areColumns_23 : decode cX12_areColumns 23 = .ok (.iconst 1, 1) := by decide +kernel
theorem dX12_areColumns_24 : decode cX12_areColumns 24 = .ok (.iload_n 1, 1) := by decide +kernel
theorem dX12_areColumns_25 : decode cX12_areColumns 25 = .ok (.invokevirtual 500, 3) := by decide +kernel
theorem dX12_areColumns_28 : decode cX12_areColumns 28 = .ok (.ifCond .ne 5, 3) := by decide +kernel
theorem dX12_areColumns_31 : decode cX12_areColumns 31 = .ok (.iconst 0, 1) := by decide +kernel
theorem dX12_areColumns_32 : decode cX12_areColumns 32 = .ok (.ireturn, 1) := by decide +kernel
theorem dX12_areColumns_33 : decode cX12_areColumns 33 = .ok (.aload_n 0, 1) := by decide +kernel
theorem dX12_areColumns_34 : decode cX12_areColumns 34 = .ok (.iconst 1, 1) := by decide +kernel
theorem dX12_areColumns_35 : decode cX12_areColumns 35 = .ok (.iload_n 1, 1) := by decide +kernel
theorem dX12_areColumns_36 : decode cX12_areColumns 36 = .ok (.invokevirtual 481, 3) := by decide +kernel
theorem dX12_areColumns_39 : decode cX12_areColumns 39 = .ok (.istore_n 2, 1) := by decide +kernel
theorem dX12_areColumns_4 : decode cX12_areColumns 4 = .ok (.invokevirtual 449, 3) := by decide +kernel
theorem dX12_areColumns_40 : decode cX12_areColumns 40 = .ok (.iload_n 2, 1) := by decide +kernel
theorem dX12_areColumns_41 : decode cX12_areColumns 41 = .ok (.bipush 66, 2) := by decide +kernel
theorem dX12_areColumns_43 : decode cX12_areColumns 43 = .ok (.if_icmp .eq 9, 3) := by decide +kernel
theorem dX12_areColumns_46 : decode cX12_areColumns 46 = .ok (.iload_n 2, 1) := by decide +kernel
theorem dX12_areColumns_47 : decode cX12_areColumns 47 = .ok (.bipush 70, 2) := by decide +kernel
theorem dX12_areColumns_49 : decode cX12_areColumns 49 = .ok (.if_icmp .ne 5, 3) := by decide +kernel
theorem dX12_areColumns_52 : decode cX12_areColumns 52 = .ok (.iconst 0, 1) := by decide +kernel
theorem dX12_areColumns_53 : decode cX12_areColumns 53 = .ok (.ireturn, 1) := by decide +kernel
theorem dX12_areColumns_54 : decode cX12_areColumns 54 = .ok (.aload_n 0, 1) := by decide +kernel
theorem dX12_areColumns_55 : decode cX12_areColumns 55 = .ok (.bipush 12, 2) := by decide +kernel
theorem dX12_areColumns_57 : decode cX12_areColumns 57 = .ok (.bipush 15, 2) := by decide +kernel
theorem dX12_areColumns_59 : decode cX12_areColumns 59 = .ok (.invokevirtual 449, 3) := by decide +kernel
theorem dX12_areColumns_62 : decode cX12_areColumns 62 = .ok (.ifCond .ne 14, 3) := by decide +kernel
theorem dX12_areColumns_65 : decode cX12_areColumns 65 = .ok (.aload_n 0, 1) := by decide +kernel
theorem dX12_areColumns_66 : decode cX12_areColumns 66 = .ok (.bipush 12, 2) := by decide +kernel
theorem dX12_areColumns_68 : decode cX12_areColumns 68 = .ok (.bipush 15, 2) := by decide +kernel
theorem dX12_areColumns_7 : decode cX12_areColumns 7 = .ok (.ifCond .ne 47, 3) := by decide +kernel
theorem dX12_areColumns_70 : decode cX12_areColumns 70 = .ok (.invokevirtual 575, 3) := by decide +kernel
theorem dX12_areColumns_73 : decode cX12_areColumns 73 = .ok (.ifCond .le 7, 3) := by decide +kernel
theorem dX12_areColumns_76 : decode cX12_areColumns 76 = .ok (.iconst 1, 1) := by decide +kernel
theorem dX12_areColumns_77 : decode cX12_areColumns 77 = .ok (.goto 4, 3) := by decide +kernel
theorem dX12_areColumns_80 : decode cX12_areColumns 80 = .ok (.iconst 0, 1) := by decide +kernel
theorem dX12_areColumns_81 : decode cX12_areColumns 81 = .ok (.ireturn, 1) := by decide +kernel
set_option maxHeartbeats 4000000 in
set_option maxRecDepth 100000 in
theorem T_X12_areColumns (l : Launch) (D : va_G) (K : Nat → ClassId) (Z Y : Nat → Nat) (ad : Nat → Nat) (t : tSt) (hok : okM t)  : tMet l yX12_areColumns cX12_areColumns 3 (some .boolean) (rmD 10 0 0) D K Z Y [.ref (ad 0)] (WM K ad t) (QI D K (fun (r : Int32) (u : Unit) => (0 : Int) ≤ r.toInt ∧ r.toInt ≤ 1) (fun (_ : Unit) => WM K ad t)) 0 0 := by
  refine t_met RX12 ⟨rfl, by decide +kernel⟩ (Nat.le_of_ble_eq_true rfl) ?_
  intro p e s m below meth c A ls C hE hZ hr hlocks hA hP hD hS hl
  have hl : lv_has ls 3 [(0, .ref (ad 0))] := hl
  have h_1 : (0 : Int) ≤ (t.1 0 67).toInt ∧ (t.1 0 67).toInt ≤ 1281 := hok.1 0 67
  have L_54 : ∀  (H : Heap) (locs : List Loc) (ls : Array Slot), va_P D vwCl (WM K ad t) H → va_D A (WM K ad t) → va_S A s.heap H locs → lv_has ls 3 [(0, .ref (ad 0))] → W p l e (rmD 10 0 0) s m [.ref (ad 0)].toArray below meth c H locs 0 0 (MQ below (QI D K (fun (r : Int32) (u : Unit) => (0 : Int) ≤ r.toInt ∧ r.toInt ≤ 1) (fun (_ : Unit) => WM K ad t) A) [.ref (ad 0)].toArray s 0 0 A) (F0 m 54 ls []) := by
    intro  H locs ls  hP hD hS hl
    have h_2 : (0 : Int) ≤ (t.1 0 67).toInt ∧ (t.1 0 67).toInt ≤ 1281 := hok.1 0 67
    refine lv_aload_n C.1 C.2.1 dX12_areColumns_54 rfl (lv_at hl 0 rfl) ?_
    refine lv_bipush (v := 12) C.1 C.2.1 dX12_areColumns_55 (by decide) ?_
    refine lv_bipush (v := 15) C.1 C.2.1 dX12_areColumns_57 (by decide) ?_
    have h_3 : (12 : Int32).toInt = 12 := rfl
    refine g_Vi (As := [.int 12, .int 15]) (rest := []) C hP hD hS hA (T_X12_isBlank l D K Z Y ad t hok 12 (show (1 : Int) ≤ (12 : Int32).toInt ∧ (12 : Int32).toInt ≤ 16 from ⟨by decide, by decide⟩) 15 (show (10 : Int) ≤ (15 : Int32).toInt ∧ (15 : Int32).toInt ≤ 15 from ⟨by decide, by decide⟩)) hE hZ (uwV m_31_20 m_31_21 m_31_22 m_1_5 m_31_23) (hdV 2 (by decide +kernel) rfl) ⟨Nat.le_of_ble_eq_true rfl, Nat.le_of_ble_eq_true rfl⟩ rfl rfl (ci := 11) (q0 := 0) rfl rfl rfl hl.1 (Nat.le_of_ble_eq_true rfl) dX12_areColumns_59 ⟨Nat.le_of_ble_eq_true rfl, Nat.le_of_ble_eq_true rfl⟩ (fun r_5 t_4 H locs hw hP hD hS => ?_)
    obtain ⟨h_7, h_8, p_9⟩ := hw
    replace p_9 : r_5.toInt = 0 → (t.2.2.1 19 ((t.1 0 67) : Int32).toNatClampNeg).toInt + (12 : Int32).toInt ≤ (t.2.2.1 20 ((t.1 0 67) : Int32).toNatClampNeg).toInt := p_9
    refine lv_if_ne (tgt := 76) C.1 C.2.1 dX12_areColumns_62 (by decide) (fun c_10 => ?_) (fun c_10 => ?_)
    · replace c_10 : ¬ r_5.toInt = 0 := i_ne c_10
      refine lv_iconst (v := 1) C.1 C.2.1 dX12_areColumns_76 (by decide) ?_
      refine lv_goto (tgt := 81) C.1 C.2.1 dX12_areColumns_77 (by decide) ?_
      exact g_iret C hr hlocks hP hD hS (by decide) () rfl ⟨by decide, by decide⟩ (Nat.le_of_ble_eq_true rfl) (Nat.le_of_ble_eq_true rfl) dX12_areColumns_81
    · replace c_10 : r_5.toInt = 0 := i_eq c_10
      refine lv_aload_n C.1 C.2.1 dX12_areColumns_65 rfl (lv_at hl 0 rfl) ?_
      refine lv_bipush (v := 12) C.1 C.2.1 dX12_areColumns_66 (by decide) ?_
      refine lv_bipush (v := 15) C.1 C.2.1 dX12_areColumns_68 (by decide) ?_
      have h_11 : (15 : Int32).toInt = 15 := rfl
      refine g_Vi (As := [.int 12, .int 15]) (rest := []) C hP hD hS hA (T_X12_endOf l D K Z Y ad t hok 12 (show (1 : Int) ≤ (12 : Int32).toInt ∧ (12 : Int32).toInt ≤ 15 from ⟨by decide, by decide⟩) 15 (show (10 : Int) ≤ (15 : Int32).toInt ∧ (15 : Int32).toInt ≤ 15 from ⟨by decide, by decide⟩) (show (15 : Int32).toInt ≤ 15 from by omega)) hE hZ (uwV m_32_4 m_32_5 m_32_6 m_1_5 m_32_7) (hdV 2 (by decide +kernel) rfl) ⟨Nat.le_of_ble_eq_true rfl, Nat.le_of_ble_eq_true rfl⟩ rfl rfl (ci := 11) (q0 := 0) rfl rfl rfl hl.1 (Nat.le_of_ble_eq_true rfl) dX12_areColumns_70 ⟨Nat.le_of_ble_eq_true rfl, Nat.le_of_ble_eq_true rfl⟩ (fun r_13 t_12 H locs hw hP hD hS => ?_)
      obtain ⟨h_15, h_16⟩ := hw
      refine lv_if_le (tgt := 80) C.1 C.2.1 dX12_areColumns_73 (by decide) (fun c_17 => ?_) (fun c_17 => ?_)
      · replace c_17 : r_13.toInt ≤ 0 := i_le c_17
        refine lv_iconst (v := 0) C.1 C.2.1 dX12_areColumns_80 (by decide) ?_
        exact g_iret C hr hlocks hP hD hS (by decide) () rfl ⟨by decide, by decide⟩ (Nat.le_of_ble_eq_true rfl) (Nat.le_of_ble_eq_true rfl) dX12_areColumns_81
      · replace c_17 : 0 < r_13.toInt := i_nle c_17
        refine lv_iconst (v := 1) C.1 C.2.1 dX12_areColumns_76 (by decide) ?_
        refine lv_goto (tgt := 81) C.1 C.2.1 dX12_areColumns_77 (by decide) ?_
        exact g_iret C hr hlocks hP hD hS (by decide) () rfl ⟨by decide, by decide⟩ (Nat.le_of_ble_eq_true rfl) (Nat.le_of_ble_eq_true rfl) dX12_areColumns_81
  refine lv_aload_n C.1 C.2.1 dX12_areColumns_0 rfl (lv_at hl 0 rfl) ?_
  refine lv_iconst (v := 1) C.1 C.2.1 dX12_areColumns_1 (by decide) ?_
  refine lv_bipush (v := 10) C.1 C.2.1 dX12_areColumns_2 (by decide) ?_
  have h_18 : (1 : Int32).toInt = 1 := rfl
  refine g_Vi (As := [.int 1, .int 10]) (rest := []) C hP hD hS hA (T_X12_isBlank l D K Z Y ad t hok 1 (show (1 : Int) ≤ (1 : Int32).toInt ∧ (1 : Int32).toInt ≤ 16 from ⟨by decide, by decide⟩) 10 (show (10 : Int) ≤ (10 : Int32).toInt ∧ (10 : Int32).toInt ≤ 15 from ⟨by decide, by decide⟩)) hE hZ (uwV m_31_20 m_31_21 m_31_22 m_1_5 m_31_23) (hdV 2 (by decide +kernel) rfl) ⟨Nat.le_of_ble_eq_true rfl, Nat.le_of_ble_eq_true rfl⟩ rfl rfl (ci := 11) (q0 := 0) rfl rfl rfl hl.1 (Nat.le_of_ble_eq_true rfl) dX12_areColumns_4 ⟨Nat.le_of_ble_eq_true rfl, Nat.le_of_ble_eq_true rfl⟩ (fun r_20 t_19 H locs hw hP hD hS => ?_)
  obtain ⟨h_22, h_23, p_24⟩ := hw
  replace p_24 : r_20.toInt = 0 → (t.2.2.1 19 ((t.1 0 67) : Int32).toNatClampNeg).toInt + (1 : Int32).toInt ≤ (t.2.2.1 20 ((t.1 0 67) : Int32).toNatClampNeg).toInt := p_24
  refine lv_if_ne (tgt := 54) C.1 C.2.1 dX12_areColumns_7 (by decide) (fun c_25 => ?_) (fun c_25 => ?_)
  · replace c_25 : ¬ r_20.toInt = 0 := i_ne c_25
    exact L_54  _ _ _  hP hD hS (lv_sub hl [0] rfl)
  · replace c_25 : r_20.toInt = 0 := i_eq c_25
    refine lv_aload_n C.1 C.2.1 dX12_areColumns_10 rfl (lv_at hl 0 rfl) ?_
    refine lv_iconst (v := 1) C.1 C.2.1 dX12_areColumns_11 (by decide) ?_
    refine lv_bipush (v := 10) C.1 C.2.1 dX12_areColumns_12 (by decide) ?_
    have h_26 : (10 : Int32).toInt = 10 := rfl
    refine g_Vi (As := [.int 1, .int 10]) (rest := []) C hP hD hS hA (T_X12_endOf l D K Z Y ad t hok 1 (show (1 : Int) ≤ (1 : Int32).toInt ∧ (1 : Int32).toInt ≤ 15 from ⟨by decide, by decide⟩) 10 (show (10 : Int) ≤ (10 : Int32).toInt ∧ (10 : Int32).toInt ≤ 15 from ⟨by decide, by decide⟩) (show (10 : Int32).toInt ≤ 15 from by omega)) hE hZ (uwV m_32_4 m_32_5 m_32_6 m_1_5 m_32_7) (hdV 2 (by decide +kernel) rfl) ⟨Nat.le_of_ble_eq_true rfl, Nat.le_of_ble_eq_true rfl⟩ rfl rfl (ci := 11) (q0 := 0) rfl rfl rfl hl.1 (Nat.le_of_ble_eq_true rfl) dX12_areColumns_14 ⟨Nat.le_of_ble_eq_true rfl, Nat.le_of_ble_eq_true rfl⟩ (fun r_28 t_27 H locs hw hP hD hS => ?_)
    obtain ⟨h_30, h_31⟩ := hw
    refine lv_istore_n (lv' := [(1, .int r_28), (0, .ref (ad 0))]) C.1 C.2.1 dX12_areColumns_17 rfl hl (by decide) rfl (fun ls hl => ?_)
    have hl : lv_has ls 3 [(0, .ref (ad 0)), (1, .int r_28)] := lv_sub hl [1, 0] rfl
    refine lv_iload_n C.1 C.2.1 dX12_areColumns_18 rfl (lv_at hl 1 rfl) ?_
    refine lv_if_eq (tgt := 31) C.1 C.2.1 dX12_areColumns_19 (by decide) (fun c_32 => ?_) (fun c_32 => ?_)
    · replace c_32 : r_28.toInt = 0 := i_eq c_32
      refine lv_iconst (v := 0) C.1 C.2.1 dX12_areColumns_31 (by decide) ?_
      exact g_iret C hr hlocks hP hD hS (by decide) () rfl ⟨by decide, by decide⟩ (Nat.le_of_ble_eq_true rfl) (Nat.le_of_ble_eq_true rfl) dX12_areColumns_32
    · replace c_32 : ¬ r_28.toInt = 0 := i_ne c_32
      refine lv_aload_n C.1 C.2.1 dX12_areColumns_22 rfl (lv_at hl 0 rfl) ?_
      refine lv_iconst (v := 1) C.1 C.2.1 dX12_areColumns_23 (by decide) ?_
      refine lv_iload_n C.1 C.2.1 dX12_areColumns_24 rfl (lv_at hl 1 rfl) ?_
      refine g_Vi (As := [.int 1, .int r_28]) (rest := []) C hP hD hS hA (T_X12_isName l D K Z Y ad t hok 1 (show (1 : Int) ≤ (1 : Int32).toInt ∧ (1 : Int32).toInt ≤ 81 from ⟨by decide, by decide⟩) (r_28) (show (0 : Int) ≤ (r_28 : Int32).toInt ∧ (r_28 : Int32).toInt ≤ 81 from ⟨by omega, by omega⟩)) hE hZ (uwV m_32_8 m_32_9 m_32_10 m_1_5 m_32_11) (hdV 2 (by decide +kernel) rfl) ⟨Nat.le_of_ble_eq_true rfl, Nat.le_of_ble_eq_true rfl⟩ rfl rfl (ci := 11) (q0 := 0) rfl rfl rfl hl.1 (Nat.le_of_ble_eq_true rfl) dX12_areColumns_25 ⟨Nat.le_of_ble_eq_true rfl, Nat.le_of_ble_eq_true rfl⟩ (fun r_34 t_33 H locs hw hP hD hS => ?_)
      obtain ⟨h_36, h_37⟩ := hw
      refine lv_if_ne (tgt := 33) C.1 C.2.1 dX12_areColumns_28 (by decide) (fun c_38 => ?_) (fun c_38 => ?_)
      · replace c_38 : ¬ r_34.toInt = 0 := i_ne c_38
        refine lv_aload_n C.1 C.2.1 dX12_areColumns_33 rfl (lv_at hl 0 rfl) ?_
        refine lv_iconst (v := 1) C.1 C.2.1 dX12_areColumns_34 (by decide) ?_
        refine lv_iload_n C.1 C.2.1 dX12_areColumns_35 rfl (lv_at hl 1 rfl) ?_
        refine g_Vi (As := [.int 1, .int r_28]) (rest := []) C hP hD hS hA (T_X12_localKind l D K Z Y ad t hok 1 (show (1 : Int) ≤ (1 : Int32).toInt ∧ (1 : Int32).toInt ≤ 81 from ⟨by decide, by decide⟩) (r_28) (show (0 : Int) ≤ (r_28 : Int32).toInt ∧ (r_28 : Int32).toInt ≤ 81 from ⟨by omega, by omega⟩)) hE hZ (uwV m_32_18 m_32_19 m_32_20 m_1_5 m_32_21) (hdV 2 (by decide +kernel) rfl) ⟨Nat.le_of_ble_eq_true rfl, Nat.le_of_ble_eq_true rfl⟩ rfl rfl (ci := 11) (q0 := 0) rfl rfl rfl hl.1 (Nat.le_of_ble_eq_true rfl) dX12_areColumns_36 ⟨Nat.le_of_ble_eq_true rfl, Nat.le_of_ble_eq_true rfl⟩ (fun r_40 t_39 H locs hw hP hD hS => ?_)
        obtain ⟨h_42, h_43, p_44⟩ := hw
        replace p_44 : ¬ r_40.toInt = 0 → 48 ≤ (fLet t (1 : Int32)).toInt ∧ (fLet t (1 : Int32)).toInt ≤ 57 := p_44
        refine lv_istore_n (lv' := [(2, .int r_40), (0, .ref (ad 0)), (1, .int r_28)]) C.1 C.2.1 dX12_areColumns_39 rfl hl (by decide) rfl (fun ls hl => ?_)
        have hl : lv_has ls 3 [(0, .ref (ad 0)), (1, .int r_28), (2, .int r_40)] := lv_sub hl [1, 2, 0] rfl
        refine lv_iload_n C.1 C.2.1 dX12_areColumns_40 rfl (lv_at hl 2 rfl) ?_
        refine lv_bipush (v := 66) C.1 C.2.1 dX12_areColumns_41 (by decide) ?_
        refine lv_icmp_eq (tgt := 52) C.1 C.2.1 dX12_areColumns_43 (by decide) (fun c_45 => ?_) (fun c_45 => ?_)
        · replace c_45 : r_40.toInt = 66 := i_eq c_45
          refine lv_iconst (v := 0) C.1 C.2.1 dX12_areColumns_52 (by decide) ?_
          exact g_iret C hr hlocks hP hD hS (by decide) () rfl ⟨by decide, by decide⟩ (Nat.le_of_ble_eq_true rfl) (Nat.le_of_ble_eq_true rfl) dX12_areColumns_53
        · replace c_45 : ¬ r_40.toInt = 66 := i_ne c_45
          refine lv_iload_n C.1 C.2.1 dX12_areColumns_46 rfl (lv_at hl 2 rfl) ?_
          refine lv_bipush (v := 70) C.1 C.2.1 dX12_areColumns_47 (by decide) ?_
          refine lv_icmp_ne (tgt := 54) C.1 C.2.1 dX12_areColumns_49 (by decide) (fun c_46 => ?_) (fun c_46 => ?_)
          · replace c_46 : ¬ r_40.toInt = 70 := i_ne c_46
            exact L_54  _ _ _  hP hD hS (lv_sub hl [0] rfl)
          · replace c_46 : r_40.toInt = 70 := i_eq c_46
            refine lv_iconst (v := 0) C.1 C.2.1 dX12_areColumns_52 (by decide) ?_
            exact g_iret C hr hlocks hP hD hS (by decide) () rfl ⟨by decide, by decide⟩ (Nat.le_of_ble_eq_true rfl) (Nat.le_of_ble_eq_true rfl) dX12_areColumns_53
      · replace c_38 : r_34.toInt = 0 := i_eq c_38
        refine lv_iconst (v := 0) C.1 C.2.1 dX12_areColumns_31 (by decide) ?_
        exact g_iret C hr hlocks hP hD hS (by decide) () rfl ⟨by decide, by decide⟩ (Nat.le_of_ble_eq_true rfl) (Nat.le_of_ble_eq_true rfl) dX12_areColumns_32

theorem dX12_isThere_0 : decode cX12_isThere 0 = .ok (.aload_n 0, 1) := by decide +kernel
theorem dX12_isThere_1 : decode cX12_isThere 1 = .ok (.iconst 1, 1) := by decide +kernel
theorem dX12_isThere_10 : decode cX12_isThere 10 = .ok (.aload_n 0, 1) := by decide +kernel
theorem dX12_isThere_11 : decode cX12_isThere 11 = .ok (.iconst 1, 1) := by decide +kernel
theorem dX12_isThere_12 : decode cX12_isThere 12 = .ok (.aload_n 0, 1) := by decide +kernel
theorem dX12_isThere_13 : decode cX12_isThere 13 = .ok (.iconst 1, 1) := by decide +kernel
theorem dX12_isThere_14 : decode cX12_isThere 14 = .ok (.bipush 10, 2) := by decide +kernel
theorem dX12_isThere_16 : decode cX12_isThere 16 = .ok (.invokevirtual 575, 3) := by decide +kernel
theorem dX12_isThere_19 : decode cX12_isThere 19 = .ok (.invokevirtual 481, 3) := by decide +kernel
theorem dX12_isThere_2 : decode cX12_isThere 2 = .ok (.bipush 10, 2) := by decide +kernel
theorem dX12_isThere_22 : decode cX12_isThere 22 = .ok (.ifCond .eq 5, 3) := by decide +kernel
theorem dX12_isThere_25 : decode cX12_isThere 25 = .ok (.iconst 0, 1) := by decide +kernel
theorem dX12_isThere_26 : decode cX12_isThere 26 = .ok (.ireturn, 1) := by decide +kernel
theorem dX12_isThere_27 : decode cX12_isThere 27 = .ok (.aload_n 0, 1) := by decide +kernel
theorem dX12_isThere_28 : decode cX12_isThere 28 = .ok (.aload_n 0, 1) := by decide +kernel
theorem dX12_isThere_29 : decode cX12_isThere 29 = .ok (.iconst 1, 1) := by decide +kernel
theorem dX12_isThere_30 : decode cX12_isThere 30 = .ok (.aload_n 0, 1) := by decide +kernel
theorem dX12_isThere_31 : decode cX12_isThere 31 = .ok (.iconst 1, 1) := by decide +kernel
theorem dX12_isThere_32 : decode cX12_isThere 32 = .ok (.bipush 10, 2) := by decide +kernel
theorem dX12_isThere_34 : decode cX12_isThere 34 = .ok (.invokevirtual 575, 3) := by decide +kernel
theorem dX12_isThere_37 : decode cX12_isThere 37 = .ok (.invokevirtual 484, 3) := by decide +kernel
theorem dX12_isThere_4 : decode cX12_isThere 4 = .ok (.invokevirtual 449, 3) := by decide +kernel
theorem dX12_isThere_40 : decode cX12_isThere 40 = .ok (.invokevirtual 466, 3) := by decide +kernel
theorem dX12_isThere_43 : decode cX12_isThere 43 = .ok (.istore_n 1, 1) := by decide +kernel
theorem dX12_isThere_44 : decode cX12_isThere 44 = .ok (.iload_n 1, 1) := by decide +kernel
theorem dX12_isThere_45 : decode cX12_isThere 45 = .ok (.iconst (-1), 1) := by decide +kernel
theorem dX12_isThere_46 : decode cX12_isThere 46 = .ok (.if_icmp .eq 16, 3) := by decide +kernel
theorem dX12_isThere_49 : decode cX12_isThere 49 = .ok (.aload_n 0, 1) := by decide +kernel
theorem dX12_isThere_50 : decode cX12_isThere 50 = .ok (.getfield 95, 3) := by decide +kernel
theorem dX12_isThere_53 : decode cX12_isThere 53 = .ok (.iload_n 1, 1) := by decide +kernel
theorem dX12_isThere_54 : decode cX12_isThere 54 = .ok (.baload, 1) := by decide +kernel
theorem dX12_isThere_55 : decode cX12_isThere 55 = .ok (.ifCond .eq 7, 3) := by decide +kernel
theorem dX12_isThere_58 : decode cX12_isThere 58 = .ok (.iconst 1, 1) := by decide +kernel
theorem dX12_isThere_59 : decode cX12_isThere 59 = .ok (.goto 4, 3) := by decide +kernel
theorem dX12_isThere_62 : decode cX12_isThere 62 = .ok (.iconst 0, 1) := by decide +kernel
theorem dX12_isThere_63 : decode cX12_isThere 63 = .ok (.ireturn, 1) := by decide +kernel
theorem dX12_isThere_7 : decode cX12_isThere 7 = .ok (.ifCond .ne 18, 3) := by decide +kernel
set_option maxHeartbeats 4000000 in
set_option maxRecDepth 100000 in
theorem T_X12_isThere (l : Launch) (D : va_G) (K : Nat → ClassId) (Z Y : Nat → Nat) (ad : Nat → Nat) (t : tSt) (hok : okM t)  : tMet l yX12_isThere cX12_isThere 2 (some .boolean) (rmD 10 0 0) D K Z Y [.ref (ad 0)] (WM K ad t) (QI D K (fun (r : Int32) (u : Unit) => (0 : Int) ≤ r.toInt ∧ r.toInt ≤ 1) (fun (_ : Unit) => WM K ad t)) 0 0 := by
  refine t_met RX12 ⟨rfl, by decide +kernel⟩ (Nat.le_of_ble_eq_true rfl) ?_
  intro p e s m below meth c A ls C hE hZ hr hlocks hA hP hD hS hl
  have hl : lv_has ls 2 [(0, .ref (ad 0))] := hl
  have h_1 : (0 : Int) ≤ (t.1 0 52).toInt ∧ (t.1 0 52).toInt ≤ 1200 := hok.1 0 52
  have h_2 : (0 : Int) ≤ (t.1 0 67).toInt ∧ (t.1 0 67).toInt ≤ 1281 := hok.1 0 67
  refine lv_aload_n C.1 C.2.1 dX12_isThere_0 rfl (lv_at hl 0 rfl) ?_
  refine lv_iconst (v := 1) C.1 C.2.1 dX12_isThere_1 (by decide) ?_
  refine lv_bipush (v := 10) C.1 C.2.1 dX12_isThere_2 (by decide) ?_
  have h_3 : (1 : Int32).toInt = 1 := rfl
  refine g_Vi (As := [.int 1, .int 10]) (rest := []) C hP hD hS hA (T_X12_isBlank l D K Z Y ad t hok 1 (show (1 : Int) ≤ (1 : Int32).toInt ∧ (1 : Int32).toInt ≤ 16 from ⟨by decide, by decide⟩) 10 (show (10 : Int) ≤ (10 : Int32).toInt ∧ (10 : Int32).toInt ≤ 15 from ⟨by decide, by decide⟩)) hE hZ (uwV m_31_20 m_31_21 m_31_22 m_1_5 m_31_23) (hdV 2 (by decide +kernel) rfl) ⟨Nat.le_of_ble_eq_true rfl, Nat.le_of_ble_eq_true rfl⟩ rfl rfl (ci := 11) (q0 := 0) rfl rfl rfl hl.1 (Nat.le_of_ble_eq_true rfl) dX12_isThere_4 ⟨Nat.le_of_ble_eq_true rfl, Nat.le_of_ble_eq_true rfl⟩ (fun r_5 t_4 H locs hw hP hD hS => ?_)
  obtain ⟨h_7, h_8, p_9⟩ := hw
  replace p_9 : r_5.toInt = 0 → (t.2.2.1 19 ((t.1 0 67) : Int32).toNatClampNeg).toInt + (1 : Int32).toInt ≤ (t.2.2.1 20 ((t.1 0 67) : Int32).toNatClampNeg).toInt := p_9
  refine lv_if_ne (tgt := 25) C.1 C.2.1 dX12_isThere_7 (by decide) (fun c_10 => ?_) (fun c_10 => ?_)
  · replace c_10 : ¬ r_5.toInt = 0 := i_ne c_10
    refine lv_iconst (v := 0) C.1 C.2.1 dX12_isThere_25 (by decide) ?_
    exact g_iret C hr hlocks hP hD hS (by decide) () rfl ⟨by decide, by decide⟩ (Nat.le_of_ble_eq_true rfl) (Nat.le_of_ble_eq_true rfl) dX12_isThere_26
  · replace c_10 : r_5.toInt = 0 := i_eq c_10
    refine lv_aload_n C.1 C.2.1 dX12_isThere_10 rfl (lv_at hl 0 rfl) ?_
    refine lv_iconst (v := 1) C.1 C.2.1 dX12_isThere_11 (by decide) ?_
    refine lv_aload_n C.1 C.2.1 dX12_isThere_12 rfl (lv_at hl 0 rfl) ?_
    refine lv_iconst (v := 1) C.1 C.2.1 dX12_isThere_13 (by decide) ?_
    refine lv_bipush (v := 10) C.1 C.2.1 dX12_isThere_14 (by decide) ?_
    have h_11 : (10 : Int32).toInt = 10 := rfl
    refine g_Vi (As := [.int 1, .int 10]) (rest := [.int 1, .ref (ad 0)]) C hP hD hS hA (T_X12_endOf l D K Z Y ad t hok 1 (show (1 : Int) ≤ (1 : Int32).toInt ∧ (1 : Int32).toInt ≤ 15 from ⟨by decide, by decide⟩) 10 (show (10 : Int) ≤ (10 : Int32).toInt ∧ (10 : Int32).toInt ≤ 15 from ⟨by decide, by decide⟩) (show (10 : Int32).toInt ≤ 15 from by omega)) hE hZ (uwV m_32_4 m_32_5 m_32_6 m_1_5 m_32_7) (hdV 2 (by decide +kernel) rfl) ⟨Nat.le_of_ble_eq_true rfl, Nat.le_of_ble_eq_true rfl⟩ rfl rfl (ci := 11) (q0 := 0) rfl rfl rfl hl.1 (Nat.le_of_ble_eq_true rfl) dX12_isThere_16 ⟨Nat.le_of_ble_eq_true rfl, Nat.le_of_ble_eq_true rfl⟩ (fun r_13 t_12 H locs hw hP hD hS => ?_)
    obtain ⟨h_15, h_16⟩ := hw
    refine g_Vi (As := [.int 1, .int r_13]) (rest := []) C hP hD hS hA (T_X12_localKind l D K Z Y ad t hok 1 (show (1 : Int) ≤ (1 : Int32).toInt ∧ (1 : Int32).toInt ≤ 81 from ⟨by decide, by decide⟩) (r_13) (show (0 : Int) ≤ (r_13 : Int32).toInt ∧ (r_13 : Int32).toInt ≤ 81 from ⟨by omega, by omega⟩)) hE hZ (uwV m_32_18 m_32_19 m_32_20 m_1_5 m_32_21) (hdV 2 (by decide +kernel) rfl) ⟨Nat.le_of_ble_eq_true rfl, Nat.le_of_ble_eq_true rfl⟩ rfl rfl (ci := 11) (q0 := 0) rfl rfl rfl hl.1 (Nat.le_of_ble_eq_true rfl) dX12_isThere_19 ⟨Nat.le_of_ble_eq_true rfl, Nat.le_of_ble_eq_true rfl⟩ (fun r_18 t_17 H locs hw hP hD hS => ?_)
    obtain ⟨h_20, h_21, p_22⟩ := hw
    replace p_22 : ¬ r_18.toInt = 0 → 48 ≤ (fLet t (1 : Int32)).toInt ∧ (fLet t (1 : Int32)).toInt ≤ 57 := p_22
    refine lv_if_eq (tgt := 27) C.1 C.2.1 dX12_isThere_22 (by decide) (fun c_23 => ?_) (fun c_23 => ?_)
    · replace c_23 : r_18.toInt = 0 := i_eq c_23
      refine lv_aload_n C.1 C.2.1 dX12_isThere_27 rfl (lv_at hl 0 rfl) ?_
      refine lv_aload_n C.1 C.2.1 dX12_isThere_28 rfl (lv_at hl 0 rfl) ?_
      refine lv_iconst (v := 1) C.1 C.2.1 dX12_isThere_29 (by decide) ?_
      refine lv_aload_n C.1 C.2.1 dX12_isThere_30 rfl (lv_at hl 0 rfl) ?_
      refine lv_iconst (v := 1) C.1 C.2.1 dX12_isThere_31 (by decide) ?_
      refine lv_bipush (v := 10) C.1 C.2.1 dX12_isThere_32 (by decide) ?_
      refine g_Vi (As := [.int 1, .int 10]) (rest := [.int 1, .ref (ad 0), .ref (ad 0)]) C hP hD hS hA (T_X12_endOf l D K Z Y ad t hok 1 (show (1 : Int) ≤ (1 : Int32).toInt ∧ (1 : Int32).toInt ≤ 15 from ⟨by decide, by decide⟩) 10 (show (10 : Int) ≤ (10 : Int32).toInt ∧ (10 : Int32).toInt ≤ 15 from ⟨by decide, by decide⟩) (show (10 : Int32).toInt ≤ 15 from by omega)) hE hZ (uwV m_32_4 m_32_5 m_32_6 m_1_5 m_32_7) (hdV 2 (by decide +kernel) rfl) ⟨Nat.le_of_ble_eq_true rfl, Nat.le_of_ble_eq_true rfl⟩ rfl rfl (ci := 11) (q0 := 0) rfl rfl rfl hl.1 (Nat.le_of_ble_eq_true rfl) dX12_isThere_34 ⟨Nat.le_of_ble_eq_true rfl, Nat.le_of_ble_eq_true rfl⟩ (fun r_25 t_24 H locs hw hP hD hS => ?_)
      obtain ⟨h_27, h_28⟩ := hw
      refine g_Vl (As := [.int 1, .int r_25]) (rest := [.ref (ad 0)]) C hP hD hS hA (T_X12_keyOf l D K Z Y ad t hok 1 (show (1 : Int) ≤ (1 : Int32).toInt ∧ (1 : Int32).toInt ≤ 81 from ⟨by decide, by decide⟩) (r_25) (show (0 : Int) ≤ (r_25 : Int32).toInt ∧ (r_25 : Int32).toInt ≤ 81 from ⟨by omega, by omega⟩)) hE hZ (uwV m_33_14 m_33_15 m_33_16 m_1_5 m_33_17) (hdV 2 (by decide +kernel) rfl) ⟨Nat.le_of_ble_eq_true rfl, Nat.le_of_ble_eq_true rfl⟩ rfl rfl (ci := 11) (q0 := 0) rfl rfl rfl hl.1 (Nat.le_of_ble_eq_true rfl) dX12_isThere_37 ⟨Nat.le_of_ble_eq_true rfl, Nat.le_of_ble_eq_true rfl⟩ (fun r_30 t_29 H locs hw hP hD hS => ?_)
      refine g_Vi (As := [.long r_30]) (rest := []) C hP hD hS hA (T_X12_find l D K Z Y ad t hok (r_30)) hE hZ (uwV m_33_22 m_33_23 m_34_0 m_1_5 m_34_1) (hdV 1 (by decide +kernel) rfl) ⟨Nat.le_of_ble_eq_true rfl, Nat.le_of_ble_eq_true rfl⟩ rfl rfl (ci := 11) (q0 := 0) rfl rfl rfl hl.1 (Nat.le_of_ble_eq_true rfl) dX12_isThere_40 ⟨Nat.le_of_ble_eq_true rfl, Nat.le_of_ble_eq_true rfl⟩ (fun r_33 t_32 H locs hw hP hD hS => ?_)
      obtain ⟨h_35, h_36, p_37⟩ := hw
      replace p_37 : r_33.toInt < (t.1 0 52).toInt ∨ r_33.toInt = -1 := p_37
      refine lv_istore_n (lv' := [(1, .int r_33), (0, .ref (ad 0))]) C.1 C.2.1 dX12_isThere_43 rfl hl (by decide) rfl (fun ls hl => ?_)
      have hl : lv_has ls 2 [(0, .ref (ad 0)), (1, .int r_33)] := lv_sub hl [1, 0] rfl
      refine lv_iload_n C.1 C.2.1 dX12_isThere_44 rfl (lv_at hl 1 rfl) ?_
      refine lv_iconst (v := (-1)) C.1 C.2.1 dX12_isThere_45 (by decide) ?_
      refine lv_icmp_eq (tgt := 62) C.1 C.2.1 dX12_isThere_46 (by decide) (fun c_38 => ?_) (fun c_38 => ?_)
      · replace c_38 : r_33.toInt = (-1) := i_eq c_38
        refine lv_iconst (v := 0) C.1 C.2.1 dX12_isThere_62 (by decide) ?_
        exact g_iret C hr hlocks hP hD hS (by decide) () rfl ⟨by decide, by decide⟩ (Nat.le_of_ble_eq_true rfl) (Nat.le_of_ble_eq_true rfl) dX12_isThere_63
      · replace c_38 : ¬ r_33.toInt = (-1) := i_ne c_38
        refine lv_aload_n C.1 C.2.1 dX12_isThere_49 rfl (lv_at hl 0 rfl) ?_
        refine k_get (v := .ref (ad 25)) C hP 0 rfl rfl inlX12 55 (by decide) m_8_9 rfl dX12_isThere_50 ?_
        refine lv_iload_n C.1 C.2.1 dX12_isThere_53 rfl (lv_at hl 1 rfl) ?_
        obtain ⟨v_39, e_40⟩ : ∃ z, z = (t.2.2.1 25 (r_33 : Int32).toNatClampNeg) := ⟨_, rfl⟩
        have h_41 : (0 : Int) ≤ v_39.toInt ∧ v_39.toInt ≤ 1 := by rw [e_40]; exact hok.2.1 25 _
        refine k_zld (v := v_39) C hP 25 rfl (vp_in_iff.mpr ⟨by omega, by omega⟩) e_40.symm dX12_isThere_54 ?_
        refine lv_if_eq (tgt := 62) C.1 C.2.1 dX12_isThere_55 (by decide) (fun c_42 => ?_) (fun c_42 => ?_)
        · replace c_42 : v_39.toInt = 0 := i_eq c_42
          refine lv_iconst (v := 0) C.1 C.2.1 dX12_isThere_62 (by decide) ?_
          exact g_iret C hr hlocks hP hD hS (by decide) () rfl ⟨by decide, by decide⟩ (Nat.le_of_ble_eq_true rfl) (Nat.le_of_ble_eq_true rfl) dX12_isThere_63
        · replace c_42 : ¬ v_39.toInt = 0 := i_ne c_42
          refine lv_iconst (v := 1) C.1 C.2.1 dX12_isThere_58 (by decide) ?_
          refine lv_goto (tgt := 63) C.1 C.2.1 dX12_isThere_59 (by decide) ?_
          exact g_iret C hr hlocks hP hD hS (by decide) () rfl ⟨by decide, by decide⟩ (Nat.le_of_ble_eq_true rfl) (Nat.le_of_ble_eq_true rfl) dX12_isThere_63
    · replace c_23 : ¬ r_18.toInt = 0 := i_ne c_23
      refine lv_iconst (v := 0) C.1 C.2.1 dX12_isThere_25 (by decide) ?_
      exact g_iret C hr hlocks hP hD hS (by decide) () rfl ⟨by decide, by decide⟩ (Nat.le_of_ble_eq_true rfl) (Nat.le_of_ble_eq_true rfl) dX12_isThere_26

theorem dX12_sayLists_0 : decode cX12_sayLists 0 = .ok (.aload_n 0, 1) := by decide +kernel
theorem dX12_sayLists_1 : decode cX12_sayLists 1 = .ok (.iconst 1, 1) := by decide +kernel
theorem dX12_sayLists_10 : decode cX12_sayLists 10 = .ok (.ifCond .eq 8, 3) := by decide +kernel
theorem dX12_sayLists_13 : decode cX12_sayLists 13 = .ok (.aload_n 0, 1) := by decide +kernel
theorem dX12_sayLists_14 : decode cX12_sayLists 14 = .ok (.invokevirtual 694, 3) := by decide +kernel
theorem dX12_sayLists_17 : decode cX12_sayLists 17 = .ok (.pop, 1) := by decide +kernel
theorem dX12_sayLists_18 : decode cX12_sayLists 18 = .ok (.aload_n 0, 1) := by decide +kernel
theorem dX12_sayLists_19 : decode cX12_sayLists 19 = .ok (.iconst 2, 1) := by decide +kernel
theorem dX12_sayLists_2 : decode cX12_sayLists 2 = .ok (.putfield 207, 3) := by decide +kernel
theorem dX12_sayLists_20 : decode cX12_sayLists 20 = .ok (.invokevirtual 816, 3) := by decide +kernel
theorem dX12_sayLists_23 : decode cX12_sayLists 23 = .ok (.ifCond .eq 10, 3) := by decide +kernel
theorem dX12_sayLists_26 : decode cX12_sayLists 26 = .ok (.aload_n 0, 1) := by decide +kernel
theorem dX12_sayLists_27 : decode cX12_sayLists 27 = .ok (.bipush 10, 2) := by decide +kernel
theorem dX12_sayLists_29 : decode cX12_sayLists 29 = .ok (.invokevirtual 706, 3) := by decide +kernel
theorem dX12_sayLists_32 : decode cX12_sayLists 32 = .ok (.pop, 1) := by decide +kernel
theorem dX12_sayLists_33 : decode cX12_sayLists 33 = .ok (.aload_n 0, 1) := by decide +kernel
theorem dX12_sayLists_34 : decode cX12_sayLists 34 = .ok (.iconst 0, 1) := by decide +kernel
theorem dX12_sayLists_35 : decode cX12_sayLists 35 = .ok (.putfield 207, 3) := by decide +kernel
theorem dX12_sayLists_38 : decode cX12_sayLists 38 = .ok (.aload_n 0, 1) := by decide +kernel
theorem dX12_sayLists_39 : decode cX12_sayLists 39 = .ok (.iconst 3, 1) := by decide +kernel
theorem dX12_sayLists_40 : decode cX12_sayLists 40 = .ok (.invokevirtual 816, 3) := by decide +kernel
theorem dX12_sayLists_43 : decode cX12_sayLists 43 = .ok (.ifCond .eq 8, 3) := by decide +kernel
theorem dX12_sayLists_46 : decode cX12_sayLists 46 = .ok (.aload_n 0, 1) := by decide +kernel
theorem dX12_sayLists_47 : decode cX12_sayLists 47 = .ok (.invokevirtual 685, 3) := by decide +kernel
theorem dX12_sayLists_5 : decode cX12_sayLists 5 = .ok (.aload_n 0, 1) := by decide +kernel
theorem dX12_sayLists_50 : decode cX12_sayLists 50 = .ok (.pop, 1) := by decide +kernel
theorem dX12_sayLists_51 : decode cX12_sayLists 51 = .ok (.return_, 1) := by decide +kernel
theorem dX12_sayLists_6 : decode cX12_sayLists 6 = .ok (.iconst 1, 1) := by decide +kernel
theorem dX12_sayLists_7 : decode cX12_sayLists 7 = .ok (.invokevirtual 816, 3) := by decide +kernel
set_option maxHeartbeats 4000000 in
set_option maxRecDepth 100000 in
theorem T_X12_sayLists (l : Launch) (D : va_G) (K : Nat → ClassId) (Z Y : Nat → Nat) (ad : Nat → Nat) (t : tSt) (hok : okM t)  : tMet l yX12_sayLists cX12_sayLists 1 none (rmD 7 0 0) D K Z Y [.ref (ad 0)] (WM K ad t) (QV D K (fun (u : tSt) => okM u ∧ frA [(0, 30), (0, 31)] [] [11, 12, 13, 14] [] t u) (fun (u : tSt) => WM K ad u)) 0 0 := by
  refine t_met RX12 ⟨rfl, by decide +kernel⟩ (Nat.le_of_ble_eq_true rfl) ?_
  intro p e s m below meth c A ls C hE hZ hr hlocks hA hP hD hS hl
  have hl : lv_has ls 1 [(0, .ref (ad 0))] := hl
  have hokt := hok
  have hfr : frA [(0, 30), (0, 31)] [] [11, 12, 13, 14] [] t t := frA_rf
  have L_33 : ∀ (t1 : tSt) (H : Heap) (locs : List Loc) (ls : Array Slot), okM t1 → frA [(0, 30), (0, 31)] [] [11, 12, 13, 14] [] t t1 → (1 : Int) ≤ (t1.1 0 31).toInt ∧ (t1.1 0 31).toInt ≤ 1 → va_P D vwCl (WM K ad t1) H → va_D A (WM K ad t1) → va_S A s.heap H locs → lv_has ls 1 [(0, .ref (ad 0))] → W p l e (rmD 7 0 0) s m [.ref (ad 0)].toArray below meth c H locs 0 0 (MQ below (QV D K (fun (u : tSt) => okM u ∧ frA [(0, 30), (0, 31)] [] [11, 12, 13, 14] [] t u) (fun (u : tSt) => WM K ad u) A) [.ref (ad 0)].toArray s 0 0 A) (F0 m 33 ls []) := by
    intro t1 H locs ls hok hfr hf33_31 hP hD hS hl
    refine lv_aload_n C.1 C.2.1 dX12_sayLists_33 rfl (lv_at hl 0 rfl) ?_
    refine lv_iconst (v := 0) C.1 C.2.1 dX12_sayLists_34 (by decide) ?_
    refine k_put (ws' := WM K ad (uI t1 0 31 0)) (v := .int 0) C hP hD hS 0 rfl rfl inlX12 tyX12_ok nmX12 31 (by decide) m_43_1 rfl (by decide) (by decide) rfl rfl dX12_sayLists_35 (fun H locs hP hD hS => ?_)
    have hok : okM (uI t1 0 31 0) := ⟨okI_I hok.1 0 31 0 (show (0 : Int) ≤ (0 : Int32).toInt ∧ (0 : Int32).toInt ≤ 1 from ⟨by decide, by decide⟩), hok.2.1, hok.2.2.1, hok.2.2.2.1, hok.2.2.2.2.1, hok.2.2.2.2.2.1, hok.2.2.2.2.2.2.1, trivial⟩
    have hfr : frA [(0, 30), (0, 31)] [] [11, 12, 13, 14] [] t (uI t1 0 31 0) := frA_I hfr 0 31 _ rfl
    refine lv_aload_n C.1 C.2.1 dX12_sayLists_38 rfl (lv_at hl 0 rfl) ?_
    refine lv_iconst (v := 3) C.1 C.2.1 dX12_sayLists_39 (by decide) ?_
    refine g_Vi (As := [.int 3]) (rest := []) C hP hD hS hA (T_X12_hasOption l D K Z Y ad (uI t1 0 31 0) hok 3 (show (0 : Int) ≤ (3 : Int32).toInt ∧ (3 : Int32).toInt ≤ 4 from ⟨by decide, by decide⟩)) hE hZ (uwV m_80_19 m_80_20 m_80_21 m_1_5 m_80_22) (hdV 1 (by decide +kernel) rfl) ⟨Nat.le_of_ble_eq_true rfl, Nat.le_of_ble_eq_true rfl⟩ rfl rfl (ci := 11) (q0 := 0) rfl rfl rfl hl.1 (Nat.le_of_ble_eq_true rfl) dX12_sayLists_40 ⟨Nat.le_of_ble_eq_true rfl, Nat.le_of_ble_eq_true rfl⟩ (fun r_2 t_1 H locs hw hP hD hS => ?_)
    obtain ⟨h_4, h_5⟩ := hw
    refine lv_if_eq (tgt := 51) C.1 C.2.1 dX12_sayLists_43 (by decide) (fun c_6 => ?_) (fun c_6 => ?_)
    · replace c_6 : r_2.toInt = 0 := i_eq c_6
      exact g_vret C hr hlocks hP hD hS (uI t1 0 31 0) rfl ⟨hok, hfr⟩ (Nat.le_of_ble_eq_true rfl) (Nat.le_of_ble_eq_true rfl) dX12_sayLists_51
    · replace c_6 : ¬ r_2.toInt = 0 := i_ne c_6
      refine lv_aload_n C.1 C.2.1 dX12_sayLists_46 rfl (lv_at hl 0 rfl) ?_
      refine g_Vi (As := []) (rest := []) C hP hD hS hA (T_X12_punchCards l D K Z Y ad (uI t1 0 31 0) hok ) hE hZ (uwV m_66_4 m_66_5 m_66_6 m_1_5 m_66_7) (hdV 0 (by decide +kernel) rfl) ⟨Nat.le_of_ble_eq_true rfl, Nat.le_of_ble_eq_true rfl⟩ rfl rfl (ci := 11) (q0 := 0) rfl rfl rfl hl.1 (Nat.le_of_ble_eq_true rfl) dX12_sayLists_47 ⟨Nat.le_of_ble_eq_true rfl, Nat.le_of_ble_eq_true rfl⟩ (fun r_8 t_7 H locs hw hP hD hS => ?_)
      obtain ⟨hok, f_9, h_10, h_11⟩ := hw
      have hfr : frA [(0, 30), (0, 31)] [] [11, 12, 13, 14] [] t t_7 := frA_tr hfr f_9 rfl
      have h_12 : (t_7.1 0 31).toInt = 0 := by rw [show (t_7.1 0 31) = (0 : Int32) from f_9.1 0 31 rfl]; rfl
      refine lv_pop C.1 C.2.1 dX12_sayLists_50 rfl ?_
      exact g_vret C hr hlocks hP hD hS t_7 rfl ⟨hok, hfr⟩ (Nat.le_of_ble_eq_true rfl) (Nat.le_of_ble_eq_true rfl) dX12_sayLists_51
  have L_18 : ∀ (t1 : tSt) (H : Heap) (locs : List Loc) (ls : Array Slot), okM t1 → frA [(0, 30), (0, 31)] [] [11, 12, 13, 14] [] t t1 → (1 : Int) ≤ (t1.1 0 31).toInt ∧ (t1.1 0 31).toInt ≤ 1 → va_P D vwCl (WM K ad t1) H → va_D A (WM K ad t1) → va_S A s.heap H locs → lv_has ls 1 [(0, .ref (ad 0))] → W p l e (rmD 7 0 0) s m [.ref (ad 0)].toArray below meth c H locs 0 0 (MQ below (QV D K (fun (u : tSt) => okM u ∧ frA [(0, 30), (0, 31)] [] [11, 12, 13, 14] [] t u) (fun (u : tSt) => WM K ad u) A) [.ref (ad 0)].toArray s 0 0 A) (F0 m 18 ls []) := by
    intro t1 H locs ls hok hfr hf18_31 hP hD hS hl
    refine lv_aload_n C.1 C.2.1 dX12_sayLists_18 rfl (lv_at hl 0 rfl) ?_
    refine lv_iconst (v := 2) C.1 C.2.1 dX12_sayLists_19 (by decide) ?_
    refine g_Vi (As := [.int 2]) (rest := []) C hP hD hS hA (T_X12_hasOption l D K Z Y ad t1 hok 2 (show (0 : Int) ≤ (2 : Int32).toInt ∧ (2 : Int32).toInt ≤ 4 from ⟨by decide, by decide⟩)) hE hZ (uwV m_80_19 m_80_20 m_80_21 m_1_5 m_80_22) (hdV 1 (by decide +kernel) rfl) ⟨Nat.le_of_ble_eq_true rfl, Nat.le_of_ble_eq_true rfl⟩ rfl rfl (ci := 11) (q0 := 0) rfl rfl rfl hl.1 (Nat.le_of_ble_eq_true rfl) dX12_sayLists_20 ⟨Nat.le_of_ble_eq_true rfl, Nat.le_of_ble_eq_true rfl⟩ (fun r_14 t_13 H locs hw hP hD hS => ?_)
    obtain ⟨h_16, h_17⟩ := hw
    refine lv_if_eq (tgt := 33) C.1 C.2.1 dX12_sayLists_23 (by decide) (fun c_18 => ?_) (fun c_18 => ?_)
    · replace c_18 : r_14.toInt = 0 := i_eq c_18
      exact L_33 t1 _ _ _ hok hfr (show (1 : Int) ≤ ((t1.1 0 31) : Int32).toInt ∧ ((t1.1 0 31) : Int32).toInt ≤ 1 from ⟨by omega, by omega⟩) hP hD hS (lv_sub hl [0] rfl)
    · replace c_18 : ¬ r_14.toInt = 0 := i_ne c_18
      refine lv_aload_n C.1 C.2.1 dX12_sayLists_26 rfl (lv_at hl 0 rfl) ?_
      refine lv_bipush (v := 10) C.1 C.2.1 dX12_sayLists_27 (by decide) ?_
      refine g_Vi (As := [.int 10]) (rest := []) C hP hD hS hA (T_X12_sayNames l D K Z Y ad t1 hok 10 (show (10 : Int) ≤ (10 : Int32).toInt ∧ (10 : Int32).toInt ≤ 16 from ⟨by decide, by decide⟩)) hE hZ (uwV m_69_20 m_69_21 m_69_22 m_1_5 m_69_23) (hdV 1 (by decide +kernel) rfl) ⟨Nat.le_of_ble_eq_true rfl, Nat.le_of_ble_eq_true rfl⟩ rfl rfl (ci := 11) (q0 := 0) rfl rfl rfl hl.1 (Nat.le_of_ble_eq_true rfl) dX12_sayLists_29 ⟨Nat.le_of_ble_eq_true rfl, Nat.le_of_ble_eq_true rfl⟩ (fun r_20 t_19 H locs hw hP hD hS => ?_)
      obtain ⟨hok, f_21, h_22, h_23⟩ := hw
      have hfr : frA [(0, 30), (0, 31)] [] [11, 12, 13, 14] [] t t_19 := frA_tr hfr f_21 rfl
      have h_24 : (t_19.1 0 31).toInt = (t1.1 0 31).toInt := ti_eq (f_21.1 0 31 rfl)
      refine lv_pop C.1 C.2.1 dX12_sayLists_32 rfl ?_
      exact L_33 t_19 _ _ _ hok hfr (show (1 : Int) ≤ ((t_19.1 0 31) : Int32).toInt ∧ ((t_19.1 0 31) : Int32).toInt ≤ 1 from ⟨by omega, by omega⟩) hP hD hS (lv_sub hl [0] rfl)
  refine lv_aload_n C.1 C.2.1 dX12_sayLists_0 rfl (lv_at hl 0 rfl) ?_
  refine lv_iconst (v := 1) C.1 C.2.1 dX12_sayLists_1 (by decide) ?_
  refine k_put (ws' := WM K ad (uI t 0 31 1)) (v := .int 1) C hP hD hS 0 rfl rfl inlX12 tyX12_ok nmX12 31 (by decide) m_43_1 rfl (by decide) (by decide) rfl rfl dX12_sayLists_2 (fun H locs hP hD hS => ?_)
  have hok : okM (uI t 0 31 1) := ⟨okI_I hok.1 0 31 1 (show (0 : Int) ≤ (1 : Int32).toInt ∧ (1 : Int32).toInt ≤ 1 from ⟨by decide, by decide⟩), hok.2.1, hok.2.2.1, hok.2.2.2.1, hok.2.2.2.2.1, hok.2.2.2.2.2.1, hok.2.2.2.2.2.2.1, trivial⟩
  have hfr : frA [(0, 30), (0, 31)] [] [11, 12, 13, 14] [] t (uI t 0 31 1) := frA_I hfr 0 31 _ rfl
  refine lv_aload_n C.1 C.2.1 dX12_sayLists_5 rfl (lv_at hl 0 rfl) ?_
  refine lv_iconst (v := 1) C.1 C.2.1 dX12_sayLists_6 (by decide) ?_
  refine g_Vi (As := [.int 1]) (rest := []) C hP hD hS hA (T_X12_hasOption l D K Z Y ad (uI t 0 31 1) hok 1 (show (0 : Int) ≤ (1 : Int32).toInt ∧ (1 : Int32).toInt ≤ 4 from ⟨by decide, by decide⟩)) hE hZ (uwV m_80_19 m_80_20 m_80_21 m_1_5 m_80_22) (hdV 1 (by decide +kernel) rfl) ⟨Nat.le_of_ble_eq_true rfl, Nat.le_of_ble_eq_true rfl⟩ rfl rfl (ci := 11) (q0 := 0) rfl rfl rfl hl.1 (Nat.le_of_ble_eq_true rfl) dX12_sayLists_7 ⟨Nat.le_of_ble_eq_true rfl, Nat.le_of_ble_eq_true rfl⟩ (fun r_26 t_25 H locs hw hP hD hS => ?_)
  obtain ⟨h_28, h_29⟩ := hw
  refine lv_if_eq (tgt := 18) C.1 C.2.1 dX12_sayLists_10 (by decide) (fun c_30 => ?_) (fun c_30 => ?_)
  · replace c_30 : r_26.toInt = 0 := i_eq c_30
    exact L_18 (uI t 0 31 1) _ _ _ hok hfr (show (1 : Int) ≤ (1 : Int32).toInt ∧ (1 : Int32).toInt ≤ 1 from ⟨by decide, by decide⟩) hP hD hS (lv_sub hl [0] rfl)
  · replace c_30 : ¬ r_26.toInt = 0 := i_ne c_30
    refine lv_aload_n C.1 C.2.1 dX12_sayLists_13 rfl (lv_at hl 0 rfl) ?_
    refine g_Vi (As := []) (rest := []) C hP hD hS hA (T_X12_listWords l D K Z Y ad (uI t 0 31 1) hok ) hE hZ (uwV m_67_8 m_67_9 m_67_10 m_1_5 m_67_11) (hdV 0 (by decide +kernel) rfl) ⟨Nat.le_of_ble_eq_true rfl, Nat.le_of_ble_eq_true rfl⟩ rfl rfl (ci := 11) (q0 := 0) rfl rfl rfl hl.1 (Nat.le_of_ble_eq_true rfl) dX12_sayLists_14 ⟨Nat.le_of_ble_eq_true rfl, Nat.le_of_ble_eq_true rfl⟩ (fun r_32 t_31 H locs hw hP hD hS => ?_)
    obtain ⟨hok, f_33, h_34, h_35⟩ := hw
    have hfr : frA [(0, 30), (0, 31)] [] [11, 12, 13, 14] [] t t_31 := frA_tr hfr f_33 rfl
    have h_36 : (t_31.1 0 31).toInt = 1 := by rw [show (t_31.1 0 31) = (1 : Int32) from f_33.1 0 31 rfl]; rfl
    refine lv_pop C.1 C.2.1 dX12_sayLists_17 rfl ?_
    exact L_18 t_31 _ _ _ hok hfr (show (1 : Int) ≤ ((t_31.1 0 31) : Int32).toInt ∧ ((t_31.1 0 31) : Int32).toInt ≤ 1 from ⟨by omega, by omega⟩) hP hD hS (lv_sub hl [0] rfl)

theorem dX12_fault_0 : decode cX12_fault 0 = .ok (.aload_n 0, 1) := by decide +kernel
theorem dX12_fault_1 : decode cX12_fault 1 = .ok (.invokevirtual 317, 3) := by decide +kernel
theorem dX12_fault_10 : decode cX12_fault 10 = .ok (.invokevirtual 320, 3) := by decide +kernel
theorem dX12_fault_13 : decode cX12_fault 13 = .ok (.ifCond .eq 15, 3) := by decide +kernel
theorem dX12_fault_16 : decode cX12_fault 16 = .ok (.aload_n 0, 1) := by decide +kernel
theorem dX12_fault_17 : decode cX12_fault 17 = .ok (.getfield 289, 3) := by decide +kernel
theorem dX12_fault_20 : decode cX12_fault 20 = .ok (.invokestatic 323, 3) := by decide +kernel
theorem dX12_fault_23 : decode cX12_fault 23 = .ok (.ifCond .ne 5, 3) := by decide +kernel
theorem dX12_fault_26 : decode cX12_fault 26 = .ok (.iconst 3, 1) := by decide +kernel
theorem dX12_fault_27 : decode cX12_fault 27 = .ok (.istore_n 1, 1) := by decide +kernel
theorem dX12_fault_28 : decode cX12_fault 28 = .ok (.iload_n 1, 1) := by decide +kernel
theorem dX12_fault_29 : decode cX12_fault 29 = .ok (.ifCond .ne 12, 3) := by decide +kernel
theorem dX12_fault_32 : decode cX12_fault 32 = .ok (.aload_n 0, 1) := by decide +kernel
theorem dX12_fault_33 : decode cX12_fault 33 = .ok (.invokevirtual 326, 3) := by decide +kernel
theorem dX12_fault_36 : decode cX12_fault 36 = .ok (.ifCond .eq 5, 3) := by decide +kernel
theorem dX12_fault_39 : decode cX12_fault 39 = .ok (.iconst 4, 1) := by decide +kernel
theorem dX12_fault_4 : decode cX12_fault 4 = .ok (.istore_n 1, 1) := by decide +kernel
theorem dX12_fault_40 : decode cX12_fault 40 = .ok (.istore_n 1, 1) := by decide +kernel
theorem dX12_fault_41 : decode cX12_fault 41 = .ok (.iload_n 1, 1) := by decide +kernel
theorem dX12_fault_42 : decode cX12_fault 42 = .ok (.ifCond .ne 8, 3) := by decide +kernel
theorem dX12_fault_45 : decode cX12_fault 45 = .ok (.aload_n 0, 1) := by decide +kernel
theorem dX12_fault_46 : decode cX12_fault 46 = .ok (.invokevirtual 329, 3) := by decide +kernel
theorem dX12_fault_49 : decode cX12_fault 49 = .ok (.istore_n 1, 1) := by decide +kernel
theorem dX12_fault_5 : decode cX12_fault 5 = .ok (.iload_n 1, 1) := by decide +kernel
theorem dX12_fault_50 : decode cX12_fault 50 = .ok (.iload_n 1, 1) := by decide +kernel
theorem dX12_fault_51 : decode cX12_fault 51 = .ok (.ifCond .ne 26, 3) := by decide +kernel
theorem dX12_fault_54 : decode cX12_fault 54 = .ok (.aload_n 0, 1) := by decide +kernel
theorem dX12_fault_55 : decode cX12_fault 55 = .ok (.invokevirtual 332, 3) := by decide +kernel
theorem dX12_fault_58 : decode cX12_fault 58 = .ok (.ifCond .eq 19, 3) := by decide +kernel
theorem dX12_fault_6 : decode cX12_fault 6 = .ok (.ifCond .ne 22, 3) := by decide +kernel
theorem dX12_fault_61 : decode cX12_fault 61 = .ok (.aload_n 0, 1) := by decide +kernel
theorem dX12_fault_62 : decode cX12_fault 62 = .ok (.aload_n 0, 1) := by decide +kernel
theorem dX12_fault_63 : decode cX12_fault 63 = .ok (.getfield 251, 3) := by decide +kernel
theorem dX12_fault_66 : decode cX12_fault 66 = .ok (.invokevirtual 295, 3) := by decide +kernel
theorem dX12_fault_69 : decode cX12_fault 69 = .ok (.ifCond .ne 8, 3) := by decide +kernel
theorem dX12_fault_72 : decode cX12_fault 72 = .ok (.bipush 7, 2) := by decide +kernel
theorem dX12_fault_74 : decode cX12_fault 74 = .ok (.goto 4, 3) := by decide +kernel
theorem dX12_fault_77 : decode cX12_fault 77 = .ok (.iload_n 1, 1) := by decide +kernel
theorem dX12_fault_78 : decode cX12_fault 78 = .ok (.ireturn, 1) := by decide +kernel
theorem dX12_fault_9 : decode cX12_fault 9 = .ok (.aload_n 0, 1) := by decide +kernel
set_option maxHeartbeats 4000000 in
set_option maxRecDepth 100000 in
theorem T_X12_fault (l : Launch) (D : va_G) (K : Nat → ClassId) (Z Y : Nat → Nat) (ad : Nat → Nat) (t : tSt) (hok : okM t)  : tMet l yX12_fault cX12_fault 2 (some .int) (rmD 9 0 0) D K Z Y [.ref (ad 0)] (WM K ad t) (QI D K (fun (r : Int32) (u : Unit) => (0 : Int) ≤ r.toInt ∧ r.toInt ≤ 7 ∧ (r.toInt = 0 → gdA (t.1 0 16) (t.1 0 17) (t.1 0 18) (t.2.2.1 3)) ∧ (r.toInt = 0 → gdU (t.1 0 16) (t.1 0 17) (t.2.2.1 3) (t.2.2.1 9) (t.1 0 35) (t.1 0 36))) (fun (_ : Unit) => WM K ad t)) 0 0 := by
  refine t_met RX12 ⟨rfl, by decide +kernel⟩ (Nat.le_of_ble_eq_true rfl) ?_
  intro p e s m below meth c A ls C hE hZ hr hlocks hA hP hD hS hl
  have hl : lv_has ls 2 [(0, .ref (ad 0))] := hl
  have h_1 : (0 : Int) ≤ (t.1 0 10).toInt ∧ (t.1 0 10).toInt ≤ 1 := hok.1 0 10
  have h_2 : (0 : Int) ≤ (t.1 0 16).toInt ∧ (t.1 0 16).toInt ≤ 63 := hok.1 0 16
  have h_3 : (0 : Int) ≤ (t.1 0 17).toInt ∧ (t.1 0 17).toInt ≤ 63 := hok.1 0 17
  have h_4 : (0 : Int) ≤ (t.1 0 35).toInt ∧ (t.1 0 35).toInt ≤ 1700 := hok.1 0 35
  have h_5 : (0 : Int) ≤ (t.1 0 36).toInt ∧ (t.1 0 36).toInt ≤ 1700 := hok.1 0 36
  refine lv_aload_n C.1 C.2.1 dX12_fault_0 rfl (lv_at hl 0 rfl) ?_
  refine g_Vi (As := []) (rest := []) C hP hD hS hA (T_X12_addressFault l D K Z Y ad t hok ) hE hZ (uwV m_58_1 m_58_2 m_58_3 m_1_5 m_58_4) (hdV 0 (by decide +kernel) rfl) ⟨Nat.le_of_ble_eq_true rfl, Nat.le_of_ble_eq_true rfl⟩ rfl rfl (ci := 11) (q0 := 0) rfl rfl rfl hl.1 (Nat.le_of_ble_eq_true rfl) dX12_fault_1 ⟨Nat.le_of_ble_eq_true rfl, Nat.le_of_ble_eq_true rfl⟩ (fun r_7 t_6 H locs hw hP hD hS => ?_)
  obtain ⟨h_9, h_10, p_11⟩ := hw
  replace p_11 : r_7.toInt = 0 → gdA (t.1 0 16) (t.1 0 17) (t.1 0 18) (t.2.2.1 3) := p_11
  have hgA := p_11
  refine lv_istore_n (lv' := [(1, .int r_7), (0, .ref (ad 0))]) C.1 C.2.1 dX12_fault_4 rfl hl (by decide) rfl (fun ls hl => ?_)
  have hl : lv_has ls 2 [(0, .ref (ad 0)), (1, .int r_7)] := lv_sub hl [1, 0] rfl
  refine lv_iload_n C.1 C.2.1 dX12_fault_5 rfl (lv_at hl 1 rfl) ?_
  refine lv_if_ne (tgt := 28) C.1 C.2.1 dX12_fault_6 (by decide) (fun c_12 => ?_) (fun c_12 => ?_)
  · replace c_12 : ¬ r_7.toInt = 0 := i_ne c_12
    refine lv_iload_n C.1 C.2.1 dX12_fault_28 rfl (lv_at hl 1 rfl) ?_
    refine lv_if_ne (tgt := 41) C.1 C.2.1 dX12_fault_29 (by decide) (fun c_13 => ?_) (fun c_13 => False.elim (by have c_13 : r_7.toInt = 0 := i_eq c_13; omega))
    replace c_13 : ¬ r_7.toInt = 0 := i_ne c_13
    refine lv_iload_n C.1 C.2.1 dX12_fault_41 rfl (lv_at hl 1 rfl) ?_
    refine lv_if_ne (tgt := 50) C.1 C.2.1 dX12_fault_42 (by decide) (fun c_14 => ?_) (fun c_14 => False.elim (by have c_14 : r_7.toInt = 0 := i_eq c_14; omega))
    replace c_14 : ¬ r_7.toInt = 0 := i_ne c_14
    refine lv_iload_n C.1 C.2.1 dX12_fault_50 rfl (lv_at hl 1 rfl) ?_
    refine lv_if_ne (tgt := 77) C.1 C.2.1 dX12_fault_51 (by decide) (fun c_15 => ?_) (fun c_15 => False.elim (by have c_15 : r_7.toInt = 0 := i_eq c_15; omega))
    replace c_15 : ¬ r_7.toInt = 0 := i_ne c_15
    refine lv_iload_n C.1 C.2.1 dX12_fault_77 rfl (lv_at hl 1 rfl) ?_
    exact g_iret C hr hlocks hP hD hS rfl () rfl ⟨by omega, by omega, (show r_7.toInt = 0 → gdA (t.1 0 16) (t.1 0 17) (t.1 0 18) (t.2.2.1 3) from by exact fun h0 => hgA (by omega)), (show r_7.toInt = 0 → gdU (t.1 0 16) (t.1 0 17) (t.2.2.1 3) (t.2.2.1 9) (t.1 0 35) (t.1 0 36) from by first | exact fun h0 => hgU (by omega) | (intro h0; exfalso; omega))⟩ (Nat.le_of_ble_eq_true rfl) (Nat.le_of_ble_eq_true rfl) dX12_fault_78
  · replace c_12 : r_7.toInt = 0 := i_eq c_12
    refine lv_aload_n C.1 C.2.1 dX12_fault_9 rfl (lv_at hl 0 rfl) ?_
    refine g_Vi (As := []) (rest := []) C hP hD hS hA (T_X12_hasField l D K Z Y ad t hok ) hE hZ (uwV m_58_9 m_58_10 m_58_11 m_1_5 m_58_12) (hdV 0 (by decide +kernel) rfl) ⟨Nat.le_of_ble_eq_true rfl, Nat.le_of_ble_eq_true rfl⟩ rfl rfl (ci := 11) (q0 := 0) rfl rfl rfl hl.1 (Nat.le_of_ble_eq_true rfl) dX12_fault_10 ⟨Nat.le_of_ble_eq_true rfl, Nat.le_of_ble_eq_true rfl⟩ (fun r_17 t_16 H locs hw hP hD hS => ?_)
    obtain ⟨h_19, h_20⟩ := hw
    refine lv_if_eq (tgt := 28) C.1 C.2.1 dX12_fault_13 (by decide) (fun c_21 => ?_) (fun c_21 => ?_)
    · replace c_21 : r_17.toInt = 0 := i_eq c_21
      refine lv_iload_n C.1 C.2.1 dX12_fault_28 rfl (lv_at hl 1 rfl) ?_
      refine lv_if_ne (tgt := 41) C.1 C.2.1 dX12_fault_29 (by decide) (fun c_22 => False.elim (by have c_22 : ¬ r_7.toInt = 0 := i_ne c_22; omega)) (fun c_22 => ?_)
      replace c_22 : r_7.toInt = 0 := i_eq c_22
      refine lv_aload_n C.1 C.2.1 dX12_fault_32 rfl (lv_at hl 0 rfl) ?_
      have hg0 := (hgA (by omega)).1
      refine g_Vi (As := []) (rest := []) C hP hD hS hA (T_X12_isTooMuch l D K Z Y ad t hok (show (t.1 0 16).toInt > 8 ∧ (t.1 0 16).toInt < 15 ∨ (t.1 0 16).toInt > 16 ∧ (t.1 0 16).toInt < 23 → -3999 ≤ (t.1 0 18).toInt ∧ (t.1 0 18).toInt ≤ 3999 from by omega)) hE hZ (uwV m_58_13 m_58_14 m_58_15 m_1_5 m_58_16) (hdV 0 (by decide +kernel) rfl) ⟨Nat.le_of_ble_eq_true rfl, Nat.le_of_ble_eq_true rfl⟩ rfl rfl (ci := 11) (q0 := 0) rfl rfl rfl hl.1 (Nat.le_of_ble_eq_true rfl) dX12_fault_33 ⟨Nat.le_of_ble_eq_true rfl, Nat.le_of_ble_eq_true rfl⟩ (fun r_24 t_23 H locs hw hP hD hS => ?_)
      obtain ⟨h_26, h_27⟩ := hw
      refine lv_if_eq (tgt := 41) C.1 C.2.1 dX12_fault_36 (by decide) (fun c_28 => ?_) (fun c_28 => ?_)
      · replace c_28 : r_24.toInt = 0 := i_eq c_28
        refine lv_iload_n C.1 C.2.1 dX12_fault_41 rfl (lv_at hl 1 rfl) ?_
        refine lv_if_ne (tgt := 50) C.1 C.2.1 dX12_fault_42 (by decide) (fun c_29 => False.elim (by have c_29 : ¬ r_7.toInt = 0 := i_ne c_29; omega)) (fun c_29 => ?_)
        replace c_29 : r_7.toInt = 0 := i_eq c_29
        refine lv_aload_n C.1 C.2.1 dX12_fault_45 rfl (lv_at hl 0 rfl) ?_
        refine g_Vi (As := []) (rest := []) C hP hD hS hA (T_X12_unitFault l D K Z Y ad t hok ) hE hZ (uwV m_58_20 m_58_21 m_58_22 m_1_5 m_58_23) (hdV 0 (by decide +kernel) rfl) ⟨Nat.le_of_ble_eq_true rfl, Nat.le_of_ble_eq_true rfl⟩ rfl rfl (ci := 11) (q0 := 0) rfl rfl rfl hl.1 (Nat.le_of_ble_eq_true rfl) dX12_fault_46 ⟨Nat.le_of_ble_eq_true rfl, Nat.le_of_ble_eq_true rfl⟩ (fun r_31 t_30 H locs hw hP hD hS => ?_)
        obtain ⟨h_33, h_34, p_35⟩ := hw
        replace p_35 : r_31.toInt = 0 → gdU (t.1 0 16) (t.1 0 17) (t.2.2.1 3) (t.2.2.1 9) (t.1 0 35) (t.1 0 36) := p_35
        have hgU := p_35
        refine lv_istore_n (lv' := [(1, .int r_31), (0, .ref (ad 0))]) C.1 C.2.1 dX12_fault_49 rfl hl (by decide) rfl (fun ls hl => ?_)
        have hl : lv_has ls 2 [(0, .ref (ad 0)), (1, .int r_31)] := lv_sub hl [1, 0] rfl
        refine lv_iload_n C.1 C.2.1 dX12_fault_50 rfl (lv_at hl 1 rfl) ?_
        refine lv_if_ne (tgt := 77) C.1 C.2.1 dX12_fault_51 (by decide) (fun c_36 => ?_) (fun c_36 => ?_)
        · replace c_36 : ¬ r_31.toInt = 0 := i_ne c_36
          refine lv_iload_n C.1 C.2.1 dX12_fault_77 rfl (lv_at hl 1 rfl) ?_
          exact g_iret C hr hlocks hP hD hS rfl () rfl ⟨by omega, by omega, (show r_31.toInt = 0 → gdA (t.1 0 16) (t.1 0 17) (t.1 0 18) (t.2.2.1 3) from by exact fun h0 => hgA (by omega)), (show r_31.toInt = 0 → gdU (t.1 0 16) (t.1 0 17) (t.2.2.1 3) (t.2.2.1 9) (t.1 0 35) (t.1 0 36) from by first | exact fun h0 => hgU (by omega) | (intro h0; exfalso; omega))⟩ (Nat.le_of_ble_eq_true rfl) (Nat.le_of_ble_eq_true rfl) dX12_fault_78
        · replace c_36 : r_31.toInt = 0 := i_eq c_36
          refine lv_aload_n C.1 C.2.1 dX12_fault_54 rfl (lv_at hl 0 rfl) ?_
          have hg1 := (hgU (by omega)).1
          refine g_Vi (As := []) (rest := []) C hP hD hS hA (T_X12_jumps l D K Z Y ad t hok (show (t.1 0 16).toInt = 34 ∨ (t.1 0 16).toInt = 38 → (t.1 0 17).toInt ≤ 19 from by omega)) hE hZ (uwV m_59_4 m_59_5 m_59_6 m_1_5 m_59_7) (hdV 0 (by decide +kernel) rfl) ⟨Nat.le_of_ble_eq_true rfl, Nat.le_of_ble_eq_true rfl⟩ rfl rfl (ci := 11) (q0 := 0) rfl rfl rfl hl.1 (Nat.le_of_ble_eq_true rfl) dX12_fault_55 ⟨Nat.le_of_ble_eq_true rfl, Nat.le_of_ble_eq_true rfl⟩ (fun r_38 t_37 H locs hw hP hD hS => ?_)
          obtain ⟨h_40, h_41⟩ := hw
          refine lv_if_eq (tgt := 77) C.1 C.2.1 dX12_fault_58 (by decide) (fun c_42 => ?_) (fun c_42 => ?_)
          · replace c_42 : r_38.toInt = 0 := i_eq c_42
            refine lv_iload_n C.1 C.2.1 dX12_fault_77 rfl (lv_at hl 1 rfl) ?_
            exact g_iret C hr hlocks hP hD hS rfl () rfl ⟨by omega, by omega, (show r_31.toInt = 0 → gdA (t.1 0 16) (t.1 0 17) (t.1 0 18) (t.2.2.1 3) from by exact fun h0 => hgA (by omega)), (show r_31.toInt = 0 → gdU (t.1 0 16) (t.1 0 17) (t.2.2.1 3) (t.2.2.1 9) (t.1 0 35) (t.1 0 36) from by first | exact fun h0 => hgU (by omega) | (intro h0; exfalso; omega))⟩ (Nat.le_of_ble_eq_true rfl) (Nat.le_of_ble_eq_true rfl) dX12_fault_78
          · replace c_42 : ¬ r_38.toInt = 0 := i_ne c_42
            refine lv_aload_n C.1 C.2.1 dX12_fault_61 rfl (lv_at hl 0 rfl) ?_
            refine lv_aload_n C.1 C.2.1 dX12_fault_62 rfl (lv_at hl 0 rfl) ?_
            refine k_get (v := .int (t.1 0 18)) C hP 0 rfl rfl inlX12 18 (by decide) m_57_5 rfl dX12_fault_63 ?_
            refine g_Vi (As := [.int (t.1 0 18)]) (rest := []) C hP hD hS hA (T_X12_isHere l D K Z Y ad t hok ((t.1 0 18))) hE hZ (uwV m_57_7 m_57_8 m_57_9 m_1_5 m_57_10) (hdV 1 (by decide +kernel) rfl) ⟨Nat.le_of_ble_eq_true rfl, Nat.le_of_ble_eq_true rfl⟩ rfl rfl (ci := 11) (q0 := 0) rfl rfl rfl hl.1 (Nat.le_of_ble_eq_true rfl) dX12_fault_66 ⟨Nat.le_of_ble_eq_true rfl, Nat.le_of_ble_eq_true rfl⟩ (fun r_44 t_43 H locs hw hP hD hS => ?_)
            obtain ⟨h_46, h_47, p_48, p_49⟩ := hw
            replace p_48 : r_44.toInt = 1 → -3999 ≤ (t.1 0 18).toInt ∧ (t.1 0 18).toInt ≤ 3999 := p_48
            replace p_49 : r_44.toInt = 1 → (t.1 0 10).toInt = 0 → 0 ≤ (t.1 0 18).toInt := p_49
            refine lv_if_ne (tgt := 77) C.1 C.2.1 dX12_fault_69 (by decide) (fun c_50 => ?_) (fun c_50 => ?_)
            · replace c_50 : ¬ r_44.toInt = 0 := i_ne c_50
              refine lv_iload_n C.1 C.2.1 dX12_fault_77 rfl (lv_at hl 1 rfl) ?_
              exact g_iret C hr hlocks hP hD hS rfl () rfl ⟨by omega, by omega, (show r_31.toInt = 0 → gdA (t.1 0 16) (t.1 0 17) (t.1 0 18) (t.2.2.1 3) from by exact fun h0 => hgA (by omega)), (show r_31.toInt = 0 → gdU (t.1 0 16) (t.1 0 17) (t.2.2.1 3) (t.2.2.1 9) (t.1 0 35) (t.1 0 36) from by first | exact fun h0 => hgU (by omega) | (intro h0; exfalso; omega))⟩ (Nat.le_of_ble_eq_true rfl) (Nat.le_of_ble_eq_true rfl) dX12_fault_78
            · replace c_50 : r_44.toInt = 0 := i_eq c_50
              refine lv_bipush (v := 7) C.1 C.2.1 dX12_fault_72 (by decide) ?_
              refine lv_goto (tgt := 78) C.1 C.2.1 dX12_fault_74 (by decide) ?_
              exact g_iret C hr hlocks hP hD hS rfl () rfl ⟨by decide, by decide, (show 7 = 0 → gdA (t.1 0 16) (t.1 0 17) (t.1 0 18) (t.2.2.1 3) from by exact fun h0 => hgA (by omega)), (show 7 = 0 → gdU (t.1 0 16) (t.1 0 17) (t.2.2.1 3) (t.2.2.1 9) (t.1 0 35) (t.1 0 36) from by first | exact fun h0 => hgU (by omega) | (intro h0; exfalso; omega))⟩ (Nat.le_of_ble_eq_true rfl) (Nat.le_of_ble_eq_true rfl) dX12_fault_78
      · replace c_28 : ¬ r_24.toInt = 0 := i_ne c_28
        refine lv_iconst (v := 4) C.1 C.2.1 dX12_fault_39 (by decide) ?_
        refine lv_istore_n (lv' := [(1, .int 4), (0, .ref (ad 0))]) C.1 C.2.1 dX12_fault_40 rfl hl (by decide) rfl (fun ls hl => ?_)
        have hl : lv_has ls 2 [(0, .ref (ad 0)), (1, .int 4)] := lv_sub hl [1, 0] rfl
        refine lv_iload_n C.1 C.2.1 dX12_fault_41 rfl (lv_at hl 1 rfl) ?_
        refine lv_if_ne (tgt := 50) C.1 C.2.1 dX12_fault_42 (by decide) (fun _ => ?_) (fun h => absurd h (by decide))
        refine lv_iload_n C.1 C.2.1 dX12_fault_50 rfl (lv_at hl 1 rfl) ?_
        refine lv_if_ne (tgt := 77) C.1 C.2.1 dX12_fault_51 (by decide) (fun _ => ?_) (fun h => absurd h (by decide))
        refine lv_iload_n C.1 C.2.1 dX12_fault_77 rfl (lv_at hl 1 rfl) ?_
        exact g_iret C hr hlocks hP hD hS rfl () rfl ⟨by decide, by decide, (show 4 = 0 → gdA (t.1 0 16) (t.1 0 17) (t.1 0 18) (t.2.2.1 3) from by exact fun h0 => hgA (by omega)), (show 4 = 0 → gdU (t.1 0 16) (t.1 0 17) (t.2.2.1 3) (t.2.2.1 9) (t.1 0 35) (t.1 0 36) from by first | exact fun h0 => hgU (by omega) | (intro h0; exfalso; omega))⟩ (Nat.le_of_ble_eq_true rfl) (Nat.le_of_ble_eq_true rfl) dX12_fault_78
    · replace c_21 : ¬ r_17.toInt = 0 := i_ne c_21
      refine lv_aload_n C.1 C.2.1 dX12_fault_16 rfl (lv_at hl 0 rfl) ?_
      refine k_get (v := .int (t.1 0 17)) C hP 0 rfl rfl inlX12 17 (by decide) m_57_4 rfl dX12_fault_17 ?_
      refine g_Si (As := [.int (t.1 0 17)]) (rest := []) C hP hD hS hA (T_X12_isField l D K Z Y ad t hok ((t.1 0 17))) hE hZ (uwS m_37_0 m_37_1 m_1_5 m_37_2) (hdS 1 (by decide +kernel) rfl) ⟨Nat.le_of_ble_eq_true rfl, Nat.le_of_ble_eq_true rfl⟩ rfl rfl rfl hl.1 (Nat.le_of_ble_eq_true rfl) dX12_fault_20 ⟨Nat.le_of_ble_eq_true rfl, Nat.le_of_ble_eq_true rfl⟩ (fun r_52 t_51 H locs hw hP hD hS => ?_)
      obtain ⟨h_54, h_55⟩ := hw
      refine lv_if_ne (tgt := 28) C.1 C.2.1 dX12_fault_23 (by decide) (fun c_56 => ?_) (fun c_56 => ?_)
      · replace c_56 : ¬ r_52.toInt = 0 := i_ne c_56
        refine lv_iload_n C.1 C.2.1 dX12_fault_28 rfl (lv_at hl 1 rfl) ?_
        refine lv_if_ne (tgt := 41) C.1 C.2.1 dX12_fault_29 (by decide) (fun c_57 => False.elim (by have c_57 : ¬ r_7.toInt = 0 := i_ne c_57; omega)) (fun c_57 => ?_)
        replace c_57 : r_7.toInt = 0 := i_eq c_57
        refine lv_aload_n C.1 C.2.1 dX12_fault_32 rfl (lv_at hl 0 rfl) ?_
        have hg0 := (hgA (by omega)).1
        refine g_Vi (As := []) (rest := []) C hP hD hS hA (T_X12_isTooMuch l D K Z Y ad t hok (show (t.1 0 16).toInt > 8 ∧ (t.1 0 16).toInt < 15 ∨ (t.1 0 16).toInt > 16 ∧ (t.1 0 16).toInt < 23 → -3999 ≤ (t.1 0 18).toInt ∧ (t.1 0 18).toInt ≤ 3999 from by omega)) hE hZ (uwV m_58_13 m_58_14 m_58_15 m_1_5 m_58_16) (hdV 0 (by decide +kernel) rfl) ⟨Nat.le_of_ble_eq_true rfl, Nat.le_of_ble_eq_true rfl⟩ rfl rfl (ci := 11) (q0 := 0) rfl rfl rfl hl.1 (Nat.le_of_ble_eq_true rfl) dX12_fault_33 ⟨Nat.le_of_ble_eq_true rfl, Nat.le_of_ble_eq_true rfl⟩ (fun r_59 t_58 H locs hw hP hD hS => ?_)
        obtain ⟨h_61, h_62⟩ := hw
        refine lv_if_eq (tgt := 41) C.1 C.2.1 dX12_fault_36 (by decide) (fun c_63 => ?_) (fun c_63 => ?_)
        · replace c_63 : r_59.toInt = 0 := i_eq c_63
          refine lv_iload_n C.1 C.2.1 dX12_fault_41 rfl (lv_at hl 1 rfl) ?_
          refine lv_if_ne (tgt := 50) C.1 C.2.1 dX12_fault_42 (by decide) (fun c_64 => False.elim (by have c_64 : ¬ r_7.toInt = 0 := i_ne c_64; omega)) (fun c_64 => ?_)
          replace c_64 : r_7.toInt = 0 := i_eq c_64
          refine lv_aload_n C.1 C.2.1 dX12_fault_45 rfl (lv_at hl 0 rfl) ?_
          refine g_Vi (As := []) (rest := []) C hP hD hS hA (T_X12_unitFault l D K Z Y ad t hok ) hE hZ (uwV m_58_20 m_58_21 m_58_22 m_1_5 m_58_23) (hdV 0 (by decide +kernel) rfl) ⟨Nat.le_of_ble_eq_true rfl, Nat.le_of_ble_eq_true rfl⟩ rfl rfl (ci := 11) (q0 := 0) rfl rfl rfl hl.1 (Nat.le_of_ble_eq_true rfl) dX12_fault_46 ⟨Nat.le_of_ble_eq_true rfl, Nat.le_of_ble_eq_true rfl⟩ (fun r_66 t_65 H locs hw hP hD hS => ?_)
          obtain ⟨h_68, h_69, p_70⟩ := hw
          replace p_70 : r_66.toInt = 0 → gdU (t.1 0 16) (t.1 0 17) (t.2.2.1 3) (t.2.2.1 9) (t.1 0 35) (t.1 0 36) := p_70
          have hgU := p_70
          refine lv_istore_n (lv' := [(1, .int r_66), (0, .ref (ad 0))]) C.1 C.2.1 dX12_fault_49 rfl hl (by decide) rfl (fun ls hl => ?_)
          have hl : lv_has ls 2 [(0, .ref (ad 0)), (1, .int r_66)] := lv_sub hl [1, 0] rfl
          refine lv_iload_n C.1 C.2.1 dX12_fault_50 rfl (lv_at hl 1 rfl) ?_
          refine lv_if_ne (tgt := 77) C.1 C.2.1 dX12_fault_51 (by decide) (fun c_71 => ?_) (fun c_71 => ?_)
          · replace c_71 : ¬ r_66.toInt = 0 := i_ne c_71
            refine lv_iload_n C.1 C.2.1 dX12_fault_77 rfl (lv_at hl 1 rfl) ?_
            exact g_iret C hr hlocks hP hD hS rfl () rfl ⟨by omega, by omega, (show r_66.toInt = 0 → gdA (t.1 0 16) (t.1 0 17) (t.1 0 18) (t.2.2.1 3) from by exact fun h0 => hgA (by omega)), (show r_66.toInt = 0 → gdU (t.1 0 16) (t.1 0 17) (t.2.2.1 3) (t.2.2.1 9) (t.1 0 35) (t.1 0 36) from by first | exact fun h0 => hgU (by omega) | (intro h0; exfalso; omega))⟩ (Nat.le_of_ble_eq_true rfl) (Nat.le_of_ble_eq_true rfl) dX12_fault_78
          · replace c_71 : r_66.toInt = 0 := i_eq c_71
            refine lv_aload_n C.1 C.2.1 dX12_fault_54 rfl (lv_at hl 0 rfl) ?_
            have hg1 := (hgU (by omega)).1
            refine g_Vi (As := []) (rest := []) C hP hD hS hA (T_X12_jumps l D K Z Y ad t hok (show (t.1 0 16).toInt = 34 ∨ (t.1 0 16).toInt = 38 → (t.1 0 17).toInt ≤ 19 from by omega)) hE hZ (uwV m_59_4 m_59_5 m_59_6 m_1_5 m_59_7) (hdV 0 (by decide +kernel) rfl) ⟨Nat.le_of_ble_eq_true rfl, Nat.le_of_ble_eq_true rfl⟩ rfl rfl (ci := 11) (q0 := 0) rfl rfl rfl hl.1 (Nat.le_of_ble_eq_true rfl) dX12_fault_55 ⟨Nat.le_of_ble_eq_true rfl, Nat.le_of_ble_eq_true rfl⟩ (fun r_73 t_72 H locs hw hP hD hS => ?_)
            obtain ⟨h_75, h_76⟩ := hw
            refine lv_if_eq (tgt := 77) C.1 C.2.1 dX12_fault_58 (by decide) (fun c_77 => ?_) (fun c_77 => ?_)
            · replace c_77 : r_73.toInt = 0 := i_eq c_77
              refine lv_iload_n C.1 C.2.1 dX12_fault_77 rfl (lv_at hl 1 rfl) ?_
              exact g_iret C hr hlocks hP hD hS rfl () rfl ⟨by omega, by omega, (show r_66.toInt = 0 → gdA (t.1 0 16) (t.1 0 17) (t.1 0 18) (t.2.2.1 3) from by exact fun h0 => hgA (by omega)), (show r_66.toInt = 0 → gdU (t.1 0 16) (t.1 0 17) (t.2.2.1 3) (t.2.2.1 9) (t.1 0 35) (t.1 0 36) from by first | exact fun h0 => hgU (by omega) | (intro h0; exfalso; omega))⟩ (Nat.le_of_ble_eq_true rfl) (Nat.le_of_ble_eq_true rfl) dX12_fault_78
            · replace c_77 : ¬ r_73.toInt = 0 := i_ne c_77
              refine lv_aload_n C.1 C.2.1 dX12_fault_61 rfl (lv_at hl 0 rfl) ?_
              refine lv_aload_n C.1 C.2.1 dX12_fault_62 rfl (lv_at hl 0 rfl) ?_
              refine k_get (v := .int (t.1 0 18)) C hP 0 rfl rfl inlX12 18 (by decide) m_57_5 rfl dX12_fault_63 ?_
              refine g_Vi (As := [.int (t.1 0 18)]) (rest := []) C hP hD hS hA (T_X12_isHere l D K Z Y ad t hok ((t.1 0 18))) hE hZ (uwV m_57_7 m_57_8 m_57_9 m_1_5 m_57_10) (hdV 1 (by decide +kernel) rfl) ⟨Nat.le_of_ble_eq_true rfl, Nat.le_of_ble_eq_true rfl⟩ rfl rfl (ci := 11) (q0 := 0) rfl rfl rfl hl.1 (Nat.le_of_ble_eq_true rfl) dX12_fault_66 ⟨Nat.le_of_ble_eq_true rfl, Nat.le_of_ble_eq_true rfl⟩ (fun r_79 t_78 H locs hw hP hD hS => ?_)
              obtain ⟨h_81, h_82, p_83, p_84⟩ := hw
              replace p_83 : r_79.toInt = 1 → -3999 ≤ (t.1 0 18).toInt ∧ (t.1 0 18).toInt ≤ 3999 := p_83
              replace p_84 : r_79.toInt = 1 → (t.1 0 10).toInt = 0 → 0 ≤ (t.1 0 18).toInt := p_84
              refine lv_if_ne (tgt := 77) C.1 C.2.1 dX12_fault_69 (by decide) (fun c_85 => ?_) (fun c_85 => ?_)
              · replace c_85 : ¬ r_79.toInt = 0 := i_ne c_85
                refine lv_iload_n C.1 C.2.1 dX12_fault_77 rfl (lv_at hl 1 rfl) ?_
                exact g_iret C hr hlocks hP hD hS rfl () rfl ⟨by omega, by omega, (show r_66.toInt = 0 → gdA (t.1 0 16) (t.1 0 17) (t.1 0 18) (t.2.2.1 3) from by exact fun h0 => hgA (by omega)), (show r_66.toInt = 0 → gdU (t.1 0 16) (t.1 0 17) (t.2.2.1 3) (t.2.2.1 9) (t.1 0 35) (t.1 0 36) from by first | exact fun h0 => hgU (by omega) | (intro h0; exfalso; omega))⟩ (Nat.le_of_ble_eq_true rfl) (Nat.le_of_ble_eq_true rfl) dX12_fault_78
              · replace c_85 : r_79.toInt = 0 := i_eq c_85
                refine lv_bipush (v := 7) C.1 C.2.1 dX12_fault_72 (by decide) ?_
                refine lv_goto (tgt := 78) C.1 C.2.1 dX12_fault_74 (by decide) ?_
                exact g_iret C hr hlocks hP hD hS rfl () rfl ⟨by decide, by decide, (show 7 = 0 → gdA (t.1 0 16) (t.1 0 17) (t.1 0 18) (t.2.2.1 3) from by exact fun h0 => hgA (by omega)), (show 7 = 0 → gdU (t.1 0 16) (t.1 0 17) (t.2.2.1 3) (t.2.2.1 9) (t.1 0 35) (t.1 0 36) from by first | exact fun h0 => hgU (by omega) | (intro h0; exfalso; omega))⟩ (Nat.le_of_ble_eq_true rfl) (Nat.le_of_ble_eq_true rfl) dX12_fault_78
        · replace c_63 : ¬ r_59.toInt = 0 := i_ne c_63
          refine lv_iconst (v := 4) C.1 C.2.1 dX12_fault_39 (by decide) ?_
          refine lv_istore_n (lv' := [(1, .int 4), (0, .ref (ad 0))]) C.1 C.2.1 dX12_fault_40 rfl hl (by decide) rfl (fun ls hl => ?_)
          have hl : lv_has ls 2 [(0, .ref (ad 0)), (1, .int 4)] := lv_sub hl [1, 0] rfl
          refine lv_iload_n C.1 C.2.1 dX12_fault_41 rfl (lv_at hl 1 rfl) ?_
          refine lv_if_ne (tgt := 50) C.1 C.2.1 dX12_fault_42 (by decide) (fun _ => ?_) (fun h => absurd h (by decide))
          refine lv_iload_n C.1 C.2.1 dX12_fault_50 rfl (lv_at hl 1 rfl) ?_
          refine lv_if_ne (tgt := 77) C.1 C.2.1 dX12_fault_51 (by decide) (fun _ => ?_) (fun h => absurd h (by decide))
          refine lv_iload_n C.1 C.2.1 dX12_fault_77 rfl (lv_at hl 1 rfl) ?_
          exact g_iret C hr hlocks hP hD hS rfl () rfl ⟨by decide, by decide, (show 4 = 0 → gdA (t.1 0 16) (t.1 0 17) (t.1 0 18) (t.2.2.1 3) from by exact fun h0 => hgA (by omega)), (show 4 = 0 → gdU (t.1 0 16) (t.1 0 17) (t.2.2.1 3) (t.2.2.1 9) (t.1 0 35) (t.1 0 36) from by first | exact fun h0 => hgU (by omega) | (intro h0; exfalso; omega))⟩ (Nat.le_of_ble_eq_true rfl) (Nat.le_of_ble_eq_true rfl) dX12_fault_78
      · replace c_56 : r_52.toInt = 0 := i_eq c_56
        refine lv_iconst (v := 3) C.1 C.2.1 dX12_fault_26 (by decide) ?_
        refine lv_istore_n (lv' := [(1, .int 3), (0, .ref (ad 0))]) C.1 C.2.1 dX12_fault_27 rfl hl (by decide) rfl (fun ls hl => ?_)
        have hl : lv_has ls 2 [(0, .ref (ad 0)), (1, .int 3)] := lv_sub hl [1, 0] rfl
        refine lv_iload_n C.1 C.2.1 dX12_fault_28 rfl (lv_at hl 1 rfl) ?_
        refine lv_if_ne (tgt := 41) C.1 C.2.1 dX12_fault_29 (by decide) (fun _ => ?_) (fun h => absurd h (by decide))
        refine lv_iload_n C.1 C.2.1 dX12_fault_41 rfl (lv_at hl 1 rfl) ?_
        refine lv_if_ne (tgt := 50) C.1 C.2.1 dX12_fault_42 (by decide) (fun _ => ?_) (fun h => absurd h (by decide))
        refine lv_iload_n C.1 C.2.1 dX12_fault_50 rfl (lv_at hl 1 rfl) ?_
        refine lv_if_ne (tgt := 77) C.1 C.2.1 dX12_fault_51 (by decide) (fun _ => ?_) (fun h => absurd h (by decide))
        refine lv_iload_n C.1 C.2.1 dX12_fault_77 rfl (lv_at hl 1 rfl) ?_
        exact g_iret C hr hlocks hP hD hS rfl () rfl ⟨by decide, by decide, (show 3 = 0 → gdA (t.1 0 16) (t.1 0 17) (t.1 0 18) (t.2.2.1 3) from by exact fun h0 => hgA (by omega)), (show 3 = 0 → gdU (t.1 0 16) (t.1 0 17) (t.2.2.1 3) (t.2.2.1 9) (t.1 0 35) (t.1 0 36) from by first | exact fun h0 => hgU (by omega) | (intro h0; exfalso; omega))⟩ (Nat.le_of_ble_eq_true rfl) (Nat.le_of_ble_eq_true rfl) dX12_fault_78
