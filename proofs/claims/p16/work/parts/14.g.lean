theorem dX12_define_0 : decode cX12_define 0 = .ok (.aload_n 0, 1) := by decide +kernel
theorem dX12_define_1 : decode cX12_define 1 = .ok (.iconst 1, 1) := by decide +kernel
theorem dX12_define_10 : decode cX12_define 10 = .ok (.return_, 1) := by decide +kernel
theorem dX12_define_100 : decode cX12_define 100 = .ok (.aload_n 0, 1) := by decide +kernel
theorem dX12_define_101 : decode cX12_define 101 = .ok (.getfield 113, 3) := by decide +kernel
theorem dX12_define_104 : decode cX12_define 104 = .ok (.iload 4, 2) := by decide +kernel
theorem dX12_define_106 : decode cX12_define 106 = .ok (.iaload, 1) := by decide +kernel
theorem dX12_define_107 : decode cX12_define 107 = .ok (.iload_n 3, 1) := by decide +kernel
theorem dX12_define_108 : decode cX12_define 108 = .ok (.if_icmp .ne 46, 3) := by decide +kernel
theorem dX12_define_11 : decode cX12_define 11 = .ok (.aload_n 0, 1) := by decide +kernel
theorem dX12_define_111 : decode cX12_define 111 = .ok (.aload_n 0, 1) := by decide +kernel
theorem dX12_define_112 : decode cX12_define 112 = .ok (.getfield 125, 3) := by decide +kernel
theorem dX12_define_115 : decode cX12_define 115 = .ok (.iload 4, 2) := by decide +kernel
theorem dX12_define_117 : decode cX12_define 117 = .ok (.baload, 1) := by decide +kernel
theorem dX12_define_118 : decode cX12_define 118 = .ok (.ifCond .ne 36, 3) := by decide +kernel
theorem dX12_define_12 : decode cX12_define 12 = .ok (.iconst 1, 1) := by decide +kernel
theorem dX12_define_121 : decode cX12_define 121 = .ok (.aload_n 0, 1) := by decide +kernel
theorem dX12_define_122 : decode cX12_define 122 = .ok (.getfield 116, 3) := by decide +kernel
theorem dX12_define_125 : decode cX12_define 125 = .ok (.iload 4, 2) := by decide +kernel
theorem dX12_define_127 : decode cX12_define 127 = .ok (.iaload, 1) := by decide +kernel
theorem dX12_define_128 : decode cX12_define 128 = .ok (.aload_n 0, 1) := by decide +kernel
theorem dX12_define_129 : decode cX12_define 129 = .ok (.getfield 443, 3) := by decide +kernel
theorem dX12_define_13 : decode cX12_define 13 = .ok (.bipush 10, 2) := by decide +kernel
theorem dX12_define_132 : decode cX12_define 132 = .ok (.if_icmp .ne 6, 3) := by decide +kernel
theorem dX12_define_135 : decode cX12_define 135 = .ok (.goto 19, 3) := by decide +kernel
theorem dX12_define_138 : decode cX12_define 138 = .ok (.aload_n 0, 1) := by decide +kernel
theorem dX12_define_139 : decode cX12_define 139 = .ok (.getfield 122, 3) := by decide +kernel
theorem dX12_define_142 : decode cX12_define 142 = .ok (.iload 4, 2) := by decide +kernel
theorem dX12_define_144 : decode cX12_define 144 = .ok (.iload_n 1, 1) := by decide +kernel
theorem dX12_define_145 : decode cX12_define 145 = .ok (.iastore, 1) := by decide +kernel
theorem dX12_define_146 : decode cX12_define 146 = .ok (.aload_n 0, 1) := by decide +kernel
theorem dX12_define_147 : decode cX12_define 147 = .ok (.getfield 125, 3) := by decide +kernel
theorem dX12_define_15 : decode cX12_define 15 = .ok (.invokevirtual 575, 3) := by decide +kernel
theorem dX12_define_150 : decode cX12_define 150 = .ok (.iload 4, 2) := by decide +kernel
theorem dX12_define_152 : decode cX12_define 152 = .ok (.iconst 1, 1) := by decide +kernel
theorem dX12_define_153 : decode cX12_define 153 = .ok (.bastore, 1) := by decide +kernel
theorem dX12_define_154 : decode cX12_define 154 = .ok (.iinc 4 1, 3) := by decide +kernel
theorem dX12_define_157 : decode cX12_define 157 = .ok (.goto (-77), 3) := by decide +kernel
theorem dX12_define_160 : decode cX12_define 160 = .ok (.return_, 1) := by decide +kernel
theorem dX12_define_18 : decode cX12_define 18 = .ok (.istore_n 2, 1) := by decide +kernel
theorem dX12_define_19 : decode cX12_define 19 = .ok (.aload_n 0, 1) := by decide +kernel
theorem dX12_define_2 : decode cX12_define 2 = .ok (.invokevirtual 446, 3) := by decide +kernel
theorem dX12_define_20 : decode cX12_define 20 = .ok (.iconst 1, 1) := by decide +kernel
theorem dX12_define_21 : decode cX12_define 21 = .ok (.iload_n 2, 1) := by decide +kernel
theorem dX12_define_22 : decode cX12_define 22 = .ok (.invokevirtual 481, 3) := by decide +kernel
theorem dX12_define_25 : decode cX12_define 25 = .ok (.ifCond .ne 29, 3) := by decide +kernel
theorem dX12_define_28 : decode cX12_define 28 = .ok (.aload_n 0, 1) := by decide +kernel
theorem dX12_define_29 : decode cX12_define 29 = .ok (.aload_n 0, 1) := by decide +kernel
theorem dX12_define_30 : decode cX12_define 30 = .ok (.iconst 1, 1) := by decide +kernel
theorem dX12_define_31 : decode cX12_define 31 = .ok (.iload_n 2, 1) := by decide +kernel
theorem dX12_define_32 : decode cX12_define 32 = .ok (.invokevirtual 484, 3) := by decide +kernel
theorem dX12_define_35 : decode cX12_define 35 = .ok (.invokevirtual 552, 3) := by decide +kernel
theorem dX12_define_38 : decode cX12_define 38 = .ok (.istore_n 3, 1) := by decide +kernel
theorem dX12_define_39 : decode cX12_define 39 = .ok (.aload_n 0, 1) := by decide +kernel
theorem dX12_define_40 : decode cX12_define 40 = .ok (.getfield 92, 3) := by decide +kernel
theorem dX12_define_43 : decode cX12_define 43 = .ok (.iload_n 3, 1) := by decide +kernel
theorem dX12_define_44 : decode cX12_define 44 = .ok (.iload_n 1, 1) := by decide +kernel
theorem dX12_define_45 : decode cX12_define 45 = .ok (.iastore, 1) := by decide +kernel
theorem dX12_define_46 : decode cX12_define 46 = .ok (.aload_n 0, 1) := by decide +kernel
theorem dX12_define_47 : decode cX12_define 47 = .ok (.getfield 95, 3) := by decide +kernel
theorem dX12_define_5 : decode cX12_define 5 = .ok (.bipush 32, 2) := by decide +kernel
theorem dX12_define_50 : decode cX12_define 50 = .ok (.iload_n 3, 1) := by decide +kernel
theorem dX12_define_51 : decode cX12_define 51 = .ok (.iconst 1, 1) := by decide +kernel
theorem dX12_define_52 : decode cX12_define 52 = .ok (.bastore, 1) := by decide +kernel
theorem dX12_define_53 : decode cX12_define 53 = .ok (.return_, 1) := by decide +kernel
theorem dX12_define_54 : decode cX12_define 54 = .ok (.aload_n 0, 1) := by decide +kernel
theorem dX12_define_55 : decode cX12_define 55 = .ok (.iconst 1, 1) := by decide +kernel
theorem dX12_define_56 : decode cX12_define 56 = .ok (.invokevirtual 446, 3) := by decide +kernel
theorem dX12_define_59 : decode cX12_define 59 = .ok (.bipush 48, 2) := by decide +kernel
theorem dX12_define_61 : decode cX12_define 61 = .ok (.isub, 1) := by decide +kernel
theorem dX12_define_62 : decode cX12_define 62 = .ok (.istore_n 3, 1) := by decide +kernel
theorem dX12_define_63 : decode cX12_define 63 = .ok (.aload_n 0, 1) := by decide +kernel
theorem dX12_define_64 : decode cX12_define 64 = .ok (.getfield 104, 3) := by decide +kernel
theorem dX12_define_67 : decode cX12_define 67 = .ok (.iload_n 3, 1) := by decide +kernel
theorem dX12_define_68 : decode cX12_define 68 = .ok (.iload_n 1, 1) := by decide +kernel
theorem dX12_define_69 : decode cX12_define 69 = .ok (.iastore, 1) := by decide +kernel
theorem dX12_define_7 : decode cX12_define 7 = .ok (.if_icmp .ne 4, 3) := by decide +kernel
theorem dX12_define_70 : decode cX12_define 70 = .ok (.aload_n 0, 1) := by decide +kernel
theorem dX12_define_71 : decode cX12_define 71 = .ok (.getfield 107, 3) := by decide +kernel
theorem dX12_define_74 : decode cX12_define 74 = .ok (.iload_n 3, 1) := by decide +kernel
theorem dX12_define_75 : decode cX12_define 75 = .ok (.iconst 1, 1) := by decide +kernel
theorem dX12_define_76 : decode cX12_define 76 = .ok (.bastore, 1) := by decide +kernel
theorem dX12_define_77 : decode cX12_define 77 = .ok (.iconst 0, 1) := by decide +kernel
theorem dX12_define_78 : decode cX12_define 78 = .ok (.istore 4, 2) := by decide +kernel
theorem dX12_define_80 : decode cX12_define 80 = .ok (.iload 4, 2) := by decide +kernel
theorem dX12_define_82 : decode cX12_define 82 = .ok (.aload_n 0, 1) := by decide +kernel
theorem dX12_define_83 : decode cX12_define 83 = .ok (.getfield 572, 3) := by decide +kernel
theorem dX12_define_86 : decode cX12_define 86 = .ok (.if_icmp .ge 74, 3) := by decide +kernel
theorem dX12_define_89 : decode cX12_define 89 = .ok (.aload_n 0, 1) := by decide +kernel
theorem dX12_define_90 : decode cX12_define 90 = .ok (.getfield 110, 3) := by decide +kernel
theorem dX12_define_93 : decode cX12_define 93 = .ok (.iload 4, 2) := by decide +kernel
theorem dX12_define_95 : decode cX12_define 95 = .ok (.iaload, 1) := by decide +kernel
theorem dX12_define_96 : decode cX12_define 96 = .ok (.iconst 1, 1) := by decide +kernel
theorem dX12_define_97 : decode cX12_define 97 = .ok (.if_icmp .ne 57, 3) := by decide +kernel
set_option maxHeartbeats 4000000 in
set_option maxRecDepth 100000 in
theorem T_X12_define (l : Launch) (D : va_G) (K : Nat → ClassId) (Z Y : Nat → Nat) (ad : Nat → Nat) (t : tSt) (hok : okM t) (x1 : Int32) (hs0 : (t.1 0 52).toInt ≤ 1199) : tMet l yX12_define cX12_define 5 none (rmD 10 0 0) D K Z Y [.ref (ad 0), .int x1] (WM K ad t) (QV D K (fun (u : tSt) => okM u ∧ frA [(0, 52)] [] [24, 25, 26, 28, 29, 34, 35] [23] t u ∧ ((t.1 0 52).toInt ≤ (u.1 0 52).toInt) ∧ ((u.1 0 52).toInt ≤ (t.1 0 52).toInt + 1)) (fun (u : tSt) => WM K ad u)) 0 0 := by
  refine t_met RX12 ⟨rfl, by decide +kernel⟩ (Nat.le_of_ble_eq_true rfl) ?_
  intro p e s m below meth c A ls C hE hZ hr hlocks hA hP hD hS hl
  have hl : lv_has ls 5 [(0, .ref (ad 0)), (1, .int x1)] := hl
  have hokt := hok
  have hfr : frA [(0, 52)] [] [24, 25, 26, 28, 29, 34, 35] [23] t t := frA_rf
  have h_1 : (0 : Int) ≤ (t.1 0 52).toInt ∧ (t.1 0 52).toInt ≤ 1200 := hok.1 0 52
  have h_2 : (0 : Int) ≤ (t.1 0 67).toInt ∧ (t.1 0 67).toInt ≤ 1281 := hok.1 0 67
  have L_80 : ∀ (fuel_80 : Nat) (t1 : tSt) (w80_2 : Int32) (w80_3 : Int32) (w80_4 : Int32) (H : Heap) (locs : List Loc) (ls : Array Slot), okM t1 → frA [(0, 52)] [] [24, 25, 26, 28, 29, 34, 35] [23] t t1 → (0 : Int) ≤ w80_2.toInt ∧ w80_2.toInt ≤ 16 → (-48 : Int) ≤ w80_3.toInt ∧ w80_3.toInt ≤ 207 → (0 : Int) ≤ w80_4.toInt ∧ w80_4.toInt ≤ 1260 → ((t1.1 0 52).toInt = (t.1 0 52).toInt) → (1260 : Int) - w80_4.toInt < (fuel_80 : Int) → va_P D vwCl (WM K ad t1) H → va_D A (WM K ad t1) → va_S A s.heap H locs → lv_has ls 5 [(0, .ref (ad 0)), (1, .int x1), (2, .int w80_2), (3, .int w80_3), (4, .int w80_4)] → W p l e (rmD 10 0 0) s m [.ref (ad 0), .int x1].toArray below meth c H locs 0 0 (MQ below (QV D K (fun (u : tSt) => okM u ∧ frA [(0, 52)] [] [24, 25, 26, 28, 29, 34, 35] [23] t u ∧ ((t.1 0 52).toInt ≤ (u.1 0 52).toInt) ∧ ((u.1 0 52).toInt ≤ (t.1 0 52).toInt + 1)) (fun (u : tSt) => WM K ad u) A) [.ref (ad 0), .int x1].toArray s 0 0 A) (F0 m 80 ls []) := by
    intro fuel_80
    induction fuel_80 with
    | zero =>
      intro t1 w80_2 w80_3 w80_4 H locs ls hok hfr hw80_2 hw80_3 hw80_4 hi80_0 hm80_80 hP hD hS hl
      have h_3 : (t1.1 0 67).toInt = (t.1 0 67).toInt := ti_eq (hfr.1 0 67 rfl)
      have e_4 : t1.2.2.1 19 = t.2.2.1 19 := hfr.2.2.1 19 rfl
      have e_5 : t1.2.2.1 20 = t.2.2.1 20 := hfr.2.2.1 20 rfl
      have h_6 : (0 : Int) ≤ (t1.1 0 52).toInt ∧ (t1.1 0 52).toInt ≤ 1200 := hok.1 0 52
      have h_7 : (0 : Int) ≤ (t1.1 0 67).toInt ∧ (t1.1 0 67).toInt ≤ 1281 := hok.1 0 67
      exact absurd hm80_80 (by omega)
    | succ fuel_80 ih_80 =>
      intro t1 w80_2 w80_3 w80_4 H locs ls hok hfr hw80_2 hw80_3 hw80_4 hi80_0 hm80_80 hP hD hS hl
      have hm80_80 : (1260 : Int) - w80_4.toInt < (fuel_80 : Int) + 1 := by omega
      have h_8 : (t1.1 0 67).toInt = (t.1 0 67).toInt := ti_eq (hfr.1 0 67 rfl)
      have e_9 : t1.2.2.1 19 = t.2.2.1 19 := hfr.2.2.1 19 rfl
      have e_10 : t1.2.2.1 20 = t.2.2.1 20 := hfr.2.2.1 20 rfl
      have h_11 : (0 : Int) ≤ (t1.1 0 52).toInt ∧ (t1.1 0 52).toInt ≤ 1200 := hok.1 0 52
      have h_12 : (0 : Int) ≤ (t1.1 0 67).toInt ∧ (t1.1 0 67).toInt ≤ 1281 := hok.1 0 67
      have L_154 : ∀ (t1 : tSt) (w154_2 : Int32) (w154_3 : Int32) (w154_4 : Int32) (H : Heap) (locs : List Loc) (ls : Array Slot), okM t1 → frA [(0, 52)] [] [24, 25, 26, 28, 29, 34, 35] [23] t t1 → (0 : Int) ≤ w154_2.toInt ∧ w154_2.toInt ≤ 16 → (-48 : Int) ≤ w154_3.toInt ∧ w154_3.toInt ≤ 207 → (0 : Int) ≤ w154_4.toInt ∧ w154_4.toInt ≤ 1199 → (1 : Int) ≤ (t1.1 0 60).toInt ∧ (t1.1 0 60).toInt ≤ 1200 → ((t1.1 0 52).toInt = (t.1 0 52).toInt) → (1260 : Int) - w154_4.toInt < (fuel_80 : Int) + 1 → va_P D vwCl (WM K ad t1) H → va_D A (WM K ad t1) → va_S A s.heap H locs → lv_has ls 5 [(0, .ref (ad 0)), (1, .int x1), (2, .int w154_2), (3, .int w154_3), (4, .int w154_4)] → W p l e (rmD 10 0 0) s m [.ref (ad 0), .int x1].toArray below meth c H locs 0 0 (MQ below (QV D K (fun (u : tSt) => okM u ∧ frA [(0, 52)] [] [24, 25, 26, 28, 29, 34, 35] [23] t u ∧ ((t.1 0 52).toInt ≤ (u.1 0 52).toInt) ∧ ((u.1 0 52).toInt ≤ (t.1 0 52).toInt + 1)) (fun (u : tSt) => WM K ad u) A) [.ref (ad 0), .int x1].toArray s 0 0 A) (F0 m 154 ls []) := by
        intro t1 w154_2 w154_3 w154_4 H locs ls hok hfr hw154_2 hw154_3 hw154_4 hf154_60 hi154_0 hm154_80 hP hD hS hl
        have h_13 : (t1.1 0 67).toInt = (t.1 0 67).toInt := ti_eq (hfr.1 0 67 rfl)
        have e_14 : t1.2.2.1 19 = t.2.2.1 19 := hfr.2.2.1 19 rfl
        have e_15 : t1.2.2.1 20 = t.2.2.1 20 := hfr.2.2.1 20 rfl
        have h_16 : (0 : Int) ≤ (t1.1 0 52).toInt ∧ (t1.1 0 52).toInt ≤ 1200 := hok.1 0 52
        have h_17 : (0 : Int) ≤ (t1.1 0 67).toInt ∧ (t1.1 0 67).toInt ≤ 1281 := hok.1 0 67
        obtain ⟨v_18, e_19⟩ : ∃ z, z = w154_4 + 1 := ⟨_, rfl⟩
        have h_20 : v_18.toInt = w154_4.toInt + 1 := by rw [e_19]; exact ti_iadd (by show (_ : Int) ≤ w154_4.toInt + 1; omega) (by show w154_4.toInt + 1 < (_ : Int); omega)
        refine lv_iinc (v := v_18) (lv' := [(4, .int v_18), (0, .ref (ad 0)), (1, .int x1), (2, .int w154_2), (3, .int w154_3)]) C.1 C.2.1 dX12_define_154 hl (k := 4) rfl e_19.symm (by decide) rfl (fun ls hl => ?_)
        have hl : lv_has ls 5 [(0, .ref (ad 0)), (1, .int x1), (2, .int w154_2), (3, .int w154_3), (4, .int v_18)] := lv_sub hl [1, 2, 3, 4, 0] rfl
        refine lv_goto (tgt := 80) C.1 C.2.1 dX12_define_157 (by decide) ?_
        exact ih_80 t1 w154_2 w154_3 v_18 _ _ _ hok hfr ⟨by omega, by omega⟩ ⟨by omega, by omega⟩ ⟨by omega, by omega⟩ (show (t1.1 0 52).toInt = (t.1 0 52).toInt from by omega) (show (1260 : Int) - v_18.toInt < (fuel_80 : Int) from by omega) hP hD hS (lv_sub hl [0, 1, 2, 3, 4] rfl)
      refine lv_iload C.1 C.2.1 dX12_define_80 (lv_at hl 4 rfl) ?_
      refine lv_aload_n C.1 C.2.1 dX12_define_82 rfl (lv_at hl 0 rfl) ?_
      have h_21 : (0 : Int) ≤ (t1.1 0 60).toInt ∧ (t1.1 0 60).toInt ≤ 1200 := hok.1 0 60
      refine k_get (v := .int (t1.1 0 60)) C hP 0 rfl rfl inlX12 60 (by decide) m_30_18 rfl dX12_define_83 ?_
      refine lv_icmp_ge (tgt := 160) C.1 C.2.1 dX12_define_86 (by decide) (fun c_22 => ?_) (fun c_22 => ?_)
      · replace c_22 : (t1.1 0 60).toInt ≤ w80_4.toInt := i_le c_22
        exact g_vret C hr hlocks hP hD hS t1 rfl ⟨hok, hfr, (show (t.1 0 52).toInt ≤ (t1.1 0 52).toInt from by omega), (show (t1.1 0 52).toInt ≤ (t.1 0 52).toInt + 1 from by omega)⟩ (Nat.le_of_ble_eq_true rfl) (Nat.le_of_ble_eq_true rfl) dX12_define_160
      · replace c_22 : w80_4.toInt < (t1.1 0 60).toInt := i_nle c_22
        refine lv_aload_n C.1 C.2.1 dX12_define_89 rfl (lv_at hl 0 rfl) ?_
        refine k_get (v := .ref (ad 30)) C hP 0 rfl rfl inlX12 61 (by decide) m_8_14 rfl dX12_define_90 ?_
        refine lv_iload C.1 C.2.1 dX12_define_93 (lv_at hl 4 rfl) ?_
        obtain ⟨v_23, e_24⟩ : ∃ z, z = (t1.2.2.1 30 (w80_4 : Int32).toNatClampNeg) := ⟨_, rfl⟩
        have h_25 : (-1 : Int) ≤ v_23.toInt ∧ v_23.toInt ≤ 2 := by rw [e_24]; exact hok.2.1 30 _
        refine k_ild (v := v_23) C hP 30 rfl (vp_in_iff.mpr ⟨by omega, by omega⟩) e_24.symm dX12_define_95 ?_
        refine lv_iconst (v := 1) C.1 C.2.1 dX12_define_96 (by decide) ?_
        refine lv_icmp_ne (tgt := 154) C.1 C.2.1 dX12_define_97 (by decide) (fun c_26 => ?_) (fun c_26 => ?_)
        · replace c_26 : ¬ v_23.toInt = 1 := i_ne c_26
          exact L_154 t1 w80_2 w80_3 w80_4 _ _ _ hok hfr ⟨by omega, by omega⟩ ⟨by omega, by omega⟩ ⟨by omega, by omega⟩ (show (1 : Int) ≤ ((t1.1 0 60) : Int32).toInt ∧ ((t1.1 0 60) : Int32).toInt ≤ 1200 from ⟨by omega, by omega⟩) (show (t1.1 0 52).toInt = (t.1 0 52).toInt from by omega) (show (1260 : Int) - w80_4.toInt < (fuel_80 : Int) + 1 from by omega) hP hD hS (lv_sub hl [0, 1, 2, 3, 4] rfl)
        · replace c_26 : v_23.toInt = 1 := i_eq c_26
          refine lv_aload_n C.1 C.2.1 dX12_define_100 rfl (lv_at hl 0 rfl) ?_
          refine k_get (v := .ref (ad 31)) C hP 0 rfl rfl inlX12 62 (by decide) m_8_15 rfl dX12_define_101 ?_
          refine lv_iload C.1 C.2.1 dX12_define_104 (lv_at hl 4 rfl) ?_
          obtain ⟨v_27, e_28⟩ : ∃ z, z = (t1.2.2.1 31 (w80_4 : Int32).toNatClampNeg) := ⟨_, rfl⟩
          have h_29 : (0 : Int) ≤ v_27.toInt ∧ v_27.toInt ≤ 1199 := by rw [e_28]; exact hok.2.1 31 _
          refine k_ild (v := v_27) C hP 31 rfl (vp_in_iff.mpr ⟨by omega, by omega⟩) e_28.symm dX12_define_106 ?_
          refine lv_iload_n C.1 C.2.1 dX12_define_107 rfl (lv_at hl 3 rfl) ?_
          refine lv_icmp_ne (tgt := 154) C.1 C.2.1 dX12_define_108 (by decide) (fun c_30 => ?_) (fun c_30 => ?_)
          · replace c_30 : ¬ v_27.toInt = w80_3.toInt := i_ne c_30
            exact L_154 t1 w80_2 w80_3 w80_4 _ _ _ hok hfr ⟨by omega, by omega⟩ ⟨by omega, by omega⟩ ⟨by omega, by omega⟩ (show (1 : Int) ≤ ((t1.1 0 60) : Int32).toInt ∧ ((t1.1 0 60) : Int32).toInt ≤ 1200 from ⟨by omega, by omega⟩) (show (t1.1 0 52).toInt = (t.1 0 52).toInt from by omega) (show (1260 : Int) - w80_4.toInt < (fuel_80 : Int) + 1 from by omega) hP hD hS (lv_sub hl [0, 1, 2, 3, 4] rfl)
          · replace c_30 : v_27.toInt = w80_3.toInt := i_eq c_30
            refine lv_aload_n C.1 C.2.1 dX12_define_111 rfl (lv_at hl 0 rfl) ?_
            refine k_get (v := .ref (ad 35)) C hP 0 rfl rfl inlX12 66 (by decide) m_8_19 rfl dX12_define_112 ?_
            refine lv_iload C.1 C.2.1 dX12_define_115 (lv_at hl 4 rfl) ?_
            obtain ⟨v_31, e_32⟩ : ∃ z, z = (t1.2.2.1 35 (w80_4 : Int32).toNatClampNeg) := ⟨_, rfl⟩
            have h_33 : (0 : Int) ≤ v_31.toInt ∧ v_31.toInt ≤ 1 := by rw [e_32]; exact hok.2.1 35 _
            refine k_zld (v := v_31) C hP 35 rfl (vp_in_iff.mpr ⟨by omega, by omega⟩) e_32.symm dX12_define_117 ?_
            refine lv_if_ne (tgt := 154) C.1 C.2.1 dX12_define_118 (by decide) (fun c_34 => ?_) (fun c_34 => ?_)
            · replace c_34 : ¬ v_31.toInt = 0 := i_ne c_34
              exact L_154 t1 w80_2 w80_3 w80_4 _ _ _ hok hfr ⟨by omega, by omega⟩ ⟨by omega, by omega⟩ ⟨by omega, by omega⟩ (show (1 : Int) ≤ ((t1.1 0 60) : Int32).toInt ∧ ((t1.1 0 60) : Int32).toInt ≤ 1200 from ⟨by omega, by omega⟩) (show (t1.1 0 52).toInt = (t.1 0 52).toInt from by omega) (show (1260 : Int) - w80_4.toInt < (fuel_80 : Int) + 1 from by omega) hP hD hS (lv_sub hl [0, 1, 2, 3, 4] rfl)
            · replace c_34 : v_31.toInt = 0 := i_eq c_34
              refine lv_aload_n C.1 C.2.1 dX12_define_121 rfl (lv_at hl 0 rfl) ?_
              refine k_get (v := .ref (ad 32)) C hP 0 rfl rfl inlX12 63 (by decide) m_8_16 rfl dX12_define_122 ?_
              refine lv_iload C.1 C.2.1 dX12_define_125 (lv_at hl 4 rfl) ?_
              obtain ⟨v_35, e_36⟩ : ∃ z, z = (t1.2.2.1 32 (w80_4 : Int32).toNatClampNeg) := ⟨_, rfl⟩
              have h_37 : (0 : Int) ≤ v_35.toInt ∧ v_35.toInt ≤ 1281 := by rw [e_36]; exact hok.2.1 32 _
              refine k_ild (v := v_35) C hP 32 rfl (vp_in_iff.mpr ⟨by omega, by omega⟩) e_36.symm dX12_define_127 ?_
              refine lv_aload_n C.1 C.2.1 dX12_define_128 rfl (lv_at hl 0 rfl) ?_
              refine k_get (v := .int (t1.1 0 67)) C hP 0 rfl rfl inlX12 67 (by decide) m_29_11 rfl dX12_define_129 ?_
              refine lv_icmp_ne (tgt := 138) C.1 C.2.1 dX12_define_132 (by decide) (fun c_38 => ?_) (fun c_38 => ?_)
              · replace c_38 : ¬ v_35.toInt = (t1.1 0 67).toInt := i_ne c_38
                refine lv_aload_n C.1 C.2.1 dX12_define_138 rfl (lv_at hl 0 rfl) ?_
                refine k_get (v := .ref (ad 34)) C hP 0 rfl rfl inlX12 65 (by decide) m_8_18 rfl dX12_define_139 ?_
                refine lv_iload C.1 C.2.1 dX12_define_142 (lv_at hl 4 rfl) ?_
                refine lv_iload_n C.1 C.2.1 dX12_define_144 rfl (lv_at hl 1 rfl) ?_
                refine k_ist (ws' := WM K ad (uB t1 34 (w80_4 : Int32).toNatClampNeg x1)) (x' := x1) C hP hD hS 34 rfl (vp_in_iff.mpr ⟨by omega, by omega⟩) rfl rfl rfl dX12_define_145 (fun H locs hP hD hS => ?_)
                have hok : okM (uB t1 34 (w80_4 : Int32).toNatClampNeg x1) := ⟨hok.1, okB_B hok.2.1 34 _ x1 (show (-2147483648 : Int) ≤ (x1 : Int32).toInt ∧ (x1 : Int32).toInt ≤ 2147483647 from (i_rng _)), hok.2.2.1, hok.2.2.2.1, hok.2.2.2.2.1, hok.2.2.2.2.2.1, hok.2.2.2.2.2.2.1, trivial⟩
                have hfr : frA [(0, 52)] [] [24, 25, 26, 28, 29, 34, 35] [23] t (uB t1 34 (w80_4 : Int32).toNatClampNeg x1) := frA_B hfr 34 _ _ rfl
                refine lv_aload_n C.1 C.2.1 dX12_define_146 rfl (lv_at hl 0 rfl) ?_
                refine k_get (v := .ref (ad 35)) C hP 0 rfl rfl inlX12 66 (by decide) m_8_19 rfl dX12_define_147 ?_
                refine lv_iload C.1 C.2.1 dX12_define_150 (lv_at hl 4 rfl) ?_
                refine lv_iconst (v := 1) C.1 C.2.1 dX12_define_152 (by decide) ?_
                obtain ⟨t_39, e_40⟩ : ∃ z, z = (uB t1 34 (w80_4 : Int32).toNatClampNeg x1) := ⟨_, rfl⟩
                rw [← e_40] at hP hD hok hfr
                have h_41 : (t_39.1 0 60).toInt = ((t1.1 0 60) : Int32).toInt := by rw [e_40]; rfl
                have h_42 : (t_39.1 0 67).toInt = ((t1.1 0 67) : Int32).toInt := by rw [e_40]; rfl
                have h_43 : (t_39.1 0 52).toInt = (t1.1 0 52).toInt := by rw [e_40]; rfl
                have e_44 : t_39.2.2.1 19 = t.2.2.1 19 := by rw [e_40]; exact (uB_ne rfl).trans e_9
                have e_45 : t_39.2.2.1 20 = t.2.2.1 20 := by rw [e_40]; exact (uB_ne rfl).trans e_10
                obtain ⟨v_46, e_47⟩ : ∃ z, z = vp_nar .boolean 1 := ⟨_, rfl⟩
                have h_48 : (0 : Int) ≤ v_46.toInt ∧ v_46.toInt ≤ 1 := by rw [e_47]; exact nar_boolean _
                refine k_zst (ws' := WM K ad (uB t_39 35 (w80_4 : Int32).toNatClampNeg v_46)) (x' := v_46) C hP hD hS 35 rfl (vp_in_iff.mpr ⟨by omega, by omega⟩) rfl e_47.symm rfl dX12_define_153 (fun H locs hP hD hS => ?_)
                have hok : okM (uB t_39 35 (w80_4 : Int32).toNatClampNeg v_46) := ⟨hok.1, okB_B hok.2.1 35 _ v_46 (show (0 : Int) ≤ (v_46 : Int32).toInt ∧ (v_46 : Int32).toInt ≤ 1 from ⟨by omega, by omega⟩), hok.2.2.1, hok.2.2.2.1, hok.2.2.2.2.1, hok.2.2.2.2.2.1, hok.2.2.2.2.2.2.1, trivial⟩
                have hfr : frA [(0, 52)] [] [24, 25, 26, 28, 29, 34, 35] [23] t (uB t_39 35 (w80_4 : Int32).toNatClampNeg v_46) := frA_B hfr 35 _ _ rfl
                have h_49 : (0 : Int) ≤ (t_39.1 0 52).toInt ∧ (t_39.1 0 52).toInt ≤ 1200 := hok.1 0 52
                exact L_154 (uB t_39 35 (w80_4 : Int32).toNatClampNeg v_46) w80_2 w80_3 w80_4 _ _ _ hok hfr ⟨by omega, by omega⟩ ⟨by omega, by omega⟩ ⟨by omega, by omega⟩ (show (1 : Int) ≤ ((t_39.1 0 60) : Int32).toInt ∧ ((t_39.1 0 60) : Int32).toInt ≤ 1200 from ⟨by omega, by omega⟩) (show (t_39.1 0 52).toInt = (t.1 0 52).toInt from by omega) (show (1260 : Int) - w80_4.toInt < (fuel_80 : Int) + 1 from by omega) hP hD hS (lv_sub hl [0, 1, 2, 3, 4] rfl)
              · replace c_38 : v_35.toInt = (t1.1 0 67).toInt := i_eq c_38
                refine lv_goto (tgt := 154) C.1 C.2.1 dX12_define_135 (by decide) ?_
                exact L_154 t1 w80_2 w80_3 w80_4 _ _ _ hok hfr ⟨by omega, by omega⟩ ⟨by omega, by omega⟩ ⟨by omega, by omega⟩ (show (1 : Int) ≤ ((t1.1 0 60) : Int32).toInt ∧ ((t1.1 0 60) : Int32).toInt ≤ 1200 from ⟨by omega, by omega⟩) (show (t1.1 0 52).toInt = (t.1 0 52).toInt from by omega) (show (1260 : Int) - w80_4.toInt < (fuel_80 : Int) + 1 from by omega) hP hD hS (lv_sub hl [0, 1, 2, 3, 4] rfl)
  refine lv_aload_n C.1 C.2.1 dX12_define_0 rfl (lv_at hl 0 rfl) ?_
  refine lv_iconst (v := 1) C.1 C.2.1 dX12_define_1 (by decide) ?_
  have h_50 : (1 : Int32).toInt = 1 := rfl
  refine g_Vi (As := [.int 1]) (rest := []) C hP hD hS hA (T_X12_letterAt l D K Z Y ad t hok 1 (show (1 : Int) ≤ (1 : Int32).toInt ∧ (1 : Int32).toInt ≤ 100 from ⟨by decide, by decide⟩)) hE hZ (uwV m_31_8 m_31_9 m_31_10 m_1_5 m_31_11) (hdV 1 (by decide +kernel) rfl) ⟨Nat.le_of_ble_eq_true rfl, Nat.le_of_ble_eq_true rfl⟩ rfl rfl (ci := 11) (q0 := 0) rfl rfl rfl hl.1 (Nat.le_of_ble_eq_true rfl) dX12_define_2 ⟨Nat.le_of_ble_eq_true rfl, Nat.le_of_ble_eq_true rfl⟩ (fun r_52 t_51 H locs hw hP hD hS => ?_)
  obtain ⟨h_54, h_55, p_56, p_57, p_58, p_59⟩ := hw
  replace p_56 : r_52 = fLet t (1 : Int32) := p_56
  replace p_57 : r_52.toInt = (fLet t (1 : Int32)).toInt := p_57
  replace p_58 : ¬ r_52.toInt = 32 → (t.2.2.1 19 ((t.1 0 67) : Int32).toNatClampNeg).toInt + (1 : Int32).toInt ≤ (t.2.2.1 20 ((t.1 0 67) : Int32).toNatClampNeg).toInt := p_58
  replace p_59 : 81 ≤ (1 : Int32).toInt → r_52.toInt = 32 := p_59
  refine lv_bipush (v := 32) C.1 C.2.1 dX12_define_5 (by decide) ?_
  refine lv_icmp_ne (tgt := 11) C.1 C.2.1 dX12_define_7 (by decide) (fun c_60 => ?_) (fun c_60 => ?_)
  · replace c_60 : ¬ r_52.toInt = 32 := i_ne c_60
    refine lv_aload_n C.1 C.2.1 dX12_define_11 rfl (lv_at hl 0 rfl) ?_
    refine lv_iconst (v := 1) C.1 C.2.1 dX12_define_12 (by decide) ?_
    refine lv_bipush (v := 10) C.1 C.2.1 dX12_define_13 (by decide) ?_
    have h_61 : (10 : Int32).toInt = 10 := rfl
    refine g_Vi (As := [.int 1, .int 10]) (rest := []) C hP hD hS hA (T_X12_endOf l D K Z Y ad t hok 1 (show (1 : Int) ≤ (1 : Int32).toInt ∧ (1 : Int32).toInt ≤ 15 from ⟨by decide, by decide⟩) 10 (show (10 : Int) ≤ (10 : Int32).toInt ∧ (10 : Int32).toInt ≤ 15 from ⟨by decide, by decide⟩) (show (10 : Int32).toInt ≤ 15 from by omega)) hE hZ (uwV m_32_4 m_32_5 m_32_6 m_1_5 m_32_7) (hdV 2 (by decide +kernel) rfl) ⟨Nat.le_of_ble_eq_true rfl, Nat.le_of_ble_eq_true rfl⟩ rfl rfl (ci := 11) (q0 := 0) rfl rfl rfl hl.1 (Nat.le_of_ble_eq_true rfl) dX12_define_15 ⟨Nat.le_of_ble_eq_true rfl, Nat.le_of_ble_eq_true rfl⟩ (fun r_63 t_62 H locs hw hP hD hS => ?_)
    obtain ⟨h_65, h_66⟩ := hw
    refine lv_istore_n (lv' := [(2, .int r_63), (0, .ref (ad 0)), (1, .int x1)]) C.1 C.2.1 dX12_define_18 rfl hl (by decide) rfl (fun ls hl => ?_)
    have hl : lv_has ls 5 [(0, .ref (ad 0)), (1, .int x1), (2, .int r_63)] := lv_sub hl [1, 2, 0] rfl
    refine lv_aload_n C.1 C.2.1 dX12_define_19 rfl (lv_at hl 0 rfl) ?_
    refine lv_iconst (v := 1) C.1 C.2.1 dX12_define_20 (by decide) ?_
    refine lv_iload_n C.1 C.2.1 dX12_define_21 rfl (lv_at hl 2 rfl) ?_
    refine g_Vi (As := [.int 1, .int r_63]) (rest := []) C hP hD hS hA (T_X12_localKind l D K Z Y ad t hok 1 (show (1 : Int) ≤ (1 : Int32).toInt ∧ (1 : Int32).toInt ≤ 81 from ⟨by decide, by decide⟩) (r_63) (show (0 : Int) ≤ (r_63 : Int32).toInt ∧ (r_63 : Int32).toInt ≤ 81 from ⟨by omega, by omega⟩)) hE hZ (uwV m_32_18 m_32_19 m_32_20 m_1_5 m_32_21) (hdV 2 (by decide +kernel) rfl) ⟨Nat.le_of_ble_eq_true rfl, Nat.le_of_ble_eq_true rfl⟩ rfl rfl (ci := 11) (q0 := 0) rfl rfl rfl hl.1 (Nat.le_of_ble_eq_true rfl) dX12_define_22 ⟨Nat.le_of_ble_eq_true rfl, Nat.le_of_ble_eq_true rfl⟩ (fun r_68 t_67 H locs hw hP hD hS => ?_)
    obtain ⟨h_70, h_71, p_72⟩ := hw
    replace p_72 : ¬ r_68.toInt = 0 → 48 ≤ (fLet t (1 : Int32)).toInt ∧ (fLet t (1 : Int32)).toInt ≤ 57 := p_72
    refine lv_if_ne (tgt := 54) C.1 C.2.1 dX12_define_25 (by decide) (fun c_73 => ?_) (fun c_73 => ?_)
    · replace c_73 : ¬ r_68.toInt = 0 := i_ne c_73
      refine lv_aload_n C.1 C.2.1 dX12_define_54 rfl (lv_at hl 0 rfl) ?_
      refine lv_iconst (v := 1) C.1 C.2.1 dX12_define_55 (by decide) ?_
      refine g_Vi (As := [.int 1]) (rest := []) C hP hD hS hA (T_X12_letterAt l D K Z Y ad t hok 1 (show (1 : Int) ≤ (1 : Int32).toInt ∧ (1 : Int32).toInt ≤ 100 from ⟨by decide, by decide⟩)) hE hZ (uwV m_31_8 m_31_9 m_31_10 m_1_5 m_31_11) (hdV 1 (by decide +kernel) rfl) ⟨Nat.le_of_ble_eq_true rfl, Nat.le_of_ble_eq_true rfl⟩ rfl rfl (ci := 11) (q0 := 0) rfl rfl rfl hl.1 (Nat.le_of_ble_eq_true rfl) dX12_define_56 ⟨Nat.le_of_ble_eq_true rfl, Nat.le_of_ble_eq_true rfl⟩ (fun r_75 t_74 H locs hw hP hD hS => ?_)
      obtain ⟨h_77, h_78, p_79, p_80, p_81, p_82⟩ := hw
      replace p_79 : r_75 = fLet t (1 : Int32) := p_79
      replace p_80 : r_75.toInt = (fLet t (1 : Int32)).toInt := p_80
      replace p_81 : ¬ r_75.toInt = 32 → (t.2.2.1 19 ((t.1 0 67) : Int32).toNatClampNeg).toInt + (1 : Int32).toInt ≤ (t.2.2.1 20 ((t.1 0 67) : Int32).toNatClampNeg).toInt := p_81
      replace p_82 : 81 ≤ (1 : Int32).toInt → r_75.toInt = 32 := p_82
      refine lv_bipush (v := 48) C.1 C.2.1 dX12_define_59 (by decide) ?_
      obtain ⟨v_83, e_84⟩ : ∃ z, z = (r_75 : Int32) - (48 : Int32) := ⟨_, rfl⟩
      have h_85 : v_83.toInt = r_75.toInt - 48 := by rw [e_84]; exact ti_isub (by show (_ : Int) ≤ r_75.toInt - 48; omega) (by show r_75.toInt - 48 < (_ : Int); omega)
      refine k_isub (v := v_83) C e_84.symm dX12_define_61 ?_
      refine lv_istore_n (lv' := [(3, .int v_83), (0, .ref (ad 0)), (1, .int x1), (2, .int r_63)]) C.1 C.2.1 dX12_define_62 rfl hl (by decide) rfl (fun ls hl => ?_)
      have hl : lv_has ls 5 [(0, .ref (ad 0)), (1, .int x1), (2, .int r_63), (3, .int v_83)] := lv_sub hl [1, 2, 3, 0] rfl
      refine lv_aload_n C.1 C.2.1 dX12_define_63 rfl (lv_at hl 0 rfl) ?_
      refine k_get (v := .ref (ad 28)) C hP 0 rfl rfl inlX12 58 (by decide) m_8_12 rfl dX12_define_64 ?_
      refine lv_iload_n C.1 C.2.1 dX12_define_67 rfl (lv_at hl 3 rfl) ?_
      refine lv_iload_n C.1 C.2.1 dX12_define_68 rfl (lv_at hl 1 rfl) ?_
      refine k_ist (ws' := WM K ad (uB t 28 (v_83 : Int32).toNatClampNeg x1)) (x' := x1) C hP hD hS 28 rfl (vp_in_iff.mpr ⟨by omega, by omega⟩) rfl rfl rfl dX12_define_69 (fun H locs hP hD hS => ?_)
      have hok : okM (uB t 28 (v_83 : Int32).toNatClampNeg x1) := ⟨hok.1, okB_B hok.2.1 28 _ x1 (show (-2147483648 : Int) ≤ (x1 : Int32).toInt ∧ (x1 : Int32).toInt ≤ 2147483647 from (i_rng _)), hok.2.2.1, hok.2.2.2.1, hok.2.2.2.2.1, hok.2.2.2.2.2.1, hok.2.2.2.2.2.2.1, trivial⟩
      have hfr : frA [(0, 52)] [] [24, 25, 26, 28, 29, 34, 35] [23] t (uB t 28 (v_83 : Int32).toNatClampNeg x1) := frA_B hfr 28 _ _ rfl
      refine lv_aload_n C.1 C.2.1 dX12_define_70 rfl (lv_at hl 0 rfl) ?_
      refine k_get (v := .ref (ad 29)) C hP 0 rfl rfl inlX12 59 (by decide) m_8_13 rfl dX12_define_71 ?_
      refine lv_iload_n C.1 C.2.1 dX12_define_74 rfl (lv_at hl 3 rfl) ?_
      refine lv_iconst (v := 1) C.1 C.2.1 dX12_define_75 (by decide) ?_
      obtain ⟨t_86, e_87⟩ : ∃ z, z = (uB t 28 (v_83 : Int32).toNatClampNeg x1) := ⟨_, rfl⟩
      rw [← e_87] at hP hD hok hfr
      have h_88 : (t_86.1 0 52).toInt = (t.1 0 52).toInt := by rw [e_87]; rfl
      have h_89 : (t_86.1 0 67).toInt = (t.1 0 67).toInt := by rw [e_87]; rfl
      have e_90 : t_86.2.2.1 19 = t.2.2.1 19 := by rw [e_87]; exact (uB_ne rfl)
      have e_91 : t_86.2.2.1 20 = t.2.2.1 20 := by rw [e_87]; exact (uB_ne rfl)
      obtain ⟨v_92, e_93⟩ : ∃ z, z = vp_nar .boolean 1 := ⟨_, rfl⟩
      have h_94 : (0 : Int) ≤ v_92.toInt ∧ v_92.toInt ≤ 1 := by rw [e_93]; exact nar_boolean _
      refine k_zst (ws' := WM K ad (uB t_86 29 (v_83 : Int32).toNatClampNeg v_92)) (x' := v_92) C hP hD hS 29 rfl (vp_in_iff.mpr ⟨by omega, by omega⟩) rfl e_93.symm rfl dX12_define_76 (fun H locs hP hD hS => ?_)
      have hok : okM (uB t_86 29 (v_83 : Int32).toNatClampNeg v_92) := ⟨hok.1, okB_B hok.2.1 29 _ v_92 (show (0 : Int) ≤ (v_92 : Int32).toInt ∧ (v_92 : Int32).toInt ≤ 1 from ⟨by omega, by omega⟩), hok.2.2.1, hok.2.2.2.1, hok.2.2.2.2.1, hok.2.2.2.2.2.1, hok.2.2.2.2.2.2.1, trivial⟩
      have hfr : frA [(0, 52)] [] [24, 25, 26, 28, 29, 34, 35] [23] t (uB t_86 29 (v_83 : Int32).toNatClampNeg v_92) := frA_B hfr 29 _ _ rfl
      refine lv_iconst (v := 0) C.1 C.2.1 dX12_define_77 (by decide) ?_
      refine lv_istore (lv' := [(4, .int 0), (0, .ref (ad 0)), (1, .int x1), (2, .int r_63), (3, .int v_83)]) C.1 C.2.1 dX12_define_78 hl (by decide) rfl (fun ls hl => ?_)
      have hl : lv_has ls 5 [(0, .ref (ad 0)), (1, .int x1), (2, .int r_63), (3, .int v_83), (4, .int 0)] := lv_sub hl [1, 2, 3, 4, 0] rfl
      have h_95 : (0 : Int) ≤ (t_86.1 0 52).toInt ∧ (t_86.1 0 52).toInt ≤ 1200 := hok.1 0 52
      exact L_80 1261 (uB t_86 29 (v_83 : Int32).toNatClampNeg v_92) r_63 v_83 0 _ _ _ hok hfr ⟨by omega, by omega⟩ ⟨by omega, by omega⟩ ⟨by decide, by decide⟩ (show (t_86.1 0 52).toInt = (t.1 0 52).toInt from by omega) (show (1260 : Int) - 0 < ((1261 : Nat) : Int) from by omega) hP hD hS (lv_sub hl [0, 1, 2, 3, 4] rfl)
    · replace c_73 : r_68.toInt = 0 := i_eq c_73
      refine lv_aload_n C.1 C.2.1 dX12_define_28 rfl (lv_at hl 0 rfl) ?_
      refine lv_aload_n C.1 C.2.1 dX12_define_29 rfl (lv_at hl 0 rfl) ?_
      refine lv_iconst (v := 1) C.1 C.2.1 dX12_define_30 (by decide) ?_
      refine lv_iload_n C.1 C.2.1 dX12_define_31 rfl (lv_at hl 2 rfl) ?_
      refine g_Vl (As := [.int 1, .int r_63]) (rest := [.ref (ad 0)]) C hP hD hS hA (T_X12_keyOf l D K Z Y ad t hok 1 (show (1 : Int) ≤ (1 : Int32).toInt ∧ (1 : Int32).toInt ≤ 81 from ⟨by decide, by decide⟩) (r_63) (show (0 : Int) ≤ (r_63 : Int32).toInt ∧ (r_63 : Int32).toInt ≤ 81 from ⟨by omega, by omega⟩)) hE hZ (uwV m_33_14 m_33_15 m_33_16 m_1_5 m_33_17) (hdV 2 (by decide +kernel) rfl) ⟨Nat.le_of_ble_eq_true rfl, Nat.le_of_ble_eq_true rfl⟩ rfl rfl (ci := 11) (q0 := 0) rfl rfl rfl hl.1 (Nat.le_of_ble_eq_true rfl) dX12_define_32 ⟨Nat.le_of_ble_eq_true rfl, Nat.le_of_ble_eq_true rfl⟩ (fun r_97 t_96 H locs hw hP hD hS => ?_)
      refine g_Vi (As := [.long r_97]) (rest := []) C hP hD hS hA (T_X12_symbolOf l D K Z Y ad t hok (r_97) (show (t.1 0 52).toInt ≤ 1199 from by omega)) hE hZ (uwV m_37_14 m_37_15 m_37_16 m_1_5 m_37_17) (hdV 1 (by decide +kernel) rfl) ⟨Nat.le_of_ble_eq_true rfl, Nat.le_of_ble_eq_true rfl⟩ rfl rfl (ci := 11) (q0 := 0) rfl rfl rfl hl.1 (Nat.le_of_ble_eq_true rfl) dX12_define_35 ⟨Nat.le_of_ble_eq_true rfl, Nat.le_of_ble_eq_true rfl⟩ (fun r_100 t_99 H locs hw hP hD hS => ?_)
      obtain ⟨hok, f_101, h_102, h_103, p_104, p_105, p_106⟩ := hw
      have hfr : frA [(0, 52)] [] [24, 25, 26, 28, 29, 34, 35] [23] t t_99 := frA_tr hfr f_101 rfl
      have h_107 : (t_99.1 0 67).toInt = (t.1 0 67).toInt := ti_eq (f_101.1 0 67 rfl)
      have e_108 : t_99.2.2.1 19 = t.2.2.1 19 := f_101.2.2.1 19 rfl
      have e_109 : t_99.2.2.1 20 = t.2.2.1 20 := f_101.2.2.1 20 rfl
      have h_110 : (0 : Int) ≤ (t_99.1 0 52).toInt ∧ (t_99.1 0 52).toInt ≤ 1200 := hok.1 0 52
      have h_111 : (0 : Int) ≤ (t_99.1 0 67).toInt ∧ (t_99.1 0 67).toInt ≤ 1281 := hok.1 0 67
      replace p_104 : (t.1 0 52).toInt ≤ (t_99.1 0 52).toInt := p_104
      replace p_105 : (t_99.1 0 52).toInt ≤ (t.1 0 52).toInt + 1 := p_105
      replace p_106 : r_100.toInt < (t_99.1 0 52).toInt := p_106
      refine lv_istore_n (lv' := [(3, .int r_100), (0, .ref (ad 0)), (1, .int x1), (2, .int r_63)]) C.1 C.2.1 dX12_define_38 rfl hl (by decide) rfl (fun ls hl => ?_)
      have hl : lv_has ls 5 [(0, .ref (ad 0)), (1, .int x1), (2, .int r_63), (3, .int r_100)] := lv_sub hl [1, 2, 3, 0] rfl
      refine lv_aload_n C.1 C.2.1 dX12_define_39 rfl (lv_at hl 0 rfl) ?_
      refine k_get (v := .ref (ad 24)) C hP 0 rfl rfl inlX12 54 (by decide) m_8_8 rfl dX12_define_40 ?_
      refine lv_iload_n C.1 C.2.1 dX12_define_43 rfl (lv_at hl 3 rfl) ?_
      refine lv_iload_n C.1 C.2.1 dX12_define_44 rfl (lv_at hl 1 rfl) ?_
      refine k_ist (ws' := WM K ad (uB t_99 24 (r_100 : Int32).toNatClampNeg x1)) (x' := x1) C hP hD hS 24 rfl (vp_in_iff.mpr ⟨by omega, by omega⟩) rfl rfl rfl dX12_define_45 (fun H locs hP hD hS => ?_)
      have hok : okM (uB t_99 24 (r_100 : Int32).toNatClampNeg x1) := ⟨hok.1, okB_B hok.2.1 24 _ x1 (show (-2147483648 : Int) ≤ (x1 : Int32).toInt ∧ (x1 : Int32).toInt ≤ 2147483647 from (i_rng _)), hok.2.2.1, hok.2.2.2.1, hok.2.2.2.2.1, hok.2.2.2.2.2.1, hok.2.2.2.2.2.2.1, trivial⟩
      have hfr : frA [(0, 52)] [] [24, 25, 26, 28, 29, 34, 35] [23] t (uB t_99 24 (r_100 : Int32).toNatClampNeg x1) := frA_B hfr 24 _ _ rfl
      refine lv_aload_n C.1 C.2.1 dX12_define_46 rfl (lv_at hl 0 rfl) ?_
      refine k_get (v := .ref (ad 25)) C hP 0 rfl rfl inlX12 55 (by decide) m_8_9 rfl dX12_define_47 ?_
      refine lv_iload_n C.1 C.2.1 dX12_define_50 rfl (lv_at hl 3 rfl) ?_
      refine lv_iconst (v := 1) C.1 C.2.1 dX12_define_51 (by decide) ?_
      obtain ⟨t_112, e_113⟩ : ∃ z, z = (uB t_99 24 (r_100 : Int32).toNatClampNeg x1) := ⟨_, rfl⟩
      rw [← e_113] at hP hD hok hfr
      have h_114 : (t_112.1 0 52).toInt = (t_99.1 0 52).toInt := by rw [e_113]; rfl
      have h_115 : (t_112.1 0 67).toInt = (t_99.1 0 67).toInt := by rw [e_113]; rfl
      have e_116 : t_112.2.2.1 19 = t.2.2.1 19 := by rw [e_113]; exact (uB_ne rfl).trans e_108
      have e_117 : t_112.2.2.1 20 = t.2.2.1 20 := by rw [e_113]; exact (uB_ne rfl).trans e_109
      obtain ⟨v_118, e_119⟩ : ∃ z, z = vp_nar .boolean 1 := ⟨_, rfl⟩
      have h_120 : (0 : Int) ≤ v_118.toInt ∧ v_118.toInt ≤ 1 := by rw [e_119]; exact nar_boolean _
      refine k_zst (ws' := WM K ad (uB t_112 25 (r_100 : Int32).toNatClampNeg v_118)) (x' := v_118) C hP hD hS 25 rfl (vp_in_iff.mpr ⟨by omega, by omega⟩) rfl e_119.symm rfl dX12_define_52 (fun H locs hP hD hS => ?_)
      have hok : okM (uB t_112 25 (r_100 : Int32).toNatClampNeg v_118) := ⟨hok.1, okB_B hok.2.1 25 _ v_118 (show (0 : Int) ≤ (v_118 : Int32).toInt ∧ (v_118 : Int32).toInt ≤ 1 from ⟨by omega, by omega⟩), hok.2.2.1, hok.2.2.2.1, hok.2.2.2.2.1, hok.2.2.2.2.2.1, hok.2.2.2.2.2.2.1, trivial⟩
      have hfr : frA [(0, 52)] [] [24, 25, 26, 28, 29, 34, 35] [23] t (uB t_112 25 (r_100 : Int32).toNatClampNeg v_118) := frA_B hfr 25 _ _ rfl
      have h_121 : (0 : Int) ≤ (t_112.1 0 52).toInt ∧ (t_112.1 0 52).toInt ≤ 1200 := hok.1 0 52
      exact g_vret C hr hlocks hP hD hS (uB t_112 25 (r_100 : Int32).toNatClampNeg v_118) rfl ⟨hok, hfr, (show (t.1 0 52).toInt ≤ (t_112.1 0 52).toInt from by omega), (show (t_112.1 0 52).toInt ≤ (t.1 0 52).toInt + 1 from by omega)⟩ (Nat.le_of_ble_eq_true rfl) (Nat.le_of_ble_eq_true rfl) dX12_define_53
  · replace c_60 : r_52.toInt = 32 := i_eq c_60
    exact g_vret C hr hlocks hP hD hS t rfl ⟨hok, hfr, (show (t.1 0 52).toInt ≤ (t.1 0 52).toInt from by omega), (show (t.1 0 52).toInt ≤ (t.1 0 52).toInt + 1 from by omega)⟩ (Nat.le_of_ble_eq_true rfl) (Nat.le_of_ble_eq_true rfl) dX12_define_10

theorem dX12_must_0 : decode cX12_must 0 = .ok (.aload_n 0, 1) := by decide +kernel
theorem dX12_must_1 : decode cX12_must 1 = .ok (.getfield 469, 3) := by decide +kernel
theorem dX12_must_12 : decode cX12_must 12 = .ok (.iload_n 1, 1) := by decide +kernel
theorem dX12_must_13 : decode cX12_must 13 = .ok (.if_icmp .ne 16, 3) := by decide +kernel
theorem dX12_must_16 : decode cX12_must 16 = .ok (.aload_n 0, 1) := by decide +kernel
theorem dX12_must_17 : decode cX12_must 17 = .ok (.dup, 1) := by decide +kernel
theorem dX12_must_18 : decode cX12_must 18 = .ok (.getfield 472, 3) := by decide +kernel
theorem dX12_must_21 : decode cX12_must 21 = .ok (.iconst 1, 1) := by decide +kernel
theorem dX12_must_22 : decode cX12_must 22 = .ok (.iadd, 1) := by decide +kernel
theorem dX12_must_23 : decode cX12_must 23 = .ok (.putfield 472, 3) := by decide +kernel
theorem dX12_must_26 : decode cX12_must 26 = .ok (.goto 8, 3) := by decide +kernel
theorem dX12_must_29 : decode cX12_must 29 = .ok (.aload_n 0, 1) := by decide +kernel
theorem dX12_must_30 : decode cX12_must 30 = .ok (.iconst 1, 1) := by decide +kernel
theorem dX12_must_31 : decode cX12_must 31 = .ok (.invokevirtual 478, 3) := by decide +kernel
theorem dX12_must_34 : decode cX12_must 34 = .ok (.return_, 1) := by decide +kernel
theorem dX12_must_4 : decode cX12_must 4 = .ok (.ifCond .le 4, 3) := by decide +kernel
theorem dX12_must_7 : decode cX12_must 7 = .ok (.return_, 1) := by decide +kernel
theorem dX12_must_8 : decode cX12_must 8 = .ok (.aload_n 0, 1) := by decide +kernel
theorem dX12_must_9 : decode cX12_must 9 = .ok (.invokevirtual 491, 3) := by decide +kernel
set_option maxHeartbeats 4000000 in
set_option maxRecDepth 100000 in
theorem T_X12_must (l : Launch) (D : va_G) (K : Nat → ClassId) (Z Y : Nat → Nat) (ad : Nat → Nat) (t : tSt) (hok : okM t) (x1 : Int32) (hx1 : (32 : Int) ≤ x1.toInt ∧ x1.toInt ≤ 61) (hs0 : 1 ≤ (t.1 0 68).toInt) (hs1 : 0 ≤ x1.toInt) : tMet l yX12_must cX12_must 2 none (rmD 9 0 0) D K Z Y [.ref (ad 0), .int x1] (WM K ad t) (QV D K (fun (u : tSt) => okM u ∧ frA [(0, 68), (0, 70)] [] [] [] t u ∧ ((t.1 0 68).toInt ≤ (u.1 0 68).toInt) ∧ ((u.1 0 68).toInt ≤ (t.1 0 69).toInt ∨ (u.1 0 68).toInt = (t.1 0 68).toInt) ∧ ((u.1 0 70).toInt = 0 → (t.1 0 70).toInt = 0)) (fun (u : tSt) => WM K ad u)) 0 0 := by
  refine t_met RX12 ⟨rfl, by decide +kernel⟩ (Nat.le_of_ble_eq_true rfl) ?_
  intro p e s m below meth c A ls C hE hZ hr hlocks hA hP hD hS hl
  have hl : lv_has ls 2 [(0, .ref (ad 0)), (1, .int x1)] := hl
  have hokt := hok
  have hfr : frA [(0, 68), (0, 70)] [] [] [] t t := frA_rf
  have h_1 : (0 : Int) ≤ (t.1 0 68).toInt ∧ (t.1 0 68).toInt ≤ 81 := hok.1 0 68
  have h_2 : (0 : Int) ≤ (t.1 0 69).toInt ∧ (t.1 0 69).toInt ≤ 81 := hok.1 0 69
  have h_3 : (0 : Int) ≤ (t.1 0 70).toInt ∧ (t.1 0 70).toInt ≤ 8 := hok.1 0 70
  refine lv_aload_n C.1 C.2.1 dX12_must_0 rfl (lv_at hl 0 rfl) ?_
  refine k_get (v := .int (t.1 0 70)) C hP 0 rfl rfl inlX12 70 (by decide) m_29_13 rfl dX12_must_1 ?_
  refine lv_if_le (tgt := 8) C.1 C.2.1 dX12_must_4 (by decide) (fun c_4 => ?_) (fun c_4 => ?_)
  · replace c_4 : (t.1 0 70).toInt ≤ 0 := i_le c_4
    refine lv_aload_n C.1 C.2.1 dX12_must_8 rfl (lv_at hl 0 rfl) ?_
    refine g_Vi (As := []) (rest := []) C hP hD hS hA (T_X12_now l D K Z Y ad t hok (show 1 ≤ (t.1 0 68).toInt from by omega)) hE hZ (uwV m_34_20 m_34_21 m_34_22 m_1_5 m_34_23) (hdV 0 (by decide +kernel) rfl) ⟨Nat.le_of_ble_eq_true rfl, Nat.le_of_ble_eq_true rfl⟩ rfl rfl (ci := 11) (q0 := 0) rfl rfl rfl hl.1 (Nat.le_of_ble_eq_true rfl) dX12_must_9 ⟨Nat.le_of_ble_eq_true rfl, Nat.le_of_ble_eq_true rfl⟩ (fun r_6 t_5 H locs hw hP hD hS => ?_)
    obtain ⟨h_8, h_9, p_10⟩ := hw
    replace p_10 : r_6.toInt = -1 ∨ (t.1 0 68).toInt < (t.1 0 69).toInt := p_10
    refine lv_iload_n C.1 C.2.1 dX12_must_12 rfl (lv_at hl 1 rfl) ?_
    refine lv_icmp_ne (tgt := 29) C.1 C.2.1 dX12_must_13 (by decide) (fun c_11 => ?_) (fun c_11 => ?_)
    · replace c_11 : ¬ r_6.toInt = x1.toInt := i_ne c_11
      refine lv_aload_n C.1 C.2.1 dX12_must_29 rfl (lv_at hl 0 rfl) ?_
      refine lv_iconst (v := 1) C.1 C.2.1 dX12_must_30 (by decide) ?_
      have h_12 : (1 : Int32).toInt = 1 := rfl
      refine g_Vv (As := [.int 1]) (rest := []) C hP hD hS hA (T_X12_fail l D K Z Y ad t hok 1 (show (1 : Int) ≤ (1 : Int32).toInt ∧ (1 : Int32).toInt ≤ 8 from ⟨by decide, by decide⟩) (show 1 ≤ (1 : Int32).toInt from by omega)) hE hZ (uwV m_32_22 m_32_23 m_33_0 m_1_5 m_33_1) (hdV 1 (by decide +kernel) rfl) ⟨Nat.le_of_ble_eq_true rfl, Nat.le_of_ble_eq_true rfl⟩ rfl rfl (ci := 11) (q0 := 0) rfl rfl rfl hl.1 (Nat.le_of_ble_eq_true rfl) dX12_must_31 ⟨Nat.le_of_ble_eq_true rfl, Nat.le_of_ble_eq_true rfl⟩ (fun t_13 H locs hw hP hD hS => ?_)
      obtain ⟨hok, f_15, p_16⟩ := hw
      have hfr : frA [(0, 68), (0, 70)] [] [] [] t t_13 := frA_tr hfr f_15 rfl
      have h_17 : (t_13.1 0 68).toInt = (t.1 0 68).toInt := ti_eq (f_15.1 0 68 rfl)
      have h_18 : (t_13.1 0 69).toInt = (t.1 0 69).toInt := ti_eq (f_15.1 0 69 rfl)
      have h_19 : (0 : Int) ≤ (t_13.1 0 68).toInt ∧ (t_13.1 0 68).toInt ≤ 81 := hok.1 0 68
      have h_20 : (0 : Int) ≤ (t_13.1 0 69).toInt ∧ (t_13.1 0 69).toInt ≤ 81 := hok.1 0 69
      have h_21 : (0 : Int) ≤ (t_13.1 0 70).toInt ∧ (t_13.1 0 70).toInt ≤ 8 := hok.1 0 70
      replace p_16 : 1 ≤ (t_13.1 0 70).toInt := p_16
      exact g_vret C hr hlocks hP hD hS t_13 rfl ⟨hok, hfr, (show (t.1 0 68).toInt ≤ (t_13.1 0 68).toInt from by omega), (show (t_13.1 0 68).toInt ≤ (t.1 0 69).toInt ∨ (t_13.1 0 68).toInt = (t.1 0 68).toInt from by omega), (show (t_13.1 0 70).toInt = 0 → (t.1 0 70).toInt = 0 from by omega)⟩ (Nat.le_of_ble_eq_true rfl) (Nat.le_of_ble_eq_true rfl) dX12_must_34
    · replace c_11 : r_6.toInt = x1.toInt := i_eq c_11
      refine lv_aload_n C.1 C.2.1 dX12_must_16 rfl (lv_at hl 0 rfl) ?_
      refine lv_dup C.1 C.2.1 dX12_must_17 rfl ?_
      refine k_get (v := .int (t.1 0 68)) C hP 0 rfl rfl inlX12 68 (by decide) m_31_6 rfl dX12_must_18 ?_
      refine lv_iconst (v := 1) C.1 C.2.1 dX12_must_21 (by decide) ?_
      obtain ⟨v_22, e_23⟩ : ∃ z, z = ((t.1 0 68) : Int32) + (1 : Int32) := ⟨_, rfl⟩
      have h_24 : v_22.toInt = (t.1 0 68).toInt + 1 := by rw [e_23]; exact ti_iadd (by show (_ : Int) ≤ (t.1 0 68).toInt + 1; omega) (by show (t.1 0 68).toInt + 1 < (_ : Int); omega)
      refine k_iadd (v := v_22) C e_23.symm dX12_must_22 ?_
      refine k_put (ws' := WM K ad (uI t 0 68 v_22)) (v := .int v_22) C hP hD hS 0 rfl rfl inlX12 tyX12_ok nmX12 68 (by decide) m_31_6 rfl rfl rfl rfl rfl dX12_must_23 (fun H locs hP hD hS => ?_)
      have hok : okM (uI t 0 68 v_22) := ⟨okI_I hok.1 0 68 v_22 (show (0 : Int) ≤ (v_22 : Int32).toInt ∧ (v_22 : Int32).toInt ≤ 81 from ⟨by omega, by omega⟩), hok.2.1, hok.2.2.1, hok.2.2.2.1, hok.2.2.2.2.1, hok.2.2.2.2.2.1, hok.2.2.2.2.2.2.1, trivial⟩
      have hfr : frA [(0, 68), (0, 70)] [] [] [] t (uI t 0 68 v_22) := frA_I hfr 0 68 _ rfl
      refine lv_goto (tgt := 34) C.1 C.2.1 dX12_must_26 (by decide) ?_
      exact g_vret C hr hlocks hP hD hS (uI t 0 68 v_22) rfl ⟨hok, hfr, (show (t.1 0 68).toInt ≤ v_22.toInt from by omega), (show v_22.toInt ≤ (t.1 0 69).toInt ∨ v_22.toInt = (t.1 0 68).toInt from by omega), (show (t.1 0 70).toInt = 0 → (t.1 0 70).toInt = 0 from by omega)⟩ (Nat.le_of_ble_eq_true rfl) (Nat.le_of_ble_eq_true rfl) dX12_must_34
  · replace c_4 : 0 < (t.1 0 70).toInt := i_nle c_4
    exact g_vret C hr hlocks hP hD hS t rfl ⟨hok, hfr, (show (t.1 0 68).toInt ≤ (t.1 0 68).toInt from by omega), (show (t.1 0 68).toInt ≤ (t.1 0 69).toInt ∨ (t.1 0 68).toInt = (t.1 0 68).toInt from by omega), (show (t.1 0 70).toInt = 0 → (t.1 0 70).toInt = 0 from by omega)⟩ (Nat.le_of_ble_eq_true rfl) (Nat.le_of_ble_eq_true rfl) dX12_must_7

theorem dX12_nameEnd_0 : decode cX12_nameEnd 0 = .ok (.aload_n 0, 1) := by decide +kernel
theorem dX12_nameEnd_1 : decode cX12_nameEnd 1 = .ok (.getfield 472, 3) := by decide +kernel
theorem dX12_nameEnd_10 : decode cX12_nameEnd 10 = .ok (.if_icmp .ge 31, 3) := by decide +kernel
theorem dX12_nameEnd_13 : decode cX12_nameEnd 13 = .ok (.aload_n 0, 1) := by decide +kernel
theorem dX12_nameEnd_14 : decode cX12_nameEnd 14 = .ok (.iload_n 1, 1) := by decide +kernel
theorem dX12_nameEnd_15 : decode cX12_nameEnd 15 = .ok (.invokevirtual 446, 3) := by decide +kernel
theorem dX12_nameEnd_18 : decode cX12_nameEnd 18 = .ok (.invokestatic 452, 3) := by decide +kernel
theorem dX12_nameEnd_21 : decode cX12_nameEnd 21 = .ok (.ifCond .ne 14, 3) := by decide +kernel
theorem dX12_nameEnd_24 : decode cX12_nameEnd 24 = .ok (.aload_n 0, 1) := by decide +kernel
theorem dX12_nameEnd_25 : decode cX12_nameEnd 25 = .ok (.iload_n 1, 1) := by decide +kernel
theorem dX12_nameEnd_26 : decode cX12_nameEnd 26 = .ok (.invokevirtual 446, 3) := by decide +kernel
theorem dX12_nameEnd_29 : decode cX12_nameEnd 29 = .ok (.invokestatic 455, 3) := by decide +kernel
theorem dX12_nameEnd_32 : decode cX12_nameEnd 32 = .ok (.ifCond .eq 9, 3) := by decide +kernel
theorem dX12_nameEnd_35 : decode cX12_nameEnd 35 = .ok (.iinc 1 1, 3) := by decide +kernel
theorem dX12_nameEnd_38 : decode cX12_nameEnd 38 = .ok (.goto (-33), 3) := by decide +kernel
theorem dX12_nameEnd_4 : decode cX12_nameEnd 4 = .ok (.istore_n 1, 1) := by decide +kernel
theorem dX12_nameEnd_41 : decode cX12_nameEnd 41 = .ok (.iload_n 1, 1) := by decide +kernel
theorem dX12_nameEnd_42 : decode cX12_nameEnd 42 = .ok (.ireturn, 1) := by decide +kernel
theorem dX12_nameEnd_5 : decode cX12_nameEnd 5 = .ok (.iload_n 1, 1) := by decide +kernel
theorem dX12_nameEnd_6 : decode cX12_nameEnd 6 = .ok (.aload_n 0, 1) := by decide +kernel
theorem dX12_nameEnd_7 : decode cX12_nameEnd 7 = .ok (.getfield 475, 3) := by decide +kernel
set_option maxHeartbeats 4000000 in
set_option maxRecDepth 100000 in
theorem T_X12_nameEnd (l : Launch) (D : va_G) (K : Nat → ClassId) (Z Y : Nat → Nat) (ad : Nat → Nat) (t : tSt) (hok : okM t) (hs0 : 1 ≤ (t.1 0 68).toInt) : tMet l yX12_nameEnd cX12_nameEnd 2 (some .int) (rmD 8 0 0) D K Z Y [.ref (ad 0)] (WM K ad t) (QI D K (fun (r : Int32) (u : Unit) => (0 : Int) ≤ r.toInt ∧ r.toInt ≤ 81 ∧ ((t.1 0 68).toInt ≤ r.toInt) ∧ (r.toInt ≤ (t.1 0 69).toInt ∨ r.toInt = (t.1 0 68).toInt)) (fun (_ : Unit) => WM K ad t)) 0 0 := by
  refine t_met RX12 ⟨rfl, by decide +kernel⟩ (Nat.le_of_ble_eq_true rfl) ?_
  intro p e s m below meth c A ls C hE hZ hr hlocks hA hP hD hS hl
  have hl : lv_has ls 2 [(0, .ref (ad 0))] := hl
  have h_1 : (0 : Int) ≤ (t.1 0 67).toInt ∧ (t.1 0 67).toInt ≤ 1281 := hok.1 0 67
  have h_2 : (0 : Int) ≤ (t.1 0 68).toInt ∧ (t.1 0 68).toInt ≤ 81 := hok.1 0 68
  have h_3 : (0 : Int) ≤ (t.1 0 69).toInt ∧ (t.1 0 69).toInt ≤ 81 := hok.1 0 69
  have L_5 : ∀ (fuel_5 : Nat) (w5_1 : Int32) (H : Heap) (locs : List Loc) (ls : Array Slot), (0 : Int) ≤ w5_1.toInt ∧ w5_1.toInt ≤ 81 → ((t.1 0 68).toInt ≤ w5_1.toInt) → (w5_1.toInt ≤ (t.1 0 69).toInt ∨ w5_1.toInt = (t.1 0 68).toInt) → (81 : Int) - w5_1.toInt < (fuel_5 : Int) → va_P D vwCl (WM K ad t) H → va_D A (WM K ad t) → va_S A s.heap H locs → lv_has ls 2 [(0, .ref (ad 0)), (1, .int w5_1)] → W p l e (rmD 8 0 0) s m [.ref (ad 0)].toArray below meth c H locs 0 0 (MQ below (QI D K (fun (r : Int32) (u : Unit) => (0 : Int) ≤ r.toInt ∧ r.toInt ≤ 81 ∧ ((t.1 0 68).toInt ≤ r.toInt) ∧ (r.toInt ≤ (t.1 0 69).toInt ∨ r.toInt = (t.1 0 68).toInt)) (fun (_ : Unit) => WM K ad t) A) [.ref (ad 0)].toArray s 0 0 A) (F0 m 5 ls []) := by
    intro fuel_5
    induction fuel_5 with
    | zero =>
      intro w5_1 H locs ls hw5_1 hi5_0 hi5_1 hm5_5 hP hD hS hl
      have h_4 : (0 : Int) ≤ (t.1 0 67).toInt ∧ (t.1 0 67).toInt ≤ 1281 := hok.1 0 67
      have h_5 : (0 : Int) ≤ (t.1 0 68).toInt ∧ (t.1 0 68).toInt ≤ 81 := hok.1 0 68
      have h_6 : (0 : Int) ≤ (t.1 0 69).toInt ∧ (t.1 0 69).toInt ≤ 81 := hok.1 0 69
      exact absurd hm5_5 (by omega)
    | succ fuel_5 ih_5 =>
      intro w5_1 H locs ls hw5_1 hi5_0 hi5_1 hm5_5 hP hD hS hl
      have hm5_5 : (81 : Int) - w5_1.toInt < (fuel_5 : Int) + 1 := by omega
      have h_7 : (0 : Int) ≤ (t.1 0 67).toInt ∧ (t.1 0 67).toInt ≤ 1281 := hok.1 0 67
      have h_8 : (0 : Int) ≤ (t.1 0 68).toInt ∧ (t.1 0 68).toInt ≤ 81 := hok.1 0 68
      have h_9 : (0 : Int) ≤ (t.1 0 69).toInt ∧ (t.1 0 69).toInt ≤ 81 := hok.1 0 69
      have L_35 : ∀ (w35_1 : Int32) (H : Heap) (locs : List Loc) (ls : Array Slot), (0 : Int) ≤ w35_1.toInt ∧ w35_1.toInt ≤ 80 → (1 : Int) ≤ (t.1 0 69).toInt ∧ (t.1 0 69).toInt ≤ 81 → ((t.1 0 68).toInt ≤ w35_1.toInt) → (w35_1.toInt < (t.1 0 69).toInt) → (81 : Int) - w35_1.toInt < (fuel_5 : Int) + 1 → va_P D vwCl (WM K ad t) H → va_D A (WM K ad t) → va_S A s.heap H locs → lv_has ls 2 [(0, .ref (ad 0)), (1, .int w35_1)] → W p l e (rmD 8 0 0) s m [.ref (ad 0)].toArray below meth c H locs 0 0 (MQ below (QI D K (fun (r : Int32) (u : Unit) => (0 : Int) ≤ r.toInt ∧ r.toInt ≤ 81 ∧ ((t.1 0 68).toInt ≤ r.toInt) ∧ (r.toInt ≤ (t.1 0 69).toInt ∨ r.toInt = (t.1 0 68).toInt)) (fun (_ : Unit) => WM K ad t) A) [.ref (ad 0)].toArray s 0 0 A) (F0 m 35 ls []) := by
        intro w35_1 H locs ls hw35_1 hf35_69 hi35_0 hi35_1 hm35_5 hP hD hS hl
        have h_10 : (0 : Int) ≤ (t.1 0 67).toInt ∧ (t.1 0 67).toInt ≤ 1281 := hok.1 0 67
        have h_11 : (0 : Int) ≤ (t.1 0 68).toInt ∧ (t.1 0 68).toInt ≤ 81 := hok.1 0 68
        obtain ⟨v_12, e_13⟩ : ∃ z, z = w35_1 + 1 := ⟨_, rfl⟩
        have h_14 : v_12.toInt = w35_1.toInt + 1 := by rw [e_13]; exact ti_iadd (by show (_ : Int) ≤ w35_1.toInt + 1; omega) (by show w35_1.toInt + 1 < (_ : Int); omega)
        refine lv_iinc (v := v_12) (lv' := [(1, .int v_12), (0, .ref (ad 0))]) C.1 C.2.1 dX12_nameEnd_35 hl (k := 1) rfl e_13.symm (by decide) rfl (fun ls hl => ?_)
        have hl : lv_has ls 2 [(0, .ref (ad 0)), (1, .int v_12)] := lv_sub hl [1, 0] rfl
        refine lv_goto (tgt := 5) C.1 C.2.1 dX12_nameEnd_38 (by decide) ?_
        exact ih_5 v_12 _ _ _ ⟨by omega, by omega⟩ (show (t.1 0 68).toInt ≤ v_12.toInt from by omega) (show v_12.toInt ≤ (t.1 0 69).toInt ∨ v_12.toInt = (t.1 0 68).toInt from by omega) (show (81 : Int) - v_12.toInt < (fuel_5 : Int) from by omega) hP hD hS (lv_sub hl [0, 1] rfl)
      refine lv_iload_n C.1 C.2.1 dX12_nameEnd_5 rfl (lv_at hl 1 rfl) ?_
      refine lv_aload_n C.1 C.2.1 dX12_nameEnd_6 rfl (lv_at hl 0 rfl) ?_
      refine k_get (v := .int (t.1 0 69)) C hP 0 rfl rfl inlX12 69 (by decide) m_31_7 rfl dX12_nameEnd_7 ?_
      refine lv_icmp_ge (tgt := 41) C.1 C.2.1 dX12_nameEnd_10 (by decide) (fun c_15 => ?_) (fun c_15 => ?_)
      · replace c_15 : (t.1 0 69).toInt ≤ w5_1.toInt := i_le c_15
        refine lv_iload_n C.1 C.2.1 dX12_nameEnd_41 rfl (lv_at hl 1 rfl) ?_
        exact g_iret C hr hlocks hP hD hS rfl () rfl ⟨by omega, by omega, (show (t.1 0 68).toInt ≤ w5_1.toInt from by omega), (show w5_1.toInt ≤ (t.1 0 69).toInt ∨ w5_1.toInt = (t.1 0 68).toInt from by omega)⟩ (Nat.le_of_ble_eq_true rfl) (Nat.le_of_ble_eq_true rfl) dX12_nameEnd_42
      · replace c_15 : w5_1.toInt < (t.1 0 69).toInt := i_nle c_15
        refine lv_aload_n C.1 C.2.1 dX12_nameEnd_13 rfl (lv_at hl 0 rfl) ?_
        refine lv_iload_n C.1 C.2.1 dX12_nameEnd_14 rfl (lv_at hl 1 rfl) ?_
        refine g_Vi (As := [.int w5_1]) (rest := []) C hP hD hS hA (T_X12_letterAt l D K Z Y ad t hok (w5_1) (show (1 : Int) ≤ (w5_1 : Int32).toInt ∧ (w5_1 : Int32).toInt ≤ 100 from ⟨by omega, by omega⟩)) hE hZ (uwV m_31_8 m_31_9 m_31_10 m_1_5 m_31_11) (hdV 1 (by decide +kernel) rfl) ⟨Nat.le_of_ble_eq_true rfl, Nat.le_of_ble_eq_true rfl⟩ rfl rfl (ci := 11) (q0 := 0) rfl rfl rfl hl.1 (Nat.le_of_ble_eq_true rfl) dX12_nameEnd_15 ⟨Nat.le_of_ble_eq_true rfl, Nat.le_of_ble_eq_true rfl⟩ (fun r_17 t_16 H locs hw hP hD hS => ?_)
        obtain ⟨h_19, h_20, p_21, p_22, p_23, p_24⟩ := hw
        replace p_21 : r_17 = fLet t w5_1 := p_21
        replace p_22 : r_17.toInt = (fLet t w5_1).toInt := p_22
        replace p_23 : ¬ r_17.toInt = 32 → (t.2.2.1 19 ((t.1 0 67) : Int32).toNatClampNeg).toInt + w5_1.toInt ≤ (t.2.2.1 20 ((t.1 0 67) : Int32).toNatClampNeg).toInt := p_23
        replace p_24 : 81 ≤ w5_1.toInt → r_17.toInt = 32 := p_24
        refine g_Si (As := [.int r_17]) (rest := []) C hP hD hS hA (T_X12_isGreat l D K Z Y ad t hok (r_17) (show (0 : Int) ≤ (r_17 : Int32).toInt ∧ (r_17 : Int32).toInt ≤ 255 from ⟨by omega, by omega⟩)) hE hZ (uwS m_32_12 m_32_13 m_1_5 m_32_14) (hdS 1 (by decide +kernel) rfl) ⟨Nat.le_of_ble_eq_true rfl, Nat.le_of_ble_eq_true rfl⟩ rfl rfl rfl hl.1 (Nat.le_of_ble_eq_true rfl) dX12_nameEnd_18 ⟨Nat.le_of_ble_eq_true rfl, Nat.le_of_ble_eq_true rfl⟩ (fun r_26 t_25 H locs hw hP hD hS => ?_)
        obtain ⟨h_28, h_29, p_30⟩ := hw
        replace p_30 : r_26.toInt = 1 → 65 ≤ r_17.toInt ∧ r_17.toInt ≤ 90 := p_30
        refine lv_if_ne (tgt := 35) C.1 C.2.1 dX12_nameEnd_21 (by decide) (fun c_31 => ?_) (fun c_31 => ?_)
        · replace c_31 : ¬ r_26.toInt = 0 := i_ne c_31
          exact L_35 w5_1 _ _ _ ⟨by omega, by omega⟩ (show (1 : Int) ≤ ((t.1 0 69) : Int32).toInt ∧ ((t.1 0 69) : Int32).toInt ≤ 81 from ⟨by omega, by omega⟩) (show (t.1 0 68).toInt ≤ w5_1.toInt from by omega) (show w5_1.toInt < (t.1 0 69).toInt from by omega) (show (81 : Int) - w5_1.toInt < (fuel_5 : Int) + 1 from by omega) hP hD hS (lv_sub hl [0, 1] rfl)
        · replace c_31 : r_26.toInt = 0 := i_eq c_31
          refine lv_aload_n C.1 C.2.1 dX12_nameEnd_24 rfl (lv_at hl 0 rfl) ?_
          refine lv_iload_n C.1 C.2.1 dX12_nameEnd_25 rfl (lv_at hl 1 rfl) ?_
          refine g_Vi (As := [.int w5_1]) (rest := []) C hP hD hS hA (T_X12_letterAt l D K Z Y ad t hok (w5_1) (show (1 : Int) ≤ (w5_1 : Int32).toInt ∧ (w5_1 : Int32).toInt ≤ 100 from ⟨by omega, by omega⟩)) hE hZ (uwV m_31_8 m_31_9 m_31_10 m_1_5 m_31_11) (hdV 1 (by decide +kernel) rfl) ⟨Nat.le_of_ble_eq_true rfl, Nat.le_of_ble_eq_true rfl⟩ rfl rfl (ci := 11) (q0 := 0) rfl rfl rfl hl.1 (Nat.le_of_ble_eq_true rfl) dX12_nameEnd_26 ⟨Nat.le_of_ble_eq_true rfl, Nat.le_of_ble_eq_true rfl⟩ (fun r_33 t_32 H locs hw hP hD hS => ?_)
          obtain ⟨h_35, h_36, p_37, p_38, p_39, p_40⟩ := hw
          replace p_37 : r_33 = fLet t w5_1 := p_37
          replace p_38 : r_33.toInt = (fLet t w5_1).toInt := p_38
          replace p_39 : ¬ r_33.toInt = 32 → (t.2.2.1 19 ((t.1 0 67) : Int32).toNatClampNeg).toInt + w5_1.toInt ≤ (t.2.2.1 20 ((t.1 0 67) : Int32).toNatClampNeg).toInt := p_39
          replace p_40 : 81 ≤ w5_1.toInt → r_33.toInt = 32 := p_40
          refine g_Si (As := [.int r_33]) (rest := []) C hP hD hS hA (T_X12_isDigit l D K Z Y ad t hok (r_33) (show (0 : Int) ≤ (r_33 : Int32).toInt ∧ (r_33 : Int32).toInt ≤ 255 from ⟨by omega, by omega⟩)) hE hZ (uwS m_32_15 m_32_16 m_1_5 m_32_17) (hdS 1 (by decide +kernel) rfl) ⟨Nat.le_of_ble_eq_true rfl, Nat.le_of_ble_eq_true rfl⟩ rfl rfl rfl hl.1 (Nat.le_of_ble_eq_true rfl) dX12_nameEnd_29 ⟨Nat.le_of_ble_eq_true rfl, Nat.le_of_ble_eq_true rfl⟩ (fun r_42 t_41 H locs hw hP hD hS => ?_)
          obtain ⟨h_44, h_45, p_46⟩ := hw
          replace p_46 : r_42.toInt = 1 → 48 ≤ r_33.toInt ∧ r_33.toInt ≤ 57 := p_46
          refine lv_if_eq (tgt := 41) C.1 C.2.1 dX12_nameEnd_32 (by decide) (fun c_47 => ?_) (fun c_47 => ?_)
          · replace c_47 : r_42.toInt = 0 := i_eq c_47
            refine lv_iload_n C.1 C.2.1 dX12_nameEnd_41 rfl (lv_at hl 1 rfl) ?_
            exact g_iret C hr hlocks hP hD hS rfl () rfl ⟨by omega, by omega, (show (t.1 0 68).toInt ≤ w5_1.toInt from by omega), (show w5_1.toInt ≤ (t.1 0 69).toInt ∨ w5_1.toInt = (t.1 0 68).toInt from by omega)⟩ (Nat.le_of_ble_eq_true rfl) (Nat.le_of_ble_eq_true rfl) dX12_nameEnd_42
          · replace c_47 : ¬ r_42.toInt = 0 := i_ne c_47
            exact L_35 w5_1 _ _ _ ⟨by omega, by omega⟩ (show (1 : Int) ≤ ((t.1 0 69) : Int32).toInt ∧ ((t.1 0 69) : Int32).toInt ≤ 81 from ⟨by omega, by omega⟩) (show (t.1 0 68).toInt ≤ w5_1.toInt from by omega) (show w5_1.toInt < (t.1 0 69).toInt from by omega) (show (81 : Int) - w5_1.toInt < (fuel_5 : Int) + 1 from by omega) hP hD hS (lv_sub hl [0, 1] rfl)
  refine lv_aload_n C.1 C.2.1 dX12_nameEnd_0 rfl (lv_at hl 0 rfl) ?_
  refine k_get (v := .int (t.1 0 68)) C hP 0 rfl rfl inlX12 68 (by decide) m_31_6 rfl dX12_nameEnd_1 ?_
  refine lv_istore_n (lv' := [(1, .int (t.1 0 68)), (0, .ref (ad 0))]) C.1 C.2.1 dX12_nameEnd_4 rfl hl (by decide) rfl (fun ls hl => ?_)
  have hl : lv_has ls 2 [(0, .ref (ad 0)), (1, .int (t.1 0 68))] := lv_sub hl [1, 0] rfl
  exact L_5 82 (t.1 0 68) _ _ _ ⟨by omega, by omega⟩ (show (t.1 0 68).toInt ≤ (t.1 0 68).toInt from by omega) (show (t.1 0 68).toInt ≤ (t.1 0 69).toInt ∨ (t.1 0 68).toInt = (t.1 0 68).toInt from by omega) (show (81 : Int) - (t.1 0 68).toInt < ((82 : Nat) : Int) from by omega) hP hD hS (lv_sub hl [0, 1] rfl)

theorem dX12_jumps_0 : decode cX12_jumps 0 = .ok (.aload_n 0, 1) := by decide +kernel
theorem dX12_jumps_1 : decode cX12_jumps 1 = .ok (.getfield 282, 3) := by decide +kernel
theorem dX12_jumps_10 : decode cX12_jumps 10 = .ok (.getfield 282, 3) := by decide +kernel
theorem dX12_jumps_100 : decode cX12_jumps 100 = .ok (.invokestatic 311, 3) := by decide +kernel
theorem dX12_jumps_103 : decode cX12_jumps 103 = .ok (.ireturn, 1) := by decide +kernel
theorem dX12_jumps_104 : decode cX12_jumps 104 = .ok (.aload_n 0, 1) := by decide +kernel
theorem dX12_jumps_105 : decode cX12_jumps 105 = .ok (.getfield 282, 3) := by decide +kernel
theorem dX12_jumps_108 : decode cX12_jumps 108 = .ok (.bipush 39, 2) := by decide +kernel
theorem dX12_jumps_110 : decode cX12_jumps 110 = .ok (.if_icmp .eq 5, 3) := by decide +kernel
theorem dX12_jumps_113 : decode cX12_jumps 113 = .ok (.iconst 0, 1) := by decide +kernel
theorem dX12_jumps_114 : decode cX12_jumps 114 = .ok (.ireturn, 1) := by decide +kernel
theorem dX12_jumps_115 : decode cX12_jumps 115 = .ok (.aload_n 0, 1) := by decide +kernel
theorem dX12_jumps_116 : decode cX12_jumps 116 = .ok (.getfield 289, 3) := by decide +kernel
theorem dX12_jumps_119 : decode cX12_jumps 119 = .ok (.tableswitch 137 0 8 #[49, 49, 51, 56, 69, 82, 96, 110, 123], 49) := by decide +kernel
theorem dX12_jumps_13 : decode cX12_jumps 13 = .ok (.bipush 38, 2) := by decide +kernel
theorem dX12_jumps_15 : decode cX12_jumps 15 = .ok (.if_icmp .ne 48, 3) := by decide +kernel
theorem dX12_jumps_168 : decode cX12_jumps 168 = .ok (.iconst 1, 1) := by decide +kernel
theorem dX12_jumps_169 : decode cX12_jumps 169 = .ok (.ireturn, 1) := by decide +kernel
theorem dX12_jumps_170 : decode cX12_jumps 170 = .ok (.aload_n 0, 1) := by decide +kernel
theorem dX12_jumps_171 : decode cX12_jumps 171 = .ok (.getfield 314, 3) := by decide +kernel
theorem dX12_jumps_174 : decode cX12_jumps 174 = .ok (.ireturn, 1) := by decide +kernel
theorem dX12_jumps_175 : decode cX12_jumps 175 = .ok (.aload_n 0, 1) := by decide +kernel
theorem dX12_jumps_176 : decode cX12_jumps 176 = .ok (.getfield 314, 3) := by decide +kernel
theorem dX12_jumps_179 : decode cX12_jumps 179 = .ok (.ifCond .ne 7, 3) := by decide +kernel
theorem dX12_jumps_18 : decode cX12_jumps 18 = .ok (.aload_n 0, 1) := by decide +kernel
theorem dX12_jumps_182 : decode cX12_jumps 182 = .ok (.iconst 1, 1) := by decide +kernel
theorem dX12_jumps_183 : decode cX12_jumps 183 = .ok (.goto 4, 3) := by decide +kernel
theorem dX12_jumps_186 : decode cX12_jumps 186 = .ok (.iconst 0, 1) := by decide +kernel
theorem dX12_jumps_187 : decode cX12_jumps 187 = .ok (.ireturn, 1) := by decide +kernel
theorem dX12_jumps_188 : decode cX12_jumps 188 = .ok (.aload_n 0, 1) := by decide +kernel
theorem dX12_jumps_189 : decode cX12_jumps 189 = .ok (.getfield 20, 3) := by decide +kernel
theorem dX12_jumps_19 : decode cX12_jumps 19 = .ok (.getfield 27, 3) := by decide +kernel
theorem dX12_jumps_192 : decode cX12_jumps 192 = .ok (.ifCond .ne 7, 3) := by decide +kernel
theorem dX12_jumps_195 : decode cX12_jumps 195 = .ok (.iconst 1, 1) := by decide +kernel
theorem dX12_jumps_196 : decode cX12_jumps 196 = .ok (.goto 4, 3) := by decide +kernel
theorem dX12_jumps_199 : decode cX12_jumps 199 = .ok (.iconst 0, 1) := by decide +kernel
theorem dX12_jumps_200 : decode cX12_jumps 200 = .ok (.ireturn, 1) := by decide +kernel
theorem dX12_jumps_201 : decode cX12_jumps 201 = .ok (.aload_n 0, 1) := by decide +kernel
theorem dX12_jumps_202 : decode cX12_jumps 202 = .ok (.getfield 20, 3) := by decide +kernel
theorem dX12_jumps_205 : decode cX12_jumps 205 = .ok (.iconst 1, 1) := by decide +kernel
theorem dX12_jumps_206 : decode cX12_jumps 206 = .ok (.if_icmp .ne 7, 3) := by decide +kernel
theorem dX12_jumps_209 : decode cX12_jumps 209 = .ok (.iconst 1, 1) := by decide +kernel
theorem dX12_jumps_210 : decode cX12_jumps 210 = .ok (.goto 4, 3) := by decide +kernel
theorem dX12_jumps_213 : decode cX12_jumps 213 = .ok (.iconst 0, 1) := by decide +kernel
theorem dX12_jumps_214 : decode cX12_jumps 214 = .ok (.ireturn, 1) := by decide +kernel
theorem dX12_jumps_215 : decode cX12_jumps 215 = .ok (.aload_n 0, 1) := by decide +kernel
theorem dX12_jumps_216 : decode cX12_jumps 216 = .ok (.getfield 20, 3) := by decide +kernel
theorem dX12_jumps_219 : decode cX12_jumps 219 = .ok (.iconst 2, 1) := by decide +kernel
theorem dX12_jumps_22 : decode cX12_jumps 22 = .ok (.aload_n 0, 1) := by decide +kernel
theorem dX12_jumps_220 : decode cX12_jumps 220 = .ok (.if_icmp .ne 7, 3) := by decide +kernel
theorem dX12_jumps_223 : decode cX12_jumps 223 = .ok (.iconst 1, 1) := by decide +kernel
theorem dX12_jumps_224 : decode cX12_jumps 224 = .ok (.goto 4, 3) := by decide +kernel
theorem dX12_jumps_227 : decode cX12_jumps 227 = .ok (.iconst 0, 1) := by decide +kernel
theorem dX12_jumps_228 : decode cX12_jumps 228 = .ok (.ireturn, 1) := by decide +kernel
theorem dX12_jumps_229 : decode cX12_jumps 229 = .ok (.aload_n 0, 1) := by decide +kernel
theorem dX12_jumps_23 : decode cX12_jumps 23 = .ok (.getfield 289, 3) := by decide +kernel
theorem dX12_jumps_230 : decode cX12_jumps 230 = .ok (.getfield 20, 3) := by decide +kernel
theorem dX12_jumps_233 : decode cX12_jumps 233 = .ok (.ifCond .le 7, 3) := by decide +kernel
theorem dX12_jumps_236 : decode cX12_jumps 236 = .ok (.iconst 1, 1) := by decide +kernel
theorem dX12_jumps_237 : decode cX12_jumps 237 = .ok (.goto 4, 3) := by decide +kernel
theorem dX12_jumps_240 : decode cX12_jumps 240 = .ok (.iconst 0, 1) := by decide +kernel
theorem dX12_jumps_241 : decode cX12_jumps 241 = .ok (.ireturn, 1) := by decide +kernel
theorem dX12_jumps_242 : decode cX12_jumps 242 = .ok (.aload_n 0, 1) := by decide +kernel
theorem dX12_jumps_243 : decode cX12_jumps 243 = .ok (.getfield 20, 3) := by decide +kernel
theorem dX12_jumps_246 : decode cX12_jumps 246 = .ok (.iconst 1, 1) := by decide +kernel
theorem dX12_jumps_247 : decode cX12_jumps 247 = .ok (.if_icmp .eq 7, 3) := by decide +kernel
theorem dX12_jumps_250 : decode cX12_jumps 250 = .ok (.iconst 1, 1) := by decide +kernel
theorem dX12_jumps_251 : decode cX12_jumps 251 = .ok (.goto 4, 3) := by decide +kernel
theorem dX12_jumps_254 : decode cX12_jumps 254 = .ok (.iconst 0, 1) := by decide +kernel
theorem dX12_jumps_255 : decode cX12_jumps 255 = .ok (.ireturn, 1) := by decide +kernel
theorem dX12_jumps_256 : decode cX12_jumps 256 = .ok (.aload_n 0, 1) := by decide +kernel
theorem dX12_jumps_257 : decode cX12_jumps 257 = .ok (.getfield 20, 3) := by decide +kernel
theorem dX12_jumps_26 : decode cX12_jumps 26 = .ok (.laload, 1) := by decide +kernel
theorem dX12_jumps_260 : decode cX12_jumps 260 = .ok (.iconst 2, 1) := by decide +kernel
theorem dX12_jumps_261 : decode cX12_jumps 261 = .ok (.if_icmp .ge 7, 3) := by decide +kernel
theorem dX12_jumps_264 : decode cX12_jumps 264 = .ok (.iconst 1, 1) := by decide +kernel
theorem dX12_jumps_265 : decode cX12_jumps 265 = .ok (.goto 4, 3) := by decide +kernel
theorem dX12_jumps_268 : decode cX12_jumps 268 = .ok (.iconst 0, 1) := by decide +kernel
theorem dX12_jumps_269 : decode cX12_jumps 269 = .ok (.ireturn, 1) := by decide +kernel
theorem dX12_jumps_27 : decode cX12_jumps 27 = .ok (.aload_n 0, 1) := by decide +kernel
theorem dX12_jumps_28 : decode cX12_jumps 28 = .ok (.getfield 272, 3) := by decide +kernel
theorem dX12_jumps_31 : decode cX12_jumps 31 = .ok (.lcmp, 1) := by decide +kernel
theorem dX12_jumps_32 : decode cX12_jumps 32 = .ok (.ifCond .le 7, 3) := by decide +kernel
theorem dX12_jumps_35 : decode cX12_jumps 35 = .ok (.iconst 1, 1) := by decide +kernel
theorem dX12_jumps_36 : decode cX12_jumps 36 = .ok (.goto 4, 3) := by decide +kernel
theorem dX12_jumps_39 : decode cX12_jumps 39 = .ok (.iconst 0, 1) := by decide +kernel
theorem dX12_jumps_4 : decode cX12_jumps 4 = .ok (.bipush 34, 2) := by decide +kernel
theorem dX12_jumps_40 : decode cX12_jumps 40 = .ok (.aload_n 0, 1) := by decide +kernel
theorem dX12_jumps_41 : decode cX12_jumps 41 = .ok (.getfield 282, 3) := by decide +kernel
theorem dX12_jumps_44 : decode cX12_jumps 44 = .ok (.bipush 34, 2) := by decide +kernel
theorem dX12_jumps_46 : decode cX12_jumps 46 = .ok (.if_icmp .ne 7, 3) := by decide +kernel
theorem dX12_jumps_49 : decode cX12_jumps 49 = .ok (.iconst 1, 1) := by decide +kernel
theorem dX12_jumps_50 : decode cX12_jumps 50 = .ok (.goto 4, 3) := by decide +kernel
theorem dX12_jumps_53 : decode cX12_jumps 53 = .ok (.iconst 0, 1) := by decide +kernel
theorem dX12_jumps_54 : decode cX12_jumps 54 = .ok (.if_icmp .ne 7, 3) := by decide +kernel
theorem dX12_jumps_57 : decode cX12_jumps 57 = .ok (.iconst 1, 1) := by decide +kernel
theorem dX12_jumps_58 : decode cX12_jumps 58 = .ok (.goto 4, 3) := by decide +kernel
theorem dX12_jumps_6 : decode cX12_jumps 6 = .ok (.if_icmp .eq 12, 3) := by decide +kernel
theorem dX12_jumps_61 : decode cX12_jumps 61 = .ok (.iconst 0, 1) := by decide +kernel
theorem dX12_jumps_62 : decode cX12_jumps 62 = .ok (.ireturn, 1) := by decide +kernel
theorem dX12_jumps_63 : decode cX12_jumps 63 = .ok (.aload_n 0, 1) := by decide +kernel
theorem dX12_jumps_64 : decode cX12_jumps 64 = .ok (.getfield 282, 3) := by decide +kernel
theorem dX12_jumps_67 : decode cX12_jumps 67 = .ok (.bipush 39, 2) := by decide +kernel
theorem dX12_jumps_69 : decode cX12_jumps 69 = .ok (.if_icmp .le 35, 3) := by decide +kernel
theorem dX12_jumps_72 : decode cX12_jumps 72 = .ok (.aload_n 0, 1) := by decide +kernel
theorem dX12_jumps_73 : decode cX12_jumps 73 = .ok (.getfield 282, 3) := by decide +kernel
theorem dX12_jumps_76 : decode cX12_jumps 76 = .ok (.bipush 48, 2) := by decide +kernel
theorem dX12_jumps_78 : decode cX12_jumps 78 = .ok (.if_icmp .ge 26, 3) := by decide +kernel
theorem dX12_jumps_81 : decode cX12_jumps 81 = .ok (.aload_n 0, 1) := by decide +kernel
theorem dX12_jumps_82 : decode cX12_jumps 82 = .ok (.getfield 17, 3) := by decide +kernel
theorem dX12_jumps_85 : decode cX12_jumps 85 = .ok (.aload_n 0, 1) := by decide +kernel
theorem dX12_jumps_86 : decode cX12_jumps 86 = .ok (.getfield 282, 3) := by decide +kernel
theorem dX12_jumps_89 : decode cX12_jumps 89 = .ok (.bipush 40, 2) := by decide +kernel
theorem dX12_jumps_9 : decode cX12_jumps 9 = .ok (.aload_n 0, 1) := by decide +kernel
theorem dX12_jumps_91 : decode cX12_jumps 91 = .ok (.isub, 1) := by decide +kernel
theorem dX12_jumps_92 : decode cX12_jumps 92 = .ok (.iaload, 1) := by decide +kernel
theorem dX12_jumps_93 : decode cX12_jumps 93 = .ok (.invokestatic 161, 3) := by decide +kernel
theorem dX12_jumps_96 : decode cX12_jumps 96 = .ok (.aload_n 0, 1) := by decide +kernel
theorem dX12_jumps_97 : decode cX12_jumps 97 = .ok (.getfield 289, 3) := by decide +kernel
set_option maxHeartbeats 4000000 in
set_option maxRecDepth 100000 in
theorem T_X12_jumps (l : Launch) (D : va_G) (K : Nat → ClassId) (Z Y : Nat → Nat) (ad : Nat → Nat) (t : tSt) (hok : okM t) (hs0 : (t.1 0 16).toInt = 34 ∨ (t.1 0 16).toInt = 38 → (t.1 0 17).toInt ≤ 19) : tMet l yX12_jumps cX12_jumps 1 (some .boolean) (rmD 1 0 0) D K Z Y [.ref (ad 0)] (WM K ad t) (QI D K (fun (r : Int32) (u : Unit) => (0 : Int) ≤ r.toInt ∧ r.toInt ≤ 1) (fun (_ : Unit) => WM K ad t)) 0 0 := by
  refine t_met RX12 ⟨rfl, by decide +kernel⟩ (Nat.le_of_ble_eq_true rfl) ?_
  intro p e s m below meth c A ls C hE hZ hr hlocks hA hP hD hS hl
  have hl : lv_has ls 1 [(0, .ref (ad 0))] := hl
  have h_1 : (0 : Int) ≤ (t.1 0 16).toInt ∧ (t.1 0 16).toInt ≤ 63 := hok.1 0 16
  have h_2 : (0 : Int) ≤ (t.1 0 17).toInt ∧ (t.1 0 17).toInt ≤ 63 := hok.1 0 17
  refine lv_aload_n C.1 C.2.1 dX12_jumps_0 rfl (lv_at hl 0 rfl) ?_
  refine k_get (v := .int (t.1 0 16)) C hP 0 rfl rfl inlX12 16 (by decide) m_57_3 rfl dX12_jumps_1 ?_
  refine lv_bipush (v := 34) C.1 C.2.1 dX12_jumps_4 (by decide) ?_
  refine lv_icmp_eq (tgt := 18) C.1 C.2.1 dX12_jumps_6 (by decide) (fun c_3 => ?_) (fun c_3 => ?_)
  · replace c_3 : (t.1 0 16).toInt = 34 := i_eq c_3
    refine lv_aload_n C.1 C.2.1 dX12_jumps_18 rfl (lv_at hl 0 rfl) ?_
    refine k_get (v := .ref (ad 4)) C hP 0 rfl rfl inlX12 19 (by decide) m_7_9 rfl dX12_jumps_19 ?_
    refine lv_aload_n C.1 C.2.1 dX12_jumps_22 rfl (lv_at hl 0 rfl) ?_
    refine k_get (v := .int (t.1 0 17)) C hP 0 rfl rfl inlX12 17 (by decide) m_57_4 rfl dX12_jumps_23 ?_
    refine k_lld (v := (t.2.2.2 4 ((t.1 0 17) : Int32).toNatClampNeg)) C hP 4 rfl (vp_in_iff.mpr ⟨by omega, by omega⟩) rfl dX12_jumps_26 ?_
    refine lv_aload_n C.1 C.2.1 dX12_jumps_27 rfl (lv_at hl 0 rfl) ?_
    refine k_get (v := .long (t.2.1 0 8)) C hP 0 rfl rfl inlX12 8 (by decide) m_29_23 rfl dX12_jumps_28 ?_
    obtain ⟨v_4, e_5⟩ : ∃ z, z = lg_cmp ((t.2.2.2 4 ((t.1 0 17) : Int32).toNatClampNeg) : Int64) (t.2.1 0 8) := ⟨_, rfl⟩
    have h_6 : (-1 : Int) ≤ v_4.toInt ∧ v_4.toInt ≤ 1 := by rw [e_5]; exact cmp_rng _ _
    refine k_lcmp (v := v_4) C e_5.symm dX12_jumps_31 ?_
    refine lv_if_le (tgt := 39) C.1 C.2.1 dX12_jumps_32 (by decide) (fun c_7 => ?_) (fun c_7 => ?_)
    · replace c_7 : v_4.toInt ≤ 0 := i_le c_7
      refine lv_iconst (v := 0) C.1 C.2.1 dX12_jumps_39 (by decide) ?_
      refine lv_aload_n C.1 C.2.1 dX12_jumps_40 rfl (lv_at hl 0 rfl) ?_
      refine k_get (v := .int (t.1 0 16)) C hP 0 rfl rfl inlX12 16 (by decide) m_57_3 rfl dX12_jumps_41 ?_
      refine lv_bipush (v := 34) C.1 C.2.1 dX12_jumps_44 (by decide) ?_
      refine lv_icmp_ne (tgt := 53) C.1 C.2.1 dX12_jumps_46 (by decide) (fun c_8 => False.elim (by have c_8 : ¬ (t.1 0 16).toInt = 34 := i_ne c_8; omega)) (fun c_8 => ?_)
      replace c_8 : (t.1 0 16).toInt = 34 := i_eq c_8
      refine lv_iconst (v := 1) C.1 C.2.1 dX12_jumps_49 (by decide) ?_
      refine lv_goto (tgt := 54) C.1 C.2.1 dX12_jumps_50 (by decide) ?_
      refine lv_icmp_ne (tgt := 61) C.1 C.2.1 dX12_jumps_54 (by decide) (fun _ => ?_) (fun h => absurd h (by decide))
      refine lv_iconst (v := 0) C.1 C.2.1 dX12_jumps_61 (by decide) ?_
      exact g_iret C hr hlocks hP hD hS (by decide) () rfl ⟨by decide, by decide⟩ (Nat.le_of_ble_eq_true rfl) (Nat.le_of_ble_eq_true rfl) dX12_jumps_62
    · replace c_7 : 0 < v_4.toInt := i_nle c_7
      refine lv_iconst (v := 1) C.1 C.2.1 dX12_jumps_35 (by decide) ?_
      refine lv_goto (tgt := 40) C.1 C.2.1 dX12_jumps_36 (by decide) ?_
      refine lv_aload_n C.1 C.2.1 dX12_jumps_40 rfl (lv_at hl 0 rfl) ?_
      refine k_get (v := .int (t.1 0 16)) C hP 0 rfl rfl inlX12 16 (by decide) m_57_3 rfl dX12_jumps_41 ?_
      refine lv_bipush (v := 34) C.1 C.2.1 dX12_jumps_44 (by decide) ?_
      refine lv_icmp_ne (tgt := 53) C.1 C.2.1 dX12_jumps_46 (by decide) (fun c_9 => False.elim (by have c_9 : ¬ (t.1 0 16).toInt = 34 := i_ne c_9; omega)) (fun c_9 => ?_)
      replace c_9 : (t.1 0 16).toInt = 34 := i_eq c_9
      refine lv_iconst (v := 1) C.1 C.2.1 dX12_jumps_49 (by decide) ?_
      refine lv_goto (tgt := 54) C.1 C.2.1 dX12_jumps_50 (by decide) ?_
      refine lv_icmp_ne (tgt := 61) C.1 C.2.1 dX12_jumps_54 (by decide) (fun h => absurd h (by decide)) (fun _ => ?_)
      refine lv_iconst (v := 1) C.1 C.2.1 dX12_jumps_57 (by decide) ?_
      refine lv_goto (tgt := 62) C.1 C.2.1 dX12_jumps_58 (by decide) ?_
      exact g_iret C hr hlocks hP hD hS (by decide) () rfl ⟨by decide, by decide⟩ (Nat.le_of_ble_eq_true rfl) (Nat.le_of_ble_eq_true rfl) dX12_jumps_62
  · replace c_3 : ¬ (t.1 0 16).toInt = 34 := i_ne c_3
    refine lv_aload_n C.1 C.2.1 dX12_jumps_9 rfl (lv_at hl 0 rfl) ?_
    refine k_get (v := .int (t.1 0 16)) C hP 0 rfl rfl inlX12 16 (by decide) m_57_3 rfl dX12_jumps_10 ?_
    refine lv_bipush (v := 38) C.1 C.2.1 dX12_jumps_13 (by decide) ?_
    refine lv_icmp_ne (tgt := 63) C.1 C.2.1 dX12_jumps_15 (by decide) (fun c_10 => ?_) (fun c_10 => ?_)
    · replace c_10 : ¬ (t.1 0 16).toInt = 38 := i_ne c_10
      refine lv_aload_n C.1 C.2.1 dX12_jumps_63 rfl (lv_at hl 0 rfl) ?_
      refine k_get (v := .int (t.1 0 16)) C hP 0 rfl rfl inlX12 16 (by decide) m_57_3 rfl dX12_jumps_64 ?_
      refine lv_bipush (v := 39) C.1 C.2.1 dX12_jumps_67 (by decide) ?_
      refine lv_icmp_le (tgt := 104) C.1 C.2.1 dX12_jumps_69 (by decide) (fun c_11 => ?_) (fun c_11 => ?_)
      · replace c_11 : (t.1 0 16).toInt ≤ 39 := i_le c_11
        refine lv_aload_n C.1 C.2.1 dX12_jumps_104 rfl (lv_at hl 0 rfl) ?_
        refine k_get (v := .int (t.1 0 16)) C hP 0 rfl rfl inlX12 16 (by decide) m_57_3 rfl dX12_jumps_105 ?_
        refine lv_bipush (v := 39) C.1 C.2.1 dX12_jumps_108 (by decide) ?_
        refine lv_icmp_eq (tgt := 115) C.1 C.2.1 dX12_jumps_110 (by decide) (fun c_12 => ?_) (fun c_12 => ?_)
        · replace c_12 : (t.1 0 16).toInt = 39 := i_eq c_12
          refine lv_aload_n C.1 C.2.1 dX12_jumps_115 rfl (lv_at hl 0 rfl) ?_
          refine k_get (v := .int (t.1 0 17)) C hP 0 rfl rfl inlX12 17 (by decide) m_57_4 rfl dX12_jumps_116 ?_
          by_cases c_13 : (t.1 0 17) = 0
          · refine lv_tableIn (tgt := 168) (off := 49) C.1 C.2.1 dX12_jumps_119 (by rw [c_13]; decide) (by rw [c_13]; decide) (by rw [c_13]; decide) (by decide) ?_
            replace c_13 : (t.1 0 17).toInt = 0 := i_eq c_13
            refine lv_iconst (v := 1) C.1 C.2.1 dX12_jumps_168 (by decide) ?_
            exact g_iret C hr hlocks hP hD hS (by decide) () rfl ⟨by decide, by decide⟩ (Nat.le_of_ble_eq_true rfl) (Nat.le_of_ble_eq_true rfl) dX12_jumps_169
          replace c_13 : ¬ (t.1 0 17).toInt = 0 := i_ne c_13
          by_cases c_14 : (t.1 0 17) = 1
          · refine lv_tableIn (tgt := 168) (off := 49) C.1 C.2.1 dX12_jumps_119 (by rw [c_14]; decide) (by rw [c_14]; decide) (by rw [c_14]; decide) (by decide) ?_
            replace c_14 : (t.1 0 17).toInt = 1 := i_eq c_14
            refine lv_iconst (v := 1) C.1 C.2.1 dX12_jumps_168 (by decide) ?_
            exact g_iret C hr hlocks hP hD hS (by decide) () rfl ⟨by decide, by decide⟩ (Nat.le_of_ble_eq_true rfl) (Nat.le_of_ble_eq_true rfl) dX12_jumps_169
          replace c_14 : ¬ (t.1 0 17).toInt = 1 := i_ne c_14
          by_cases c_15 : (t.1 0 17) = 2
          · refine lv_tableIn (tgt := 170) (off := 51) C.1 C.2.1 dX12_jumps_119 (by rw [c_15]; decide) (by rw [c_15]; decide) (by rw [c_15]; decide) (by decide) ?_
            replace c_15 : (t.1 0 17).toInt = 2 := i_eq c_15
            refine lv_aload_n C.1 C.2.1 dX12_jumps_170 rfl (lv_at hl 0 rfl) ?_
            have h_16 : (0 : Int) ≤ (t.1 0 5).toInt ∧ (t.1 0 5).toInt ≤ 1 := hok.1 0 5
            refine k_get (v := .int (t.1 0 5)) C hP 0 rfl rfl inlX12 5 (by decide) m_29_21 rfl dX12_jumps_171 ?_
            exact g_iret C hr hlocks hP hD hS (nar01 (by omega) (by omega)) () rfl ⟨by omega, by omega⟩ (Nat.le_of_ble_eq_true rfl) (Nat.le_of_ble_eq_true rfl) dX12_jumps_174
          replace c_15 : ¬ (t.1 0 17).toInt = 2 := i_ne c_15
          by_cases c_17 : (t.1 0 17) = 3
          · refine lv_tableIn (tgt := 175) (off := 56) C.1 C.2.1 dX12_jumps_119 (by rw [c_17]; decide) (by rw [c_17]; decide) (by rw [c_17]; decide) (by decide) ?_
            replace c_17 : (t.1 0 17).toInt = 3 := i_eq c_17
            refine lv_aload_n C.1 C.2.1 dX12_jumps_175 rfl (lv_at hl 0 rfl) ?_
            have h_18 : (0 : Int) ≤ (t.1 0 5).toInt ∧ (t.1 0 5).toInt ≤ 1 := hok.1 0 5
            refine k_get (v := .int (t.1 0 5)) C hP 0 rfl rfl inlX12 5 (by decide) m_29_21 rfl dX12_jumps_176 ?_
            refine lv_if_ne (tgt := 186) C.1 C.2.1 dX12_jumps_179 (by decide) (fun c_19 => ?_) (fun c_19 => ?_)
            · replace c_19 : ¬ (t.1 0 5).toInt = 0 := i_ne c_19
              refine lv_iconst (v := 0) C.1 C.2.1 dX12_jumps_186 (by decide) ?_
              exact g_iret C hr hlocks hP hD hS (by decide) () rfl ⟨by decide, by decide⟩ (Nat.le_of_ble_eq_true rfl) (Nat.le_of_ble_eq_true rfl) dX12_jumps_187
            · replace c_19 : (t.1 0 5).toInt = 0 := i_eq c_19
              refine lv_iconst (v := 1) C.1 C.2.1 dX12_jumps_182 (by decide) ?_
              refine lv_goto (tgt := 187) C.1 C.2.1 dX12_jumps_183 (by decide) ?_
              exact g_iret C hr hlocks hP hD hS (by decide) () rfl ⟨by decide, by decide⟩ (Nat.le_of_ble_eq_true rfl) (Nat.le_of_ble_eq_true rfl) dX12_jumps_187
          replace c_17 : ¬ (t.1 0 17).toInt = 3 := i_ne c_17
          by_cases c_20 : (t.1 0 17) = 4
          · refine lv_tableIn (tgt := 188) (off := 69) C.1 C.2.1 dX12_jumps_119 (by rw [c_20]; decide) (by rw [c_20]; decide) (by rw [c_20]; decide) (by decide) ?_
            replace c_20 : (t.1 0 17).toInt = 4 := i_eq c_20
            refine lv_aload_n C.1 C.2.1 dX12_jumps_188 rfl (lv_at hl 0 rfl) ?_
            have h_21 : (0 : Int) ≤ (t.1 0 6).toInt ∧ (t.1 0 6).toInt ≤ 7 := hok.1 0 6
            refine k_get (v := .int (t.1 0 6)) C hP 0 rfl rfl inlX12 6 (by decide) m_7_7 rfl dX12_jumps_189 ?_
            refine lv_if_ne (tgt := 199) C.1 C.2.1 dX12_jumps_192 (by decide) (fun c_22 => ?_) (fun c_22 => ?_)
            · replace c_22 : ¬ (t.1 0 6).toInt = 0 := i_ne c_22
              refine lv_iconst (v := 0) C.1 C.2.1 dX12_jumps_199 (by decide) ?_
              exact g_iret C hr hlocks hP hD hS (by decide) () rfl ⟨by decide, by decide⟩ (Nat.le_of_ble_eq_true rfl) (Nat.le_of_ble_eq_true rfl) dX12_jumps_200
            · replace c_22 : (t.1 0 6).toInt = 0 := i_eq c_22
              refine lv_iconst (v := 1) C.1 C.2.1 dX12_jumps_195 (by decide) ?_
              refine lv_goto (tgt := 200) C.1 C.2.1 dX12_jumps_196 (by decide) ?_
              exact g_iret C hr hlocks hP hD hS (by decide) () rfl ⟨by decide, by decide⟩ (Nat.le_of_ble_eq_true rfl) (Nat.le_of_ble_eq_true rfl) dX12_jumps_200
          replace c_20 : ¬ (t.1 0 17).toInt = 4 := i_ne c_20
          by_cases c_23 : (t.1 0 17) = 5
          · refine lv_tableIn (tgt := 201) (off := 82) C.1 C.2.1 dX12_jumps_119 (by rw [c_23]; decide) (by rw [c_23]; decide) (by rw [c_23]; decide) (by decide) ?_
            replace c_23 : (t.1 0 17).toInt = 5 := i_eq c_23
            refine lv_aload_n C.1 C.2.1 dX12_jumps_201 rfl (lv_at hl 0 rfl) ?_
            have h_24 : (0 : Int) ≤ (t.1 0 6).toInt ∧ (t.1 0 6).toInt ≤ 7 := hok.1 0 6
            refine k_get (v := .int (t.1 0 6)) C hP 0 rfl rfl inlX12 6 (by decide) m_7_7 rfl dX12_jumps_202 ?_
            refine lv_iconst (v := 1) C.1 C.2.1 dX12_jumps_205 (by decide) ?_
            refine lv_icmp_ne (tgt := 213) C.1 C.2.1 dX12_jumps_206 (by decide) (fun c_25 => ?_) (fun c_25 => ?_)
            · replace c_25 : ¬ (t.1 0 6).toInt = 1 := i_ne c_25
              refine lv_iconst (v := 0) C.1 C.2.1 dX12_jumps_213 (by decide) ?_
              exact g_iret C hr hlocks hP hD hS (by decide) () rfl ⟨by decide, by decide⟩ (Nat.le_of_ble_eq_true rfl) (Nat.le_of_ble_eq_true rfl) dX12_jumps_214
            · replace c_25 : (t.1 0 6).toInt = 1 := i_eq c_25
              refine lv_iconst (v := 1) C.1 C.2.1 dX12_jumps_209 (by decide) ?_
              refine lv_goto (tgt := 214) C.1 C.2.1 dX12_jumps_210 (by decide) ?_
              exact g_iret C hr hlocks hP hD hS (by decide) () rfl ⟨by decide, by decide⟩ (Nat.le_of_ble_eq_true rfl) (Nat.le_of_ble_eq_true rfl) dX12_jumps_214
          replace c_23 : ¬ (t.1 0 17).toInt = 5 := i_ne c_23
          by_cases c_26 : (t.1 0 17) = 6
          · refine lv_tableIn (tgt := 215) (off := 96) C.1 C.2.1 dX12_jumps_119 (by rw [c_26]; decide) (by rw [c_26]; decide) (by rw [c_26]; decide) (by decide) ?_
            replace c_26 : (t.1 0 17).toInt = 6 := i_eq c_26
            refine lv_aload_n C.1 C.2.1 dX12_jumps_215 rfl (lv_at hl 0 rfl) ?_
            have h_27 : (0 : Int) ≤ (t.1 0 6).toInt ∧ (t.1 0 6).toInt ≤ 7 := hok.1 0 6
            refine k_get (v := .int (t.1 0 6)) C hP 0 rfl rfl inlX12 6 (by decide) m_7_7 rfl dX12_jumps_216 ?_
            refine lv_iconst (v := 2) C.1 C.2.1 dX12_jumps_219 (by decide) ?_
            refine lv_icmp_ne (tgt := 227) C.1 C.2.1 dX12_jumps_220 (by decide) (fun c_28 => ?_) (fun c_28 => ?_)
            · replace c_28 : ¬ (t.1 0 6).toInt = 2 := i_ne c_28
              refine lv_iconst (v := 0) C.1 C.2.1 dX12_jumps_227 (by decide) ?_
              exact g_iret C hr hlocks hP hD hS (by decide) () rfl ⟨by decide, by decide⟩ (Nat.le_of_ble_eq_true rfl) (Nat.le_of_ble_eq_true rfl) dX12_jumps_228
            · replace c_28 : (t.1 0 6).toInt = 2 := i_eq c_28
              refine lv_iconst (v := 1) C.1 C.2.1 dX12_jumps_223 (by decide) ?_
              refine lv_goto (tgt := 228) C.1 C.2.1 dX12_jumps_224 (by decide) ?_
              exact g_iret C hr hlocks hP hD hS (by decide) () rfl ⟨by decide, by decide⟩ (Nat.le_of_ble_eq_true rfl) (Nat.le_of_ble_eq_true rfl) dX12_jumps_228
          replace c_26 : ¬ (t.1 0 17).toInt = 6 := i_ne c_26
          by_cases c_29 : (t.1 0 17) = 7
          · refine lv_tableIn (tgt := 229) (off := 110) C.1 C.2.1 dX12_jumps_119 (by rw [c_29]; decide) (by rw [c_29]; decide) (by rw [c_29]; decide) (by decide) ?_
            replace c_29 : (t.1 0 17).toInt = 7 := i_eq c_29
            refine lv_aload_n C.1 C.2.1 dX12_jumps_229 rfl (lv_at hl 0 rfl) ?_
            have h_30 : (0 : Int) ≤ (t.1 0 6).toInt ∧ (t.1 0 6).toInt ≤ 7 := hok.1 0 6
            refine k_get (v := .int (t.1 0 6)) C hP 0 rfl rfl inlX12 6 (by decide) m_7_7 rfl dX12_jumps_230 ?_
            refine lv_if_le (tgt := 240) C.1 C.2.1 dX12_jumps_233 (by decide) (fun c_31 => ?_) (fun c_31 => ?_)
            · replace c_31 : (t.1 0 6).toInt ≤ 0 := i_le c_31
              refine lv_iconst (v := 0) C.1 C.2.1 dX12_jumps_240 (by decide) ?_
              exact g_iret C hr hlocks hP hD hS (by decide) () rfl ⟨by decide, by decide⟩ (Nat.le_of_ble_eq_true rfl) (Nat.le_of_ble_eq_true rfl) dX12_jumps_241
            · replace c_31 : 0 < (t.1 0 6).toInt := i_nle c_31
              refine lv_iconst (v := 1) C.1 C.2.1 dX12_jumps_236 (by decide) ?_
              refine lv_goto (tgt := 241) C.1 C.2.1 dX12_jumps_237 (by decide) ?_
              exact g_iret C hr hlocks hP hD hS (by decide) () rfl ⟨by decide, by decide⟩ (Nat.le_of_ble_eq_true rfl) (Nat.le_of_ble_eq_true rfl) dX12_jumps_241
          replace c_29 : ¬ (t.1 0 17).toInt = 7 := i_ne c_29
          by_cases c_32 : (t.1 0 17) = 8
          · refine lv_tableIn (tgt := 242) (off := 123) C.1 C.2.1 dX12_jumps_119 (by rw [c_32]; decide) (by rw [c_32]; decide) (by rw [c_32]; decide) (by decide) ?_
            replace c_32 : (t.1 0 17).toInt = 8 := i_eq c_32
            refine lv_aload_n C.1 C.2.1 dX12_jumps_242 rfl (lv_at hl 0 rfl) ?_
            have h_33 : (0 : Int) ≤ (t.1 0 6).toInt ∧ (t.1 0 6).toInt ≤ 7 := hok.1 0 6
            refine k_get (v := .int (t.1 0 6)) C hP 0 rfl rfl inlX12 6 (by decide) m_7_7 rfl dX12_jumps_243 ?_
            refine lv_iconst (v := 1) C.1 C.2.1 dX12_jumps_246 (by decide) ?_
            refine lv_icmp_eq (tgt := 254) C.1 C.2.1 dX12_jumps_247 (by decide) (fun c_34 => ?_) (fun c_34 => ?_)
            · replace c_34 : (t.1 0 6).toInt = 1 := i_eq c_34
              refine lv_iconst (v := 0) C.1 C.2.1 dX12_jumps_254 (by decide) ?_
              exact g_iret C hr hlocks hP hD hS (by decide) () rfl ⟨by decide, by decide⟩ (Nat.le_of_ble_eq_true rfl) (Nat.le_of_ble_eq_true rfl) dX12_jumps_255
            · replace c_34 : ¬ (t.1 0 6).toInt = 1 := i_ne c_34
              refine lv_iconst (v := 1) C.1 C.2.1 dX12_jumps_250 (by decide) ?_
              refine lv_goto (tgt := 255) C.1 C.2.1 dX12_jumps_251 (by decide) ?_
              exact g_iret C hr hlocks hP hD hS (by decide) () rfl ⟨by decide, by decide⟩ (Nat.le_of_ble_eq_true rfl) (Nat.le_of_ble_eq_true rfl) dX12_jumps_255
          replace c_32 : ¬ (t.1 0 17).toInt = 8 := i_ne c_32
          refine lv_tableOut (tgt := 256) C.1 C.2.1 dX12_jumps_119 (by omega) (by decide) ?_
          refine lv_aload_n C.1 C.2.1 dX12_jumps_256 rfl (lv_at hl 0 rfl) ?_
          have h_35 : (0 : Int) ≤ (t.1 0 6).toInt ∧ (t.1 0 6).toInt ≤ 7 := hok.1 0 6
          refine k_get (v := .int (t.1 0 6)) C hP 0 rfl rfl inlX12 6 (by decide) m_7_7 rfl dX12_jumps_257 ?_
          refine lv_iconst (v := 2) C.1 C.2.1 dX12_jumps_260 (by decide) ?_
          refine lv_icmp_ge (tgt := 268) C.1 C.2.1 dX12_jumps_261 (by decide) (fun c_36 => ?_) (fun c_36 => ?_)
          · replace c_36 : 2 ≤ (t.1 0 6).toInt := i_le c_36
            refine lv_iconst (v := 0) C.1 C.2.1 dX12_jumps_268 (by decide) ?_
            exact g_iret C hr hlocks hP hD hS (by decide) () rfl ⟨by decide, by decide⟩ (Nat.le_of_ble_eq_true rfl) (Nat.le_of_ble_eq_true rfl) dX12_jumps_269
          · replace c_36 : (t.1 0 6).toInt < 2 := i_nle c_36
            refine lv_iconst (v := 1) C.1 C.2.1 dX12_jumps_264 (by decide) ?_
            refine lv_goto (tgt := 269) C.1 C.2.1 dX12_jumps_265 (by decide) ?_
            exact g_iret C hr hlocks hP hD hS (by decide) () rfl ⟨by decide, by decide⟩ (Nat.le_of_ble_eq_true rfl) (Nat.le_of_ble_eq_true rfl) dX12_jumps_269
        · replace c_12 : ¬ (t.1 0 16).toInt = 39 := i_ne c_12
          refine lv_iconst (v := 0) C.1 C.2.1 dX12_jumps_113 (by decide) ?_
          exact g_iret C hr hlocks hP hD hS (by decide) () rfl ⟨by decide, by decide⟩ (Nat.le_of_ble_eq_true rfl) (Nat.le_of_ble_eq_true rfl) dX12_jumps_114
      · replace c_11 : 39 < (t.1 0 16).toInt := i_nle c_11
        refine lv_aload_n C.1 C.2.1 dX12_jumps_72 rfl (lv_at hl 0 rfl) ?_
        refine k_get (v := .int (t.1 0 16)) C hP 0 rfl rfl inlX12 16 (by decide) m_57_3 rfl dX12_jumps_73 ?_
        refine lv_bipush (v := 48) C.1 C.2.1 dX12_jumps_76 (by decide) ?_
        refine lv_icmp_ge (tgt := 104) C.1 C.2.1 dX12_jumps_78 (by decide) (fun c_37 => ?_) (fun c_37 => ?_)
        · replace c_37 : 48 ≤ (t.1 0 16).toInt := i_le c_37
          refine lv_aload_n C.1 C.2.1 dX12_jumps_104 rfl (lv_at hl 0 rfl) ?_
          refine k_get (v := .int (t.1 0 16)) C hP 0 rfl rfl inlX12 16 (by decide) m_57_3 rfl dX12_jumps_105 ?_
          refine lv_bipush (v := 39) C.1 C.2.1 dX12_jumps_108 (by decide) ?_
          refine lv_icmp_eq (tgt := 115) C.1 C.2.1 dX12_jumps_110 (by decide) (fun c_38 => False.elim (by have c_38 : (t.1 0 16).toInt = 39 := i_eq c_38; omega)) (fun c_38 => ?_)
          replace c_38 : ¬ (t.1 0 16).toInt = 39 := i_ne c_38
          refine lv_iconst (v := 0) C.1 C.2.1 dX12_jumps_113 (by decide) ?_
          exact g_iret C hr hlocks hP hD hS (by decide) () rfl ⟨by decide, by decide⟩ (Nat.le_of_ble_eq_true rfl) (Nat.le_of_ble_eq_true rfl) dX12_jumps_114
        · replace c_37 : (t.1 0 16).toInt < 48 := i_nle c_37
          refine lv_aload_n C.1 C.2.1 dX12_jumps_81 rfl (lv_at hl 0 rfl) ?_
          refine k_get (v := .ref (ad 3)) C hP 0 rfl rfl inlX12 4 (by decide) m_7_6 rfl dX12_jumps_82 ?_
          refine lv_aload_n C.1 C.2.1 dX12_jumps_85 rfl (lv_at hl 0 rfl) ?_
          refine k_get (v := .int (t.1 0 16)) C hP 0 rfl rfl inlX12 16 (by decide) m_57_3 rfl dX12_jumps_86 ?_
          refine lv_bipush (v := 40) C.1 C.2.1 dX12_jumps_89 (by decide) ?_
          obtain ⟨v_39, e_40⟩ : ∃ z, z = ((t.1 0 16) : Int32) - (40 : Int32) := ⟨_, rfl⟩
          have h_41 : v_39.toInt = (t.1 0 16).toInt - 40 := by rw [e_40]; exact ti_isub (by show (_ : Int) ≤ (t.1 0 16).toInt - 40; omega) (by show (t.1 0 16).toInt - 40 < (_ : Int); omega)
          refine k_isub (v := v_39) C e_40.symm dX12_jumps_91 ?_
          obtain ⟨v_42, e_43⟩ : ∃ z, z = (t.2.2.1 3 (v_39 : Int32).toNatClampNeg) := ⟨_, rfl⟩
          refine k_ild (v := v_42) C hP 3 rfl (vp_in_iff.mpr ⟨by omega, by omega⟩) e_43.symm dX12_jumps_92 ?_
          refine g_Si (As := [.int v_42]) (rest := []) C hP hD hS hA (T_X12_value l D K Z Y ad t hok (v_42)) hE hZ (uwS m_36_9 m_36_10 m_1_5 m_36_11) (hdS 1 (by decide +kernel) rfl) ⟨Nat.le_of_ble_eq_true rfl, Nat.le_of_ble_eq_true rfl⟩ rfl rfl rfl hl.1 (Nat.le_of_ble_eq_true rfl) dX12_jumps_93 ⟨Nat.le_of_ble_eq_true rfl, Nat.le_of_ble_eq_true rfl⟩ (fun r_45 t_44 H locs hw hP hD hS => ?_)
          obtain ⟨h_47, h_48, p_49⟩ := hw
          replace p_49 : r_45.toInt = (vO v_42).toInt := p_49
          refine lv_aload_n C.1 C.2.1 dX12_jumps_96 rfl (lv_at hl 0 rfl) ?_
          refine k_get (v := .int (t.1 0 17)) C hP 0 rfl rfl inlX12 17 (by decide) m_57_4 rfl dX12_jumps_97 ?_
          refine g_Si (As := [.int r_45, .int (t.1 0 17)]) (rest := []) C hP hD hS hA (T_X12_isSo l D K Z Y ad t hok (r_45) ((t.1 0 17)) (show (0 : Int) ≤ ((t.1 0 17) : Int32).toInt ∧ ((t.1 0 17) : Int32).toInt ≤ 63 from ⟨by omega, by omega⟩)) hE hZ (uwS m_59_8 m_59_9 m_1_5 m_59_10) (hdS 2 (by decide +kernel) rfl) ⟨Nat.le_of_ble_eq_true rfl, Nat.le_of_ble_eq_true rfl⟩ rfl rfl rfl hl.1 (Nat.le_of_ble_eq_true rfl) dX12_jumps_100 ⟨Nat.le_of_ble_eq_true rfl, Nat.le_of_ble_eq_true rfl⟩ (fun r_51 t_50 H locs hw hP hD hS => ?_)
          obtain ⟨h_53, h_54⟩ := hw
          exact g_iret C hr hlocks hP hD hS (nar01 (by omega) (by omega)) () rfl ⟨by omega, by omega⟩ (Nat.le_of_ble_eq_true rfl) (Nat.le_of_ble_eq_true rfl) dX12_jumps_103
    · replace c_10 : (t.1 0 16).toInt = 38 := i_eq c_10
      refine lv_aload_n C.1 C.2.1 dX12_jumps_18 rfl (lv_at hl 0 rfl) ?_
      refine k_get (v := .ref (ad 4)) C hP 0 rfl rfl inlX12 19 (by decide) m_7_9 rfl dX12_jumps_19 ?_
      refine lv_aload_n C.1 C.2.1 dX12_jumps_22 rfl (lv_at hl 0 rfl) ?_
      refine k_get (v := .int (t.1 0 17)) C hP 0 rfl rfl inlX12 17 (by decide) m_57_4 rfl dX12_jumps_23 ?_
      refine k_lld (v := (t.2.2.2 4 ((t.1 0 17) : Int32).toNatClampNeg)) C hP 4 rfl (vp_in_iff.mpr ⟨by omega, by omega⟩) rfl dX12_jumps_26 ?_
      refine lv_aload_n C.1 C.2.1 dX12_jumps_27 rfl (lv_at hl 0 rfl) ?_
      refine k_get (v := .long (t.2.1 0 8)) C hP 0 rfl rfl inlX12 8 (by decide) m_29_23 rfl dX12_jumps_28 ?_
      obtain ⟨v_55, e_56⟩ : ∃ z, z = lg_cmp ((t.2.2.2 4 ((t.1 0 17) : Int32).toNatClampNeg) : Int64) (t.2.1 0 8) := ⟨_, rfl⟩
      have h_57 : (-1 : Int) ≤ v_55.toInt ∧ v_55.toInt ≤ 1 := by rw [e_56]; exact cmp_rng _ _
      refine k_lcmp (v := v_55) C e_56.symm dX12_jumps_31 ?_
      refine lv_if_le (tgt := 39) C.1 C.2.1 dX12_jumps_32 (by decide) (fun c_58 => ?_) (fun c_58 => ?_)
      · replace c_58 : v_55.toInt ≤ 0 := i_le c_58
        refine lv_iconst (v := 0) C.1 C.2.1 dX12_jumps_39 (by decide) ?_
        refine lv_aload_n C.1 C.2.1 dX12_jumps_40 rfl (lv_at hl 0 rfl) ?_
        refine k_get (v := .int (t.1 0 16)) C hP 0 rfl rfl inlX12 16 (by decide) m_57_3 rfl dX12_jumps_41 ?_
        refine lv_bipush (v := 34) C.1 C.2.1 dX12_jumps_44 (by decide) ?_
        refine lv_icmp_ne (tgt := 53) C.1 C.2.1 dX12_jumps_46 (by decide) (fun c_59 => ?_) (fun c_59 => False.elim (by have c_59 : (t.1 0 16).toInt = 34 := i_eq c_59; omega))
        replace c_59 : ¬ (t.1 0 16).toInt = 34 := i_ne c_59
        refine lv_iconst (v := 0) C.1 C.2.1 dX12_jumps_53 (by decide) ?_
        refine lv_icmp_ne (tgt := 61) C.1 C.2.1 dX12_jumps_54 (by decide) (fun h => absurd h (by decide)) (fun _ => ?_)
        refine lv_iconst (v := 1) C.1 C.2.1 dX12_jumps_57 (by decide) ?_
        refine lv_goto (tgt := 62) C.1 C.2.1 dX12_jumps_58 (by decide) ?_
        exact g_iret C hr hlocks hP hD hS (by decide) () rfl ⟨by decide, by decide⟩ (Nat.le_of_ble_eq_true rfl) (Nat.le_of_ble_eq_true rfl) dX12_jumps_62
      · replace c_58 : 0 < v_55.toInt := i_nle c_58
        refine lv_iconst (v := 1) C.1 C.2.1 dX12_jumps_35 (by decide) ?_
        refine lv_goto (tgt := 40) C.1 C.2.1 dX12_jumps_36 (by decide) ?_
        refine lv_aload_n C.1 C.2.1 dX12_jumps_40 rfl (lv_at hl 0 rfl) ?_
        refine k_get (v := .int (t.1 0 16)) C hP 0 rfl rfl inlX12 16 (by decide) m_57_3 rfl dX12_jumps_41 ?_
        refine lv_bipush (v := 34) C.1 C.2.1 dX12_jumps_44 (by decide) ?_
        refine lv_icmp_ne (tgt := 53) C.1 C.2.1 dX12_jumps_46 (by decide) (fun c_60 => ?_) (fun c_60 => False.elim (by have c_60 : (t.1 0 16).toInt = 34 := i_eq c_60; omega))
        replace c_60 : ¬ (t.1 0 16).toInt = 34 := i_ne c_60
        refine lv_iconst (v := 0) C.1 C.2.1 dX12_jumps_53 (by decide) ?_
        refine lv_icmp_ne (tgt := 61) C.1 C.2.1 dX12_jumps_54 (by decide) (fun _ => ?_) (fun h => absurd h (by decide))
        refine lv_iconst (v := 0) C.1 C.2.1 dX12_jumps_61 (by decide) ?_
        exact g_iret C hr hlocks hP hD hS (by decide) () rfl ⟨by decide, by decide⟩ (Nat.le_of_ble_eq_true rfl) (Nat.le_of_ble_eq_true rfl) dX12_jumps_62

theorem dX12_finish_0 : decode cX12_finish 0 = .ok (.aload_n 0, 1) := by decide +kernel
theorem dX12_finish_1 : decode cX12_finish 1 = .ok (.invokevirtual 620, 3) := by decide +kernel
theorem dX12_finish_100 : decode cX12_finish 100 = .ok (.invokevirtual 260, 3) := by decide +kernel
theorem dX12_finish_103 : decode cX12_finish 103 = .ok (.ldc_w 626, 3) := by decide +kernel
theorem dX12_finish_106 : decode cX12_finish 106 = .ok (.iand, 1) := by decide +kernel
theorem dX12_finish_107 : decode cX12_finish 107 = .ok (.istore_n 2, 1) := by decide +kernel
theorem dX12_finish_108 : decode cX12_finish 108 = .ok (.aload_n 0, 1) := by decide +kernel
theorem dX12_finish_109 : decode cX12_finish 109 = .ok (.aload_n 0, 1) := by decide +kernel
theorem dX12_finish_11 : decode cX12_finish 11 = .ok (.if_icmp .ge 16, 3) := by decide +kernel
theorem dX12_finish_110 : decode cX12_finish 110 = .ok (.getfield 119, 3) := by decide +kernel
theorem dX12_finish_113 : decode cX12_finish 113 = .ok (.iload_n 1, 1) := by decide +kernel
theorem dX12_finish_114 : decode cX12_finish 114 = .ok (.iaload, 1) := by decide +kernel
theorem dX12_finish_115 : decode cX12_finish 115 = .ok (.iload_n 2, 1) := by decide +kernel
theorem dX12_finish_116 : decode cX12_finish 116 = .ok (.aload_n 0, 1) := by decide +kernel
theorem dX12_finish_117 : decode cX12_finish 117 = .ok (.getfield 122, 3) := by decide +kernel
theorem dX12_finish_120 : decode cX12_finish 120 = .ok (.iload_n 1, 1) := by decide +kernel
theorem dX12_finish_121 : decode cX12_finish 121 = .ok (.iaload, 1) := by decide +kernel
theorem dX12_finish_122 : decode cX12_finish 122 = .ok (.sipush 4095, 3) := by decide +kernel
theorem dX12_finish_125 : decode cX12_finish 125 = .ok (.iand, 1) := by decide +kernel
theorem dX12_finish_126 : decode cX12_finish 126 = .ok (.bipush 18, 2) := by decide +kernel
theorem dX12_finish_128 : decode cX12_finish 128 = .ok (.ishl, 1) := by decide +kernel
theorem dX12_finish_129 : decode cX12_finish 129 = .ok (.ior, 1) := by decide +kernel
theorem dX12_finish_130 : decode cX12_finish 130 = .ok (.aload_n 0, 1) := by decide +kernel
theorem dX12_finish_131 : decode cX12_finish 131 = .ok (.getfield 122, 3) := by decide +kernel
theorem dX12_finish_134 : decode cX12_finish 134 = .ok (.iload_n 1, 1) := by decide +kernel
theorem dX12_finish_135 : decode cX12_finish 135 = .ok (.iaload, 1) := by decide +kernel
theorem dX12_finish_136 : decode cX12_finish 136 = .ok (.ldc 158, 2) := by decide +kernel
theorem dX12_finish_138 : decode cX12_finish 138 = .ok (.iand, 1) := by decide +kernel
theorem dX12_finish_139 : decode cX12_finish 139 = .ok (.ior, 1) := by decide +kernel
theorem dX12_finish_14 : decode cX12_finish 14 = .ok (.aload_n 0, 1) := by decide +kernel
theorem dX12_finish_140 : decode cX12_finish 140 = .ok (.invokevirtual 214, 3) := by decide +kernel
theorem dX12_finish_143 : decode cX12_finish 143 = .ok (.iinc 1 1, 3) := by decide +kernel
theorem dX12_finish_146 : decode cX12_finish 146 = .ok (.goto (-68), 3) := by decide +kernel
theorem dX12_finish_149 : decode cX12_finish 149 = .ok (.return_, 1) := by decide +kernel
theorem dX12_finish_15 : decode cX12_finish 15 = .ok (.getfield 152, 3) := by decide +kernel
theorem dX12_finish_18 : decode cX12_finish 18 = .ok (.iload_n 1, 1) := by decide +kernel
theorem dX12_finish_19 : decode cX12_finish 19 = .ok (.iconst 0, 1) := by decide +kernel
theorem dX12_finish_20 : decode cX12_finish 20 = .ok (.bastore, 1) := by decide +kernel
theorem dX12_finish_21 : decode cX12_finish 21 = .ok (.iinc 1 1, 3) := by decide +kernel
theorem dX12_finish_24 : decode cX12_finish 24 = .ok (.goto (-18), 3) := by decide +kernel
theorem dX12_finish_27 : decode cX12_finish 27 = .ok (.iconst 0, 1) := by decide +kernel
theorem dX12_finish_28 : decode cX12_finish 28 = .ok (.istore_n 1, 1) := by decide +kernel
theorem dX12_finish_29 : decode cX12_finish 29 = .ok (.iload_n 1, 1) := by decide +kernel
theorem dX12_finish_30 : decode cX12_finish 30 = .ok (.aload_n 0, 1) := by decide +kernel
theorem dX12_finish_31 : decode cX12_finish 31 = .ok (.getfield 572, 3) := by decide +kernel
theorem dX12_finish_34 : decode cX12_finish 34 = .ok (.if_icmp .ge 30, 3) := by decide +kernel
theorem dX12_finish_37 : decode cX12_finish 37 = .ok (.aload_n 0, 1) := by decide +kernel
theorem dX12_finish_38 : decode cX12_finish 38 = .ok (.getfield 469, 3) := by decide +kernel
theorem dX12_finish_4 : decode cX12_finish 4 = .ok (.iconst 0, 1) := by decide +kernel
theorem dX12_finish_41 : decode cX12_finish 41 = .ok (.ifCond .ne 23, 3) := by decide +kernel
theorem dX12_finish_44 : decode cX12_finish 44 = .ok (.aload_n 0, 1) := by decide +kernel
theorem dX12_finish_45 : decode cX12_finish 45 = .ok (.getfield 125, 3) := by decide +kernel
theorem dX12_finish_48 : decode cX12_finish 48 = .ok (.iload_n 1, 1) := by decide +kernel
theorem dX12_finish_49 : decode cX12_finish 49 = .ok (.baload, 1) := by decide +kernel
theorem dX12_finish_5 : decode cX12_finish 5 = .ok (.istore_n 1, 1) := by decide +kernel
theorem dX12_finish_50 : decode cX12_finish 50 = .ok (.ifCond .ne 8, 3) := by decide +kernel
theorem dX12_finish_53 : decode cX12_finish 53 = .ok (.aload_n 0, 1) := by decide +kernel
theorem dX12_finish_54 : decode cX12_finish 54 = .ok (.iload_n 1, 1) := by decide +kernel
theorem dX12_finish_55 : decode cX12_finish 55 = .ok (.invokevirtual 623, 3) := by decide +kernel
theorem dX12_finish_58 : decode cX12_finish 58 = .ok (.iinc 1 1, 3) := by decide +kernel
theorem dX12_finish_6 : decode cX12_finish 6 = .ok (.iload_n 1, 1) := by decide +kernel
theorem dX12_finish_61 : decode cX12_finish 61 = .ok (.goto (-32), 3) := by decide +kernel
theorem dX12_finish_64 : decode cX12_finish 64 = .ok (.aload_n 0, 1) := by decide +kernel
theorem dX12_finish_65 : decode cX12_finish 65 = .ok (.getfield 86, 3) := by decide +kernel
theorem dX12_finish_68 : decode cX12_finish 68 = .ok (.aload_n 0, 1) := by decide +kernel
theorem dX12_finish_69 : decode cX12_finish 69 = .ok (.getfield 443, 3) := by decide +kernel
theorem dX12_finish_7 : decode cX12_finish 7 = .ok (.aload_n 0, 1) := by decide +kernel
theorem dX12_finish_72 : decode cX12_finish 72 = .ok (.sipush 10000, 3) := by decide +kernel
theorem dX12_finish_75 : decode cX12_finish 75 = .ok (.iastore, 1) := by decide +kernel
theorem dX12_finish_76 : decode cX12_finish 76 = .ok (.iconst 0, 1) := by decide +kernel
theorem dX12_finish_77 : decode cX12_finish 77 = .ok (.istore_n 1, 1) := by decide +kernel
theorem dX12_finish_78 : decode cX12_finish 78 = .ok (.iload_n 1, 1) := by decide +kernel
theorem dX12_finish_79 : decode cX12_finish 79 = .ok (.aload_n 0, 1) := by decide +kernel
theorem dX12_finish_8 : decode cX12_finish 8 = .ok (.getfield 572, 3) := by decide +kernel
theorem dX12_finish_80 : decode cX12_finish 80 = .ok (.getfield 572, 3) := by decide +kernel
theorem dX12_finish_83 : decode cX12_finish 83 = .ok (.if_icmp .ge 66, 3) := by decide +kernel
theorem dX12_finish_86 : decode cX12_finish 86 = .ok (.aload_n 0, 1) := by decide +kernel
theorem dX12_finish_87 : decode cX12_finish 87 = .ok (.getfield 469, 3) := by decide +kernel
theorem dX12_finish_90 : decode cX12_finish 90 = .ok (.ifCond .ne 59, 3) := by decide +kernel
theorem dX12_finish_93 : decode cX12_finish 93 = .ok (.aload_n 0, 1) := by decide +kernel
theorem dX12_finish_94 : decode cX12_finish 94 = .ok (.aload_n 0, 1) := by decide +kernel
theorem dX12_finish_95 : decode cX12_finish 95 = .ok (.getfield 119, 3) := by decide +kernel
theorem dX12_finish_98 : decode cX12_finish 98 = .ok (.iload_n 1, 1) := by decide +kernel
theorem dX12_finish_99 : decode cX12_finish 99 = .ok (.iaload, 1) := by decide +kernel
set_option maxHeartbeats 4000000 in
set_option maxRecDepth 100000 in
theorem T_X12_finish (l : Launch) (D : va_G) (K : Nat → ClassId) (Z Y : Nat → Nat) (ad : Nat → Nat) (t : tSt) (hok : okM t)  : tMet l yX12_finish cX12_finish 3 none (rmD 3 0 0) D K Z Y [.ref (ad 0)] (WM K ad t) (QV D K (fun (u : tSt) => okM u ∧ frA [(0, 47), (0, 48), (0, 70)] [] [2, 21, 22, 24, 25, 34, 35, 44] [] t u) (fun (u : tSt) => WM K ad u)) 0 0 := by
  refine t_met RX12 ⟨rfl, by decide +kernel⟩ (Nat.le_of_ble_eq_true rfl) ?_
  intro p e s m below meth c A ls C hE hZ hr hlocks hA hP hD hS hl
  have hl : lv_has ls 3 [(0, .ref (ad 0))] := hl
  have hokt := hok
  have hfr : frA [(0, 47), (0, 48), (0, 70)] [] [2, 21, 22, 24, 25, 34, 35, 44] [] t t := frA_rf
  have L_78 : ∀ (fuel_78 : Nat) (t1 : tSt) (w78_1 : Int32) (H : Heap) (locs : List Loc) (ls : Array Slot), okM t1 → frA [(0, 47), (0, 48), (0, 70)] [] [2, 21, 22, 24, 25, 34, 35, 44] [] t t1 → (0 : Int) ≤ w78_1.toInt ∧ w78_1.toInt ≤ 1260 → (1260 : Int) - w78_1.toInt < (fuel_78 : Int) → va_P D vwCl (WM K ad t1) H → va_D A (WM K ad t1) → va_S A s.heap H locs → lv_has ls 3 [(0, .ref (ad 0)), (1, .int w78_1)] → W p l e (rmD 3 0 0) s m [.ref (ad 0)].toArray below meth c H locs 0 0 (MQ below (QV D K (fun (u : tSt) => okM u ∧ frA [(0, 47), (0, 48), (0, 70)] [] [2, 21, 22, 24, 25, 34, 35, 44] [] t u) (fun (u : tSt) => WM K ad u) A) [.ref (ad 0)].toArray s 0 0 A) (F0 m 78 ls []) := by
    intro fuel_78
    induction fuel_78 with
    | zero =>
      intro t1 w78_1 H locs ls hok hfr hw78_1 hm78_78 hP hD hS hl
      exact absurd hm78_78 (by omega)
    | succ fuel_78 ih_78 =>
      intro t1 w78_1 H locs ls hok hfr hw78_1 hm78_78 hP hD hS hl
      have hm78_78 : (1260 : Int) - w78_1.toInt < (fuel_78 : Int) + 1 := by omega
      refine lv_iload_n C.1 C.2.1 dX12_finish_78 rfl (lv_at hl 1 rfl) ?_
      refine lv_aload_n C.1 C.2.1 dX12_finish_79 rfl (lv_at hl 0 rfl) ?_
      have h_1 : (0 : Int) ≤ (t1.1 0 60).toInt ∧ (t1.1 0 60).toInt ≤ 1200 := hok.1 0 60
      refine k_get (v := .int (t1.1 0 60)) C hP 0 rfl rfl inlX12 60 (by decide) m_30_18 rfl dX12_finish_80 ?_
      refine lv_icmp_ge (tgt := 149) C.1 C.2.1 dX12_finish_83 (by decide) (fun c_2 => ?_) (fun c_2 => ?_)
      · replace c_2 : (t1.1 0 60).toInt ≤ w78_1.toInt := i_le c_2
        exact g_vret C hr hlocks hP hD hS t1 rfl ⟨hok, hfr⟩ (Nat.le_of_ble_eq_true rfl) (Nat.le_of_ble_eq_true rfl) dX12_finish_149
      · replace c_2 : w78_1.toInt < (t1.1 0 60).toInt := i_nle c_2
        refine lv_aload_n C.1 C.2.1 dX12_finish_86 rfl (lv_at hl 0 rfl) ?_
        have h_3 : (0 : Int) ≤ (t1.1 0 70).toInt ∧ (t1.1 0 70).toInt ≤ 8 := hok.1 0 70
        refine k_get (v := .int (t1.1 0 70)) C hP 0 rfl rfl inlX12 70 (by decide) m_29_13 rfl dX12_finish_87 ?_
        refine lv_if_ne (tgt := 149) C.1 C.2.1 dX12_finish_90 (by decide) (fun c_4 => ?_) (fun c_4 => ?_)
        · replace c_4 : ¬ (t1.1 0 70).toInt = 0 := i_ne c_4
          exact g_vret C hr hlocks hP hD hS t1 rfl ⟨hok, hfr⟩ (Nat.le_of_ble_eq_true rfl) (Nat.le_of_ble_eq_true rfl) dX12_finish_149
        · replace c_4 : (t1.1 0 70).toInt = 0 := i_eq c_4
          refine lv_aload_n C.1 C.2.1 dX12_finish_93 rfl (lv_at hl 0 rfl) ?_
          refine lv_aload_n C.1 C.2.1 dX12_finish_94 rfl (lv_at hl 0 rfl) ?_
          refine k_get (v := .ref (ad 33)) C hP 0 rfl rfl inlX12 64 (by decide) m_8_17 rfl dX12_finish_95 ?_
          refine lv_iload_n C.1 C.2.1 dX12_finish_98 rfl (lv_at hl 1 rfl) ?_
          obtain ⟨v_5, e_6⟩ : ∃ z, z = (t1.2.2.1 33 (w78_1 : Int32).toNatClampNeg) := ⟨_, rfl⟩
          have h_7 : (-3999 : Int) ≤ v_5.toInt ∧ v_5.toInt ≤ 3999 := by rw [e_6]; exact hok.2.1 33 _
          refine k_ild (v := v_5) C hP 33 rfl (vp_in_iff.mpr ⟨by omega, by omega⟩) e_6.symm dX12_finish_99 ?_
          refine g_Vi (As := [.int v_5]) (rest := []) C hP hD hS hA (T_X12_memoryAt l D K Z Y ad t1 hok (v_5) (show (-3999 : Int) ≤ (v_5 : Int32).toInt ∧ (v_5 : Int32).toInt ≤ 3999 from ⟨by omega, by omega⟩)) hE hZ (uwV m_38_19 m_38_20 m_38_21 m_1_5 m_38_22) (hdV 1 (by decide +kernel) rfl) ⟨Nat.le_of_ble_eq_true rfl, Nat.le_of_ble_eq_true rfl⟩ rfl rfl (ci := 11) (q0 := 0) rfl rfl rfl hl.1 (Nat.le_of_ble_eq_true rfl) dX12_finish_100 ⟨Nat.le_of_ble_eq_true rfl, Nat.le_of_ble_eq_true rfl⟩ (fun r_9 t_8 H locs hw hP hD hS => ?_)
          obtain ⟨h_11, h_12⟩ := hw
          refine lv_ldcw (v := 262143) C.1 C.2.1 C.2.2.2.1 (C.2.2.2.2.1 _ m_38_2) dX12_finish_103 ?_
          obtain ⟨v_13, e_14⟩ : ∃ z, z = (r_9 : Int32) &&& (262143 : Int32) := ⟨_, rfl⟩
          have h_15 : v_13.toInt = r_9.toInt % 2 ^ 18 := by rw [e_14]; exact Jvm.Kit.i32_mask _ _ (k := 18) (by decide) (by decide)
          refine k_iand (v := v_13) C e_14.symm dX12_finish_106 ?_
          refine lv_istore_n (lv' := [(2, .int v_13), (0, .ref (ad 0)), (1, .int w78_1)]) C.1 C.2.1 dX12_finish_107 rfl hl (by decide) rfl (fun ls hl => ?_)
          have hl : lv_has ls 3 [(0, .ref (ad 0)), (1, .int w78_1), (2, .int v_13)] := lv_sub hl [1, 2, 0] rfl
          refine lv_aload_n C.1 C.2.1 dX12_finish_108 rfl (lv_at hl 0 rfl) ?_
          refine lv_aload_n C.1 C.2.1 dX12_finish_109 rfl (lv_at hl 0 rfl) ?_
          refine k_get (v := .ref (ad 33)) C hP 0 rfl rfl inlX12 64 (by decide) m_8_17 rfl dX12_finish_110 ?_
          refine lv_iload_n C.1 C.2.1 dX12_finish_113 rfl (lv_at hl 1 rfl) ?_
          obtain ⟨v_16, e_17⟩ : ∃ z, z = (t1.2.2.1 33 (w78_1 : Int32).toNatClampNeg) := ⟨_, rfl⟩
          have h_18 : (-3999 : Int) ≤ v_16.toInt ∧ v_16.toInt ≤ 3999 := by rw [e_17]; exact hok.2.1 33 _
          refine k_ild (v := v_16) C hP 33 rfl (vp_in_iff.mpr ⟨by omega, by omega⟩) e_17.symm dX12_finish_114 ?_
          refine lv_iload_n C.1 C.2.1 dX12_finish_115 rfl (lv_at hl 2 rfl) ?_
          refine lv_aload_n C.1 C.2.1 dX12_finish_116 rfl (lv_at hl 0 rfl) ?_
          refine k_get (v := .ref (ad 34)) C hP 0 rfl rfl inlX12 65 (by decide) m_8_18 rfl dX12_finish_117 ?_
          refine lv_iload_n C.1 C.2.1 dX12_finish_120 rfl (lv_at hl 1 rfl) ?_
          obtain ⟨v_19, e_20⟩ : ∃ z, z = (t1.2.2.1 34 (w78_1 : Int32).toNatClampNeg) := ⟨_, rfl⟩
          refine k_ild (v := v_19) C hP 34 rfl (vp_in_iff.mpr ⟨by omega, by omega⟩) e_20.symm dX12_finish_121 ?_
          refine lv_sipush (v := 4095) C.1 C.2.1 dX12_finish_122 (by decide) ?_
          obtain ⟨v_21, e_22⟩ : ∃ z, z = (v_19 : Int32) &&& (4095 : Int32) := ⟨_, rfl⟩
          have h_23 : v_21.toInt = v_19.toInt % 2 ^ 12 := by rw [e_22]; exact Jvm.Kit.i32_mask _ _ (k := 12) (by decide) (by decide)
          refine k_iand (v := v_21) C e_22.symm dX12_finish_125 ?_
          refine lv_bipush (v := 18) C.1 C.2.1 dX12_finish_126 (by decide) ?_
          obtain ⟨v_24, e_25⟩ : ∃ z, z = (v_21 : Int32) <<< ((18 : Int32) &&& 31) := ⟨_, rfl⟩
          have h_26 : v_24.toInt = v_21.toInt * 2 ^ 18 := by rw [e_25]; exact Jvm.Kit.i32_shl _ _ (k := 18) (by decide) (by omega) (by omega)
          refine k_ishl (v := v_24) C e_25.symm dX12_finish_128 ?_
          obtain ⟨v_27, e_28⟩ : ∃ z, z = (v_13 : Int32) ||| (v_24 : Int32) := ⟨_, rfl⟩
          have h_29 : (0 : Int) ≤ v_27.toInt ∧ v_27.toInt ≤ 1073741823 := by rw [e_28]; exact z_or (k := 30) (by decide) (by show (0 : Int) ≤ v_13.toInt; omega) (by show v_13.toInt < (_ : Int); omega) (by show (0 : Int) ≤ v_24.toInt; omega) (by show v_24.toInt < (_ : Int); omega)
          refine k_ior (v := v_27) C e_28.symm dX12_finish_129 ?_
          refine lv_aload_n C.1 C.2.1 dX12_finish_130 rfl (lv_at hl 0 rfl) ?_
          refine k_get (v := .ref (ad 34)) C hP 0 rfl rfl inlX12 65 (by decide) m_8_18 rfl dX12_finish_131 ?_
          refine lv_iload_n C.1 C.2.1 dX12_finish_134 rfl (lv_at hl 1 rfl) ?_
          obtain ⟨v_30, e_31⟩ : ∃ z, z = (t1.2.2.1 34 (w78_1 : Int32).toNatClampNeg) := ⟨_, rfl⟩
          refine k_ild (v := v_30) C hP 34 rfl (vp_in_iff.mpr ⟨by omega, by omega⟩) e_31.symm dX12_finish_135 ?_
          refine lv_ldc (v := 1073741824) C.1 C.2.1 C.2.2.2.1 (C.2.2.2.2.1 _ m_34_19) dX12_finish_136 ?_
          obtain ⟨v_32, e_33⟩ : ∃ z, z = (v_30 : Int32) &&& (1073741824 : Int32) := ⟨_, rfl⟩
          have h_34 : (0 : Int) ≤ v_32.toInt ∧ v_32.toInt ≤ 1073741824 := by rw [e_33]; exact z_and _ (k := 1073741824) (by decide) (by decide)
          refine k_iand (v := v_32) C e_33.symm dX12_finish_138 ?_
          obtain ⟨v_35, e_36⟩ : ∃ z, z = (v_27 : Int32) ||| (v_32 : Int32) := ⟨_, rfl⟩
          have h_37 : (0 : Int) ≤ v_35.toInt ∧ v_35.toInt ≤ 2147483647 := by rw [e_36]; exact z_or (k := 31) (by decide) (by show (0 : Int) ≤ v_27.toInt; omega) (by show v_27.toInt < (_ : Int); omega) (by show (0 : Int) ≤ v_32.toInt; omega) (by show v_32.toInt < (_ : Int); omega)
          refine k_ior (v := v_35) C e_36.symm dX12_finish_139 ?_
          refine g_Vv (As := [.int v_16, .int v_35]) (rest := []) C hP hD hS hA (T_X12_setMemory l D K Z Y ad t1 hok (v_16) (show (-3999 : Int) ≤ (v_16 : Int32).toInt ∧ (v_16 : Int32).toInt ≤ 3999 from ⟨by omega, by omega⟩) (v_35)) hE hZ (uwV m_38_15 m_38_16 m_38_17 m_1_5 m_38_18) (hdV 2 (by decide +kernel) rfl) ⟨Nat.le_of_ble_eq_true rfl, Nat.le_of_ble_eq_true rfl⟩ rfl rfl (ci := 11) (q0 := 0) rfl rfl rfl hl.1 (Nat.le_of_ble_eq_true rfl) dX12_finish_140 ⟨Nat.le_of_ble_eq_true rfl, Nat.le_of_ble_eq_true rfl⟩ (fun t_38 H locs hw hP hD hS => ?_)
          obtain ⟨hok, f_40⟩ := hw
          have hfr : frA [(0, 47), (0, 48), (0, 70)] [] [2, 21, 22, 24, 25, 34, 35, 44] [] t t_38 := frA_tr hfr f_40 rfl
          have h_41 : (t_38.1 0 60).toInt = (t1.1 0 60).toInt := ti_eq (f_40.1 0 60 rfl)
          have h_42 : (t_38.1 0 70).toInt = (t1.1 0 70).toInt := ti_eq (f_40.1 0 70 rfl)
          have e_43 : t_38.2.2.1 22 = t1.2.2.1 22 := f_40.2.2.1 22 rfl
          obtain ⟨v_44, e_45⟩ : ∃ z, z = w78_1 + 1 := ⟨_, rfl⟩
          have h_46 : v_44.toInt = w78_1.toInt + 1 := by rw [e_45]; exact ti_iadd (by show (_ : Int) ≤ w78_1.toInt + 1; omega) (by show w78_1.toInt + 1 < (_ : Int); omega)
          refine lv_iinc (v := v_44) (lv' := [(1, .int v_44), (0, .ref (ad 0)), (2, .int v_13)]) C.1 C.2.1 dX12_finish_143 hl (k := 1) rfl e_45.symm (by decide) rfl (fun ls hl => ?_)
          have hl : lv_has ls 3 [(0, .ref (ad 0)), (1, .int v_44), (2, .int v_13)] := lv_sub hl [1, 0, 2] rfl
          refine lv_goto (tgt := 78) C.1 C.2.1 dX12_finish_146 (by decide) ?_
          exact ih_78 t_38 v_44 _ _ _ hok hfr ⟨by omega, by omega⟩ (show (1260 : Int) - v_44.toInt < (fuel_78 : Int) from by omega) hP hD hS (lv_sub hl [0, 1] rfl)
  have L_64 : ∀ (t1 : tSt) (w64_1 : Int32) (H : Heap) (locs : List Loc) (ls : Array Slot), okM t1 → frA [(0, 47), (0, 48), (0, 70)] [] [2, 21, 22, 24, 25, 34, 35, 44] [] t t1 → (0 : Int) ≤ w64_1.toInt ∧ w64_1.toInt ≤ 1260 → va_P D vwCl (WM K ad t1) H → va_D A (WM K ad t1) → va_S A s.heap H locs → lv_has ls 3 [(0, .ref (ad 0)), (1, .int w64_1)] → W p l e (rmD 3 0 0) s m [.ref (ad 0)].toArray below meth c H locs 0 0 (MQ below (QV D K (fun (u : tSt) => okM u ∧ frA [(0, 47), (0, 48), (0, 70)] [] [2, 21, 22, 24, 25, 34, 35, 44] [] t u) (fun (u : tSt) => WM K ad u) A) [.ref (ad 0)].toArray s 0 0 A) (F0 m 64 ls []) := by
    intro t1 w64_1 H locs ls hok hfr hw64_1 hP hD hS hl
    refine lv_aload_n C.1 C.2.1 dX12_finish_64 rfl (lv_at hl 0 rfl) ?_
    refine k_get (v := .ref (ad 22)) C hP 0 rfl rfl inlX12 50 (by decide) m_8_6 rfl dX12_finish_65 ?_
    refine lv_aload_n C.1 C.2.1 dX12_finish_68 rfl (lv_at hl 0 rfl) ?_
    have h_47 : (0 : Int) ≤ (t1.1 0 67).toInt ∧ (t1.1 0 67).toInt ≤ 1281 := hok.1 0 67
    refine k_get (v := .int (t1.1 0 67)) C hP 0 rfl rfl inlX12 67 (by decide) m_29_11 rfl dX12_finish_69 ?_
    refine lv_sipush (v := 10000) C.1 C.2.1 dX12_finish_72 (by decide) ?_
    refine k_ist (ws' := WM K ad (uB t1 22 ((t1.1 0 67) : Int32).toNatClampNeg 10000)) (x' := 10000) C hP hD hS 22 rfl (vp_in_iff.mpr ⟨by omega, by omega⟩) rfl rfl rfl dX12_finish_75 (fun H locs hP hD hS => ?_)
    have hok : okM (uB t1 22 ((t1.1 0 67) : Int32).toNatClampNeg 10000) := ⟨hok.1, okB_B hok.2.1 22 _ 10000 (show (-3999 : Int) ≤ (10000 : Int32).toInt ∧ (10000 : Int32).toInt ≤ 10000 from ⟨by decide, by decide⟩), hok.2.2.1, hok.2.2.2.1, (iM3_u hok.2.2.2.2.1 _ (Or.inl (by decide))), hok.2.2.2.2.2.1, hok.2.2.2.2.2.2.1, trivial⟩
    have hfr : frA [(0, 47), (0, 48), (0, 70)] [] [2, 21, 22, 24, 25, 34, 35, 44] [] t (uB t1 22 ((t1.1 0 67) : Int32).toNatClampNeg 10000) := frA_B hfr 22 _ _ rfl
    refine lv_iconst (v := 0) C.1 C.2.1 dX12_finish_76 (by decide) ?_
    refine lv_istore_n (lv' := [(1, .int 0), (0, .ref (ad 0))]) C.1 C.2.1 dX12_finish_77 rfl hl (by decide) rfl (fun ls hl => ?_)
    have hl : lv_has ls 3 [(0, .ref (ad 0)), (1, .int 0)] := lv_sub hl [1, 0] rfl
    exact L_78 1261 (uB t1 22 ((t1.1 0 67) : Int32).toNatClampNeg 10000) 0 _ _ _ hok hfr ⟨by decide, by decide⟩ (show (1260 : Int) - 0 < ((1261 : Nat) : Int) from by omega) hP hD hS (lv_sub hl [0, 1] rfl)
  have L_29 : ∀ (fuel_29 : Nat) (t1 : tSt) (w29_1 : Int32) (H : Heap) (locs : List Loc) (ls : Array Slot), okM t1 → frA [(0, 47), (0, 48), (0, 70)] [] [2, 21, 22, 24, 25, 34, 35, 44] [] t t1 → (0 : Int) ≤ w29_1.toInt ∧ w29_1.toInt ≤ 1260 → (1260 : Int) - w29_1.toInt < (fuel_29 : Int) → va_P D vwCl (WM K ad t1) H → va_D A (WM K ad t1) → va_S A s.heap H locs → lv_has ls 3 [(0, .ref (ad 0)), (1, .int w29_1)] → W p l e (rmD 3 0 0) s m [.ref (ad 0)].toArray below meth c H locs 0 0 (MQ below (QV D K (fun (u : tSt) => okM u ∧ frA [(0, 47), (0, 48), (0, 70)] [] [2, 21, 22, 24, 25, 34, 35, 44] [] t u) (fun (u : tSt) => WM K ad u) A) [.ref (ad 0)].toArray s 0 0 A) (F0 m 29 ls []) := by
    intro fuel_29
    induction fuel_29 with
    | zero =>
      intro t1 w29_1 H locs ls hok hfr hw29_1 hm29_29 hP hD hS hl
      exact absurd hm29_29 (by omega)
    | succ fuel_29 ih_29 =>
      intro t1 w29_1 H locs ls hok hfr hw29_1 hm29_29 hP hD hS hl
      have hm29_29 : (1260 : Int) - w29_1.toInt < (fuel_29 : Int) + 1 := by omega
      have L_58 : ∀ (t1 : tSt) (w58_1 : Int32) (H : Heap) (locs : List Loc) (ls : Array Slot), okM t1 → frA [(0, 47), (0, 48), (0, 70)] [] [2, 21, 22, 24, 25, 34, 35, 44] [] t t1 → (0 : Int) ≤ w58_1.toInt ∧ w58_1.toInt ≤ 1199 → (1 : Int) ≤ (t1.1 0 60).toInt ∧ (t1.1 0 60).toInt ≤ 1200 → (1260 : Int) - w58_1.toInt < (fuel_29 : Int) + 1 → va_P D vwCl (WM K ad t1) H → va_D A (WM K ad t1) → va_S A s.heap H locs → lv_has ls 3 [(0, .ref (ad 0)), (1, .int w58_1)] → W p l e (rmD 3 0 0) s m [.ref (ad 0)].toArray below meth c H locs 0 0 (MQ below (QV D K (fun (u : tSt) => okM u ∧ frA [(0, 47), (0, 48), (0, 70)] [] [2, 21, 22, 24, 25, 34, 35, 44] [] t u) (fun (u : tSt) => WM K ad u) A) [.ref (ad 0)].toArray s 0 0 A) (F0 m 58 ls []) := by
        intro t1 w58_1 H locs ls hok hfr hw58_1 hf58_60 hm58_29 hP hD hS hl
        obtain ⟨v_48, e_49⟩ : ∃ z, z = w58_1 + 1 := ⟨_, rfl⟩
        have h_50 : v_48.toInt = w58_1.toInt + 1 := by rw [e_49]; exact ti_iadd (by show (_ : Int) ≤ w58_1.toInt + 1; omega) (by show w58_1.toInt + 1 < (_ : Int); omega)
        refine lv_iinc (v := v_48) (lv' := [(1, .int v_48), (0, .ref (ad 0))]) C.1 C.2.1 dX12_finish_58 hl (k := 1) rfl e_49.symm (by decide) rfl (fun ls hl => ?_)
        have hl : lv_has ls 3 [(0, .ref (ad 0)), (1, .int v_48)] := lv_sub hl [1, 0] rfl
        refine lv_goto (tgt := 29) C.1 C.2.1 dX12_finish_61 (by decide) ?_
        exact ih_29 t1 v_48 _ _ _ hok hfr ⟨by omega, by omega⟩ (show (1260 : Int) - v_48.toInt < (fuel_29 : Int) from by omega) hP hD hS (lv_sub hl [0, 1] rfl)
      refine lv_iload_n C.1 C.2.1 dX12_finish_29 rfl (lv_at hl 1 rfl) ?_
      refine lv_aload_n C.1 C.2.1 dX12_finish_30 rfl (lv_at hl 0 rfl) ?_
      have h_51 : (0 : Int) ≤ (t1.1 0 60).toInt ∧ (t1.1 0 60).toInt ≤ 1200 := hok.1 0 60
      refine k_get (v := .int (t1.1 0 60)) C hP 0 rfl rfl inlX12 60 (by decide) m_30_18 rfl dX12_finish_31 ?_
      refine lv_icmp_ge (tgt := 64) C.1 C.2.1 dX12_finish_34 (by decide) (fun c_52 => ?_) (fun c_52 => ?_)
      · replace c_52 : (t1.1 0 60).toInt ≤ w29_1.toInt := i_le c_52
        exact L_64 t1 w29_1 _ _ _ hok hfr ⟨by omega, by omega⟩ hP hD hS (lv_sub hl [0, 1] rfl)
      · replace c_52 : w29_1.toInt < (t1.1 0 60).toInt := i_nle c_52
        refine lv_aload_n C.1 C.2.1 dX12_finish_37 rfl (lv_at hl 0 rfl) ?_
        have h_53 : (0 : Int) ≤ (t1.1 0 70).toInt ∧ (t1.1 0 70).toInt ≤ 8 := hok.1 0 70
        refine k_get (v := .int (t1.1 0 70)) C hP 0 rfl rfl inlX12 70 (by decide) m_29_13 rfl dX12_finish_38 ?_
        refine lv_if_ne (tgt := 64) C.1 C.2.1 dX12_finish_41 (by decide) (fun c_54 => ?_) (fun c_54 => ?_)
        · replace c_54 : ¬ (t1.1 0 70).toInt = 0 := i_ne c_54
          exact L_64 t1 w29_1 _ _ _ hok hfr ⟨by omega, by omega⟩ hP hD hS (lv_sub hl [0, 1] rfl)
        · replace c_54 : (t1.1 0 70).toInt = 0 := i_eq c_54
          refine lv_aload_n C.1 C.2.1 dX12_finish_44 rfl (lv_at hl 0 rfl) ?_
          refine k_get (v := .ref (ad 35)) C hP 0 rfl rfl inlX12 66 (by decide) m_8_19 rfl dX12_finish_45 ?_
          refine lv_iload_n C.1 C.2.1 dX12_finish_48 rfl (lv_at hl 1 rfl) ?_
          obtain ⟨v_55, e_56⟩ : ∃ z, z = (t1.2.2.1 35 (w29_1 : Int32).toNatClampNeg) := ⟨_, rfl⟩
          have h_57 : (0 : Int) ≤ v_55.toInt ∧ v_55.toInt ≤ 1 := by rw [e_56]; exact hok.2.1 35 _
          refine k_zld (v := v_55) C hP 35 rfl (vp_in_iff.mpr ⟨by omega, by omega⟩) e_56.symm dX12_finish_49 ?_
          refine lv_if_ne (tgt := 58) C.1 C.2.1 dX12_finish_50 (by decide) (fun c_58 => ?_) (fun c_58 => ?_)
          · replace c_58 : ¬ v_55.toInt = 0 := i_ne c_58
            exact L_58 t1 w29_1 _ _ _ hok hfr ⟨by omega, by omega⟩ (show (1 : Int) ≤ ((t1.1 0 60) : Int32).toInt ∧ ((t1.1 0 60) : Int32).toInt ≤ 1200 from ⟨by omega, by omega⟩) (show (1260 : Int) - w29_1.toInt < (fuel_29 : Int) + 1 from by omega) hP hD hS (lv_sub hl [0, 1] rfl)
          · replace c_58 : v_55.toInt = 0 := i_eq c_58
            refine lv_aload_n C.1 C.2.1 dX12_finish_53 rfl (lv_at hl 0 rfl) ?_
            refine lv_iload_n C.1 C.2.1 dX12_finish_54 rfl (lv_at hl 1 rfl) ?_
            refine g_Vv (As := [.int w29_1]) (rest := []) C hP hD hS hA (T_X12_putFuture l D K Z Y ad t1 hok (w29_1) (show (0 : Int) ≤ (w29_1 : Int32).toInt ∧ (w29_1 : Int32).toInt ≤ 1199 from ⟨by omega, by omega⟩)) hE hZ (uwV m_38_7 m_38_8 m_38_9 m_1_5 m_38_10) (hdV 1 (by decide +kernel) rfl) ⟨Nat.le_of_ble_eq_true rfl, Nat.le_of_ble_eq_true rfl⟩ rfl rfl (ci := 11) (q0 := 0) rfl rfl rfl hl.1 (Nat.le_of_ble_eq_true rfl) dX12_finish_55 ⟨Nat.le_of_ble_eq_true rfl, Nat.le_of_ble_eq_true rfl⟩ (fun t_59 H locs hw hP hD hS => ?_)
            obtain ⟨hok, f_61⟩ := hw
            have hfr : frA [(0, 47), (0, 48), (0, 70)] [] [2, 21, 22, 24, 25, 34, 35, 44] [] t t_59 := frA_tr hfr f_61 rfl
            have h_62 : (t_59.1 0 60).toInt = (t1.1 0 60).toInt := ti_eq (f_61.1 0 60 rfl)
            exact L_58 t_59 w29_1 _ _ _ hok hfr ⟨by omega, by omega⟩ (show (1 : Int) ≤ ((t_59.1 0 60) : Int32).toInt ∧ ((t_59.1 0 60) : Int32).toInt ≤ 1200 from ⟨by omega, by omega⟩) (show (1260 : Int) - w29_1.toInt < (fuel_29 : Int) + 1 from by omega) hP hD hS (lv_sub hl [0, 1] rfl)
  have L_6 : ∀ (fuel_6 : Nat) (t1 : tSt) (w6_1 : Int32) (H : Heap) (locs : List Loc) (ls : Array Slot), okM t1 → frA [(0, 47), (0, 48), (0, 70)] [] [2, 21, 22, 24, 25, 34, 35, 44] [] t t1 → (0 : Int) ≤ w6_1.toInt ∧ w6_1.toInt ≤ 1260 → (1260 : Int) - w6_1.toInt < (fuel_6 : Int) → va_P D vwCl (WM K ad t1) H → va_D A (WM K ad t1) → va_S A s.heap H locs → lv_has ls 3 [(0, .ref (ad 0)), (1, .int w6_1)] → W p l e (rmD 3 0 0) s m [.ref (ad 0)].toArray below meth c H locs 0 0 (MQ below (QV D K (fun (u : tSt) => okM u ∧ frA [(0, 47), (0, 48), (0, 70)] [] [2, 21, 22, 24, 25, 34, 35, 44] [] t u) (fun (u : tSt) => WM K ad u) A) [.ref (ad 0)].toArray s 0 0 A) (F0 m 6 ls []) := by
    intro fuel_6
    induction fuel_6 with
    | zero =>
      intro t1 w6_1 H locs ls hok hfr hw6_1 hm6_6 hP hD hS hl
      exact absurd hm6_6 (by omega)
    | succ fuel_6 ih_6 =>
      intro t1 w6_1 H locs ls hok hfr hw6_1 hm6_6 hP hD hS hl
      have hm6_6 : (1260 : Int) - w6_1.toInt < (fuel_6 : Int) + 1 := by omega
      refine lv_iload_n C.1 C.2.1 dX12_finish_6 rfl (lv_at hl 1 rfl) ?_
      refine lv_aload_n C.1 C.2.1 dX12_finish_7 rfl (lv_at hl 0 rfl) ?_
      have h_63 : (0 : Int) ≤ (t1.1 0 60).toInt ∧ (t1.1 0 60).toInt ≤ 1200 := hok.1 0 60
      refine k_get (v := .int (t1.1 0 60)) C hP 0 rfl rfl inlX12 60 (by decide) m_30_18 rfl dX12_finish_8 ?_
      refine lv_icmp_ge (tgt := 27) C.1 C.2.1 dX12_finish_11 (by decide) (fun c_64 => ?_) (fun c_64 => ?_)
      · replace c_64 : (t1.1 0 60).toInt ≤ w6_1.toInt := i_le c_64
        refine lv_iconst (v := 0) C.1 C.2.1 dX12_finish_27 (by decide) ?_
        refine lv_istore_n (lv' := [(1, .int 0), (0, .ref (ad 0))]) C.1 C.2.1 dX12_finish_28 rfl hl (by decide) rfl (fun ls hl => ?_)
        have hl : lv_has ls 3 [(0, .ref (ad 0)), (1, .int 0)] := lv_sub hl [1, 0] rfl
        exact L_29 1261 t1 0 _ _ _ hok hfr ⟨by decide, by decide⟩ (show (1260 : Int) - 0 < ((1261 : Nat) : Int) from by omega) hP hD hS (lv_sub hl [0, 1] rfl)
      · replace c_64 : w6_1.toInt < (t1.1 0 60).toInt := i_nle c_64
        refine lv_aload_n C.1 C.2.1 dX12_finish_14 rfl (lv_at hl 0 rfl) ?_
        refine k_get (v := .ref (ad 44)) C hP 0 rfl rfl inlX12 92 (by decide) m_9_4 rfl dX12_finish_15 ?_
        refine lv_iload_n C.1 C.2.1 dX12_finish_18 rfl (lv_at hl 1 rfl) ?_
        refine lv_iconst (v := 0) C.1 C.2.1 dX12_finish_19 (by decide) ?_
        obtain ⟨v_65, e_66⟩ : ∃ z, z = vp_nar .boolean 0 := ⟨_, rfl⟩
        have h_67 : (0 : Int) ≤ v_65.toInt ∧ v_65.toInt ≤ 1 := by rw [e_66]; exact nar_boolean _
        refine k_zst (ws' := WM K ad (uB t1 44 (w6_1 : Int32).toNatClampNeg v_65)) (x' := v_65) C hP hD hS 44 rfl (vp_in_iff.mpr ⟨by omega, by omega⟩) rfl e_66.symm rfl dX12_finish_20 (fun H locs hP hD hS => ?_)
        have hok : okM (uB t1 44 (w6_1 : Int32).toNatClampNeg v_65) := ⟨hok.1, okB_B hok.2.1 44 _ v_65 (show (0 : Int) ≤ (v_65 : Int32).toInt ∧ (v_65 : Int32).toInt ≤ 1 from ⟨by omega, by omega⟩), hok.2.2.1, hok.2.2.2.1, hok.2.2.2.2.1, hok.2.2.2.2.2.1, hok.2.2.2.2.2.2.1, trivial⟩
        have hfr : frA [(0, 47), (0, 48), (0, 70)] [] [2, 21, 22, 24, 25, 34, 35, 44] [] t (uB t1 44 (w6_1 : Int32).toNatClampNeg v_65) := frA_B hfr 44 _ _ rfl
        obtain ⟨v_68, e_69⟩ : ∃ z, z = w6_1 + 1 := ⟨_, rfl⟩
        have h_70 : v_68.toInt = w6_1.toInt + 1 := by rw [e_69]; exact ti_iadd (by show (_ : Int) ≤ w6_1.toInt + 1; omega) (by show w6_1.toInt + 1 < (_ : Int); omega)
        refine lv_iinc (v := v_68) (lv' := [(1, .int v_68), (0, .ref (ad 0))]) C.1 C.2.1 dX12_finish_21 hl (k := 1) rfl e_69.symm (by decide) rfl (fun ls hl => ?_)
        have hl : lv_has ls 3 [(0, .ref (ad 0)), (1, .int v_68)] := lv_sub hl [1, 0] rfl
        refine lv_goto (tgt := 6) C.1 C.2.1 dX12_finish_24 (by decide) ?_
        exact ih_6 (uB t1 44 (w6_1 : Int32).toNatClampNeg v_65) v_68 _ _ _ hok hfr ⟨by omega, by omega⟩ (show (1260 : Int) - v_68.toInt < (fuel_6 : Int) from by omega) hP hD hS (lv_sub hl [0, 1] rfl)
  refine lv_aload_n C.1 C.2.1 dX12_finish_0 rfl (lv_at hl 0 rfl) ?_
  refine g_Vv (As := []) (rest := []) C hP hD hS hA (T_X12_tellFutures l D K Z Y ad t hok ) hE hZ (uwV m_38_3 m_38_4 m_38_5 m_1_5 m_38_6) (hdV 0 (by decide +kernel) rfl) ⟨Nat.le_of_ble_eq_true rfl, Nat.le_of_ble_eq_true rfl⟩ rfl rfl (ci := 11) (q0 := 0) rfl rfl rfl hl.1 (Nat.le_of_ble_eq_true rfl) dX12_finish_1 ⟨Nat.le_of_ble_eq_true rfl, Nat.le_of_ble_eq_true rfl⟩ (fun t_71 H locs hw hP hD hS => ?_)
  obtain ⟨hok, f_73⟩ := hw
  have hfr : frA [(0, 47), (0, 48), (0, 70)] [] [2, 21, 22, 24, 25, 34, 35, 44] [] t t_71 := frA_tr hfr f_73 rfl
  have e_74 : t_71.2.2.1 22 = t.2.2.1 22 := f_73.2.2.1 22 rfl
  refine lv_iconst (v := 0) C.1 C.2.1 dX12_finish_4 (by decide) ?_
  refine lv_istore_n (lv' := [(1, .int 0), (0, .ref (ad 0))]) C.1 C.2.1 dX12_finish_5 rfl hl (by decide) rfl (fun ls hl => ?_)
  have hl : lv_has ls 3 [(0, .ref (ad 0)), (1, .int 0)] := lv_sub hl [1, 0] rfl
  exact L_6 1261 t_71 0 _ _ _ hok hfr ⟨by decide, by decide⟩ (show (1260 : Int) - 0 < ((1261 : Nat) : Int) from by omega) hP hD hS (lv_sub hl [0, 1] rfl)

theorem dX12_hasLetter_0 : decode cX12_hasLetter 0 = .ok (.iconst 0, 1) := by decide +kernel
theorem dX12_hasLetter_1 : decode cX12_hasLetter 1 = .ok (.istore_n 2, 1) := by decide +kernel
theorem dX12_hasLetter_12 : decode cX12_hasLetter 12 = .ok (.iload_n 2, 1) := by decide +kernel
theorem dX12_hasLetter_13 : decode cX12_hasLetter 13 = .ok (.ifCond .ne 14, 3) := by decide +kernel
theorem dX12_hasLetter_16 : decode cX12_hasLetter 16 = .ok (.aload_n 0, 1) := by decide +kernel
theorem dX12_hasLetter_17 : decode cX12_hasLetter 17 = .ok (.iload_n 3, 1) := by decide +kernel
theorem dX12_hasLetter_18 : decode cX12_hasLetter 18 = .ok (.invokevirtual 446, 3) := by decide +kernel
theorem dX12_hasLetter_2 : decode cX12_hasLetter 2 = .ok (.aload_n 0, 1) := by decide +kernel
theorem dX12_hasLetter_21 : decode cX12_hasLetter 21 = .ok (.invokestatic 452, 3) := by decide +kernel
theorem dX12_hasLetter_24 : decode cX12_hasLetter 24 = .ok (.ifCond .eq 7, 3) := by decide +kernel
theorem dX12_hasLetter_27 : decode cX12_hasLetter 27 = .ok (.iconst 1, 1) := by decide +kernel
theorem dX12_hasLetter_28 : decode cX12_hasLetter 28 = .ok (.goto 4, 3) := by decide +kernel
theorem dX12_hasLetter_3 : decode cX12_hasLetter 3 = .ok (.getfield 472, 3) := by decide +kernel
theorem dX12_hasLetter_31 : decode cX12_hasLetter 31 = .ok (.iconst 0, 1) := by decide +kernel
theorem dX12_hasLetter_32 : decode cX12_hasLetter 32 = .ok (.istore_n 2, 1) := by decide +kernel
theorem dX12_hasLetter_33 : decode cX12_hasLetter 33 = .ok (.iinc 3 1, 3) := by decide +kernel
theorem dX12_hasLetter_36 : decode cX12_hasLetter 36 = .ok (.goto (-29), 3) := by decide +kernel
theorem dX12_hasLetter_39 : decode cX12_hasLetter 39 = .ok (.iload_n 2, 1) := by decide +kernel
theorem dX12_hasLetter_40 : decode cX12_hasLetter 40 = .ok (.ireturn, 1) := by decide +kernel
theorem dX12_hasLetter_6 : decode cX12_hasLetter 6 = .ok (.istore_n 3, 1) := by decide +kernel
theorem dX12_hasLetter_7 : decode cX12_hasLetter 7 = .ok (.iload_n 3, 1) := by decide +kernel
theorem dX12_hasLetter_8 : decode cX12_hasLetter 8 = .ok (.iload_n 1, 1) := by decide +kernel
theorem dX12_hasLetter_9 : decode cX12_hasLetter 9 = .ok (.if_icmp .ge 30, 3) := by decide +kernel
set_option maxHeartbeats 4000000 in
set_option maxRecDepth 100000 in
theorem T_X12_hasLetter (l : Launch) (D : va_G) (K : Nat → ClassId) (Z Y : Nat → Nat) (ad : Nat → Nat) (t : tSt) (hok : okM t) (x1 : Int32) (hx1 : (0 : Int) ≤ x1.toInt ∧ x1.toInt ≤ 81) (hs0 : 1 ≤ (t.1 0 68).toInt) : tMet l yX12_hasLetter cX12_hasLetter 4 (some .boolean) (rmD 8 0 0) D K Z Y [.ref (ad 0), .int x1] (WM K ad t) (QI D K (fun (r : Int32) (u : Unit) => (0 : Int) ≤ r.toInt ∧ r.toInt ≤ 1) (fun (_ : Unit) => WM K ad t)) 0 0 := by
  refine t_met RX12 ⟨rfl, by decide +kernel⟩ (Nat.le_of_ble_eq_true rfl) ?_
  intro p e s m below meth c A ls C hE hZ hr hlocks hA hP hD hS hl
  have hl : lv_has ls 4 [(0, .ref (ad 0)), (1, .int x1)] := hl
  have h_1 : (0 : Int) ≤ (t.1 0 67).toInt ∧ (t.1 0 67).toInt ≤ 1281 := hok.1 0 67
  have h_2 : (0 : Int) ≤ (t.1 0 68).toInt ∧ (t.1 0 68).toInt ≤ 81 := hok.1 0 68
  have L_7 : ∀ (fuel_7 : Nat) (w7_2 : Int32) (w7_3 : Int32) (H : Heap) (locs : List Loc) (ls : Array Slot), (0 : Int) ≤ w7_2.toInt ∧ w7_2.toInt ≤ 1 → (0 : Int) ≤ w7_3.toInt ∧ w7_3.toInt ≤ 81 → ((t.1 0 68).toInt ≤ w7_3.toInt) → (81 : Int) - w7_3.toInt < (fuel_7 : Int) → va_P D vwCl (WM K ad t) H → va_D A (WM K ad t) → va_S A s.heap H locs → lv_has ls 4 [(0, .ref (ad 0)), (1, .int x1), (2, .int w7_2), (3, .int w7_3)] → W p l e (rmD 8 0 0) s m [.ref (ad 0), .int x1].toArray below meth c H locs 0 0 (MQ below (QI D K (fun (r : Int32) (u : Unit) => (0 : Int) ≤ r.toInt ∧ r.toInt ≤ 1) (fun (_ : Unit) => WM K ad t) A) [.ref (ad 0), .int x1].toArray s 0 0 A) (F0 m 7 ls []) := by
    intro fuel_7
    induction fuel_7 with
    | zero =>
      intro w7_2 w7_3 H locs ls hw7_2 hw7_3 hi7_0 hm7_7 hP hD hS hl
      have h_3 : (0 : Int) ≤ (t.1 0 67).toInt ∧ (t.1 0 67).toInt ≤ 1281 := hok.1 0 67
      have h_4 : (0 : Int) ≤ (t.1 0 68).toInt ∧ (t.1 0 68).toInt ≤ 81 := hok.1 0 68
      exact absurd hm7_7 (by omega)
    | succ fuel_7 ih_7 =>
      intro w7_2 w7_3 H locs ls hw7_2 hw7_3 hi7_0 hm7_7 hP hD hS hl
      have hm7_7 : (81 : Int) - w7_3.toInt < (fuel_7 : Int) + 1 := by omega
      have h_5 : (0 : Int) ≤ (t.1 0 67).toInt ∧ (t.1 0 67).toInt ≤ 1281 := hok.1 0 67
      have h_6 : (0 : Int) ≤ (t.1 0 68).toInt ∧ (t.1 0 68).toInt ≤ 81 := hok.1 0 68
      have L_32 : ∀ (w32_2 : Int32) (w32_3 : Int32) (k32_0 : Int32) (H : Heap) (locs : List Loc) (ls : Array Slot), (1 : Int) ≤ x1.toInt ∧ x1.toInt ≤ 81 → (0 : Int) ≤ w32_2.toInt ∧ w32_2.toInt ≤ 1 → (0 : Int) ≤ w32_3.toInt ∧ w32_3.toInt ≤ 80 → (0 : Int) ≤ k32_0.toInt ∧ k32_0.toInt ≤ 1 → ((t.1 0 68).toInt ≤ w32_3.toInt) → (w32_3.toInt < x1.toInt) → (81 : Int) - w32_3.toInt < (fuel_7 : Int) + 1 → va_P D vwCl (WM K ad t) H → va_D A (WM K ad t) → va_S A s.heap H locs → lv_has ls 4 [(0, .ref (ad 0)), (1, .int x1), (2, .int w32_2), (3, .int w32_3)] → W p l e (rmD 8 0 0) s m [.ref (ad 0), .int x1].toArray below meth c H locs 0 0 (MQ below (QI D K (fun (r : Int32) (u : Unit) => (0 : Int) ≤ r.toInt ∧ r.toInt ≤ 1) (fun (_ : Unit) => WM K ad t) A) [.ref (ad 0), .int x1].toArray s 0 0 A) (F0 m 32 ls [.int k32_0]) := by
        intro w32_2 w32_3 k32_0 H locs ls hx32_1 hw32_2 hw32_3 hk32_0 hi32_0 hi32_1 hm32_7 hP hD hS hl
        have h_7 : (0 : Int) ≤ (t.1 0 67).toInt ∧ (t.1 0 67).toInt ≤ 1281 := hok.1 0 67
        have h_8 : (0 : Int) ≤ (t.1 0 68).toInt ∧ (t.1 0 68).toInt ≤ 81 := hok.1 0 68
        refine lv_istore_n (lv' := [(2, .int k32_0), (0, .ref (ad 0)), (1, .int x1), (3, .int w32_3)]) C.1 C.2.1 dX12_hasLetter_32 rfl hl (by decide) rfl (fun ls hl => ?_)
        have hl : lv_has ls 4 [(0, .ref (ad 0)), (1, .int x1), (2, .int k32_0), (3, .int w32_3)] := lv_sub hl [1, 2, 0, 3] rfl
        obtain ⟨v_9, e_10⟩ : ∃ z, z = w32_3 + 1 := ⟨_, rfl⟩
        have h_11 : v_9.toInt = w32_3.toInt + 1 := by rw [e_10]; exact ti_iadd (by show (_ : Int) ≤ w32_3.toInt + 1; omega) (by show w32_3.toInt + 1 < (_ : Int); omega)
        refine lv_iinc (v := v_9) (lv' := [(3, .int v_9), (0, .ref (ad 0)), (1, .int x1), (2, .int k32_0)]) C.1 C.2.1 dX12_hasLetter_33 hl (k := 3) rfl e_10.symm (by decide) rfl (fun ls hl => ?_)
        have hl : lv_has ls 4 [(0, .ref (ad 0)), (1, .int x1), (2, .int k32_0), (3, .int v_9)] := lv_sub hl [1, 2, 3, 0] rfl
        refine lv_goto (tgt := 7) C.1 C.2.1 dX12_hasLetter_36 (by decide) ?_
        exact ih_7 k32_0 v_9 _ _ _ ⟨by omega, by omega⟩ ⟨by omega, by omega⟩ (show (t.1 0 68).toInt ≤ v_9.toInt from by omega) (show (81 : Int) - v_9.toInt < (fuel_7 : Int) from by omega) hP hD hS (lv_sub hl [0, 1, 2, 3] rfl)
      have L_27 : ∀ (w27_2 : Int32) (w27_3 : Int32) (H : Heap) (locs : List Loc) (ls : Array Slot), (1 : Int) ≤ x1.toInt ∧ x1.toInt ≤ 81 → (0 : Int) ≤ w27_2.toInt ∧ w27_2.toInt ≤ 1 → (0 : Int) ≤ w27_3.toInt ∧ w27_3.toInt ≤ 80 → ((t.1 0 68).toInt ≤ w27_3.toInt) → (w27_3.toInt < x1.toInt) → (81 : Int) - w27_3.toInt < (fuel_7 : Int) + 1 → va_P D vwCl (WM K ad t) H → va_D A (WM K ad t) → va_S A s.heap H locs → lv_has ls 4 [(0, .ref (ad 0)), (1, .int x1), (2, .int w27_2), (3, .int w27_3)] → W p l e (rmD 8 0 0) s m [.ref (ad 0), .int x1].toArray below meth c H locs 0 0 (MQ below (QI D K (fun (r : Int32) (u : Unit) => (0 : Int) ≤ r.toInt ∧ r.toInt ≤ 1) (fun (_ : Unit) => WM K ad t) A) [.ref (ad 0), .int x1].toArray s 0 0 A) (F0 m 27 ls []) := by
        intro w27_2 w27_3 H locs ls hx27_1 hw27_2 hw27_3 hi27_0 hi27_1 hm27_7 hP hD hS hl
        have h_12 : (0 : Int) ≤ (t.1 0 67).toInt ∧ (t.1 0 67).toInt ≤ 1281 := hok.1 0 67
        have h_13 : (0 : Int) ≤ (t.1 0 68).toInt ∧ (t.1 0 68).toInt ≤ 81 := hok.1 0 68
        refine lv_iconst (v := 1) C.1 C.2.1 dX12_hasLetter_27 (by decide) ?_
        refine lv_goto (tgt := 32) C.1 C.2.1 dX12_hasLetter_28 (by decide) ?_
        exact L_32 w27_2 w27_3 1 _ _ _ ⟨by omega, by omega⟩ ⟨by omega, by omega⟩ ⟨by omega, by omega⟩ ⟨by decide, by decide⟩ (show (t.1 0 68).toInt ≤ w27_3.toInt from by omega) (show w27_3.toInt < x1.toInt from by omega) (show (81 : Int) - w27_3.toInt < (fuel_7 : Int) + 1 from by omega) hP hD hS (lv_sub hl [0, 1, 2, 3] rfl)
      refine lv_iload_n C.1 C.2.1 dX12_hasLetter_7 rfl (lv_at hl 3 rfl) ?_
      refine lv_iload_n C.1 C.2.1 dX12_hasLetter_8 rfl (lv_at hl 1 rfl) ?_
      refine lv_icmp_ge (tgt := 39) C.1 C.2.1 dX12_hasLetter_9 (by decide) (fun c_14 => ?_) (fun c_14 => ?_)
      · replace c_14 : x1.toInt ≤ w7_3.toInt := i_le c_14
        refine lv_iload_n C.1 C.2.1 dX12_hasLetter_39 rfl (lv_at hl 2 rfl) ?_
        exact g_iret C hr hlocks hP hD hS (nar01 (by omega) (by omega)) () rfl ⟨by omega, by omega⟩ (Nat.le_of_ble_eq_true rfl) (Nat.le_of_ble_eq_true rfl) dX12_hasLetter_40
      · replace c_14 : w7_3.toInt < x1.toInt := i_nle c_14
        refine lv_iload_n C.1 C.2.1 dX12_hasLetter_12 rfl (lv_at hl 2 rfl) ?_
        refine lv_if_ne (tgt := 27) C.1 C.2.1 dX12_hasLetter_13 (by decide) (fun c_15 => ?_) (fun c_15 => ?_)
        · replace c_15 : ¬ w7_2.toInt = 0 := i_ne c_15
          exact L_27 w7_2 w7_3 _ _ _ ⟨by omega, by omega⟩ ⟨by omega, by omega⟩ ⟨by omega, by omega⟩ (show (t.1 0 68).toInt ≤ w7_3.toInt from by omega) (show w7_3.toInt < x1.toInt from by omega) (show (81 : Int) - w7_3.toInt < (fuel_7 : Int) + 1 from by omega) hP hD hS (lv_sub hl [0, 1, 2, 3] rfl)
        · replace c_15 : w7_2.toInt = 0 := i_eq c_15
          refine lv_aload_n C.1 C.2.1 dX12_hasLetter_16 rfl (lv_at hl 0 rfl) ?_
          refine lv_iload_n C.1 C.2.1 dX12_hasLetter_17 rfl (lv_at hl 3 rfl) ?_
          refine g_Vi (As := [.int w7_3]) (rest := []) C hP hD hS hA (T_X12_letterAt l D K Z Y ad t hok (w7_3) (show (1 : Int) ≤ (w7_3 : Int32).toInt ∧ (w7_3 : Int32).toInt ≤ 100 from ⟨by omega, by omega⟩)) hE hZ (uwV m_31_8 m_31_9 m_31_10 m_1_5 m_31_11) (hdV 1 (by decide +kernel) rfl) ⟨Nat.le_of_ble_eq_true rfl, Nat.le_of_ble_eq_true rfl⟩ rfl rfl (ci := 11) (q0 := 0) rfl rfl rfl hl.1 (Nat.le_of_ble_eq_true rfl) dX12_hasLetter_18 ⟨Nat.le_of_ble_eq_true rfl, Nat.le_of_ble_eq_true rfl⟩ (fun r_17 t_16 H locs hw hP hD hS => ?_)
          obtain ⟨h_19, h_20, p_21, p_22, p_23, p_24⟩ := hw
          replace p_21 : r_17 = fLet t w7_3 := p_21
          replace p_22 : r_17.toInt = (fLet t w7_3).toInt := p_22
          replace p_23 : ¬ r_17.toInt = 32 → (t.2.2.1 19 ((t.1 0 67) : Int32).toNatClampNeg).toInt + w7_3.toInt ≤ (t.2.2.1 20 ((t.1 0 67) : Int32).toNatClampNeg).toInt := p_23
          replace p_24 : 81 ≤ w7_3.toInt → r_17.toInt = 32 := p_24
          refine g_Si (As := [.int r_17]) (rest := []) C hP hD hS hA (T_X12_isGreat l D K Z Y ad t hok (r_17) (show (0 : Int) ≤ (r_17 : Int32).toInt ∧ (r_17 : Int32).toInt ≤ 255 from ⟨by omega, by omega⟩)) hE hZ (uwS m_32_12 m_32_13 m_1_5 m_32_14) (hdS 1 (by decide +kernel) rfl) ⟨Nat.le_of_ble_eq_true rfl, Nat.le_of_ble_eq_true rfl⟩ rfl rfl rfl hl.1 (Nat.le_of_ble_eq_true rfl) dX12_hasLetter_21 ⟨Nat.le_of_ble_eq_true rfl, Nat.le_of_ble_eq_true rfl⟩ (fun r_26 t_25 H locs hw hP hD hS => ?_)
          obtain ⟨h_28, h_29, p_30⟩ := hw
          replace p_30 : r_26.toInt = 1 → 65 ≤ r_17.toInt ∧ r_17.toInt ≤ 90 := p_30
          refine lv_if_eq (tgt := 31) C.1 C.2.1 dX12_hasLetter_24 (by decide) (fun c_31 => ?_) (fun c_31 => ?_)
          · replace c_31 : r_26.toInt = 0 := i_eq c_31
            refine lv_iconst (v := 0) C.1 C.2.1 dX12_hasLetter_31 (by decide) ?_
            exact L_32 w7_2 w7_3 0 _ _ _ ⟨by omega, by omega⟩ ⟨by omega, by omega⟩ ⟨by omega, by omega⟩ ⟨by decide, by decide⟩ (show (t.1 0 68).toInt ≤ w7_3.toInt from by omega) (show w7_3.toInt < x1.toInt from by omega) (show (81 : Int) - w7_3.toInt < (fuel_7 : Int) + 1 from by omega) hP hD hS (lv_sub hl [0, 1, 2, 3] rfl)
          · replace c_31 : ¬ r_26.toInt = 0 := i_ne c_31
            exact L_27 w7_2 w7_3 _ _ _ ⟨by omega, by omega⟩ ⟨by omega, by omega⟩ ⟨by omega, by omega⟩ (show (t.1 0 68).toInt ≤ w7_3.toInt from by omega) (show w7_3.toInt < x1.toInt from by omega) (show (81 : Int) - w7_3.toInt < (fuel_7 : Int) + 1 from by omega) hP hD hS (lv_sub hl [0, 1, 2, 3] rfl)
  refine lv_iconst (v := 0) C.1 C.2.1 dX12_hasLetter_0 (by decide) ?_
  refine lv_istore_n (lv' := [(2, .int 0), (0, .ref (ad 0)), (1, .int x1)]) C.1 C.2.1 dX12_hasLetter_1 rfl hl (by decide) rfl (fun ls hl => ?_)
  have hl : lv_has ls 4 [(0, .ref (ad 0)), (1, .int x1), (2, .int 0)] := lv_sub hl [1, 2, 0] rfl
  refine lv_aload_n C.1 C.2.1 dX12_hasLetter_2 rfl (lv_at hl 0 rfl) ?_
  refine k_get (v := .int (t.1 0 68)) C hP 0 rfl rfl inlX12 68 (by decide) m_31_6 rfl dX12_hasLetter_3 ?_
  refine lv_istore_n (lv' := [(3, .int (t.1 0 68)), (0, .ref (ad 0)), (1, .int x1), (2, .int 0)]) C.1 C.2.1 dX12_hasLetter_6 rfl hl (by decide) rfl (fun ls hl => ?_)
  have hl : lv_has ls 4 [(0, .ref (ad 0)), (1, .int x1), (2, .int 0), (3, .int (t.1 0 68))] := lv_sub hl [1, 2, 3, 0] rfl
  exact L_7 82 0 (t.1 0 68) _ _ _ ⟨by decide, by decide⟩ ⟨by omega, by omega⟩ (show (t.1 0 68).toInt ≤ (t.1 0 68).toInt from by omega) (show (81 : Int) - (t.1 0 68).toInt < ((82 : Nat) : Int) from by omega) hP hD hS (lv_sub hl [0, 1, 2, 3] rfl)

theorem dX12_symbolAtom_0 : decode cX12_symbolAtom 0 = .ok (.aload_n 0, 1) := by decide +kernel
theorem dX12_symbolAtom_1 : decode cX12_symbolAtom 1 = .ok (.aload_n 0, 1) := by decide +kernel
theorem dX12_symbolAtom_10 : decode cX12_symbolAtom 10 = .ok (.iload_n 2, 1) := by decide +kernel
theorem dX12_symbolAtom_100 : decode cX12_symbolAtom 100 = .ok (.iload_n 3, 1) := by decide +kernel
theorem dX12_symbolAtom_101 : decode cX12_symbolAtom 101 = .ok (.baload, 1) := by decide +kernel
theorem dX12_symbolAtom_102 : decode cX12_symbolAtom 102 = .ok (.ifCond .ne 10, 3) := by decide +kernel
theorem dX12_symbolAtom_105 : decode cX12_symbolAtom 105 = .ok (.aload_n 0, 1) := by decide +kernel
theorem dX12_symbolAtom_106 : decode cX12_symbolAtom 106 = .ok (.iconst 4, 1) := by decide +kernel
theorem dX12_symbolAtom_107 : decode cX12_symbolAtom 107 = .ok (.invokevirtual 478, 3) := by decide +kernel
theorem dX12_symbolAtom_11 : decode cX12_symbolAtom 11 = .ok (.bipush 72, 2) := by decide +kernel
theorem dX12_symbolAtom_110 : decode cX12_symbolAtom 110 = .ok (.iconst 0, 1) := by decide +kernel
theorem dX12_symbolAtom_111 : decode cX12_symbolAtom 111 = .ok (.ireturn, 1) := by decide +kernel
theorem dX12_symbolAtom_112 : decode cX12_symbolAtom 112 = .ok (.aload_n 0, 1) := by decide +kernel
theorem dX12_symbolAtom_113 : decode cX12_symbolAtom 113 = .ok (.iload_n 3, 1) := by decide +kernel
theorem dX12_symbolAtom_114 : decode cX12_symbolAtom 114 = .ok (.invokevirtual 488, 3) := by decide +kernel
theorem dX12_symbolAtom_117 : decode cX12_symbolAtom 117 = .ok (.aload_n 0, 1) := by decide +kernel
theorem dX12_symbolAtom_118 : decode cX12_symbolAtom 118 = .ok (.getfield 92, 3) := by decide +kernel
theorem dX12_symbolAtom_121 : decode cX12_symbolAtom 121 = .ok (.iload_n 3, 1) := by decide +kernel
theorem dX12_symbolAtom_122 : decode cX12_symbolAtom 122 = .ok (.iaload, 1) := by decide +kernel
theorem dX12_symbolAtom_123 : decode cX12_symbolAtom 123 = .ok (.ireturn, 1) := by decide +kernel
theorem dX12_symbolAtom_13 : decode cX12_symbolAtom 13 = .ok (.if_icmp .eq 14, 3) := by decide +kernel
theorem dX12_symbolAtom_16 : decode cX12_symbolAtom 16 = .ok (.iload_n 1, 1) := by decide +kernel
theorem dX12_symbolAtom_17 : decode cX12_symbolAtom 17 = .ok (.aload_n 0, 1) := by decide +kernel
theorem dX12_symbolAtom_18 : decode cX12_symbolAtom 18 = .ok (.getfield 472, 3) := by decide +kernel
theorem dX12_symbolAtom_2 : decode cX12_symbolAtom 2 = .ok (.getfield 472, 3) := by decide +kernel
theorem dX12_symbolAtom_21 : decode cX12_symbolAtom 21 = .ok (.isub, 1) := by decide +kernel
theorem dX12_symbolAtom_22 : decode cX12_symbolAtom 22 = .ok (.bipush 10, 2) := by decide +kernel
theorem dX12_symbolAtom_24 : decode cX12_symbolAtom 24 = .ok (.if_icmp .le 10, 3) := by decide +kernel
theorem dX12_symbolAtom_27 : decode cX12_symbolAtom 27 = .ok (.aload_n 0, 1) := by decide +kernel
theorem dX12_symbolAtom_28 : decode cX12_symbolAtom 28 = .ok (.iconst 1, 1) := by decide +kernel
theorem dX12_symbolAtom_29 : decode cX12_symbolAtom 29 = .ok (.invokevirtual 478, 3) := by decide +kernel
theorem dX12_symbolAtom_32 : decode cX12_symbolAtom 32 = .ok (.iconst 0, 1) := by decide +kernel
theorem dX12_symbolAtom_33 : decode cX12_symbolAtom 33 = .ok (.ireturn, 1) := by decide +kernel
theorem dX12_symbolAtom_34 : decode cX12_symbolAtom 34 = .ok (.iload_n 2, 1) := by decide +kernel
theorem dX12_symbolAtom_35 : decode cX12_symbolAtom 35 = .ok (.ifCond .eq 42, 3) := by decide +kernel
theorem dX12_symbolAtom_38 : decode cX12_symbolAtom 38 = .ok (.aload_n 0, 1) := by decide +kernel
theorem dX12_symbolAtom_39 : decode cX12_symbolAtom 39 = .ok (.aload_n 0, 1) := by decide +kernel
theorem dX12_symbolAtom_40 : decode cX12_symbolAtom 40 = .ok (.getfield 472, 3) := by decide +kernel
theorem dX12_symbolAtom_43 : decode cX12_symbolAtom 43 = .ok (.invokevirtual 446, 3) := by decide +kernel
theorem dX12_symbolAtom_46 : decode cX12_symbolAtom 46 = .ok (.bipush 48, 2) := by decide +kernel
theorem dX12_symbolAtom_48 : decode cX12_symbolAtom 48 = .ok (.isub, 1) := by decide +kernel
theorem dX12_symbolAtom_49 : decode cX12_symbolAtom 49 = .ok (.istore_n 3, 1) := by decide +kernel
theorem dX12_symbolAtom_5 : decode cX12_symbolAtom 5 = .ok (.iload_n 1, 1) := by decide +kernel
theorem dX12_symbolAtom_50 : decode cX12_symbolAtom 50 = .ok (.iload_n 2, 1) := by decide +kernel
theorem dX12_symbolAtom_51 : decode cX12_symbolAtom 51 = .ok (.bipush 70, 2) := by decide +kernel
theorem dX12_symbolAtom_53 : decode cX12_symbolAtom 53 = .ok (.if_icmp .eq 12, 3) := by decide +kernel
theorem dX12_symbolAtom_56 : decode cX12_symbolAtom 56 = .ok (.aload_n 0, 1) := by decide +kernel
theorem dX12_symbolAtom_57 : decode cX12_symbolAtom 57 = .ok (.getfield 107, 3) := by decide +kernel
theorem dX12_symbolAtom_6 : decode cX12_symbolAtom 6 = .ok (.invokevirtual 481, 3) := by decide +kernel
theorem dX12_symbolAtom_60 : decode cX12_symbolAtom 60 = .ok (.iload_n 3, 1) := by decide +kernel
theorem dX12_symbolAtom_61 : decode cX12_symbolAtom 61 = .ok (.baload, 1) := by decide +kernel
theorem dX12_symbolAtom_62 : decode cX12_symbolAtom 62 = .ok (.ifCond .ne 8, 3) := by decide +kernel
theorem dX12_symbolAtom_65 : decode cX12_symbolAtom 65 = .ok (.aload_n 0, 1) := by decide +kernel
theorem dX12_symbolAtom_66 : decode cX12_symbolAtom 66 = .ok (.iconst 4, 1) := by decide +kernel
theorem dX12_symbolAtom_67 : decode cX12_symbolAtom 67 = .ok (.invokevirtual 478, 3) := by decide +kernel
theorem dX12_symbolAtom_70 : decode cX12_symbolAtom 70 = .ok (.aload_n 0, 1) := by decide +kernel
theorem dX12_symbolAtom_71 : decode cX12_symbolAtom 71 = .ok (.getfield 104, 3) := by decide +kernel
theorem dX12_symbolAtom_74 : decode cX12_symbolAtom 74 = .ok (.iload_n 3, 1) := by decide +kernel
theorem dX12_symbolAtom_75 : decode cX12_symbolAtom 75 = .ok (.iaload, 1) := by decide +kernel
theorem dX12_symbolAtom_76 : decode cX12_symbolAtom 76 = .ok (.ireturn, 1) := by decide +kernel
theorem dX12_symbolAtom_77 : decode cX12_symbolAtom 77 = .ok (.aload_n 0, 1) := by decide +kernel
theorem dX12_symbolAtom_78 : decode cX12_symbolAtom 78 = .ok (.aload_n 0, 1) := by decide +kernel
theorem dX12_symbolAtom_79 : decode cX12_symbolAtom 79 = .ok (.aload_n 0, 1) := by decide +kernel
theorem dX12_symbolAtom_80 : decode cX12_symbolAtom 80 = .ok (.getfield 472, 3) := by decide +kernel
theorem dX12_symbolAtom_83 : decode cX12_symbolAtom 83 = .ok (.iload_n 1, 1) := by decide +kernel
theorem dX12_symbolAtom_84 : decode cX12_symbolAtom 84 = .ok (.invokevirtual 484, 3) := by decide +kernel
theorem dX12_symbolAtom_87 : decode cX12_symbolAtom 87 = .ok (.invokevirtual 466, 3) := by decide +kernel
theorem dX12_symbolAtom_9 : decode cX12_symbolAtom 9 = .ok (.istore_n 2, 1) := by decide +kernel
theorem dX12_symbolAtom_90 : decode cX12_symbolAtom 90 = .ok (.istore_n 3, 1) := by decide +kernel
theorem dX12_symbolAtom_91 : decode cX12_symbolAtom 91 = .ok (.iload_n 3, 1) := by decide +kernel
theorem dX12_symbolAtom_92 : decode cX12_symbolAtom 92 = .ok (.iconst (-1), 1) := by decide +kernel
theorem dX12_symbolAtom_93 : decode cX12_symbolAtom 93 = .ok (.if_icmp .eq 12, 3) := by decide +kernel
theorem dX12_symbolAtom_96 : decode cX12_symbolAtom 96 = .ok (.aload_n 0, 1) := by decide +kernel
theorem dX12_symbolAtom_97 : decode cX12_symbolAtom 97 = .ok (.getfield 95, 3) := by decide +kernel
set_option maxHeartbeats 4000000 in
set_option maxRecDepth 100000 in
theorem T_X12_symbolAtom (l : Launch) (D : va_G) (K : Nat → ClassId) (Z Y : Nat → Nat) (ad : Nat → Nat) (t : tSt) (hok : okM t) (x1 : Int32) (hx1 : (0 : Int) ≤ x1.toInt ∧ x1.toInt ≤ 81) (hs0 : 1 ≤ (t.1 0 68).toInt) : tMet l yX12_symbolAtom cX12_symbolAtom 4 (some .int) (rmD 9 0 0) D K Z Y [.ref (ad 0), .int x1] (WM K ad t) (QI D K (fun (r : Int32) (u : tSt) => okM u ∧ frA [(0, 70)] [] [26, 27] [] t u ∧ (-2147483648 : Int) ≤ r.toInt ∧ r.toInt ≤ 2147483647 ∧ ((u.1 0 70).toInt = 0 → (t.1 0 70).toInt = 0)) (fun (u : tSt) => WM K ad u)) 0 0 := by
  refine t_met RX12 ⟨rfl, by decide +kernel⟩ (Nat.le_of_ble_eq_true rfl) ?_
  intro p e s m below meth c A ls C hE hZ hr hlocks hA hP hD hS hl
  have hl : lv_has ls 4 [(0, .ref (ad 0)), (1, .int x1)] := hl
  have hokt := hok
  have hfr : frA [(0, 70)] [] [26, 27] [] t t := frA_rf
  have h_1 : (0 : Int) ≤ (t.1 0 52).toInt ∧ (t.1 0 52).toInt ≤ 1200 := hok.1 0 52
  have h_2 : (0 : Int) ≤ (t.1 0 67).toInt ∧ (t.1 0 67).toInt ≤ 1281 := hok.1 0 67
  have h_3 : (0 : Int) ≤ (t.1 0 68).toInt ∧ (t.1 0 68).toInt ≤ 81 := hok.1 0 68
  have h_4 : (0 : Int) ≤ (t.1 0 70).toInt ∧ (t.1 0 70).toInt ≤ 8 := hok.1 0 70
  refine lv_aload_n C.1 C.2.1 dX12_symbolAtom_0 rfl (lv_at hl 0 rfl) ?_
  refine lv_aload_n C.1 C.2.1 dX12_symbolAtom_1 rfl (lv_at hl 0 rfl) ?_
  refine k_get (v := .int (t.1 0 68)) C hP 0 rfl rfl inlX12 68 (by decide) m_31_6 rfl dX12_symbolAtom_2 ?_
  refine lv_iload_n C.1 C.2.1 dX12_symbolAtom_5 rfl (lv_at hl 1 rfl) ?_
  refine g_Vi (As := [.int (t.1 0 68), .int x1]) (rest := []) C hP hD hS hA (T_X12_localKind l D K Z Y ad t hok ((t.1 0 68)) (show (1 : Int) ≤ ((t.1 0 68) : Int32).toInt ∧ ((t.1 0 68) : Int32).toInt ≤ 81 from ⟨by omega, by omega⟩) (x1) (show (0 : Int) ≤ (x1 : Int32).toInt ∧ (x1 : Int32).toInt ≤ 81 from ⟨by omega, by omega⟩)) hE hZ (uwV m_32_18 m_32_19 m_32_20 m_1_5 m_32_21) (hdV 2 (by decide +kernel) rfl) ⟨Nat.le_of_ble_eq_true rfl, Nat.le_of_ble_eq_true rfl⟩ rfl rfl (ci := 11) (q0 := 0) rfl rfl rfl hl.1 (Nat.le_of_ble_eq_true rfl) dX12_symbolAtom_6 ⟨Nat.le_of_ble_eq_true rfl, Nat.le_of_ble_eq_true rfl⟩ (fun r_6 t_5 H locs hw hP hD hS => ?_)
  obtain ⟨h_8, h_9, p_10⟩ := hw
  replace p_10 : ¬ r_6.toInt = 0 → 48 ≤ (fLet t (t.1 0 68)).toInt ∧ (fLet t (t.1 0 68)).toInt ≤ 57 := p_10
  refine lv_istore_n (lv' := [(2, .int r_6), (0, .ref (ad 0)), (1, .int x1)]) C.1 C.2.1 dX12_symbolAtom_9 rfl hl (by decide) rfl (fun ls hl => ?_)
  have hl : lv_has ls 4 [(0, .ref (ad 0)), (1, .int x1), (2, .int r_6)] := lv_sub hl [1, 2, 0] rfl
  refine lv_iload_n C.1 C.2.1 dX12_symbolAtom_10 rfl (lv_at hl 2 rfl) ?_
  refine lv_bipush (v := 72) C.1 C.2.1 dX12_symbolAtom_11 (by decide) ?_
  refine lv_icmp_eq (tgt := 27) C.1 C.2.1 dX12_symbolAtom_13 (by decide) (fun c_11 => ?_) (fun c_11 => ?_)
  · replace c_11 : r_6.toInt = 72 := i_eq c_11
    refine lv_aload_n C.1 C.2.1 dX12_symbolAtom_27 rfl (lv_at hl 0 rfl) ?_
    refine lv_iconst (v := 1) C.1 C.2.1 dX12_symbolAtom_28 (by decide) ?_
    have h_12 : (1 : Int32).toInt = 1 := rfl
    refine g_Vv (As := [.int 1]) (rest := []) C hP hD hS hA (T_X12_fail l D K Z Y ad t hok 1 (show (1 : Int) ≤ (1 : Int32).toInt ∧ (1 : Int32).toInt ≤ 8 from ⟨by decide, by decide⟩) (show 1 ≤ (1 : Int32).toInt from by omega)) hE hZ (uwV m_32_22 m_32_23 m_33_0 m_1_5 m_33_1) (hdV 1 (by decide +kernel) rfl) ⟨Nat.le_of_ble_eq_true rfl, Nat.le_of_ble_eq_true rfl⟩ rfl rfl (ci := 11) (q0 := 0) rfl rfl rfl hl.1 (Nat.le_of_ble_eq_true rfl) dX12_symbolAtom_29 ⟨Nat.le_of_ble_eq_true rfl, Nat.le_of_ble_eq_true rfl⟩ (fun t_13 H locs hw hP hD hS => ?_)
    obtain ⟨hok, f_15, p_16⟩ := hw
    have hfr : frA [(0, 70)] [] [26, 27] [] t t_13 := frA_tr hfr f_15 rfl
    have h_17 : (t_13.1 0 68).toInt = (t.1 0 68).toInt := ti_eq (f_15.1 0 68 rfl)
    have h_18 : (t_13.1 0 52).toInt = (t.1 0 52).toInt := ti_eq (f_15.1 0 52 rfl)
    have h_19 : (t_13.1 0 67).toInt = (t.1 0 67).toInt := ti_eq (f_15.1 0 67 rfl)
    have e_20 : t_13.2.2.1 19 = t.2.2.1 19 := f_15.2.2.1 19 rfl
    have e_21 : t_13.2.2.1 20 = t.2.2.1 20 := f_15.2.2.1 20 rfl
    have h_22 : (0 : Int) ≤ (t_13.1 0 52).toInt ∧ (t_13.1 0 52).toInt ≤ 1200 := hok.1 0 52
    have h_23 : (0 : Int) ≤ (t_13.1 0 67).toInt ∧ (t_13.1 0 67).toInt ≤ 1281 := hok.1 0 67
    have h_24 : (0 : Int) ≤ (t_13.1 0 70).toInt ∧ (t_13.1 0 70).toInt ≤ 8 := hok.1 0 70
    replace p_16 : 1 ≤ (t_13.1 0 70).toInt := p_16
    refine lv_iconst (v := 0) C.1 C.2.1 dX12_symbolAtom_32 (by decide) ?_
    exact g_iret C hr hlocks hP hD hS rfl t_13 rfl ⟨hok, hfr, (i_rng _).1, (i_rng _).2, (show (t_13.1 0 70).toInt = 0 → (t.1 0 70).toInt = 0 from by omega)⟩ (Nat.le_of_ble_eq_true rfl) (Nat.le_of_ble_eq_true rfl) dX12_symbolAtom_33
  · replace c_11 : ¬ r_6.toInt = 72 := i_ne c_11
    refine lv_iload_n C.1 C.2.1 dX12_symbolAtom_16 rfl (lv_at hl 1 rfl) ?_
    refine lv_aload_n C.1 C.2.1 dX12_symbolAtom_17 rfl (lv_at hl 0 rfl) ?_
    refine k_get (v := .int (t.1 0 68)) C hP 0 rfl rfl inlX12 68 (by decide) m_31_6 rfl dX12_symbolAtom_18 ?_
    obtain ⟨v_25, e_26⟩ : ∃ z, z = (x1 : Int32) - ((t.1 0 68) : Int32) := ⟨_, rfl⟩
    have h_27 : v_25.toInt = x1.toInt - (t.1 0 68).toInt := by rw [e_26]; exact ti_isub (by show (_ : Int) ≤ x1.toInt - (t.1 0 68).toInt; omega) (by show x1.toInt - (t.1 0 68).toInt < (_ : Int); omega)
    refine k_isub (v := v_25) C e_26.symm dX12_symbolAtom_21 ?_
    refine lv_bipush (v := 10) C.1 C.2.1 dX12_symbolAtom_22 (by decide) ?_
    refine lv_icmp_le (tgt := 34) C.1 C.2.1 dX12_symbolAtom_24 (by decide) (fun c_28 => ?_) (fun c_28 => ?_)
    · replace c_28 : v_25.toInt ≤ 10 := i_le c_28
      refine lv_iload_n C.1 C.2.1 dX12_symbolAtom_34 rfl (lv_at hl 2 rfl) ?_
      refine lv_if_eq (tgt := 77) C.1 C.2.1 dX12_symbolAtom_35 (by decide) (fun c_29 => ?_) (fun c_29 => ?_)
      · replace c_29 : r_6.toInt = 0 := i_eq c_29
        refine lv_aload_n C.1 C.2.1 dX12_symbolAtom_77 rfl (lv_at hl 0 rfl) ?_
        refine lv_aload_n C.1 C.2.1 dX12_symbolAtom_78 rfl (lv_at hl 0 rfl) ?_
        refine lv_aload_n C.1 C.2.1 dX12_symbolAtom_79 rfl (lv_at hl 0 rfl) ?_
        refine k_get (v := .int (t.1 0 68)) C hP 0 rfl rfl inlX12 68 (by decide) m_31_6 rfl dX12_symbolAtom_80 ?_
        refine lv_iload_n C.1 C.2.1 dX12_symbolAtom_83 rfl (lv_at hl 1 rfl) ?_
        refine g_Vl (As := [.int (t.1 0 68), .int x1]) (rest := [.ref (ad 0)]) C hP hD hS hA (T_X12_keyOf l D K Z Y ad t hok ((t.1 0 68)) (show (1 : Int) ≤ ((t.1 0 68) : Int32).toInt ∧ ((t.1 0 68) : Int32).toInt ≤ 81 from ⟨by omega, by omega⟩) (x1) (show (0 : Int) ≤ (x1 : Int32).toInt ∧ (x1 : Int32).toInt ≤ 81 from ⟨by omega, by omega⟩)) hE hZ (uwV m_33_14 m_33_15 m_33_16 m_1_5 m_33_17) (hdV 2 (by decide +kernel) rfl) ⟨Nat.le_of_ble_eq_true rfl, Nat.le_of_ble_eq_true rfl⟩ rfl rfl (ci := 11) (q0 := 0) rfl rfl rfl hl.1 (Nat.le_of_ble_eq_true rfl) dX12_symbolAtom_84 ⟨Nat.le_of_ble_eq_true rfl, Nat.le_of_ble_eq_true rfl⟩ (fun r_31 t_30 H locs hw hP hD hS => ?_)
        refine g_Vi (As := [.long r_31]) (rest := []) C hP hD hS hA (T_X12_find l D K Z Y ad t hok (r_31)) hE hZ (uwV m_33_22 m_33_23 m_34_0 m_1_5 m_34_1) (hdV 1 (by decide +kernel) rfl) ⟨Nat.le_of_ble_eq_true rfl, Nat.le_of_ble_eq_true rfl⟩ rfl rfl (ci := 11) (q0 := 0) rfl rfl rfl hl.1 (Nat.le_of_ble_eq_true rfl) dX12_symbolAtom_87 ⟨Nat.le_of_ble_eq_true rfl, Nat.le_of_ble_eq_true rfl⟩ (fun r_34 t_33 H locs hw hP hD hS => ?_)
        obtain ⟨h_36, h_37, p_38⟩ := hw
        replace p_38 : r_34.toInt < (t.1 0 52).toInt ∨ r_34.toInt = -1 := p_38
        refine lv_istore_n (lv' := [(3, .int r_34), (0, .ref (ad 0)), (1, .int x1), (2, .int r_6)]) C.1 C.2.1 dX12_symbolAtom_90 rfl hl (by decide) rfl (fun ls hl => ?_)
        have hl : lv_has ls 4 [(0, .ref (ad 0)), (1, .int x1), (2, .int r_6), (3, .int r_34)] := lv_sub hl [1, 2, 3, 0] rfl
        refine lv_iload_n C.1 C.2.1 dX12_symbolAtom_91 rfl (lv_at hl 3 rfl) ?_
        refine lv_iconst (v := (-1)) C.1 C.2.1 dX12_symbolAtom_92 (by decide) ?_
        refine lv_icmp_eq (tgt := 105) C.1 C.2.1 dX12_symbolAtom_93 (by decide) (fun c_39 => ?_) (fun c_39 => ?_)
        · replace c_39 : r_34.toInt = (-1) := i_eq c_39
          refine lv_aload_n C.1 C.2.1 dX12_symbolAtom_105 rfl (lv_at hl 0 rfl) ?_
          refine lv_iconst (v := 4) C.1 C.2.1 dX12_symbolAtom_106 (by decide) ?_
          have h_40 : (4 : Int32).toInt = 4 := rfl
          refine g_Vv (As := [.int 4]) (rest := []) C hP hD hS hA (T_X12_fail l D K Z Y ad t hok 4 (show (1 : Int) ≤ (4 : Int32).toInt ∧ (4 : Int32).toInt ≤ 8 from ⟨by decide, by decide⟩) (show 1 ≤ (4 : Int32).toInt from by omega)) hE hZ (uwV m_32_22 m_32_23 m_33_0 m_1_5 m_33_1) (hdV 1 (by decide +kernel) rfl) ⟨Nat.le_of_ble_eq_true rfl, Nat.le_of_ble_eq_true rfl⟩ rfl rfl (ci := 11) (q0 := 0) rfl rfl rfl hl.1 (Nat.le_of_ble_eq_true rfl) dX12_symbolAtom_107 ⟨Nat.le_of_ble_eq_true rfl, Nat.le_of_ble_eq_true rfl⟩ (fun t_41 H locs hw hP hD hS => ?_)
          obtain ⟨hok, f_43, p_44⟩ := hw
          have hfr : frA [(0, 70)] [] [26, 27] [] t t_41 := frA_tr hfr f_43 rfl
          have h_45 : (t_41.1 0 68).toInt = (t.1 0 68).toInt := ti_eq (f_43.1 0 68 rfl)
          have h_46 : (t_41.1 0 52).toInt = (t.1 0 52).toInt := ti_eq (f_43.1 0 52 rfl)
          have h_47 : (t_41.1 0 67).toInt = (t.1 0 67).toInt := ti_eq (f_43.1 0 67 rfl)
          have e_48 : t_41.2.2.1 19 = t.2.2.1 19 := f_43.2.2.1 19 rfl
          have e_49 : t_41.2.2.1 20 = t.2.2.1 20 := f_43.2.2.1 20 rfl
          have h_50 : (0 : Int) ≤ (t_41.1 0 52).toInt ∧ (t_41.1 0 52).toInt ≤ 1200 := hok.1 0 52
          have h_51 : (0 : Int) ≤ (t_41.1 0 67).toInt ∧ (t_41.1 0 67).toInt ≤ 1281 := hok.1 0 67
          have h_52 : (0 : Int) ≤ (t_41.1 0 70).toInt ∧ (t_41.1 0 70).toInt ≤ 8 := hok.1 0 70
          replace p_44 : 1 ≤ (t_41.1 0 70).toInt := p_44
          refine lv_iconst (v := 0) C.1 C.2.1 dX12_symbolAtom_110 (by decide) ?_
          exact g_iret C hr hlocks hP hD hS rfl t_41 rfl ⟨hok, hfr, (i_rng _).1, (i_rng _).2, (show (t_41.1 0 70).toInt = 0 → (t.1 0 70).toInt = 0 from by omega)⟩ (Nat.le_of_ble_eq_true rfl) (Nat.le_of_ble_eq_true rfl) dX12_symbolAtom_111
        · replace c_39 : ¬ r_34.toInt = (-1) := i_ne c_39
          refine lv_aload_n C.1 C.2.1 dX12_symbolAtom_96 rfl (lv_at hl 0 rfl) ?_
          refine k_get (v := .ref (ad 25)) C hP 0 rfl rfl inlX12 55 (by decide) m_8_9 rfl dX12_symbolAtom_97 ?_
          refine lv_iload_n C.1 C.2.1 dX12_symbolAtom_100 rfl (lv_at hl 3 rfl) ?_
          obtain ⟨v_53, e_54⟩ : ∃ z, z = (t.2.2.1 25 (r_34 : Int32).toNatClampNeg) := ⟨_, rfl⟩
          have h_55 : (0 : Int) ≤ v_53.toInt ∧ v_53.toInt ≤ 1 := by rw [e_54]; exact hok.2.1 25 _
          refine k_zld (v := v_53) C hP 25 rfl (vp_in_iff.mpr ⟨by omega, by omega⟩) e_54.symm dX12_symbolAtom_101 ?_
          refine lv_if_ne (tgt := 112) C.1 C.2.1 dX12_symbolAtom_102 (by decide) (fun c_56 => ?_) (fun c_56 => ?_)
          · replace c_56 : ¬ v_53.toInt = 0 := i_ne c_56
            refine lv_aload_n C.1 C.2.1 dX12_symbolAtom_112 rfl (lv_at hl 0 rfl) ?_
            refine lv_iload_n C.1 C.2.1 dX12_symbolAtom_113 rfl (lv_at hl 3 rfl) ?_
            refine g_Vv (As := [.int r_34]) (rest := []) C hP hD hS hA (T_X12_use l D K Z Y ad t hok (r_34) (show (0 : Int) ≤ (r_34 : Int32).toInt ∧ (r_34 : Int32).toInt ≤ 1199 from ⟨by omega, by omega⟩)) hE hZ (uwV m_35_19 m_35_20 m_35_21 m_1_5 m_35_22) (hdV 1 (by decide +kernel) rfl) ⟨Nat.le_of_ble_eq_true rfl, Nat.le_of_ble_eq_true rfl⟩ rfl rfl (ci := 11) (q0 := 0) rfl rfl rfl hl.1 (Nat.le_of_ble_eq_true rfl) dX12_symbolAtom_114 ⟨Nat.le_of_ble_eq_true rfl, Nat.le_of_ble_eq_true rfl⟩ (fun t_57 H locs hw hP hD hS => ?_)
            obtain ⟨hok, f_59⟩ := hw
            have hfr : frA [(0, 70)] [] [26, 27] [] t t_57 := frA_tr hfr f_59 rfl
            have h_60 : (t_57.1 0 68).toInt = (t.1 0 68).toInt := ti_eq (f_59.1 0 68 rfl)
            have h_61 : (t_57.1 0 52).toInt = (t.1 0 52).toInt := ti_eq (f_59.1 0 52 rfl)
            have h_62 : (t_57.1 0 67).toInt = (t.1 0 67).toInt := ti_eq (f_59.1 0 67 rfl)
            have h_63 : (t_57.1 0 70).toInt = (t.1 0 70).toInt := ti_eq (f_59.1 0 70 rfl)
            have e_64 : t_57.2.2.1 19 = t.2.2.1 19 := f_59.2.2.1 19 rfl
            have e_65 : t_57.2.2.1 20 = t.2.2.1 20 := f_59.2.2.1 20 rfl
            have h_66 : (0 : Int) ≤ (t_57.1 0 52).toInt ∧ (t_57.1 0 52).toInt ≤ 1200 := hok.1 0 52
            have h_67 : (0 : Int) ≤ (t_57.1 0 67).toInt ∧ (t_57.1 0 67).toInt ≤ 1281 := hok.1 0 67
            have h_68 : (0 : Int) ≤ (t_57.1 0 70).toInt ∧ (t_57.1 0 70).toInt ≤ 8 := hok.1 0 70
            refine lv_aload_n C.1 C.2.1 dX12_symbolAtom_117 rfl (lv_at hl 0 rfl) ?_
            refine k_get (v := .ref (ad 24)) C hP 0 rfl rfl inlX12 54 (by decide) m_8_8 rfl dX12_symbolAtom_118 ?_
            refine lv_iload_n C.1 C.2.1 dX12_symbolAtom_121 rfl (lv_at hl 3 rfl) ?_
            obtain ⟨v_69, e_70⟩ : ∃ z, z = (t_57.2.2.1 24 (r_34 : Int32).toNatClampNeg) := ⟨_, rfl⟩
            refine k_ild (v := v_69) C hP 24 rfl (vp_in_iff.mpr ⟨by omega, by omega⟩) e_70.symm dX12_symbolAtom_122 ?_
            exact g_iret C hr hlocks hP hD hS rfl t_57 rfl ⟨hok, hfr, (i_rng _).1, (i_rng _).2, (show (t_57.1 0 70).toInt = 0 → (t.1 0 70).toInt = 0 from by omega)⟩ (Nat.le_of_ble_eq_true rfl) (Nat.le_of_ble_eq_true rfl) dX12_symbolAtom_123
          · replace c_56 : v_53.toInt = 0 := i_eq c_56
            refine lv_aload_n C.1 C.2.1 dX12_symbolAtom_105 rfl (lv_at hl 0 rfl) ?_
            refine lv_iconst (v := 4) C.1 C.2.1 dX12_symbolAtom_106 (by decide) ?_
            have h_71 : (4 : Int32).toInt = 4 := rfl
            refine g_Vv (As := [.int 4]) (rest := []) C hP hD hS hA (T_X12_fail l D K Z Y ad t hok 4 (show (1 : Int) ≤ (4 : Int32).toInt ∧ (4 : Int32).toInt ≤ 8 from ⟨by decide, by decide⟩) (show 1 ≤ (4 : Int32).toInt from by omega)) hE hZ (uwV m_32_22 m_32_23 m_33_0 m_1_5 m_33_1) (hdV 1 (by decide +kernel) rfl) ⟨Nat.le_of_ble_eq_true rfl, Nat.le_of_ble_eq_true rfl⟩ rfl rfl (ci := 11) (q0 := 0) rfl rfl rfl hl.1 (Nat.le_of_ble_eq_true rfl) dX12_symbolAtom_107 ⟨Nat.le_of_ble_eq_true rfl, Nat.le_of_ble_eq_true rfl⟩ (fun t_72 H locs hw hP hD hS => ?_)
            obtain ⟨hok, f_74, p_75⟩ := hw
            have hfr : frA [(0, 70)] [] [26, 27] [] t t_72 := frA_tr hfr f_74 rfl
            have h_76 : (t_72.1 0 68).toInt = (t.1 0 68).toInt := ti_eq (f_74.1 0 68 rfl)
            have h_77 : (t_72.1 0 52).toInt = (t.1 0 52).toInt := ti_eq (f_74.1 0 52 rfl)
            have h_78 : (t_72.1 0 67).toInt = (t.1 0 67).toInt := ti_eq (f_74.1 0 67 rfl)
            have e_79 : t_72.2.2.1 19 = t.2.2.1 19 := f_74.2.2.1 19 rfl
            have e_80 : t_72.2.2.1 20 = t.2.2.1 20 := f_74.2.2.1 20 rfl
            have h_81 : (0 : Int) ≤ (t_72.1 0 52).toInt ∧ (t_72.1 0 52).toInt ≤ 1200 := hok.1 0 52
            have h_82 : (0 : Int) ≤ (t_72.1 0 67).toInt ∧ (t_72.1 0 67).toInt ≤ 1281 := hok.1 0 67
            have h_83 : (0 : Int) ≤ (t_72.1 0 70).toInt ∧ (t_72.1 0 70).toInt ≤ 8 := hok.1 0 70
            replace p_75 : 1 ≤ (t_72.1 0 70).toInt := p_75
            refine lv_iconst (v := 0) C.1 C.2.1 dX12_symbolAtom_110 (by decide) ?_
            exact g_iret C hr hlocks hP hD hS rfl t_72 rfl ⟨hok, hfr, (i_rng _).1, (i_rng _).2, (show (t_72.1 0 70).toInt = 0 → (t.1 0 70).toInt = 0 from by omega)⟩ (Nat.le_of_ble_eq_true rfl) (Nat.le_of_ble_eq_true rfl) dX12_symbolAtom_111
      · replace c_29 : ¬ r_6.toInt = 0 := i_ne c_29
        refine lv_aload_n C.1 C.2.1 dX12_symbolAtom_38 rfl (lv_at hl 0 rfl) ?_
        refine lv_aload_n C.1 C.2.1 dX12_symbolAtom_39 rfl (lv_at hl 0 rfl) ?_
        refine k_get (v := .int (t.1 0 68)) C hP 0 rfl rfl inlX12 68 (by decide) m_31_6 rfl dX12_symbolAtom_40 ?_
        refine g_Vi (As := [.int (t.1 0 68)]) (rest := []) C hP hD hS hA (T_X12_letterAt l D K Z Y ad t hok ((t.1 0 68)) (show (1 : Int) ≤ ((t.1 0 68) : Int32).toInt ∧ ((t.1 0 68) : Int32).toInt ≤ 100 from ⟨by omega, by omega⟩)) hE hZ (uwV m_31_8 m_31_9 m_31_10 m_1_5 m_31_11) (hdV 1 (by decide +kernel) rfl) ⟨Nat.le_of_ble_eq_true rfl, Nat.le_of_ble_eq_true rfl⟩ rfl rfl (ci := 11) (q0 := 0) rfl rfl rfl hl.1 (Nat.le_of_ble_eq_true rfl) dX12_symbolAtom_43 ⟨Nat.le_of_ble_eq_true rfl, Nat.le_of_ble_eq_true rfl⟩ (fun r_85 t_84 H locs hw hP hD hS => ?_)
        obtain ⟨h_87, h_88, p_89, p_90, p_91, p_92⟩ := hw
        replace p_89 : r_85 = fLet t (t.1 0 68) := p_89
        replace p_90 : r_85.toInt = (fLet t (t.1 0 68)).toInt := p_90
        replace p_91 : ¬ r_85.toInt = 32 → (t.2.2.1 19 ((t.1 0 67) : Int32).toNatClampNeg).toInt + (t.1 0 68).toInt ≤ (t.2.2.1 20 ((t.1 0 67) : Int32).toNatClampNeg).toInt := p_91
        replace p_92 : 81 ≤ (t.1 0 68).toInt → r_85.toInt = 32 := p_92
        refine lv_bipush (v := 48) C.1 C.2.1 dX12_symbolAtom_46 (by decide) ?_
        obtain ⟨v_93, e_94⟩ : ∃ z, z = (r_85 : Int32) - (48 : Int32) := ⟨_, rfl⟩
        have h_95 : v_93.toInt = r_85.toInt - 48 := by rw [e_94]; exact ti_isub (by show (_ : Int) ≤ r_85.toInt - 48; omega) (by show r_85.toInt - 48 < (_ : Int); omega)
        refine k_isub (v := v_93) C e_94.symm dX12_symbolAtom_48 ?_
        refine lv_istore_n (lv' := [(3, .int v_93), (0, .ref (ad 0)), (1, .int x1), (2, .int r_6)]) C.1 C.2.1 dX12_symbolAtom_49 rfl hl (by decide) rfl (fun ls hl => ?_)
        have hl : lv_has ls 4 [(0, .ref (ad 0)), (1, .int x1), (2, .int r_6), (3, .int v_93)] := lv_sub hl [1, 2, 3, 0] rfl
        refine lv_iload_n C.1 C.2.1 dX12_symbolAtom_50 rfl (lv_at hl 2 rfl) ?_
        refine lv_bipush (v := 70) C.1 C.2.1 dX12_symbolAtom_51 (by decide) ?_
        refine lv_icmp_eq (tgt := 65) C.1 C.2.1 dX12_symbolAtom_53 (by decide) (fun c_96 => ?_) (fun c_96 => ?_)
        · replace c_96 : r_6.toInt = 70 := i_eq c_96
          refine lv_aload_n C.1 C.2.1 dX12_symbolAtom_65 rfl (lv_at hl 0 rfl) ?_
          refine lv_iconst (v := 4) C.1 C.2.1 dX12_symbolAtom_66 (by decide) ?_
          have h_97 : (4 : Int32).toInt = 4 := rfl
          refine g_Vv (As := [.int 4]) (rest := []) C hP hD hS hA (T_X12_fail l D K Z Y ad t hok 4 (show (1 : Int) ≤ (4 : Int32).toInt ∧ (4 : Int32).toInt ≤ 8 from ⟨by decide, by decide⟩) (show 1 ≤ (4 : Int32).toInt from by omega)) hE hZ (uwV m_32_22 m_32_23 m_33_0 m_1_5 m_33_1) (hdV 1 (by decide +kernel) rfl) ⟨Nat.le_of_ble_eq_true rfl, Nat.le_of_ble_eq_true rfl⟩ rfl rfl (ci := 11) (q0 := 0) rfl rfl rfl hl.1 (Nat.le_of_ble_eq_true rfl) dX12_symbolAtom_67 ⟨Nat.le_of_ble_eq_true rfl, Nat.le_of_ble_eq_true rfl⟩ (fun t_98 H locs hw hP hD hS => ?_)
          obtain ⟨hok, f_100, p_101⟩ := hw
          have hfr : frA [(0, 70)] [] [26, 27] [] t t_98 := frA_tr hfr f_100 rfl
          have h_102 : (t_98.1 0 68).toInt = (t.1 0 68).toInt := ti_eq (f_100.1 0 68 rfl)
          have h_103 : (t_98.1 0 52).toInt = (t.1 0 52).toInt := ti_eq (f_100.1 0 52 rfl)
          have h_104 : (t_98.1 0 67).toInt = (t.1 0 67).toInt := ti_eq (f_100.1 0 67 rfl)
          have e_105 : t_98.2.2.1 19 = t.2.2.1 19 := f_100.2.2.1 19 rfl
          have e_106 : t_98.2.2.1 20 = t.2.2.1 20 := f_100.2.2.1 20 rfl
          have h_107 : (0 : Int) ≤ (t_98.1 0 52).toInt ∧ (t_98.1 0 52).toInt ≤ 1200 := hok.1 0 52
          have h_108 : (0 : Int) ≤ (t_98.1 0 67).toInt ∧ (t_98.1 0 67).toInt ≤ 1281 := hok.1 0 67
          have h_109 : (0 : Int) ≤ (t_98.1 0 70).toInt ∧ (t_98.1 0 70).toInt ≤ 8 := hok.1 0 70
          replace p_101 : 1 ≤ (t_98.1 0 70).toInt := p_101
          refine lv_aload_n C.1 C.2.1 dX12_symbolAtom_70 rfl (lv_at hl 0 rfl) ?_
          refine k_get (v := .ref (ad 28)) C hP 0 rfl rfl inlX12 58 (by decide) m_8_12 rfl dX12_symbolAtom_71 ?_
          refine lv_iload_n C.1 C.2.1 dX12_symbolAtom_74 rfl (lv_at hl 3 rfl) ?_
          obtain ⟨v_110, e_111⟩ : ∃ z, z = (t_98.2.2.1 28 (v_93 : Int32).toNatClampNeg) := ⟨_, rfl⟩
          refine k_ild (v := v_110) C hP 28 rfl (vp_in_iff.mpr ⟨by omega, by omega⟩) e_111.symm dX12_symbolAtom_75 ?_
          exact g_iret C hr hlocks hP hD hS rfl t_98 rfl ⟨hok, hfr, (i_rng _).1, (i_rng _).2, (show (t_98.1 0 70).toInt = 0 → (t.1 0 70).toInt = 0 from by omega)⟩ (Nat.le_of_ble_eq_true rfl) (Nat.le_of_ble_eq_true rfl) dX12_symbolAtom_76
        · replace c_96 : ¬ r_6.toInt = 70 := i_ne c_96
          refine lv_aload_n C.1 C.2.1 dX12_symbolAtom_56 rfl (lv_at hl 0 rfl) ?_
          refine k_get (v := .ref (ad 29)) C hP 0 rfl rfl inlX12 59 (by decide) m_8_13 rfl dX12_symbolAtom_57 ?_
          refine lv_iload_n C.1 C.2.1 dX12_symbolAtom_60 rfl (lv_at hl 3 rfl) ?_
          obtain ⟨v_112, e_113⟩ : ∃ z, z = (t.2.2.1 29 (v_93 : Int32).toNatClampNeg) := ⟨_, rfl⟩
          have h_114 : (0 : Int) ≤ v_112.toInt ∧ v_112.toInt ≤ 1 := by rw [e_113]; exact hok.2.1 29 _
          refine k_zld (v := v_112) C hP 29 rfl (vp_in_iff.mpr ⟨by omega, by omega⟩) e_113.symm dX12_symbolAtom_61 ?_
          refine lv_if_ne (tgt := 70) C.1 C.2.1 dX12_symbolAtom_62 (by decide) (fun c_115 => ?_) (fun c_115 => ?_)
          · replace c_115 : ¬ v_112.toInt = 0 := i_ne c_115
            refine lv_aload_n C.1 C.2.1 dX12_symbolAtom_70 rfl (lv_at hl 0 rfl) ?_
            refine k_get (v := .ref (ad 28)) C hP 0 rfl rfl inlX12 58 (by decide) m_8_12 rfl dX12_symbolAtom_71 ?_
            refine lv_iload_n C.1 C.2.1 dX12_symbolAtom_74 rfl (lv_at hl 3 rfl) ?_
            obtain ⟨v_116, e_117⟩ : ∃ z, z = (t.2.2.1 28 (v_93 : Int32).toNatClampNeg) := ⟨_, rfl⟩
            refine k_ild (v := v_116) C hP 28 rfl (vp_in_iff.mpr ⟨by omega, by omega⟩) e_117.symm dX12_symbolAtom_75 ?_
            exact g_iret C hr hlocks hP hD hS rfl t rfl ⟨hok, hfr, (i_rng _).1, (i_rng _).2, (show (t.1 0 70).toInt = 0 → (t.1 0 70).toInt = 0 from by omega)⟩ (Nat.le_of_ble_eq_true rfl) (Nat.le_of_ble_eq_true rfl) dX12_symbolAtom_76
          · replace c_115 : v_112.toInt = 0 := i_eq c_115
            refine lv_aload_n C.1 C.2.1 dX12_symbolAtom_65 rfl (lv_at hl 0 rfl) ?_
            refine lv_iconst (v := 4) C.1 C.2.1 dX12_symbolAtom_66 (by decide) ?_
            have h_118 : (4 : Int32).toInt = 4 := rfl
            refine g_Vv (As := [.int 4]) (rest := []) C hP hD hS hA (T_X12_fail l D K Z Y ad t hok 4 (show (1 : Int) ≤ (4 : Int32).toInt ∧ (4 : Int32).toInt ≤ 8 from ⟨by decide, by decide⟩) (show 1 ≤ (4 : Int32).toInt from by omega)) hE hZ (uwV m_32_22 m_32_23 m_33_0 m_1_5 m_33_1) (hdV 1 (by decide +kernel) rfl) ⟨Nat.le_of_ble_eq_true rfl, Nat.le_of_ble_eq_true rfl⟩ rfl rfl (ci := 11) (q0 := 0) rfl rfl rfl hl.1 (Nat.le_of_ble_eq_true rfl) dX12_symbolAtom_67 ⟨Nat.le_of_ble_eq_true rfl, Nat.le_of_ble_eq_true rfl⟩ (fun t_119 H locs hw hP hD hS => ?_)
            obtain ⟨hok, f_121, p_122⟩ := hw
            have hfr : frA [(0, 70)] [] [26, 27] [] t t_119 := frA_tr hfr f_121 rfl
            have h_123 : (t_119.1 0 68).toInt = (t.1 0 68).toInt := ti_eq (f_121.1 0 68 rfl)
            have h_124 : (t_119.1 0 52).toInt = (t.1 0 52).toInt := ti_eq (f_121.1 0 52 rfl)
            have h_125 : (t_119.1 0 67).toInt = (t.1 0 67).toInt := ti_eq (f_121.1 0 67 rfl)
            have e_126 : t_119.2.2.1 19 = t.2.2.1 19 := f_121.2.2.1 19 rfl
            have e_127 : t_119.2.2.1 20 = t.2.2.1 20 := f_121.2.2.1 20 rfl
            have h_128 : (0 : Int) ≤ (t_119.1 0 52).toInt ∧ (t_119.1 0 52).toInt ≤ 1200 := hok.1 0 52
            have h_129 : (0 : Int) ≤ (t_119.1 0 67).toInt ∧ (t_119.1 0 67).toInt ≤ 1281 := hok.1 0 67
            have h_130 : (0 : Int) ≤ (t_119.1 0 70).toInt ∧ (t_119.1 0 70).toInt ≤ 8 := hok.1 0 70
            replace p_122 : 1 ≤ (t_119.1 0 70).toInt := p_122
            refine lv_aload_n C.1 C.2.1 dX12_symbolAtom_70 rfl (lv_at hl 0 rfl) ?_
            refine k_get (v := .ref (ad 28)) C hP 0 rfl rfl inlX12 58 (by decide) m_8_12 rfl dX12_symbolAtom_71 ?_
            refine lv_iload_n C.1 C.2.1 dX12_symbolAtom_74 rfl (lv_at hl 3 rfl) ?_
            obtain ⟨v_131, e_132⟩ : ∃ z, z = (t_119.2.2.1 28 (v_93 : Int32).toNatClampNeg) := ⟨_, rfl⟩
            refine k_ild (v := v_131) C hP 28 rfl (vp_in_iff.mpr ⟨by omega, by omega⟩) e_132.symm dX12_symbolAtom_75 ?_
            exact g_iret C hr hlocks hP hD hS rfl t_119 rfl ⟨hok, hfr, (i_rng _).1, (i_rng _).2, (show (t_119.1 0 70).toInt = 0 → (t.1 0 70).toInt = 0 from by omega)⟩ (Nat.le_of_ble_eq_true rfl) (Nat.le_of_ble_eq_true rfl) dX12_symbolAtom_76
    · replace c_28 : 10 < v_25.toInt := i_nle c_28
      refine lv_aload_n C.1 C.2.1 dX12_symbolAtom_27 rfl (lv_at hl 0 rfl) ?_
      refine lv_iconst (v := 1) C.1 C.2.1 dX12_symbolAtom_28 (by decide) ?_
      have h_133 : (1 : Int32).toInt = 1 := rfl
      refine g_Vv (As := [.int 1]) (rest := []) C hP hD hS hA (T_X12_fail l D K Z Y ad t hok 1 (show (1 : Int) ≤ (1 : Int32).toInt ∧ (1 : Int32).toInt ≤ 8 from ⟨by decide, by decide⟩) (show 1 ≤ (1 : Int32).toInt from by omega)) hE hZ (uwV m_32_22 m_32_23 m_33_0 m_1_5 m_33_1) (hdV 1 (by decide +kernel) rfl) ⟨Nat.le_of_ble_eq_true rfl, Nat.le_of_ble_eq_true rfl⟩ rfl rfl (ci := 11) (q0 := 0) rfl rfl rfl hl.1 (Nat.le_of_ble_eq_true rfl) dX12_symbolAtom_29 ⟨Nat.le_of_ble_eq_true rfl, Nat.le_of_ble_eq_true rfl⟩ (fun t_134 H locs hw hP hD hS => ?_)
      obtain ⟨hok, f_136, p_137⟩ := hw
      have hfr : frA [(0, 70)] [] [26, 27] [] t t_134 := frA_tr hfr f_136 rfl
      have h_138 : (t_134.1 0 68).toInt = (t.1 0 68).toInt := ti_eq (f_136.1 0 68 rfl)
      have h_139 : (t_134.1 0 52).toInt = (t.1 0 52).toInt := ti_eq (f_136.1 0 52 rfl)
      have h_140 : (t_134.1 0 67).toInt = (t.1 0 67).toInt := ti_eq (f_136.1 0 67 rfl)
      have e_141 : t_134.2.2.1 19 = t.2.2.1 19 := f_136.2.2.1 19 rfl
      have e_142 : t_134.2.2.1 20 = t.2.2.1 20 := f_136.2.2.1 20 rfl
      have h_143 : (0 : Int) ≤ (t_134.1 0 52).toInt ∧ (t_134.1 0 52).toInt ≤ 1200 := hok.1 0 52
      have h_144 : (0 : Int) ≤ (t_134.1 0 67).toInt ∧ (t_134.1 0 67).toInt ≤ 1281 := hok.1 0 67
      have h_145 : (0 : Int) ≤ (t_134.1 0 70).toInt ∧ (t_134.1 0 70).toInt ≤ 8 := hok.1 0 70
      replace p_137 : 1 ≤ (t_134.1 0 70).toInt := p_137
      refine lv_iconst (v := 0) C.1 C.2.1 dX12_symbolAtom_32 (by decide) ?_
      exact g_iret C hr hlocks hP hD hS rfl t_134 rfl ⟨hok, hfr, (i_rng _).1, (i_rng _).2, (show (t_134.1 0 70).toInt = 0 → (t.1 0 70).toInt = 0 from by omega)⟩ (Nat.le_of_ble_eq_true rfl) (Nat.le_of_ble_eq_true rfl) dX12_symbolAtom_33

theorem dX12_number_0 : decode cX12_number 0 = .ok (.lconst 0, 1) := by decide +kernel
theorem dX12_number_1 : decode cX12_number 1 = .ok (.lstore_n 2, 1) := by decide +kernel
theorem dX12_number_10 : decode cX12_number 10 = .ok (.iload_n 1, 1) := by decide +kernel
theorem dX12_number_11 : decode cX12_number 11 = .ok (.if_icmp .ge 39, 3) := by decide +kernel
theorem dX12_number_14 : decode cX12_number 14 = .ok (.lload_n 2, 1) := by decide +kernel
theorem dX12_number_15 : decode cX12_number 15 = .ok (.ldc2_w 335, 3) := by decide +kernel
theorem dX12_number_18 : decode cX12_number 18 = .ok (.lcmp, 1) := by decide +kernel
theorem dX12_number_19 : decode cX12_number 19 = .ok (.ifCond .le 7, 3) := by decide +kernel
theorem dX12_number_2 : decode cX12_number 2 = .ok (.aload_n 0, 1) := by decide +kernel
theorem dX12_number_22 : decode cX12_number 22 = .ok (.lload_n 2, 1) := by decide +kernel
theorem dX12_number_23 : decode cX12_number 23 = .ok (.goto 20, 3) := by decide +kernel
theorem dX12_number_26 : decode cX12_number 26 = .ok (.ldc2_w 192, 3) := by decide +kernel
theorem dX12_number_29 : decode cX12_number 29 = .ok (.lload_n 2, 1) := by decide +kernel
theorem dX12_number_3 : decode cX12_number 3 = .ok (.getfield 472, 3) := by decide +kernel
theorem dX12_number_30 : decode cX12_number 30 = .ok (.lmul, 1) := by decide +kernel
theorem dX12_number_31 : decode cX12_number 31 = .ok (.aload_n 0, 1) := by decide +kernel
theorem dX12_number_32 : decode cX12_number 32 = .ok (.iload 4, 2) := by decide +kernel
theorem dX12_number_34 : decode cX12_number 34 = .ok (.invokevirtual 446, 3) := by decide +kernel
theorem dX12_number_37 : decode cX12_number 37 = .ok (.i2l, 1) := by decide +kernel
theorem dX12_number_38 : decode cX12_number 38 = .ok (.ladd, 1) := by decide +kernel
theorem dX12_number_39 : decode cX12_number 39 = .ok (.ldc2_w 194, 3) := by decide +kernel
theorem dX12_number_42 : decode cX12_number 42 = .ok (.lsub, 1) := by decide +kernel
theorem dX12_number_43 : decode cX12_number 43 = .ok (.lstore_n 2, 1) := by decide +kernel
theorem dX12_number_44 : decode cX12_number 44 = .ok (.iinc 4 1, 3) := by decide +kernel
theorem dX12_number_47 : decode cX12_number 47 = .ok (.goto (-39), 3) := by decide +kernel
theorem dX12_number_50 : decode cX12_number 50 = .ok (.iload_n 1, 1) := by decide +kernel
theorem dX12_number_51 : decode cX12_number 51 = .ok (.aload_n 0, 1) := by decide +kernel
theorem dX12_number_52 : decode cX12_number 52 = .ok (.getfield 472, 3) := by decide +kernel
theorem dX12_number_55 : decode cX12_number 55 = .ok (.isub, 1) := by decide +kernel
theorem dX12_number_56 : decode cX12_number 56 = .ok (.bipush 10, 2) := by decide +kernel
theorem dX12_number_58 : decode cX12_number 58 = .ok (.if_icmp .gt 11, 3) := by decide +kernel
theorem dX12_number_6 : decode cX12_number 6 = .ok (.istore 4, 2) := by decide +kernel
theorem dX12_number_61 : decode cX12_number 61 = .ok (.lload_n 2, 1) := by decide +kernel
theorem dX12_number_62 : decode cX12_number 62 = .ok (.ldc2_w 335, 3) := by decide +kernel
theorem dX12_number_65 : decode cX12_number 65 = .ok (.lcmp, 1) := by decide +kernel
theorem dX12_number_66 : decode cX12_number 66 = .ok (.ifCond .le 8, 3) := by decide +kernel
theorem dX12_number_69 : decode cX12_number 69 = .ok (.aload_n 0, 1) := by decide +kernel
theorem dX12_number_70 : decode cX12_number 70 = .ok (.iconst 1, 1) := by decide +kernel
theorem dX12_number_71 : decode cX12_number 71 = .ok (.invokevirtual 478, 3) := by decide +kernel
theorem dX12_number_74 : decode cX12_number 74 = .ok (.aload_n 0, 1) := by decide +kernel
theorem dX12_number_75 : decode cX12_number 75 = .ok (.getfield 469, 3) := by decide +kernel
theorem dX12_number_78 : decode cX12_number 78 = .ok (.ifCond .le 7, 3) := by decide +kernel
theorem dX12_number_8 : decode cX12_number 8 = .ok (.iload 4, 2) := by decide +kernel
theorem dX12_number_81 : decode cX12_number 81 = .ok (.iconst 0, 1) := by decide +kernel
theorem dX12_number_82 : decode cX12_number 82 = .ok (.goto 5, 3) := by decide +kernel
theorem dX12_number_85 : decode cX12_number 85 = .ok (.lload_n 2, 1) := by decide +kernel
theorem dX12_number_86 : decode cX12_number 86 = .ok (.l2i, 1) := by decide +kernel
theorem dX12_number_87 : decode cX12_number 87 = .ok (.ireturn, 1) := by decide +kernel
set_option maxHeartbeats 4000000 in
set_option maxRecDepth 100000 in
theorem T_X12_number (l : Launch) (D : va_G) (K : Nat → ClassId) (Z Y : Nat → Nat) (ad : Nat → Nat) (t : tSt) (hok : okM t) (x1 : Int32) (hx1 : (0 : Int) ≤ x1.toInt ∧ x1.toInt ≤ 81) (hs0 : 1 ≤ (t.1 0 68).toInt) : tMet l yX12_number cX12_number 5 (some .int) (rmD 8 0 0) D K Z Y [.ref (ad 0), .int x1] (WM K ad t) (QI D K (fun (r : Int32) (u : tSt) => okM u ∧ frA [(0, 70)] [] [] [] t u ∧ (-2147483648 : Int) ≤ r.toInt ∧ r.toInt ≤ 2147483647 ∧ ((u.1 0 70).toInt = 0 → (t.1 0 70).toInt = 0)) (fun (u : tSt) => WM K ad u)) 0 0 := by
  refine t_met RX12 ⟨rfl, by decide +kernel⟩ (Nat.le_of_ble_eq_true rfl) ?_
  intro p e s m below meth c A ls C hE hZ hr hlocks hA hP hD hS hl
  have hl : lv_has ls 5 [(0, .ref (ad 0)), (1, .int x1)] := hl
  have hokt := hok
  have hfr : frA [(0, 70)] [] [] [] t t := frA_rf
  have h_1 : (0 : Int) ≤ (t.1 0 67).toInt ∧ (t.1 0 67).toInt ≤ 1281 := hok.1 0 67
  have h_2 : (0 : Int) ≤ (t.1 0 68).toInt ∧ (t.1 0 68).toInt ≤ 81 := hok.1 0 68
  have h_3 : (0 : Int) ≤ (t.1 0 70).toInt ∧ (t.1 0 70).toInt ≤ 8 := hok.1 0 70
  have L_74 : ∀ (t1 : tSt) (w74_2 : Int64) (w74_4 : Int32) (H : Heap) (locs : List Loc) (ls : Array Slot), okM t1 → frA [(0, 70)] [] [] [] t t1 → (0 : Int) ≤ w74_4.toInt ∧ w74_4.toInt ≤ 81 → ((t1.1 0 70).toInt = 0 → (t.1 0 70).toInt = 0) → va_P D vwCl (WM K ad t1) H → va_D A (WM K ad t1) → va_S A s.heap H locs → lv_has ls 5 [(0, .ref (ad 0)), (1, .int x1), (2, .long w74_2), (4, .int w74_4)] → W p l e (rmD 8 0 0) s m [.ref (ad 0), .int x1].toArray below meth c H locs 0 0 (MQ below (QI D K (fun (r : Int32) (u : tSt) => okM u ∧ frA [(0, 70)] [] [] [] t u ∧ (-2147483648 : Int) ≤ r.toInt ∧ r.toInt ≤ 2147483647 ∧ ((u.1 0 70).toInt = 0 → (t.1 0 70).toInt = 0)) (fun (u : tSt) => WM K ad u) A) [.ref (ad 0), .int x1].toArray s 0 0 A) (F0 m 74 ls []) := by
    intro t1 w74_2 w74_4 H locs ls hok hfr hw74_4 hi74_0 hP hD hS hl
    have h_4 : (t1.1 0 67).toInt = (t.1 0 67).toInt := ti_eq (hfr.1 0 67 rfl)
    have h_5 : (t1.1 0 68).toInt = (t.1 0 68).toInt := ti_eq (hfr.1 0 68 rfl)
    have e_6 : t1.2.2.1 19 = t.2.2.1 19 := hfr.2.2.1 19 rfl
    have e_7 : t1.2.2.1 20 = t.2.2.1 20 := hfr.2.2.1 20 rfl
    have h_8 : (0 : Int) ≤ (t1.1 0 67).toInt ∧ (t1.1 0 67).toInt ≤ 1281 := hok.1 0 67
    have h_9 : (0 : Int) ≤ (t1.1 0 68).toInt ∧ (t1.1 0 68).toInt ≤ 81 := hok.1 0 68
    have h_10 : (0 : Int) ≤ (t1.1 0 70).toInt ∧ (t1.1 0 70).toInt ≤ 8 := hok.1 0 70
    refine lv_aload_n C.1 C.2.1 dX12_number_74 rfl (lv_at hl 0 rfl) ?_
    refine k_get (v := .int (t1.1 0 70)) C hP 0 rfl rfl inlX12 70 (by decide) m_29_13 rfl dX12_number_75 ?_
    refine lv_if_le (tgt := 85) C.1 C.2.1 dX12_number_78 (by decide) (fun c_11 => ?_) (fun c_11 => ?_)
    · replace c_11 : (t1.1 0 70).toInt ≤ 0 := i_le c_11
      refine lv_lload_n C.1 C.2.1 dX12_number_85 rfl (lv_at hl 2 rfl) ?_
      obtain ⟨v_12, e_13⟩ : ∃ z, z = (w74_2).toInt32 := ⟨_, rfl⟩
      refine lv_l2i (v := v_12) C.1 C.2.1 dX12_number_86 e_13.symm ?_
      exact g_iret C hr hlocks hP hD hS rfl t1 rfl ⟨hok, hfr, (i_rng _).1, (i_rng _).2, (show (t1.1 0 70).toInt = 0 → (t.1 0 70).toInt = 0 from by omega)⟩ (Nat.le_of_ble_eq_true rfl) (Nat.le_of_ble_eq_true rfl) dX12_number_87
    · replace c_11 : 0 < (t1.1 0 70).toInt := i_nle c_11
      refine lv_iconst (v := 0) C.1 C.2.1 dX12_number_81 (by decide) ?_
      refine lv_goto (tgt := 87) C.1 C.2.1 dX12_number_82 (by decide) ?_
      exact g_iret C hr hlocks hP hD hS rfl t1 rfl ⟨hok, hfr, (i_rng _).1, (i_rng _).2, (show (t1.1 0 70).toInt = 0 → (t.1 0 70).toInt = 0 from by omega)⟩ (Nat.le_of_ble_eq_true rfl) (Nat.le_of_ble_eq_true rfl) dX12_number_87
  have L_69 : ∀ (t1 : tSt) (w69_2 : Int64) (w69_4 : Int32) (H : Heap) (locs : List Loc) (ls : Array Slot), okM t1 → frA [(0, 70)] [] [] [] t t1 → (0 : Int) ≤ w69_4.toInt ∧ w69_4.toInt ≤ 81 → ((t1.1 0 70).toInt = (t.1 0 70).toInt) → va_P D vwCl (WM K ad t1) H → va_D A (WM K ad t1) → va_S A s.heap H locs → lv_has ls 5 [(0, .ref (ad 0)), (1, .int x1), (2, .long w69_2), (4, .int w69_4)] → W p l e (rmD 8 0 0) s m [.ref (ad 0), .int x1].toArray below meth c H locs 0 0 (MQ below (QI D K (fun (r : Int32) (u : tSt) => okM u ∧ frA [(0, 70)] [] [] [] t u ∧ (-2147483648 : Int) ≤ r.toInt ∧ r.toInt ≤ 2147483647 ∧ ((u.1 0 70).toInt = 0 → (t.1 0 70).toInt = 0)) (fun (u : tSt) => WM K ad u) A) [.ref (ad 0), .int x1].toArray s 0 0 A) (F0 m 69 ls []) := by
    intro t1 w69_2 w69_4 H locs ls hok hfr hw69_4 hi69_0 hP hD hS hl
    have h_14 : (t1.1 0 67).toInt = (t.1 0 67).toInt := ti_eq (hfr.1 0 67 rfl)
    have h_15 : (t1.1 0 68).toInt = (t.1 0 68).toInt := ti_eq (hfr.1 0 68 rfl)
    have e_16 : t1.2.2.1 19 = t.2.2.1 19 := hfr.2.2.1 19 rfl
    have e_17 : t1.2.2.1 20 = t.2.2.1 20 := hfr.2.2.1 20 rfl
    have h_18 : (0 : Int) ≤ (t1.1 0 67).toInt ∧ (t1.1 0 67).toInt ≤ 1281 := hok.1 0 67
    have h_19 : (0 : Int) ≤ (t1.1 0 68).toInt ∧ (t1.1 0 68).toInt ≤ 81 := hok.1 0 68
    have h_20 : (0 : Int) ≤ (t1.1 0 70).toInt ∧ (t1.1 0 70).toInt ≤ 8 := hok.1 0 70
    refine lv_aload_n C.1 C.2.1 dX12_number_69 rfl (lv_at hl 0 rfl) ?_
    refine lv_iconst (v := 1) C.1 C.2.1 dX12_number_70 (by decide) ?_
    have h_21 : (1 : Int32).toInt = 1 := rfl
    refine g_Vv (As := [.int 1]) (rest := []) C hP hD hS hA (T_X12_fail l D K Z Y ad t1 hok 1 (show (1 : Int) ≤ (1 : Int32).toInt ∧ (1 : Int32).toInt ≤ 8 from ⟨by decide, by decide⟩) (show 1 ≤ (1 : Int32).toInt from by omega)) hE hZ (uwV m_32_22 m_32_23 m_33_0 m_1_5 m_33_1) (hdV 1 (by decide +kernel) rfl) ⟨Nat.le_of_ble_eq_true rfl, Nat.le_of_ble_eq_true rfl⟩ rfl rfl (ci := 11) (q0 := 0) rfl rfl rfl hl.1 (Nat.le_of_ble_eq_true rfl) dX12_number_71 ⟨Nat.le_of_ble_eq_true rfl, Nat.le_of_ble_eq_true rfl⟩ (fun t_22 H locs hw hP hD hS => ?_)
    obtain ⟨hok, f_24, p_25⟩ := hw
    have hfr : frA [(0, 70)] [] [] [] t t_22 := frA_tr hfr f_24 rfl
    have h_26 : (t_22.1 0 67).toInt = (t1.1 0 67).toInt := ti_eq (f_24.1 0 67 rfl)
    have h_27 : (t_22.1 0 68).toInt = (t1.1 0 68).toInt := ti_eq (f_24.1 0 68 rfl)
    have e_28 : t_22.2.2.1 19 = t.2.2.1 19 := (f_24.2.2.1 19 rfl).trans (e_16)
    have e_29 : t_22.2.2.1 20 = t.2.2.1 20 := (f_24.2.2.1 20 rfl).trans (e_17)
    have h_30 : (0 : Int) ≤ (t_22.1 0 67).toInt ∧ (t_22.1 0 67).toInt ≤ 1281 := hok.1 0 67
    have h_31 : (0 : Int) ≤ (t_22.1 0 68).toInt ∧ (t_22.1 0 68).toInt ≤ 81 := hok.1 0 68
    have h_32 : (0 : Int) ≤ (t_22.1 0 70).toInt ∧ (t_22.1 0 70).toInt ≤ 8 := hok.1 0 70
    replace p_25 : 1 ≤ (t_22.1 0 70).toInt := p_25
    exact L_74 t_22 w69_2 w69_4 _ _ _ hok hfr ⟨by omega, by omega⟩ (show (t_22.1 0 70).toInt = 0 → (t.1 0 70).toInt = 0 from by omega) hP hD hS (lv_sub hl [0, 1, 2, 3] rfl)
  have L_8 : ∀ (fuel_8 : Nat) (t1 : tSt) (w8_2 : Int64) (w8_4 : Int32) (H : Heap) (locs : List Loc) (ls : Array Slot), okM t1 → frA [(0, 70)] [] [] [] t t1 → (0 : Int) ≤ w8_4.toInt ∧ w8_4.toInt ≤ 81 → ((t.1 0 68).toInt ≤ w8_4.toInt) → ((t1.1 0 70).toInt = (t.1 0 70).toInt) → (81 : Int) - w8_4.toInt < (fuel_8 : Int) → va_P D vwCl (WM K ad t1) H → va_D A (WM K ad t1) → va_S A s.heap H locs → lv_has ls 5 [(0, .ref (ad 0)), (1, .int x1), (2, .long w8_2), (4, .int w8_4)] → W p l e (rmD 8 0 0) s m [.ref (ad 0), .int x1].toArray below meth c H locs 0 0 (MQ below (QI D K (fun (r : Int32) (u : tSt) => okM u ∧ frA [(0, 70)] [] [] [] t u ∧ (-2147483648 : Int) ≤ r.toInt ∧ r.toInt ≤ 2147483647 ∧ ((u.1 0 70).toInt = 0 → (t.1 0 70).toInt = 0)) (fun (u : tSt) => WM K ad u) A) [.ref (ad 0), .int x1].toArray s 0 0 A) (F0 m 8 ls []) := by
    intro fuel_8
    induction fuel_8 with
    | zero =>
      intro t1 w8_2 w8_4 H locs ls hok hfr hw8_4 hi8_0 hi8_1 hm8_8 hP hD hS hl
      have h_33 : (t1.1 0 67).toInt = (t.1 0 67).toInt := ti_eq (hfr.1 0 67 rfl)
      have h_34 : (t1.1 0 68).toInt = (t.1 0 68).toInt := ti_eq (hfr.1 0 68 rfl)
      have e_35 : t1.2.2.1 19 = t.2.2.1 19 := hfr.2.2.1 19 rfl
      have e_36 : t1.2.2.1 20 = t.2.2.1 20 := hfr.2.2.1 20 rfl
      have h_37 : (0 : Int) ≤ (t1.1 0 67).toInt ∧ (t1.1 0 67).toInt ≤ 1281 := hok.1 0 67
      have h_38 : (0 : Int) ≤ (t1.1 0 68).toInt ∧ (t1.1 0 68).toInt ≤ 81 := hok.1 0 68
      have h_39 : (0 : Int) ≤ (t1.1 0 70).toInt ∧ (t1.1 0 70).toInt ≤ 8 := hok.1 0 70
      exact absurd hm8_8 (by omega)
    | succ fuel_8 ih_8 =>
      intro t1 w8_2 w8_4 H locs ls hok hfr hw8_4 hi8_0 hi8_1 hm8_8 hP hD hS hl
      have hm8_8 : (81 : Int) - w8_4.toInt < (fuel_8 : Int) + 1 := by omega
      have h_40 : (t1.1 0 67).toInt = (t.1 0 67).toInt := ti_eq (hfr.1 0 67 rfl)
      have h_41 : (t1.1 0 68).toInt = (t.1 0 68).toInt := ti_eq (hfr.1 0 68 rfl)
      have e_42 : t1.2.2.1 19 = t.2.2.1 19 := hfr.2.2.1 19 rfl
      have e_43 : t1.2.2.1 20 = t.2.2.1 20 := hfr.2.2.1 20 rfl
      have h_44 : (0 : Int) ≤ (t1.1 0 67).toInt ∧ (t1.1 0 67).toInt ≤ 1281 := hok.1 0 67
      have h_45 : (0 : Int) ≤ (t1.1 0 68).toInt ∧ (t1.1 0 68).toInt ≤ 81 := hok.1 0 68
      have h_46 : (0 : Int) ≤ (t1.1 0 70).toInt ∧ (t1.1 0 70).toInt ≤ 8 := hok.1 0 70
      have L_43 : ∀ (t1 : tSt) (w43_2 : Int64) (w43_4 : Int32) (k43_0 : Int64) (H : Heap) (locs : List Loc) (ls : Array Slot), okM t1 → frA [(0, 70)] [] [] [] t t1 → (1 : Int) ≤ x1.toInt ∧ x1.toInt ≤ 81 → (0 : Int) ≤ w43_4.toInt ∧ w43_4.toInt ≤ 80 → ((t.1 0 68).toInt ≤ w43_4.toInt) → (w43_4.toInt < x1.toInt) → ((t1.1 0 70).toInt = (t.1 0 70).toInt) → (81 : Int) - w43_4.toInt < (fuel_8 : Int) + 1 → va_P D vwCl (WM K ad t1) H → va_D A (WM K ad t1) → va_S A s.heap H locs → lv_has ls 5 [(0, .ref (ad 0)), (1, .int x1), (2, .long w43_2), (4, .int w43_4)] → W p l e (rmD 8 0 0) s m [.ref (ad 0), .int x1].toArray below meth c H locs 0 0 (MQ below (QI D K (fun (r : Int32) (u : tSt) => okM u ∧ frA [(0, 70)] [] [] [] t u ∧ (-2147483648 : Int) ≤ r.toInt ∧ r.toInt ≤ 2147483647 ∧ ((u.1 0 70).toInt = 0 → (t.1 0 70).toInt = 0)) (fun (u : tSt) => WM K ad u) A) [.ref (ad 0), .int x1].toArray s 0 0 A) (F0 m 43 ls [.long k43_0]) := by
        intro t1 w43_2 w43_4 k43_0 H locs ls hok hfr hx43_1 hw43_4 hi43_0 hi43_1 hi43_2 hm43_8 hP hD hS hl
        have h_47 : (t1.1 0 67).toInt = (t.1 0 67).toInt := ti_eq (hfr.1 0 67 rfl)
        have h_48 : (t1.1 0 68).toInt = (t.1 0 68).toInt := ti_eq (hfr.1 0 68 rfl)
        have e_49 : t1.2.2.1 19 = t.2.2.1 19 := hfr.2.2.1 19 rfl
        have e_50 : t1.2.2.1 20 = t.2.2.1 20 := hfr.2.2.1 20 rfl
        have h_51 : (0 : Int) ≤ (t1.1 0 67).toInt ∧ (t1.1 0 67).toInt ≤ 1281 := hok.1 0 67
        have h_52 : (0 : Int) ≤ (t1.1 0 68).toInt ∧ (t1.1 0 68).toInt ≤ 81 := hok.1 0 68
        have h_53 : (0 : Int) ≤ (t1.1 0 70).toInt ∧ (t1.1 0 70).toInt ≤ 8 := hok.1 0 70
        refine lv_lstore_n (lv' := [(2, .long k43_0), (0, .ref (ad 0)), (1, .int x1), (4, .int w43_4)]) C.1 C.2.1 dX12_number_43 rfl hl (by decide) rfl (fun ls hl => ?_)
        have hl : lv_has ls 5 [(0, .ref (ad 0)), (1, .int x1), (2, .long k43_0), (4, .int w43_4)] := lv_sub hl [1, 2, 0, 3] rfl
        obtain ⟨v_54, e_55⟩ : ∃ z, z = w43_4 + 1 := ⟨_, rfl⟩
        have h_56 : v_54.toInt = w43_4.toInt + 1 := by rw [e_55]; exact ti_iadd (by show (_ : Int) ≤ w43_4.toInt + 1; omega) (by show w43_4.toInt + 1 < (_ : Int); omega)
        refine lv_iinc (v := v_54) (lv' := [(4, .int v_54), (0, .ref (ad 0)), (1, .int x1), (2, .long k43_0)]) C.1 C.2.1 dX12_number_44 hl (k := 3) rfl e_55.symm (by decide) rfl (fun ls hl => ?_)
        have hl : lv_has ls 5 [(0, .ref (ad 0)), (1, .int x1), (2, .long k43_0), (4, .int v_54)] := lv_sub hl [1, 2, 3, 0] rfl
        refine lv_goto (tgt := 8) C.1 C.2.1 dX12_number_47 (by decide) ?_
        exact ih_8 t1 k43_0 v_54 _ _ _ hok hfr ⟨by omega, by omega⟩ (show (t.1 0 68).toInt ≤ v_54.toInt from by omega) (show (t1.1 0 70).toInt = (t.1 0 70).toInt from by omega) (show (81 : Int) - v_54.toInt < (fuel_8 : Int) from by omega) hP hD hS (lv_sub hl [0, 1, 2, 3] rfl)
      refine lv_iload C.1 C.2.1 dX12_number_8 (lv_at hl 3 rfl) ?_
      refine lv_iload_n C.1 C.2.1 dX12_number_10 rfl (lv_at hl 1 rfl) ?_
      refine lv_icmp_ge (tgt := 50) C.1 C.2.1 dX12_number_11 (by decide) (fun c_57 => ?_) (fun c_57 => ?_)
      · replace c_57 : x1.toInt ≤ w8_4.toInt := i_le c_57
        refine lv_iload_n C.1 C.2.1 dX12_number_50 rfl (lv_at hl 1 rfl) ?_
        refine lv_aload_n C.1 C.2.1 dX12_number_51 rfl (lv_at hl 0 rfl) ?_
        refine k_get (v := .int (t1.1 0 68)) C hP 0 rfl rfl inlX12 68 (by decide) m_31_6 rfl dX12_number_52 ?_
        obtain ⟨v_58, e_59⟩ : ∃ z, z = (x1 : Int32) - ((t1.1 0 68) : Int32) := ⟨_, rfl⟩
        have h_60 : v_58.toInt = x1.toInt - (t1.1 0 68).toInt := by rw [e_59]; exact ti_isub (by show (_ : Int) ≤ x1.toInt - (t1.1 0 68).toInt; omega) (by show x1.toInt - (t1.1 0 68).toInt < (_ : Int); omega)
        refine k_isub (v := v_58) C e_59.symm dX12_number_55 ?_
        refine lv_bipush (v := 10) C.1 C.2.1 dX12_number_56 (by decide) ?_
        refine lv_icmp_gt (tgt := 69) C.1 C.2.1 dX12_number_58 (by decide) (fun c_61 => ?_) (fun c_61 => ?_)
        · replace c_61 : 10 < v_58.toInt := i_lt c_61
          exact L_69 t1 w8_2 w8_4 _ _ _ hok hfr ⟨by omega, by omega⟩ (show (t1.1 0 70).toInt = (t.1 0 70).toInt from by omega) hP hD hS (lv_sub hl [0, 1, 2, 3] rfl)
        · replace c_61 : v_58.toInt ≤ 10 := i_nlt c_61
          refine lv_lload_n C.1 C.2.1 dX12_number_61 rfl (lv_at hl 2 rfl) ?_
          refine lv_ldc2 (v := 1073741823) C.1 C.2.1 C.2.2.2.1 (C.2.2.2.2.1 _ m_36_3) dX12_number_62 ?_
          obtain ⟨v_62, e_63⟩ : ∃ z, z = lg_cmp (w8_2 : Int64) 1073741823 := ⟨_, rfl⟩
          have h_64 : (-1 : Int) ≤ v_62.toInt ∧ v_62.toInt ≤ 1 := by rw [e_63]; exact cmp_rng _ _
          refine k_lcmp (v := v_62) C e_63.symm dX12_number_65 ?_
          refine lv_if_le (tgt := 74) C.1 C.2.1 dX12_number_66 (by decide) (fun c_65 => ?_) (fun c_65 => ?_)
          · replace c_65 : v_62.toInt ≤ 0 := i_le c_65
            exact L_74 t1 w8_2 w8_4 _ _ _ hok hfr ⟨by omega, by omega⟩ (show (t1.1 0 70).toInt = 0 → (t.1 0 70).toInt = 0 from by omega) hP hD hS (lv_sub hl [0, 1, 2, 3] rfl)
          · replace c_65 : 0 < v_62.toInt := i_nle c_65
            exact L_69 t1 w8_2 w8_4 _ _ _ hok hfr ⟨by omega, by omega⟩ (show (t1.1 0 70).toInt = (t.1 0 70).toInt from by omega) hP hD hS (lv_sub hl [0, 1, 2, 3] rfl)
      · replace c_57 : w8_4.toInt < x1.toInt := i_nle c_57
        refine lv_lload_n C.1 C.2.1 dX12_number_14 rfl (lv_at hl 2 rfl) ?_
        refine lv_ldc2 (v := 1073741823) C.1 C.2.1 C.2.2.2.1 (C.2.2.2.2.1 _ m_36_3) dX12_number_15 ?_
        obtain ⟨v_66, e_67⟩ : ∃ z, z = lg_cmp (w8_2 : Int64) 1073741823 := ⟨_, rfl⟩
        have h_68 : (-1 : Int) ≤ v_66.toInt ∧ v_66.toInt ≤ 1 := by rw [e_67]; exact cmp_rng _ _
        refine k_lcmp (v := v_66) C e_67.symm dX12_number_18 ?_
        refine lv_if_le (tgt := 26) C.1 C.2.1 dX12_number_19 (by decide) (fun c_69 => ?_) (fun c_69 => ?_)
        · replace c_69 : v_66.toInt ≤ 0 := i_le c_69
          refine lv_ldc2 (v := 10) C.1 C.2.1 C.2.2.2.1 (C.2.2.2.2.1 _ m_36_4) dX12_number_26 ?_
          refine lv_lload_n C.1 C.2.1 dX12_number_29 rfl (lv_at hl 2 rfl) ?_
          obtain ⟨v_70, e_71⟩ : ∃ z, z = (10 : Int64) * (w8_2 : Int64) := ⟨_, rfl⟩
          refine k_lmul (v := v_70) C e_71.symm dX12_number_30 ?_
          refine lv_aload_n C.1 C.2.1 dX12_number_31 rfl (lv_at hl 0 rfl) ?_
          refine lv_iload C.1 C.2.1 dX12_number_32 (lv_at hl 3 rfl) ?_
          refine g_Vi (As := [.int w8_4]) (rest := [.long v_70]) C hP hD hS hA (T_X12_letterAt l D K Z Y ad t1 hok (w8_4) (show (1 : Int) ≤ (w8_4 : Int32).toInt ∧ (w8_4 : Int32).toInt ≤ 100 from ⟨by omega, by omega⟩)) hE hZ (uwV m_31_8 m_31_9 m_31_10 m_1_5 m_31_11) (hdV 1 (by decide +kernel) rfl) ⟨Nat.le_of_ble_eq_true rfl, Nat.le_of_ble_eq_true rfl⟩ rfl rfl (ci := 11) (q0 := 0) rfl rfl rfl hl.1 (Nat.le_of_ble_eq_true rfl) dX12_number_34 ⟨Nat.le_of_ble_eq_true rfl, Nat.le_of_ble_eq_true rfl⟩ (fun r_73 t_72 H locs hw hP hD hS => ?_)
          obtain ⟨h_75, h_76, p_77, p_78, p_79, p_80⟩ := hw
          replace p_77 : r_73 = fLet t1 w8_4 := p_77
          replace p_78 : r_73.toInt = (fLet t1 w8_4).toInt := p_78
          replace p_79 : ¬ r_73.toInt = 32 → (t1.2.2.1 19 ((t1.1 0 67) : Int32).toNatClampNeg).toInt + w8_4.toInt ≤ (t1.2.2.1 20 ((t1.1 0 67) : Int32).toNatClampNeg).toInt := p_79
          have h_81 : (t1.2.2.1 19 ((t1.1 0 67) : Int32).toNatClampNeg).toInt = (t.2.2.1 19 ((t1.1 0 67) : Int32).toNatClampNeg).toInt := tb_eq e_42 _
          have h_82 : (t1.2.2.1 20 ((t1.1 0 67) : Int32).toNatClampNeg).toInt = (t.2.2.1 20 ((t1.1 0 67) : Int32).toNatClampNeg).toInt := tb_eq e_43 _
          replace p_80 : 81 ≤ w8_4.toInt → r_73.toInt = 32 := p_80
          obtain ⟨v_83, e_84⟩ : ∃ z, z = (r_73 : Int32).toInt64 := ⟨_, rfl⟩
          have h_85 : v_83.toInt = r_73.toInt := by rw [e_84]; exact Jvm.Kit.i64_of_i32 _
          refine lv_i2l (v := v_83) C.1 C.2.1 dX12_number_37 e_84.symm ?_
          obtain ⟨v_86, e_87⟩ : ∃ z, z = (v_70 : Int64) + (v_83 : Int64) := ⟨_, rfl⟩
          refine k_ladd (v := v_86) C e_87.symm dX12_number_38 ?_
          refine lv_ldc2 (v := 48) C.1 C.2.1 C.2.2.2.1 (C.2.2.2.2.1 _ m_36_5) dX12_number_39 ?_
          obtain ⟨v_88, e_89⟩ : ∃ z, z = (v_86 : Int64) - (48 : Int64) := ⟨_, rfl⟩
          refine k_lsub (v := v_88) C e_89.symm dX12_number_42 ?_
          exact L_43 t1 w8_2 w8_4 v_88 _ _ _ hok hfr ⟨by omega, by omega⟩ ⟨by omega, by omega⟩ (show (t.1 0 68).toInt ≤ w8_4.toInt from by omega) (show w8_4.toInt < x1.toInt from by omega) (show (t1.1 0 70).toInt = (t.1 0 70).toInt from by omega) (show (81 : Int) - w8_4.toInt < (fuel_8 : Int) + 1 from by omega) hP hD hS (lv_sub hl [0, 1, 2, 3] rfl)
        · replace c_69 : 0 < v_66.toInt := i_nle c_69
          refine lv_lload_n C.1 C.2.1 dX12_number_22 rfl (lv_at hl 2 rfl) ?_
          refine lv_goto (tgt := 43) C.1 C.2.1 dX12_number_23 (by decide) ?_
          exact L_43 t1 w8_2 w8_4 w8_2 _ _ _ hok hfr ⟨by omega, by omega⟩ ⟨by omega, by omega⟩ (show (t.1 0 68).toInt ≤ w8_4.toInt from by omega) (show w8_4.toInt < x1.toInt from by omega) (show (t1.1 0 70).toInt = (t.1 0 70).toInt from by omega) (show (81 : Int) - w8_4.toInt < (fuel_8 : Int) + 1 from by omega) hP hD hS (lv_sub hl [0, 1, 2, 3] rfl)
  refine lv_lconst (v := 0) C.1 C.2.1 dX12_number_0 (by decide) ?_
  refine lv_lstore_n (lv' := [(2, .long 0), (0, .ref (ad 0)), (1, .int x1)]) C.1 C.2.1 dX12_number_1 rfl hl (by decide) rfl (fun ls hl => ?_)
  have hl : lv_has ls 5 [(0, .ref (ad 0)), (1, .int x1), (2, .long 0)] := lv_sub hl [1, 2, 0] rfl
  refine lv_aload_n C.1 C.2.1 dX12_number_2 rfl (lv_at hl 0 rfl) ?_
  refine k_get (v := .int (t.1 0 68)) C hP 0 rfl rfl inlX12 68 (by decide) m_31_6 rfl dX12_number_3 ?_
  refine lv_istore (lv' := [(4, .int (t.1 0 68)), (0, .ref (ad 0)), (1, .int x1), (2, .long 0)]) C.1 C.2.1 dX12_number_6 hl (by decide) rfl (fun ls hl => ?_)
  have hl : lv_has ls 5 [(0, .ref (ad 0)), (1, .int x1), (2, .long 0), (4, .int (t.1 0 68))] := lv_sub hl [1, 2, 3, 0] rfl
  exact L_8 82 t 0 (t.1 0 68) _ _ _ hok hfr ⟨by omega, by omega⟩ (show (t.1 0 68).toInt ≤ (t.1 0 68).toInt from by omega) (show (t.1 0 70).toInt = (t.1 0 70).toInt from by omega) (show (81 : Int) - (t.1 0 68).toInt < ((82 : Nat) : Int) from by omega) hP hD hS (lv_sub hl [0, 1, 2, 3] rfl)

theorem dX12_jump_0 : decode cX12_jump 0 = .ok (.aload_n 0, 1) := by decide +kernel
theorem dX12_jump_1 : decode cX12_jump 1 = .ok (.invokevirtual 332, 3) := by decide +kernel
theorem dX12_jump_11 : decode cX12_jump 11 = .ok (.if_icmp .ne 24, 3) := by decide +kernel
theorem dX12_jump_14 : decode cX12_jump 14 = .ok (.aload_n 0, 1) := by decide +kernel
theorem dX12_jump_15 : decode cX12_jump 15 = .ok (.getfield 289, 3) := by decide +kernel
theorem dX12_jump_18 : decode cX12_jump 18 = .ok (.iconst 2, 1) := by decide +kernel
theorem dX12_jump_19 : decode cX12_jump 19 = .ok (.if_icmp .eq 11, 3) := by decide +kernel
theorem dX12_jump_22 : decode cX12_jump 22 = .ok (.aload_n 0, 1) := by decide +kernel
theorem dX12_jump_23 : decode cX12_jump 23 = .ok (.getfield 289, 3) := by decide +kernel
theorem dX12_jump_26 : decode cX12_jump 26 = .ok (.iconst 3, 1) := by decide +kernel
theorem dX12_jump_27 : decode cX12_jump 27 = .ok (.if_icmp .ne 8, 3) := by decide +kernel
theorem dX12_jump_30 : decode cX12_jump 30 = .ok (.aload_n 0, 1) := by decide +kernel
theorem dX12_jump_31 : decode cX12_jump 31 = .ok (.iconst 0, 1) := by decide +kernel
theorem dX12_jump_32 : decode cX12_jump 32 = .ok (.putfield 314, 3) := by decide +kernel
theorem dX12_jump_35 : decode cX12_jump 35 = .ok (.iload_n 1, 1) := by decide +kernel
theorem dX12_jump_36 : decode cX12_jump 36 = .ok (.ifCond .ne 14, 3) := by decide +kernel
theorem dX12_jump_39 : decode cX12_jump 39 = .ok (.aload_n 0, 1) := by decide +kernel
theorem dX12_jump_4 : decode cX12_jump 4 = .ok (.istore_n 1, 1) := by decide +kernel
theorem dX12_jump_40 : decode cX12_jump 40 = .ok (.dup, 1) := by decide +kernel
theorem dX12_jump_41 : decode cX12_jump 41 = .ok (.getfield 378, 3) := by decide +kernel
theorem dX12_jump_44 : decode cX12_jump 44 = .ok (.iconst 1, 1) := by decide +kernel
theorem dX12_jump_45 : decode cX12_jump 45 = .ok (.iadd, 1) := by decide +kernel
theorem dX12_jump_46 : decode cX12_jump 46 = .ok (.putfield 378, 3) := by decide +kernel
theorem dX12_jump_49 : decode cX12_jump 49 = .ok (.return_, 1) := by decide +kernel
theorem dX12_jump_5 : decode cX12_jump 5 = .ok (.aload_n 0, 1) := by decide +kernel
theorem dX12_jump_50 : decode cX12_jump 50 = .ok (.aload_n 0, 1) := by decide +kernel
theorem dX12_jump_51 : decode cX12_jump 51 = .ok (.getfield 282, 3) := by decide +kernel
theorem dX12_jump_54 : decode cX12_jump 54 = .ok (.bipush 39, 2) := by decide +kernel
theorem dX12_jump_56 : decode cX12_jump 56 = .ok (.if_icmp .ne 11, 3) := by decide +kernel
theorem dX12_jump_59 : decode cX12_jump 59 = .ok (.aload_n 0, 1) := by decide +kernel
theorem dX12_jump_6 : decode cX12_jump 6 = .ok (.getfield 282, 3) := by decide +kernel
theorem dX12_jump_60 : decode cX12_jump 60 = .ok (.getfield 289, 3) := by decide +kernel
theorem dX12_jump_63 : decode cX12_jump 63 = .ok (.iconst 1, 1) := by decide +kernel
theorem dX12_jump_64 : decode cX12_jump 64 = .ok (.if_icmp .eq 20, 3) := by decide +kernel
theorem dX12_jump_67 : decode cX12_jump 67 = .ok (.aload_n 0, 1) := by decide +kernel
theorem dX12_jump_68 : decode cX12_jump 68 = .ok (.getfield 17, 3) := by decide +kernel
theorem dX12_jump_71 : decode cX12_jump 71 = .ok (.bipush 8, 2) := by decide +kernel
theorem dX12_jump_73 : decode cX12_jump 73 = .ok (.aload_n 0, 1) := by decide +kernel
theorem dX12_jump_74 : decode cX12_jump 74 = .ok (.getfield 378, 3) := by decide +kernel
theorem dX12_jump_77 : decode cX12_jump 77 = .ok (.iconst 1, 1) := by decide +kernel
theorem dX12_jump_78 : decode cX12_jump 78 = .ok (.iadd, 1) := by decide +kernel
theorem dX12_jump_79 : decode cX12_jump 79 = .ok (.i2l, 1) := by decide +kernel
theorem dX12_jump_80 : decode cX12_jump 80 = .ok (.invokestatic 342, 3) := by decide +kernel
theorem dX12_jump_83 : decode cX12_jump 83 = .ok (.iastore, 1) := by decide +kernel
theorem dX12_jump_84 : decode cX12_jump 84 = .ok (.aload_n 0, 1) := by decide +kernel
theorem dX12_jump_85 : decode cX12_jump 85 = .ok (.aload_n 0, 1) := by decide +kernel
theorem dX12_jump_86 : decode cX12_jump 86 = .ok (.getfield 251, 3) := by decide +kernel
theorem dX12_jump_89 : decode cX12_jump 89 = .ok (.putfield 378, 3) := by decide +kernel
theorem dX12_jump_9 : decode cX12_jump 9 = .ok (.bipush 39, 2) := by decide +kernel
theorem dX12_jump_92 : decode cX12_jump 92 = .ok (.return_, 1) := by decide +kernel
set_option maxHeartbeats 4000000 in
set_option maxRecDepth 100000 in
theorem T_X12_jump (l : Launch) (D : va_G) (K : Nat → ClassId) (Z Y : Nat → Nat) (ad : Nat → Nat) (t : tSt) (hok : okM t) (hs0 : (t.1 0 16).toInt = 34 ∨ (t.1 0 16).toInt = 38 → (t.1 0 17).toInt ≤ 19) : tMet l yX12_jump cX12_jump 2 none (rmD 2 0 0) D K Z Y [.ref (ad 0)] (WM K ad t) (QV D K (fun (u : tSt) => okM u ∧ frA [(0, 5), (0, 7)] [] [3] [] t u) (fun (u : tSt) => WM K ad u)) 0 0 := by
  refine t_met RX12 ⟨rfl, by decide +kernel⟩ (Nat.le_of_ble_eq_true rfl) ?_
  intro p e s m below meth c A ls C hE hZ hr hlocks hA hP hD hS hl
  have hl : lv_has ls 2 [(0, .ref (ad 0))] := hl
  have hokt := hok
  have hfr : frA [(0, 5), (0, 7)] [] [3] [] t t := frA_rf
  have h_1 : (0 : Int) ≤ (t.1 0 16).toInt ∧ (t.1 0 16).toInt ≤ 63 := hok.1 0 16
  have h_2 : (0 : Int) ≤ (t.1 0 17).toInt ∧ (t.1 0 17).toInt ≤ 63 := hok.1 0 17
  have L_84 : ∀ (t1 : tSt) (w84_1 : Int32) (H : Heap) (locs : List Loc) (ls : Array Slot), okM t1 → frA [(0, 5), (0, 7)] [] [3] [] t t1 → (1 : Int) ≤ w84_1.toInt ∧ w84_1.toInt ≤ 1 → va_P D vwCl (WM K ad t1) H → va_D A (WM K ad t1) → va_S A s.heap H locs → lv_has ls 2 [(0, .ref (ad 0)), (1, .int w84_1)] → W p l e (rmD 2 0 0) s m [.ref (ad 0)].toArray below meth c H locs 0 0 (MQ below (QV D K (fun (u : tSt) => okM u ∧ frA [(0, 5), (0, 7)] [] [3] [] t u) (fun (u : tSt) => WM K ad u) A) [.ref (ad 0)].toArray s 0 0 A) (F0 m 84 ls []) := by
    intro t1 w84_1 H locs ls hok hfr hw84_1 hP hD hS hl
    have h_3 : (t1.1 0 16).toInt = (t.1 0 16).toInt := ti_eq (hfr.1 0 16 rfl)
    have h_4 : (t1.1 0 17).toInt = (t.1 0 17).toInt := ti_eq (hfr.1 0 17 rfl)
    have h_5 : (0 : Int) ≤ (t1.1 0 16).toInt ∧ (t1.1 0 16).toInt ≤ 63 := hok.1 0 16
    have h_6 : (0 : Int) ≤ (t1.1 0 17).toInt ∧ (t1.1 0 17).toInt ≤ 63 := hok.1 0 17
    refine lv_aload_n C.1 C.2.1 dX12_jump_84 rfl (lv_at hl 0 rfl) ?_
    refine lv_aload_n C.1 C.2.1 dX12_jump_85 rfl (lv_at hl 0 rfl) ?_
    refine k_get (v := .int (t1.1 0 18)) C hP 0 rfl rfl inlX12 18 (by decide) m_57_5 rfl dX12_jump_86 ?_
    refine k_put (ws' := WM K ad (uI t1 0 7 (t1.1 0 18))) (v := .int (t1.1 0 18)) C hP hD hS 0 rfl rfl inlX12 tyX12_ok nmX12 7 (by decide) m_29_22 rfl rfl rfl rfl rfl dX12_jump_89 (fun H locs hP hD hS => ?_)
    have hok : okM (uI t1 0 7 (t1.1 0 18)) := ⟨okI_I hok.1 0 7 (t1.1 0 18) (show (-2147483648 : Int) ≤ ((t1.1 0 18) : Int32).toInt ∧ ((t1.1 0 18) : Int32).toInt ≤ 2147483647 from (i_rng _)), hok.2.1, hok.2.2.1, hok.2.2.2.1, hok.2.2.2.2.1, hok.2.2.2.2.2.1, hok.2.2.2.2.2.2.1, trivial⟩
    have hfr : frA [(0, 5), (0, 7)] [] [3] [] t (uI t1 0 7 (t1.1 0 18)) := frA_I hfr 0 7 _ rfl
    exact g_vret C hr hlocks hP hD hS (uI t1 0 7 (t1.1 0 18)) rfl ⟨hok, hfr⟩ (Nat.le_of_ble_eq_true rfl) (Nat.le_of_ble_eq_true rfl) dX12_jump_92
  have L_67 : ∀ (t1 : tSt) (w67_1 : Int32) (H : Heap) (locs : List Loc) (ls : Array Slot), okM t1 → frA [(0, 5), (0, 7)] [] [3] [] t t1 → (1 : Int) ≤ w67_1.toInt ∧ w67_1.toInt ≤ 1 → va_P D vwCl (WM K ad t1) H → va_D A (WM K ad t1) → va_S A s.heap H locs → lv_has ls 2 [(0, .ref (ad 0)), (1, .int w67_1)] → W p l e (rmD 2 0 0) s m [.ref (ad 0)].toArray below meth c H locs 0 0 (MQ below (QV D K (fun (u : tSt) => okM u ∧ frA [(0, 5), (0, 7)] [] [3] [] t u) (fun (u : tSt) => WM K ad u) A) [.ref (ad 0)].toArray s 0 0 A) (F0 m 67 ls []) := by
    intro t1 w67_1 H locs ls hok hfr hw67_1 hP hD hS hl
    have h_7 : (t1.1 0 16).toInt = (t.1 0 16).toInt := ti_eq (hfr.1 0 16 rfl)
    have h_8 : (t1.1 0 17).toInt = (t.1 0 17).toInt := ti_eq (hfr.1 0 17 rfl)
    have h_9 : (0 : Int) ≤ (t1.1 0 16).toInt ∧ (t1.1 0 16).toInt ≤ 63 := hok.1 0 16
    have h_10 : (0 : Int) ≤ (t1.1 0 17).toInt ∧ (t1.1 0 17).toInt ≤ 63 := hok.1 0 17
    refine lv_aload_n C.1 C.2.1 dX12_jump_67 rfl (lv_at hl 0 rfl) ?_
    refine k_get (v := .ref (ad 3)) C hP 0 rfl rfl inlX12 4 (by decide) m_7_6 rfl dX12_jump_68 ?_
    refine lv_bipush (v := 8) C.1 C.2.1 dX12_jump_71 (by decide) ?_
    refine lv_aload_n C.1 C.2.1 dX12_jump_73 rfl (lv_at hl 0 rfl) ?_
    refine k_get (v := .int (t1.1 0 7)) C hP 0 rfl rfl inlX12 7 (by decide) m_29_22 rfl dX12_jump_74 ?_
    refine lv_iconst (v := 1) C.1 C.2.1 dX12_jump_77 (by decide) ?_
    obtain ⟨v_11, e_12⟩ : ∃ z, z = ((t1.1 0 7) : Int32) + (1 : Int32) := ⟨_, rfl⟩
    refine k_iadd (v := v_11) C e_12.symm dX12_jump_78 ?_
    obtain ⟨v_14, e_15⟩ : ∃ z, z = (v_11 : Int32).toInt64 := ⟨_, rfl⟩
    have h_16 : v_14.toInt = v_11.toInt := by rw [e_15]; exact Jvm.Kit.i64_of_i32 _
    have h_17 := i_rng v_11
    refine lv_i2l (v := v_14) C.1 C.2.1 dX12_jump_79 e_15.symm ?_
    refine g_Si (As := [.long v_14]) (rest := [.int 8, .ref (ad 3)]) C hP hD hS hA (T_X12_wordOf l D K Z Y ad t1 hok (v_14)) hE hZ (uwS m_35_4 m_35_5 m_1_5 m_35_6) (hdS 1 (by decide +kernel) rfl) ⟨Nat.le_of_ble_eq_true rfl, Nat.le_of_ble_eq_true rfl⟩ rfl rfl rfl hl.1 (Nat.le_of_ble_eq_true rfl) dX12_jump_80 ⟨Nat.le_of_ble_eq_true rfl, Nat.le_of_ble_eq_true rfl⟩ (fun r_19 t_18 H locs hw hP hD hS => ?_)
    obtain ⟨h_21, h_22⟩ := hw
    refine k_ist (ws' := WM K ad (uB t1 3 (8 : Int32).toNatClampNeg r_19)) (x' := r_19) C hP hD hS 3 rfl (vin (by decide)) rfl rfl rfl dX12_jump_83 (fun H locs hP hD hS => ?_)
    have hok : okM (uB t1 3 (8 : Int32).toNatClampNeg r_19) := ⟨hok.1, okB_B hok.2.1 3 _ r_19 (show (-2147483648 : Int) ≤ (r_19 : Int32).toInt ∧ (r_19 : Int32).toInt ≤ 2147483647 from (i_rng _)), hok.2.2.1, hok.2.2.2.1, hok.2.2.2.2.1, hok.2.2.2.2.2.1, hok.2.2.2.2.2.2.1, trivial⟩
    have hfr : frA [(0, 5), (0, 7)] [] [3] [] t (uB t1 3 (8 : Int32).toNatClampNeg r_19) := frA_B hfr 3 _ _ rfl
    exact L_84 (uB t1 3 (8 : Int32).toNatClampNeg r_19) w67_1 _ _ _ hok hfr ⟨by omega, by omega⟩ hP hD hS (lv_sub hl [0, 1] rfl)
  have L_35 : ∀ (t1 : tSt) (w35_1 : Int32) (H : Heap) (locs : List Loc) (ls : Array Slot), okM t1 → frA [(0, 5), (0, 7)] [] [3] [] t t1 → (0 : Int) ≤ w35_1.toInt ∧ w35_1.toInt ≤ 1 → va_P D vwCl (WM K ad t1) H → va_D A (WM K ad t1) → va_S A s.heap H locs → lv_has ls 2 [(0, .ref (ad 0)), (1, .int w35_1)] → W p l e (rmD 2 0 0) s m [.ref (ad 0)].toArray below meth c H locs 0 0 (MQ below (QV D K (fun (u : tSt) => okM u ∧ frA [(0, 5), (0, 7)] [] [3] [] t u) (fun (u : tSt) => WM K ad u) A) [.ref (ad 0)].toArray s 0 0 A) (F0 m 35 ls []) := by
    intro t1 w35_1 H locs ls hok hfr hw35_1 hP hD hS hl
    have h_23 : (t1.1 0 16).toInt = (t.1 0 16).toInt := ti_eq (hfr.1 0 16 rfl)
    have h_24 : (t1.1 0 17).toInt = (t.1 0 17).toInt := ti_eq (hfr.1 0 17 rfl)
    have h_25 : (0 : Int) ≤ (t1.1 0 16).toInt ∧ (t1.1 0 16).toInt ≤ 63 := hok.1 0 16
    have h_26 : (0 : Int) ≤ (t1.1 0 17).toInt ∧ (t1.1 0 17).toInt ≤ 63 := hok.1 0 17
    refine lv_iload_n C.1 C.2.1 dX12_jump_35 rfl (lv_at hl 1 rfl) ?_
    refine lv_if_ne (tgt := 50) C.1 C.2.1 dX12_jump_36 (by decide) (fun c_27 => ?_) (fun c_27 => ?_)
    · replace c_27 : ¬ w35_1.toInt = 0 := i_ne c_27
      refine lv_aload_n C.1 C.2.1 dX12_jump_50 rfl (lv_at hl 0 rfl) ?_
      refine k_get (v := .int (t1.1 0 16)) C hP 0 rfl rfl inlX12 16 (by decide) m_57_3 rfl dX12_jump_51 ?_
      refine lv_bipush (v := 39) C.1 C.2.1 dX12_jump_54 (by decide) ?_
      refine lv_icmp_ne (tgt := 67) C.1 C.2.1 dX12_jump_56 (by decide) (fun c_28 => ?_) (fun c_28 => ?_)
      · replace c_28 : ¬ (t1.1 0 16).toInt = 39 := i_ne c_28
        exact L_67 t1 w35_1 _ _ _ hok hfr ⟨by omega, by omega⟩ hP hD hS (lv_sub hl [0, 1] rfl)
      · replace c_28 : (t1.1 0 16).toInt = 39 := i_eq c_28
        refine lv_aload_n C.1 C.2.1 dX12_jump_59 rfl (lv_at hl 0 rfl) ?_
        refine k_get (v := .int (t1.1 0 17)) C hP 0 rfl rfl inlX12 17 (by decide) m_57_4 rfl dX12_jump_60 ?_
        refine lv_iconst (v := 1) C.1 C.2.1 dX12_jump_63 (by decide) ?_
        refine lv_icmp_eq (tgt := 84) C.1 C.2.1 dX12_jump_64 (by decide) (fun c_29 => ?_) (fun c_29 => ?_)
        · replace c_29 : (t1.1 0 17).toInt = 1 := i_eq c_29
          exact L_84 t1 w35_1 _ _ _ hok hfr ⟨by omega, by omega⟩ hP hD hS (lv_sub hl [0, 1] rfl)
        · replace c_29 : ¬ (t1.1 0 17).toInt = 1 := i_ne c_29
          exact L_67 t1 w35_1 _ _ _ hok hfr ⟨by omega, by omega⟩ hP hD hS (lv_sub hl [0, 1] rfl)
    · replace c_27 : w35_1.toInt = 0 := i_eq c_27
      refine lv_aload_n C.1 C.2.1 dX12_jump_39 rfl (lv_at hl 0 rfl) ?_
      refine lv_dup C.1 C.2.1 dX12_jump_40 rfl ?_
      refine k_get (v := .int (t1.1 0 7)) C hP 0 rfl rfl inlX12 7 (by decide) m_29_22 rfl dX12_jump_41 ?_
      refine lv_iconst (v := 1) C.1 C.2.1 dX12_jump_44 (by decide) ?_
      obtain ⟨v_30, e_31⟩ : ∃ z, z = ((t1.1 0 7) : Int32) + (1 : Int32) := ⟨_, rfl⟩
      refine k_iadd (v := v_30) C e_31.symm dX12_jump_45 ?_
      refine k_put (ws' := WM K ad (uI t1 0 7 v_30)) (v := .int v_30) C hP hD hS 0 rfl rfl inlX12 tyX12_ok nmX12 7 (by decide) m_29_22 rfl rfl rfl rfl rfl dX12_jump_46 (fun H locs hP hD hS => ?_)
      have hok : okM (uI t1 0 7 v_30) := ⟨okI_I hok.1 0 7 v_30 (show (-2147483648 : Int) ≤ (v_30 : Int32).toInt ∧ (v_30 : Int32).toInt ≤ 2147483647 from (i_rng _)), hok.2.1, hok.2.2.1, hok.2.2.2.1, hok.2.2.2.2.1, hok.2.2.2.2.2.1, hok.2.2.2.2.2.2.1, trivial⟩
      have hfr : frA [(0, 5), (0, 7)] [] [3] [] t (uI t1 0 7 v_30) := frA_I hfr 0 7 _ rfl
      exact g_vret C hr hlocks hP hD hS (uI t1 0 7 v_30) rfl ⟨hok, hfr⟩ (Nat.le_of_ble_eq_true rfl) (Nat.le_of_ble_eq_true rfl) dX12_jump_49
  have L_30 : ∀ (t1 : tSt) (w30_1 : Int32) (H : Heap) (locs : List Loc) (ls : Array Slot), okM t1 → frA [(0, 5), (0, 7)] [] [3] [] t t1 → (0 : Int) ≤ w30_1.toInt ∧ w30_1.toInt ≤ 1 → (39 : Int) ≤ (t1.1 0 16).toInt ∧ (t1.1 0 16).toInt ≤ 39 → (2 : Int) ≤ (t1.1 0 17).toInt ∧ (t1.1 0 17).toInt ≤ 3 → va_P D vwCl (WM K ad t1) H → va_D A (WM K ad t1) → va_S A s.heap H locs → lv_has ls 2 [(0, .ref (ad 0)), (1, .int w30_1)] → W p l e (rmD 2 0 0) s m [.ref (ad 0)].toArray below meth c H locs 0 0 (MQ below (QV D K (fun (u : tSt) => okM u ∧ frA [(0, 5), (0, 7)] [] [3] [] t u) (fun (u : tSt) => WM K ad u) A) [.ref (ad 0)].toArray s 0 0 A) (F0 m 30 ls []) := by
    intro t1 w30_1 H locs ls hok hfr hw30_1 hf30_16 hf30_17 hP hD hS hl
    have h_33 : (t1.1 0 16).toInt = (t.1 0 16).toInt := ti_eq (hfr.1 0 16 rfl)
    have h_34 : (t1.1 0 17).toInt = (t.1 0 17).toInt := ti_eq (hfr.1 0 17 rfl)
    refine lv_aload_n C.1 C.2.1 dX12_jump_30 rfl (lv_at hl 0 rfl) ?_
    refine lv_iconst (v := 0) C.1 C.2.1 dX12_jump_31 (by decide) ?_
    refine k_put (ws' := WM K ad (uI t1 0 5 0)) (v := .int 0) C hP hD hS 0 rfl rfl inlX12 tyX12_ok nmX12 5 (by decide) m_29_21 rfl (by decide) (by decide) rfl rfl dX12_jump_32 (fun H locs hP hD hS => ?_)
    have hok : okM (uI t1 0 5 0) := ⟨okI_I hok.1 0 5 0 (show (0 : Int) ≤ (0 : Int32).toInt ∧ (0 : Int32).toInt ≤ 1 from ⟨by decide, by decide⟩), hok.2.1, hok.2.2.1, hok.2.2.2.1, hok.2.2.2.2.1, hok.2.2.2.2.2.1, hok.2.2.2.2.2.2.1, trivial⟩
    have hfr : frA [(0, 5), (0, 7)] [] [3] [] t (uI t1 0 5 0) := frA_I hfr 0 5 _ rfl
    exact L_35 (uI t1 0 5 0) w30_1 _ _ _ hok hfr ⟨by omega, by omega⟩ hP hD hS (lv_sub hl [0, 1] rfl)
  refine lv_aload_n C.1 C.2.1 dX12_jump_0 rfl (lv_at hl 0 rfl) ?_
  refine g_Vi (As := []) (rest := []) C hP hD hS hA (T_X12_jumps l D K Z Y ad t hok (show (t.1 0 16).toInt = 34 ∨ (t.1 0 16).toInt = 38 → (t.1 0 17).toInt ≤ 19 from by omega)) hE hZ (uwV m_59_4 m_59_5 m_59_6 m_1_5 m_59_7) (hdV 0 (by decide +kernel) rfl) ⟨Nat.le_of_ble_eq_true rfl, Nat.le_of_ble_eq_true rfl⟩ rfl rfl (ci := 11) (q0 := 0) rfl rfl rfl hl.1 (Nat.le_of_ble_eq_true rfl) dX12_jump_1 ⟨Nat.le_of_ble_eq_true rfl, Nat.le_of_ble_eq_true rfl⟩ (fun r_36 t_35 H locs hw hP hD hS => ?_)
  obtain ⟨h_38, h_39⟩ := hw
  refine lv_istore_n (lv' := [(1, .int r_36), (0, .ref (ad 0))]) C.1 C.2.1 dX12_jump_4 rfl hl (by decide) rfl (fun ls hl => ?_)
  have hl : lv_has ls 2 [(0, .ref (ad 0)), (1, .int r_36)] := lv_sub hl [1, 0] rfl
  refine lv_aload_n C.1 C.2.1 dX12_jump_5 rfl (lv_at hl 0 rfl) ?_
  refine k_get (v := .int (t.1 0 16)) C hP 0 rfl rfl inlX12 16 (by decide) m_57_3 rfl dX12_jump_6 ?_
  refine lv_bipush (v := 39) C.1 C.2.1 dX12_jump_9 (by decide) ?_
  refine lv_icmp_ne (tgt := 35) C.1 C.2.1 dX12_jump_11 (by decide) (fun c_40 => ?_) (fun c_40 => ?_)
  · replace c_40 : ¬ (t.1 0 16).toInt = 39 := i_ne c_40
    exact L_35 t r_36 _ _ _ hok hfr ⟨by omega, by omega⟩ hP hD hS (lv_sub hl [0, 1] rfl)
  · replace c_40 : (t.1 0 16).toInt = 39 := i_eq c_40
    refine lv_aload_n C.1 C.2.1 dX12_jump_14 rfl (lv_at hl 0 rfl) ?_
    refine k_get (v := .int (t.1 0 17)) C hP 0 rfl rfl inlX12 17 (by decide) m_57_4 rfl dX12_jump_15 ?_
    refine lv_iconst (v := 2) C.1 C.2.1 dX12_jump_18 (by decide) ?_
    refine lv_icmp_eq (tgt := 30) C.1 C.2.1 dX12_jump_19 (by decide) (fun c_41 => ?_) (fun c_41 => ?_)
    · replace c_41 : (t.1 0 17).toInt = 2 := i_eq c_41
      exact L_30 t r_36 _ _ _ hok hfr ⟨by omega, by omega⟩ (show (39 : Int) ≤ ((t.1 0 16) : Int32).toInt ∧ ((t.1 0 16) : Int32).toInt ≤ 39 from ⟨by omega, by omega⟩) (show (2 : Int) ≤ ((t.1 0 17) : Int32).toInt ∧ ((t.1 0 17) : Int32).toInt ≤ 3 from ⟨by omega, by omega⟩) hP hD hS (lv_sub hl [0, 1] rfl)
    · replace c_41 : ¬ (t.1 0 17).toInt = 2 := i_ne c_41
      refine lv_aload_n C.1 C.2.1 dX12_jump_22 rfl (lv_at hl 0 rfl) ?_
      refine k_get (v := .int (t.1 0 17)) C hP 0 rfl rfl inlX12 17 (by decide) m_57_4 rfl dX12_jump_23 ?_
      refine lv_iconst (v := 3) C.1 C.2.1 dX12_jump_26 (by decide) ?_
      refine lv_icmp_ne (tgt := 35) C.1 C.2.1 dX12_jump_27 (by decide) (fun c_42 => ?_) (fun c_42 => ?_)
      · replace c_42 : ¬ (t.1 0 17).toInt = 3 := i_ne c_42
        exact L_35 t r_36 _ _ _ hok hfr ⟨by omega, by omega⟩ hP hD hS (lv_sub hl [0, 1] rfl)
      · replace c_42 : (t.1 0 17).toInt = 3 := i_eq c_42
        exact L_30 t r_36 _ _ _ hok hfr ⟨by omega, by omega⟩ (show (39 : Int) ≤ ((t.1 0 16) : Int32).toInt ∧ ((t.1 0 16) : Int32).toInt ≤ 39 from ⟨by omega, by omega⟩) (show (2 : Int) ≤ ((t.1 0 17) : Int32).toInt ∧ ((t.1 0 17) : Int32).toInt ≤ 3 from ⟨by omega, by omega⟩) hP hD hS (lv_sub hl [0, 1] rfl)

theorem dX12_operate_0 : decode cX12_operate 0 = .ok (.iload_n 1, 1) := by decide +kernel
theorem dX12_operate_1 : decode cX12_operate 1 = .ok (.bipush 35, 2) := by decide +kernel
theorem dX12_operate_100 : decode cX12_operate 100 = .ok (.if_icmp .ne 129, 3) := by decide +kernel
theorem dX12_operate_103 : decode cX12_operate 103 = .ok (.aload_n 0, 1) := by decide +kernel
theorem dX12_operate_104 : decode cX12_operate 104 = .ok (.dup, 1) := by decide +kernel
theorem dX12_operate_105 : decode cX12_operate 105 = .ok (.getfield 229, 3) := by decide +kernel
theorem dX12_operate_108 : decode cX12_operate 108 = .ok (.iconst 1, 1) := by decide +kernel
theorem dX12_operate_109 : decode cX12_operate 109 = .ok (.iadd, 1) := by decide +kernel
theorem dX12_operate_11 : decode cX12_operate 11 = .ok (.return_, 1) := by decide +kernel
theorem dX12_operate_110 : decode cX12_operate 110 = .ok (.putfield 229, 3) := by decide +kernel
theorem dX12_operate_113 : decode cX12_operate 113 = .ok (.goto 116, 3) := by decide +kernel
theorem dX12_operate_116 : decode cX12_operate 116 = .ok (.iload_n 2, 1) := by decide +kernel
theorem dX12_operate_117 : decode cX12_operate 117 = .ok (.bipush 16, 2) := by decide +kernel
theorem dX12_operate_119 : decode cX12_operate 119 = .ok (.if_icmp .ge 51, 3) := by decide +kernel
theorem dX12_operate_12 : decode cX12_operate 12 = .ok (.iload_n 1, 1) := by decide +kernel
theorem dX12_operate_122 : decode cX12_operate 122 = .ok (.iconst 0, 1) := by decide +kernel
theorem dX12_operate_123 : decode cX12_operate 123 = .ok (.istore_n 3, 1) := by decide +kernel
theorem dX12_operate_124 : decode cX12_operate 124 = .ok (.iload_n 3, 1) := by decide +kernel
theorem dX12_operate_125 : decode cX12_operate 125 = .ok (.bipush 100, 2) := by decide +kernel
theorem dX12_operate_127 : decode cX12_operate 127 = .ok (.if_icmp .ge 40, 3) := by decide +kernel
theorem dX12_operate_13 : decode cX12_operate 13 = .ok (.bipush 36, 2) := by decide +kernel
theorem dX12_operate_130 : decode cX12_operate 130 = .ok (.aload_n 0, 1) := by decide +kernel
theorem dX12_operate_131 : decode cX12_operate 131 = .ok (.getfield 48, 3) := by decide +kernel
theorem dX12_operate_134 : decode cX12_operate 134 = .ok (.sipush 6400, 3) := by decide +kernel
theorem dX12_operate_137 : decode cX12_operate 137 = .ok (.iload_n 2, 1) := by decide +kernel
theorem dX12_operate_138 : decode cX12_operate 138 = .ok (.imul, 1) := by decide +kernel
theorem dX12_operate_139 : decode cX12_operate 139 = .ok (.bipush 100, 2) := by decide +kernel
theorem dX12_operate_141 : decode cX12_operate 141 = .ok (.aload_n 0, 1) := by decide +kernel
theorem dX12_operate_142 : decode cX12_operate 142 = .ok (.iload_n 2, 1) := by decide +kernel
theorem dX12_operate_143 : decode cX12_operate 143 = .ok (.invokevirtual 257, 3) := by decide +kernel
theorem dX12_operate_146 : decode cX12_operate 146 = .ok (.imul, 1) := by decide +kernel
theorem dX12_operate_147 : decode cX12_operate 147 = .ok (.iadd, 1) := by decide +kernel
theorem dX12_operate_148 : decode cX12_operate 148 = .ok (.iload_n 3, 1) := by decide +kernel
theorem dX12_operate_149 : decode cX12_operate 149 = .ok (.iadd, 1) := by decide +kernel
theorem dX12_operate_15 : decode cX12_operate 15 = .ok (.if_icmp .ne 101, 3) := by decide +kernel
theorem dX12_operate_150 : decode cX12_operate 150 = .ok (.aload_n 0, 1) := by decide +kernel
theorem dX12_operate_151 : decode cX12_operate 151 = .ok (.aload_n 0, 1) := by decide +kernel
theorem dX12_operate_152 : decode cX12_operate 152 = .ok (.getfield 251, 3) := by decide +kernel
theorem dX12_operate_155 : decode cX12_operate 155 = .ok (.iload_n 3, 1) := by decide +kernel
theorem dX12_operate_156 : decode cX12_operate 156 = .ok (.iadd, 1) := by decide +kernel
theorem dX12_operate_157 : decode cX12_operate 157 = .ok (.invokevirtual 260, 3) := by decide +kernel
theorem dX12_operate_160 : decode cX12_operate 160 = .ok (.iastore, 1) := by decide +kernel
theorem dX12_operate_161 : decode cX12_operate 161 = .ok (.iinc 3 1, 3) := by decide +kernel
theorem dX12_operate_164 : decode cX12_operate 164 = .ok (.goto (-40), 3) := by decide +kernel
theorem dX12_operate_167 : decode cX12_operate 167 = .ok (.goto 62, 3) := by decide +kernel
theorem dX12_operate_170 : decode cX12_operate 170 = .ok (.aload_n 0, 1) := by decide +kernel
theorem dX12_operate_171 : decode cX12_operate 171 = .ok (.invokevirtual 263, 3) := by decide +kernel
theorem dX12_operate_174 : decode cX12_operate 174 = .ok (.iconst 0, 1) := by decide +kernel
theorem dX12_operate_175 : decode cX12_operate 175 = .ok (.istore_n 3, 1) := by decide +kernel
theorem dX12_operate_176 : decode cX12_operate 176 = .ok (.iload_n 3, 1) := by decide +kernel
theorem dX12_operate_177 : decode cX12_operate 177 = .ok (.iconst 5, 1) := by decide +kernel
theorem dX12_operate_178 : decode cX12_operate 178 = .ok (.iload_n 2, 1) := by decide +kernel
theorem dX12_operate_179 : decode cX12_operate 179 = .ok (.invokestatic 211, 3) := by decide +kernel
theorem dX12_operate_18 : decode cX12_operate 18 = .ok (.aload_n 0, 1) := by decide +kernel
theorem dX12_operate_182 : decode cX12_operate 182 = .ok (.imul, 1) := by decide +kernel
theorem dX12_operate_183 : decode cX12_operate 183 = .ok (.if_icmp .ge 41, 3) := by decide +kernel
theorem dX12_operate_186 : decode cX12_operate 186 = .ok (.aload_n 0, 1) := by decide +kernel
theorem dX12_operate_187 : decode cX12_operate 187 = .ok (.aload_n 0, 1) := by decide +kernel
theorem dX12_operate_188 : decode cX12_operate 188 = .ok (.aload_n 0, 1) := by decide +kernel
theorem dX12_operate_189 : decode cX12_operate 189 = .ok (.getfield 251, 3) := by decide +kernel
theorem dX12_operate_19 : decode cX12_operate 19 = .ok (.getfield 38, 3) := by decide +kernel
theorem dX12_operate_192 : decode cX12_operate 192 = .ok (.iload_n 3, 1) := by decide +kernel
theorem dX12_operate_193 : decode cX12_operate 193 = .ok (.iconst 5, 1) := by decide +kernel
theorem dX12_operate_194 : decode cX12_operate 194 = .ok (.idiv, 1) := by decide +kernel
theorem dX12_operate_195 : decode cX12_operate 195 = .ok (.iadd, 1) := by decide +kernel
theorem dX12_operate_196 : decode cX12_operate 196 = .ok (.invokevirtual 260, 3) := by decide +kernel
theorem dX12_operate_199 : decode cX12_operate 199 = .ok (.bipush 24, 2) := by decide +kernel
theorem dX12_operate_201 : decode cX12_operate 201 = .ok (.bipush 6, 2) := by decide +kernel
theorem dX12_operate_203 : decode cX12_operate 203 = .ok (.iload_n 3, 1) := by decide +kernel
theorem dX12_operate_204 : decode cX12_operate 204 = .ok (.iconst 5, 1) := by decide +kernel
theorem dX12_operate_205 : decode cX12_operate 205 = .ok (.irem, 1) := by decide +kernel
theorem dX12_operate_206 : decode cX12_operate 206 = .ok (.imul, 1) := by decide +kernel
theorem dX12_operate_207 : decode cX12_operate 207 = .ok (.isub, 1) := by decide +kernel
theorem dX12_operate_208 : decode cX12_operate 208 = .ok (.ishr, 1) := by decide +kernel
theorem dX12_operate_209 : decode cX12_operate 209 = .ok (.bipush 63, 2) := by decide +kernel
theorem dX12_operate_211 : decode cX12_operate 211 = .ok (.iand, 1) := by decide +kernel
theorem dX12_operate_212 : decode cX12_operate 212 = .ok (.invokestatic 266, 3) := by decide +kernel
theorem dX12_operate_215 : decode cX12_operate 215 = .ok (.invokevirtual 189, 3) := by decide +kernel
theorem dX12_operate_218 : decode cX12_operate 218 = .ok (.iinc 3 1, 3) := by decide +kernel
theorem dX12_operate_22 : decode cX12_operate 22 = .ok (.iload_n 2, 1) := by decide +kernel
theorem dX12_operate_221 : decode cX12_operate 221 = .ok (.goto (-45), 3) := by decide +kernel
theorem dX12_operate_224 : decode cX12_operate 224 = .ok (.aload_n 0, 1) := by decide +kernel
theorem dX12_operate_225 : decode cX12_operate 225 = .ok (.iload_n 2, 1) := by decide +kernel
theorem dX12_operate_226 : decode cX12_operate 226 = .ok (.invokevirtual 269, 3) := by decide +kernel
theorem dX12_operate_229 : decode cX12_operate 229 = .ok (.iload_n 2, 1) := by decide +kernel
theorem dX12_operate_23 : decode cX12_operate 23 = .ok (.aload_n 0, 1) := by decide +kernel
theorem dX12_operate_230 : decode cX12_operate 230 = .ok (.bipush 8, 2) := by decide +kernel
theorem dX12_operate_232 : decode cX12_operate 232 = .ok (.if_icmp .ge 13, 3) := by decide +kernel
theorem dX12_operate_235 : decode cX12_operate 235 = .ok (.aload_n 0, 1) := by decide +kernel
theorem dX12_operate_236 : decode cX12_operate 236 = .ok (.getfield 44, 3) := by decide +kernel
theorem dX12_operate_239 : decode cX12_operate 239 = .ok (.iload_n 2, 1) := by decide +kernel
theorem dX12_operate_24 : decode cX12_operate 24 = .ok (.getfield 251, 3) := by decide +kernel
theorem dX12_operate_240 : decode cX12_operate 240 = .ok (.dup2, 1) := by decide +kernel
theorem dX12_operate_241 : decode cX12_operate 241 = .ok (.iaload, 1) := by decide +kernel
theorem dX12_operate_242 : decode cX12_operate 242 = .ok (.iconst 1, 1) := by decide +kernel
theorem dX12_operate_243 : decode cX12_operate 243 = .ok (.iadd, 1) := by decide +kernel
theorem dX12_operate_244 : decode cX12_operate 244 = .ok (.iastore, 1) := by decide +kernel
theorem dX12_operate_245 : decode cX12_operate 245 = .ok (.return_, 1) := by decide +kernel
theorem dX12_operate_27 : decode cX12_operate 27 = .ok (.iastore, 1) := by decide +kernel
theorem dX12_operate_28 : decode cX12_operate 28 = .ok (.iconst 0, 1) := by decide +kernel
theorem dX12_operate_29 : decode cX12_operate 29 = .ok (.istore_n 3, 1) := by decide +kernel
theorem dX12_operate_3 : decode cX12_operate 3 = .ok (.if_icmp .ne 9, 3) := by decide +kernel
theorem dX12_operate_30 : decode cX12_operate 30 = .ok (.iload_n 3, 1) := by decide +kernel
theorem dX12_operate_31 : decode cX12_operate 31 = .ok (.iload_n 2, 1) := by decide +kernel
theorem dX12_operate_32 : decode cX12_operate 32 = .ok (.invokestatic 211, 3) := by decide +kernel
theorem dX12_operate_35 : decode cX12_operate 35 = .ok (.if_icmp .ge 55, 3) := by decide +kernel
theorem dX12_operate_38 : decode cX12_operate 38 = .ok (.aload_n 0, 1) := by decide +kernel
theorem dX12_operate_39 : decode cX12_operate 39 = .ok (.getfield 41, 3) := by decide +kernel
theorem dX12_operate_42 : decode cX12_operate 42 = .ok (.bipush 100, 2) := by decide +kernel
theorem dX12_operate_44 : decode cX12_operate 44 = .ok (.iload_n 2, 1) := by decide +kernel
theorem dX12_operate_45 : decode cX12_operate 45 = .ok (.imul, 1) := by decide +kernel
theorem dX12_operate_46 : decode cX12_operate 46 = .ok (.iload_n 3, 1) := by decide +kernel
theorem dX12_operate_47 : decode cX12_operate 47 = .ok (.iadd, 1) := by decide +kernel
theorem dX12_operate_48 : decode cX12_operate 48 = .ok (.iload_n 2, 1) := by decide +kernel
theorem dX12_operate_49 : decode cX12_operate 49 = .ok (.bipush 16, 2) := by decide +kernel
theorem dX12_operate_51 : decode cX12_operate 51 = .ok (.if_icmp .ne 11, 3) := by decide +kernel
theorem dX12_operate_54 : decode cX12_operate 54 = .ok (.aload_n 0, 1) := by decide +kernel
theorem dX12_operate_55 : decode cX12_operate 55 = .ok (.iload_n 3, 1) := by decide +kernel
theorem dX12_operate_56 : decode cX12_operate 56 = .ok (.invokevirtual 254, 3) := by decide +kernel
theorem dX12_operate_59 : decode cX12_operate 59 = .ok (.goto 24, 3) := by decide +kernel
theorem dX12_operate_6 : decode cX12_operate 6 = .ok (.aload_n 0, 1) := by decide +kernel
theorem dX12_operate_62 : decode cX12_operate 62 = .ok (.aload_n 0, 1) := by decide +kernel
theorem dX12_operate_63 : decode cX12_operate 63 = .ok (.getfield 48, 3) := by decide +kernel
theorem dX12_operate_66 : decode cX12_operate 66 = .ok (.sipush 6400, 3) := by decide +kernel
theorem dX12_operate_69 : decode cX12_operate 69 = .ok (.iload_n 2, 1) := by decide +kernel
theorem dX12_operate_7 : decode cX12_operate 7 = .ok (.iload_n 2, 1) := by decide +kernel
theorem dX12_operate_70 : decode cX12_operate 70 = .ok (.imul, 1) := by decide +kernel
theorem dX12_operate_71 : decode cX12_operate 71 = .ok (.bipush 100, 2) := by decide +kernel
theorem dX12_operate_73 : decode cX12_operate 73 = .ok (.aload_n 0, 1) := by decide +kernel
theorem dX12_operate_74 : decode cX12_operate 74 = .ok (.iload_n 2, 1) := by decide +kernel
theorem dX12_operate_75 : decode cX12_operate 75 = .ok (.invokevirtual 257, 3) := by decide +kernel
theorem dX12_operate_78 : decode cX12_operate 78 = .ok (.imul, 1) := by decide +kernel
theorem dX12_operate_79 : decode cX12_operate 79 = .ok (.iadd, 1) := by decide +kernel
theorem dX12_operate_8 : decode cX12_operate 8 = .ok (.invokevirtual 248, 3) := by decide +kernel
theorem dX12_operate_80 : decode cX12_operate 80 = .ok (.iload_n 3, 1) := by decide +kernel
theorem dX12_operate_81 : decode cX12_operate 81 = .ok (.iadd, 1) := by decide +kernel
theorem dX12_operate_82 : decode cX12_operate 82 = .ok (.iaload, 1) := by decide +kernel
theorem dX12_operate_83 : decode cX12_operate 83 = .ok (.iastore, 1) := by decide +kernel
theorem dX12_operate_84 : decode cX12_operate 84 = .ok (.iinc 3 1, 3) := by decide +kernel
theorem dX12_operate_87 : decode cX12_operate 87 = .ok (.goto (-57), 3) := by decide +kernel
theorem dX12_operate_90 : decode cX12_operate 90 = .ok (.aload_n 0, 1) := by decide +kernel
theorem dX12_operate_91 : decode cX12_operate 91 = .ok (.getfield 31, 3) := by decide +kernel
theorem dX12_operate_94 : decode cX12_operate 94 = .ok (.iload_n 2, 1) := by decide +kernel
theorem dX12_operate_95 : decode cX12_operate 95 = .ok (.iconst 1, 1) := by decide +kernel
theorem dX12_operate_96 : decode cX12_operate 96 = .ok (.bastore, 1) := by decide +kernel
theorem dX12_operate_97 : decode cX12_operate 97 = .ok (.iload_n 2, 1) := by decide +kernel
theorem dX12_operate_98 : decode cX12_operate 98 = .ok (.bipush 16, 2) := by decide +kernel
set_option maxHeartbeats 4000000 in
set_option maxRecDepth 100000 in
theorem T_X12_operate (l : Launch) (D : va_G) (K : Nat → ClassId) (Z Y : Nat → Nat) (ad : Nat → Nat) (t : tSt) (hok : okM t) (x1 : Int32) (hx1 : (35 : Int) ≤ x1.toInt ∧ x1.toInt ≤ 37) (x2 : Int32) (hx2 : (0 : Int) ≤ x2.toInt ∧ x2.toInt ≤ 19) (hs0 : gdA x1 x2 (t.1 0 18) (t.2.2.1 3)) (hs1 : gdU x1 x2 (t.2.2.1 3) (t.2.2.1 9) (t.1 0 35) (t.1 0 36)) : tMet l yX12_operate cX12_operate 4 none (rmD 8 0 0) D K Z Y [.ref (ad 0), .int x1, .int x2] (WM K ad t) (QV D K (fun (u : tSt) => okM u ∧ frA [(0, 30), (0, 35)] [] [5, 7, 8, 9, 10, 11, 12, 13, 14] [] t u) (fun (u : tSt) => WM K ad u)) 0 0 := by
  refine t_met RX12 ⟨rfl, by decide +kernel⟩ (Nat.le_of_ble_eq_true rfl) ?_
  intro p e s m below meth c A ls C hE hZ hr hlocks hA hP hD hS hl
  have hl : lv_has ls 4 [(0, .ref (ad 0)), (1, .int x1), (2, .int x2)] := hl
  have hokt := hok
  have hfr : frA [(0, 30), (0, 35)] [] [5, 7, 8, 9, 10, 11, 12, 13, 14] [] t t := frA_rf
  have h_1 : (0 : Int) ≤ (t.1 0 30).toInt ∧ (t.1 0 30).toInt ≤ 120 := hok.1 0 30
  have h_2 : (0 : Int) ≤ (t.1 0 35).toInt ∧ (t.1 0 35).toInt ≤ 1700 := hok.1 0 35
  have h_3 : (0 : Int) ≤ (t.1 0 36).toInt ∧ (t.1 0 36).toInt ≤ 1700 := hok.1 0 36
  have L_229 : ∀ (t1 : tSt) (w229_3 : Int32) (H : Heap) (locs : List Loc) (ls : Array Slot), okM t1 → frA [(0, 30), (0, 35)] [] [5, 7, 8, 9, 10, 11, 12, 13, 14] [] t t1 → (36 : Int) ≤ x1.toInt ∧ x1.toInt ≤ 37 → (14 : Int) ≤ w229_3.toInt ∧ w229_3.toInt ≤ 511 → (x2.toInt < 8 → 0 ≤ (t1.2.2.1 9 (x2 : Int32).toNatClampNeg).toInt ∧ (t1.2.2.1 9 (x2 : Int32).toNatClampNeg).toInt < 64) → va_P D vwCl (WM K ad t1) H → va_D A (WM K ad t1) → va_S A s.heap H locs → lv_has ls 4 [(0, .ref (ad 0)), (1, .int x1), (2, .int x2), (3, .int w229_3)] → W p l e (rmD 8 0 0) s m [.ref (ad 0), .int x1, .int x2].toArray below meth c H locs 0 0 (MQ below (QV D K (fun (u : tSt) => okM u ∧ frA [(0, 30), (0, 35)] [] [5, 7, 8, 9, 10, 11, 12, 13, 14] [] t u) (fun (u : tSt) => WM K ad u) A) [.ref (ad 0), .int x1, .int x2].toArray s 0 0 A) (F0 m 229 ls []) := by
    intro t1 w229_3 H locs ls hok hfr hx229_1 hw229_3 hi229_0 hP hD hS hl
    have h_4 : (t1.1 0 18).toInt = (t.1 0 18).toInt := ti_eq (hfr.1 0 18 rfl)
    have h_5 : (t1.1 0 36).toInt = (t.1 0 36).toInt := ti_eq (hfr.1 0 36 rfl)
    have e_6 : t1.2.2.1 3 = t.2.2.1 3 := hfr.2.2.1 3 rfl
    have h_7 : (0 : Int) ≤ (t1.1 0 30).toInt ∧ (t1.1 0 30).toInt ≤ 120 := hok.1 0 30
    have h_8 : (0 : Int) ≤ (t1.1 0 35).toInt ∧ (t1.1 0 35).toInt ≤ 1700 := hok.1 0 35
    have h_9 : (0 : Int) ≤ (t1.1 0 36).toInt ∧ (t1.1 0 36).toInt ≤ 1700 := hok.1 0 36
    refine lv_iload_n C.1 C.2.1 dX12_operate_229 rfl (lv_at hl 2 rfl) ?_
    refine lv_bipush (v := 8) C.1 C.2.1 dX12_operate_230 (by decide) ?_
    refine lv_icmp_ge (tgt := 245) C.1 C.2.1 dX12_operate_232 (by decide) (fun c_10 => ?_) (fun c_10 => ?_)
    · replace c_10 : 8 ≤ x2.toInt := i_le c_10
      exact g_vret C hr hlocks hP hD hS t1 rfl ⟨hok, hfr⟩ (Nat.le_of_ble_eq_true rfl) (Nat.le_of_ble_eq_true rfl) dX12_operate_245
    · replace c_10 : x2.toInt < 8 := i_nle c_10
      refine lv_aload_n C.1 C.2.1 dX12_operate_235 rfl (lv_at hl 0 rfl) ?_
      refine k_get (v := .ref (ad 9)) C hP 0 rfl rfl inlX12 24 (by decide) m_7_14 rfl dX12_operate_236 ?_
      refine lv_iload_n C.1 C.2.1 dX12_operate_239 rfl (lv_at hl 2 rfl) ?_
      refine lv_dup2_11 C.1 C.2.1 dX12_operate_240 rfl rfl ?_
      have h_11 : (0 : Int) ≤ (t1.2.2.1 9 (x2 : Int32).toNatClampNeg).toInt ∧ (t1.2.2.1 9 (x2 : Int32).toNatClampNeg).toInt ≤ 64 := hok.2.1 9 _
      refine k_ild (v := (t1.2.2.1 9 (x2 : Int32).toNatClampNeg)) C hP 9 rfl (vp_in_iff.mpr ⟨by omega, by omega⟩) rfl dX12_operate_241 ?_
      refine lv_iconst (v := 1) C.1 C.2.1 dX12_operate_242 (by decide) ?_
      obtain ⟨v_12, e_13⟩ : ∃ z, z = ((t1.2.2.1 9 (x2 : Int32).toNatClampNeg) : Int32) + (1 : Int32) := ⟨_, rfl⟩
      have h_14 : v_12.toInt = (t1.2.2.1 9 (x2 : Int32).toNatClampNeg).toInt + 1 := by rw [e_13]; exact ti_iadd (by show (_ : Int) ≤ (t1.2.2.1 9 (x2 : Int32).toNatClampNeg).toInt + 1; omega) (by show (t1.2.2.1 9 (x2 : Int32).toNatClampNeg).toInt + 1 < (_ : Int); omega)
      refine k_iadd (v := v_12) C e_13.symm dX12_operate_243 ?_
      refine k_ist (ws' := WM K ad (uB t1 9 (x2 : Int32).toNatClampNeg v_12)) (x' := v_12) C hP hD hS 9 rfl (vp_in_iff.mpr ⟨by omega, by omega⟩) rfl rfl rfl dX12_operate_244 (fun H locs hP hD hS => ?_)
      have hok : okM (uB t1 9 (x2 : Int32).toNatClampNeg v_12) := ⟨hok.1, okB_B hok.2.1 9 _ v_12 (show (0 : Int) ≤ (v_12 : Int32).toInt ∧ (v_12 : Int32).toInt ≤ 64 from ⟨by omega, by omega⟩), hok.2.2.1, hok.2.2.2.1, hok.2.2.2.2.1, hok.2.2.2.2.2.1, hok.2.2.2.2.2.2.1, trivial⟩
      have hfr : frA [(0, 30), (0, 35)] [] [5, 7, 8, 9, 10, 11, 12, 13, 14] [] t (uB t1 9 (x2 : Int32).toNatClampNeg v_12) := frA_B hfr 9 _ _ rfl
      exact g_vret C hr hlocks hP hD hS (uB t1 9 (x2 : Int32).toNatClampNeg v_12) rfl ⟨hok, hfr⟩ (Nat.le_of_ble_eq_true rfl) (Nat.le_of_ble_eq_true rfl) dX12_operate_245
  have L_176 : ∀ (fuel_176 : Nat) (t1 : tSt) (w176_3 : Int32) (H : Heap) (locs : List Loc) (ls : Array Slot), okM t1 → frA [(0, 30), (0, 35)] [] [5, 7, 8, 9, 10, 11, 12, 13, 14] [] t t1 → (37 : Int) ≤ x1.toInt ∧ x1.toInt ≤ 37 → (16 : Int) ≤ x2.toInt ∧ x2.toInt ≤ 19 → (0 : Int) ≤ w176_3.toInt ∧ w176_3.toInt ≤ 511 → (17 ≤ x2.toInt) → (-3999 ≤ (t1.1 0 18).toInt ∧ (x2.toInt < 16 → (t1.1 0 18).toInt + 100 ≤ 4000) ∧ (x2.toInt = 16 ∨ x2.toInt = 17 → (t1.1 0 18).toInt + 16 ≤ 4000) ∧ (x2.toInt = 18 → (t1.1 0 18).toInt + 24 ≤ 4000) ∧ (x2.toInt = 19 → (t1.1 0 18).toInt + 14 ≤ 4000)) → ((t1.1 0 30).toInt = w176_3.toInt) → (511 : Int) - w176_3.toInt < (fuel_176 : Int) → va_P D vwCl (WM K ad t1) H → va_D A (WM K ad t1) → va_S A s.heap H locs → lv_has ls 4 [(0, .ref (ad 0)), (1, .int x1), (2, .int x2), (3, .int w176_3)] → W p l e (rmD 8 0 0) s m [.ref (ad 0), .int x1, .int x2].toArray below meth c H locs 0 0 (MQ below (QV D K (fun (u : tSt) => okM u ∧ frA [(0, 30), (0, 35)] [] [5, 7, 8, 9, 10, 11, 12, 13, 14] [] t u) (fun (u : tSt) => WM K ad u) A) [.ref (ad 0), .int x1, .int x2].toArray s 0 0 A) (F0 m 176 ls []) := by
    intro fuel_176
    induction fuel_176 with
    | zero =>
      intro t1 w176_3 H locs ls hok hfr hx176_1 hx176_2 hw176_3 hi176_0 hi176_1 hi176_2 hm176_176 hP hD hS hl
      have h_15 : (t1.1 0 18).toInt = (t.1 0 18).toInt := ti_eq (hfr.1 0 18 rfl)
      have h_16 : (t1.1 0 36).toInt = (t.1 0 36).toInt := ti_eq (hfr.1 0 36 rfl)
      have e_17 : t1.2.2.1 3 = t.2.2.1 3 := hfr.2.2.1 3 rfl
      have h_18 : (0 : Int) ≤ (t1.1 0 30).toInt ∧ (t1.1 0 30).toInt ≤ 120 := hok.1 0 30
      have h_19 : (0 : Int) ≤ (t1.1 0 35).toInt ∧ (t1.1 0 35).toInt ≤ 1700 := hok.1 0 35
      have h_20 : (0 : Int) ≤ (t1.1 0 36).toInt ∧ (t1.1 0 36).toInt ≤ 1700 := hok.1 0 36
      exact absurd hm176_176 (by omega)
    | succ fuel_176 ih_176 =>
      intro t1 w176_3 H locs ls hok hfr hx176_1 hx176_2 hw176_3 hi176_0 hi176_1 hi176_2 hm176_176 hP hD hS hl
      have hm176_176 : (511 : Int) - w176_3.toInt < (fuel_176 : Int) + 1 := by omega
      have h_21 : (t1.1 0 18).toInt = (t.1 0 18).toInt := ti_eq (hfr.1 0 18 rfl)
      have h_22 : (t1.1 0 36).toInt = (t.1 0 36).toInt := ti_eq (hfr.1 0 36 rfl)
      have e_23 : t1.2.2.1 3 = t.2.2.1 3 := hfr.2.2.1 3 rfl
      have h_24 : (0 : Int) ≤ (t1.1 0 30).toInt ∧ (t1.1 0 30).toInt ≤ 120 := hok.1 0 30
      have h_25 : (0 : Int) ≤ (t1.1 0 35).toInt ∧ (t1.1 0 35).toInt ≤ 1700 := hok.1 0 35
      have h_26 : (0 : Int) ≤ (t1.1 0 36).toInt ∧ (t1.1 0 36).toInt ≤ 1700 := hok.1 0 36
      refine lv_iload_n C.1 C.2.1 dX12_operate_176 rfl (lv_at hl 3 rfl) ?_
      refine lv_iconst (v := 5) C.1 C.2.1 dX12_operate_177 (by decide) ?_
      refine lv_iload_n C.1 C.2.1 dX12_operate_178 rfl (lv_at hl 2 rfl) ?_
      refine g_Si (As := [.int x2]) (rest := [.int 5, .int w176_3]) C hP hD hS hA (T_X12_sizeOf l D K Z Y ad t1 hok (x2) (show (-1 : Int) ≤ (x2 : Int32).toInt ∧ (x2 : Int32).toInt ≤ 19 from ⟨by omega, by omega⟩)) hE hZ (uwS m_56_19 m_56_20 m_1_5 m_56_21) (hdS 1 (by decide +kernel) rfl) ⟨Nat.le_of_ble_eq_true rfl, Nat.le_of_ble_eq_true rfl⟩ rfl rfl rfl hl.1 (Nat.le_of_ble_eq_true rfl) dX12_operate_179 ⟨Nat.le_of_ble_eq_true rfl, Nat.le_of_ble_eq_true rfl⟩ (fun r_28 t_27 H locs hw hP hD hS => ?_)
      obtain ⟨h_30, h_31, p_32, p_33, p_34, p_35⟩ := hw
      replace p_32 : x2.toInt < 16 → r_28.toInt = 100 := p_32
      replace p_33 : x2.toInt = 16 ∨ x2.toInt = 17 → r_28.toInt = 16 := p_33
      replace p_34 : x2.toInt = 18 → r_28.toInt = 24 := p_34
      replace p_35 : x2.toInt = 19 → r_28.toInt = 14 := p_35
      obtain ⟨v_36, e_37⟩ : ∃ z, z = (5 : Int32) * (r_28 : Int32) := ⟨_, rfl⟩
      have h_38 : v_36.toInt = 5 * r_28.toInt := by rw [e_37]; exact ti_mull (k := 5) (by decide) (by omega) (by omega)
      refine k_imul (v := v_36) C e_37.symm dX12_operate_182 ?_
      refine lv_icmp_ge (tgt := 224) C.1 C.2.1 dX12_operate_183 (by decide) (fun c_39 => ?_) (fun c_39 => ?_)
      · replace c_39 : v_36.toInt ≤ w176_3.toInt := i_le c_39
        refine lv_aload_n C.1 C.2.1 dX12_operate_224 rfl (lv_at hl 0 rfl) ?_
        refine lv_iload_n C.1 C.2.1 dX12_operate_225 rfl (lv_at hl 2 rfl) ?_
        refine g_Vv (As := [.int x2]) (rest := []) C hP hD hS hA (T_X12_print l D K Z Y ad t1 hok (x2) (show (17 : Int) ≤ (x2 : Int32).toInt ∧ (x2 : Int32).toInt ≤ 19 from ⟨by omega, by omega⟩)) hE hZ (uwV m_42_21 m_42_22 m_42_23 m_1_5 m_43_0) (hdV 1 (by decide +kernel) rfl) ⟨Nat.le_of_ble_eq_true rfl, Nat.le_of_ble_eq_true rfl⟩ rfl rfl (ci := 11) (q0 := 0) rfl rfl rfl hl.1 (Nat.le_of_ble_eq_true rfl) dX12_operate_226 ⟨Nat.le_of_ble_eq_true rfl, Nat.le_of_ble_eq_true rfl⟩ (fun t_40 H locs hw hP hD hS => ?_)
        obtain ⟨hok, f_42⟩ := hw
        have hfr : frA [(0, 30), (0, 35)] [] [5, 7, 8, 9, 10, 11, 12, 13, 14] [] t t_40 := frA_tr hfr f_42 rfl
        have h_43 : (t_40.1 0 18).toInt = (t1.1 0 18).toInt := ti_eq (f_42.1 0 18 rfl)
        have h_44 : (t_40.1 0 35).toInt = (t1.1 0 35).toInt := ti_eq (f_42.1 0 35 rfl)
        have h_45 : (t_40.1 0 36).toInt = (t1.1 0 36).toInt := ti_eq (f_42.1 0 36 rfl)
        have e_46 : t_40.2.2.1 3 = t.2.2.1 3 := (f_42.2.2.1 3 rfl).trans (e_23)
        have e_47 : t_40.2.2.1 7 = t1.2.2.1 7 := f_42.2.2.1 7 rfl
        have e_48 : t_40.2.2.1 9 = t1.2.2.1 9 := f_42.2.2.1 9 rfl
        have h_49 : (0 : Int) ≤ (t_40.1 0 30).toInt ∧ (t_40.1 0 30).toInt ≤ 120 := hok.1 0 30
        have h_50 : (0 : Int) ≤ (t_40.1 0 35).toInt ∧ (t_40.1 0 35).toInt ≤ 1700 := hok.1 0 35
        have h_51 : (0 : Int) ≤ (t_40.1 0 36).toInt ∧ (t_40.1 0 36).toInt ≤ 1700 := hok.1 0 36
        have h_52 : (t_40.2.2.1 9 (x2 : Int32).toNatClampNeg).toInt = (t1.2.2.1 9 (x2 : Int32).toNatClampNeg).toInt := tb_eq e_48 _
        exact L_229 t_40 w176_3 _ _ _ hok hfr ⟨by omega, by omega⟩ ⟨by omega, by omega⟩ (show x2.toInt < 8 → 0 ≤ (t_40.2.2.1 9 (x2 : Int32).toNatClampNeg).toInt ∧ (t_40.2.2.1 9 (x2 : Int32).toNatClampNeg).toInt < 64 from by omega) hP hD hS (lv_sub hl [0, 1, 2, 3] rfl)
      · replace c_39 : w176_3.toInt < v_36.toInt := i_nle c_39
        refine lv_aload_n C.1 C.2.1 dX12_operate_186 rfl (lv_at hl 0 rfl) ?_
        refine lv_aload_n C.1 C.2.1 dX12_operate_187 rfl (lv_at hl 0 rfl) ?_
        refine lv_aload_n C.1 C.2.1 dX12_operate_188 rfl (lv_at hl 0 rfl) ?_
        refine k_get (v := .int (t1.1 0 18)) C hP 0 rfl rfl inlX12 18 (by decide) m_57_5 rfl dX12_operate_189 ?_
        refine lv_iload_n C.1 C.2.1 dX12_operate_192 rfl (lv_at hl 3 rfl) ?_
        refine lv_iconst (v := 5) C.1 C.2.1 dX12_operate_193 (by decide) ?_
        obtain ⟨v_53, e_54⟩ : ∃ z, z = (w176_3 : Int32) / (5 : Int32) := ⟨_, rfl⟩
        have h_55 : v_53.toInt = w176_3.toInt / 5 := by rw [e_54]; exact z_divp (k := 5) (by decide) (by decide) (by show (0 : Int) ≤ w176_3.toInt; omega)
        refine k_idiv (v := v_53) C (by decide) e_54.symm dX12_operate_194 ?_
        obtain ⟨v_56, e_57⟩ : ∃ z, z = ((t1.1 0 18) : Int32) + (v_53 : Int32) := ⟨_, rfl⟩
        have h_58 : v_56.toInt = (t1.1 0 18).toInt + v_53.toInt := by rw [e_57]; exact ti_iadd (by show (_ : Int) ≤ (t1.1 0 18).toInt + v_53.toInt; omega) (by show (t1.1 0 18).toInt + v_53.toInt < (_ : Int); omega)
        refine k_iadd (v := v_56) C e_57.symm dX12_operate_195 ?_
        refine g_Vi (As := [.int v_56]) (rest := [.ref (ad 0)]) C hP hD hS hA (T_X12_memoryAt l D K Z Y ad t1 hok (v_56) (show (-3999 : Int) ≤ (v_56 : Int32).toInt ∧ (v_56 : Int32).toInt ≤ 3999 from ⟨by omega, by omega⟩)) hE hZ (uwV m_38_19 m_38_20 m_38_21 m_1_5 m_38_22) (hdV 1 (by decide +kernel) rfl) ⟨Nat.le_of_ble_eq_true rfl, Nat.le_of_ble_eq_true rfl⟩ rfl rfl (ci := 11) (q0 := 0) rfl rfl rfl hl.1 (Nat.le_of_ble_eq_true rfl) dX12_operate_196 ⟨Nat.le_of_ble_eq_true rfl, Nat.le_of_ble_eq_true rfl⟩ (fun r_60 t_59 H locs hw hP hD hS => ?_)
        obtain ⟨h_62, h_63⟩ := hw
        refine lv_bipush (v := 24) C.1 C.2.1 dX12_operate_199 (by decide) ?_
        refine lv_bipush (v := 6) C.1 C.2.1 dX12_operate_201 (by decide) ?_
        refine lv_iload_n C.1 C.2.1 dX12_operate_203 rfl (lv_at hl 3 rfl) ?_
        refine lv_iconst (v := 5) C.1 C.2.1 dX12_operate_204 (by decide) ?_
        obtain ⟨v_64, e_65⟩ : ∃ z, z = (w176_3 : Int32) - (w176_3 : Int32) / (5 : Int32) * (5 : Int32) := ⟨_, rfl⟩
        have h_66 : v_64.toInt = w176_3.toInt % 5 := by rw [e_65]; exact z_remp (k := 5) (by decide) (by show (0 : Int) ≤ w176_3.toInt; omega)
        refine k_irem (v := v_64) C (by decide) e_65.symm dX12_operate_205 ?_
        obtain ⟨v_67, e_68⟩ : ∃ z, z = (6 : Int32) * (v_64 : Int32) := ⟨_, rfl⟩
        have h_69 : v_67.toInt = 6 * v_64.toInt := by rw [e_68]; exact ti_mull (k := 6) (by decide) (by omega) (by omega)
        refine k_imul (v := v_67) C e_68.symm dX12_operate_206 ?_
        obtain ⟨v_70, e_71⟩ : ∃ z, z = (24 : Int32) - (v_67 : Int32) := ⟨_, rfl⟩
        have h_72 : v_70.toInt = 24 - v_67.toInt := by rw [e_71]; exact ti_isub (by show (_ : Int) ≤ 24 - v_67.toInt; omega) (by show 24 - v_67.toInt < (_ : Int); omega)
        refine k_isub (v := v_70) C e_71.symm dX12_operate_207 ?_
        obtain ⟨v_73, e_74⟩ : ∃ z, z = (r_60 : Int32) >>> ((v_70 : Int32) &&& 31) := ⟨_, rfl⟩
        refine k_ishr (v := v_73) C e_74.symm dX12_operate_208 ?_
        refine lv_bipush (v := 63) C.1 C.2.1 dX12_operate_209 (by decide) ?_
        obtain ⟨v_76, e_77⟩ : ∃ z, z = (v_73 : Int32) &&& (63 : Int32) := ⟨_, rfl⟩
        have h_78 : v_76.toInt = v_73.toInt % 2 ^ 6 := by rw [e_77]; exact Jvm.Kit.i32_mask _ _ (k := 6) (by decide) (by decide)
        refine k_iand (v := v_76) C e_77.symm dX12_operate_211 ?_
        refine g_Si (As := [.int v_76]) (rest := [.ref (ad 0)]) C hP hD hS hA (T_X12_letterOf l D K Z Y ad t1 hok (v_76) (show (0 : Int) ≤ (v_76 : Int32).toInt ∧ (v_76 : Int32).toInt ≤ 63 from ⟨by omega, by omega⟩)) hE hZ (uwS m_61_4 m_61_5 m_1_5 m_61_6) (hdS 1 (by decide +kernel) rfl) ⟨Nat.le_of_ble_eq_true rfl, Nat.le_of_ble_eq_true rfl⟩ rfl rfl rfl hl.1 (Nat.le_of_ble_eq_true rfl) dX12_operate_212 ⟨Nat.le_of_ble_eq_true rfl, Nat.le_of_ble_eq_true rfl⟩ (fun r_80 t_79 H locs hw hP hD hS => ?_)
        obtain ⟨h_82, h_83⟩ := hw
        refine g_Vv (As := [.int r_80]) (rest := []) C hP hD hS hA (T_X12_say l D K Z Y ad t1 hok (r_80) (show (t1.1 0 30).toInt ≤ 119 from by omega)) hE hZ (uwV m_42_13 m_42_14 m_42_15 m_1_5 m_42_16) (hdV 1 (by decide +kernel) rfl) ⟨Nat.le_of_ble_eq_true rfl, Nat.le_of_ble_eq_true rfl⟩ rfl rfl (ci := 11) (q0 := 0) rfl rfl rfl hl.1 (Nat.le_of_ble_eq_true rfl) dX12_operate_215 ⟨Nat.le_of_ble_eq_true rfl, Nat.le_of_ble_eq_true rfl⟩ (fun t_84 H locs hw hP hD hS => ?_)
        obtain ⟨hok, f_86, p_87⟩ := hw
        have hfr : frA [(0, 30), (0, 35)] [] [5, 7, 8, 9, 10, 11, 12, 13, 14] [] t t_84 := frA_tr hfr f_86 rfl
        have h_88 : (t_84.1 0 18).toInt = (t1.1 0 18).toInt := ti_eq (f_86.1 0 18 rfl)
        have h_89 : (t_84.1 0 35).toInt = (t1.1 0 35).toInt := ti_eq (f_86.1 0 35 rfl)
        have h_90 : (t_84.1 0 36).toInt = (t1.1 0 36).toInt := ti_eq (f_86.1 0 36 rfl)
        have e_91 : t_84.2.2.1 3 = t.2.2.1 3 := (f_86.2.2.1 3 rfl).trans (e_23)
        have e_92 : t_84.2.2.1 7 = t1.2.2.1 7 := f_86.2.2.1 7 rfl
        have e_93 : t_84.2.2.1 9 = t1.2.2.1 9 := f_86.2.2.1 9 rfl
        have h_94 : (0 : Int) ≤ (t_84.1 0 30).toInt ∧ (t_84.1 0 30).toInt ≤ 120 := hok.1 0 30
        have h_95 : (0 : Int) ≤ (t_84.1 0 35).toInt ∧ (t_84.1 0 35).toInt ≤ 1700 := hok.1 0 35
        have h_96 : (0 : Int) ≤ (t_84.1 0 36).toInt ∧ (t_84.1 0 36).toInt ≤ 1700 := hok.1 0 36
        replace p_87 : (t_84.1 0 30).toInt = (t1.1 0 30).toInt + 1 := p_87
        obtain ⟨v_97, e_98⟩ : ∃ z, z = w176_3 + 1 := ⟨_, rfl⟩
        have h_99 : v_97.toInt = w176_3.toInt + 1 := by rw [e_98]; exact ti_iadd (by show (_ : Int) ≤ w176_3.toInt + 1; omega) (by show w176_3.toInt + 1 < (_ : Int); omega)
        refine lv_iinc (v := v_97) (lv' := [(3, .int v_97), (0, .ref (ad 0)), (1, .int x1), (2, .int x2)]) C.1 C.2.1 dX12_operate_218 hl (k := 3) rfl e_98.symm (by decide) rfl (fun ls hl => ?_)
        have hl : lv_has ls 4 [(0, .ref (ad 0)), (1, .int x1), (2, .int x2), (3, .int v_97)] := lv_sub hl [1, 2, 3, 0] rfl
        refine lv_goto (tgt := 176) C.1 C.2.1 dX12_operate_221 (by decide) ?_
        exact ih_176 t_84 v_97 _ _ _ hok hfr ⟨by omega, by omega⟩ ⟨by omega, by omega⟩ ⟨by omega, by omega⟩ (show 17 ≤ x2.toInt from by omega) (show -3999 ≤ (t_84.1 0 18).toInt ∧ (x2.toInt < 16 → (t_84.1 0 18).toInt + 100 ≤ 4000) ∧ (x2.toInt = 16 ∨ x2.toInt = 17 → (t_84.1 0 18).toInt + 16 ≤ 4000) ∧ (x2.toInt = 18 → (t_84.1 0 18).toInt + 24 ≤ 4000) ∧ (x2.toInt = 19 → (t_84.1 0 18).toInt + 14 ≤ 4000) from by omega) (show (t_84.1 0 30).toInt = v_97.toInt from by omega) (show (511 : Int) - v_97.toInt < (fuel_176 : Int) from by omega) hP hD hS (lv_sub hl [0, 1, 2, 3] rfl)
  have L_124 : ∀ (fuel_124 : Nat) (t1 : tSt) (w124_3 : Int32) (H : Heap) (locs : List Loc) (ls : Array Slot), okM t1 → frA [(0, 30), (0, 35)] [] [5, 7, 8, 9, 10, 11, 12, 13, 14] [] t t1 → (37 : Int) ≤ x1.toInt ∧ x1.toInt ≤ 37 → (0 : Int) ≤ x2.toInt ∧ x2.toInt ≤ 15 → (0 : Int) ≤ w124_3.toInt ∧ w124_3.toInt ≤ 100 → (x1.toInt = 37) → (x2.toInt < 16) → (x2.toInt < 8 → 0 ≤ (t1.2.2.1 9 (x2 : Int32).toNatClampNeg).toInt ∧ (t1.2.2.1 9 (x2 : Int32).toNatClampNeg).toInt < 64) → (8 ≤ x2.toInt → x2.toInt < 16 → 0 ≤ (vO (t.2.2.1 3 (7 : Int32).toNatClampNeg)).toInt ∧ (vO (t.2.2.1 3 (7 : Int32).toNatClampNeg)).toInt ≤ 63) → (-3999 ≤ (t1.1 0 18).toInt ∧ (x2.toInt < 16 → (t1.1 0 18).toInt + 100 ≤ 4000) ∧ (x2.toInt = 16 ∨ x2.toInt = 17 → (t1.1 0 18).toInt + 16 ≤ 4000) ∧ (x2.toInt = 18 → (t1.1 0 18).toInt + 24 ≤ 4000) ∧ (x2.toInt = 19 → (t1.1 0 18).toInt + 14 ≤ 4000)) → (100 : Int) - w124_3.toInt < (fuel_124 : Int) → va_P D vwCl (WM K ad t1) H → va_D A (WM K ad t1) → va_S A s.heap H locs → lv_has ls 4 [(0, .ref (ad 0)), (1, .int x1), (2, .int x2), (3, .int w124_3)] → W p l e (rmD 8 0 0) s m [.ref (ad 0), .int x1, .int x2].toArray below meth c H locs 0 0 (MQ below (QV D K (fun (u : tSt) => okM u ∧ frA [(0, 30), (0, 35)] [] [5, 7, 8, 9, 10, 11, 12, 13, 14] [] t u) (fun (u : tSt) => WM K ad u) A) [.ref (ad 0), .int x1, .int x2].toArray s 0 0 A) (F0 m 124 ls []) := by
    intro fuel_124
    induction fuel_124 with
    | zero =>
      intro t1 w124_3 H locs ls hok hfr hx124_1 hx124_2 hw124_3 hi124_0 hi124_1 hi124_2 hi124_3 hi124_4 hm124_124 hP hD hS hl
      have h_100 : (t1.1 0 18).toInt = (t.1 0 18).toInt := ti_eq (hfr.1 0 18 rfl)
      have h_101 : (t1.1 0 36).toInt = (t.1 0 36).toInt := ti_eq (hfr.1 0 36 rfl)
      have e_102 : t1.2.2.1 3 = t.2.2.1 3 := hfr.2.2.1 3 rfl
      have h_103 : (0 : Int) ≤ (t1.1 0 30).toInt ∧ (t1.1 0 30).toInt ≤ 120 := hok.1 0 30
      have h_104 : (0 : Int) ≤ (t1.1 0 35).toInt ∧ (t1.1 0 35).toInt ≤ 1700 := hok.1 0 35
      have h_105 : (0 : Int) ≤ (t1.1 0 36).toInt ∧ (t1.1 0 36).toInt ≤ 1700 := hok.1 0 36
      exact absurd hm124_124 (by omega)
    | succ fuel_124 ih_124 =>
      intro t1 w124_3 H locs ls hok hfr hx124_1 hx124_2 hw124_3 hi124_0 hi124_1 hi124_2 hi124_3 hi124_4 hm124_124 hP hD hS hl
      have hm124_124 : (100 : Int) - w124_3.toInt < (fuel_124 : Int) + 1 := by omega
      have h_106 : (t1.1 0 18).toInt = (t.1 0 18).toInt := ti_eq (hfr.1 0 18 rfl)
      have h_107 : (t1.1 0 36).toInt = (t.1 0 36).toInt := ti_eq (hfr.1 0 36 rfl)
      have e_108 : t1.2.2.1 3 = t.2.2.1 3 := hfr.2.2.1 3 rfl
      have h_109 : (0 : Int) ≤ (t1.1 0 30).toInt ∧ (t1.1 0 30).toInt ≤ 120 := hok.1 0 30
      have h_110 : (0 : Int) ≤ (t1.1 0 35).toInt ∧ (t1.1 0 35).toInt ≤ 1700 := hok.1 0 35
      have h_111 : (0 : Int) ≤ (t1.1 0 36).toInt ∧ (t1.1 0 36).toInt ≤ 1700 := hok.1 0 36
      refine lv_iload_n C.1 C.2.1 dX12_operate_124 rfl (lv_at hl 3 rfl) ?_
      refine lv_bipush (v := 100) C.1 C.2.1 dX12_operate_125 (by decide) ?_
      refine lv_icmp_ge (tgt := 167) C.1 C.2.1 dX12_operate_127 (by decide) (fun c_112 => ?_) (fun c_112 => ?_)
      · replace c_112 : 100 ≤ w124_3.toInt := i_le c_112
        refine lv_goto (tgt := 229) C.1 C.2.1 dX12_operate_167 (by decide) ?_
        exact L_229 t1 w124_3 _ _ _ hok hfr ⟨by omega, by omega⟩ ⟨by omega, by omega⟩ (show x2.toInt < 8 → 0 ≤ (t1.2.2.1 9 (x2 : Int32).toNatClampNeg).toInt ∧ (t1.2.2.1 9 (x2 : Int32).toNatClampNeg).toInt < 64 from by omega) hP hD hS (lv_sub hl [0, 1, 2, 3] rfl)
      · replace c_112 : w124_3.toInt < 100 := i_nle c_112
        refine lv_aload_n C.1 C.2.1 dX12_operate_130 rfl (lv_at hl 0 rfl) ?_
        refine k_get (v := .ref (ad 10)) C hP 0 rfl rfl inlX12 25 (by decide) m_7_16 rfl dX12_operate_131 ?_
        refine lv_sipush (v := 6400) C.1 C.2.1 dX12_operate_134 (by decide) ?_
        refine lv_iload_n C.1 C.2.1 dX12_operate_137 rfl (lv_at hl 2 rfl) ?_
        obtain ⟨v_113, e_114⟩ : ∃ z, z = (6400 : Int32) * (x2 : Int32) := ⟨_, rfl⟩
        have h_115 : v_113.toInt = 6400 * x2.toInt := by rw [e_114]; exact ti_mull (k := 6400) (by decide) (by omega) (by omega)
        refine k_imul (v := v_113) C e_114.symm dX12_operate_138 ?_
        refine lv_bipush (v := 100) C.1 C.2.1 dX12_operate_139 (by decide) ?_
        refine lv_aload_n C.1 C.2.1 dX12_operate_141 rfl (lv_at hl 0 rfl) ?_
        refine lv_iload_n C.1 C.2.1 dX12_operate_142 rfl (lv_at hl 2 rfl) ?_
        refine g_Vi (As := [.int x2]) (rest := [.int 100, .int v_113, .ref (ad 10)]) C hP hD hS hA (T_X12_blockNow l D K Z Y ad t1 hok (x2) (show (0 : Int) ≤ (x2 : Int32).toInt ∧ (x2 : Int32).toInt ≤ 15 from ⟨by omega, by omega⟩)) hE hZ (uwV m_61_0 m_61_1 m_61_2 m_1_5 m_61_3) (hdV 1 (by decide +kernel) rfl) ⟨Nat.le_of_ble_eq_true rfl, Nat.le_of_ble_eq_true rfl⟩ rfl rfl (ci := 11) (q0 := 0) rfl rfl rfl hl.1 (Nat.le_of_ble_eq_true rfl) dX12_operate_143 ⟨Nat.le_of_ble_eq_true rfl, Nat.le_of_ble_eq_true rfl⟩ (fun r_117 t_116 H locs hw hP hD hS => ?_)
        obtain ⟨h_119, h_120, p_121, p_122⟩ := hw
        replace p_121 : x2.toInt < 8 → r_117.toInt = (t1.2.2.1 9 (x2 : Int32).toNatClampNeg).toInt := p_121
        replace p_122 : 8 ≤ x2.toInt → r_117.toInt = (vO (t1.2.2.1 3 (7 : Int32).toNatClampNeg)).toInt := p_122
        have h_123 : (vO (t1.2.2.1 3 (7 : Int32).toNatClampNeg)).toInt = (vO (t.2.2.1 3 (7 : Int32).toNatClampNeg)).toInt := congrArg (fun z => (vO z).toInt) (congrFun e_108 _)
        obtain ⟨v_124, e_125⟩ : ∃ z, z = (100 : Int32) * (r_117 : Int32) := ⟨_, rfl⟩
        have h_126 : v_124.toInt = 100 * r_117.toInt := by rw [e_125]; exact ti_mull (k := 100) (by decide) (by omega) (by omega)
        refine k_imul (v := v_124) C e_125.symm dX12_operate_146 ?_
        obtain ⟨v_127, e_128⟩ : ∃ z, z = (v_113 : Int32) + (v_124 : Int32) := ⟨_, rfl⟩
        have h_129 : v_127.toInt = v_113.toInt + v_124.toInt := by rw [e_128]; exact ti_iadd (by show (_ : Int) ≤ v_113.toInt + v_124.toInt; omega) (by show v_113.toInt + v_124.toInt < (_ : Int); omega)
        refine k_iadd (v := v_127) C e_128.symm dX12_operate_147 ?_
        refine lv_iload_n C.1 C.2.1 dX12_operate_148 rfl (lv_at hl 3 rfl) ?_
        obtain ⟨v_130, e_131⟩ : ∃ z, z = (v_127 : Int32) + (w124_3 : Int32) := ⟨_, rfl⟩
        have h_132 : v_130.toInt = v_127.toInt + w124_3.toInt := by rw [e_131]; exact ti_iadd (by show (_ : Int) ≤ v_127.toInt + w124_3.toInt; omega) (by show v_127.toInt + w124_3.toInt < (_ : Int); omega)
        refine k_iadd (v := v_130) C e_131.symm dX12_operate_149 ?_
        refine lv_aload_n C.1 C.2.1 dX12_operate_150 rfl (lv_at hl 0 rfl) ?_
        refine lv_aload_n C.1 C.2.1 dX12_operate_151 rfl (lv_at hl 0 rfl) ?_
        refine k_get (v := .int (t1.1 0 18)) C hP 0 rfl rfl inlX12 18 (by decide) m_57_5 rfl dX12_operate_152 ?_
        refine lv_iload_n C.1 C.2.1 dX12_operate_155 rfl (lv_at hl 3 rfl) ?_
        obtain ⟨v_133, e_134⟩ : ∃ z, z = ((t1.1 0 18) : Int32) + (w124_3 : Int32) := ⟨_, rfl⟩
        have h_135 : v_133.toInt = (t1.1 0 18).toInt + w124_3.toInt := by rw [e_134]; exact ti_iadd (by show (_ : Int) ≤ (t1.1 0 18).toInt + w124_3.toInt; omega) (by show (t1.1 0 18).toInt + w124_3.toInt < (_ : Int); omega)
        refine k_iadd (v := v_133) C e_134.symm dX12_operate_156 ?_
        refine g_Vi (As := [.int v_133]) (rest := [.int v_130, .ref (ad 10)]) C hP hD hS hA (T_X12_memoryAt l D K Z Y ad t1 hok (v_133) (show (-3999 : Int) ≤ (v_133 : Int32).toInt ∧ (v_133 : Int32).toInt ≤ 3999 from ⟨by omega, by omega⟩)) hE hZ (uwV m_38_19 m_38_20 m_38_21 m_1_5 m_38_22) (hdV 1 (by decide +kernel) rfl) ⟨Nat.le_of_ble_eq_true rfl, Nat.le_of_ble_eq_true rfl⟩ rfl rfl (ci := 11) (q0 := 0) rfl rfl rfl hl.1 (Nat.le_of_ble_eq_true rfl) dX12_operate_157 ⟨Nat.le_of_ble_eq_true rfl, Nat.le_of_ble_eq_true rfl⟩ (fun r_137 t_136 H locs hw hP hD hS => ?_)
        obtain ⟨h_139, h_140⟩ := hw
        refine k_ist (ws' := WM K ad (uB t1 10 (v_130 : Int32).toNatClampNeg r_137)) (x' := r_137) C hP hD hS 10 rfl (vp_in_iff.mpr ⟨by omega, by omega⟩) rfl rfl rfl dX12_operate_160 (fun H locs hP hD hS => ?_)
        have hok : okM (uB t1 10 (v_130 : Int32).toNatClampNeg r_137) := ⟨hok.1, okB_B hok.2.1 10 _ r_137 (show (-2147483648 : Int) ≤ (r_137 : Int32).toInt ∧ (r_137 : Int32).toInt ≤ 2147483647 from (i_rng _)), hok.2.2.1, hok.2.2.2.1, hok.2.2.2.2.1, hok.2.2.2.2.2.1, hok.2.2.2.2.2.2.1, trivial⟩
        have hfr : frA [(0, 30), (0, 35)] [] [5, 7, 8, 9, 10, 11, 12, 13, 14] [] t (uB t1 10 (v_130 : Int32).toNatClampNeg r_137) := frA_B hfr 10 _ _ rfl
        obtain ⟨v_141, e_142⟩ : ∃ z, z = w124_3 + 1 := ⟨_, rfl⟩
        have h_143 : v_141.toInt = w124_3.toInt + 1 := by rw [e_142]; exact ti_iadd (by show (_ : Int) ≤ w124_3.toInt + 1; omega) (by show w124_3.toInt + 1 < (_ : Int); omega)
        refine lv_iinc (v := v_141) (lv' := [(3, .int v_141), (0, .ref (ad 0)), (1, .int x1), (2, .int x2)]) C.1 C.2.1 dX12_operate_161 hl (k := 3) rfl e_142.symm (by decide) rfl (fun ls hl => ?_)
        have hl : lv_has ls 4 [(0, .ref (ad 0)), (1, .int x1), (2, .int x2), (3, .int v_141)] := lv_sub hl [1, 2, 3, 0] rfl
        refine lv_goto (tgt := 124) C.1 C.2.1 dX12_operate_164 (by decide) ?_
        exact ih_124 (uB t1 10 (v_130 : Int32).toNatClampNeg r_137) v_141 _ _ _ hok hfr ⟨by omega, by omega⟩ ⟨by omega, by omega⟩ ⟨by omega, by omega⟩ (show x1.toInt = 37 from by omega) (show x2.toInt < 16 from by omega) (show x2.toInt < 8 → 0 ≤ (t1.2.2.1 9 (x2 : Int32).toNatClampNeg).toInt ∧ (t1.2.2.1 9 (x2 : Int32).toNatClampNeg).toInt < 64 from by omega) (show 8 ≤ x2.toInt → x2.toInt < 16 → 0 ≤ (vO (t.2.2.1 3 (7 : Int32).toNatClampNeg)).toInt ∧ (vO (t.2.2.1 3 (7 : Int32).toNatClampNeg)).toInt ≤ 63 from by omega) (show -3999 ≤ (t1.1 0 18).toInt ∧ (x2.toInt < 16 → (t1.1 0 18).toInt + 100 ≤ 4000) ∧ (x2.toInt = 16 ∨ x2.toInt = 17 → (t1.1 0 18).toInt + 16 ≤ 4000) ∧ (x2.toInt = 18 → (t1.1 0 18).toInt + 24 ≤ 4000) ∧ (x2.toInt = 19 → (t1.1 0 18).toInt + 14 ≤ 4000) from by omega) (show (100 : Int) - v_141.toInt < (fuel_124 : Int) from by omega) hP hD hS (lv_sub hl [0, 1, 2, 3] rfl)
  have L_30 : ∀ (fuel_30 : Nat) (t1 : tSt) (w30_3 : Int32) (H : Heap) (locs : List Loc) (ls : Array Slot), okM t1 → frA [(0, 30), (0, 35)] [] [5, 7, 8, 9, 10, 11, 12, 13, 14] [] t t1 → (36 : Int) ≤ x1.toInt ∧ x1.toInt ≤ 36 → (0 : Int) ≤ w30_3.toInt ∧ w30_3.toInt ≤ 100 → (x1.toInt = 36) → (x2.toInt ≤ 16) → (x2.toInt < 8 → 0 ≤ (t1.2.2.1 9 (x2 : Int32).toNatClampNeg).toInt ∧ (t1.2.2.1 9 (x2 : Int32).toNatClampNeg).toInt < 64) → (8 ≤ x2.toInt → x2.toInt < 16 → 0 ≤ (vO (t.2.2.1 3 (7 : Int32).toNatClampNeg)).toInt ∧ (vO (t.2.2.1 3 (7 : Int32).toNatClampNeg)).toInt ≤ 63) → (x2.toInt = 16 → (t1.1 0 35).toInt < (t1.1 0 36).toInt) → (-3999 ≤ (t1.2.2.1 7 (x2 : Int32).toNatClampNeg).toInt ∧ (x2.toInt < 16 → (t1.2.2.1 7 (x2 : Int32).toNatClampNeg).toInt + 100 ≤ 4000) ∧ (16 ≤ x2.toInt → (t1.2.2.1 7 (x2 : Int32).toNatClampNeg).toInt + 16 ≤ 4000)) → (100 : Int) - w30_3.toInt < (fuel_30 : Int) → va_P D vwCl (WM K ad t1) H → va_D A (WM K ad t1) → va_S A s.heap H locs → lv_has ls 4 [(0, .ref (ad 0)), (1, .int x1), (2, .int x2), (3, .int w30_3)] → W p l e (rmD 8 0 0) s m [.ref (ad 0), .int x1, .int x2].toArray below meth c H locs 0 0 (MQ below (QV D K (fun (u : tSt) => okM u ∧ frA [(0, 30), (0, 35)] [] [5, 7, 8, 9, 10, 11, 12, 13, 14] [] t u) (fun (u : tSt) => WM K ad u) A) [.ref (ad 0), .int x1, .int x2].toArray s 0 0 A) (F0 m 30 ls []) := by
    intro fuel_30
    induction fuel_30 with
    | zero =>
      intro t1 w30_3 H locs ls hok hfr hx30_1 hw30_3 hi30_0 hi30_1 hi30_2 hi30_3 hi30_4 hi30_5 hm30_30 hP hD hS hl
      have h_144 : (t1.1 0 18).toInt = (t.1 0 18).toInt := ti_eq (hfr.1 0 18 rfl)
      have h_145 : (t1.1 0 36).toInt = (t.1 0 36).toInt := ti_eq (hfr.1 0 36 rfl)
      have e_146 : t1.2.2.1 3 = t.2.2.1 3 := hfr.2.2.1 3 rfl
      have h_147 : (0 : Int) ≤ (t1.1 0 30).toInt ∧ (t1.1 0 30).toInt ≤ 120 := hok.1 0 30
      have h_148 : (0 : Int) ≤ (t1.1 0 35).toInt ∧ (t1.1 0 35).toInt ≤ 1700 := hok.1 0 35
      have h_149 : (0 : Int) ≤ (t1.1 0 36).toInt ∧ (t1.1 0 36).toInt ≤ 1700 := hok.1 0 36
      exact absurd hm30_30 (by omega)
    | succ fuel_30 ih_30 =>
      intro t1 w30_3 H locs ls hok hfr hx30_1 hw30_3 hi30_0 hi30_1 hi30_2 hi30_3 hi30_4 hi30_5 hm30_30 hP hD hS hl
      have hm30_30 : (100 : Int) - w30_3.toInt < (fuel_30 : Int) + 1 := by omega
      have h_150 : (t1.1 0 18).toInt = (t.1 0 18).toInt := ti_eq (hfr.1 0 18 rfl)
      have h_151 : (t1.1 0 36).toInt = (t.1 0 36).toInt := ti_eq (hfr.1 0 36 rfl)
      have e_152 : t1.2.2.1 3 = t.2.2.1 3 := hfr.2.2.1 3 rfl
      have h_153 : (0 : Int) ≤ (t1.1 0 30).toInt ∧ (t1.1 0 30).toInt ≤ 120 := hok.1 0 30
      have h_154 : (0 : Int) ≤ (t1.1 0 35).toInt ∧ (t1.1 0 35).toInt ≤ 1700 := hok.1 0 35
      have h_155 : (0 : Int) ≤ (t1.1 0 36).toInt ∧ (t1.1 0 36).toInt ≤ 1700 := hok.1 0 36
      refine lv_iload_n C.1 C.2.1 dX12_operate_30 rfl (lv_at hl 3 rfl) ?_
      refine lv_iload_n C.1 C.2.1 dX12_operate_31 rfl (lv_at hl 2 rfl) ?_
      refine g_Si (As := [.int x2]) (rest := [.int w30_3]) C hP hD hS hA (T_X12_sizeOf l D K Z Y ad t1 hok (x2) (show (-1 : Int) ≤ (x2 : Int32).toInt ∧ (x2 : Int32).toInt ≤ 19 from ⟨by omega, by omega⟩)) hE hZ (uwS m_56_19 m_56_20 m_1_5 m_56_21) (hdS 1 (by decide +kernel) rfl) ⟨Nat.le_of_ble_eq_true rfl, Nat.le_of_ble_eq_true rfl⟩ rfl rfl rfl hl.1 (Nat.le_of_ble_eq_true rfl) dX12_operate_32 ⟨Nat.le_of_ble_eq_true rfl, Nat.le_of_ble_eq_true rfl⟩ (fun r_157 t_156 H locs hw hP hD hS => ?_)
      obtain ⟨h_159, h_160, p_161, p_162, p_163, p_164⟩ := hw
      replace p_161 : x2.toInt < 16 → r_157.toInt = 100 := p_161
      replace p_162 : x2.toInt = 16 ∨ x2.toInt = 17 → r_157.toInt = 16 := p_162
      replace p_163 : x2.toInt = 18 → r_157.toInt = 24 := p_163
      replace p_164 : x2.toInt = 19 → r_157.toInt = 14 := p_164
      refine lv_icmp_ge (tgt := 90) C.1 C.2.1 dX12_operate_35 (by decide) (fun c_165 => ?_) (fun c_165 => ?_)
      · replace c_165 : r_157.toInt ≤ w30_3.toInt := i_le c_165
        refine lv_aload_n C.1 C.2.1 dX12_operate_90 rfl (lv_at hl 0 rfl) ?_
        refine k_get (v := .ref (ad 5)) C hP 0 rfl rfl inlX12 20 (by decide) m_7_10 rfl dX12_operate_91 ?_
        refine lv_iload_n C.1 C.2.1 dX12_operate_94 rfl (lv_at hl 2 rfl) ?_
        refine lv_iconst (v := 1) C.1 C.2.1 dX12_operate_95 (by decide) ?_
        obtain ⟨v_166, e_167⟩ : ∃ z, z = vp_nar .boolean 1 := ⟨_, rfl⟩
        have h_168 : (0 : Int) ≤ v_166.toInt ∧ v_166.toInt ≤ 1 := by rw [e_167]; exact nar_boolean _
        refine k_zst (ws' := WM K ad (uB t1 5 (x2 : Int32).toNatClampNeg v_166)) (x' := v_166) C hP hD hS 5 rfl (vp_in_iff.mpr ⟨by omega, by omega⟩) rfl e_167.symm rfl dX12_operate_96 (fun H locs hP hD hS => ?_)
        have hok : okM (uB t1 5 (x2 : Int32).toNatClampNeg v_166) := ⟨hok.1, okB_B hok.2.1 5 _ v_166 (show (0 : Int) ≤ (v_166 : Int32).toInt ∧ (v_166 : Int32).toInt ≤ 1 from ⟨by omega, by omega⟩), (iM1_on hok.2.2.1 x2 (by omega) ⟨by omega, fun _ => by omega, fun _ => by omega⟩), hok.2.2.2.1, hok.2.2.2.2.1, hok.2.2.2.2.2.1, hok.2.2.2.2.2.2.1, trivial⟩
        have hfr : frA [(0, 30), (0, 35)] [] [5, 7, 8, 9, 10, 11, 12, 13, 14] [] t (uB t1 5 (x2 : Int32).toNatClampNeg v_166) := frA_B hfr 5 _ _ rfl
        refine lv_iload_n C.1 C.2.1 dX12_operate_97 rfl (lv_at hl 2 rfl) ?_
        refine lv_bipush (v := 16) C.1 C.2.1 dX12_operate_98 (by decide) ?_
        refine lv_icmp_ne (tgt := 229) C.1 C.2.1 dX12_operate_100 (by decide) (fun c_169 => ?_) (fun c_169 => ?_)
        · replace c_169 : ¬ x2.toInt = 16 := i_ne c_169
          exact L_229 (uB t1 5 (x2 : Int32).toNatClampNeg v_166) w30_3 _ _ _ hok hfr ⟨by omega, by omega⟩ ⟨by omega, by omega⟩ (show x2.toInt < 8 → 0 ≤ (t1.2.2.1 9 (x2 : Int32).toNatClampNeg).toInt ∧ (t1.2.2.1 9 (x2 : Int32).toNatClampNeg).toInt < 64 from by omega) hP hD hS (lv_sub hl [0, 1, 2, 3] rfl)
        · replace c_169 : x2.toInt = 16 := i_eq c_169
          refine lv_aload_n C.1 C.2.1 dX12_operate_103 rfl (lv_at hl 0 rfl) ?_
          refine lv_dup C.1 C.2.1 dX12_operate_104 rfl ?_
          refine k_get (v := .int (t1.1 0 35)) C hP 0 rfl rfl inlX12 35 (by decide) m_44_17 rfl dX12_operate_105 ?_
          refine lv_iconst (v := 1) C.1 C.2.1 dX12_operate_108 (by decide) ?_
          obtain ⟨v_170, e_171⟩ : ∃ z, z = ((t1.1 0 35) : Int32) + (1 : Int32) := ⟨_, rfl⟩
          have h_172 : v_170.toInt = (t1.1 0 35).toInt + 1 := by rw [e_171]; exact ti_iadd (by show (_ : Int) ≤ (t1.1 0 35).toInt + 1; omega) (by show (t1.1 0 35).toInt + 1 < (_ : Int); omega)
          refine k_iadd (v := v_170) C e_171.symm dX12_operate_109 ?_
          refine k_put (ws' := WM K ad (uI (uB t1 5 (x2 : Int32).toNatClampNeg v_166) 0 35 v_170)) (v := .int v_170) C hP hD hS 0 rfl rfl inlX12 tyX12_ok nmX12 35 (by decide) m_44_17 rfl rfl rfl rfl rfl dX12_operate_110 (fun H locs hP hD hS => ?_)
          have hok : okM (uI (uB t1 5 (x2 : Int32).toNatClampNeg v_166) 0 35 v_170) := ⟨okI_I hok.1 0 35 v_170 (show (0 : Int) ≤ (v_170 : Int32).toInt ∧ (v_170 : Int32).toInt ≤ 1700 from ⟨by omega, by omega⟩), hok.2.1, hok.2.2.1, hok.2.2.2.1, hok.2.2.2.2.1, ((show (v_170 : Int32).toInt ≤ (t1.1 0 36).toInt from by omega)), hok.2.2.2.2.2.2.1, trivial⟩
          have hfr : frA [(0, 30), (0, 35)] [] [5, 7, 8, 9, 10, 11, 12, 13, 14] [] t (uI (uB t1 5 (x2 : Int32).toNatClampNeg v_166) 0 35 v_170) := frA_I hfr 0 35 _ rfl
          refine lv_goto (tgt := 229) C.1 C.2.1 dX12_operate_113 (by decide) ?_
          exact L_229 (uI (uB t1 5 (x2 : Int32).toNatClampNeg v_166) 0 35 v_170) w30_3 _ _ _ hok hfr ⟨by omega, by omega⟩ ⟨by omega, by omega⟩ (show x2.toInt < 8 → 0 ≤ (t1.2.2.1 9 (x2 : Int32).toNatClampNeg).toInt ∧ (t1.2.2.1 9 (x2 : Int32).toNatClampNeg).toInt < 64 from by omega) hP hD hS (lv_sub hl [0, 1, 2, 3] rfl)
      · replace c_165 : w30_3.toInt < r_157.toInt := i_nle c_165
        refine lv_aload_n C.1 C.2.1 dX12_operate_38 rfl (lv_at hl 0 rfl) ?_
        refine k_get (v := .ref (ad 8)) C hP 0 rfl rfl inlX12 23 (by decide) m_7_13 rfl dX12_operate_39 ?_
        refine lv_bipush (v := 100) C.1 C.2.1 dX12_operate_42 (by decide) ?_
        refine lv_iload_n C.1 C.2.1 dX12_operate_44 rfl (lv_at hl 2 rfl) ?_
        obtain ⟨v_173, e_174⟩ : ∃ z, z = (100 : Int32) * (x2 : Int32) := ⟨_, rfl⟩
        have h_175 : v_173.toInt = 100 * x2.toInt := by rw [e_174]; exact ti_mull (k := 100) (by decide) (by omega) (by omega)
        refine k_imul (v := v_173) C e_174.symm dX12_operate_45 ?_
        refine lv_iload_n C.1 C.2.1 dX12_operate_46 rfl (lv_at hl 3 rfl) ?_
        obtain ⟨v_176, e_177⟩ : ∃ z, z = (v_173 : Int32) + (w30_3 : Int32) := ⟨_, rfl⟩
        have h_178 : v_176.toInt = v_173.toInt + w30_3.toInt := by rw [e_177]; exact ti_iadd (by show (_ : Int) ≤ v_173.toInt + w30_3.toInt; omega) (by show v_173.toInt + w30_3.toInt < (_ : Int); omega)
        refine k_iadd (v := v_176) C e_177.symm dX12_operate_47 ?_
        refine lv_iload_n C.1 C.2.1 dX12_operate_48 rfl (lv_at hl 2 rfl) ?_
        refine lv_bipush (v := 16) C.1 C.2.1 dX12_operate_49 (by decide) ?_
        refine lv_icmp_ne (tgt := 62) C.1 C.2.1 dX12_operate_51 (by decide) (fun c_179 => ?_) (fun c_179 => ?_)
        · replace c_179 : ¬ x2.toInt = 16 := i_ne c_179
          refine lv_aload_n C.1 C.2.1 dX12_operate_62 rfl (lv_at hl 0 rfl) ?_
          refine k_get (v := .ref (ad 10)) C hP 0 rfl rfl inlX12 25 (by decide) m_7_16 rfl dX12_operate_63 ?_
          refine lv_sipush (v := 6400) C.1 C.2.1 dX12_operate_66 (by decide) ?_
          refine lv_iload_n C.1 C.2.1 dX12_operate_69 rfl (lv_at hl 2 rfl) ?_
          obtain ⟨v_180, e_181⟩ : ∃ z, z = (6400 : Int32) * (x2 : Int32) := ⟨_, rfl⟩
          have h_182 : v_180.toInt = 6400 * x2.toInt := by rw [e_181]; exact ti_mull (k := 6400) (by decide) (by omega) (by omega)
          refine k_imul (v := v_180) C e_181.symm dX12_operate_70 ?_
          refine lv_bipush (v := 100) C.1 C.2.1 dX12_operate_71 (by decide) ?_
          refine lv_aload_n C.1 C.2.1 dX12_operate_73 rfl (lv_at hl 0 rfl) ?_
          refine lv_iload_n C.1 C.2.1 dX12_operate_74 rfl (lv_at hl 2 rfl) ?_
          refine g_Vi (As := [.int x2]) (rest := [.int 100, .int v_180, .ref (ad 10), .int v_176, .ref (ad 8)]) C hP hD hS hA (T_X12_blockNow l D K Z Y ad t1 hok (x2) (show (0 : Int) ≤ (x2 : Int32).toInt ∧ (x2 : Int32).toInt ≤ 15 from ⟨by omega, by omega⟩)) hE hZ (uwV m_61_0 m_61_1 m_61_2 m_1_5 m_61_3) (hdV 1 (by decide +kernel) rfl) ⟨Nat.le_of_ble_eq_true rfl, Nat.le_of_ble_eq_true rfl⟩ rfl rfl (ci := 11) (q0 := 0) rfl rfl rfl hl.1 (Nat.le_of_ble_eq_true rfl) dX12_operate_75 ⟨Nat.le_of_ble_eq_true rfl, Nat.le_of_ble_eq_true rfl⟩ (fun r_184 t_183 H locs hw hP hD hS => ?_)
          obtain ⟨h_186, h_187, p_188, p_189⟩ := hw
          replace p_188 : x2.toInt < 8 → r_184.toInt = (t1.2.2.1 9 (x2 : Int32).toNatClampNeg).toInt := p_188
          replace p_189 : 8 ≤ x2.toInt → r_184.toInt = (vO (t1.2.2.1 3 (7 : Int32).toNatClampNeg)).toInt := p_189
          have h_190 : (vO (t1.2.2.1 3 (7 : Int32).toNatClampNeg)).toInt = (vO (t.2.2.1 3 (7 : Int32).toNatClampNeg)).toInt := congrArg (fun z => (vO z).toInt) (congrFun e_152 _)
          obtain ⟨v_191, e_192⟩ : ∃ z, z = (100 : Int32) * (r_184 : Int32) := ⟨_, rfl⟩
          have h_193 : v_191.toInt = 100 * r_184.toInt := by rw [e_192]; exact ti_mull (k := 100) (by decide) (by omega) (by omega)
          refine k_imul (v := v_191) C e_192.symm dX12_operate_78 ?_
          obtain ⟨v_194, e_195⟩ : ∃ z, z = (v_180 : Int32) + (v_191 : Int32) := ⟨_, rfl⟩
          have h_196 : v_194.toInt = v_180.toInt + v_191.toInt := by rw [e_195]; exact ti_iadd (by show (_ : Int) ≤ v_180.toInt + v_191.toInt; omega) (by show v_180.toInt + v_191.toInt < (_ : Int); omega)
          refine k_iadd (v := v_194) C e_195.symm dX12_operate_79 ?_
          refine lv_iload_n C.1 C.2.1 dX12_operate_80 rfl (lv_at hl 3 rfl) ?_
          obtain ⟨v_197, e_198⟩ : ∃ z, z = (v_194 : Int32) + (w30_3 : Int32) := ⟨_, rfl⟩
          have h_199 : v_197.toInt = v_194.toInt + w30_3.toInt := by rw [e_198]; exact ti_iadd (by show (_ : Int) ≤ v_194.toInt + w30_3.toInt; omega) (by show v_194.toInt + w30_3.toInt < (_ : Int); omega)
          refine k_iadd (v := v_197) C e_198.symm dX12_operate_81 ?_
          obtain ⟨v_200, e_201⟩ : ∃ z, z = (t1.2.2.1 10 (v_197 : Int32).toNatClampNeg) := ⟨_, rfl⟩
          refine k_ild (v := v_200) C hP 10 rfl (vp_in_iff.mpr ⟨by omega, by omega⟩) e_201.symm dX12_operate_82 ?_
          refine k_ist (ws' := WM K ad (uB t1 8 (v_176 : Int32).toNatClampNeg v_200)) (x' := v_200) C hP hD hS 8 rfl (vp_in_iff.mpr ⟨by omega, by omega⟩) rfl rfl rfl dX12_operate_83 (fun H locs hP hD hS => ?_)
          have hok : okM (uB t1 8 (v_176 : Int32).toNatClampNeg v_200) := ⟨hok.1, okB_B hok.2.1 8 _ v_200 (show (-2147483648 : Int) ≤ (v_200 : Int32).toInt ∧ (v_200 : Int32).toInt ≤ 2147483647 from (i_rng _)), hok.2.2.1, hok.2.2.2.1, hok.2.2.2.2.1, hok.2.2.2.2.2.1, hok.2.2.2.2.2.2.1, trivial⟩
          have hfr : frA [(0, 30), (0, 35)] [] [5, 7, 8, 9, 10, 11, 12, 13, 14] [] t (uB t1 8 (v_176 : Int32).toNatClampNeg v_200) := frA_B hfr 8 _ _ rfl
          obtain ⟨v_202, e_203⟩ : ∃ z, z = w30_3 + 1 := ⟨_, rfl⟩
          have h_204 : v_202.toInt = w30_3.toInt + 1 := by rw [e_203]; exact ti_iadd (by show (_ : Int) ≤ w30_3.toInt + 1; omega) (by show w30_3.toInt + 1 < (_ : Int); omega)
          refine lv_iinc (v := v_202) (lv' := [(3, .int v_202), (0, .ref (ad 0)), (1, .int x1), (2, .int x2)]) C.1 C.2.1 dX12_operate_84 hl (k := 3) rfl e_203.symm (by decide) rfl (fun ls hl => ?_)
          have hl : lv_has ls 4 [(0, .ref (ad 0)), (1, .int x1), (2, .int x2), (3, .int v_202)] := lv_sub hl [1, 2, 3, 0] rfl
          refine lv_goto (tgt := 30) C.1 C.2.1 dX12_operate_87 (by decide) ?_
          exact ih_30 (uB t1 8 (v_176 : Int32).toNatClampNeg v_200) v_202 _ _ _ hok hfr ⟨by omega, by omega⟩ ⟨by omega, by omega⟩ (show x1.toInt = 36 from by omega) (show x2.toInt ≤ 16 from by omega) (show x2.toInt < 8 → 0 ≤ (t1.2.2.1 9 (x2 : Int32).toNatClampNeg).toInt ∧ (t1.2.2.1 9 (x2 : Int32).toNatClampNeg).toInt < 64 from by omega) (show 8 ≤ x2.toInt → x2.toInt < 16 → 0 ≤ (vO (t.2.2.1 3 (7 : Int32).toNatClampNeg)).toInt ∧ (vO (t.2.2.1 3 (7 : Int32).toNatClampNeg)).toInt ≤ 63 from by omega) (show x2.toInt = 16 → (t1.1 0 35).toInt < (t1.1 0 36).toInt from by omega) (show -3999 ≤ (t1.2.2.1 7 (x2 : Int32).toNatClampNeg).toInt ∧ (x2.toInt < 16 → (t1.2.2.1 7 (x2 : Int32).toNatClampNeg).toInt + 100 ≤ 4000) ∧ (16 ≤ x2.toInt → (t1.2.2.1 7 (x2 : Int32).toNatClampNeg).toInt + 16 ≤ 4000) from by omega) (show (100 : Int) - v_202.toInt < (fuel_30 : Int) from by omega) hP hD hS (lv_sub hl [0, 1, 2, 3] rfl)
        · replace c_179 : x2.toInt = 16 := i_eq c_179
          refine lv_aload_n C.1 C.2.1 dX12_operate_54 rfl (lv_at hl 0 rfl) ?_
          refine lv_iload_n C.1 C.2.1 dX12_operate_55 rfl (lv_at hl 3 rfl) ?_
          refine g_Vi (As := [.int w30_3]) (rest := [.int v_176, .ref (ad 8)]) C hP hD hS hA (T_X12_cardWord l D K Z Y ad t1 hok (w30_3) (show (0 : Int) ≤ (w30_3 : Int32).toInt ∧ (w30_3 : Int32).toInt ≤ 15 from ⟨by omega, by omega⟩)) hE hZ (uwV m_60_20 m_60_21 m_60_22 m_1_5 m_60_23) (hdV 1 (by decide +kernel) rfl) ⟨Nat.le_of_ble_eq_true rfl, Nat.le_of_ble_eq_true rfl⟩ rfl rfl (ci := 11) (q0 := 0) rfl rfl rfl hl.1 (Nat.le_of_ble_eq_true rfl) dX12_operate_56 ⟨Nat.le_of_ble_eq_true rfl, Nat.le_of_ble_eq_true rfl⟩ (fun r_206 t_205 H locs hw hP hD hS => ?_)
          obtain ⟨h_208, h_209⟩ := hw
          refine lv_goto (tgt := 83) C.1 C.2.1 dX12_operate_59 (by decide) ?_
          refine k_ist (ws' := WM K ad (uB t1 8 (v_176 : Int32).toNatClampNeg r_206)) (x' := r_206) C hP hD hS 8 rfl (vp_in_iff.mpr ⟨by omega, by omega⟩) rfl rfl rfl dX12_operate_83 (fun H locs hP hD hS => ?_)
          have hok : okM (uB t1 8 (v_176 : Int32).toNatClampNeg r_206) := ⟨hok.1, okB_B hok.2.1 8 _ r_206 (show (-2147483648 : Int) ≤ (r_206 : Int32).toInt ∧ (r_206 : Int32).toInt ≤ 2147483647 from (i_rng _)), hok.2.2.1, hok.2.2.2.1, hok.2.2.2.2.1, hok.2.2.2.2.2.1, hok.2.2.2.2.2.2.1, trivial⟩
          have hfr : frA [(0, 30), (0, 35)] [] [5, 7, 8, 9, 10, 11, 12, 13, 14] [] t (uB t1 8 (v_176 : Int32).toNatClampNeg r_206) := frA_B hfr 8 _ _ rfl
          obtain ⟨v_210, e_211⟩ : ∃ z, z = w30_3 + 1 := ⟨_, rfl⟩
          have h_212 : v_210.toInt = w30_3.toInt + 1 := by rw [e_211]; exact ti_iadd (by show (_ : Int) ≤ w30_3.toInt + 1; omega) (by show w30_3.toInt + 1 < (_ : Int); omega)
          refine lv_iinc (v := v_210) (lv' := [(3, .int v_210), (0, .ref (ad 0)), (1, .int x1), (2, .int x2)]) C.1 C.2.1 dX12_operate_84 hl (k := 3) rfl e_211.symm (by decide) rfl (fun ls hl => ?_)
          have hl : lv_has ls 4 [(0, .ref (ad 0)), (1, .int x1), (2, .int x2), (3, .int v_210)] := lv_sub hl [1, 2, 3, 0] rfl
          refine lv_goto (tgt := 30) C.1 C.2.1 dX12_operate_87 (by decide) ?_
          exact ih_30 (uB t1 8 (v_176 : Int32).toNatClampNeg r_206) v_210 _ _ _ hok hfr ⟨by omega, by omega⟩ ⟨by omega, by omega⟩ (show x1.toInt = 36 from by omega) (show x2.toInt ≤ 16 from by omega) (show x2.toInt < 8 → 0 ≤ (t1.2.2.1 9 (x2 : Int32).toNatClampNeg).toInt ∧ (t1.2.2.1 9 (x2 : Int32).toNatClampNeg).toInt < 64 from by omega) (show 8 ≤ x2.toInt → x2.toInt < 16 → 0 ≤ (vO (t.2.2.1 3 (7 : Int32).toNatClampNeg)).toInt ∧ (vO (t.2.2.1 3 (7 : Int32).toNatClampNeg)).toInt ≤ 63 from by omega) (show x2.toInt = 16 → (t1.1 0 35).toInt < (t1.1 0 36).toInt from by omega) (show -3999 ≤ (t1.2.2.1 7 (x2 : Int32).toNatClampNeg).toInt ∧ (x2.toInt < 16 → (t1.2.2.1 7 (x2 : Int32).toNatClampNeg).toInt + 100 ≤ 4000) ∧ (16 ≤ x2.toInt → (t1.2.2.1 7 (x2 : Int32).toNatClampNeg).toInt + 16 ≤ 4000) from by omega) (show (100 : Int) - v_210.toInt < (fuel_30 : Int) from by omega) hP hD hS (lv_sub hl [0, 1, 2, 3] rfl)
  refine lv_iload_n C.1 C.2.1 dX12_operate_0 rfl (lv_at hl 1 rfl) ?_
  refine lv_bipush (v := 35) C.1 C.2.1 dX12_operate_1 (by decide) ?_
  refine lv_icmp_ne (tgt := 12) C.1 C.2.1 dX12_operate_3 (by decide) (fun c_213 => ?_) (fun c_213 => ?_)
  · replace c_213 : ¬ x1.toInt = 35 := i_ne c_213
    refine lv_iload_n C.1 C.2.1 dX12_operate_12 rfl (lv_at hl 1 rfl) ?_
    refine lv_bipush (v := 36) C.1 C.2.1 dX12_operate_13 (by decide) ?_
    refine lv_icmp_ne (tgt := 116) C.1 C.2.1 dX12_operate_15 (by decide) (fun c_214 => ?_) (fun c_214 => ?_)
    · replace c_214 : ¬ x1.toInt = 36 := i_ne c_214
      have hst0 : 0 ≤ (t.2.2.1 9 (x2 : Int32).toNatClampNeg).toInt := (hok.2.1 9 _).1
      have hgA1 := hs0.2.2.2 (by omega) (by omega)
      have hU2 := hs1.2.1 (by omega)
      have hU3 := hs1.2.2.1 (by omega)
      have hU4 := hs1.2.2.2.1
      have hU5 := hs1.2.2.2.2.1
      have hU6 := hs1.2.2.2.2.2
      refine lv_iload_n C.1 C.2.1 dX12_operate_116 rfl (lv_at hl 2 rfl) ?_
      refine lv_bipush (v := 16) C.1 C.2.1 dX12_operate_117 (by decide) ?_
      refine lv_icmp_ge (tgt := 170) C.1 C.2.1 dX12_operate_119 (by decide) (fun c_215 => ?_) (fun c_215 => ?_)
      · replace c_215 : 16 ≤ x2.toInt := i_le c_215
        refine lv_aload_n C.1 C.2.1 dX12_operate_170 rfl (lv_at hl 0 rfl) ?_
        refine g_Vv (As := []) (rest := []) C hP hD hS hA (T_X12_begin l D K Z Y ad t hok ) hE hZ (uwV m_42_4 m_42_5 m_42_6 m_1_5 m_42_7) (hdV 0 (by decide +kernel) rfl) ⟨Nat.le_of_ble_eq_true rfl, Nat.le_of_ble_eq_true rfl⟩ rfl rfl (ci := 11) (q0 := 0) rfl rfl rfl hl.1 (Nat.le_of_ble_eq_true rfl) dX12_operate_171 ⟨Nat.le_of_ble_eq_true rfl, Nat.le_of_ble_eq_true rfl⟩ (fun t_216 H locs hw hP hD hS => ?_)
        obtain ⟨hok, f_218, p_219⟩ := hw
        have hfr : frA [(0, 30), (0, 35)] [] [5, 7, 8, 9, 10, 11, 12, 13, 14] [] t t_216 := frA_tr hfr f_218 rfl
        have h_220 : (t_216.1 0 18).toInt = (t.1 0 18).toInt := ti_eq (f_218.1 0 18 rfl)
        have h_221 : (t_216.1 0 35).toInt = (t.1 0 35).toInt := ti_eq (f_218.1 0 35 rfl)
        have h_222 : (t_216.1 0 36).toInt = (t.1 0 36).toInt := ti_eq (f_218.1 0 36 rfl)
        have e_223 : t_216.2.2.1 3 = t.2.2.1 3 := f_218.2.2.1 3 rfl
        have e_224 : t_216.2.2.1 7 = t.2.2.1 7 := f_218.2.2.1 7 rfl
        have e_225 : t_216.2.2.1 9 = t.2.2.1 9 := f_218.2.2.1 9 rfl
        have h_226 : (0 : Int) ≤ (t_216.1 0 30).toInt ∧ (t_216.1 0 30).toInt ≤ 120 := hok.1 0 30
        have h_227 : (0 : Int) ≤ (t_216.1 0 35).toInt ∧ (t_216.1 0 35).toInt ≤ 1700 := hok.1 0 35
        have h_228 : (0 : Int) ≤ (t_216.1 0 36).toInt ∧ (t_216.1 0 36).toInt ≤ 1700 := hok.1 0 36
        replace p_219 : (t_216.1 0 30).toInt = 0 := p_219
        refine lv_iconst (v := 0) C.1 C.2.1 dX12_operate_174 (by decide) ?_
        refine lv_istore_n (lv' := [(3, .int 0), (0, .ref (ad 0)), (1, .int x1), (2, .int x2)]) C.1 C.2.1 dX12_operate_175 rfl hl (by decide) rfl (fun ls hl => ?_)
        have hl : lv_has ls 4 [(0, .ref (ad 0)), (1, .int x1), (2, .int x2), (3, .int 0)] := lv_sub hl [1, 2, 3, 0] rfl
        exact L_176 512 t_216 0 _ _ _ hok hfr ⟨by omega, by omega⟩ ⟨by omega, by omega⟩ ⟨by decide, by decide⟩ (show 17 ≤ x2.toInt from by omega) (show -3999 ≤ (t_216.1 0 18).toInt ∧ (x2.toInt < 16 → (t_216.1 0 18).toInt + 100 ≤ 4000) ∧ (x2.toInt = 16 ∨ x2.toInt = 17 → (t_216.1 0 18).toInt + 16 ≤ 4000) ∧ (x2.toInt = 18 → (t_216.1 0 18).toInt + 24 ≤ 4000) ∧ (x2.toInt = 19 → (t_216.1 0 18).toInt + 14 ≤ 4000) from by omega) (show (t_216.1 0 30).toInt = 0 from by omega) (show (511 : Int) - 0 < ((512 : Nat) : Int) from by omega) hP hD hS (lv_sub hl [0, 1, 2, 3] rfl)
      · replace c_215 : x2.toInt < 16 := i_nle c_215
        refine lv_iconst (v := 0) C.1 C.2.1 dX12_operate_122 (by decide) ?_
        refine lv_istore_n (lv' := [(3, .int 0), (0, .ref (ad 0)), (1, .int x1), (2, .int x2)]) C.1 C.2.1 dX12_operate_123 rfl hl (by decide) rfl (fun ls hl => ?_)
        have hl : lv_has ls 4 [(0, .ref (ad 0)), (1, .int x1), (2, .int x2), (3, .int 0)] := lv_sub hl [1, 2, 3, 0] rfl
        exact L_124 101 t 0 _ _ _ hok hfr ⟨by omega, by omega⟩ ⟨by omega, by omega⟩ ⟨by decide, by decide⟩ (show x1.toInt = 37 from by omega) (show x2.toInt < 16 from by omega) (show x2.toInt < 8 → 0 ≤ (t.2.2.1 9 (x2 : Int32).toNatClampNeg).toInt ∧ (t.2.2.1 9 (x2 : Int32).toNatClampNeg).toInt < 64 from by omega) (show 8 ≤ x2.toInt → x2.toInt < 16 → 0 ≤ (vO (t.2.2.1 3 (7 : Int32).toNatClampNeg)).toInt ∧ (vO (t.2.2.1 3 (7 : Int32).toNatClampNeg)).toInt ≤ 63 from by omega) (show -3999 ≤ (t.1 0 18).toInt ∧ (x2.toInt < 16 → (t.1 0 18).toInt + 100 ≤ 4000) ∧ (x2.toInt = 16 ∨ x2.toInt = 17 → (t.1 0 18).toInt + 16 ≤ 4000) ∧ (x2.toInt = 18 → (t.1 0 18).toInt + 24 ≤ 4000) ∧ (x2.toInt = 19 → (t.1 0 18).toInt + 14 ≤ 4000) from by omega) (show (100 : Int) - 0 < ((101 : Nat) : Int) from by omega) hP hD hS (lv_sub hl [0, 1, 2, 3] rfl)
    · replace c_214 : x1.toInt = 36 := i_eq c_214
      have hst0 : 0 ≤ (t.2.2.1 9 (x2 : Int32).toNatClampNeg).toInt := (hok.2.1 9 _).1
      have hgA1 := hs0.2.2.2 (by omega) (by omega)
      have hU2 := hs1.2.1 (by omega)
      have hU3 := hs1.2.2.1 (by omega)
      have hU4 := hs1.2.2.2.1
      have hU5 := hs1.2.2.2.2.1
      have hU6 := hs1.2.2.2.2.2
      refine lv_aload_n C.1 C.2.1 dX12_operate_18 rfl (lv_at hl 0 rfl) ?_
      refine k_get (v := .ref (ad 7)) C hP 0 rfl rfl inlX12 22 (by decide) m_7_12 rfl dX12_operate_19 ?_
      refine lv_iload_n C.1 C.2.1 dX12_operate_22 rfl (lv_at hl 2 rfl) ?_
      refine lv_aload_n C.1 C.2.1 dX12_operate_23 rfl (lv_at hl 0 rfl) ?_
      refine k_get (v := .int (t.1 0 18)) C hP 0 rfl rfl inlX12 18 (by decide) m_57_5 rfl dX12_operate_24 ?_
      refine k_ist (ws' := WM K ad (uB t 7 (x2 : Int32).toNatClampNeg (t.1 0 18))) (x' := (t.1 0 18)) C hP hD hS 7 rfl (vp_in_iff.mpr ⟨by omega, by omega⟩) rfl rfl rfl dX12_operate_27 (fun H locs hP hD hS => ?_)
      have hok : okM (uB t 7 (x2 : Int32).toNatClampNeg (t.1 0 18)) := ⟨hok.1, okB_B hok.2.1 7 _ (t.1 0 18) (show (-2147483648 : Int) ≤ ((t.1 0 18) : Int32).toInt ∧ ((t.1 0 18) : Int32).toInt ≤ 2147483647 from (i_rng _)), (iM1_to hok.2.2.1 x2 (by omega) ⟨by omega, fun _ => by omega, fun _ => by omega⟩), hok.2.2.2.1, hok.2.2.2.2.1, hok.2.2.2.2.2.1, hok.2.2.2.2.2.2.1, trivial⟩
      have hfr : frA [(0, 30), (0, 35)] [] [5, 7, 8, 9, 10, 11, 12, 13, 14] [] t (uB t 7 (x2 : Int32).toNatClampNeg (t.1 0 18)) := frA_B hfr 7 _ _ rfl
      have hct : ((uB t 7 (x2 : Int32).toNatClampNeg (t.1 0 18)).2.2.1 7 (x2 : Int32).toNatClampNeg).toInt = (t.1 0 18).toInt := by show (upd _ _ _ _).toInt = _; rw [pk_us]
      refine lv_iconst (v := 0) C.1 C.2.1 dX12_operate_28 (by decide) ?_
      refine lv_istore_n (lv' := [(3, .int 0), (0, .ref (ad 0)), (1, .int x1), (2, .int x2)]) C.1 C.2.1 dX12_operate_29 rfl hl (by decide) rfl (fun ls hl => ?_)
      have hl : lv_has ls 4 [(0, .ref (ad 0)), (1, .int x1), (2, .int x2), (3, .int 0)] := lv_sub hl [1, 2, 3, 0] rfl
      exact L_30 101 (uB t 7 (x2 : Int32).toNatClampNeg (t.1 0 18)) 0 _ _ _ hok hfr ⟨by omega, by omega⟩ ⟨by decide, by decide⟩ (show x1.toInt = 36 from by omega) (show x2.toInt ≤ 16 from by omega) (show x2.toInt < 8 → 0 ≤ (t.2.2.1 9 (x2 : Int32).toNatClampNeg).toInt ∧ (t.2.2.1 9 (x2 : Int32).toNatClampNeg).toInt < 64 from by omega) (show 8 ≤ x2.toInt → x2.toInt < 16 → 0 ≤ (vO (t.2.2.1 3 (7 : Int32).toNatClampNeg)).toInt ∧ (vO (t.2.2.1 3 (7 : Int32).toNatClampNeg)).toInt ≤ 63 from by omega) (show x2.toInt = 16 → (t.1 0 35).toInt < (t.1 0 36).toInt from by omega) (show -3999 ≤ ((uB t 7 (x2 : Int32).toNatClampNeg (t.1 0 18)).2.2.1 7 (x2 : Int32).toNatClampNeg).toInt ∧ (x2.toInt < 16 → ((uB t 7 (x2 : Int32).toNatClampNeg (t.1 0 18)).2.2.1 7 (x2 : Int32).toNatClampNeg).toInt + 100 ≤ 4000) ∧ (16 ≤ x2.toInt → ((uB t 7 (x2 : Int32).toNatClampNeg (t.1 0 18)).2.2.1 7 (x2 : Int32).toNatClampNeg).toInt + 16 ≤ 4000) from by omega) (show (100 : Int) - 0 < ((101 : Nat) : Int) from by omega) hP hD hS (lv_sub hl [0, 1, 2, 3] rfl)
  · replace c_213 : x1.toInt = 35 := i_eq c_213
    refine lv_aload_n C.1 C.2.1 dX12_operate_6 rfl (lv_at hl 0 rfl) ?_
    refine lv_iload_n C.1 C.2.1 dX12_operate_7 rfl (lv_at hl 2 rfl) ?_
    refine g_Vv (As := [.int x2]) (rest := []) C hP hD hS hA (T_X12_control l D K Z Y ad t hok (x2) (show (0 : Int) ≤ (x2 : Int32).toInt ∧ (x2 : Int32).toInt ≤ 19 from ⟨by omega, by omega⟩)) hE hZ (uwV m_60_16 m_60_17 m_60_18 m_1_5 m_60_19) (hdV 1 (by decide +kernel) rfl) ⟨Nat.le_of_ble_eq_true rfl, Nat.le_of_ble_eq_true rfl⟩ rfl rfl (ci := 11) (q0 := 0) rfl rfl rfl hl.1 (Nat.le_of_ble_eq_true rfl) dX12_operate_8 ⟨Nat.le_of_ble_eq_true rfl, Nat.le_of_ble_eq_true rfl⟩ (fun t_229 H locs hw hP hD hS => ?_)
    obtain ⟨hok, f_231⟩ := hw
    have hfr : frA [(0, 30), (0, 35)] [] [5, 7, 8, 9, 10, 11, 12, 13, 14] [] t t_229 := frA_tr hfr f_231 rfl
    have h_232 : (t_229.1 0 18).toInt = (t.1 0 18).toInt := ti_eq (f_231.1 0 18 rfl)
    have h_233 : (t_229.1 0 35).toInt = (t.1 0 35).toInt := ti_eq (f_231.1 0 35 rfl)
    have h_234 : (t_229.1 0 36).toInt = (t.1 0 36).toInt := ti_eq (f_231.1 0 36 rfl)
    have e_235 : t_229.2.2.1 3 = t.2.2.1 3 := f_231.2.2.1 3 rfl
    have e_236 : t_229.2.2.1 7 = t.2.2.1 7 := f_231.2.2.1 7 rfl
    have h_237 : (0 : Int) ≤ (t_229.1 0 30).toInt ∧ (t_229.1 0 30).toInt ≤ 120 := hok.1 0 30
    have h_238 : (0 : Int) ≤ (t_229.1 0 35).toInt ∧ (t_229.1 0 35).toInt ≤ 1700 := hok.1 0 35
    have h_239 : (0 : Int) ≤ (t_229.1 0 36).toInt ∧ (t_229.1 0 36).toInt ≤ 1700 := hok.1 0 36
    exact g_vret C hr hlocks hP hD hS t_229 rfl ⟨hok, hfr⟩ (Nat.le_of_ble_eq_true rfl) (Nat.le_of_ble_eq_true rfl) dX12_operate_11
