theorem dX12_workLine_0 : decode cX12_workLine 0 = .ok (.aload_n 0, 1) := by decide +kernel
theorem dX12_workLine_1 : decode cX12_workLine 1 = .ok (.iconst 0, 1) := by decide +kernel
theorem dX12_workLine_10 : decode cX12_workLine 10 = .ok (.getfield 443, 3) := by decide +kernel
theorem dX12_workLine_100 : decode cX12_workLine 100 = .ok (.iconst (-1), 1) := by decide +kernel
theorem dX12_workLine_101 : decode cX12_workLine 101 = .ok (.if_icmp .ne 8, 3) := by decide +kernel
theorem dX12_workLine_104 : decode cX12_workLine 104 = .ok (.aload_n 0, 1) := by decide +kernel
theorem dX12_workLine_105 : decode cX12_workLine 105 = .ok (.iconst 2, 1) := by decide +kernel
theorem dX12_workLine_106 : decode cX12_workLine 106 = .ok (.invokevirtual 478, 3) := by decide +kernel
theorem dX12_workLine_109 : decode cX12_workLine 109 = .ok (.iload_n 1, 1) := by decide +kernel
theorem dX12_workLine_110 : decode cX12_workLine 110 = .ok (.sipush 6000, 3) := by decide +kernel
theorem dX12_workLine_113 : decode cX12_workLine 113 = .ok (.if_icmp .ne 9, 3) := by decide +kernel
theorem dX12_workLine_116 : decode cX12_workLine 116 = .ok (.aload_n 0, 1) := by decide +kernel
theorem dX12_workLine_117 : decode cX12_workLine 117 = .ok (.bipush 8, 2) := by decide +kernel
theorem dX12_workLine_119 : decode cX12_workLine 119 = .ok (.invokevirtual 478, 3) := by decide +kernel
theorem dX12_workLine_122 : decode cX12_workLine 122 = .ok (.aload_n 0, 1) := by decide +kernel
theorem dX12_workLine_123 : decode cX12_workLine 123 = .ok (.getfield 469, 3) := by decide +kernel
theorem dX12_workLine_126 : decode cX12_workLine 126 = .ok (.ifCond .ne 15, 3) := by decide +kernel
theorem dX12_workLine_129 : decode cX12_workLine 129 = .ok (.aload_n 0, 1) := by decide +kernel
theorem dX12_workLine_13 : decode cX12_workLine 13 = .ok (.sipush 10000, 3) := by decide +kernel
theorem dX12_workLine_130 : decode cX12_workLine 130 = .ok (.invokevirtual 587, 3) := by decide +kernel
theorem dX12_workLine_133 : decode cX12_workLine 133 = .ok (.ifCond .eq 8, 3) := by decide +kernel
theorem dX12_workLine_136 : decode cX12_workLine 136 = .ok (.aload_n 0, 1) := by decide +kernel
theorem dX12_workLine_137 : decode cX12_workLine 137 = .ok (.iconst 3, 1) := by decide +kernel
theorem dX12_workLine_138 : decode cX12_workLine 138 = .ok (.invokevirtual 478, 3) := by decide +kernel
theorem dX12_workLine_141 : decode cX12_workLine 141 = .ok (.aload_n 0, 1) := by decide +kernel
theorem dX12_workLine_142 : decode cX12_workLine 142 = .ok (.getfield 469, 3) := by decide +kernel
theorem dX12_workLine_145 : decode cX12_workLine 145 = .ok (.ifCond .le 5, 3) := by decide +kernel
theorem dX12_workLine_148 : decode cX12_workLine 148 = .ok (.iconst 0, 1) := by decide +kernel
theorem dX12_workLine_149 : decode cX12_workLine 149 = .ok (.ireturn, 1) := by decide +kernel
theorem dX12_workLine_150 : decode cX12_workLine 150 = .ok (.aload_n 0, 1) := by decide +kernel
theorem dX12_workLine_151 : decode cX12_workLine 151 = .ok (.bipush 17, 2) := by decide +kernel
theorem dX12_workLine_153 : decode cX12_workLine 153 = .ok (.putfield 472, 3) := by decide +kernel
theorem dX12_workLine_156 : decode cX12_workLine 156 = .ok (.aload_n 0, 1) := by decide +kernel
theorem dX12_workLine_157 : decode cX12_workLine 157 = .ok (.bipush 17, 2) := by decide +kernel
theorem dX12_workLine_159 : decode cX12_workLine 159 = .ok (.putfield 475, 3) := by decide +kernel
theorem dX12_workLine_16 : decode cX12_workLine 16 = .ok (.iastore, 1) := by decide +kernel
theorem dX12_workLine_162 : decode cX12_workLine 162 = .ok (.aload_n 0, 1) := by decide +kernel
theorem dX12_workLine_163 : decode cX12_workLine 163 = .ok (.getfield 475, 3) := by decide +kernel
theorem dX12_workLine_166 : decode cX12_workLine 166 = .ok (.bipush 81, 2) := by decide +kernel
theorem dX12_workLine_168 : decode cX12_workLine 168 = .ok (.if_icmp .ge 29, 3) := by decide +kernel
theorem dX12_workLine_17 : decode cX12_workLine 17 = .ok (.aload_n 0, 1) := by decide +kernel
theorem dX12_workLine_171 : decode cX12_workLine 171 = .ok (.aload_n 0, 1) := by decide +kernel
theorem dX12_workLine_172 : decode cX12_workLine 172 = .ok (.aload_n 0, 1) := by decide +kernel
theorem dX12_workLine_173 : decode cX12_workLine 173 = .ok (.getfield 475, 3) := by decide +kernel
theorem dX12_workLine_176 : decode cX12_workLine 176 = .ok (.invokevirtual 446, 3) := by decide +kernel
theorem dX12_workLine_179 : decode cX12_workLine 179 = .ok (.bipush 32, 2) := by decide +kernel
theorem dX12_workLine_18 : decode cX12_workLine 18 = .ok (.iconst 1, 1) := by decide +kernel
theorem dX12_workLine_181 : decode cX12_workLine 181 = .ok (.if_icmp .eq 16, 3) := by decide +kernel
theorem dX12_workLine_184 : decode cX12_workLine 184 = .ok (.aload_n 0, 1) := by decide +kernel
theorem dX12_workLine_185 : decode cX12_workLine 185 = .ok (.dup, 1) := by decide +kernel
theorem dX12_workLine_186 : decode cX12_workLine 186 = .ok (.getfield 475, 3) := by decide +kernel
theorem dX12_workLine_189 : decode cX12_workLine 189 = .ok (.iconst 1, 1) := by decide +kernel
theorem dX12_workLine_19 : decode cX12_workLine 19 = .ok (.invokevirtual 446, 3) := by decide +kernel
theorem dX12_workLine_190 : decode cX12_workLine 190 = .ok (.iadd, 1) := by decide +kernel
theorem dX12_workLine_191 : decode cX12_workLine 191 = .ok (.putfield 475, 3) := by decide +kernel
theorem dX12_workLine_194 : decode cX12_workLine 194 = .ok (.goto (-32), 3) := by decide +kernel
theorem dX12_workLine_197 : decode cX12_workLine 197 = .ok (.aload_n 0, 1) := by decide +kernel
theorem dX12_workLine_198 : decode cX12_workLine 198 = .ok (.iload_n 1, 1) := by decide +kernel
theorem dX12_workLine_199 : decode cX12_workLine 199 = .ok (.invokevirtual 590, 3) := by decide +kernel
theorem dX12_workLine_2 : decode cX12_workLine 2 = .ok (.putfield 469, 3) := by decide +kernel
theorem dX12_workLine_202 : decode cX12_workLine 202 = .ok (.ireturn, 1) := by decide +kernel
theorem dX12_workLine_22 : decode cX12_workLine 22 = .ok (.bipush 42, 2) := by decide +kernel
theorem dX12_workLine_24 : decode cX12_workLine 24 = .ok (.if_icmp .eq 24, 3) := by decide +kernel
theorem dX12_workLine_27 : decode cX12_workLine 27 = .ok (.aload_n 0, 1) := by decide +kernel
theorem dX12_workLine_28 : decode cX12_workLine 28 = .ok (.iconst 1, 1) := by decide +kernel
theorem dX12_workLine_29 : decode cX12_workLine 29 = .ok (.bipush 10, 2) := by decide +kernel
theorem dX12_workLine_31 : decode cX12_workLine 31 = .ok (.invokevirtual 449, 3) := by decide +kernel
theorem dX12_workLine_34 : decode cX12_workLine 34 = .ok (.ifCond .eq 16, 3) := by decide +kernel
theorem dX12_workLine_37 : decode cX12_workLine 37 = .ok (.aload_n 0, 1) := by decide +kernel
theorem dX12_workLine_38 : decode cX12_workLine 38 = .ok (.bipush 12, 2) := by decide +kernel
theorem dX12_workLine_40 : decode cX12_workLine 40 = .ok (.bipush 15, 2) := by decide +kernel
theorem dX12_workLine_42 : decode cX12_workLine 42 = .ok (.invokevirtual 449, 3) := by decide +kernel
theorem dX12_workLine_45 : decode cX12_workLine 45 = .ok (.ifCond .eq 5, 3) := by decide +kernel
theorem dX12_workLine_48 : decode cX12_workLine 48 = .ok (.iconst 0, 1) := by decide +kernel
theorem dX12_workLine_49 : decode cX12_workLine 49 = .ok (.ireturn, 1) := by decide +kernel
theorem dX12_workLine_5 : decode cX12_workLine 5 = .ok (.aload_n 0, 1) := by decide +kernel
theorem dX12_workLine_50 : decode cX12_workLine 50 = .ok (.aload_n 0, 1) := by decide +kernel
theorem dX12_workLine_51 : decode cX12_workLine 51 = .ok (.invokevirtual 581, 3) := by decide +kernel
theorem dX12_workLine_54 : decode cX12_workLine 54 = .ok (.ifCond .ne 8, 3) := by decide +kernel
theorem dX12_workLine_57 : decode cX12_workLine 57 = .ok (.aload_n 0, 1) := by decide +kernel
theorem dX12_workLine_58 : decode cX12_workLine 58 = .ok (.iconst 1, 1) := by decide +kernel
theorem dX12_workLine_59 : decode cX12_workLine 59 = .ok (.invokevirtual 478, 3) := by decide +kernel
theorem dX12_workLine_6 : decode cX12_workLine 6 = .ok (.getfield 86, 3) := by decide +kernel
theorem dX12_workLine_62 : decode cX12_workLine 62 = .ok (.aload_n 0, 1) := by decide +kernel
theorem dX12_workLine_63 : decode cX12_workLine 63 = .ok (.getfield 469, 3) := by decide +kernel
theorem dX12_workLine_66 : decode cX12_workLine 66 = .ok (.ifCond .gt 14, 3) := by decide +kernel
theorem dX12_workLine_69 : decode cX12_workLine 69 = .ok (.aload_n 0, 1) := by decide +kernel
theorem dX12_workLine_70 : decode cX12_workLine 70 = .ok (.bipush 12, 2) := by decide +kernel
theorem dX12_workLine_72 : decode cX12_workLine 72 = .ok (.bipush 15, 2) := by decide +kernel
theorem dX12_workLine_74 : decode cX12_workLine 74 = .ok (.invokevirtual 449, 3) := by decide +kernel
theorem dX12_workLine_77 : decode cX12_workLine 77 = .ok (.ifCond .eq 7, 3) := by decide +kernel
theorem dX12_workLine_80 : decode cX12_workLine 80 = .ok (.iconst (-1), 1) := by decide +kernel
theorem dX12_workLine_81 : decode cX12_workLine 81 = .ok (.goto 17, 3) := by decide +kernel
theorem dX12_workLine_84 : decode cX12_workLine 84 = .ok (.aload_n 0, 1) := by decide +kernel
theorem dX12_workLine_85 : decode cX12_workLine 85 = .ok (.bipush 12, 2) := by decide +kernel
theorem dX12_workLine_87 : decode cX12_workLine 87 = .ok (.aload_n 0, 1) := by decide +kernel
theorem dX12_workLine_88 : decode cX12_workLine 88 = .ok (.bipush 12, 2) := by decide +kernel
theorem dX12_workLine_9 : decode cX12_workLine 9 = .ok (.aload_n 0, 1) := by decide +kernel
theorem dX12_workLine_90 : decode cX12_workLine 90 = .ok (.bipush 15, 2) := by decide +kernel
theorem dX12_workLine_92 : decode cX12_workLine 92 = .ok (.invokevirtual 575, 3) := by decide +kernel
theorem dX12_workLine_95 : decode cX12_workLine 95 = .ok (.invokevirtual 584, 3) := by decide +kernel
theorem dX12_workLine_98 : decode cX12_workLine 98 = .ok (.istore_n 1, 1) := by decide +kernel
theorem dX12_workLine_99 : decode cX12_workLine 99 = .ok (.iload_n 1, 1) := by decide +kernel
set_option maxHeartbeats 4000000 in
set_option maxRecDepth 100000 in
theorem T_X12_workLine (l : Launch) (D : va_G) (K : Nat → ClassId) (Z Y : Nat → Nat) (ad : Nat → Nat) (t : tSt) (hok : okM t) (hs0 : (t.1 0 52).toInt ≤ 1190) (hs1 : (t.1 0 60).toInt ≤ 1190) (hs2 : (t.1 0 67).toInt < (t.1 0 41).toInt) (hs3 : (t.2.2.1 19 ((t.1 0 67) : Int32).toNatClampNeg).toInt ≤ (t.2.2.1 20 ((t.1 0 67) : Int32).toNatClampNeg).toInt) : tMet l yX12_workLine cX12_workLine 2 (some .boolean) (rmD 17 0 0) D K Z Y [.ref (ad 0)] (WM K ad t) (QI D K (fun (r : Int32) (u : tSt) => okM u ∧ frA [(0, 45), (0, 47), (0, 48), (0, 52), (0, 60), (0, 68), (0, 69), (0, 70), (0, 71), (0, 72), (0, 73)] [] [2, 21, 22, 24, 25, 26, 27, 28, 29, 30, 31, 32, 33, 34, 35, 44] [23] t u ∧ (0 : Int) ≤ r.toInt ∧ r.toInt ≤ 1 ∧ ((t.1 0 52).toInt ≤ (u.1 0 52).toInt) ∧ (9 * ((u.1 0 52).toInt - (t.1 0 52).toInt) ≤ (t.2.2.1 20 ((t.1 0 67) : Int32).toNatClampNeg).toInt + 1 - (t.2.2.1 19 ((t.1 0 67) : Int32).toNatClampNeg).toInt) ∧ ((t.1 0 60).toInt ≤ (u.1 0 60).toInt) ∧ (13 * ((u.1 0 60).toInt - (t.1 0 60).toInt) ≤ (t.2.2.1 20 ((t.1 0 67) : Int32).toNatClampNeg).toInt + 1 - (t.2.2.1 19 ((t.1 0 67) : Int32).toNatClampNeg).toInt)) (fun (u : tSt) => WM K ad u)) 0 0 := by
  refine t_met RX12 ⟨rfl, by decide +kernel⟩ (Nat.le_of_ble_eq_true rfl) ?_
  intro p e s m below meth c A ls C hE hZ hr hlocks hA hP hD hS hl
  have hl : lv_has ls 2 [(0, .ref (ad 0))] := hl
  have hokt := hok
  have hfr : frA [(0, 45), (0, 47), (0, 48), (0, 52), (0, 60), (0, 68), (0, 69), (0, 70), (0, 71), (0, 72), (0, 73)] [] [2, 21, 22, 24, 25, 26, 27, 28, 29, 30, 31, 32, 33, 34, 35, 44] [23] t t := frA_rf
  have h_1 : (0 : Int) ≤ (t.1 0 41).toInt ∧ (t.1 0 41).toInt ≤ 1280 := hok.1 0 41
  have h_2 : (0 : Int) ≤ (t.1 0 52).toInt ∧ (t.1 0 52).toInt ≤ 1200 := hok.1 0 52
  have h_3 : (0 : Int) ≤ (t.1 0 60).toInt ∧ (t.1 0 60).toInt ≤ 1200 := hok.1 0 60
  have h_4 : (0 : Int) ≤ (t.1 0 67).toInt ∧ (t.1 0 67).toInt ≤ 1281 := hok.1 0 67
  have h_5 : (0 : Int) ≤ (t.1 0 68).toInt ∧ (t.1 0 68).toInt ≤ 81 := hok.1 0 68
  have h_6 : (0 : Int) ≤ (t.1 0 69).toInt ∧ (t.1 0 69).toInt ≤ 81 := hok.1 0 69
  have h_7 : (0 : Int) ≤ (t.1 0 70).toInt ∧ (t.1 0 70).toInt ≤ 8 := hok.1 0 70
  have L_162 : ∀ (fuel_162 : Nat) (t1 : tSt) (w162_1 : Int32) (H : Heap) (locs : List Loc) (ls : Array Slot), okM t1 → frA [(0, 45), (0, 47), (0, 48), (0, 52), (0, 60), (0, 68), (0, 69), (0, 70), (0, 71), (0, 72), (0, 73)] [] [2, 21, 22, 24, 25, 26, 27, 28, 29, 30, 31, 32, 33, 34, 35, 44] [23] t t1 → (-1 : Int) ≤ w162_1.toInt ∧ w162_1.toInt ≤ 6000 → (17 : Int) ≤ (t1.1 0 68).toInt ∧ (t1.1 0 68).toInt ≤ 17 → (17 : Int) ≤ (t1.1 0 69).toInt ∧ (t1.1 0 69).toInt ≤ 81 → (0 : Int) ≤ (t1.1 0 70).toInt ∧ (t1.1 0 70).toInt ≤ 0 → ((t1.1 0 52).toInt = (t.1 0 52).toInt) → ((t1.1 0 60).toInt = (t.1 0 60).toInt) → ((t.2.2.1 19 ((t.1 0 67) : Int32).toNatClampNeg).toInt + 12 ≤ (t.2.2.1 20 ((t.1 0 67) : Int32).toNatClampNeg).toInt) → ((t1.1 0 68).toInt = 17) → (17 ≤ (t1.1 0 69).toInt) → ((t1.1 0 69).toInt ≤ 81) → ((t1.1 0 69).toInt = 17 ∨ (t.2.2.1 19 ((t.1 0 67) : Int32).toNatClampNeg).toInt + 17 ≤ (t.2.2.1 20 ((t.1 0 67) : Int32).toNatClampNeg).toInt) → (81 - (t1.1 0 69).toInt) < (fuel_162 : Int) → va_P D vwCl (WM K ad t1) H → va_D A (WM K ad t1) → va_S A s.heap H locs → lv_has ls 2 [(0, .ref (ad 0)), (1, .int w162_1)] → W p l e (rmD 17 0 0) s m [.ref (ad 0)].toArray below meth c H locs 0 0 (MQ below (QI D K (fun (r : Int32) (u : tSt) => okM u ∧ frA [(0, 45), (0, 47), (0, 48), (0, 52), (0, 60), (0, 68), (0, 69), (0, 70), (0, 71), (0, 72), (0, 73)] [] [2, 21, 22, 24, 25, 26, 27, 28, 29, 30, 31, 32, 33, 34, 35, 44] [23] t u ∧ (0 : Int) ≤ r.toInt ∧ r.toInt ≤ 1 ∧ ((t.1 0 52).toInt ≤ (u.1 0 52).toInt) ∧ (9 * ((u.1 0 52).toInt - (t.1 0 52).toInt) ≤ (t.2.2.1 20 ((t.1 0 67) : Int32).toNatClampNeg).toInt + 1 - (t.2.2.1 19 ((t.1 0 67) : Int32).toNatClampNeg).toInt) ∧ ((t.1 0 60).toInt ≤ (u.1 0 60).toInt) ∧ (13 * ((u.1 0 60).toInt - (t.1 0 60).toInt) ≤ (t.2.2.1 20 ((t.1 0 67) : Int32).toNatClampNeg).toInt + 1 - (t.2.2.1 19 ((t.1 0 67) : Int32).toNatClampNeg).toInt)) (fun (u : tSt) => WM K ad u) A) [.ref (ad 0)].toArray s 0 0 A) (F0 m 162 ls []) := by
    intro fuel_162
    induction fuel_162 with
    | zero =>
      intro t1 w162_1 H locs ls hok hfr hw162_1 hf162_68 hf162_69 hf162_70 hi162_0 hi162_1 hi162_2 hi162_3 hi162_4 hi162_5 hi162_6 hm162_162 hP hD hS hl
      have h_8 : (t1.1 0 41).toInt = (t.1 0 41).toInt := ti_eq (hfr.1 0 41 rfl)
      have h_9 : (t1.1 0 67).toInt = (t.1 0 67).toInt := ti_eq (hfr.1 0 67 rfl)
      have e_10 : t1.2.2.1 19 = t.2.2.1 19 := hfr.2.2.1 19 rfl
      have e_11 : t1.2.2.1 20 = t.2.2.1 20 := hfr.2.2.1 20 rfl
      have h_12 : (0 : Int) ≤ (t1.1 0 41).toInt ∧ (t1.1 0 41).toInt ≤ 1280 := hok.1 0 41
      have h_13 : (0 : Int) ≤ (t1.1 0 52).toInt ∧ (t1.1 0 52).toInt ≤ 1200 := hok.1 0 52
      have h_14 : (0 : Int) ≤ (t1.1 0 60).toInt ∧ (t1.1 0 60).toInt ≤ 1200 := hok.1 0 60
      have h_15 : (0 : Int) ≤ (t1.1 0 67).toInt ∧ (t1.1 0 67).toInt ≤ 1281 := hok.1 0 67
      have h_16 : (t.2.2.1 19 (t1.1 0 67 : Int32).toNatClampNeg).toInt = (t.2.2.1 19 (t.1 0 67 : Int32).toNatClampNeg).toInt := by rw [hfr.1 0 67 rfl]
      have h_17 : (t.2.2.1 20 (t1.1 0 67 : Int32).toNatClampNeg).toInt = (t.2.2.1 20 (t.1 0 67 : Int32).toNatClampNeg).toInt := by rw [hfr.1 0 67 rfl]
      exact absurd hm162_162 (by omega)
    | succ fuel_162 ih_162 =>
      intro t1 w162_1 H locs ls hok hfr hw162_1 hf162_68 hf162_69 hf162_70 hi162_0 hi162_1 hi162_2 hi162_3 hi162_4 hi162_5 hi162_6 hm162_162 hP hD hS hl
      have hm162_162 : (81 - (t1.1 0 69).toInt) < (fuel_162 : Int) + 1 := by omega
      have h_18 : (t1.1 0 41).toInt = (t.1 0 41).toInt := ti_eq (hfr.1 0 41 rfl)
      have h_19 : (t1.1 0 67).toInt = (t.1 0 67).toInt := ti_eq (hfr.1 0 67 rfl)
      have e_20 : t1.2.2.1 19 = t.2.2.1 19 := hfr.2.2.1 19 rfl
      have e_21 : t1.2.2.1 20 = t.2.2.1 20 := hfr.2.2.1 20 rfl
      have h_22 : (0 : Int) ≤ (t1.1 0 41).toInt ∧ (t1.1 0 41).toInt ≤ 1280 := hok.1 0 41
      have h_23 : (0 : Int) ≤ (t1.1 0 52).toInt ∧ (t1.1 0 52).toInt ≤ 1200 := hok.1 0 52
      have h_24 : (0 : Int) ≤ (t1.1 0 60).toInt ∧ (t1.1 0 60).toInt ≤ 1200 := hok.1 0 60
      have h_25 : (0 : Int) ≤ (t1.1 0 67).toInt ∧ (t1.1 0 67).toInt ≤ 1281 := hok.1 0 67
      have h_26 : (t.2.2.1 19 (t1.1 0 67 : Int32).toNatClampNeg).toInt = (t.2.2.1 19 (t.1 0 67 : Int32).toNatClampNeg).toInt := by rw [hfr.1 0 67 rfl]
      have h_27 : (t.2.2.1 20 (t1.1 0 67 : Int32).toNatClampNeg).toInt = (t.2.2.1 20 (t.1 0 67 : Int32).toNatClampNeg).toInt := by rw [hfr.1 0 67 rfl]
      refine lv_aload_n C.1 C.2.1 dX12_workLine_162 rfl (lv_at hl 0 rfl) ?_
      refine k_get (v := .int (t1.1 0 69)) C hP 0 rfl rfl inlX12 69 (by decide) m_31_7 rfl dX12_workLine_163 ?_
      refine lv_bipush (v := 81) C.1 C.2.1 dX12_workLine_166 (by decide) ?_
      refine lv_icmp_ge (tgt := 197) C.1 C.2.1 dX12_workLine_168 (by decide) (fun c_28 => ?_) (fun c_28 => ?_)
      · replace c_28 : 81 ≤ (t1.1 0 69).toInt := i_le c_28
        refine lv_aload_n C.1 C.2.1 dX12_workLine_197 rfl (lv_at hl 0 rfl) ?_
        refine lv_iload_n C.1 C.2.1 dX12_workLine_198 rfl (lv_at hl 1 rfl) ?_
        have h_29 : (t1.2.2.1 19 ((t1.1 0 67) : Int32).toNatClampNeg).toInt = (t.2.2.1 19 ((t1.1 0 67) : Int32).toNatClampNeg).toInt := tb_eq e_20 _
        have h_30 : (t1.2.2.1 20 ((t1.1 0 67) : Int32).toNatClampNeg).toInt = (t.2.2.1 20 ((t1.1 0 67) : Int32).toNatClampNeg).toInt := tb_eq e_21 _
        refine g_Vi (As := [.int w162_1]) (rest := []) C hP hD hS hA (T_X12_workAddress l D K Z Y ad t1 hok (w162_1) (show (-1 : Int) ≤ (w162_1 : Int32).toInt ∧ (w162_1 : Int32).toInt ≤ 6399 from ⟨by omega, by omega⟩) (show (t1.1 0 68).toInt = 17 from by omega) (show (t1.2.2.1 19 ((t1.1 0 67) : Int32).toNatClampNeg).toInt + 12 ≤ (t1.2.2.1 20 ((t1.1 0 67) : Int32).toNatClampNeg).toInt from by omega) (show (t1.1 0 69).toInt ≤ 17 ∨ (t1.2.2.1 19 ((t1.1 0 67) : Int32).toNatClampNeg).toInt + 17 ≤ (t1.2.2.1 20 ((t1.1 0 67) : Int32).toNatClampNeg).toInt from by omega) (show (t1.1 0 52).toInt ≤ 1190 from by omega) (show (t1.1 0 60).toInt ≤ 1190 from by omega)) hE hZ (uwV m_34_2 m_34_3 m_34_4 m_1_5 m_34_5) (hdV 1 (by decide +kernel) rfl) ⟨Nat.le_of_ble_eq_true rfl, Nat.le_of_ble_eq_true rfl⟩ rfl rfl (ci := 11) (q0 := 0) rfl rfl rfl hl.1 (Nat.le_of_ble_eq_true rfl) dX12_workLine_199 ⟨Nat.le_of_ble_eq_true rfl, Nat.le_of_ble_eq_true rfl⟩ (fun r_32 t_31 H locs hw hP hD hS => ?_)
        obtain ⟨hok, f_33, h_34, h_35, p_36, p_37, p_38, p_39⟩ := hw
        have hfr : frA [(0, 45), (0, 47), (0, 48), (0, 52), (0, 60), (0, 68), (0, 69), (0, 70), (0, 71), (0, 72), (0, 73)] [] [2, 21, 22, 24, 25, 26, 27, 28, 29, 30, 31, 32, 33, 34, 35, 44] [23] t t_31 := frA_tr hfr f_33 rfl
        have h_40 : (t_31.1 0 69).toInt = (t1.1 0 69).toInt := ti_eq (f_33.1 0 69 rfl)
        have h_41 : (t_31.1 0 41).toInt = (t1.1 0 41).toInt := ti_eq (f_33.1 0 41 rfl)
        have h_42 : (t_31.1 0 67).toInt = (t1.1 0 67).toInt := ti_eq (f_33.1 0 67 rfl)
        have e_43 : t_31.2.2.1 19 = t.2.2.1 19 := (f_33.2.2.1 19 rfl).trans (e_20)
        have e_44 : t_31.2.2.1 20 = t.2.2.1 20 := (f_33.2.2.1 20 rfl).trans (e_21)
        have h_45 : (t.2.2.1 19 (t_31.1 0 67 : Int32).toNatClampNeg).toInt = (t.2.2.1 19 (t1.1 0 67 : Int32).toNatClampNeg).toInt := by rw [show t_31.1 0 67 = t1.1 0 67 from f_33.1 0 67 rfl]
        have h_46 : (t.2.2.1 20 (t_31.1 0 67 : Int32).toNatClampNeg).toInt = (t.2.2.1 20 (t1.1 0 67 : Int32).toNatClampNeg).toInt := by rw [show t_31.1 0 67 = t1.1 0 67 from f_33.1 0 67 rfl]
        have h_47 : (0 : Int) ≤ (t_31.1 0 41).toInt ∧ (t_31.1 0 41).toInt ≤ 1280 := hok.1 0 41
        have h_48 : (0 : Int) ≤ (t_31.1 0 52).toInt ∧ (t_31.1 0 52).toInt ≤ 1200 := hok.1 0 52
        have h_49 : (0 : Int) ≤ (t_31.1 0 60).toInt ∧ (t_31.1 0 60).toInt ≤ 1200 := hok.1 0 60
        have h_50 : (0 : Int) ≤ (t_31.1 0 67).toInt ∧ (t_31.1 0 67).toInt ≤ 1281 := hok.1 0 67
        have h_51 : (0 : Int) ≤ (t_31.1 0 68).toInt ∧ (t_31.1 0 68).toInt ≤ 81 := hok.1 0 68
        have h_52 : (0 : Int) ≤ (t_31.1 0 70).toInt ∧ (t_31.1 0 70).toInt ≤ 8 := hok.1 0 70
        replace p_36 : (t1.1 0 52).toInt ≤ (t_31.1 0 52).toInt := p_36
        replace p_37 : 9 * ((t_31.1 0 52).toInt - (t1.1 0 52).toInt) ≤ (t1.2.2.1 20 ((t1.1 0 67) : Int32).toNatClampNeg).toInt + 1 - (t1.2.2.1 19 ((t1.1 0 67) : Int32).toNatClampNeg).toInt := p_37
        replace p_38 : (t1.1 0 60).toInt ≤ (t_31.1 0 60).toInt := p_38
        replace p_39 : 13 * ((t_31.1 0 60).toInt - (t1.1 0 60).toInt) ≤ (t1.2.2.1 20 ((t1.1 0 67) : Int32).toNatClampNeg).toInt + 1 - (t1.2.2.1 19 ((t1.1 0 67) : Int32).toNatClampNeg).toInt := p_39
        exact g_iret C hr hlocks hP hD hS (nar01 (by omega) (by omega)) t_31 rfl ⟨hok, hfr, by omega, by omega, (show (t.1 0 52).toInt ≤ (t_31.1 0 52).toInt from by omega), (show 9 * ((t_31.1 0 52).toInt - (t.1 0 52).toInt) ≤ (t.2.2.1 20 ((t.1 0 67) : Int32).toNatClampNeg).toInt + 1 - (t.2.2.1 19 ((t.1 0 67) : Int32).toNatClampNeg).toInt from by omega), (show (t.1 0 60).toInt ≤ (t_31.1 0 60).toInt from by omega), (show 13 * ((t_31.1 0 60).toInt - (t.1 0 60).toInt) ≤ (t.2.2.1 20 ((t.1 0 67) : Int32).toNatClampNeg).toInt + 1 - (t.2.2.1 19 ((t.1 0 67) : Int32).toNatClampNeg).toInt from by omega)⟩ (Nat.le_of_ble_eq_true rfl) (Nat.le_of_ble_eq_true rfl) dX12_workLine_202
      · replace c_28 : (t1.1 0 69).toInt < 81 := i_nle c_28
        refine lv_aload_n C.1 C.2.1 dX12_workLine_171 rfl (lv_at hl 0 rfl) ?_
        refine lv_aload_n C.1 C.2.1 dX12_workLine_172 rfl (lv_at hl 0 rfl) ?_
        refine k_get (v := .int (t1.1 0 69)) C hP 0 rfl rfl inlX12 69 (by decide) m_31_7 rfl dX12_workLine_173 ?_
        refine g_Vi (As := [.int (t1.1 0 69)]) (rest := []) C hP hD hS hA (T_X12_letterAt l D K Z Y ad t1 hok ((t1.1 0 69)) (show (1 : Int) ≤ ((t1.1 0 69) : Int32).toInt ∧ ((t1.1 0 69) : Int32).toInt ≤ 100 from ⟨by omega, by omega⟩)) hE hZ (uwV m_31_8 m_31_9 m_31_10 m_1_5 m_31_11) (hdV 1 (by decide +kernel) rfl) ⟨Nat.le_of_ble_eq_true rfl, Nat.le_of_ble_eq_true rfl⟩ rfl rfl (ci := 11) (q0 := 0) rfl rfl rfl hl.1 (Nat.le_of_ble_eq_true rfl) dX12_workLine_176 ⟨Nat.le_of_ble_eq_true rfl, Nat.le_of_ble_eq_true rfl⟩ (fun r_54 t_53 H locs hw hP hD hS => ?_)
        obtain ⟨h_56, h_57, p_58, p_59, p_60, p_61⟩ := hw
        replace p_58 : r_54 = fLet t1 (t1.1 0 69) := p_58
        replace p_59 : r_54.toInt = (fLet t1 (t1.1 0 69)).toInt := p_59
        replace p_60 : ¬ r_54.toInt = 32 → (t1.2.2.1 19 ((t1.1 0 67) : Int32).toNatClampNeg).toInt + (t1.1 0 69).toInt ≤ (t1.2.2.1 20 ((t1.1 0 67) : Int32).toNatClampNeg).toInt := p_60
        have h_62 : (t1.2.2.1 19 ((t1.1 0 67) : Int32).toNatClampNeg).toInt = (t.2.2.1 19 ((t1.1 0 67) : Int32).toNatClampNeg).toInt := tb_eq e_20 _
        have h_63 : (t1.2.2.1 20 ((t1.1 0 67) : Int32).toNatClampNeg).toInt = (t.2.2.1 20 ((t1.1 0 67) : Int32).toNatClampNeg).toInt := tb_eq e_21 _
        replace p_61 : 81 ≤ (t1.1 0 69).toInt → r_54.toInt = 32 := p_61
        refine lv_bipush (v := 32) C.1 C.2.1 dX12_workLine_179 (by decide) ?_
        refine lv_icmp_eq (tgt := 197) C.1 C.2.1 dX12_workLine_181 (by decide) (fun c_64 => ?_) (fun c_64 => ?_)
        · replace c_64 : r_54.toInt = 32 := i_eq c_64
          refine lv_aload_n C.1 C.2.1 dX12_workLine_197 rfl (lv_at hl 0 rfl) ?_
          refine lv_iload_n C.1 C.2.1 dX12_workLine_198 rfl (lv_at hl 1 rfl) ?_
          refine g_Vi (As := [.int w162_1]) (rest := []) C hP hD hS hA (T_X12_workAddress l D K Z Y ad t1 hok (w162_1) (show (-1 : Int) ≤ (w162_1 : Int32).toInt ∧ (w162_1 : Int32).toInt ≤ 6399 from ⟨by omega, by omega⟩) (show (t1.1 0 68).toInt = 17 from by omega) (show (t1.2.2.1 19 ((t1.1 0 67) : Int32).toNatClampNeg).toInt + 12 ≤ (t1.2.2.1 20 ((t1.1 0 67) : Int32).toNatClampNeg).toInt from by omega) (show (t1.1 0 69).toInt ≤ 17 ∨ (t1.2.2.1 19 ((t1.1 0 67) : Int32).toNatClampNeg).toInt + 17 ≤ (t1.2.2.1 20 ((t1.1 0 67) : Int32).toNatClampNeg).toInt from by omega) (show (t1.1 0 52).toInt ≤ 1190 from by omega) (show (t1.1 0 60).toInt ≤ 1190 from by omega)) hE hZ (uwV m_34_2 m_34_3 m_34_4 m_1_5 m_34_5) (hdV 1 (by decide +kernel) rfl) ⟨Nat.le_of_ble_eq_true rfl, Nat.le_of_ble_eq_true rfl⟩ rfl rfl (ci := 11) (q0 := 0) rfl rfl rfl hl.1 (Nat.le_of_ble_eq_true rfl) dX12_workLine_199 ⟨Nat.le_of_ble_eq_true rfl, Nat.le_of_ble_eq_true rfl⟩ (fun r_66 t_65 H locs hw hP hD hS => ?_)
          obtain ⟨hok, f_67, h_68, h_69, p_70, p_71, p_72, p_73⟩ := hw
          have hfr : frA [(0, 45), (0, 47), (0, 48), (0, 52), (0, 60), (0, 68), (0, 69), (0, 70), (0, 71), (0, 72), (0, 73)] [] [2, 21, 22, 24, 25, 26, 27, 28, 29, 30, 31, 32, 33, 34, 35, 44] [23] t t_65 := frA_tr hfr f_67 rfl
          have h_74 : (t_65.1 0 69).toInt = (t1.1 0 69).toInt := ti_eq (f_67.1 0 69 rfl)
          have h_75 : (t_65.1 0 41).toInt = (t1.1 0 41).toInt := ti_eq (f_67.1 0 41 rfl)
          have h_76 : (t_65.1 0 67).toInt = (t1.1 0 67).toInt := ti_eq (f_67.1 0 67 rfl)
          have e_77 : t_65.2.2.1 19 = t.2.2.1 19 := (f_67.2.2.1 19 rfl).trans (e_20)
          have e_78 : t_65.2.2.1 20 = t.2.2.1 20 := (f_67.2.2.1 20 rfl).trans (e_21)
          have h_79 : (t.2.2.1 19 (t_65.1 0 67 : Int32).toNatClampNeg).toInt = (t.2.2.1 19 (t1.1 0 67 : Int32).toNatClampNeg).toInt := by rw [show t_65.1 0 67 = t1.1 0 67 from f_67.1 0 67 rfl]
          have h_80 : (t.2.2.1 20 (t_65.1 0 67 : Int32).toNatClampNeg).toInt = (t.2.2.1 20 (t1.1 0 67 : Int32).toNatClampNeg).toInt := by rw [show t_65.1 0 67 = t1.1 0 67 from f_67.1 0 67 rfl]
          have h_81 : (0 : Int) ≤ (t_65.1 0 41).toInt ∧ (t_65.1 0 41).toInt ≤ 1280 := hok.1 0 41
          have h_82 : (0 : Int) ≤ (t_65.1 0 52).toInt ∧ (t_65.1 0 52).toInt ≤ 1200 := hok.1 0 52
          have h_83 : (0 : Int) ≤ (t_65.1 0 60).toInt ∧ (t_65.1 0 60).toInt ≤ 1200 := hok.1 0 60
          have h_84 : (0 : Int) ≤ (t_65.1 0 67).toInt ∧ (t_65.1 0 67).toInt ≤ 1281 := hok.1 0 67
          have h_85 : (0 : Int) ≤ (t_65.1 0 68).toInt ∧ (t_65.1 0 68).toInt ≤ 81 := hok.1 0 68
          have h_86 : (0 : Int) ≤ (t_65.1 0 70).toInt ∧ (t_65.1 0 70).toInt ≤ 8 := hok.1 0 70
          replace p_70 : (t1.1 0 52).toInt ≤ (t_65.1 0 52).toInt := p_70
          replace p_71 : 9 * ((t_65.1 0 52).toInt - (t1.1 0 52).toInt) ≤ (t1.2.2.1 20 ((t1.1 0 67) : Int32).toNatClampNeg).toInt + 1 - (t1.2.2.1 19 ((t1.1 0 67) : Int32).toNatClampNeg).toInt := p_71
          replace p_72 : (t1.1 0 60).toInt ≤ (t_65.1 0 60).toInt := p_72
          replace p_73 : 13 * ((t_65.1 0 60).toInt - (t1.1 0 60).toInt) ≤ (t1.2.2.1 20 ((t1.1 0 67) : Int32).toNatClampNeg).toInt + 1 - (t1.2.2.1 19 ((t1.1 0 67) : Int32).toNatClampNeg).toInt := p_73
          exact g_iret C hr hlocks hP hD hS (nar01 (by omega) (by omega)) t_65 rfl ⟨hok, hfr, by omega, by omega, (show (t.1 0 52).toInt ≤ (t_65.1 0 52).toInt from by omega), (show 9 * ((t_65.1 0 52).toInt - (t.1 0 52).toInt) ≤ (t.2.2.1 20 ((t.1 0 67) : Int32).toNatClampNeg).toInt + 1 - (t.2.2.1 19 ((t.1 0 67) : Int32).toNatClampNeg).toInt from by omega), (show (t.1 0 60).toInt ≤ (t_65.1 0 60).toInt from by omega), (show 13 * ((t_65.1 0 60).toInt - (t.1 0 60).toInt) ≤ (t.2.2.1 20 ((t.1 0 67) : Int32).toNatClampNeg).toInt + 1 - (t.2.2.1 19 ((t.1 0 67) : Int32).toNatClampNeg).toInt from by omega)⟩ (Nat.le_of_ble_eq_true rfl) (Nat.le_of_ble_eq_true rfl) dX12_workLine_202
        · replace c_64 : ¬ r_54.toInt = 32 := i_ne c_64
          refine lv_aload_n C.1 C.2.1 dX12_workLine_184 rfl (lv_at hl 0 rfl) ?_
          refine lv_dup C.1 C.2.1 dX12_workLine_185 rfl ?_
          refine k_get (v := .int (t1.1 0 69)) C hP 0 rfl rfl inlX12 69 (by decide) m_31_7 rfl dX12_workLine_186 ?_
          refine lv_iconst (v := 1) C.1 C.2.1 dX12_workLine_189 (by decide) ?_
          obtain ⟨v_87, e_88⟩ : ∃ z, z = ((t1.1 0 69) : Int32) + (1 : Int32) := ⟨_, rfl⟩
          have h_89 : v_87.toInt = (t1.1 0 69).toInt + 1 := by rw [e_88]; exact ti_iadd (by show (_ : Int) ≤ (t1.1 0 69).toInt + 1; omega) (by show (t1.1 0 69).toInt + 1 < (_ : Int); omega)
          refine k_iadd (v := v_87) C e_88.symm dX12_workLine_190 ?_
          refine k_put (ws' := WM K ad (uI t1 0 69 v_87)) (v := .int v_87) C hP hD hS 0 rfl rfl inlX12 tyX12_ok nmX12 69 (by decide) m_31_7 rfl rfl rfl rfl rfl dX12_workLine_191 (fun H locs hP hD hS => ?_)
          have hok : okM (uI t1 0 69 v_87) := ⟨okI_I hok.1 0 69 v_87 (show (0 : Int) ≤ (v_87 : Int32).toInt ∧ (v_87 : Int32).toInt ≤ 81 from ⟨by omega, by omega⟩), hok.2.1, hok.2.2.1, hok.2.2.2.1, hok.2.2.2.2.1, hok.2.2.2.2.2.1, hok.2.2.2.2.2.2.1, trivial⟩
          have hfr : frA [(0, 45), (0, 47), (0, 48), (0, 52), (0, 60), (0, 68), (0, 69), (0, 70), (0, 71), (0, 72), (0, 73)] [] [2, 21, 22, 24, 25, 26, 27, 28, 29, 30, 31, 32, 33, 34, 35, 44] [23] t (uI t1 0 69 v_87) := frA_I hfr 0 69 _ rfl
          refine lv_goto (tgt := 162) C.1 C.2.1 dX12_workLine_194 (by decide) ?_
          exact ih_162 (uI t1 0 69 v_87) w162_1 _ _ _ hok hfr ⟨by omega, by omega⟩ (show (17 : Int) ≤ ((t1.1 0 68) : Int32).toInt ∧ ((t1.1 0 68) : Int32).toInt ≤ 17 from ⟨by omega, by omega⟩) (show (17 : Int) ≤ (v_87 : Int32).toInt ∧ (v_87 : Int32).toInt ≤ 81 from ⟨by omega, by omega⟩) (show (0 : Int) ≤ ((t1.1 0 70) : Int32).toInt ∧ ((t1.1 0 70) : Int32).toInt ≤ 0 from ⟨by omega, by omega⟩) (show (t1.1 0 52).toInt = (t.1 0 52).toInt from by omega) (show (t1.1 0 60).toInt = (t.1 0 60).toInt from by omega) (show (t.2.2.1 19 ((t.1 0 67) : Int32).toNatClampNeg).toInt + 12 ≤ (t.2.2.1 20 ((t.1 0 67) : Int32).toNatClampNeg).toInt from by omega) (show (t1.1 0 68).toInt = 17 from by omega) (show 17 ≤ v_87.toInt from by omega) (show v_87.toInt ≤ 81 from by omega) (show v_87.toInt = 17 ∨ (t.2.2.1 19 ((t.1 0 67) : Int32).toNatClampNeg).toInt + 17 ≤ (t.2.2.1 20 ((t.1 0 67) : Int32).toNatClampNeg).toInt from by omega) (show (81 - v_87.toInt) < (fuel_162 : Int) from by omega) hP hD hS (lv_sub hl [0, 1] rfl)
  have L_141 : ∀ (t1 : tSt) (w141_1 : Int32) (H : Heap) (locs : List Loc) (ls : Array Slot), okM t1 → frA [(0, 45), (0, 47), (0, 48), (0, 52), (0, 60), (0, 68), (0, 69), (0, 70), (0, 71), (0, 72), (0, 73)] [] [2, 21, 22, 24, 25, 26, 27, 28, 29, 30, 31, 32, 33, 34, 35, 44] [23] t t1 → (-1 : Int) ≤ w141_1.toInt ∧ w141_1.toInt ≤ 6000 → ((t1.1 0 52).toInt = (t.1 0 52).toInt) → ((t1.1 0 60).toInt = (t.1 0 60).toInt) → (1 ≤ (t1.1 0 70).toInt ∨ (t.2.2.1 19 ((t.1 0 67) : Int32).toNatClampNeg).toInt + 12 ≤ (t.2.2.1 20 ((t.1 0 67) : Int32).toNatClampNeg).toInt) → va_P D vwCl (WM K ad t1) H → va_D A (WM K ad t1) → va_S A s.heap H locs → lv_has ls 2 [(0, .ref (ad 0)), (1, .int w141_1)] → W p l e (rmD 17 0 0) s m [.ref (ad 0)].toArray below meth c H locs 0 0 (MQ below (QI D K (fun (r : Int32) (u : tSt) => okM u ∧ frA [(0, 45), (0, 47), (0, 48), (0, 52), (0, 60), (0, 68), (0, 69), (0, 70), (0, 71), (0, 72), (0, 73)] [] [2, 21, 22, 24, 25, 26, 27, 28, 29, 30, 31, 32, 33, 34, 35, 44] [23] t u ∧ (0 : Int) ≤ r.toInt ∧ r.toInt ≤ 1 ∧ ((t.1 0 52).toInt ≤ (u.1 0 52).toInt) ∧ (9 * ((u.1 0 52).toInt - (t.1 0 52).toInt) ≤ (t.2.2.1 20 ((t.1 0 67) : Int32).toNatClampNeg).toInt + 1 - (t.2.2.1 19 ((t.1 0 67) : Int32).toNatClampNeg).toInt) ∧ ((t.1 0 60).toInt ≤ (u.1 0 60).toInt) ∧ (13 * ((u.1 0 60).toInt - (t.1 0 60).toInt) ≤ (t.2.2.1 20 ((t.1 0 67) : Int32).toNatClampNeg).toInt + 1 - (t.2.2.1 19 ((t.1 0 67) : Int32).toNatClampNeg).toInt)) (fun (u : tSt) => WM K ad u) A) [.ref (ad 0)].toArray s 0 0 A) (F0 m 141 ls []) := by
    intro t1 w141_1 H locs ls hok hfr hw141_1 hi141_0 hi141_1 hi141_2 hP hD hS hl
    have h_90 : (t1.1 0 41).toInt = (t.1 0 41).toInt := ti_eq (hfr.1 0 41 rfl)
    have h_91 : (t1.1 0 67).toInt = (t.1 0 67).toInt := ti_eq (hfr.1 0 67 rfl)
    have e_92 : t1.2.2.1 19 = t.2.2.1 19 := hfr.2.2.1 19 rfl
    have e_93 : t1.2.2.1 20 = t.2.2.1 20 := hfr.2.2.1 20 rfl
    have h_94 : (0 : Int) ≤ (t1.1 0 41).toInt ∧ (t1.1 0 41).toInt ≤ 1280 := hok.1 0 41
    have h_95 : (0 : Int) ≤ (t1.1 0 52).toInt ∧ (t1.1 0 52).toInt ≤ 1200 := hok.1 0 52
    have h_96 : (0 : Int) ≤ (t1.1 0 60).toInt ∧ (t1.1 0 60).toInt ≤ 1200 := hok.1 0 60
    have h_97 : (0 : Int) ≤ (t1.1 0 67).toInt ∧ (t1.1 0 67).toInt ≤ 1281 := hok.1 0 67
    have h_98 : (0 : Int) ≤ (t1.1 0 68).toInt ∧ (t1.1 0 68).toInt ≤ 81 := hok.1 0 68
    have h_99 : (0 : Int) ≤ (t1.1 0 69).toInt ∧ (t1.1 0 69).toInt ≤ 81 := hok.1 0 69
    have h_100 : (0 : Int) ≤ (t1.1 0 70).toInt ∧ (t1.1 0 70).toInt ≤ 8 := hok.1 0 70
    have h_101 : (t.2.2.1 19 (t1.1 0 67 : Int32).toNatClampNeg).toInt = (t.2.2.1 19 (t.1 0 67 : Int32).toNatClampNeg).toInt := by rw [hfr.1 0 67 rfl]
    have h_102 : (t.2.2.1 20 (t1.1 0 67 : Int32).toNatClampNeg).toInt = (t.2.2.1 20 (t.1 0 67 : Int32).toNatClampNeg).toInt := by rw [hfr.1 0 67 rfl]
    refine lv_aload_n C.1 C.2.1 dX12_workLine_141 rfl (lv_at hl 0 rfl) ?_
    refine k_get (v := .int (t1.1 0 70)) C hP 0 rfl rfl inlX12 70 (by decide) m_29_13 rfl dX12_workLine_142 ?_
    refine lv_if_le (tgt := 150) C.1 C.2.1 dX12_workLine_145 (by decide) (fun c_103 => ?_) (fun c_103 => ?_)
    · replace c_103 : (t1.1 0 70).toInt ≤ 0 := i_le c_103
      refine lv_aload_n C.1 C.2.1 dX12_workLine_150 rfl (lv_at hl 0 rfl) ?_
      refine lv_bipush (v := 17) C.1 C.2.1 dX12_workLine_151 (by decide) ?_
      refine k_put (ws' := WM K ad (uI t1 0 68 17)) (v := .int 17) C hP hD hS 0 rfl rfl inlX12 tyX12_ok nmX12 68 (by decide) m_31_6 rfl rfl rfl rfl rfl dX12_workLine_153 (fun H locs hP hD hS => ?_)
      have hok : okM (uI t1 0 68 17) := ⟨okI_I hok.1 0 68 17 (show (0 : Int) ≤ (17 : Int32).toInt ∧ (17 : Int32).toInt ≤ 81 from ⟨by decide, by decide⟩), hok.2.1, hok.2.2.1, hok.2.2.2.1, hok.2.2.2.2.1, hok.2.2.2.2.2.1, hok.2.2.2.2.2.2.1, trivial⟩
      have hfr : frA [(0, 45), (0, 47), (0, 48), (0, 52), (0, 60), (0, 68), (0, 69), (0, 70), (0, 71), (0, 72), (0, 73)] [] [2, 21, 22, 24, 25, 26, 27, 28, 29, 30, 31, 32, 33, 34, 35, 44] [23] t (uI t1 0 68 17) := frA_I hfr 0 68 _ rfl
      refine lv_aload_n C.1 C.2.1 dX12_workLine_156 rfl (lv_at hl 0 rfl) ?_
      refine lv_bipush (v := 17) C.1 C.2.1 dX12_workLine_157 (by decide) ?_
      refine k_put (ws' := WM K ad (uI (uI t1 0 68 17) 0 69 17)) (v := .int 17) C hP hD hS 0 rfl rfl inlX12 tyX12_ok nmX12 69 (by decide) m_31_7 rfl rfl rfl rfl rfl dX12_workLine_159 (fun H locs hP hD hS => ?_)
      have hok : okM (uI (uI t1 0 68 17) 0 69 17) := ⟨okI_I hok.1 0 69 17 (show (0 : Int) ≤ (17 : Int32).toInt ∧ (17 : Int32).toInt ≤ 81 from ⟨by decide, by decide⟩), hok.2.1, hok.2.2.1, hok.2.2.2.1, hok.2.2.2.2.1, hok.2.2.2.2.2.1, hok.2.2.2.2.2.2.1, trivial⟩
      have hfr : frA [(0, 45), (0, 47), (0, 48), (0, 52), (0, 60), (0, 68), (0, 69), (0, 70), (0, 71), (0, 72), (0, 73)] [] [2, 21, 22, 24, 25, 26, 27, 28, 29, 30, 31, 32, 33, 34, 35, 44] [23] t (uI (uI t1 0 68 17) 0 69 17) := frA_I hfr 0 69 _ rfl
      exact L_162 100 (uI (uI t1 0 68 17) 0 69 17) w141_1 _ _ _ hok hfr ⟨by omega, by omega⟩ (show (17 : Int) ≤ (17 : Int32).toInt ∧ (17 : Int32).toInt ≤ 17 from ⟨by decide, by decide⟩) (show (17 : Int) ≤ (17 : Int32).toInt ∧ (17 : Int32).toInt ≤ 81 from ⟨by decide, by decide⟩) (show (0 : Int) ≤ ((t1.1 0 70) : Int32).toInt ∧ ((t1.1 0 70) : Int32).toInt ≤ 0 from ⟨by omega, by omega⟩) (show (t1.1 0 52).toInt = (t.1 0 52).toInt from by omega) (show (t1.1 0 60).toInt = (t.1 0 60).toInt from by omega) (show (t.2.2.1 19 ((t.1 0 67) : Int32).toNatClampNeg).toInt + 12 ≤ (t.2.2.1 20 ((t.1 0 67) : Int32).toNatClampNeg).toInt from by omega) (show 17 = 17 from by omega) (show 17 ≤ 17 from by omega) (show 17 ≤ 81 from by omega) (show 17 = 17 ∨ (t.2.2.1 19 ((t.1 0 67) : Int32).toNatClampNeg).toInt + 17 ≤ (t.2.2.1 20 ((t.1 0 67) : Int32).toNatClampNeg).toInt from by omega) (show (81 - 17) < ((100 : Nat) : Int) from by omega) hP hD hS (lv_sub hl [0, 1] rfl)
    · replace c_103 : 0 < (t1.1 0 70).toInt := i_nle c_103
      refine lv_iconst (v := 0) C.1 C.2.1 dX12_workLine_148 (by decide) ?_
      exact g_iret C hr hlocks hP hD hS (by decide) t1 rfl ⟨hok, hfr, by decide, by decide, (show (t.1 0 52).toInt ≤ (t1.1 0 52).toInt from by omega), (show 9 * ((t1.1 0 52).toInt - (t.1 0 52).toInt) ≤ (t.2.2.1 20 ((t.1 0 67) : Int32).toNatClampNeg).toInt + 1 - (t.2.2.1 19 ((t.1 0 67) : Int32).toNatClampNeg).toInt from by omega), (show (t.1 0 60).toInt ≤ (t1.1 0 60).toInt from by omega), (show 13 * ((t1.1 0 60).toInt - (t.1 0 60).toInt) ≤ (t.2.2.1 20 ((t.1 0 67) : Int32).toNatClampNeg).toInt + 1 - (t.2.2.1 19 ((t.1 0 67) : Int32).toNatClampNeg).toInt from by omega)⟩ (Nat.le_of_ble_eq_true rfl) (Nat.le_of_ble_eq_true rfl) dX12_workLine_149
  have L_122 : ∀ (t1 : tSt) (w122_1 : Int32) (H : Heap) (locs : List Loc) (ls : Array Slot), okM t1 → frA [(0, 45), (0, 47), (0, 48), (0, 52), (0, 60), (0, 68), (0, 69), (0, 70), (0, 71), (0, 72), (0, 73)] [] [2, 21, 22, 24, 25, 26, 27, 28, 29, 30, 31, 32, 33, 34, 35, 44] [23] t t1 → (-1 : Int) ≤ w122_1.toInt ∧ w122_1.toInt ≤ 6000 → ((t1.1 0 52).toInt = (t.1 0 52).toInt) → ((t1.1 0 60).toInt = (t.1 0 60).toInt) → (1 ≤ (t1.1 0 70).toInt ∨ (t.2.2.1 19 ((t.1 0 67) : Int32).toNatClampNeg).toInt + 12 ≤ (t.2.2.1 20 ((t.1 0 67) : Int32).toNatClampNeg).toInt) → va_P D vwCl (WM K ad t1) H → va_D A (WM K ad t1) → va_S A s.heap H locs → lv_has ls 2 [(0, .ref (ad 0)), (1, .int w122_1)] → W p l e (rmD 17 0 0) s m [.ref (ad 0)].toArray below meth c H locs 0 0 (MQ below (QI D K (fun (r : Int32) (u : tSt) => okM u ∧ frA [(0, 45), (0, 47), (0, 48), (0, 52), (0, 60), (0, 68), (0, 69), (0, 70), (0, 71), (0, 72), (0, 73)] [] [2, 21, 22, 24, 25, 26, 27, 28, 29, 30, 31, 32, 33, 34, 35, 44] [23] t u ∧ (0 : Int) ≤ r.toInt ∧ r.toInt ≤ 1 ∧ ((t.1 0 52).toInt ≤ (u.1 0 52).toInt) ∧ (9 * ((u.1 0 52).toInt - (t.1 0 52).toInt) ≤ (t.2.2.1 20 ((t.1 0 67) : Int32).toNatClampNeg).toInt + 1 - (t.2.2.1 19 ((t.1 0 67) : Int32).toNatClampNeg).toInt) ∧ ((t.1 0 60).toInt ≤ (u.1 0 60).toInt) ∧ (13 * ((u.1 0 60).toInt - (t.1 0 60).toInt) ≤ (t.2.2.1 20 ((t.1 0 67) : Int32).toNatClampNeg).toInt + 1 - (t.2.2.1 19 ((t.1 0 67) : Int32).toNatClampNeg).toInt)) (fun (u : tSt) => WM K ad u) A) [.ref (ad 0)].toArray s 0 0 A) (F0 m 122 ls []) := by
    intro t1 w122_1 H locs ls hok hfr hw122_1 hi122_0 hi122_1 hi122_2 hP hD hS hl
    have h_104 : (t1.1 0 41).toInt = (t.1 0 41).toInt := ti_eq (hfr.1 0 41 rfl)
    have h_105 : (t1.1 0 67).toInt = (t.1 0 67).toInt := ti_eq (hfr.1 0 67 rfl)
    have e_106 : t1.2.2.1 19 = t.2.2.1 19 := hfr.2.2.1 19 rfl
    have e_107 : t1.2.2.1 20 = t.2.2.1 20 := hfr.2.2.1 20 rfl
    have h_108 : (0 : Int) ≤ (t1.1 0 41).toInt ∧ (t1.1 0 41).toInt ≤ 1280 := hok.1 0 41
    have h_109 : (0 : Int) ≤ (t1.1 0 52).toInt ∧ (t1.1 0 52).toInt ≤ 1200 := hok.1 0 52
    have h_110 : (0 : Int) ≤ (t1.1 0 60).toInt ∧ (t1.1 0 60).toInt ≤ 1200 := hok.1 0 60
    have h_111 : (0 : Int) ≤ (t1.1 0 67).toInt ∧ (t1.1 0 67).toInt ≤ 1281 := hok.1 0 67
    have h_112 : (0 : Int) ≤ (t1.1 0 68).toInt ∧ (t1.1 0 68).toInt ≤ 81 := hok.1 0 68
    have h_113 : (0 : Int) ≤ (t1.1 0 69).toInt ∧ (t1.1 0 69).toInt ≤ 81 := hok.1 0 69
    have h_114 : (0 : Int) ≤ (t1.1 0 70).toInt ∧ (t1.1 0 70).toInt ≤ 8 := hok.1 0 70
    have h_115 : (t.2.2.1 19 (t1.1 0 67 : Int32).toNatClampNeg).toInt = (t.2.2.1 19 (t.1 0 67 : Int32).toNatClampNeg).toInt := by rw [hfr.1 0 67 rfl]
    have h_116 : (t.2.2.1 20 (t1.1 0 67 : Int32).toNatClampNeg).toInt = (t.2.2.1 20 (t.1 0 67 : Int32).toNatClampNeg).toInt := by rw [hfr.1 0 67 rfl]
    refine lv_aload_n C.1 C.2.1 dX12_workLine_122 rfl (lv_at hl 0 rfl) ?_
    refine k_get (v := .int (t1.1 0 70)) C hP 0 rfl rfl inlX12 70 (by decide) m_29_13 rfl dX12_workLine_123 ?_
    refine lv_if_ne (tgt := 141) C.1 C.2.1 dX12_workLine_126 (by decide) (fun c_117 => ?_) (fun c_117 => ?_)
    · replace c_117 : ¬ (t1.1 0 70).toInt = 0 := i_ne c_117
      exact L_141 t1 w122_1 _ _ _ hok hfr ⟨by omega, by omega⟩ (show (t1.1 0 52).toInt = (t.1 0 52).toInt from by omega) (show (t1.1 0 60).toInt = (t.1 0 60).toInt from by omega) (show 1 ≤ (t1.1 0 70).toInt ∨ (t.2.2.1 19 ((t.1 0 67) : Int32).toNatClampNeg).toInt + 12 ≤ (t.2.2.1 20 ((t.1 0 67) : Int32).toNatClampNeg).toInt from by omega) hP hD hS (lv_sub hl [0, 1] rfl)
    · replace c_117 : (t1.1 0 70).toInt = 0 := i_eq c_117
      refine lv_aload_n C.1 C.2.1 dX12_workLine_129 rfl (lv_at hl 0 rfl) ?_
      refine g_Vi (As := []) (rest := []) C hP hD hS hA (T_X12_isThere l D K Z Y ad t1 hok ) hE hZ (uwV m_33_10 m_33_11 m_33_12 m_1_5 m_33_13) (hdV 0 (by decide +kernel) rfl) ⟨Nat.le_of_ble_eq_true rfl, Nat.le_of_ble_eq_true rfl⟩ rfl rfl (ci := 11) (q0 := 0) rfl rfl rfl hl.1 (Nat.le_of_ble_eq_true rfl) dX12_workLine_130 ⟨Nat.le_of_ble_eq_true rfl, Nat.le_of_ble_eq_true rfl⟩ (fun r_119 t_118 H locs hw hP hD hS => ?_)
      obtain ⟨h_121, h_122⟩ := hw
      refine lv_if_eq (tgt := 141) C.1 C.2.1 dX12_workLine_133 (by decide) (fun c_123 => ?_) (fun c_123 => ?_)
      · replace c_123 : r_119.toInt = 0 := i_eq c_123
        exact L_141 t1 w122_1 _ _ _ hok hfr ⟨by omega, by omega⟩ (show (t1.1 0 52).toInt = (t.1 0 52).toInt from by omega) (show (t1.1 0 60).toInt = (t.1 0 60).toInt from by omega) (show 1 ≤ (t1.1 0 70).toInt ∨ (t.2.2.1 19 ((t.1 0 67) : Int32).toNatClampNeg).toInt + 12 ≤ (t.2.2.1 20 ((t.1 0 67) : Int32).toNatClampNeg).toInt from by omega) hP hD hS (lv_sub hl [0, 1] rfl)
      · replace c_123 : ¬ r_119.toInt = 0 := i_ne c_123
        refine lv_aload_n C.1 C.2.1 dX12_workLine_136 rfl (lv_at hl 0 rfl) ?_
        refine lv_iconst (v := 3) C.1 C.2.1 dX12_workLine_137 (by decide) ?_
        have h_124 : (3 : Int32).toInt = 3 := rfl
        refine g_Vv (As := [.int 3]) (rest := []) C hP hD hS hA (T_X12_fail l D K Z Y ad t1 hok 3 (show (1 : Int) ≤ (3 : Int32).toInt ∧ (3 : Int32).toInt ≤ 8 from ⟨by decide, by decide⟩) (show 1 ≤ (3 : Int32).toInt from by omega)) hE hZ (uwV m_32_22 m_32_23 m_33_0 m_1_5 m_33_1) (hdV 1 (by decide +kernel) rfl) ⟨Nat.le_of_ble_eq_true rfl, Nat.le_of_ble_eq_true rfl⟩ rfl rfl (ci := 11) (q0 := 0) rfl rfl rfl hl.1 (Nat.le_of_ble_eq_true rfl) dX12_workLine_138 ⟨Nat.le_of_ble_eq_true rfl, Nat.le_of_ble_eq_true rfl⟩ (fun t_125 H locs hw hP hD hS => ?_)
        obtain ⟨hok, f_127, p_128⟩ := hw
        have hfr : frA [(0, 45), (0, 47), (0, 48), (0, 52), (0, 60), (0, 68), (0, 69), (0, 70), (0, 71), (0, 72), (0, 73)] [] [2, 21, 22, 24, 25, 26, 27, 28, 29, 30, 31, 32, 33, 34, 35, 44] [23] t t_125 := frA_tr hfr f_127 rfl
        have h_129 : (t_125.1 0 41).toInt = (t1.1 0 41).toInt := ti_eq (f_127.1 0 41 rfl)
        have h_130 : (t_125.1 0 52).toInt = (t1.1 0 52).toInt := ti_eq (f_127.1 0 52 rfl)
        have h_131 : (t_125.1 0 60).toInt = (t1.1 0 60).toInt := ti_eq (f_127.1 0 60 rfl)
        have h_132 : (t_125.1 0 67).toInt = (t1.1 0 67).toInt := ti_eq (f_127.1 0 67 rfl)
        have h_133 : (t_125.1 0 68).toInt = (t1.1 0 68).toInt := ti_eq (f_127.1 0 68 rfl)
        have h_134 : (t_125.1 0 69).toInt = (t1.1 0 69).toInt := ti_eq (f_127.1 0 69 rfl)
        have e_135 : t_125.2.2.1 19 = t.2.2.1 19 := (f_127.2.2.1 19 rfl).trans (e_106)
        have e_136 : t_125.2.2.1 20 = t.2.2.1 20 := (f_127.2.2.1 20 rfl).trans (e_107)
        have h_137 : (t.2.2.1 19 (t_125.1 0 67 : Int32).toNatClampNeg).toInt = (t.2.2.1 19 (t1.1 0 67 : Int32).toNatClampNeg).toInt := by rw [show t_125.1 0 67 = t1.1 0 67 from f_127.1 0 67 rfl]
        have h_138 : (t.2.2.1 20 (t_125.1 0 67 : Int32).toNatClampNeg).toInt = (t.2.2.1 20 (t1.1 0 67 : Int32).toNatClampNeg).toInt := by rw [show t_125.1 0 67 = t1.1 0 67 from f_127.1 0 67 rfl]
        have h_139 : (0 : Int) ≤ (t_125.1 0 41).toInt ∧ (t_125.1 0 41).toInt ≤ 1280 := hok.1 0 41
        have h_140 : (0 : Int) ≤ (t_125.1 0 52).toInt ∧ (t_125.1 0 52).toInt ≤ 1200 := hok.1 0 52
        have h_141 : (0 : Int) ≤ (t_125.1 0 60).toInt ∧ (t_125.1 0 60).toInt ≤ 1200 := hok.1 0 60
        have h_142 : (0 : Int) ≤ (t_125.1 0 67).toInt ∧ (t_125.1 0 67).toInt ≤ 1281 := hok.1 0 67
        have h_143 : (0 : Int) ≤ (t_125.1 0 68).toInt ∧ (t_125.1 0 68).toInt ≤ 81 := hok.1 0 68
        have h_144 : (0 : Int) ≤ (t_125.1 0 69).toInt ∧ (t_125.1 0 69).toInt ≤ 81 := hok.1 0 69
        have h_145 : (0 : Int) ≤ (t_125.1 0 70).toInt ∧ (t_125.1 0 70).toInt ≤ 8 := hok.1 0 70
        replace p_128 : 1 ≤ (t_125.1 0 70).toInt := p_128
        exact L_141 t_125 w122_1 _ _ _ hok hfr ⟨by omega, by omega⟩ (show (t_125.1 0 52).toInt = (t.1 0 52).toInt from by omega) (show (t_125.1 0 60).toInt = (t.1 0 60).toInt from by omega) (show 1 ≤ (t_125.1 0 70).toInt ∨ (t.2.2.1 19 ((t.1 0 67) : Int32).toNatClampNeg).toInt + 12 ≤ (t.2.2.1 20 ((t.1 0 67) : Int32).toNatClampNeg).toInt from by omega) hP hD hS (lv_sub hl [0, 1] rfl)
  have L_109 : ∀ (t1 : tSt) (w109_1 : Int32) (H : Heap) (locs : List Loc) (ls : Array Slot), okM t1 → frA [(0, 45), (0, 47), (0, 48), (0, 52), (0, 60), (0, 68), (0, 69), (0, 70), (0, 71), (0, 72), (0, 73)] [] [2, 21, 22, 24, 25, 26, 27, 28, 29, 30, 31, 32, 33, 34, 35, 44] [23] t t1 → (-1 : Int) ≤ w109_1.toInt ∧ w109_1.toInt ≤ 6000 → ((t1.1 0 52).toInt = (t.1 0 52).toInt) → ((t1.1 0 60).toInt = (t.1 0 60).toInt) → (1 ≤ (t1.1 0 70).toInt ∨ (t.2.2.1 19 ((t.1 0 67) : Int32).toNatClampNeg).toInt + 12 ≤ (t.2.2.1 20 ((t.1 0 67) : Int32).toNatClampNeg).toInt) → va_P D vwCl (WM K ad t1) H → va_D A (WM K ad t1) → va_S A s.heap H locs → lv_has ls 2 [(0, .ref (ad 0)), (1, .int w109_1)] → W p l e (rmD 17 0 0) s m [.ref (ad 0)].toArray below meth c H locs 0 0 (MQ below (QI D K (fun (r : Int32) (u : tSt) => okM u ∧ frA [(0, 45), (0, 47), (0, 48), (0, 52), (0, 60), (0, 68), (0, 69), (0, 70), (0, 71), (0, 72), (0, 73)] [] [2, 21, 22, 24, 25, 26, 27, 28, 29, 30, 31, 32, 33, 34, 35, 44] [23] t u ∧ (0 : Int) ≤ r.toInt ∧ r.toInt ≤ 1 ∧ ((t.1 0 52).toInt ≤ (u.1 0 52).toInt) ∧ (9 * ((u.1 0 52).toInt - (t.1 0 52).toInt) ≤ (t.2.2.1 20 ((t.1 0 67) : Int32).toNatClampNeg).toInt + 1 - (t.2.2.1 19 ((t.1 0 67) : Int32).toNatClampNeg).toInt) ∧ ((t.1 0 60).toInt ≤ (u.1 0 60).toInt) ∧ (13 * ((u.1 0 60).toInt - (t.1 0 60).toInt) ≤ (t.2.2.1 20 ((t.1 0 67) : Int32).toNatClampNeg).toInt + 1 - (t.2.2.1 19 ((t.1 0 67) : Int32).toNatClampNeg).toInt)) (fun (u : tSt) => WM K ad u) A) [.ref (ad 0)].toArray s 0 0 A) (F0 m 109 ls []) := by
    intro t1 w109_1 H locs ls hok hfr hw109_1 hi109_0 hi109_1 hi109_2 hP hD hS hl
    have h_146 : (t1.1 0 41).toInt = (t.1 0 41).toInt := ti_eq (hfr.1 0 41 rfl)
    have h_147 : (t1.1 0 67).toInt = (t.1 0 67).toInt := ti_eq (hfr.1 0 67 rfl)
    have e_148 : t1.2.2.1 19 = t.2.2.1 19 := hfr.2.2.1 19 rfl
    have e_149 : t1.2.2.1 20 = t.2.2.1 20 := hfr.2.2.1 20 rfl
    have h_150 : (0 : Int) ≤ (t1.1 0 41).toInt ∧ (t1.1 0 41).toInt ≤ 1280 := hok.1 0 41
    have h_151 : (0 : Int) ≤ (t1.1 0 52).toInt ∧ (t1.1 0 52).toInt ≤ 1200 := hok.1 0 52
    have h_152 : (0 : Int) ≤ (t1.1 0 60).toInt ∧ (t1.1 0 60).toInt ≤ 1200 := hok.1 0 60
    have h_153 : (0 : Int) ≤ (t1.1 0 67).toInt ∧ (t1.1 0 67).toInt ≤ 1281 := hok.1 0 67
    have h_154 : (0 : Int) ≤ (t1.1 0 68).toInt ∧ (t1.1 0 68).toInt ≤ 81 := hok.1 0 68
    have h_155 : (0 : Int) ≤ (t1.1 0 69).toInt ∧ (t1.1 0 69).toInt ≤ 81 := hok.1 0 69
    have h_156 : (0 : Int) ≤ (t1.1 0 70).toInt ∧ (t1.1 0 70).toInt ≤ 8 := hok.1 0 70
    have h_157 : (t.2.2.1 19 (t1.1 0 67 : Int32).toNatClampNeg).toInt = (t.2.2.1 19 (t.1 0 67 : Int32).toNatClampNeg).toInt := by rw [hfr.1 0 67 rfl]
    have h_158 : (t.2.2.1 20 (t1.1 0 67 : Int32).toNatClampNeg).toInt = (t.2.2.1 20 (t.1 0 67 : Int32).toNatClampNeg).toInt := by rw [hfr.1 0 67 rfl]
    refine lv_iload_n C.1 C.2.1 dX12_workLine_109 rfl (lv_at hl 1 rfl) ?_
    refine lv_sipush (v := 6000) C.1 C.2.1 dX12_workLine_110 (by decide) ?_
    refine lv_icmp_ne (tgt := 122) C.1 C.2.1 dX12_workLine_113 (by decide) (fun c_159 => ?_) (fun c_159 => ?_)
    · replace c_159 : ¬ w109_1.toInt = 6000 := i_ne c_159
      exact L_122 t1 w109_1 _ _ _ hok hfr ⟨by omega, by omega⟩ (show (t1.1 0 52).toInt = (t.1 0 52).toInt from by omega) (show (t1.1 0 60).toInt = (t.1 0 60).toInt from by omega) (show 1 ≤ (t1.1 0 70).toInt ∨ (t.2.2.1 19 ((t.1 0 67) : Int32).toNatClampNeg).toInt + 12 ≤ (t.2.2.1 20 ((t.1 0 67) : Int32).toNatClampNeg).toInt from by omega) hP hD hS (lv_sub hl [0, 1] rfl)
    · replace c_159 : w109_1.toInt = 6000 := i_eq c_159
      refine lv_aload_n C.1 C.2.1 dX12_workLine_116 rfl (lv_at hl 0 rfl) ?_
      refine lv_bipush (v := 8) C.1 C.2.1 dX12_workLine_117 (by decide) ?_
      have h_160 : (8 : Int32).toInt = 8 := rfl
      refine g_Vv (As := [.int 8]) (rest := []) C hP hD hS hA (T_X12_fail l D K Z Y ad t1 hok 8 (show (1 : Int) ≤ (8 : Int32).toInt ∧ (8 : Int32).toInt ≤ 8 from ⟨by decide, by decide⟩) (show 1 ≤ (8 : Int32).toInt from by omega)) hE hZ (uwV m_32_22 m_32_23 m_33_0 m_1_5 m_33_1) (hdV 1 (by decide +kernel) rfl) ⟨Nat.le_of_ble_eq_true rfl, Nat.le_of_ble_eq_true rfl⟩ rfl rfl (ci := 11) (q0 := 0) rfl rfl rfl hl.1 (Nat.le_of_ble_eq_true rfl) dX12_workLine_119 ⟨Nat.le_of_ble_eq_true rfl, Nat.le_of_ble_eq_true rfl⟩ (fun t_161 H locs hw hP hD hS => ?_)
      obtain ⟨hok, f_163, p_164⟩ := hw
      have hfr : frA [(0, 45), (0, 47), (0, 48), (0, 52), (0, 60), (0, 68), (0, 69), (0, 70), (0, 71), (0, 72), (0, 73)] [] [2, 21, 22, 24, 25, 26, 27, 28, 29, 30, 31, 32, 33, 34, 35, 44] [23] t t_161 := frA_tr hfr f_163 rfl
      have h_165 : (t_161.1 0 41).toInt = (t1.1 0 41).toInt := ti_eq (f_163.1 0 41 rfl)
      have h_166 : (t_161.1 0 52).toInt = (t1.1 0 52).toInt := ti_eq (f_163.1 0 52 rfl)
      have h_167 : (t_161.1 0 60).toInt = (t1.1 0 60).toInt := ti_eq (f_163.1 0 60 rfl)
      have h_168 : (t_161.1 0 67).toInt = (t1.1 0 67).toInt := ti_eq (f_163.1 0 67 rfl)
      have h_169 : (t_161.1 0 68).toInt = (t1.1 0 68).toInt := ti_eq (f_163.1 0 68 rfl)
      have h_170 : (t_161.1 0 69).toInt = (t1.1 0 69).toInt := ti_eq (f_163.1 0 69 rfl)
      have e_171 : t_161.2.2.1 19 = t.2.2.1 19 := (f_163.2.2.1 19 rfl).trans (e_148)
      have e_172 : t_161.2.2.1 20 = t.2.2.1 20 := (f_163.2.2.1 20 rfl).trans (e_149)
      have h_173 : (t.2.2.1 19 (t_161.1 0 67 : Int32).toNatClampNeg).toInt = (t.2.2.1 19 (t1.1 0 67 : Int32).toNatClampNeg).toInt := by rw [show t_161.1 0 67 = t1.1 0 67 from f_163.1 0 67 rfl]
      have h_174 : (t.2.2.1 20 (t_161.1 0 67 : Int32).toNatClampNeg).toInt = (t.2.2.1 20 (t1.1 0 67 : Int32).toNatClampNeg).toInt := by rw [show t_161.1 0 67 = t1.1 0 67 from f_163.1 0 67 rfl]
      have h_175 : (0 : Int) ≤ (t_161.1 0 41).toInt ∧ (t_161.1 0 41).toInt ≤ 1280 := hok.1 0 41
      have h_176 : (0 : Int) ≤ (t_161.1 0 52).toInt ∧ (t_161.1 0 52).toInt ≤ 1200 := hok.1 0 52
      have h_177 : (0 : Int) ≤ (t_161.1 0 60).toInt ∧ (t_161.1 0 60).toInt ≤ 1200 := hok.1 0 60
      have h_178 : (0 : Int) ≤ (t_161.1 0 67).toInt ∧ (t_161.1 0 67).toInt ≤ 1281 := hok.1 0 67
      have h_179 : (0 : Int) ≤ (t_161.1 0 68).toInt ∧ (t_161.1 0 68).toInt ≤ 81 := hok.1 0 68
      have h_180 : (0 : Int) ≤ (t_161.1 0 69).toInt ∧ (t_161.1 0 69).toInt ≤ 81 := hok.1 0 69
      have h_181 : (0 : Int) ≤ (t_161.1 0 70).toInt ∧ (t_161.1 0 70).toInt ≤ 8 := hok.1 0 70
      replace p_164 : 1 ≤ (t_161.1 0 70).toInt := p_164
      exact L_122 t_161 w109_1 _ _ _ hok hfr ⟨by omega, by omega⟩ (show (t_161.1 0 52).toInt = (t.1 0 52).toInt from by omega) (show (t_161.1 0 60).toInt = (t.1 0 60).toInt from by omega) (show 1 ≤ (t_161.1 0 70).toInt ∨ (t.2.2.1 19 ((t.1 0 67) : Int32).toNatClampNeg).toInt + 12 ≤ (t.2.2.1 20 ((t.1 0 67) : Int32).toNatClampNeg).toInt from by omega) hP hD hS (lv_sub hl [0, 1] rfl)
  have L_84 : ∀ (t1 : tSt) (H : Heap) (locs : List Loc) (ls : Array Slot), okM t1 → frA [(0, 45), (0, 47), (0, 48), (0, 52), (0, 60), (0, 68), (0, 69), (0, 70), (0, 71), (0, 72), (0, 73)] [] [2, 21, 22, 24, 25, 26, 27, 28, 29, 30, 31, 32, 33, 34, 35, 44] [23] t t1 → (0 : Int) ≤ (t1.1 0 70).toInt ∧ (t1.1 0 70).toInt ≤ 0 → ((t1.1 0 52).toInt = (t.1 0 52).toInt) → ((t1.1 0 60).toInt = (t.1 0 60).toInt) → ((t.2.2.1 19 ((t.1 0 67) : Int32).toNatClampNeg).toInt + 12 ≤ (t.2.2.1 20 ((t.1 0 67) : Int32).toNatClampNeg).toInt) → va_P D vwCl (WM K ad t1) H → va_D A (WM K ad t1) → va_S A s.heap H locs → lv_has ls 2 [(0, .ref (ad 0))] → W p l e (rmD 17 0 0) s m [.ref (ad 0)].toArray below meth c H locs 0 0 (MQ below (QI D K (fun (r : Int32) (u : tSt) => okM u ∧ frA [(0, 45), (0, 47), (0, 48), (0, 52), (0, 60), (0, 68), (0, 69), (0, 70), (0, 71), (0, 72), (0, 73)] [] [2, 21, 22, 24, 25, 26, 27, 28, 29, 30, 31, 32, 33, 34, 35, 44] [23] t u ∧ (0 : Int) ≤ r.toInt ∧ r.toInt ≤ 1 ∧ ((t.1 0 52).toInt ≤ (u.1 0 52).toInt) ∧ (9 * ((u.1 0 52).toInt - (t.1 0 52).toInt) ≤ (t.2.2.1 20 ((t.1 0 67) : Int32).toNatClampNeg).toInt + 1 - (t.2.2.1 19 ((t.1 0 67) : Int32).toNatClampNeg).toInt) ∧ ((t.1 0 60).toInt ≤ (u.1 0 60).toInt) ∧ (13 * ((u.1 0 60).toInt - (t.1 0 60).toInt) ≤ (t.2.2.1 20 ((t.1 0 67) : Int32).toNatClampNeg).toInt + 1 - (t.2.2.1 19 ((t.1 0 67) : Int32).toNatClampNeg).toInt)) (fun (u : tSt) => WM K ad u) A) [.ref (ad 0)].toArray s 0 0 A) (F0 m 84 ls []) := by
    intro t1 H locs ls hok hfr hf84_70 hi84_0 hi84_1 hi84_2 hP hD hS hl
    have h_182 : (t1.1 0 41).toInt = (t.1 0 41).toInt := ti_eq (hfr.1 0 41 rfl)
    have h_183 : (t1.1 0 67).toInt = (t.1 0 67).toInt := ti_eq (hfr.1 0 67 rfl)
    have e_184 : t1.2.2.1 19 = t.2.2.1 19 := hfr.2.2.1 19 rfl
    have e_185 : t1.2.2.1 20 = t.2.2.1 20 := hfr.2.2.1 20 rfl
    have h_186 : (0 : Int) ≤ (t1.1 0 41).toInt ∧ (t1.1 0 41).toInt ≤ 1280 := hok.1 0 41
    have h_187 : (0 : Int) ≤ (t1.1 0 52).toInt ∧ (t1.1 0 52).toInt ≤ 1200 := hok.1 0 52
    have h_188 : (0 : Int) ≤ (t1.1 0 60).toInt ∧ (t1.1 0 60).toInt ≤ 1200 := hok.1 0 60
    have h_189 : (0 : Int) ≤ (t1.1 0 67).toInt ∧ (t1.1 0 67).toInt ≤ 1281 := hok.1 0 67
    have h_190 : (0 : Int) ≤ (t1.1 0 68).toInt ∧ (t1.1 0 68).toInt ≤ 81 := hok.1 0 68
    have h_191 : (0 : Int) ≤ (t1.1 0 69).toInt ∧ (t1.1 0 69).toInt ≤ 81 := hok.1 0 69
    have h_192 : (t.2.2.1 19 (t1.1 0 67 : Int32).toNatClampNeg).toInt = (t.2.2.1 19 (t.1 0 67 : Int32).toNatClampNeg).toInt := by rw [hfr.1 0 67 rfl]
    have h_193 : (t.2.2.1 20 (t1.1 0 67 : Int32).toNatClampNeg).toInt = (t.2.2.1 20 (t.1 0 67 : Int32).toNatClampNeg).toInt := by rw [hfr.1 0 67 rfl]
    refine lv_aload_n C.1 C.2.1 dX12_workLine_84 rfl (lv_at hl 0 rfl) ?_
    refine lv_bipush (v := 12) C.1 C.2.1 dX12_workLine_85 (by decide) ?_
    refine lv_aload_n C.1 C.2.1 dX12_workLine_87 rfl (lv_at hl 0 rfl) ?_
    refine lv_bipush (v := 12) C.1 C.2.1 dX12_workLine_88 (by decide) ?_
    refine lv_bipush (v := 15) C.1 C.2.1 dX12_workLine_90 (by decide) ?_
    have h_194 : (15 : Int32).toInt = 15 := rfl
    refine g_Vi (As := [.int 12, .int 15]) (rest := [.int 12, .ref (ad 0)]) C hP hD hS hA (T_X12_endOf l D K Z Y ad t1 hok 12 (show (1 : Int) ≤ (12 : Int32).toInt ∧ (12 : Int32).toInt ≤ 15 from ⟨by decide, by decide⟩) 15 (show (10 : Int) ≤ (15 : Int32).toInt ∧ (15 : Int32).toInt ≤ 15 from ⟨by decide, by decide⟩) (show (15 : Int32).toInt ≤ 15 from by omega)) hE hZ (uwV m_32_4 m_32_5 m_32_6 m_1_5 m_32_7) (hdV 2 (by decide +kernel) rfl) ⟨Nat.le_of_ble_eq_true rfl, Nat.le_of_ble_eq_true rfl⟩ rfl rfl (ci := 11) (q0 := 0) rfl rfl rfl hl.1 (Nat.le_of_ble_eq_true rfl) dX12_workLine_92 ⟨Nat.le_of_ble_eq_true rfl, Nat.le_of_ble_eq_true rfl⟩ (fun r_196 t_195 H locs hw hP hD hS => ?_)
    obtain ⟨h_198, h_199⟩ := hw
    have h_200 : (12 : Int32).toInt = 12 := rfl
    refine g_Vi (As := [.int 12, .int r_196]) (rest := []) C hP hD hS hA (T_X12_operation l D K Z Y ad t1 hok 12 (show (12 : Int) ≤ (12 : Int32).toInt ∧ (12 : Int32).toInt ≤ 12 from ⟨by decide, by decide⟩) (r_196) (show (0 : Int) ≤ (r_196 : Int32).toInt ∧ (r_196 : Int32).toInt ≤ 16 from ⟨by omega, by omega⟩) (show 12 ≤ (12 : Int32).toInt from by omega) (show (12 : Int32).toInt ≤ 12 from by omega)) hE hZ (uwV m_33_2 m_33_3 m_33_4 m_1_5 m_33_5) (hdV 2 (by decide +kernel) rfl) ⟨Nat.le_of_ble_eq_true rfl, Nat.le_of_ble_eq_true rfl⟩ rfl rfl (ci := 11) (q0 := 0) rfl rfl rfl hl.1 (Nat.le_of_ble_eq_true rfl) dX12_workLine_95 ⟨Nat.le_of_ble_eq_true rfl, Nat.le_of_ble_eq_true rfl⟩ (fun r_202 t_201 H locs hw hP hD hS => ?_)
    obtain ⟨h_204, h_205⟩ := hw
    refine lv_istore_n (lv' := [(1, .int r_202), (0, .ref (ad 0))]) C.1 C.2.1 dX12_workLine_98 rfl hl (by decide) rfl (fun ls hl => ?_)
    have hl : lv_has ls 2 [(0, .ref (ad 0)), (1, .int r_202)] := lv_sub hl [1, 0] rfl
    refine lv_iload_n C.1 C.2.1 dX12_workLine_99 rfl (lv_at hl 1 rfl) ?_
    refine lv_iconst (v := (-1)) C.1 C.2.1 dX12_workLine_100 (by decide) ?_
    refine lv_icmp_ne (tgt := 109) C.1 C.2.1 dX12_workLine_101 (by decide) (fun c_206 => ?_) (fun c_206 => ?_)
    · replace c_206 : ¬ r_202.toInt = (-1) := i_ne c_206
      exact L_109 t1 r_202 _ _ _ hok hfr ⟨by omega, by omega⟩ (show (t1.1 0 52).toInt = (t.1 0 52).toInt from by omega) (show (t1.1 0 60).toInt = (t.1 0 60).toInt from by omega) (show 1 ≤ (t1.1 0 70).toInt ∨ (t.2.2.1 19 ((t.1 0 67) : Int32).toNatClampNeg).toInt + 12 ≤ (t.2.2.1 20 ((t.1 0 67) : Int32).toNatClampNeg).toInt from by omega) hP hD hS (lv_sub hl [0, 1] rfl)
    · replace c_206 : r_202.toInt = (-1) := i_eq c_206
      refine lv_aload_n C.1 C.2.1 dX12_workLine_104 rfl (lv_at hl 0 rfl) ?_
      refine lv_iconst (v := 2) C.1 C.2.1 dX12_workLine_105 (by decide) ?_
      have h_207 : (2 : Int32).toInt = 2 := rfl
      refine g_Vv (As := [.int 2]) (rest := []) C hP hD hS hA (T_X12_fail l D K Z Y ad t1 hok 2 (show (1 : Int) ≤ (2 : Int32).toInt ∧ (2 : Int32).toInt ≤ 8 from ⟨by decide, by decide⟩) (show 1 ≤ (2 : Int32).toInt from by omega)) hE hZ (uwV m_32_22 m_32_23 m_33_0 m_1_5 m_33_1) (hdV 1 (by decide +kernel) rfl) ⟨Nat.le_of_ble_eq_true rfl, Nat.le_of_ble_eq_true rfl⟩ rfl rfl (ci := 11) (q0 := 0) rfl rfl rfl hl.1 (Nat.le_of_ble_eq_true rfl) dX12_workLine_106 ⟨Nat.le_of_ble_eq_true rfl, Nat.le_of_ble_eq_true rfl⟩ (fun t_208 H locs hw hP hD hS => ?_)
      obtain ⟨hok, f_210, p_211⟩ := hw
      have hfr : frA [(0, 45), (0, 47), (0, 48), (0, 52), (0, 60), (0, 68), (0, 69), (0, 70), (0, 71), (0, 72), (0, 73)] [] [2, 21, 22, 24, 25, 26, 27, 28, 29, 30, 31, 32, 33, 34, 35, 44] [23] t t_208 := frA_tr hfr f_210 rfl
      have h_212 : (t_208.1 0 41).toInt = (t1.1 0 41).toInt := ti_eq (f_210.1 0 41 rfl)
      have h_213 : (t_208.1 0 52).toInt = (t1.1 0 52).toInt := ti_eq (f_210.1 0 52 rfl)
      have h_214 : (t_208.1 0 60).toInt = (t1.1 0 60).toInt := ti_eq (f_210.1 0 60 rfl)
      have h_215 : (t_208.1 0 67).toInt = (t1.1 0 67).toInt := ti_eq (f_210.1 0 67 rfl)
      have h_216 : (t_208.1 0 68).toInt = (t1.1 0 68).toInt := ti_eq (f_210.1 0 68 rfl)
      have h_217 : (t_208.1 0 69).toInt = (t1.1 0 69).toInt := ti_eq (f_210.1 0 69 rfl)
      have e_218 : t_208.2.2.1 19 = t.2.2.1 19 := (f_210.2.2.1 19 rfl).trans (e_184)
      have e_219 : t_208.2.2.1 20 = t.2.2.1 20 := (f_210.2.2.1 20 rfl).trans (e_185)
      have h_220 : (t.2.2.1 19 (t_208.1 0 67 : Int32).toNatClampNeg).toInt = (t.2.2.1 19 (t1.1 0 67 : Int32).toNatClampNeg).toInt := by rw [show t_208.1 0 67 = t1.1 0 67 from f_210.1 0 67 rfl]
      have h_221 : (t.2.2.1 20 (t_208.1 0 67 : Int32).toNatClampNeg).toInt = (t.2.2.1 20 (t1.1 0 67 : Int32).toNatClampNeg).toInt := by rw [show t_208.1 0 67 = t1.1 0 67 from f_210.1 0 67 rfl]
      have h_222 : (0 : Int) ≤ (t_208.1 0 41).toInt ∧ (t_208.1 0 41).toInt ≤ 1280 := hok.1 0 41
      have h_223 : (0 : Int) ≤ (t_208.1 0 52).toInt ∧ (t_208.1 0 52).toInt ≤ 1200 := hok.1 0 52
      have h_224 : (0 : Int) ≤ (t_208.1 0 60).toInt ∧ (t_208.1 0 60).toInt ≤ 1200 := hok.1 0 60
      have h_225 : (0 : Int) ≤ (t_208.1 0 67).toInt ∧ (t_208.1 0 67).toInt ≤ 1281 := hok.1 0 67
      have h_226 : (0 : Int) ≤ (t_208.1 0 68).toInt ∧ (t_208.1 0 68).toInt ≤ 81 := hok.1 0 68
      have h_227 : (0 : Int) ≤ (t_208.1 0 69).toInt ∧ (t_208.1 0 69).toInt ≤ 81 := hok.1 0 69
      have h_228 : (0 : Int) ≤ (t_208.1 0 70).toInt ∧ (t_208.1 0 70).toInt ≤ 8 := hok.1 0 70
      replace p_211 : 1 ≤ (t_208.1 0 70).toInt := p_211
      exact L_109 t_208 r_202 _ _ _ hok hfr ⟨by omega, by omega⟩ (show (t_208.1 0 52).toInt = (t.1 0 52).toInt from by omega) (show (t_208.1 0 60).toInt = (t.1 0 60).toInt from by omega) (show 1 ≤ (t_208.1 0 70).toInt ∨ (t.2.2.1 19 ((t.1 0 67) : Int32).toNatClampNeg).toInt + 12 ≤ (t.2.2.1 20 ((t.1 0 67) : Int32).toNatClampNeg).toInt from by omega) hP hD hS (lv_sub hl [0, 1] rfl)
  have L_62 : ∀ (t1 : tSt) (H : Heap) (locs : List Loc) (ls : Array Slot), okM t1 → frA [(0, 45), (0, 47), (0, 48), (0, 52), (0, 60), (0, 68), (0, 69), (0, 70), (0, 71), (0, 72), (0, 73)] [] [2, 21, 22, 24, 25, 26, 27, 28, 29, 30, 31, 32, 33, 34, 35, 44] [23] t t1 → ((t1.1 0 52).toInt = (t.1 0 52).toInt) → ((t1.1 0 60).toInt = (t.1 0 60).toInt) → va_P D vwCl (WM K ad t1) H → va_D A (WM K ad t1) → va_S A s.heap H locs → lv_has ls 2 [(0, .ref (ad 0))] → W p l e (rmD 17 0 0) s m [.ref (ad 0)].toArray below meth c H locs 0 0 (MQ below (QI D K (fun (r : Int32) (u : tSt) => okM u ∧ frA [(0, 45), (0, 47), (0, 48), (0, 52), (0, 60), (0, 68), (0, 69), (0, 70), (0, 71), (0, 72), (0, 73)] [] [2, 21, 22, 24, 25, 26, 27, 28, 29, 30, 31, 32, 33, 34, 35, 44] [23] t u ∧ (0 : Int) ≤ r.toInt ∧ r.toInt ≤ 1 ∧ ((t.1 0 52).toInt ≤ (u.1 0 52).toInt) ∧ (9 * ((u.1 0 52).toInt - (t.1 0 52).toInt) ≤ (t.2.2.1 20 ((t.1 0 67) : Int32).toNatClampNeg).toInt + 1 - (t.2.2.1 19 ((t.1 0 67) : Int32).toNatClampNeg).toInt) ∧ ((t.1 0 60).toInt ≤ (u.1 0 60).toInt) ∧ (13 * ((u.1 0 60).toInt - (t.1 0 60).toInt) ≤ (t.2.2.1 20 ((t.1 0 67) : Int32).toNatClampNeg).toInt + 1 - (t.2.2.1 19 ((t.1 0 67) : Int32).toNatClampNeg).toInt)) (fun (u : tSt) => WM K ad u) A) [.ref (ad 0)].toArray s 0 0 A) (F0 m 62 ls []) := by
    intro t1 H locs ls hok hfr hi62_0 hi62_1 hP hD hS hl
    have h_229 : (t1.1 0 41).toInt = (t.1 0 41).toInt := ti_eq (hfr.1 0 41 rfl)
    have h_230 : (t1.1 0 67).toInt = (t.1 0 67).toInt := ti_eq (hfr.1 0 67 rfl)
    have e_231 : t1.2.2.1 19 = t.2.2.1 19 := hfr.2.2.1 19 rfl
    have e_232 : t1.2.2.1 20 = t.2.2.1 20 := hfr.2.2.1 20 rfl
    have h_233 : (0 : Int) ≤ (t1.1 0 41).toInt ∧ (t1.1 0 41).toInt ≤ 1280 := hok.1 0 41
    have h_234 : (0 : Int) ≤ (t1.1 0 52).toInt ∧ (t1.1 0 52).toInt ≤ 1200 := hok.1 0 52
    have h_235 : (0 : Int) ≤ (t1.1 0 60).toInt ∧ (t1.1 0 60).toInt ≤ 1200 := hok.1 0 60
    have h_236 : (0 : Int) ≤ (t1.1 0 67).toInt ∧ (t1.1 0 67).toInt ≤ 1281 := hok.1 0 67
    have h_237 : (0 : Int) ≤ (t1.1 0 68).toInt ∧ (t1.1 0 68).toInt ≤ 81 := hok.1 0 68
    have h_238 : (0 : Int) ≤ (t1.1 0 69).toInt ∧ (t1.1 0 69).toInt ≤ 81 := hok.1 0 69
    have h_239 : (0 : Int) ≤ (t1.1 0 70).toInt ∧ (t1.1 0 70).toInt ≤ 8 := hok.1 0 70
    have h_240 : (t.2.2.1 19 (t1.1 0 67 : Int32).toNatClampNeg).toInt = (t.2.2.1 19 (t.1 0 67 : Int32).toNatClampNeg).toInt := by rw [hfr.1 0 67 rfl]
    have h_241 : (t.2.2.1 20 (t1.1 0 67 : Int32).toNatClampNeg).toInt = (t.2.2.1 20 (t.1 0 67 : Int32).toNatClampNeg).toInt := by rw [hfr.1 0 67 rfl]
    refine lv_aload_n C.1 C.2.1 dX12_workLine_62 rfl (lv_at hl 0 rfl) ?_
    refine k_get (v := .int (t1.1 0 70)) C hP 0 rfl rfl inlX12 70 (by decide) m_29_13 rfl dX12_workLine_63 ?_
    refine lv_if_gt (tgt := 80) C.1 C.2.1 dX12_workLine_66 (by decide) (fun c_242 => ?_) (fun c_242 => ?_)
    · replace c_242 : 0 < (t1.1 0 70).toInt := i_lt c_242
      refine lv_iconst (v := (-1)) C.1 C.2.1 dX12_workLine_80 (by decide) ?_
      refine lv_goto (tgt := 98) C.1 C.2.1 dX12_workLine_81 (by decide) ?_
      refine lv_istore_n (lv' := [(1, .int (-1)), (0, .ref (ad 0))]) C.1 C.2.1 dX12_workLine_98 rfl hl (by decide) rfl (fun ls hl => ?_)
      have hl : lv_has ls 2 [(0, .ref (ad 0)), (1, .int (-1))] := lv_sub hl [1, 0] rfl
      refine lv_iload_n C.1 C.2.1 dX12_workLine_99 rfl (lv_at hl 1 rfl) ?_
      refine lv_iconst (v := (-1)) C.1 C.2.1 dX12_workLine_100 (by decide) ?_
      refine lv_icmp_ne (tgt := 109) C.1 C.2.1 dX12_workLine_101 (by decide) (fun h => absurd h (by decide)) (fun _ => ?_)
      refine lv_aload_n C.1 C.2.1 dX12_workLine_104 rfl (lv_at hl 0 rfl) ?_
      refine lv_iconst (v := 2) C.1 C.2.1 dX12_workLine_105 (by decide) ?_
      have h_243 : (2 : Int32).toInt = 2 := rfl
      refine g_Vv (As := [.int 2]) (rest := []) C hP hD hS hA (T_X12_fail l D K Z Y ad t1 hok 2 (show (1 : Int) ≤ (2 : Int32).toInt ∧ (2 : Int32).toInt ≤ 8 from ⟨by decide, by decide⟩) (show 1 ≤ (2 : Int32).toInt from by omega)) hE hZ (uwV m_32_22 m_32_23 m_33_0 m_1_5 m_33_1) (hdV 1 (by decide +kernel) rfl) ⟨Nat.le_of_ble_eq_true rfl, Nat.le_of_ble_eq_true rfl⟩ rfl rfl (ci := 11) (q0 := 0) rfl rfl rfl hl.1 (Nat.le_of_ble_eq_true rfl) dX12_workLine_106 ⟨Nat.le_of_ble_eq_true rfl, Nat.le_of_ble_eq_true rfl⟩ (fun t_244 H locs hw hP hD hS => ?_)
      obtain ⟨hok, f_246, p_247⟩ := hw
      have hfr : frA [(0, 45), (0, 47), (0, 48), (0, 52), (0, 60), (0, 68), (0, 69), (0, 70), (0, 71), (0, 72), (0, 73)] [] [2, 21, 22, 24, 25, 26, 27, 28, 29, 30, 31, 32, 33, 34, 35, 44] [23] t t_244 := frA_tr hfr f_246 rfl
      have h_248 : (t_244.1 0 41).toInt = (t1.1 0 41).toInt := ti_eq (f_246.1 0 41 rfl)
      have h_249 : (t_244.1 0 52).toInt = (t1.1 0 52).toInt := ti_eq (f_246.1 0 52 rfl)
      have h_250 : (t_244.1 0 60).toInt = (t1.1 0 60).toInt := ti_eq (f_246.1 0 60 rfl)
      have h_251 : (t_244.1 0 67).toInt = (t1.1 0 67).toInt := ti_eq (f_246.1 0 67 rfl)
      have h_252 : (t_244.1 0 68).toInt = (t1.1 0 68).toInt := ti_eq (f_246.1 0 68 rfl)
      have h_253 : (t_244.1 0 69).toInt = (t1.1 0 69).toInt := ti_eq (f_246.1 0 69 rfl)
      have e_254 : t_244.2.2.1 19 = t.2.2.1 19 := (f_246.2.2.1 19 rfl).trans (e_231)
      have e_255 : t_244.2.2.1 20 = t.2.2.1 20 := (f_246.2.2.1 20 rfl).trans (e_232)
      have h_256 : (t.2.2.1 19 (t_244.1 0 67 : Int32).toNatClampNeg).toInt = (t.2.2.1 19 (t1.1 0 67 : Int32).toNatClampNeg).toInt := by rw [show t_244.1 0 67 = t1.1 0 67 from f_246.1 0 67 rfl]
      have h_257 : (t.2.2.1 20 (t_244.1 0 67 : Int32).toNatClampNeg).toInt = (t.2.2.1 20 (t1.1 0 67 : Int32).toNatClampNeg).toInt := by rw [show t_244.1 0 67 = t1.1 0 67 from f_246.1 0 67 rfl]
      have h_258 : (0 : Int) ≤ (t_244.1 0 41).toInt ∧ (t_244.1 0 41).toInt ≤ 1280 := hok.1 0 41
      have h_259 : (0 : Int) ≤ (t_244.1 0 52).toInt ∧ (t_244.1 0 52).toInt ≤ 1200 := hok.1 0 52
      have h_260 : (0 : Int) ≤ (t_244.1 0 60).toInt ∧ (t_244.1 0 60).toInt ≤ 1200 := hok.1 0 60
      have h_261 : (0 : Int) ≤ (t_244.1 0 67).toInt ∧ (t_244.1 0 67).toInt ≤ 1281 := hok.1 0 67
      have h_262 : (0 : Int) ≤ (t_244.1 0 68).toInt ∧ (t_244.1 0 68).toInt ≤ 81 := hok.1 0 68
      have h_263 : (0 : Int) ≤ (t_244.1 0 69).toInt ∧ (t_244.1 0 69).toInt ≤ 81 := hok.1 0 69
      have h_264 : (0 : Int) ≤ (t_244.1 0 70).toInt ∧ (t_244.1 0 70).toInt ≤ 8 := hok.1 0 70
      replace p_247 : 1 ≤ (t_244.1 0 70).toInt := p_247
      exact L_109 t_244 (-1) _ _ _ hok hfr ⟨by decide, by decide⟩ (show (t_244.1 0 52).toInt = (t.1 0 52).toInt from by omega) (show (t_244.1 0 60).toInt = (t.1 0 60).toInt from by omega) (show 1 ≤ (t_244.1 0 70).toInt ∨ (t.2.2.1 19 ((t.1 0 67) : Int32).toNatClampNeg).toInt + 12 ≤ (t.2.2.1 20 ((t.1 0 67) : Int32).toNatClampNeg).toInt from by omega) hP hD hS (lv_sub hl [0, 1] rfl)
    · replace c_242 : (t1.1 0 70).toInt ≤ 0 := i_nlt c_242
      refine lv_aload_n C.1 C.2.1 dX12_workLine_69 rfl (lv_at hl 0 rfl) ?_
      refine lv_bipush (v := 12) C.1 C.2.1 dX12_workLine_70 (by decide) ?_
      refine lv_bipush (v := 15) C.1 C.2.1 dX12_workLine_72 (by decide) ?_
      have h_265 : (12 : Int32).toInt = 12 := rfl
      refine g_Vi (As := [.int 12, .int 15]) (rest := []) C hP hD hS hA (T_X12_isBlank l D K Z Y ad t1 hok 12 (show (1 : Int) ≤ (12 : Int32).toInt ∧ (12 : Int32).toInt ≤ 16 from ⟨by decide, by decide⟩) 15 (show (10 : Int) ≤ (15 : Int32).toInt ∧ (15 : Int32).toInt ≤ 15 from ⟨by decide, by decide⟩)) hE hZ (uwV m_31_20 m_31_21 m_31_22 m_1_5 m_31_23) (hdV 2 (by decide +kernel) rfl) ⟨Nat.le_of_ble_eq_true rfl, Nat.le_of_ble_eq_true rfl⟩ rfl rfl (ci := 11) (q0 := 0) rfl rfl rfl hl.1 (Nat.le_of_ble_eq_true rfl) dX12_workLine_74 ⟨Nat.le_of_ble_eq_true rfl, Nat.le_of_ble_eq_true rfl⟩ (fun r_267 t_266 H locs hw hP hD hS => ?_)
      obtain ⟨h_269, h_270, p_271⟩ := hw
      replace p_271 : r_267.toInt = 0 → (t1.2.2.1 19 ((t1.1 0 67) : Int32).toNatClampNeg).toInt + (12 : Int32).toInt ≤ (t1.2.2.1 20 ((t1.1 0 67) : Int32).toNatClampNeg).toInt := p_271
      have h_272 : (t1.2.2.1 19 ((t1.1 0 67) : Int32).toNatClampNeg).toInt = (t.2.2.1 19 ((t1.1 0 67) : Int32).toNatClampNeg).toInt := tb_eq e_231 _
      have h_273 : (t1.2.2.1 20 ((t1.1 0 67) : Int32).toNatClampNeg).toInt = (t.2.2.1 20 ((t1.1 0 67) : Int32).toNatClampNeg).toInt := tb_eq e_232 _
      refine lv_if_eq (tgt := 84) C.1 C.2.1 dX12_workLine_77 (by decide) (fun c_274 => ?_) (fun c_274 => ?_)
      · replace c_274 : r_267.toInt = 0 := i_eq c_274
        exact L_84 t1 _ _ _ hok hfr (show (0 : Int) ≤ ((t1.1 0 70) : Int32).toInt ∧ ((t1.1 0 70) : Int32).toInt ≤ 0 from ⟨by omega, by omega⟩) (show (t1.1 0 52).toInt = (t.1 0 52).toInt from by omega) (show (t1.1 0 60).toInt = (t.1 0 60).toInt from by omega) (show (t.2.2.1 19 ((t.1 0 67) : Int32).toNatClampNeg).toInt + 12 ≤ (t.2.2.1 20 ((t.1 0 67) : Int32).toNatClampNeg).toInt from by omega) hP hD hS (lv_sub hl [0] rfl)
      · replace c_274 : ¬ r_267.toInt = 0 := i_ne c_274
        refine lv_iconst (v := (-1)) C.1 C.2.1 dX12_workLine_80 (by decide) ?_
        refine lv_goto (tgt := 98) C.1 C.2.1 dX12_workLine_81 (by decide) ?_
        refine lv_istore_n (lv' := [(1, .int (-1)), (0, .ref (ad 0))]) C.1 C.2.1 dX12_workLine_98 rfl hl (by decide) rfl (fun ls hl => ?_)
        have hl : lv_has ls 2 [(0, .ref (ad 0)), (1, .int (-1))] := lv_sub hl [1, 0] rfl
        refine lv_iload_n C.1 C.2.1 dX12_workLine_99 rfl (lv_at hl 1 rfl) ?_
        refine lv_iconst (v := (-1)) C.1 C.2.1 dX12_workLine_100 (by decide) ?_
        refine lv_icmp_ne (tgt := 109) C.1 C.2.1 dX12_workLine_101 (by decide) (fun h => absurd h (by decide)) (fun _ => ?_)
        refine lv_aload_n C.1 C.2.1 dX12_workLine_104 rfl (lv_at hl 0 rfl) ?_
        refine lv_iconst (v := 2) C.1 C.2.1 dX12_workLine_105 (by decide) ?_
        have h_275 : (2 : Int32).toInt = 2 := rfl
        refine g_Vv (As := [.int 2]) (rest := []) C hP hD hS hA (T_X12_fail l D K Z Y ad t1 hok 2 (show (1 : Int) ≤ (2 : Int32).toInt ∧ (2 : Int32).toInt ≤ 8 from ⟨by decide, by decide⟩) (show 1 ≤ (2 : Int32).toInt from by omega)) hE hZ (uwV m_32_22 m_32_23 m_33_0 m_1_5 m_33_1) (hdV 1 (by decide +kernel) rfl) ⟨Nat.le_of_ble_eq_true rfl, Nat.le_of_ble_eq_true rfl⟩ rfl rfl (ci := 11) (q0 := 0) rfl rfl rfl hl.1 (Nat.le_of_ble_eq_true rfl) dX12_workLine_106 ⟨Nat.le_of_ble_eq_true rfl, Nat.le_of_ble_eq_true rfl⟩ (fun t_276 H locs hw hP hD hS => ?_)
        obtain ⟨hok, f_278, p_279⟩ := hw
        have hfr : frA [(0, 45), (0, 47), (0, 48), (0, 52), (0, 60), (0, 68), (0, 69), (0, 70), (0, 71), (0, 72), (0, 73)] [] [2, 21, 22, 24, 25, 26, 27, 28, 29, 30, 31, 32, 33, 34, 35, 44] [23] t t_276 := frA_tr hfr f_278 rfl
        have h_280 : (t_276.1 0 41).toInt = (t1.1 0 41).toInt := ti_eq (f_278.1 0 41 rfl)
        have h_281 : (t_276.1 0 52).toInt = (t1.1 0 52).toInt := ti_eq (f_278.1 0 52 rfl)
        have h_282 : (t_276.1 0 60).toInt = (t1.1 0 60).toInt := ti_eq (f_278.1 0 60 rfl)
        have h_283 : (t_276.1 0 67).toInt = (t1.1 0 67).toInt := ti_eq (f_278.1 0 67 rfl)
        have h_284 : (t_276.1 0 68).toInt = (t1.1 0 68).toInt := ti_eq (f_278.1 0 68 rfl)
        have h_285 : (t_276.1 0 69).toInt = (t1.1 0 69).toInt := ti_eq (f_278.1 0 69 rfl)
        have e_286 : t_276.2.2.1 19 = t.2.2.1 19 := (f_278.2.2.1 19 rfl).trans (e_231)
        have e_287 : t_276.2.2.1 20 = t.2.2.1 20 := (f_278.2.2.1 20 rfl).trans (e_232)
        have h_288 : (t.2.2.1 19 (t_276.1 0 67 : Int32).toNatClampNeg).toInt = (t.2.2.1 19 (t1.1 0 67 : Int32).toNatClampNeg).toInt := by rw [show t_276.1 0 67 = t1.1 0 67 from f_278.1 0 67 rfl]
        have h_289 : (t.2.2.1 20 (t_276.1 0 67 : Int32).toNatClampNeg).toInt = (t.2.2.1 20 (t1.1 0 67 : Int32).toNatClampNeg).toInt := by rw [show t_276.1 0 67 = t1.1 0 67 from f_278.1 0 67 rfl]
        have h_290 : (0 : Int) ≤ (t_276.1 0 41).toInt ∧ (t_276.1 0 41).toInt ≤ 1280 := hok.1 0 41
        have h_291 : (0 : Int) ≤ (t_276.1 0 52).toInt ∧ (t_276.1 0 52).toInt ≤ 1200 := hok.1 0 52
        have h_292 : (0 : Int) ≤ (t_276.1 0 60).toInt ∧ (t_276.1 0 60).toInt ≤ 1200 := hok.1 0 60
        have h_293 : (0 : Int) ≤ (t_276.1 0 67).toInt ∧ (t_276.1 0 67).toInt ≤ 1281 := hok.1 0 67
        have h_294 : (0 : Int) ≤ (t_276.1 0 68).toInt ∧ (t_276.1 0 68).toInt ≤ 81 := hok.1 0 68
        have h_295 : (0 : Int) ≤ (t_276.1 0 69).toInt ∧ (t_276.1 0 69).toInt ≤ 81 := hok.1 0 69
        have h_296 : (0 : Int) ≤ (t_276.1 0 70).toInt ∧ (t_276.1 0 70).toInt ≤ 8 := hok.1 0 70
        replace p_279 : 1 ≤ (t_276.1 0 70).toInt := p_279
        exact L_109 t_276 (-1) _ _ _ hok hfr ⟨by decide, by decide⟩ (show (t_276.1 0 52).toInt = (t.1 0 52).toInt from by omega) (show (t_276.1 0 60).toInt = (t.1 0 60).toInt from by omega) (show 1 ≤ (t_276.1 0 70).toInt ∨ (t.2.2.1 19 ((t.1 0 67) : Int32).toNatClampNeg).toInt + 12 ≤ (t.2.2.1 20 ((t.1 0 67) : Int32).toNatClampNeg).toInt from by omega) hP hD hS (lv_sub hl [0, 1] rfl)
  have L_50 : ∀ (t1 : tSt) (H : Heap) (locs : List Loc) (ls : Array Slot), okM t1 → frA [(0, 45), (0, 47), (0, 48), (0, 52), (0, 60), (0, 68), (0, 69), (0, 70), (0, 71), (0, 72), (0, 73)] [] [2, 21, 22, 24, 25, 26, 27, 28, 29, 30, 31, 32, 33, 34, 35, 44] [23] t t1 → (0 : Int) ≤ (t1.1 0 70).toInt ∧ (t1.1 0 70).toInt ≤ 0 → ((t1.1 0 52).toInt = (t.1 0 52).toInt) → ((t1.1 0 60).toInt = (t.1 0 60).toInt) → va_P D vwCl (WM K ad t1) H → va_D A (WM K ad t1) → va_S A s.heap H locs → lv_has ls 2 [(0, .ref (ad 0))] → W p l e (rmD 17 0 0) s m [.ref (ad 0)].toArray below meth c H locs 0 0 (MQ below (QI D K (fun (r : Int32) (u : tSt) => okM u ∧ frA [(0, 45), (0, 47), (0, 48), (0, 52), (0, 60), (0, 68), (0, 69), (0, 70), (0, 71), (0, 72), (0, 73)] [] [2, 21, 22, 24, 25, 26, 27, 28, 29, 30, 31, 32, 33, 34, 35, 44] [23] t u ∧ (0 : Int) ≤ r.toInt ∧ r.toInt ≤ 1 ∧ ((t.1 0 52).toInt ≤ (u.1 0 52).toInt) ∧ (9 * ((u.1 0 52).toInt - (t.1 0 52).toInt) ≤ (t.2.2.1 20 ((t.1 0 67) : Int32).toNatClampNeg).toInt + 1 - (t.2.2.1 19 ((t.1 0 67) : Int32).toNatClampNeg).toInt) ∧ ((t.1 0 60).toInt ≤ (u.1 0 60).toInt) ∧ (13 * ((u.1 0 60).toInt - (t.1 0 60).toInt) ≤ (t.2.2.1 20 ((t.1 0 67) : Int32).toNatClampNeg).toInt + 1 - (t.2.2.1 19 ((t.1 0 67) : Int32).toNatClampNeg).toInt)) (fun (u : tSt) => WM K ad u) A) [.ref (ad 0)].toArray s 0 0 A) (F0 m 50 ls []) := by
    intro t1 H locs ls hok hfr hf50_70 hi50_0 hi50_1 hP hD hS hl
    have h_297 : (t1.1 0 41).toInt = (t.1 0 41).toInt := ti_eq (hfr.1 0 41 rfl)
    have h_298 : (t1.1 0 67).toInt = (t.1 0 67).toInt := ti_eq (hfr.1 0 67 rfl)
    have e_299 : t1.2.2.1 19 = t.2.2.1 19 := hfr.2.2.1 19 rfl
    have e_300 : t1.2.2.1 20 = t.2.2.1 20 := hfr.2.2.1 20 rfl
    have h_301 : (0 : Int) ≤ (t1.1 0 41).toInt ∧ (t1.1 0 41).toInt ≤ 1280 := hok.1 0 41
    have h_302 : (0 : Int) ≤ (t1.1 0 52).toInt ∧ (t1.1 0 52).toInt ≤ 1200 := hok.1 0 52
    have h_303 : (0 : Int) ≤ (t1.1 0 60).toInt ∧ (t1.1 0 60).toInt ≤ 1200 := hok.1 0 60
    have h_304 : (0 : Int) ≤ (t1.1 0 67).toInt ∧ (t1.1 0 67).toInt ≤ 1281 := hok.1 0 67
    have h_305 : (0 : Int) ≤ (t1.1 0 68).toInt ∧ (t1.1 0 68).toInt ≤ 81 := hok.1 0 68
    have h_306 : (0 : Int) ≤ (t1.1 0 69).toInt ∧ (t1.1 0 69).toInt ≤ 81 := hok.1 0 69
    have h_307 : (t.2.2.1 19 (t1.1 0 67 : Int32).toNatClampNeg).toInt = (t.2.2.1 19 (t.1 0 67 : Int32).toNatClampNeg).toInt := by rw [hfr.1 0 67 rfl]
    have h_308 : (t.2.2.1 20 (t1.1 0 67 : Int32).toNatClampNeg).toInt = (t.2.2.1 20 (t.1 0 67 : Int32).toNatClampNeg).toInt := by rw [hfr.1 0 67 rfl]
    refine lv_aload_n C.1 C.2.1 dX12_workLine_50 rfl (lv_at hl 0 rfl) ?_
    refine g_Vi (As := []) (rest := []) C hP hD hS hA (T_X12_areColumns l D K Z Y ad t1 hok ) hE hZ (uwV m_32_0 m_32_1 m_32_2 m_1_5 m_32_3) (hdV 0 (by decide +kernel) rfl) ⟨Nat.le_of_ble_eq_true rfl, Nat.le_of_ble_eq_true rfl⟩ rfl rfl (ci := 11) (q0 := 0) rfl rfl rfl hl.1 (Nat.le_of_ble_eq_true rfl) dX12_workLine_51 ⟨Nat.le_of_ble_eq_true rfl, Nat.le_of_ble_eq_true rfl⟩ (fun r_310 t_309 H locs hw hP hD hS => ?_)
    obtain ⟨h_312, h_313⟩ := hw
    refine lv_if_ne (tgt := 62) C.1 C.2.1 dX12_workLine_54 (by decide) (fun c_314 => ?_) (fun c_314 => ?_)
    · replace c_314 : ¬ r_310.toInt = 0 := i_ne c_314
      exact L_62 t1 _ _ _ hok hfr (show (t1.1 0 52).toInt = (t.1 0 52).toInt from by omega) (show (t1.1 0 60).toInt = (t.1 0 60).toInt from by omega) hP hD hS (lv_sub hl [0] rfl)
    · replace c_314 : r_310.toInt = 0 := i_eq c_314
      refine lv_aload_n C.1 C.2.1 dX12_workLine_57 rfl (lv_at hl 0 rfl) ?_
      refine lv_iconst (v := 1) C.1 C.2.1 dX12_workLine_58 (by decide) ?_
      have h_315 : (1 : Int32).toInt = 1 := rfl
      refine g_Vv (As := [.int 1]) (rest := []) C hP hD hS hA (T_X12_fail l D K Z Y ad t1 hok 1 (show (1 : Int) ≤ (1 : Int32).toInt ∧ (1 : Int32).toInt ≤ 8 from ⟨by decide, by decide⟩) (show 1 ≤ (1 : Int32).toInt from by omega)) hE hZ (uwV m_32_22 m_32_23 m_33_0 m_1_5 m_33_1) (hdV 1 (by decide +kernel) rfl) ⟨Nat.le_of_ble_eq_true rfl, Nat.le_of_ble_eq_true rfl⟩ rfl rfl (ci := 11) (q0 := 0) rfl rfl rfl hl.1 (Nat.le_of_ble_eq_true rfl) dX12_workLine_59 ⟨Nat.le_of_ble_eq_true rfl, Nat.le_of_ble_eq_true rfl⟩ (fun t_316 H locs hw hP hD hS => ?_)
      obtain ⟨hok, f_318, p_319⟩ := hw
      have hfr : frA [(0, 45), (0, 47), (0, 48), (0, 52), (0, 60), (0, 68), (0, 69), (0, 70), (0, 71), (0, 72), (0, 73)] [] [2, 21, 22, 24, 25, 26, 27, 28, 29, 30, 31, 32, 33, 34, 35, 44] [23] t t_316 := frA_tr hfr f_318 rfl
      have h_320 : (t_316.1 0 41).toInt = (t1.1 0 41).toInt := ti_eq (f_318.1 0 41 rfl)
      have h_321 : (t_316.1 0 52).toInt = (t1.1 0 52).toInt := ti_eq (f_318.1 0 52 rfl)
      have h_322 : (t_316.1 0 60).toInt = (t1.1 0 60).toInt := ti_eq (f_318.1 0 60 rfl)
      have h_323 : (t_316.1 0 67).toInt = (t1.1 0 67).toInt := ti_eq (f_318.1 0 67 rfl)
      have h_324 : (t_316.1 0 68).toInt = (t1.1 0 68).toInt := ti_eq (f_318.1 0 68 rfl)
      have h_325 : (t_316.1 0 69).toInt = (t1.1 0 69).toInt := ti_eq (f_318.1 0 69 rfl)
      have e_326 : t_316.2.2.1 19 = t.2.2.1 19 := (f_318.2.2.1 19 rfl).trans (e_299)
      have e_327 : t_316.2.2.1 20 = t.2.2.1 20 := (f_318.2.2.1 20 rfl).trans (e_300)
      have h_328 : (t.2.2.1 19 (t_316.1 0 67 : Int32).toNatClampNeg).toInt = (t.2.2.1 19 (t1.1 0 67 : Int32).toNatClampNeg).toInt := by rw [show t_316.1 0 67 = t1.1 0 67 from f_318.1 0 67 rfl]
      have h_329 : (t.2.2.1 20 (t_316.1 0 67 : Int32).toNatClampNeg).toInt = (t.2.2.1 20 (t1.1 0 67 : Int32).toNatClampNeg).toInt := by rw [show t_316.1 0 67 = t1.1 0 67 from f_318.1 0 67 rfl]
      have h_330 : (0 : Int) ≤ (t_316.1 0 41).toInt ∧ (t_316.1 0 41).toInt ≤ 1280 := hok.1 0 41
      have h_331 : (0 : Int) ≤ (t_316.1 0 52).toInt ∧ (t_316.1 0 52).toInt ≤ 1200 := hok.1 0 52
      have h_332 : (0 : Int) ≤ (t_316.1 0 60).toInt ∧ (t_316.1 0 60).toInt ≤ 1200 := hok.1 0 60
      have h_333 : (0 : Int) ≤ (t_316.1 0 67).toInt ∧ (t_316.1 0 67).toInt ≤ 1281 := hok.1 0 67
      have h_334 : (0 : Int) ≤ (t_316.1 0 68).toInt ∧ (t_316.1 0 68).toInt ≤ 81 := hok.1 0 68
      have h_335 : (0 : Int) ≤ (t_316.1 0 69).toInt ∧ (t_316.1 0 69).toInt ≤ 81 := hok.1 0 69
      have h_336 : (0 : Int) ≤ (t_316.1 0 70).toInt ∧ (t_316.1 0 70).toInt ≤ 8 := hok.1 0 70
      replace p_319 : 1 ≤ (t_316.1 0 70).toInt := p_319
      exact L_62 t_316 _ _ _ hok hfr (show (t_316.1 0 52).toInt = (t.1 0 52).toInt from by omega) (show (t_316.1 0 60).toInt = (t.1 0 60).toInt from by omega) hP hD hS (lv_sub hl [0] rfl)
  refine lv_aload_n C.1 C.2.1 dX12_workLine_0 rfl (lv_at hl 0 rfl) ?_
  refine lv_iconst (v := 0) C.1 C.2.1 dX12_workLine_1 (by decide) ?_
  refine k_put (ws' := WM K ad (uI t 0 70 0)) (v := .int 0) C hP hD hS 0 rfl rfl inlX12 tyX12_ok nmX12 70 (by decide) m_29_13 rfl rfl rfl rfl rfl dX12_workLine_2 (fun H locs hP hD hS => ?_)
  have hok : okM (uI t 0 70 0) := ⟨okI_I hok.1 0 70 0 (show (0 : Int) ≤ (0 : Int32).toInt ∧ (0 : Int32).toInt ≤ 8 from ⟨by decide, by decide⟩), hok.2.1, hok.2.2.1, hok.2.2.2.1, hok.2.2.2.2.1, hok.2.2.2.2.2.1, hok.2.2.2.2.2.2.1, trivial⟩
  have hfr : frA [(0, 45), (0, 47), (0, 48), (0, 52), (0, 60), (0, 68), (0, 69), (0, 70), (0, 71), (0, 72), (0, 73)] [] [2, 21, 22, 24, 25, 26, 27, 28, 29, 30, 31, 32, 33, 34, 35, 44] [23] t (uI t 0 70 0) := frA_I hfr 0 70 _ rfl
  refine lv_aload_n C.1 C.2.1 dX12_workLine_5 rfl (lv_at hl 0 rfl) ?_
  refine k_get (v := .ref (ad 22)) C hP 0 rfl rfl inlX12 50 (by decide) m_8_6 rfl dX12_workLine_6 ?_
  refine lv_aload_n C.1 C.2.1 dX12_workLine_9 rfl (lv_at hl 0 rfl) ?_
  refine k_get (v := .int (t.1 0 67)) C hP 0 rfl rfl inlX12 67 (by decide) m_29_11 rfl dX12_workLine_10 ?_
  refine lv_sipush (v := 10000) C.1 C.2.1 dX12_workLine_13 (by decide) ?_
  refine k_ist (ws' := WM K ad (uB (uI t 0 70 0) 22 ((t.1 0 67) : Int32).toNatClampNeg 10000)) (x' := 10000) C hP hD hS 22 rfl (vp_in_iff.mpr ⟨by omega, by omega⟩) rfl rfl rfl dX12_workLine_16 (fun H locs hP hD hS => ?_)
  have hok : okM (uB (uI t 0 70 0) 22 ((t.1 0 67) : Int32).toNatClampNeg 10000) := ⟨hok.1, okB_B hok.2.1 22 _ 10000 (show (-3999 : Int) ≤ (10000 : Int32).toInt ∧ (10000 : Int32).toInt ≤ 10000 from ⟨by decide, by decide⟩), hok.2.2.1, hok.2.2.2.1, (iM3_u hok.2.2.2.2.1 _ (Or.inl (by decide))), hok.2.2.2.2.2.1, hok.2.2.2.2.2.2.1, trivial⟩
  have hfr : frA [(0, 45), (0, 47), (0, 48), (0, 52), (0, 60), (0, 68), (0, 69), (0, 70), (0, 71), (0, 72), (0, 73)] [] [2, 21, 22, 24, 25, 26, 27, 28, 29, 30, 31, 32, 33, 34, 35, 44] [23] t (uB (uI t 0 70 0) 22 ((t.1 0 67) : Int32).toNatClampNeg 10000) := frA_B hfr 22 _ _ rfl
  refine lv_aload_n C.1 C.2.1 dX12_workLine_17 rfl (lv_at hl 0 rfl) ?_
  refine lv_iconst (v := 1) C.1 C.2.1 dX12_workLine_18 (by decide) ?_
  have h_337 : (1 : Int32).toInt = 1 := rfl
  refine g_Vi (As := [.int 1]) (rest := []) C hP hD hS hA (T_X12_letterAt l D K Z Y ad (uB (uI t 0 70 0) 22 ((t.1 0 67) : Int32).toNatClampNeg 10000) hok 1 (show (1 : Int) ≤ (1 : Int32).toInt ∧ (1 : Int32).toInt ≤ 100 from ⟨by decide, by decide⟩)) hE hZ (uwV m_31_8 m_31_9 m_31_10 m_1_5 m_31_11) (hdV 1 (by decide +kernel) rfl) ⟨Nat.le_of_ble_eq_true rfl, Nat.le_of_ble_eq_true rfl⟩ rfl rfl (ci := 11) (q0 := 0) rfl rfl rfl hl.1 (Nat.le_of_ble_eq_true rfl) dX12_workLine_19 ⟨Nat.le_of_ble_eq_true rfl, Nat.le_of_ble_eq_true rfl⟩ (fun r_339 t_338 H locs hw hP hD hS => ?_)
  obtain ⟨h_341, h_342, p_343, p_344, p_345, p_346⟩ := hw
  replace p_343 : r_339 = fLet t (1 : Int32) := p_343
  replace p_344 : r_339.toInt = (fLet t (1 : Int32)).toInt := p_344
  replace p_345 : ¬ r_339.toInt = 32 → (t.2.2.1 19 ((t.1 0 67) : Int32).toNatClampNeg).toInt + (1 : Int32).toInt ≤ (t.2.2.1 20 ((t.1 0 67) : Int32).toNatClampNeg).toInt := p_345
  replace p_346 : 81 ≤ (1 : Int32).toInt → r_339.toInt = 32 := p_346
  refine lv_bipush (v := 42) C.1 C.2.1 dX12_workLine_22 (by decide) ?_
  refine lv_icmp_eq (tgt := 48) C.1 C.2.1 dX12_workLine_24 (by decide) (fun c_347 => ?_) (fun c_347 => ?_)
  · replace c_347 : r_339.toInt = 42 := i_eq c_347
    refine lv_iconst (v := 0) C.1 C.2.1 dX12_workLine_48 (by decide) ?_
    exact g_iret C hr hlocks hP hD hS (by decide) (uB (uI t 0 70 0) 22 ((t.1 0 67) : Int32).toNatClampNeg 10000) rfl ⟨hok, hfr, by decide, by decide, (show (t.1 0 52).toInt ≤ (t.1 0 52).toInt from by omega), (show 9 * ((t.1 0 52).toInt - (t.1 0 52).toInt) ≤ (t.2.2.1 20 ((t.1 0 67) : Int32).toNatClampNeg).toInt + 1 - (t.2.2.1 19 ((t.1 0 67) : Int32).toNatClampNeg).toInt from by omega), (show (t.1 0 60).toInt ≤ (t.1 0 60).toInt from by omega), (show 13 * ((t.1 0 60).toInt - (t.1 0 60).toInt) ≤ (t.2.2.1 20 ((t.1 0 67) : Int32).toNatClampNeg).toInt + 1 - (t.2.2.1 19 ((t.1 0 67) : Int32).toNatClampNeg).toInt from by omega)⟩ (Nat.le_of_ble_eq_true rfl) (Nat.le_of_ble_eq_true rfl) dX12_workLine_49
  · replace c_347 : ¬ r_339.toInt = 42 := i_ne c_347
    refine lv_aload_n C.1 C.2.1 dX12_workLine_27 rfl (lv_at hl 0 rfl) ?_
    refine lv_iconst (v := 1) C.1 C.2.1 dX12_workLine_28 (by decide) ?_
    refine lv_bipush (v := 10) C.1 C.2.1 dX12_workLine_29 (by decide) ?_
    refine g_Vi (As := [.int 1, .int 10]) (rest := []) C hP hD hS hA (T_X12_isBlank l D K Z Y ad (uB (uI t 0 70 0) 22 ((t.1 0 67) : Int32).toNatClampNeg 10000) hok 1 (show (1 : Int) ≤ (1 : Int32).toInt ∧ (1 : Int32).toInt ≤ 16 from ⟨by decide, by decide⟩) 10 (show (10 : Int) ≤ (10 : Int32).toInt ∧ (10 : Int32).toInt ≤ 15 from ⟨by decide, by decide⟩)) hE hZ (uwV m_31_20 m_31_21 m_31_22 m_1_5 m_31_23) (hdV 2 (by decide +kernel) rfl) ⟨Nat.le_of_ble_eq_true rfl, Nat.le_of_ble_eq_true rfl⟩ rfl rfl (ci := 11) (q0 := 0) rfl rfl rfl hl.1 (Nat.le_of_ble_eq_true rfl) dX12_workLine_31 ⟨Nat.le_of_ble_eq_true rfl, Nat.le_of_ble_eq_true rfl⟩ (fun r_349 t_348 H locs hw hP hD hS => ?_)
    obtain ⟨h_351, h_352, p_353⟩ := hw
    replace p_353 : r_349.toInt = 0 → (t.2.2.1 19 ((t.1 0 67) : Int32).toNatClampNeg).toInt + (1 : Int32).toInt ≤ (t.2.2.1 20 ((t.1 0 67) : Int32).toNatClampNeg).toInt := p_353
    refine lv_if_eq (tgt := 50) C.1 C.2.1 dX12_workLine_34 (by decide) (fun c_354 => ?_) (fun c_354 => ?_)
    · replace c_354 : r_349.toInt = 0 := i_eq c_354
      exact L_50 (uB (uI t 0 70 0) 22 ((t.1 0 67) : Int32).toNatClampNeg 10000) _ _ _ hok hfr (show (0 : Int) ≤ (0 : Int32).toInt ∧ (0 : Int32).toInt ≤ 0 from ⟨by decide, by decide⟩) (show (t.1 0 52).toInt = (t.1 0 52).toInt from by omega) (show (t.1 0 60).toInt = (t.1 0 60).toInt from by omega) hP hD hS (lv_sub hl [0] rfl)
    · replace c_354 : ¬ r_349.toInt = 0 := i_ne c_354
      refine lv_aload_n C.1 C.2.1 dX12_workLine_37 rfl (lv_at hl 0 rfl) ?_
      refine lv_bipush (v := 12) C.1 C.2.1 dX12_workLine_38 (by decide) ?_
      refine lv_bipush (v := 15) C.1 C.2.1 dX12_workLine_40 (by decide) ?_
      have h_355 : (12 : Int32).toInt = 12 := rfl
      refine g_Vi (As := [.int 12, .int 15]) (rest := []) C hP hD hS hA (T_X12_isBlank l D K Z Y ad (uB (uI t 0 70 0) 22 ((t.1 0 67) : Int32).toNatClampNeg 10000) hok 12 (show (1 : Int) ≤ (12 : Int32).toInt ∧ (12 : Int32).toInt ≤ 16 from ⟨by decide, by decide⟩) 15 (show (10 : Int) ≤ (15 : Int32).toInt ∧ (15 : Int32).toInt ≤ 15 from ⟨by decide, by decide⟩)) hE hZ (uwV m_31_20 m_31_21 m_31_22 m_1_5 m_31_23) (hdV 2 (by decide +kernel) rfl) ⟨Nat.le_of_ble_eq_true rfl, Nat.le_of_ble_eq_true rfl⟩ rfl rfl (ci := 11) (q0 := 0) rfl rfl rfl hl.1 (Nat.le_of_ble_eq_true rfl) dX12_workLine_42 ⟨Nat.le_of_ble_eq_true rfl, Nat.le_of_ble_eq_true rfl⟩ (fun r_357 t_356 H locs hw hP hD hS => ?_)
      obtain ⟨h_359, h_360, p_361⟩ := hw
      replace p_361 : r_357.toInt = 0 → (t.2.2.1 19 ((t.1 0 67) : Int32).toNatClampNeg).toInt + (12 : Int32).toInt ≤ (t.2.2.1 20 ((t.1 0 67) : Int32).toNatClampNeg).toInt := p_361
      refine lv_if_eq (tgt := 50) C.1 C.2.1 dX12_workLine_45 (by decide) (fun c_362 => ?_) (fun c_362 => ?_)
      · replace c_362 : r_357.toInt = 0 := i_eq c_362
        exact L_50 (uB (uI t 0 70 0) 22 ((t.1 0 67) : Int32).toNatClampNeg 10000) _ _ _ hok hfr (show (0 : Int) ≤ (0 : Int32).toInt ∧ (0 : Int32).toInt ≤ 0 from ⟨by decide, by decide⟩) (show (t.1 0 52).toInt = (t.1 0 52).toInt from by omega) (show (t.1 0 60).toInt = (t.1 0 60).toInt from by omega) hP hD hS (lv_sub hl [0] rfl)
      · replace c_362 : ¬ r_357.toInt = 0 := i_ne c_362
        refine lv_iconst (v := 0) C.1 C.2.1 dX12_workLine_48 (by decide) ?_
        exact g_iret C hr hlocks hP hD hS (by decide) (uB (uI t 0 70 0) 22 ((t.1 0 67) : Int32).toNatClampNeg 10000) rfl ⟨hok, hfr, by decide, by decide, (show (t.1 0 52).toInt ≤ (t.1 0 52).toInt from by omega), (show 9 * ((t.1 0 52).toInt - (t.1 0 52).toInt) ≤ (t.2.2.1 20 ((t.1 0 67) : Int32).toNatClampNeg).toInt + 1 - (t.2.2.1 19 ((t.1 0 67) : Int32).toNatClampNeg).toInt from by omega), (show (t.1 0 60).toInt ≤ (t.1 0 60).toInt from by omega), (show 13 * ((t.1 0 60).toInt - (t.1 0 60).toInt) ≤ (t.2.2.1 20 ((t.1 0 67) : Int32).toNatClampNeg).toInt + 1 - (t.2.2.1 19 ((t.1 0 67) : Int32).toNatClampNeg).toInt from by omega)⟩ (Nat.le_of_ble_eq_true rfl) (Nat.le_of_ble_eq_true rfl) dX12_workLine_49

theorem dX12_assembleText_0 : decode cX12_assembleText 0 = .ok (.aload_n 0, 1) := by decide +kernel
theorem dX12_assembleText_1 : decode cX12_assembleText 1 = .ok (.invokevirtual 639, 3) := by decide +kernel
theorem dX12_assembleText_10 : decode cX12_assembleText 10 = .ok (.aload_n 0, 1) := by decide +kernel
theorem dX12_assembleText_102 : decode cX12_assembleText 102 = .ok (.aload_n 0, 1) := by decide +kernel
theorem dX12_assembleText_103 : decode cX12_assembleText 103 = .ok (.getfield 469, 3) := by decide +kernel
theorem dX12_assembleText_106 : decode cX12_assembleText 106 = .ok (.ifCond .le 7, 3) := by decide +kernel
theorem dX12_assembleText_109 : decode cX12_assembleText 109 = .ok (.aload_n 0, 1) := by decide +kernel
theorem dX12_assembleText_11 : decode cX12_assembleText 11 = .ok (.iconst 0, 1) := by decide +kernel
theorem dX12_assembleText_110 : decode cX12_assembleText 110 = .ok (.invokevirtual 627, 3) := by decide +kernel
theorem dX12_assembleText_113 : decode cX12_assembleText 113 = .ok (.aload_n 0, 1) := by decide +kernel
theorem dX12_assembleText_114 : decode cX12_assembleText 114 = .ok (.aload_n 0, 1) := by decide +kernel
theorem dX12_assembleText_115 : decode cX12_assembleText 115 = .ok (.getfield 469, 3) := by decide +kernel
theorem dX12_assembleText_118 : decode cX12_assembleText 118 = .ok (.ifCond .ne 7, 3) := by decide +kernel
theorem dX12_assembleText_12 : decode cX12_assembleText 12 = .ok (.putfield 443, 3) := by decide +kernel
theorem dX12_assembleText_121 : decode cX12_assembleText 121 = .ok (.iconst 1, 1) := by decide +kernel
theorem dX12_assembleText_122 : decode cX12_assembleText 122 = .ok (.goto 4, 3) := by decide +kernel
theorem dX12_assembleText_125 : decode cX12_assembleText 125 = .ok (.iconst 0, 1) := by decide +kernel
theorem dX12_assembleText_126 : decode cX12_assembleText 126 = .ok (.putfield 633, 3) := by decide +kernel
theorem dX12_assembleText_129 : decode cX12_assembleText 129 = .ok (.aload_n 0, 1) := by decide +kernel
theorem dX12_assembleText_130 : decode cX12_assembleText 130 = .ok (.getfield 633, 3) := by decide +kernel
theorem dX12_assembleText_133 : decode cX12_assembleText 133 = .ok (.ireturn, 1) := by decide +kernel
theorem dX12_assembleText_15 : decode cX12_assembleText 15 = .ok (.aload_n 0, 1) := by decide +kernel
theorem dX12_assembleText_16 : decode cX12_assembleText 16 = .ok (.getfield 443, 3) := by decide +kernel
theorem dX12_assembleText_19 : decode cX12_assembleText 19 = .ok (.aload_n 0, 1) := by decide +kernel
theorem dX12_assembleText_20 : decode cX12_assembleText 20 = .ok (.getfield 436, 3) := by decide +kernel
theorem dX12_assembleText_23 : decode cX12_assembleText 23 = .ok (.if_icmp .ge 43, 3) := by decide +kernel
theorem dX12_assembleText_26 : decode cX12_assembleText 26 = .ok (.iload_n 1, 1) := by decide +kernel
theorem dX12_assembleText_27 : decode cX12_assembleText 27 = .ok (.ifCond .ne 39, 3) := by decide +kernel
theorem dX12_assembleText_30 : decode cX12_assembleText 30 = .ok (.aload_n 0, 1) := by decide +kernel
theorem dX12_assembleText_31 : decode cX12_assembleText 31 = .ok (.getfield 469, 3) := by decide +kernel
theorem dX12_assembleText_34 : decode cX12_assembleText 34 = .ok (.ifCond .ne 32, 3) := by decide +kernel
theorem dX12_assembleText_37 : decode cX12_assembleText 37 = .ok (.aload_n 0, 1) := by decide +kernel
theorem dX12_assembleText_38 : decode cX12_assembleText 38 = .ok (.invokevirtual 645, 3) := by decide +kernel
theorem dX12_assembleText_4 : decode cX12_assembleText 4 = .ok (.aload_n 0, 1) := by decide +kernel
theorem dX12_assembleText_41 : decode cX12_assembleText 41 = .ok (.istore_n 1, 1) := by decide +kernel
theorem dX12_assembleText_42 : decode cX12_assembleText 42 = .ok (.iload_n 1, 1) := by decide +kernel
theorem dX12_assembleText_43 : decode cX12_assembleText 43 = .ok (.ifCond .ne (-28), 3) := by decide +kernel
theorem dX12_assembleText_46 : decode cX12_assembleText 46 = .ok (.aload_n 0, 1) := by decide +kernel
theorem dX12_assembleText_47 : decode cX12_assembleText 47 = .ok (.getfield 469, 3) := by decide +kernel
theorem dX12_assembleText_5 : decode cX12_assembleText 5 = .ok (.invokevirtual 642, 3) := by decide +kernel
theorem dX12_assembleText_50 : decode cX12_assembleText 50 = .ok (.ifCond .ne (-35), 3) := by decide +kernel
theorem dX12_assembleText_53 : decode cX12_assembleText 53 = .ok (.aload_n 0, 1) := by decide +kernel
theorem dX12_assembleText_54 : decode cX12_assembleText 54 = .ok (.dup, 1) := by decide +kernel
theorem dX12_assembleText_55 : decode cX12_assembleText 55 = .ok (.getfield 443, 3) := by decide +kernel
theorem dX12_assembleText_58 : decode cX12_assembleText 58 = .ok (.iconst 1, 1) := by decide +kernel
theorem dX12_assembleText_59 : decode cX12_assembleText 59 = .ok (.iadd, 1) := by decide +kernel
theorem dX12_assembleText_60 : decode cX12_assembleText 60 = .ok (.putfield 443, 3) := by decide +kernel
theorem dX12_assembleText_63 : decode cX12_assembleText 63 = .ok (.goto (-48), 3) := by decide +kernel
theorem dX12_assembleText_66 : decode cX12_assembleText 66 = .ok (.iload_n 1, 1) := by decide +kernel
theorem dX12_assembleText_67 : decode cX12_assembleText 67 = .ok (.ifCond .ne 9, 3) := by decide +kernel
theorem dX12_assembleText_70 : decode cX12_assembleText 70 = .ok (.aload_n 0, 1) := by decide +kernel
theorem dX12_assembleText_71 : decode cX12_assembleText 71 = .ok (.bipush 7, 2) := by decide +kernel
theorem dX12_assembleText_73 : decode cX12_assembleText 73 = .ok (.invokevirtual 478, 3) := by decide +kernel
theorem dX12_assembleText_76 : decode cX12_assembleText 76 = .ok (.aload_n 0, 1) := by decide +kernel
theorem dX12_assembleText_77 : decode cX12_assembleText 77 = .ok (.aload_n 0, 1) := by decide +kernel
theorem dX12_assembleText_78 : decode cX12_assembleText 78 = .ok (.getfield 469, 3) := by decide +kernel
theorem dX12_assembleText_8 : decode cX12_assembleText 8 = .ok (.iconst 0, 1) := by decide +kernel
theorem dX12_assembleText_81 : decode cX12_assembleText 81 = .ok (.putfield 648, 3) := by decide +kernel
theorem dX12_assembleText_84 : decode cX12_assembleText 84 = .ok (.aload_n 0, 1) := by decide +kernel
theorem dX12_assembleText_85 : decode cX12_assembleText 85 = .ok (.aload_n 0, 1) := by decide +kernel
theorem dX12_assembleText_86 : decode cX12_assembleText 86 = .ok (.getfield 443, 3) := by decide +kernel
theorem dX12_assembleText_89 : decode cX12_assembleText 89 = .ok (.iconst 1, 1) := by decide +kernel
theorem dX12_assembleText_9 : decode cX12_assembleText 9 = .ok (.istore_n 1, 1) := by decide +kernel
theorem dX12_assembleText_90 : decode cX12_assembleText 90 = .ok (.iadd, 1) := by decide +kernel
theorem dX12_assembleText_91 : decode cX12_assembleText 91 = .ok (.putfield 651, 3) := by decide +kernel
theorem dX12_assembleText_94 : decode cX12_assembleText 94 = .ok (.aload_n 0, 1) := by decide +kernel
theorem dX12_assembleText_95 : decode cX12_assembleText 95 = .ok (.aload_n 0, 1) := by decide +kernel
theorem dX12_assembleText_96 : decode cX12_assembleText 96 = .ok (.getfield 443, 3) := by decide +kernel
theorem dX12_assembleText_99 : decode cX12_assembleText 99 = .ok (.putfield 654, 3) := by decide +kernel
set_option maxHeartbeats 4000000 in
set_option maxRecDepth 100000 in
theorem T_X12_assembleText (l : Launch) (D : va_G) (K : Nat → ClassId) (Z Y : Nat → Nat) (ad : Nat → Nat) (t : tSt) (hok : okM t)  : tMet l yX12_assembleText cX12_assembleText 2 (some .boolean) (rmD 18 0 0) D K Z Y [.ref (ad 0)] (WM K ad t) (QI D K (fun (r : Int32) (u : tSt) => okM u ∧ frA [(0, 5), (0, 6), (0, 7), (0, 9), (0, 10), (0, 11), (0, 12), (0, 41), (0, 42), (0, 43), (0, 44), (0, 45), (0, 47), (0, 48), (0, 51), (0, 52), (0, 60), (0, 67), (0, 68), (0, 69), (0, 70), (0, 71), (0, 72), (0, 73), (0, 91)] [(0, 8)] [2, 3, 5, 19, 20, 21, 22, 24, 25, 26, 27, 28, 29, 30, 31, 32, 33, 34, 35, 44] [4, 23] t u ∧ (0 : Int) ≤ r.toInt ∧ r.toInt ≤ 1 ∧ ((u.2.1 0 8).toInt = 0) ∧ (bz (u.2.2.2 4) 20)) (fun (u : tSt) => WM K ad u)) 0 0 := by
  refine t_met RX12 ⟨rfl, by decide +kernel⟩ (Nat.le_of_ble_eq_true rfl) ?_
  intro p e s m below meth c A ls C hE hZ hr hlocks hA hP hD hS hl
  have hl : lv_has ls 2 [(0, .ref (ad 0))] := hl
  have hokt := hok
  have hfr : frA [(0, 5), (0, 6), (0, 7), (0, 9), (0, 10), (0, 11), (0, 12), (0, 41), (0, 42), (0, 43), (0, 44), (0, 45), (0, 47), (0, 48), (0, 51), (0, 52), (0, 60), (0, 67), (0, 68), (0, 69), (0, 70), (0, 71), (0, 72), (0, 73), (0, 91)] [(0, 8)] [2, 3, 5, 19, 20, 21, 22, 24, 25, 26, 27, 28, 29, 30, 31, 32, 33, 34, 35, 44] [4, 23] t t := frA_rf
  have h_1 : (0 : Int) ≤ (t.1 0 12).toInt ∧ (t.1 0 12).toInt ≤ 1 := hok.1 0 12
  have h_2 : (0 : Int) ≤ (t.1 0 41).toInt ∧ (t.1 0 41).toInt ≤ 1280 := hok.1 0 41
  have h_3 : (0 : Int) ≤ (t.1 0 52).toInt ∧ (t.1 0 52).toInt ≤ 1200 := hok.1 0 52
  have h_4 : (0 : Int) ≤ (t.1 0 60).toInt ∧ (t.1 0 60).toInt ≤ 1200 := hok.1 0 60
  have h_5 : (0 : Int) ≤ (t.1 0 67).toInt ∧ (t.1 0 67).toInt ≤ 1281 := hok.1 0 67
  have h_6 : (0 : Int) ≤ (t.1 0 70).toInt ∧ (t.1 0 70).toInt ≤ 8 := hok.1 0 70
  have L_113 : ∀ (t1 : tSt) (w113_1 : Int32) (H : Heap) (locs : List Loc) (ls : Array Slot), okM t1 → frA [(0, 5), (0, 6), (0, 7), (0, 9), (0, 10), (0, 11), (0, 12), (0, 41), (0, 42), (0, 43), (0, 44), (0, 45), (0, 47), (0, 48), (0, 51), (0, 52), (0, 60), (0, 67), (0, 68), (0, 69), (0, 70), (0, 71), (0, 72), (0, 73), (0, 91)] [(0, 8)] [2, 3, 5, 19, 20, 21, 22, 24, 25, 26, 27, 28, 29, 30, 31, 32, 33, 34, 35, 44] [4, 23] t t1 → (0 : Int) ≤ w113_1.toInt ∧ w113_1.toInt ≤ 1 → (1 : Int) ≤ (t1.1 0 44).toInt ∧ (t1.1 0 44).toInt ≤ 4000 → ((t1.2.1 0 8).toInt = 0) → (bz (t1.2.2.2 4) 20) → va_P D vwCl (WM K ad t1) H → va_D A (WM K ad t1) → va_S A s.heap H locs → lv_has ls 2 [(0, .ref (ad 0)), (1, .int w113_1)] → W p l e (rmD 18 0 0) s m [.ref (ad 0)].toArray below meth c H locs 0 0 (MQ below (QI D K (fun (r : Int32) (u : tSt) => okM u ∧ frA [(0, 5), (0, 6), (0, 7), (0, 9), (0, 10), (0, 11), (0, 12), (0, 41), (0, 42), (0, 43), (0, 44), (0, 45), (0, 47), (0, 48), (0, 51), (0, 52), (0, 60), (0, 67), (0, 68), (0, 69), (0, 70), (0, 71), (0, 72), (0, 73), (0, 91)] [(0, 8)] [2, 3, 5, 19, 20, 21, 22, 24, 25, 26, 27, 28, 29, 30, 31, 32, 33, 34, 35, 44] [4, 23] t u ∧ (0 : Int) ≤ r.toInt ∧ r.toInt ≤ 1 ∧ ((u.2.1 0 8).toInt = 0) ∧ (bz (u.2.2.2 4) 20)) (fun (u : tSt) => WM K ad u) A) [.ref (ad 0)].toArray s 0 0 A) (F0 m 113 ls []) := by
    intro t1 w113_1 H locs ls hok hfr hw113_1 hf113_44 hi113_0 hi113_1 hP hD hS hl
    have h_7 : (0 : Int) ≤ (t1.1 0 12).toInt ∧ (t1.1 0 12).toInt ≤ 1 := hok.1 0 12
    have h_8 : (0 : Int) ≤ (t1.1 0 41).toInt ∧ (t1.1 0 41).toInt ≤ 1280 := hok.1 0 41
    have h_9 : (0 : Int) ≤ (t1.1 0 52).toInt ∧ (t1.1 0 52).toInt ≤ 1200 := hok.1 0 52
    have h_10 : (0 : Int) ≤ (t1.1 0 60).toInt ∧ (t1.1 0 60).toInt ≤ 1200 := hok.1 0 60
    have h_11 : (0 : Int) ≤ (t1.1 0 67).toInt ∧ (t1.1 0 67).toInt ≤ 1281 := hok.1 0 67
    have h_12 : (0 : Int) ≤ (t1.1 0 70).toInt ∧ (t1.1 0 70).toInt ≤ 8 := hok.1 0 70
    refine lv_aload_n C.1 C.2.1 dX12_assembleText_113 rfl (lv_at hl 0 rfl) ?_
    refine lv_aload_n C.1 C.2.1 dX12_assembleText_114 rfl (lv_at hl 0 rfl) ?_
    refine k_get (v := .int (t1.1 0 70)) C hP 0 rfl rfl inlX12 70 (by decide) m_29_13 rfl dX12_assembleText_115 ?_
    refine lv_if_ne (tgt := 125) C.1 C.2.1 dX12_assembleText_118 (by decide) (fun c_13 => ?_) (fun c_13 => ?_)
    · replace c_13 : ¬ (t1.1 0 70).toInt = 0 := i_ne c_13
      refine lv_iconst (v := 0) C.1 C.2.1 dX12_assembleText_125 (by decide) ?_
      refine k_put (ws' := WM K ad (uI t1 0 42 0)) (v := .int 0) C hP hD hS 0 rfl rfl inlX12 tyX12_ok nmX12 42 (by decide) m_29_16 rfl (by decide) (by decide) rfl rfl dX12_assembleText_126 (fun H locs hP hD hS => ?_)
      have hok : okM (uI t1 0 42 0) := ⟨okI_I hok.1 0 42 0 (show (0 : Int) ≤ (0 : Int32).toInt ∧ (0 : Int32).toInt ≤ 1 from ⟨by decide, by decide⟩), hok.2.1, hok.2.2.1, hok.2.2.2.1, hok.2.2.2.2.1, hok.2.2.2.2.2.1, hok.2.2.2.2.2.2.1, trivial⟩
      have hfr : frA [(0, 5), (0, 6), (0, 7), (0, 9), (0, 10), (0, 11), (0, 12), (0, 41), (0, 42), (0, 43), (0, 44), (0, 45), (0, 47), (0, 48), (0, 51), (0, 52), (0, 60), (0, 67), (0, 68), (0, 69), (0, 70), (0, 71), (0, 72), (0, 73), (0, 91)] [(0, 8)] [2, 3, 5, 19, 20, 21, 22, 24, 25, 26, 27, 28, 29, 30, 31, 32, 33, 34, 35, 44] [4, 23] t (uI t1 0 42 0) := frA_I hfr 0 42 _ rfl
      refine lv_aload_n C.1 C.2.1 dX12_assembleText_129 rfl (lv_at hl 0 rfl) ?_
      refine k_get (v := .int 0) C hP 0 rfl rfl inlX12 42 (by decide) m_29_16 rfl dX12_assembleText_130 ?_
      exact g_iret C hr hlocks hP hD hS (by decide) (uI t1 0 42 0) rfl ⟨hok, hfr, by decide, by decide, (show (t1.2.1 0 8).toInt = 0 from by omega), (show bz (t1.2.2.2 4) 20 from by exact hi113_1)⟩ (Nat.le_of_ble_eq_true rfl) (Nat.le_of_ble_eq_true rfl) dX12_assembleText_133
    · replace c_13 : (t1.1 0 70).toInt = 0 := i_eq c_13
      refine lv_iconst (v := 1) C.1 C.2.1 dX12_assembleText_121 (by decide) ?_
      refine lv_goto (tgt := 126) C.1 C.2.1 dX12_assembleText_122 (by decide) ?_
      refine k_put (ws' := WM K ad (uI t1 0 42 1)) (v := .int 1) C hP hD hS 0 rfl rfl inlX12 tyX12_ok nmX12 42 (by decide) m_29_16 rfl (by decide) (by decide) rfl rfl dX12_assembleText_126 (fun H locs hP hD hS => ?_)
      have hok : okM (uI t1 0 42 1) := ⟨okI_I hok.1 0 42 1 (show (0 : Int) ≤ (1 : Int32).toInt ∧ (1 : Int32).toInt ≤ 1 from ⟨by decide, by decide⟩), hok.2.1, hok.2.2.1, hok.2.2.2.1, hok.2.2.2.2.1, hok.2.2.2.2.2.1, hok.2.2.2.2.2.2.1, trivial⟩
      have hfr : frA [(0, 5), (0, 6), (0, 7), (0, 9), (0, 10), (0, 11), (0, 12), (0, 41), (0, 42), (0, 43), (0, 44), (0, 45), (0, 47), (0, 48), (0, 51), (0, 52), (0, 60), (0, 67), (0, 68), (0, 69), (0, 70), (0, 71), (0, 72), (0, 73), (0, 91)] [(0, 8)] [2, 3, 5, 19, 20, 21, 22, 24, 25, 26, 27, 28, 29, 30, 31, 32, 33, 34, 35, 44] [4, 23] t (uI t1 0 42 1) := frA_I hfr 0 42 _ rfl
      refine lv_aload_n C.1 C.2.1 dX12_assembleText_129 rfl (lv_at hl 0 rfl) ?_
      refine k_get (v := .int 1) C hP 0 rfl rfl inlX12 42 (by decide) m_29_16 rfl dX12_assembleText_130 ?_
      exact g_iret C hr hlocks hP hD hS (by decide) (uI t1 0 42 1) rfl ⟨hok, hfr, by decide, by decide, (show (t1.2.1 0 8).toInt = 0 from by omega), (show bz (t1.2.2.2 4) 20 from by exact hi113_1)⟩ (Nat.le_of_ble_eq_true rfl) (Nat.le_of_ble_eq_true rfl) dX12_assembleText_133
  have L_76 : ∀ (t1 : tSt) (w76_1 : Int32) (H : Heap) (locs : List Loc) (ls : Array Slot), okM t1 → frA [(0, 5), (0, 6), (0, 7), (0, 9), (0, 10), (0, 11), (0, 12), (0, 41), (0, 42), (0, 43), (0, 44), (0, 45), (0, 47), (0, 48), (0, 51), (0, 52), (0, 60), (0, 67), (0, 68), (0, 69), (0, 70), (0, 71), (0, 72), (0, 73), (0, 91)] [(0, 8)] [2, 3, 5, 19, 20, 21, 22, 24, 25, 26, 27, 28, 29, 30, 31, 32, 33, 34, 35, 44] [4, 23] t t1 → (0 : Int) ≤ w76_1.toInt ∧ w76_1.toInt ≤ 1 → ((t1.2.1 0 8).toInt = 0) → (bz (t1.2.2.2 4) 20) → ((t1.1 0 67).toInt ≤ 1280) → va_P D vwCl (WM K ad t1) H → va_D A (WM K ad t1) → va_S A s.heap H locs → lv_has ls 2 [(0, .ref (ad 0)), (1, .int w76_1)] → W p l e (rmD 18 0 0) s m [.ref (ad 0)].toArray below meth c H locs 0 0 (MQ below (QI D K (fun (r : Int32) (u : tSt) => okM u ∧ frA [(0, 5), (0, 6), (0, 7), (0, 9), (0, 10), (0, 11), (0, 12), (0, 41), (0, 42), (0, 43), (0, 44), (0, 45), (0, 47), (0, 48), (0, 51), (0, 52), (0, 60), (0, 67), (0, 68), (0, 69), (0, 70), (0, 71), (0, 72), (0, 73), (0, 91)] [(0, 8)] [2, 3, 5, 19, 20, 21, 22, 24, 25, 26, 27, 28, 29, 30, 31, 32, 33, 34, 35, 44] [4, 23] t u ∧ (0 : Int) ≤ r.toInt ∧ r.toInt ≤ 1 ∧ ((u.2.1 0 8).toInt = 0) ∧ (bz (u.2.2.2 4) 20)) (fun (u : tSt) => WM K ad u) A) [.ref (ad 0)].toArray s 0 0 A) (F0 m 76 ls []) := by
    intro t1 w76_1 H locs ls hok hfr hw76_1 hi76_0 hi76_1 hi76_2 hP hD hS hl
    have h_14 : (0 : Int) ≤ (t1.1 0 12).toInt ∧ (t1.1 0 12).toInt ≤ 1 := hok.1 0 12
    have h_15 : (0 : Int) ≤ (t1.1 0 41).toInt ∧ (t1.1 0 41).toInt ≤ 1280 := hok.1 0 41
    have h_16 : (0 : Int) ≤ (t1.1 0 52).toInt ∧ (t1.1 0 52).toInt ≤ 1200 := hok.1 0 52
    have h_17 : (0 : Int) ≤ (t1.1 0 60).toInt ∧ (t1.1 0 60).toInt ≤ 1200 := hok.1 0 60
    have h_18 : (0 : Int) ≤ (t1.1 0 67).toInt ∧ (t1.1 0 67).toInt ≤ 1281 := hok.1 0 67
    have h_19 : (0 : Int) ≤ (t1.1 0 70).toInt ∧ (t1.1 0 70).toInt ≤ 8 := hok.1 0 70
    refine lv_aload_n C.1 C.2.1 dX12_assembleText_76 rfl (lv_at hl 0 rfl) ?_
    refine lv_aload_n C.1 C.2.1 dX12_assembleText_77 rfl (lv_at hl 0 rfl) ?_
    refine k_get (v := .int (t1.1 0 70)) C hP 0 rfl rfl inlX12 70 (by decide) m_29_13 rfl dX12_assembleText_78 ?_
    refine k_put (ws' := WM K ad (uI t1 0 43 (t1.1 0 70))) (v := .int (t1.1 0 70)) C hP hD hS 0 rfl rfl inlX12 tyX12_ok nmX12 43 (by decide) m_29_14 rfl rfl rfl rfl rfl dX12_assembleText_81 (fun H locs hP hD hS => ?_)
    have hok : okM (uI t1 0 43 (t1.1 0 70)) := ⟨okI_I hok.1 0 43 (t1.1 0 70) (show (0 : Int) ≤ ((t1.1 0 70) : Int32).toInt ∧ ((t1.1 0 70) : Int32).toInt ≤ 8 from ⟨by omega, by omega⟩), hok.2.1, hok.2.2.1, hok.2.2.2.1, hok.2.2.2.2.1, hok.2.2.2.2.2.1, hok.2.2.2.2.2.2.1, trivial⟩
    have hfr : frA [(0, 5), (0, 6), (0, 7), (0, 9), (0, 10), (0, 11), (0, 12), (0, 41), (0, 42), (0, 43), (0, 44), (0, 45), (0, 47), (0, 48), (0, 51), (0, 52), (0, 60), (0, 67), (0, 68), (0, 69), (0, 70), (0, 71), (0, 72), (0, 73), (0, 91)] [(0, 8)] [2, 3, 5, 19, 20, 21, 22, 24, 25, 26, 27, 28, 29, 30, 31, 32, 33, 34, 35, 44] [4, 23] t (uI t1 0 43 (t1.1 0 70)) := frA_I hfr 0 43 _ rfl
    refine lv_aload_n C.1 C.2.1 dX12_assembleText_84 rfl (lv_at hl 0 rfl) ?_
    refine lv_aload_n C.1 C.2.1 dX12_assembleText_85 rfl (lv_at hl 0 rfl) ?_
    refine k_get (v := .int (t1.1 0 67)) C hP 0 rfl rfl inlX12 67 (by decide) m_29_11 rfl dX12_assembleText_86 ?_
    refine lv_iconst (v := 1) C.1 C.2.1 dX12_assembleText_89 (by decide) ?_
    obtain ⟨v_20, e_21⟩ : ∃ z, z = ((t1.1 0 67) : Int32) + (1 : Int32) := ⟨_, rfl⟩
    have h_22 : v_20.toInt = (t1.1 0 67).toInt + 1 := by rw [e_21]; exact ti_iadd (by show (_ : Int) ≤ (t1.1 0 67).toInt + 1; omega) (by show (t1.1 0 67).toInt + 1 < (_ : Int); omega)
    refine k_iadd (v := v_20) C e_21.symm dX12_assembleText_90 ?_
    refine k_put (ws' := WM K ad (uI (uI t1 0 43 (t1.1 0 70)) 0 44 v_20)) (v := .int v_20) C hP hD hS 0 rfl rfl inlX12 tyX12_ok nmX12 44 (by decide) m_28_23 rfl rfl rfl rfl rfl dX12_assembleText_91 (fun H locs hP hD hS => ?_)
    have hok : okM (uI (uI t1 0 43 (t1.1 0 70)) 0 44 v_20) := ⟨okI_I hok.1 0 44 v_20 (show (0 : Int) ≤ (v_20 : Int32).toInt ∧ (v_20 : Int32).toInt ≤ 4000 from ⟨by omega, by omega⟩), hok.2.1, hok.2.2.1, hok.2.2.2.1, hok.2.2.2.2.1, hok.2.2.2.2.2.1, hok.2.2.2.2.2.2.1, trivial⟩
    have hfr : frA [(0, 5), (0, 6), (0, 7), (0, 9), (0, 10), (0, 11), (0, 12), (0, 41), (0, 42), (0, 43), (0, 44), (0, 45), (0, 47), (0, 48), (0, 51), (0, 52), (0, 60), (0, 67), (0, 68), (0, 69), (0, 70), (0, 71), (0, 72), (0, 73), (0, 91)] [(0, 8)] [2, 3, 5, 19, 20, 21, 22, 24, 25, 26, 27, 28, 29, 30, 31, 32, 33, 34, 35, 44] [4, 23] t (uI (uI t1 0 43 (t1.1 0 70)) 0 44 v_20) := frA_I hfr 0 44 _ rfl
    refine lv_aload_n C.1 C.2.1 dX12_assembleText_94 rfl (lv_at hl 0 rfl) ?_
    refine lv_aload_n C.1 C.2.1 dX12_assembleText_95 rfl (lv_at hl 0 rfl) ?_
    refine k_get (v := .int (t1.1 0 67)) C hP 0 rfl rfl inlX12 67 (by decide) m_29_11 rfl dX12_assembleText_96 ?_
    refine k_put (ws' := WM K ad (uI (uI (uI t1 0 43 (t1.1 0 70)) 0 44 v_20) 0 51 (t1.1 0 67))) (v := .int (t1.1 0 67)) C hP hD hS 0 rfl rfl inlX12 tyX12_ok nmX12 51 (by decide) m_29_15 rfl rfl rfl rfl rfl dX12_assembleText_99 (fun H locs hP hD hS => ?_)
    have hok : okM (uI (uI (uI t1 0 43 (t1.1 0 70)) 0 44 v_20) 0 51 (t1.1 0 67)) := ⟨okI_I hok.1 0 51 (t1.1 0 67) (show (0 : Int) ≤ ((t1.1 0 67) : Int32).toInt ∧ ((t1.1 0 67) : Int32).toInt ≤ 1280 from ⟨by omega, by omega⟩), hok.2.1, hok.2.2.1, hok.2.2.2.1, hok.2.2.2.2.1, hok.2.2.2.2.2.1, hok.2.2.2.2.2.2.1, trivial⟩
    have hfr : frA [(0, 5), (0, 6), (0, 7), (0, 9), (0, 10), (0, 11), (0, 12), (0, 41), (0, 42), (0, 43), (0, 44), (0, 45), (0, 47), (0, 48), (0, 51), (0, 52), (0, 60), (0, 67), (0, 68), (0, 69), (0, 70), (0, 71), (0, 72), (0, 73), (0, 91)] [(0, 8)] [2, 3, 5, 19, 20, 21, 22, 24, 25, 26, 27, 28, 29, 30, 31, 32, 33, 34, 35, 44] [4, 23] t (uI (uI (uI t1 0 43 (t1.1 0 70)) 0 44 v_20) 0 51 (t1.1 0 67)) := frA_I hfr 0 51 _ rfl
    refine lv_aload_n C.1 C.2.1 dX12_assembleText_102 rfl (lv_at hl 0 rfl) ?_
    refine k_get (v := .int (t1.1 0 70)) C hP 0 rfl rfl inlX12 70 (by decide) m_29_13 rfl dX12_assembleText_103 ?_
    refine lv_if_le (tgt := 113) C.1 C.2.1 dX12_assembleText_106 (by decide) (fun c_23 => ?_) (fun c_23 => ?_)
    · replace c_23 : (t1.1 0 70).toInt ≤ 0 := i_le c_23
      exact L_113 (uI (uI (uI t1 0 43 (t1.1 0 70)) 0 44 v_20) 0 51 (t1.1 0 67)) w76_1 _ _ _ hok hfr ⟨by omega, by omega⟩ (show (1 : Int) ≤ (v_20 : Int32).toInt ∧ (v_20 : Int32).toInt ≤ 4000 from ⟨by omega, by omega⟩) (show (t1.2.1 0 8).toInt = 0 from by omega) (show bz (t1.2.2.2 4) 20 from by first | exact hi76_1 | (rw [rfl]; exact hi76_1)) hP hD hS (lv_sub hl [0, 1] rfl)
    · replace c_23 : 0 < (t1.1 0 70).toInt := i_nle c_23
      refine lv_aload_n C.1 C.2.1 dX12_assembleText_109 rfl (lv_at hl 0 rfl) ?_
      refine g_Vv (As := []) (rest := []) C hP hD hS hA (T_X12_clearMemory l D K Z Y ad (uI (uI (uI t1 0 43 (t1.1 0 70)) 0 44 v_20) 0 51 (t1.1 0 67)) hok ) hE hZ (uwV m_30_4 m_30_5 m_30_6 m_1_5 m_30_7) (hdV 0 (by decide +kernel) rfl) ⟨Nat.le_of_ble_eq_true rfl, Nat.le_of_ble_eq_true rfl⟩ rfl rfl (ci := 11) (q0 := 0) rfl rfl rfl hl.1 (Nat.le_of_ble_eq_true rfl) dX12_assembleText_110 ⟨Nat.le_of_ble_eq_true rfl, Nat.le_of_ble_eq_true rfl⟩ (fun t_24 H locs hw hP hD hS => ?_)
      obtain ⟨hok, f_26⟩ := hw
      have hfr : frA [(0, 5), (0, 6), (0, 7), (0, 9), (0, 10), (0, 11), (0, 12), (0, 41), (0, 42), (0, 43), (0, 44), (0, 45), (0, 47), (0, 48), (0, 51), (0, 52), (0, 60), (0, 67), (0, 68), (0, 69), (0, 70), (0, 71), (0, 72), (0, 73), (0, 91)] [(0, 8)] [2, 3, 5, 19, 20, 21, 22, 24, 25, 26, 27, 28, 29, 30, 31, 32, 33, 34, 35, 44] [4, 23] t t_24 := frA_tr hfr f_26 rfl
      have h_27 : (t_24.1 0 70).toInt = (t1.1 0 70).toInt := ti_eq (f_26.1 0 70 rfl)
      have h_28 : (t_24.1 0 43).toInt = (t1.1 0 70).toInt := ti_eq (f_26.1 0 43 rfl)
      have h_29 : (t_24.1 0 67).toInt = (t1.1 0 67).toInt := ti_eq (f_26.1 0 67 rfl)
      have h_30 : (t_24.1 0 44).toInt = v_20.toInt := ti_eq (f_26.1 0 44 rfl)
      have h_31 : (t_24.1 0 51).toInt = (t1.1 0 67).toInt := ti_eq (f_26.1 0 51 rfl)
      have h_32 : (t_24.2.1 0 8).toInt = (t1.2.1 0 8).toInt := tl_eq (f_26.2.1 0 8 rfl)
      have h_33 : (t_24.1 0 12).toInt = (t1.1 0 12).toInt := ti_eq (f_26.1 0 12 rfl)
      have h_34 : (t_24.1 0 41).toInt = (t1.1 0 41).toInt := ti_eq (f_26.1 0 41 rfl)
      have h_35 : (t_24.1 0 52).toInt = (t1.1 0 52).toInt := ti_eq (f_26.1 0 52 rfl)
      have h_36 : (t_24.1 0 60).toInt = (t1.1 0 60).toInt := ti_eq (f_26.1 0 60 rfl)
      have e_37 : t_24.2.2.2 4 = t1.2.2.2 4 := f_26.2.2.2 4 rfl
      have e_38 : t_24.2.2.1 19 = t1.2.2.1 19 := f_26.2.2.1 19 rfl
      have e_39 : t_24.2.2.1 20 = t1.2.2.1 20 := f_26.2.2.1 20 rfl
      have h_40 : (t1.2.2.1 19 (t_24.1 0 67 : Int32).toNatClampNeg).toInt = (t1.2.2.1 19 (t1.1 0 67 : Int32).toNatClampNeg).toInt := by rw [show t_24.1 0 67 = t1.1 0 67 from f_26.1 0 67 rfl]
      have h_41 : (t1.2.2.1 20 (t_24.1 0 67 : Int32).toNatClampNeg).toInt = (t1.2.2.1 20 (t1.1 0 67 : Int32).toNatClampNeg).toInt := by rw [show t_24.1 0 67 = t1.1 0 67 from f_26.1 0 67 rfl]
      have h_42 : (0 : Int) ≤ (t_24.1 0 12).toInt ∧ (t_24.1 0 12).toInt ≤ 1 := hok.1 0 12
      have h_43 : (0 : Int) ≤ (t_24.1 0 41).toInt ∧ (t_24.1 0 41).toInt ≤ 1280 := hok.1 0 41
      have h_44 : (0 : Int) ≤ (t_24.1 0 52).toInt ∧ (t_24.1 0 52).toInt ≤ 1200 := hok.1 0 52
      have h_45 : (0 : Int) ≤ (t_24.1 0 60).toInt ∧ (t_24.1 0 60).toInt ≤ 1200 := hok.1 0 60
      exact L_113 t_24 w76_1 _ _ _ hok hfr ⟨by omega, by omega⟩ (show (1 : Int) ≤ ((t_24.1 0 44) : Int32).toInt ∧ ((t_24.1 0 44) : Int32).toInt ≤ 4000 from ⟨by omega, by omega⟩) (show (t_24.2.1 0 8).toInt = 0 from by omega) (show bz (t_24.2.2.2 4) 20 from by first | exact hi76_1 | (rw [e_37]; exact hi76_1)) hP hD hS (lv_sub hl [0, 1] rfl)
  have L_15 : ∀ (fuel_15 : Nat) (t1 : tSt) (w15_1 : Int32) (H : Heap) (locs : List Loc) (ls : Array Slot), okM t1 → frA [(0, 5), (0, 6), (0, 7), (0, 9), (0, 10), (0, 11), (0, 12), (0, 41), (0, 42), (0, 43), (0, 44), (0, 45), (0, 47), (0, 48), (0, 51), (0, 52), (0, 60), (0, 67), (0, 68), (0, 69), (0, 70), (0, 71), (0, 72), (0, 73), (0, 91)] [(0, 8)] [2, 3, 5, 19, 20, 21, 22, 24, 25, 26, 27, 28, 29, 30, 31, 32, 33, 34, 35, 44] [4, 23] t t1 → (0 : Int) ≤ w15_1.toInt ∧ w15_1.toInt ≤ 1 → (lnS (t1.1 0 41).toInt (t1.2.2.1 19) (t1.2.2.1 20)) → ((t1.1 0 67).toInt ≤ (t1.1 0 41).toInt) → (w15_1.toInt = 0 → (t1.1 0 70).toInt = 0 → (t1.1 0 67).toInt < (t1.1 0 41).toInt → 9 * (t1.1 0 52).toInt ≤ (t1.2.2.1 19 ((t1.1 0 67) : Int32).toNatClampNeg).toInt ∧ 13 * (t1.1 0 60).toInt ≤ (t1.2.2.1 19 ((t1.1 0 67) : Int32).toNatClampNeg).toInt) → ((t1.2.1 0 8).toInt = 0) → (bz (t1.2.2.2 4) 20) → (2 * ((t1.1 0 41).toInt - (t1.1 0 67).toInt) + 1 - w15_1.toInt + st0 (t1.1 0 70)) < (fuel_15 : Int) → va_P D vwCl (WM K ad t1) H → va_D A (WM K ad t1) → va_S A s.heap H locs → lv_has ls 2 [(0, .ref (ad 0)), (1, .int w15_1)] → W p l e (rmD 18 0 0) s m [.ref (ad 0)].toArray below meth c H locs 0 0 (MQ below (QI D K (fun (r : Int32) (u : tSt) => okM u ∧ frA [(0, 5), (0, 6), (0, 7), (0, 9), (0, 10), (0, 11), (0, 12), (0, 41), (0, 42), (0, 43), (0, 44), (0, 45), (0, 47), (0, 48), (0, 51), (0, 52), (0, 60), (0, 67), (0, 68), (0, 69), (0, 70), (0, 71), (0, 72), (0, 73), (0, 91)] [(0, 8)] [2, 3, 5, 19, 20, 21, 22, 24, 25, 26, 27, 28, 29, 30, 31, 32, 33, 34, 35, 44] [4, 23] t u ∧ (0 : Int) ≤ r.toInt ∧ r.toInt ≤ 1 ∧ ((u.2.1 0 8).toInt = 0) ∧ (bz (u.2.2.2 4) 20)) (fun (u : tSt) => WM K ad u) A) [.ref (ad 0)].toArray s 0 0 A) (F0 m 15 ls []) := by
    intro fuel_15
    induction fuel_15 with
    | zero =>
      intro t1 w15_1 H locs ls hok hfr hw15_1 hi15_0 hi15_1 hi15_2 hi15_3 hi15_4 hm15_15 hP hD hS hl
      have h_46 : (0 : Int) ≤ (t1.1 0 12).toInt ∧ (t1.1 0 12).toInt ≤ 1 := hok.1 0 12
      have h_47 : (0 : Int) ≤ (t1.1 0 41).toInt ∧ (t1.1 0 41).toInt ≤ 1280 := hok.1 0 41
      have h_48 : (0 : Int) ≤ (t1.1 0 52).toInt ∧ (t1.1 0 52).toInt ≤ 1200 := hok.1 0 52
      have h_49 : (0 : Int) ≤ (t1.1 0 60).toInt ∧ (t1.1 0 60).toInt ≤ 1200 := hok.1 0 60
      have h_50 : (0 : Int) ≤ (t1.1 0 67).toInt ∧ (t1.1 0 67).toInt ≤ 1281 := hok.1 0 67
      have h_51 : (0 : Int) ≤ (t1.1 0 70).toInt ∧ (t1.1 0 70).toInt ≤ 8 := hok.1 0 70
      have hst := st0_r (t1.1 0 70)
      exact absurd hm15_15 (by omega)
    | succ fuel_15 ih_15 =>
      intro t1 w15_1 H locs ls hok hfr hw15_1 hi15_0 hi15_1 hi15_2 hi15_3 hi15_4 hm15_15 hP hD hS hl
      have hm15_15 : (2 * ((t1.1 0 41).toInt - (t1.1 0 67).toInt) + 1 - w15_1.toInt + st0 (t1.1 0 70)) < (fuel_15 : Int) + 1 := by omega
      have h_52 : (0 : Int) ≤ (t1.1 0 12).toInt ∧ (t1.1 0 12).toInt ≤ 1 := hok.1 0 12
      have h_53 : (0 : Int) ≤ (t1.1 0 41).toInt ∧ (t1.1 0 41).toInt ≤ 1280 := hok.1 0 41
      have h_54 : (0 : Int) ≤ (t1.1 0 52).toInt ∧ (t1.1 0 52).toInt ≤ 1200 := hok.1 0 52
      have h_55 : (0 : Int) ≤ (t1.1 0 60).toInt ∧ (t1.1 0 60).toInt ≤ 1200 := hok.1 0 60
      have h_56 : (0 : Int) ≤ (t1.1 0 67).toInt ∧ (t1.1 0 67).toInt ≤ 1281 := hok.1 0 67
      have h_57 : (0 : Int) ≤ (t1.1 0 70).toInt ∧ (t1.1 0 70).toInt ≤ 8 := hok.1 0 70
      have hst0 := st0_r (t1.1 0 70)
      refine lv_aload_n C.1 C.2.1 dX12_assembleText_15 rfl (lv_at hl 0 rfl) ?_
      refine k_get (v := .int (t1.1 0 67)) C hP 0 rfl rfl inlX12 67 (by decide) m_29_11 rfl dX12_assembleText_16 ?_
      refine lv_aload_n C.1 C.2.1 dX12_assembleText_19 rfl (lv_at hl 0 rfl) ?_
      refine k_get (v := .int (t1.1 0 41)) C hP 0 rfl rfl inlX12 41 (by decide) m_29_12 rfl dX12_assembleText_20 ?_
      refine lv_icmp_ge (tgt := 66) C.1 C.2.1 dX12_assembleText_23 (by decide) (fun c_58 => ?_) (fun c_58 => ?_)
      · replace c_58 : (t1.1 0 41).toInt ≤ (t1.1 0 67).toInt := i_le c_58
        refine lv_iload_n C.1 C.2.1 dX12_assembleText_66 rfl (lv_at hl 1 rfl) ?_
        refine lv_if_ne (tgt := 76) C.1 C.2.1 dX12_assembleText_67 (by decide) (fun c_59 => ?_) (fun c_59 => ?_)
        · replace c_59 : ¬ w15_1.toInt = 0 := i_ne c_59
          exact L_76 t1 w15_1 _ _ _ hok hfr ⟨by omega, by omega⟩ (show (t1.2.1 0 8).toInt = 0 from by omega) (show bz (t1.2.2.2 4) 20 from by first | exact hi15_4 | (rw [rfl]; exact hi15_4)) (show (t1.1 0 67).toInt ≤ 1280 from by omega) hP hD hS (lv_sub hl [0, 1] rfl)
        · replace c_59 : w15_1.toInt = 0 := i_eq c_59
          refine lv_aload_n C.1 C.2.1 dX12_assembleText_70 rfl (lv_at hl 0 rfl) ?_
          refine lv_bipush (v := 7) C.1 C.2.1 dX12_assembleText_71 (by decide) ?_
          have h_60 : (7 : Int32).toInt = 7 := rfl
          refine g_Vv (As := [.int 7]) (rest := []) C hP hD hS hA (T_X12_fail l D K Z Y ad t1 hok 7 (show (1 : Int) ≤ (7 : Int32).toInt ∧ (7 : Int32).toInt ≤ 8 from ⟨by decide, by decide⟩) (show 1 ≤ (7 : Int32).toInt from by omega)) hE hZ (uwV m_32_22 m_32_23 m_33_0 m_1_5 m_33_1) (hdV 1 (by decide +kernel) rfl) ⟨Nat.le_of_ble_eq_true rfl, Nat.le_of_ble_eq_true rfl⟩ rfl rfl (ci := 11) (q0 := 0) rfl rfl rfl hl.1 (Nat.le_of_ble_eq_true rfl) dX12_assembleText_73 ⟨Nat.le_of_ble_eq_true rfl, Nat.le_of_ble_eq_true rfl⟩ (fun t_61 H locs hw hP hD hS => ?_)
          obtain ⟨hok, f_63, p_64⟩ := hw
          have hfr : frA [(0, 5), (0, 6), (0, 7), (0, 9), (0, 10), (0, 11), (0, 12), (0, 41), (0, 42), (0, 43), (0, 44), (0, 45), (0, 47), (0, 48), (0, 51), (0, 52), (0, 60), (0, 67), (0, 68), (0, 69), (0, 70), (0, 71), (0, 72), (0, 73), (0, 91)] [(0, 8)] [2, 3, 5, 19, 20, 21, 22, 24, 25, 26, 27, 28, 29, 30, 31, 32, 33, 34, 35, 44] [4, 23] t t_61 := frA_tr hfr f_63 rfl
          have h_65 : (t_61.1 0 67).toInt = (t1.1 0 67).toInt := ti_eq (f_63.1 0 67 rfl)
          have h_66 : (t_61.1 0 41).toInt = (t1.1 0 41).toInt := ti_eq (f_63.1 0 41 rfl)
          have h_67 : (t_61.2.1 0 8).toInt = (t1.2.1 0 8).toInt := tl_eq (f_63.2.1 0 8 rfl)
          have h_68 : (t_61.1 0 12).toInt = (t1.1 0 12).toInt := ti_eq (f_63.1 0 12 rfl)
          have h_69 : (t_61.1 0 52).toInt = (t1.1 0 52).toInt := ti_eq (f_63.1 0 52 rfl)
          have h_70 : (t_61.1 0 60).toInt = (t1.1 0 60).toInt := ti_eq (f_63.1 0 60 rfl)
          have e_71 : t_61.2.2.2 4 = t1.2.2.2 4 := f_63.2.2.2 4 rfl
          have e_72 : t_61.2.2.1 19 = t1.2.2.1 19 := f_63.2.2.1 19 rfl
          have e_73 : t_61.2.2.1 20 = t1.2.2.1 20 := f_63.2.2.1 20 rfl
          have h_74 : (t1.2.2.1 19 (t_61.1 0 67 : Int32).toNatClampNeg).toInt = (t1.2.2.1 19 (t1.1 0 67 : Int32).toNatClampNeg).toInt := by rw [show t_61.1 0 67 = t1.1 0 67 from f_63.1 0 67 rfl]
          have h_75 : (t1.2.2.1 20 (t_61.1 0 67 : Int32).toNatClampNeg).toInt = (t1.2.2.1 20 (t1.1 0 67 : Int32).toNatClampNeg).toInt := by rw [show t_61.1 0 67 = t1.1 0 67 from f_63.1 0 67 rfl]
          have h_76 : (0 : Int) ≤ (t_61.1 0 12).toInt ∧ (t_61.1 0 12).toInt ≤ 1 := hok.1 0 12
          have h_77 : (0 : Int) ≤ (t_61.1 0 52).toInt ∧ (t_61.1 0 52).toInt ≤ 1200 := hok.1 0 52
          have h_78 : (0 : Int) ≤ (t_61.1 0 60).toInt ∧ (t_61.1 0 60).toInt ≤ 1200 := hok.1 0 60
          have h_79 : (0 : Int) ≤ (t_61.1 0 70).toInt ∧ (t_61.1 0 70).toInt ≤ 8 := hok.1 0 70
          replace p_64 : 1 ≤ (t_61.1 0 70).toInt := p_64
          exact L_76 t_61 w15_1 _ _ _ hok hfr ⟨by omega, by omega⟩ (show (t_61.2.1 0 8).toInt = 0 from by omega) (show bz (t_61.2.2.2 4) 20 from by first | exact hi15_4 | (rw [e_71]; exact hi15_4)) (show (t_61.1 0 67).toInt ≤ 1280 from by omega) hP hD hS (lv_sub hl [0, 1] rfl)
      · replace c_58 : (t1.1 0 67).toInt < (t1.1 0 41).toInt := i_nle c_58
        refine lv_iload_n C.1 C.2.1 dX12_assembleText_26 rfl (lv_at hl 1 rfl) ?_
        refine lv_if_ne (tgt := 66) C.1 C.2.1 dX12_assembleText_27 (by decide) (fun c_80 => ?_) (fun c_80 => ?_)
        · replace c_80 : ¬ w15_1.toInt = 0 := i_ne c_80
          refine lv_iload_n C.1 C.2.1 dX12_assembleText_66 rfl (lv_at hl 1 rfl) ?_
          refine lv_if_ne (tgt := 76) C.1 C.2.1 dX12_assembleText_67 (by decide) (fun c_81 => ?_) (fun c_81 => False.elim (by have c_81 : w15_1.toInt = 0 := i_eq c_81; omega))
          replace c_81 : ¬ w15_1.toInt = 0 := i_ne c_81
          exact L_76 t1 w15_1 _ _ _ hok hfr ⟨by omega, by omega⟩ (show (t1.2.1 0 8).toInt = 0 from by omega) (show bz (t1.2.2.2 4) 20 from by first | exact hi15_4 | (rw [rfl]; exact hi15_4)) (show (t1.1 0 67).toInt ≤ 1280 from by omega) hP hD hS (lv_sub hl [0, 1] rfl)
        · replace c_80 : w15_1.toInt = 0 := i_eq c_80
          refine lv_aload_n C.1 C.2.1 dX12_assembleText_30 rfl (lv_at hl 0 rfl) ?_
          refine k_get (v := .int (t1.1 0 70)) C hP 0 rfl rfl inlX12 70 (by decide) m_29_13 rfl dX12_assembleText_31 ?_
          refine lv_if_ne (tgt := 66) C.1 C.2.1 dX12_assembleText_34 (by decide) (fun c_82 => ?_) (fun c_82 => ?_)
          · replace c_82 : ¬ (t1.1 0 70).toInt = 0 := i_ne c_82
            refine lv_iload_n C.1 C.2.1 dX12_assembleText_66 rfl (lv_at hl 1 rfl) ?_
            refine lv_if_ne (tgt := 76) C.1 C.2.1 dX12_assembleText_67 (by decide) (fun c_83 => False.elim (by have c_83 : ¬ w15_1.toInt = 0 := i_ne c_83; omega)) (fun c_83 => ?_)
            replace c_83 : w15_1.toInt = 0 := i_eq c_83
            refine lv_aload_n C.1 C.2.1 dX12_assembleText_70 rfl (lv_at hl 0 rfl) ?_
            refine lv_bipush (v := 7) C.1 C.2.1 dX12_assembleText_71 (by decide) ?_
            have h_84 : (7 : Int32).toInt = 7 := rfl
            refine g_Vv (As := [.int 7]) (rest := []) C hP hD hS hA (T_X12_fail l D K Z Y ad t1 hok 7 (show (1 : Int) ≤ (7 : Int32).toInt ∧ (7 : Int32).toInt ≤ 8 from ⟨by decide, by decide⟩) (show 1 ≤ (7 : Int32).toInt from by omega)) hE hZ (uwV m_32_22 m_32_23 m_33_0 m_1_5 m_33_1) (hdV 1 (by decide +kernel) rfl) ⟨Nat.le_of_ble_eq_true rfl, Nat.le_of_ble_eq_true rfl⟩ rfl rfl (ci := 11) (q0 := 0) rfl rfl rfl hl.1 (Nat.le_of_ble_eq_true rfl) dX12_assembleText_73 ⟨Nat.le_of_ble_eq_true rfl, Nat.le_of_ble_eq_true rfl⟩ (fun t_85 H locs hw hP hD hS => ?_)
            obtain ⟨hok, f_87, p_88⟩ := hw
            have hfr : frA [(0, 5), (0, 6), (0, 7), (0, 9), (0, 10), (0, 11), (0, 12), (0, 41), (0, 42), (0, 43), (0, 44), (0, 45), (0, 47), (0, 48), (0, 51), (0, 52), (0, 60), (0, 67), (0, 68), (0, 69), (0, 70), (0, 71), (0, 72), (0, 73), (0, 91)] [(0, 8)] [2, 3, 5, 19, 20, 21, 22, 24, 25, 26, 27, 28, 29, 30, 31, 32, 33, 34, 35, 44] [4, 23] t t_85 := frA_tr hfr f_87 rfl
            have h_89 : (t_85.1 0 67).toInt = (t1.1 0 67).toInt := ti_eq (f_87.1 0 67 rfl)
            have h_90 : (t_85.1 0 41).toInt = (t1.1 0 41).toInt := ti_eq (f_87.1 0 41 rfl)
            have h_91 : (t_85.2.1 0 8).toInt = (t1.2.1 0 8).toInt := tl_eq (f_87.2.1 0 8 rfl)
            have h_92 : (t_85.1 0 12).toInt = (t1.1 0 12).toInt := ti_eq (f_87.1 0 12 rfl)
            have h_93 : (t_85.1 0 52).toInt = (t1.1 0 52).toInt := ti_eq (f_87.1 0 52 rfl)
            have h_94 : (t_85.1 0 60).toInt = (t1.1 0 60).toInt := ti_eq (f_87.1 0 60 rfl)
            have e_95 : t_85.2.2.2 4 = t1.2.2.2 4 := f_87.2.2.2 4 rfl
            have e_96 : t_85.2.2.1 19 = t1.2.2.1 19 := f_87.2.2.1 19 rfl
            have e_97 : t_85.2.2.1 20 = t1.2.2.1 20 := f_87.2.2.1 20 rfl
            have h_98 : (t1.2.2.1 19 (t_85.1 0 67 : Int32).toNatClampNeg).toInt = (t1.2.2.1 19 (t1.1 0 67 : Int32).toNatClampNeg).toInt := by rw [show t_85.1 0 67 = t1.1 0 67 from f_87.1 0 67 rfl]
            have h_99 : (t1.2.2.1 20 (t_85.1 0 67 : Int32).toNatClampNeg).toInt = (t1.2.2.1 20 (t1.1 0 67 : Int32).toNatClampNeg).toInt := by rw [show t_85.1 0 67 = t1.1 0 67 from f_87.1 0 67 rfl]
            have h_100 : (0 : Int) ≤ (t_85.1 0 12).toInt ∧ (t_85.1 0 12).toInt ≤ 1 := hok.1 0 12
            have h_101 : (0 : Int) ≤ (t_85.1 0 52).toInt ∧ (t_85.1 0 52).toInt ≤ 1200 := hok.1 0 52
            have h_102 : (0 : Int) ≤ (t_85.1 0 60).toInt ∧ (t_85.1 0 60).toInt ≤ 1200 := hok.1 0 60
            have h_103 : (0 : Int) ≤ (t_85.1 0 70).toInt ∧ (t_85.1 0 70).toInt ≤ 8 := hok.1 0 70
            replace p_88 : 1 ≤ (t_85.1 0 70).toInt := p_88
            exact L_76 t_85 w15_1 _ _ _ hok hfr ⟨by omega, by omega⟩ (show (t_85.2.1 0 8).toInt = 0 from by omega) (show bz (t_85.2.2.2 4) 20 from by first | exact hi15_4 | (rw [e_95]; exact hi15_4)) (show (t_85.1 0 67).toInt ≤ 1280 from by omega) hP hD hS (lv_sub hl [0, 1] rfl)
          · replace c_82 : (t1.1 0 70).toInt = 0 := i_eq c_82
            have hlr : (t1.2.2.1 19 ((t1.1 0 67) : Int32).toNatClampNeg).toInt ≤ 1280 := (hok.2.1 19 _).2
            have hla : (t1.2.2.1 19 ((t1.1 0 67) : Int32).toNatClampNeg).toInt ≤ (t1.2.2.1 20 ((t1.1 0 67) : Int32).toNatClampNeg).toInt := lnS_at hi15_0 (t1.1 0 67) (by omega) (by omega)
            refine lv_aload_n C.1 C.2.1 dX12_assembleText_37 rfl (lv_at hl 0 rfl) ?_
            refine g_Vi (As := []) (rest := []) C hP hD hS hA (T_X12_workLine l D K Z Y ad t1 hok (show (t1.1 0 52).toInt ≤ 1190 from by omega) (show (t1.1 0 60).toInt ≤ 1190 from by omega) (show (t1.1 0 67).toInt < (t1.1 0 41).toInt from by omega) (show (t1.2.2.1 19 ((t1.1 0 67) : Int32).toNatClampNeg).toInt ≤ (t1.2.2.1 20 ((t1.1 0 67) : Int32).toNatClampNeg).toInt from by omega)) hE hZ (uwV m_31_2 m_31_3 m_31_4 m_1_5 m_31_5) (hdV 0 (by decide +kernel) rfl) ⟨Nat.le_of_ble_eq_true rfl, Nat.le_of_ble_eq_true rfl⟩ rfl rfl (ci := 11) (q0 := 0) rfl rfl rfl hl.1 (Nat.le_of_ble_eq_true rfl) dX12_assembleText_38 ⟨Nat.le_of_ble_eq_true rfl, Nat.le_of_ble_eq_true rfl⟩ (fun r_105 t_104 H locs hw hP hD hS => ?_)
            obtain ⟨hok, f_106, h_107, h_108, p_109, p_110, p_111, p_112⟩ := hw
            have hfr : frA [(0, 5), (0, 6), (0, 7), (0, 9), (0, 10), (0, 11), (0, 12), (0, 41), (0, 42), (0, 43), (0, 44), (0, 45), (0, 47), (0, 48), (0, 51), (0, 52), (0, 60), (0, 67), (0, 68), (0, 69), (0, 70), (0, 71), (0, 72), (0, 73), (0, 91)] [(0, 8)] [2, 3, 5, 19, 20, 21, 22, 24, 25, 26, 27, 28, 29, 30, 31, 32, 33, 34, 35, 44] [4, 23] t t_104 := frA_tr hfr f_106 rfl
            have h_113 : (t_104.1 0 67).toInt = (t1.1 0 67).toInt := ti_eq (f_106.1 0 67 rfl)
            have h_114 : (t_104.1 0 41).toInt = (t1.1 0 41).toInt := ti_eq (f_106.1 0 41 rfl)
            have h_115 : (t_104.2.1 0 8).toInt = (t1.2.1 0 8).toInt := tl_eq (f_106.2.1 0 8 rfl)
            have h_116 : (t_104.1 0 12).toInt = (t1.1 0 12).toInt := ti_eq (f_106.1 0 12 rfl)
            have e_117 : t_104.2.2.2 4 = t1.2.2.2 4 := f_106.2.2.2 4 rfl
            have e_118 : t_104.2.2.1 19 = t1.2.2.1 19 := f_106.2.2.1 19 rfl
            have e_119 : t_104.2.2.1 20 = t1.2.2.1 20 := f_106.2.2.1 20 rfl
            have h_120 : (t1.2.2.1 19 (t_104.1 0 67 : Int32).toNatClampNeg).toInt = (t1.2.2.1 19 (t1.1 0 67 : Int32).toNatClampNeg).toInt := by rw [show t_104.1 0 67 = t1.1 0 67 from f_106.1 0 67 rfl]
            have h_121 : (t1.2.2.1 20 (t_104.1 0 67 : Int32).toNatClampNeg).toInt = (t1.2.2.1 20 (t1.1 0 67 : Int32).toNatClampNeg).toInt := by rw [show t_104.1 0 67 = t1.1 0 67 from f_106.1 0 67 rfl]
            have h_122 : (0 : Int) ≤ (t_104.1 0 12).toInt ∧ (t_104.1 0 12).toInt ≤ 1 := hok.1 0 12
            have h_123 : (0 : Int) ≤ (t_104.1 0 52).toInt ∧ (t_104.1 0 52).toInt ≤ 1200 := hok.1 0 52
            have h_124 : (0 : Int) ≤ (t_104.1 0 60).toInt ∧ (t_104.1 0 60).toInt ≤ 1200 := hok.1 0 60
            have h_125 : (0 : Int) ≤ (t_104.1 0 70).toInt ∧ (t_104.1 0 70).toInt ≤ 8 := hok.1 0 70
            replace p_109 : (t1.1 0 52).toInt ≤ (t_104.1 0 52).toInt := p_109
            replace p_110 : 9 * ((t_104.1 0 52).toInt - (t1.1 0 52).toInt) ≤ (t1.2.2.1 20 ((t1.1 0 67) : Int32).toNatClampNeg).toInt + 1 - (t1.2.2.1 19 ((t1.1 0 67) : Int32).toNatClampNeg).toInt := p_110
            replace p_111 : (t1.1 0 60).toInt ≤ (t_104.1 0 60).toInt := p_111
            replace p_112 : 13 * ((t_104.1 0 60).toInt - (t1.1 0 60).toInt) ≤ (t1.2.2.1 20 ((t1.1 0 67) : Int32).toNatClampNeg).toInt + 1 - (t1.2.2.1 19 ((t1.1 0 67) : Int32).toNatClampNeg).toInt := p_112
            refine lv_istore_n (lv' := [(1, .int r_105), (0, .ref (ad 0))]) C.1 C.2.1 dX12_assembleText_41 rfl hl (by decide) rfl (fun ls hl => ?_)
            have hl : lv_has ls 2 [(0, .ref (ad 0)), (1, .int r_105)] := lv_sub hl [1, 0] rfl
            refine lv_iload_n C.1 C.2.1 dX12_assembleText_42 rfl (lv_at hl 1 rfl) ?_
            refine lv_if_ne (tgt := 15) C.1 C.2.1 dX12_assembleText_43 (by decide) (fun c_126 => ?_) (fun c_126 => ?_)
            · replace c_126 : ¬ r_105.toInt = 0 := i_ne c_126
              have hlz : 0 ≤ (t_104.2.2.1 19 ((t_104.1 0 67) : Int32).toNatClampNeg).toInt := (hok.2.1 19 _).1
              have h_127 : (t_104.2.2.1 19 ((t_104.1 0 67) : Int32).toNatClampNeg).toInt = (t1.2.2.1 19 ((t_104.1 0 67) : Int32).toNatClampNeg).toInt := tb_eq e_118 _
              have hst := st0_r (t_104.1 0 70)
              exact ih_15 t_104 r_105 _ _ _ hok hfr ⟨by omega, by omega⟩ (show lnS (t_104.1 0 41).toInt (t_104.2.2.1 19) (t_104.2.2.1 20) from by first | exact hln | exact lnS_cg hi15_0 (by omega) e_118 e_119) (show (t_104.1 0 67).toInt ≤ (t_104.1 0 41).toInt from by omega) (show r_105.toInt = 0 → (t_104.1 0 70).toInt = 0 → (t_104.1 0 67).toInt < (t_104.1 0 41).toInt → 9 * (t_104.1 0 52).toInt ≤ (t_104.2.2.1 19 ((t_104.1 0 67) : Int32).toNatClampNeg).toInt ∧ 13 * (t_104.1 0 60).toInt ≤ (t_104.2.2.1 19 ((t_104.1 0 67) : Int32).toNatClampNeg).toInt from by omega) (show (t_104.2.1 0 8).toInt = 0 from by omega) (show bz (t_104.2.2.2 4) 20 from by first | (rw [e_117]; exact hi15_4) | (rw [e_117]; exact hbz)) (show (2 * ((t_104.1 0 41).toInt - (t_104.1 0 67).toInt) + 1 - r_105.toInt + st0 (t_104.1 0 70)) < (fuel_15 : Int) from by omega) hP hD hS (lv_sub hl [0, 1] rfl)
            · replace c_126 : r_105.toInt = 0 := i_eq c_126
              refine lv_aload_n C.1 C.2.1 dX12_assembleText_46 rfl (lv_at hl 0 rfl) ?_
              refine k_get (v := .int (t_104.1 0 70)) C hP 0 rfl rfl inlX12 70 (by decide) m_29_13 rfl dX12_assembleText_47 ?_
              refine lv_if_ne (tgt := 15) C.1 C.2.1 dX12_assembleText_50 (by decide) (fun c_128 => ?_) (fun c_128 => ?_)
              · replace c_128 : ¬ (t_104.1 0 70).toInt = 0 := i_ne c_128
                have hlz : 0 ≤ (t_104.2.2.1 19 ((t_104.1 0 67) : Int32).toNatClampNeg).toInt := (hok.2.1 19 _).1
                have h_129 : (t_104.2.2.1 19 ((t_104.1 0 67) : Int32).toNatClampNeg).toInt = (t1.2.2.1 19 ((t_104.1 0 67) : Int32).toNatClampNeg).toInt := tb_eq e_118 _
                have hst := st0_r (t_104.1 0 70)
                exact ih_15 t_104 r_105 _ _ _ hok hfr ⟨by omega, by omega⟩ (show lnS (t_104.1 0 41).toInt (t_104.2.2.1 19) (t_104.2.2.1 20) from by first | exact hln | exact lnS_cg hi15_0 (by omega) e_118 e_119) (show (t_104.1 0 67).toInt ≤ (t_104.1 0 41).toInt from by omega) (show r_105.toInt = 0 → (t_104.1 0 70).toInt = 0 → (t_104.1 0 67).toInt < (t_104.1 0 41).toInt → 9 * (t_104.1 0 52).toInt ≤ (t_104.2.2.1 19 ((t_104.1 0 67) : Int32).toNatClampNeg).toInt ∧ 13 * (t_104.1 0 60).toInt ≤ (t_104.2.2.1 19 ((t_104.1 0 67) : Int32).toNatClampNeg).toInt from by omega) (show (t_104.2.1 0 8).toInt = 0 from by omega) (show bz (t_104.2.2.2 4) 20 from by first | (rw [e_117]; exact hi15_4) | (rw [e_117]; exact hbz)) (show (2 * ((t_104.1 0 41).toInt - (t_104.1 0 67).toInt) + 1 - r_105.toInt + st0 (t_104.1 0 70)) < (fuel_15 : Int) from by omega) hP hD hS (lv_sub hl [0, 1] rfl)
              · replace c_128 : (t_104.1 0 70).toInt = 0 := i_eq c_128
                refine lv_aload_n C.1 C.2.1 dX12_assembleText_53 rfl (lv_at hl 0 rfl) ?_
                refine lv_dup C.1 C.2.1 dX12_assembleText_54 rfl ?_
                refine k_get (v := .int (t_104.1 0 67)) C hP 0 rfl rfl inlX12 67 (by decide) m_29_11 rfl dX12_assembleText_55 ?_
                refine lv_iconst (v := 1) C.1 C.2.1 dX12_assembleText_58 (by decide) ?_
                obtain ⟨v_130, e_131⟩ : ∃ z, z = ((t_104.1 0 67) : Int32) + (1 : Int32) := ⟨_, rfl⟩
                have h_132 : v_130.toInt = (t_104.1 0 67).toInt + 1 := by rw [e_131]; exact ti_iadd (by show (_ : Int) ≤ (t_104.1 0 67).toInt + 1; omega) (by show (t_104.1 0 67).toInt + 1 < (_ : Int); omega)
                refine k_iadd (v := v_130) C e_131.symm dX12_assembleText_59 ?_
                refine k_put (ws' := WM K ad (uI t_104 0 67 v_130)) (v := .int v_130) C hP hD hS 0 rfl rfl inlX12 tyX12_ok nmX12 67 (by decide) m_29_11 rfl rfl rfl rfl rfl dX12_assembleText_60 (fun H locs hP hD hS => ?_)
                have hok : okM (uI t_104 0 67 v_130) := ⟨okI_I hok.1 0 67 v_130 (show (0 : Int) ≤ (v_130 : Int32).toInt ∧ (v_130 : Int32).toInt ≤ 1281 from ⟨by omega, by omega⟩), hok.2.1, hok.2.2.1, hok.2.2.2.1, hok.2.2.2.2.1, hok.2.2.2.2.2.1, hok.2.2.2.2.2.2.1, trivial⟩
                have hfr : frA [(0, 5), (0, 6), (0, 7), (0, 9), (0, 10), (0, 11), (0, 12), (0, 41), (0, 42), (0, 43), (0, 44), (0, 45), (0, 47), (0, 48), (0, 51), (0, 52), (0, 60), (0, 67), (0, 68), (0, 69), (0, 70), (0, 71), (0, 72), (0, 73), (0, 91)] [(0, 8)] [2, 3, 5, 19, 20, 21, 22, 24, 25, 26, 27, 28, 29, 30, 31, 32, 33, 34, 35, 44] [4, 23] t (uI t_104 0 67 v_130) := frA_I hfr 0 67 _ rfl
                have hnx := fun hq => lnS_nx hi15_0 (t1.1 0 67) v_130 (by omega) (by omega) hq
                refine lv_goto (tgt := 15) C.1 C.2.1 dX12_assembleText_63 (by decide) ?_
                have hlz : 0 ≤ (t_104.2.2.1 19 (v_130 : Int32).toNatClampNeg).toInt := (hok.2.1 19 _).1
                have h_133 : (t_104.2.2.1 19 (v_130 : Int32).toNatClampNeg).toInt = (t1.2.2.1 19 (v_130 : Int32).toNatClampNeg).toInt := tb_eq e_118 _
                have hst := st0_r (t_104.1 0 70)
                exact ih_15 (uI t_104 0 67 v_130) r_105 _ _ _ hok hfr ⟨by omega, by omega⟩ (show lnS (t_104.1 0 41).toInt (t_104.2.2.1 19) (t_104.2.2.1 20) from by first | exact hln | exact lnS_cg hi15_0 (by omega) e_118 e_119) (show v_130.toInt ≤ (t_104.1 0 41).toInt from by omega) (show r_105.toInt = 0 → (t_104.1 0 70).toInt = 0 → v_130.toInt < (t_104.1 0 41).toInt → 9 * (t_104.1 0 52).toInt ≤ (t_104.2.2.1 19 (v_130 : Int32).toNatClampNeg).toInt ∧ 13 * (t_104.1 0 60).toInt ≤ (t_104.2.2.1 19 (v_130 : Int32).toNatClampNeg).toInt from by omega) (show (t_104.2.1 0 8).toInt = 0 from by omega) (show bz (t_104.2.2.2 4) 20 from by first | (rw [e_117]; exact hi15_4) | (rw [e_117]; exact hbz)) (show (2 * ((t_104.1 0 41).toInt - v_130.toInt) + 1 - r_105.toInt + st0 (t_104.1 0 70)) < (fuel_15 : Int) from by omega) hP hD hS (lv_sub hl [0, 1] rfl)
  refine lv_aload_n C.1 C.2.1 dX12_assembleText_0 rfl (lv_at hl 0 rfl) ?_
  refine g_Vv (As := []) (rest := []) C hP hD hS hA (T_X12_clearMachine l D K Z Y ad t hok ) hE hZ (uwV m_29_17 m_29_18 m_29_19 m_1_5 m_29_20) (hdV 0 (by decide +kernel) rfl) ⟨Nat.le_of_ble_eq_true rfl, Nat.le_of_ble_eq_true rfl⟩ rfl rfl (ci := 11) (q0 := 0) rfl rfl rfl hl.1 (Nat.le_of_ble_eq_true rfl) dX12_assembleText_1 ⟨Nat.le_of_ble_eq_true rfl, Nat.le_of_ble_eq_true rfl⟩ (fun t_134 H locs hw hP hD hS => ?_)
  obtain ⟨hok, f_136, p_137, p_138, p_139⟩ := hw
  have hfr : frA [(0, 5), (0, 6), (0, 7), (0, 9), (0, 10), (0, 11), (0, 12), (0, 41), (0, 42), (0, 43), (0, 44), (0, 45), (0, 47), (0, 48), (0, 51), (0, 52), (0, 60), (0, 67), (0, 68), (0, 69), (0, 70), (0, 71), (0, 72), (0, 73), (0, 91)] [(0, 8)] [2, 3, 5, 19, 20, 21, 22, 24, 25, 26, 27, 28, 29, 30, 31, 32, 33, 34, 35, 44] [4, 23] t t_134 := frA_tr hfr f_136 rfl
  have h_140 : (t_134.1 0 41).toInt = (t.1 0 41).toInt := ti_eq (f_136.1 0 41 rfl)
  have h_141 : (t_134.1 0 52).toInt = (t.1 0 52).toInt := ti_eq (f_136.1 0 52 rfl)
  have h_142 : (t_134.1 0 60).toInt = (t.1 0 60).toInt := ti_eq (f_136.1 0 60 rfl)
  have h_143 : (t_134.1 0 67).toInt = (t.1 0 67).toInt := ti_eq (f_136.1 0 67 rfl)
  have h_144 : (t_134.1 0 70).toInt = (t.1 0 70).toInt := ti_eq (f_136.1 0 70 rfl)
  have e_145 : t_134.2.2.1 19 = t.2.2.1 19 := f_136.2.2.1 19 rfl
  have e_146 : t_134.2.2.1 20 = t.2.2.1 20 := f_136.2.2.1 20 rfl
  have h_147 : (t.2.2.1 19 (t_134.1 0 67 : Int32).toNatClampNeg).toInt = (t.2.2.1 19 (t.1 0 67 : Int32).toNatClampNeg).toInt := by rw [show t_134.1 0 67 = t.1 0 67 from f_136.1 0 67 rfl]
  have h_148 : (t.2.2.1 20 (t_134.1 0 67 : Int32).toNatClampNeg).toInt = (t.2.2.1 20 (t.1 0 67 : Int32).toNatClampNeg).toInt := by rw [show t_134.1 0 67 = t.1 0 67 from f_136.1 0 67 rfl]
  have h_149 : (0 : Int) ≤ (t_134.1 0 12).toInt ∧ (t_134.1 0 12).toInt ≤ 1 := hok.1 0 12
  have h_150 : (0 : Int) ≤ (t_134.1 0 41).toInt ∧ (t_134.1 0 41).toInt ≤ 1280 := hok.1 0 41
  have h_151 : (0 : Int) ≤ (t_134.1 0 52).toInt ∧ (t_134.1 0 52).toInt ≤ 1200 := hok.1 0 52
  have h_152 : (0 : Int) ≤ (t_134.1 0 60).toInt ∧ (t_134.1 0 60).toInt ≤ 1200 := hok.1 0 60
  have h_153 : (0 : Int) ≤ (t_134.1 0 67).toInt ∧ (t_134.1 0 67).toInt ≤ 1281 := hok.1 0 67
  have h_154 : (0 : Int) ≤ (t_134.1 0 70).toInt ∧ (t_134.1 0 70).toInt ≤ 8 := hok.1 0 70
  replace p_137 : (t_134.2.1 0 8).toInt = 0 := p_137
  replace p_138 : (t_134.1 0 12).toInt = 0 := p_138
  replace p_139 : bz (t_134.2.2.2 4) 20 := p_139
  have hbz := p_139
  refine lv_aload_n C.1 C.2.1 dX12_assembleText_4 rfl (lv_at hl 0 rfl) ?_
  refine g_Vv (As := []) (rest := []) C hP hD hS hA (T_X12_clearAssembling l D K Z Y ad t_134 hok ) hE hZ (uwV m_30_12 m_30_13 m_30_14 m_1_5 m_30_15) (hdV 0 (by decide +kernel) rfl) ⟨Nat.le_of_ble_eq_true rfl, Nat.le_of_ble_eq_true rfl⟩ rfl rfl (ci := 11) (q0 := 0) rfl rfl rfl hl.1 (Nat.le_of_ble_eq_true rfl) dX12_assembleText_5 ⟨Nat.le_of_ble_eq_true rfl, Nat.le_of_ble_eq_true rfl⟩ (fun t_155 H locs hw hP hD hS => ?_)
  obtain ⟨hok, f_157, p_158, p_159, p_160, p_161⟩ := hw
  have hfr : frA [(0, 5), (0, 6), (0, 7), (0, 9), (0, 10), (0, 11), (0, 12), (0, 41), (0, 42), (0, 43), (0, 44), (0, 45), (0, 47), (0, 48), (0, 51), (0, 52), (0, 60), (0, 67), (0, 68), (0, 69), (0, 70), (0, 71), (0, 72), (0, 73), (0, 91)] [(0, 8)] [2, 3, 5, 19, 20, 21, 22, 24, 25, 26, 27, 28, 29, 30, 31, 32, 33, 34, 35, 44] [4, 23] t t_155 := frA_tr hfr f_157 rfl
  have h_162 : (t_155.2.1 0 8).toInt = (t_134.2.1 0 8).toInt := tl_eq (f_157.2.1 0 8 rfl)
  have h_163 : (t_155.1 0 12).toInt = (t_134.1 0 12).toInt := ti_eq (f_157.1 0 12 rfl)
  have h_164 : (t_155.1 0 67).toInt = (t_134.1 0 67).toInt := ti_eq (f_157.1 0 67 rfl)
  have e_165 : t_155.2.2.2 4 = t_134.2.2.2 4 := f_157.2.2.2 4 rfl
  have h_166 : (0 : Int) ≤ (t_155.1 0 12).toInt ∧ (t_155.1 0 12).toInt ≤ 1 := hok.1 0 12
  have h_167 : (0 : Int) ≤ (t_155.1 0 41).toInt ∧ (t_155.1 0 41).toInt ≤ 1280 := hok.1 0 41
  have h_168 : (0 : Int) ≤ (t_155.1 0 52).toInt ∧ (t_155.1 0 52).toInt ≤ 1200 := hok.1 0 52
  have h_169 : (0 : Int) ≤ (t_155.1 0 60).toInt ∧ (t_155.1 0 60).toInt ≤ 1200 := hok.1 0 60
  have h_170 : (0 : Int) ≤ (t_155.1 0 67).toInt ∧ (t_155.1 0 67).toInt ≤ 1281 := hok.1 0 67
  have h_171 : (0 : Int) ≤ (t_155.1 0 70).toInt ∧ (t_155.1 0 70).toInt ≤ 8 := hok.1 0 70
  replace p_158 : lnS (t_155.1 0 41).toInt (t_155.2.2.1 19) (t_155.2.2.1 20) := p_158
  replace p_159 : (t_155.1 0 52).toInt = 0 := p_159
  replace p_160 : (t_155.1 0 60).toInt = 0 := p_160
  replace p_161 : (t_155.1 0 70).toInt = 0 := p_161
  have hln := p_158
  refine lv_iconst (v := 0) C.1 C.2.1 dX12_assembleText_8 (by decide) ?_
  refine lv_istore_n (lv' := [(1, .int 0), (0, .ref (ad 0))]) C.1 C.2.1 dX12_assembleText_9 rfl hl (by decide) rfl (fun ls hl => ?_)
  have hl : lv_has ls 2 [(0, .ref (ad 0)), (1, .int 0)] := lv_sub hl [1, 0] rfl
  refine lv_aload_n C.1 C.2.1 dX12_assembleText_10 rfl (lv_at hl 0 rfl) ?_
  refine lv_iconst (v := 0) C.1 C.2.1 dX12_assembleText_11 (by decide) ?_
  refine k_put (ws' := WM K ad (uI t_155 0 67 0)) (v := .int 0) C hP hD hS 0 rfl rfl inlX12 tyX12_ok nmX12 67 (by decide) m_29_11 rfl rfl rfl rfl rfl dX12_assembleText_12 (fun H locs hP hD hS => ?_)
  have hok : okM (uI t_155 0 67 0) := ⟨okI_I hok.1 0 67 0 (show (0 : Int) ≤ (0 : Int32).toInt ∧ (0 : Int32).toInt ≤ 1281 from ⟨by decide, by decide⟩), hok.2.1, hok.2.2.1, hok.2.2.2.1, hok.2.2.2.2.1, hok.2.2.2.2.2.1, hok.2.2.2.2.2.2.1, trivial⟩
  have hfr : frA [(0, 5), (0, 6), (0, 7), (0, 9), (0, 10), (0, 11), (0, 12), (0, 41), (0, 42), (0, 43), (0, 44), (0, 45), (0, 47), (0, 48), (0, 51), (0, 52), (0, 60), (0, 67), (0, 68), (0, 69), (0, 70), (0, 71), (0, 72), (0, 73), (0, 91)] [(0, 8)] [2, 3, 5, 19, 20, 21, 22, 24, 25, 26, 27, 28, 29, 30, 31, 32, 33, 34, 35, 44] [4, 23] t (uI t_155 0 67 0) := frA_I hfr 0 67 _ rfl
  have hlz : 0 ≤ (t_155.2.2.1 19 (0 : Int32).toNatClampNeg).toInt := (hok.2.1 19 _).1
  have hst := st0_r (t_155.1 0 70)
  exact L_15 3000 (uI t_155 0 67 0) 0 _ _ _ hok hfr ⟨by decide, by decide⟩ (show lnS (t_155.1 0 41).toInt (t_155.2.2.1 19) (t_155.2.2.1 20) from by first | exact hln | exact lnS_cg hi15_0 (by omega) rfl rfl) (show 0 ≤ (t_155.1 0 41).toInt from by omega) (show 0 = 0 → (t_155.1 0 70).toInt = 0 → 0 < (t_155.1 0 41).toInt → 9 * (t_155.1 0 52).toInt ≤ (t_155.2.2.1 19 (0 : Int32).toNatClampNeg).toInt ∧ 13 * (t_155.1 0 60).toInt ≤ (t_155.2.2.1 19 (0 : Int32).toNatClampNeg).toInt from by omega) (show (t_155.2.1 0 8).toInt = 0 from by omega) (show bz (t_155.2.2.2 4) 20 from by first | (rw [e_165]; exact hi15_4) | (rw [e_165]; exact hbz)) (show (2 * ((t_155.1 0 41).toInt - 0) + 1 - 0 + st0 (t_155.1 0 70)) < ((3000 : Nat) : Int) from by omega) hP hD hS (lv_sub hl [0, 1] rfl)

theorem dX12_goOver_0 : decode cX12_goOver 0 = .ok (.aload_n 0, 1) := by decide +kernel
theorem dX12_goOver_1 : decode cX12_goOver 1 = .ok (.invokevirtual 639, 3) := by decide +kernel
theorem dX12_goOver_10 : decode cX12_goOver 10 = .ok (.iconst 0, 1) := by decide +kernel
theorem dX12_goOver_100 : decode cX12_goOver 100 = .ok (.goto 7, 3) := by decide +kernel
theorem dX12_goOver_103 : decode cX12_goOver 103 = .ok (.aload_n 0, 1) := by decide +kernel
theorem dX12_goOver_104 : decode cX12_goOver 104 = .ok (.getfield 648, 3) := by decide +kernel
theorem dX12_goOver_107 : decode cX12_goOver 107 = .ok (.putfield 648, 3) := by decide +kernel
theorem dX12_goOver_11 : decode cX12_goOver 11 = .ok (.istore_n 2, 1) := by decide +kernel
theorem dX12_goOver_110 : decode cX12_goOver 110 = .ok (.iinc 2 1, 3) := by decide +kernel
theorem dX12_goOver_113 : decode cX12_goOver 113 = .ok (.aload_n 0, 1) := by decide +kernel
theorem dX12_goOver_114 : decode cX12_goOver 114 = .ok (.invokevirtual 670, 3) := by decide +kernel
theorem dX12_goOver_117 : decode cX12_goOver 117 = .ok (.aload_n 0, 1) := by decide +kernel
theorem dX12_goOver_118 : decode cX12_goOver 118 = .ok (.dup, 1) := by decide +kernel
theorem dX12_goOver_119 : decode cX12_goOver 119 = .ok (.getfield 443, 3) := by decide +kernel
theorem dX12_goOver_12 : decode cX12_goOver 12 = .ok (.aload_n 0, 1) := by decide +kernel
theorem dX12_goOver_122 : decode cX12_goOver 122 = .ok (.iconst 1, 1) := by decide +kernel
theorem dX12_goOver_123 : decode cX12_goOver 123 = .ok (.iadd, 1) := by decide +kernel
theorem dX12_goOver_124 : decode cX12_goOver 124 = .ok (.putfield 443, 3) := by decide +kernel
theorem dX12_goOver_127 : decode cX12_goOver 127 = .ok (.goto (-105), 3) := by decide +kernel
theorem dX12_goOver_13 : decode cX12_goOver 13 = .ok (.iconst 0, 1) := by decide +kernel
theorem dX12_goOver_130 : decode cX12_goOver 130 = .ok (.aload_n 0, 1) := by decide +kernel
theorem dX12_goOver_131 : decode cX12_goOver 131 = .ok (.invokevirtual 627, 3) := by decide +kernel
theorem dX12_goOver_134 : decode cX12_goOver 134 = .ok (.iload_n 2, 1) := by decide +kernel
theorem dX12_goOver_135 : decode cX12_goOver 135 = .ok (.ireturn, 1) := by decide +kernel
theorem dX12_goOver_14 : decode cX12_goOver 14 = .ok (.putfield 648, 3) := by decide +kernel
theorem dX12_goOver_17 : decode cX12_goOver 17 = .ok (.aload_n 0, 1) := by decide +kernel
theorem dX12_goOver_18 : decode cX12_goOver 18 = .ok (.iconst 0, 1) := by decide +kernel
theorem dX12_goOver_19 : decode cX12_goOver 19 = .ok (.putfield 443, 3) := by decide +kernel
theorem dX12_goOver_22 : decode cX12_goOver 22 = .ok (.aload_n 0, 1) := by decide +kernel
theorem dX12_goOver_23 : decode cX12_goOver 23 = .ok (.getfield 443, 3) := by decide +kernel
theorem dX12_goOver_26 : decode cX12_goOver 26 = .ok (.aload_n 0, 1) := by decide +kernel
theorem dX12_goOver_27 : decode cX12_goOver 27 = .ok (.getfield 436, 3) := by decide +kernel
theorem dX12_goOver_30 : decode cX12_goOver 30 = .ok (.if_icmp .gt 100, 3) := by decide +kernel
theorem dX12_goOver_33 : decode cX12_goOver 33 = .ok (.iload_n 1, 1) := by decide +kernel
theorem dX12_goOver_34 : decode cX12_goOver 34 = .ok (.ifCond .ne 96, 3) := by decide +kernel
theorem dX12_goOver_37 : decode cX12_goOver 37 = .ok (.aload_n 0, 1) := by decide +kernel
theorem dX12_goOver_38 : decode cX12_goOver 38 = .ok (.getfield 443, 3) := by decide +kernel
theorem dX12_goOver_4 : decode cX12_goOver 4 = .ok (.aload_n 0, 1) := by decide +kernel
theorem dX12_goOver_41 : decode cX12_goOver 41 = .ok (.aload_n 0, 1) := by decide +kernel
theorem dX12_goOver_42 : decode cX12_goOver 42 = .ok (.getfield 436, 3) := by decide +kernel
theorem dX12_goOver_45 : decode cX12_goOver 45 = .ok (.if_icmp .ge 14, 3) := by decide +kernel
theorem dX12_goOver_48 : decode cX12_goOver 48 = .ok (.aload_n 0, 1) := by decide +kernel
theorem dX12_goOver_49 : decode cX12_goOver 49 = .ok (.invokevirtual 645, 3) := by decide +kernel
theorem dX12_goOver_5 : decode cX12_goOver 5 = .ok (.invokevirtual 642, 3) := by decide +kernel
theorem dX12_goOver_52 : decode cX12_goOver 52 = .ok (.ifCond .eq 7, 3) := by decide +kernel
theorem dX12_goOver_55 : decode cX12_goOver 55 = .ok (.iconst 1, 1) := by decide +kernel
theorem dX12_goOver_56 : decode cX12_goOver 56 = .ok (.goto 4, 3) := by decide +kernel
theorem dX12_goOver_59 : decode cX12_goOver 59 = .ok (.iconst 0, 1) := by decide +kernel
theorem dX12_goOver_60 : decode cX12_goOver 60 = .ok (.istore_n 1, 1) := by decide +kernel
theorem dX12_goOver_61 : decode cX12_goOver 61 = .ok (.aload_n 0, 1) := by decide +kernel
theorem dX12_goOver_62 : decode cX12_goOver 62 = .ok (.getfield 443, 3) := by decide +kernel
theorem dX12_goOver_65 : decode cX12_goOver 65 = .ok (.aload_n 0, 1) := by decide +kernel
theorem dX12_goOver_66 : decode cX12_goOver 66 = .ok (.getfield 436, 3) := by decide +kernel
theorem dX12_goOver_69 : decode cX12_goOver 69 = .ok (.if_icmp .ne 9, 3) := by decide +kernel
theorem dX12_goOver_72 : decode cX12_goOver 72 = .ok (.aload_n 0, 1) := by decide +kernel
theorem dX12_goOver_73 : decode cX12_goOver 73 = .ok (.bipush 7, 2) := by decide +kernel
theorem dX12_goOver_75 : decode cX12_goOver 75 = .ok (.putfield 469, 3) := by decide +kernel
theorem dX12_goOver_78 : decode cX12_goOver 78 = .ok (.aload_n 0, 1) := by decide +kernel
theorem dX12_goOver_79 : decode cX12_goOver 79 = .ok (.getfield 469, 3) := by decide +kernel
theorem dX12_goOver_8 : decode cX12_goOver 8 = .ok (.iconst 0, 1) := by decide +kernel
theorem dX12_goOver_82 : decode cX12_goOver 82 = .ok (.ifCond .ne 6, 3) := by decide +kernel
theorem dX12_goOver_85 : decode cX12_goOver 85 = .ok (.goto 32, 3) := by decide +kernel
theorem dX12_goOver_88 : decode cX12_goOver 88 = .ok (.aload_n 0, 1) := by decide +kernel
theorem dX12_goOver_89 : decode cX12_goOver 89 = .ok (.aload_n 0, 1) := by decide +kernel
theorem dX12_goOver_9 : decode cX12_goOver 9 = .ok (.istore_n 1, 1) := by decide +kernel
theorem dX12_goOver_90 : decode cX12_goOver 90 = .ok (.getfield 648, 3) := by decide +kernel
theorem dX12_goOver_93 : decode cX12_goOver 93 = .ok (.ifCond .ne 10, 3) := by decide +kernel
theorem dX12_goOver_96 : decode cX12_goOver 96 = .ok (.aload_n 0, 1) := by decide +kernel
theorem dX12_goOver_97 : decode cX12_goOver 97 = .ok (.getfield 469, 3) := by decide +kernel
set_option maxHeartbeats 4000000 in
set_option maxRecDepth 100000 in
theorem T_X12_goOver (l : Launch) (D : va_G) (K : Nat → ClassId) (Z Y : Nat → Nat) (ad : Nat → Nat) (t : tSt) (hok : okM t)  : tMet l yX12_goOver cX12_goOver 3 (some .int) (rmD 18 0 0) D K Z Y [.ref (ad 0)] (WM K ad t) (QI D K (fun (r : Int32) (u : tSt) => okM u ∧ frA [(0, 5), (0, 6), (0, 7), (0, 9), (0, 10), (0, 11), (0, 12), (0, 30), (0, 41), (0, 42), (0, 43), (0, 45), (0, 47), (0, 48), (0, 52), (0, 60), (0, 67), (0, 68), (0, 69), (0, 70), (0, 71), (0, 72), (0, 73), (0, 91)] [(0, 8)] [2, 3, 5, 11, 12, 13, 14, 19, 20, 21, 22, 24, 25, 26, 27, 28, 29, 30, 31, 32, 33, 34, 35, 44] [4, 23] t u ∧ (-2147483648 : Int) ≤ r.toInt ∧ r.toInt ≤ 2147483647 ∧ ((u.2.1 0 8).toInt = 0) ∧ (bz (u.2.2.2 4) 20)) (fun (u : tSt) => WM K ad u)) 0 0 := by
  refine t_met RX12 ⟨rfl, by decide +kernel⟩ (Nat.le_of_ble_eq_true rfl) ?_
  intro p e s m below meth c A ls C hE hZ hr hlocks hA hP hD hS hl
  have hl : lv_has ls 3 [(0, .ref (ad 0))] := hl
  have hokt := hok
  have hfr : frA [(0, 5), (0, 6), (0, 7), (0, 9), (0, 10), (0, 11), (0, 12), (0, 30), (0, 41), (0, 42), (0, 43), (0, 45), (0, 47), (0, 48), (0, 52), (0, 60), (0, 67), (0, 68), (0, 69), (0, 70), (0, 71), (0, 72), (0, 73), (0, 91)] [(0, 8)] [2, 3, 5, 11, 12, 13, 14, 19, 20, 21, 22, 24, 25, 26, 27, 28, 29, 30, 31, 32, 33, 34, 35, 44] [4, 23] t t := frA_rf
  have h_1 : (0 : Int) ≤ (t.1 0 12).toInt ∧ (t.1 0 12).toInt ≤ 1 := hok.1 0 12
  have h_2 : (0 : Int) ≤ (t.1 0 41).toInt ∧ (t.1 0 41).toInt ≤ 1280 := hok.1 0 41
  have h_3 : (0 : Int) ≤ (t.1 0 52).toInt ∧ (t.1 0 52).toInt ≤ 1200 := hok.1 0 52
  have h_4 : (0 : Int) ≤ (t.1 0 60).toInt ∧ (t.1 0 60).toInt ≤ 1200 := hok.1 0 60
  have h_5 : (0 : Int) ≤ (t.1 0 67).toInt ∧ (t.1 0 67).toInt ≤ 1281 := hok.1 0 67
  have h_6 : (0 : Int) ≤ (t.1 0 70).toInt ∧ (t.1 0 70).toInt ≤ 8 := hok.1 0 70
  have L_22 : ∀ (fuel_22 : Nat) (t1 : tSt) (w22_1 : Int32) (w22_2 : Int32) (H : Heap) (locs : List Loc) (ls : Array Slot), okM t1 → frA [(0, 5), (0, 6), (0, 7), (0, 9), (0, 10), (0, 11), (0, 12), (0, 30), (0, 41), (0, 42), (0, 43), (0, 45), (0, 47), (0, 48), (0, 52), (0, 60), (0, 67), (0, 68), (0, 69), (0, 70), (0, 71), (0, 72), (0, 73), (0, 91)] [(0, 8)] [2, 3, 5, 11, 12, 13, 14, 19, 20, 21, 22, 24, 25, 26, 27, 28, 29, 30, 31, 32, 33, 34, 35, 44] [4, 23] t t1 → (0 : Int) ≤ w22_1.toInt ∧ w22_1.toInt ≤ 1 → (lnS (t1.1 0 41).toInt (t1.2.2.1 19) (t1.2.2.1 20)) → ((t1.1 0 67).toInt ≤ (t1.1 0 41).toInt + 1) → ((t1.1 0 67).toInt < (t1.1 0 41).toInt → 9 * (t1.1 0 52).toInt ≤ (t1.2.2.1 19 ((t1.1 0 67) : Int32).toNatClampNeg).toInt ∧ 13 * (t1.1 0 60).toInt ≤ (t1.2.2.1 19 ((t1.1 0 67) : Int32).toNatClampNeg).toInt) → ((t1.2.1 0 8).toInt = 0) → (bz (t1.2.2.2 4) 20) → ((t1.1 0 41).toInt + 1 - (t1.1 0 67).toInt) < (fuel_22 : Int) → va_P D vwCl (WM K ad t1) H → va_D A (WM K ad t1) → va_S A s.heap H locs → lv_has ls 3 [(0, .ref (ad 0)), (1, .int w22_1), (2, .int w22_2)] → W p l e (rmD 18 0 0) s m [.ref (ad 0)].toArray below meth c H locs 0 0 (MQ below (QI D K (fun (r : Int32) (u : tSt) => okM u ∧ frA [(0, 5), (0, 6), (0, 7), (0, 9), (0, 10), (0, 11), (0, 12), (0, 30), (0, 41), (0, 42), (0, 43), (0, 45), (0, 47), (0, 48), (0, 52), (0, 60), (0, 67), (0, 68), (0, 69), (0, 70), (0, 71), (0, 72), (0, 73), (0, 91)] [(0, 8)] [2, 3, 5, 11, 12, 13, 14, 19, 20, 21, 22, 24, 25, 26, 27, 28, 29, 30, 31, 32, 33, 34, 35, 44] [4, 23] t u ∧ (-2147483648 : Int) ≤ r.toInt ∧ r.toInt ≤ 2147483647 ∧ ((u.2.1 0 8).toInt = 0) ∧ (bz (u.2.2.2 4) 20)) (fun (u : tSt) => WM K ad u) A) [.ref (ad 0)].toArray s 0 0 A) (F0 m 22 ls []) := by
    intro fuel_22
    induction fuel_22 with
    | zero =>
      intro t1 w22_1 w22_2 H locs ls hok hfr hw22_1 hi22_0 hi22_1 hi22_2 hi22_3 hi22_4 hm22_22 hP hD hS hl
      have h_7 : (0 : Int) ≤ (t1.1 0 12).toInt ∧ (t1.1 0 12).toInt ≤ 1 := hok.1 0 12
      have h_8 : (0 : Int) ≤ (t1.1 0 41).toInt ∧ (t1.1 0 41).toInt ≤ 1280 := hok.1 0 41
      have h_9 : (0 : Int) ≤ (t1.1 0 52).toInt ∧ (t1.1 0 52).toInt ≤ 1200 := hok.1 0 52
      have h_10 : (0 : Int) ≤ (t1.1 0 60).toInt ∧ (t1.1 0 60).toInt ≤ 1200 := hok.1 0 60
      have h_11 : (0 : Int) ≤ (t1.1 0 67).toInt ∧ (t1.1 0 67).toInt ≤ 1281 := hok.1 0 67
      have h_12 : (0 : Int) ≤ (t1.1 0 70).toInt ∧ (t1.1 0 70).toInt ≤ 8 := hok.1 0 70
      exact absurd hm22_22 (by omega)
    | succ fuel_22 ih_22 =>
      intro t1 w22_1 w22_2 H locs ls hok hfr hw22_1 hi22_0 hi22_1 hi22_2 hi22_3 hi22_4 hm22_22 hP hD hS hl
      have hm22_22 : ((t1.1 0 41).toInt + 1 - (t1.1 0 67).toInt) < (fuel_22 : Int) + 1 := by omega
      have h_13 : (0 : Int) ≤ (t1.1 0 12).toInt ∧ (t1.1 0 12).toInt ≤ 1 := hok.1 0 12
      have h_14 : (0 : Int) ≤ (t1.1 0 41).toInt ∧ (t1.1 0 41).toInt ≤ 1280 := hok.1 0 41
      have h_15 : (0 : Int) ≤ (t1.1 0 52).toInt ∧ (t1.1 0 52).toInt ≤ 1200 := hok.1 0 52
      have h_16 : (0 : Int) ≤ (t1.1 0 60).toInt ∧ (t1.1 0 60).toInt ≤ 1200 := hok.1 0 60
      have h_17 : (0 : Int) ≤ (t1.1 0 67).toInt ∧ (t1.1 0 67).toInt ≤ 1281 := hok.1 0 67
      have h_18 : (0 : Int) ≤ (t1.1 0 70).toInt ∧ (t1.1 0 70).toInt ≤ 8 := hok.1 0 70
      have L_117 : ∀ (t1 : tSt) (w117_1 : Int32) (w117_2 : Int32) (H : Heap) (locs : List Loc) (ls : Array Slot), okM t1 → frA [(0, 5), (0, 6), (0, 7), (0, 9), (0, 10), (0, 11), (0, 12), (0, 30), (0, 41), (0, 42), (0, 43), (0, 45), (0, 47), (0, 48), (0, 52), (0, 60), (0, 67), (0, 68), (0, 69), (0, 70), (0, 71), (0, 72), (0, 73), (0, 91)] [(0, 8)] [2, 3, 5, 11, 12, 13, 14, 19, 20, 21, 22, 24, 25, 26, 27, 28, 29, 30, 31, 32, 33, 34, 35, 44] [4, 23] t t1 → (0 : Int) ≤ w117_1.toInt ∧ w117_1.toInt ≤ 1 → (0 : Int) ≤ (t1.1 0 67).toInt ∧ (t1.1 0 67).toInt ≤ 1280 → (lnS (t1.1 0 41).toInt (t1.2.2.1 19) (t1.2.2.1 20)) → ((t1.1 0 67).toInt ≤ (t1.1 0 41).toInt) → ((t1.1 0 67).toInt < (t1.1 0 41).toInt → 9 * (t1.1 0 52).toInt ≤ (t1.2.2.1 20 ((t1.1 0 67) : Int32).toNatClampNeg).toInt + 1 ∧ 13 * (t1.1 0 60).toInt ≤ (t1.2.2.1 20 ((t1.1 0 67) : Int32).toNatClampNeg).toInt + 1) → ((t1.2.1 0 8).toInt = 0) → (bz (t1.2.2.2 4) 20) → ((t1.1 0 41).toInt + 1 - (t1.1 0 67).toInt) < (fuel_22 : Int) + 1 → va_P D vwCl (WM K ad t1) H → va_D A (WM K ad t1) → va_S A s.heap H locs → lv_has ls 3 [(0, .ref (ad 0)), (1, .int w117_1), (2, .int w117_2)] → W p l e (rmD 18 0 0) s m [.ref (ad 0)].toArray below meth c H locs 0 0 (MQ below (QI D K (fun (r : Int32) (u : tSt) => okM u ∧ frA [(0, 5), (0, 6), (0, 7), (0, 9), (0, 10), (0, 11), (0, 12), (0, 30), (0, 41), (0, 42), (0, 43), (0, 45), (0, 47), (0, 48), (0, 52), (0, 60), (0, 67), (0, 68), (0, 69), (0, 70), (0, 71), (0, 72), (0, 73), (0, 91)] [(0, 8)] [2, 3, 5, 11, 12, 13, 14, 19, 20, 21, 22, 24, 25, 26, 27, 28, 29, 30, 31, 32, 33, 34, 35, 44] [4, 23] t u ∧ (-2147483648 : Int) ≤ r.toInt ∧ r.toInt ≤ 2147483647 ∧ ((u.2.1 0 8).toInt = 0) ∧ (bz (u.2.2.2 4) 20)) (fun (u : tSt) => WM K ad u) A) [.ref (ad 0)].toArray s 0 0 A) (F0 m 117 ls []) := by
        intro t1 w117_1 w117_2 H locs ls hok hfr hw117_1 hf117_67 hi117_0 hi117_1 hi117_2 hi117_3 hi117_4 hm117_22 hP hD hS hl
        have h_19 : (0 : Int) ≤ (t1.1 0 12).toInt ∧ (t1.1 0 12).toInt ≤ 1 := hok.1 0 12
        have h_20 : (0 : Int) ≤ (t1.1 0 41).toInt ∧ (t1.1 0 41).toInt ≤ 1280 := hok.1 0 41
        have h_21 : (0 : Int) ≤ (t1.1 0 52).toInt ∧ (t1.1 0 52).toInt ≤ 1200 := hok.1 0 52
        have h_22 : (0 : Int) ≤ (t1.1 0 60).toInt ∧ (t1.1 0 60).toInt ≤ 1200 := hok.1 0 60
        have h_23 : (0 : Int) ≤ (t1.1 0 70).toInt ∧ (t1.1 0 70).toInt ≤ 8 := hok.1 0 70
        refine lv_aload_n C.1 C.2.1 dX12_goOver_117 rfl (lv_at hl 0 rfl) ?_
        refine lv_dup C.1 C.2.1 dX12_goOver_118 rfl ?_
        refine k_get (v := .int (t1.1 0 67)) C hP 0 rfl rfl inlX12 67 (by decide) m_29_11 rfl dX12_goOver_119 ?_
        refine lv_iconst (v := 1) C.1 C.2.1 dX12_goOver_122 (by decide) ?_
        obtain ⟨v_24, e_25⟩ : ∃ z, z = ((t1.1 0 67) : Int32) + (1 : Int32) := ⟨_, rfl⟩
        have h_26 : v_24.toInt = (t1.1 0 67).toInt + 1 := by rw [e_25]; exact ti_iadd (by show (_ : Int) ≤ (t1.1 0 67).toInt + 1; omega) (by show (t1.1 0 67).toInt + 1 < (_ : Int); omega)
        refine k_iadd (v := v_24) C e_25.symm dX12_goOver_123 ?_
        refine k_put (ws' := WM K ad (uI t1 0 67 v_24)) (v := .int v_24) C hP hD hS 0 rfl rfl inlX12 tyX12_ok nmX12 67 (by decide) m_29_11 rfl rfl rfl rfl rfl dX12_goOver_124 (fun H locs hP hD hS => ?_)
        have hok : okM (uI t1 0 67 v_24) := ⟨okI_I hok.1 0 67 v_24 (show (0 : Int) ≤ (v_24 : Int32).toInt ∧ (v_24 : Int32).toInt ≤ 1281 from ⟨by omega, by omega⟩), hok.2.1, hok.2.2.1, hok.2.2.2.1, hok.2.2.2.2.1, hok.2.2.2.2.2.1, hok.2.2.2.2.2.2.1, trivial⟩
        have hfr : frA [(0, 5), (0, 6), (0, 7), (0, 9), (0, 10), (0, 11), (0, 12), (0, 30), (0, 41), (0, 42), (0, 43), (0, 45), (0, 47), (0, 48), (0, 52), (0, 60), (0, 67), (0, 68), (0, 69), (0, 70), (0, 71), (0, 72), (0, 73), (0, 91)] [(0, 8)] [2, 3, 5, 11, 12, 13, 14, 19, 20, 21, 22, 24, 25, 26, 27, 28, 29, 30, 31, 32, 33, 34, 35, 44] [4, 23] t (uI t1 0 67 v_24) := frA_I hfr 0 67 _ rfl
        have hnx := fun hq => lnS_nx hi117_0 (t1.1 0 67) v_24 (by omega) (by omega) hq
        refine lv_goto (tgt := 22) C.1 C.2.1 dX12_goOver_127 (by decide) ?_
        have hlz : 0 ≤ (t1.2.2.1 19 (v_24 : Int32).toNatClampNeg).toInt := (hok.2.1 19 _).1
        exact ih_22 (uI t1 0 67 v_24) w117_1 w117_2 _ _ _ hok hfr ⟨by omega, by omega⟩ (show lnS (t1.1 0 41).toInt (t1.2.2.1 19) (t1.2.2.1 20) from by first | exact hln | exact hi117_0) (show v_24.toInt ≤ (t1.1 0 41).toInt + 1 from by omega) (show v_24.toInt < (t1.1 0 41).toInt → 9 * (t1.1 0 52).toInt ≤ (t1.2.2.1 19 (v_24 : Int32).toNatClampNeg).toInt ∧ 13 * (t1.1 0 60).toInt ≤ (t1.2.2.1 19 (v_24 : Int32).toNatClampNeg).toInt from by omega) (show (t1.2.1 0 8).toInt = 0 from by omega) (show bz (t1.2.2.2 4) 20 from by first | exact hi117_4 | (rw [rfl]; exact hbz)) (show ((t1.1 0 41).toInt + 1 - v_24.toInt) < (fuel_22 : Int) from by omega) hP hD hS (lv_sub hl [0, 1, 2] rfl)
      have L_78 : ∀ (t1 : tSt) (w78_1 : Int32) (w78_2 : Int32) (H : Heap) (locs : List Loc) (ls : Array Slot), okM t1 → frA [(0, 5), (0, 6), (0, 7), (0, 9), (0, 10), (0, 11), (0, 12), (0, 30), (0, 41), (0, 42), (0, 43), (0, 45), (0, 47), (0, 48), (0, 52), (0, 60), (0, 67), (0, 68), (0, 69), (0, 70), (0, 71), (0, 72), (0, 73), (0, 91)] [(0, 8)] [2, 3, 5, 11, 12, 13, 14, 19, 20, 21, 22, 24, 25, 26, 27, 28, 29, 30, 31, 32, 33, 34, 35, 44] [4, 23] t t1 → (0 : Int) ≤ w78_1.toInt ∧ w78_1.toInt ≤ 1 → (0 : Int) ≤ (t1.1 0 67).toInt ∧ (t1.1 0 67).toInt ≤ 1280 → (lnS (t1.1 0 41).toInt (t1.2.2.1 19) (t1.2.2.1 20)) → ((t1.1 0 67).toInt ≤ (t1.1 0 41).toInt) → ((t1.1 0 67).toInt < (t1.1 0 41).toInt → 9 * (t1.1 0 52).toInt ≤ (t1.2.2.1 20 ((t1.1 0 67) : Int32).toNatClampNeg).toInt + 1 ∧ 13 * (t1.1 0 60).toInt ≤ (t1.2.2.1 20 ((t1.1 0 67) : Int32).toNatClampNeg).toInt + 1) → ((t1.2.1 0 8).toInt = 0) → (bz (t1.2.2.2 4) 20) → ((t1.1 0 41).toInt + 1 - (t1.1 0 67).toInt) < (fuel_22 : Int) + 1 → va_P D vwCl (WM K ad t1) H → va_D A (WM K ad t1) → va_S A s.heap H locs → lv_has ls 3 [(0, .ref (ad 0)), (1, .int w78_1), (2, .int w78_2)] → W p l e (rmD 18 0 0) s m [.ref (ad 0)].toArray below meth c H locs 0 0 (MQ below (QI D K (fun (r : Int32) (u : tSt) => okM u ∧ frA [(0, 5), (0, 6), (0, 7), (0, 9), (0, 10), (0, 11), (0, 12), (0, 30), (0, 41), (0, 42), (0, 43), (0, 45), (0, 47), (0, 48), (0, 52), (0, 60), (0, 67), (0, 68), (0, 69), (0, 70), (0, 71), (0, 72), (0, 73), (0, 91)] [(0, 8)] [2, 3, 5, 11, 12, 13, 14, 19, 20, 21, 22, 24, 25, 26, 27, 28, 29, 30, 31, 32, 33, 34, 35, 44] [4, 23] t u ∧ (-2147483648 : Int) ≤ r.toInt ∧ r.toInt ≤ 2147483647 ∧ ((u.2.1 0 8).toInt = 0) ∧ (bz (u.2.2.2 4) 20)) (fun (u : tSt) => WM K ad u) A) [.ref (ad 0)].toArray s 0 0 A) (F0 m 78 ls []) := by
        intro t1 w78_1 w78_2 H locs ls hok hfr hw78_1 hf78_67 hi78_0 hi78_1 hi78_2 hi78_3 hi78_4 hm78_22 hP hD hS hl
        have h_27 : (0 : Int) ≤ (t1.1 0 12).toInt ∧ (t1.1 0 12).toInt ≤ 1 := hok.1 0 12
        have h_28 : (0 : Int) ≤ (t1.1 0 41).toInt ∧ (t1.1 0 41).toInt ≤ 1280 := hok.1 0 41
        have h_29 : (0 : Int) ≤ (t1.1 0 52).toInt ∧ (t1.1 0 52).toInt ≤ 1200 := hok.1 0 52
        have h_30 : (0 : Int) ≤ (t1.1 0 60).toInt ∧ (t1.1 0 60).toInt ≤ 1200 := hok.1 0 60
        have h_31 : (0 : Int) ≤ (t1.1 0 70).toInt ∧ (t1.1 0 70).toInt ≤ 8 := hok.1 0 70
        refine lv_aload_n C.1 C.2.1 dX12_goOver_78 rfl (lv_at hl 0 rfl) ?_
        refine k_get (v := .int (t1.1 0 70)) C hP 0 rfl rfl inlX12 70 (by decide) m_29_13 rfl dX12_goOver_79 ?_
        refine lv_if_ne (tgt := 88) C.1 C.2.1 dX12_goOver_82 (by decide) (fun c_32 => ?_) (fun c_32 => ?_)
        · replace c_32 : ¬ (t1.1 0 70).toInt = 0 := i_ne c_32
          refine lv_aload_n C.1 C.2.1 dX12_goOver_88 rfl (lv_at hl 0 rfl) ?_
          refine lv_aload_n C.1 C.2.1 dX12_goOver_89 rfl (lv_at hl 0 rfl) ?_
          have h_33 : (0 : Int) ≤ (t1.1 0 43).toInt ∧ (t1.1 0 43).toInt ≤ 8 := hok.1 0 43
          refine k_get (v := .int (t1.1 0 43)) C hP 0 rfl rfl inlX12 43 (by decide) m_29_14 rfl dX12_goOver_90 ?_
          refine lv_if_ne (tgt := 103) C.1 C.2.1 dX12_goOver_93 (by decide) (fun c_34 => ?_) (fun c_34 => ?_)
          · replace c_34 : ¬ (t1.1 0 43).toInt = 0 := i_ne c_34
            refine lv_aload_n C.1 C.2.1 dX12_goOver_103 rfl (lv_at hl 0 rfl) ?_
            refine k_get (v := .int (t1.1 0 43)) C hP 0 rfl rfl inlX12 43 (by decide) m_29_14 rfl dX12_goOver_104 ?_
            refine k_put (ws' := WM K ad (uI t1 0 43 (t1.1 0 43))) (v := .int (t1.1 0 43)) C hP hD hS 0 rfl rfl inlX12 tyX12_ok nmX12 43 (by decide) m_29_14 rfl rfl rfl rfl rfl dX12_goOver_107 (fun H locs hP hD hS => ?_)
            have hok : okM (uI t1 0 43 (t1.1 0 43)) := ⟨okI_I hok.1 0 43 (t1.1 0 43) (show (0 : Int) ≤ ((t1.1 0 43) : Int32).toInt ∧ ((t1.1 0 43) : Int32).toInt ≤ 8 from ⟨by omega, by omega⟩), hok.2.1, hok.2.2.1, hok.2.2.2.1, hok.2.2.2.2.1, hok.2.2.2.2.2.1, hok.2.2.2.2.2.2.1, trivial⟩
            have hfr : frA [(0, 5), (0, 6), (0, 7), (0, 9), (0, 10), (0, 11), (0, 12), (0, 30), (0, 41), (0, 42), (0, 43), (0, 45), (0, 47), (0, 48), (0, 52), (0, 60), (0, 67), (0, 68), (0, 69), (0, 70), (0, 71), (0, 72), (0, 73), (0, 91)] [(0, 8)] [2, 3, 5, 11, 12, 13, 14, 19, 20, 21, 22, 24, 25, 26, 27, 28, 29, 30, 31, 32, 33, 34, 35, 44] [4, 23] t (uI t1 0 43 (t1.1 0 43)) := frA_I hfr 0 43 _ rfl
            obtain ⟨v_35, e_36⟩ : ∃ z, z = w78_2 + 1 := ⟨_, rfl⟩
            refine lv_iinc (v := v_35) (lv' := [(2, .int v_35), (0, .ref (ad 0)), (1, .int w78_1)]) C.1 C.2.1 dX12_goOver_110 hl (k := 2) rfl e_36.symm (by decide) rfl (fun ls hl => ?_)
            have hl : lv_has ls 3 [(0, .ref (ad 0)), (1, .int w78_1), (2, .int v_35)] := lv_sub hl [1, 2, 0] rfl
            refine lv_aload_n C.1 C.2.1 dX12_goOver_113 rfl (lv_at hl 0 rfl) ?_
            refine g_Vv (As := []) (rest := []) C hP hD hS hA (T_X12_sayError l D K Z Y ad (uI t1 0 43 (t1.1 0 43)) hok ) hE hZ (uwV m_42_0 m_42_1 m_42_2 m_1_5 m_42_3) (hdV 0 (by decide +kernel) rfl) ⟨Nat.le_of_ble_eq_true rfl, Nat.le_of_ble_eq_true rfl⟩ rfl rfl (ci := 11) (q0 := 0) rfl rfl rfl hl.1 (Nat.le_of_ble_eq_true rfl) dX12_goOver_114 ⟨Nat.le_of_ble_eq_true rfl, Nat.le_of_ble_eq_true rfl⟩ (fun t_37 H locs hw hP hD hS => ?_)
            obtain ⟨hok, f_39⟩ := hw
            have hfr : frA [(0, 5), (0, 6), (0, 7), (0, 9), (0, 10), (0, 11), (0, 12), (0, 30), (0, 41), (0, 42), (0, 43), (0, 45), (0, 47), (0, 48), (0, 52), (0, 60), (0, 67), (0, 68), (0, 69), (0, 70), (0, 71), (0, 72), (0, 73), (0, 91)] [(0, 8)] [2, 3, 5, 11, 12, 13, 14, 19, 20, 21, 22, 24, 25, 26, 27, 28, 29, 30, 31, 32, 33, 34, 35, 44] [4, 23] t t_37 := frA_tr hfr f_39 rfl
            have h_40 : (t_37.1 0 67).toInt = (t1.1 0 67).toInt := ti_eq (f_39.1 0 67 rfl)
            have h_41 : (t_37.1 0 70).toInt = (t1.1 0 70).toInt := ti_eq (f_39.1 0 70 rfl)
            have h_42 : (t_37.1 0 43).toInt = (t1.1 0 43).toInt := ti_eq (f_39.1 0 43 rfl)
            have h_43 : (t_37.2.1 0 8).toInt = (t1.2.1 0 8).toInt := tl_eq (f_39.2.1 0 8 rfl)
            have h_44 : (t_37.1 0 12).toInt = (t1.1 0 12).toInt := ti_eq (f_39.1 0 12 rfl)
            have h_45 : (t_37.1 0 41).toInt = (t1.1 0 41).toInt := ti_eq (f_39.1 0 41 rfl)
            have h_46 : (t_37.1 0 52).toInt = (t1.1 0 52).toInt := ti_eq (f_39.1 0 52 rfl)
            have h_47 : (t_37.1 0 60).toInt = (t1.1 0 60).toInt := ti_eq (f_39.1 0 60 rfl)
            have e_48 : t_37.2.2.2 4 = t1.2.2.2 4 := f_39.2.2.2 4 rfl
            have e_49 : t_37.2.2.1 19 = t1.2.2.1 19 := f_39.2.2.1 19 rfl
            have e_50 : t_37.2.2.1 20 = t1.2.2.1 20 := f_39.2.2.1 20 rfl
            have h_51 : (t1.2.2.1 19 (t_37.1 0 67 : Int32).toNatClampNeg).toInt = (t1.2.2.1 19 (t1.1 0 67 : Int32).toNatClampNeg).toInt := by rw [show t_37.1 0 67 = t1.1 0 67 from f_39.1 0 67 rfl]
            have h_52 : (t1.2.2.1 20 (t_37.1 0 67 : Int32).toNatClampNeg).toInt = (t1.2.2.1 20 (t1.1 0 67 : Int32).toNatClampNeg).toInt := by rw [show t_37.1 0 67 = t1.1 0 67 from f_39.1 0 67 rfl]
            have h_53 : (0 : Int) ≤ (t_37.1 0 12).toInt ∧ (t_37.1 0 12).toInt ≤ 1 := hok.1 0 12
            have h_54 : (0 : Int) ≤ (t_37.1 0 41).toInt ∧ (t_37.1 0 41).toInt ≤ 1280 := hok.1 0 41
            have h_55 : (0 : Int) ≤ (t_37.1 0 52).toInt ∧ (t_37.1 0 52).toInt ≤ 1200 := hok.1 0 52
            have h_56 : (0 : Int) ≤ (t_37.1 0 60).toInt ∧ (t_37.1 0 60).toInt ≤ 1200 := hok.1 0 60
            have h_57 : (t_37.2.2.1 20 ((t_37.1 0 67) : Int32).toNatClampNeg).toInt = (t1.2.2.1 20 ((t_37.1 0 67) : Int32).toNatClampNeg).toInt := tb_eq e_50 _
            exact L_117 t_37 w78_1 v_35 _ _ _ hok hfr ⟨by omega, by omega⟩ (show (0 : Int) ≤ ((t_37.1 0 67) : Int32).toInt ∧ ((t_37.1 0 67) : Int32).toInt ≤ 1280 from ⟨by omega, by omega⟩) (show lnS (t_37.1 0 41).toInt (t_37.2.2.1 19) (t_37.2.2.1 20) from by first | exact hi78_0 | exact lnS_cg hi78_0 (by omega) e_49 e_50) (show (t_37.1 0 67).toInt ≤ (t_37.1 0 41).toInt from by omega) (show (t_37.1 0 67).toInt < (t_37.1 0 41).toInt → 9 * (t_37.1 0 52).toInt ≤ (t_37.2.2.1 20 ((t_37.1 0 67) : Int32).toNatClampNeg).toInt + 1 ∧ 13 * (t_37.1 0 60).toInt ≤ (t_37.2.2.1 20 ((t_37.1 0 67) : Int32).toNatClampNeg).toInt + 1 from by omega) (show (t_37.2.1 0 8).toInt = 0 from by omega) (show bz (t_37.2.2.2 4) 20 from by first | exact hi78_4 | (rw [e_48]; exact hi78_4)) (show ((t_37.1 0 41).toInt + 1 - (t_37.1 0 67).toInt) < (fuel_22 : Int) + 1 from by omega) hP hD hS (lv_sub hl [0, 1, 2] rfl)
          · replace c_34 : (t1.1 0 43).toInt = 0 := i_eq c_34
            refine lv_aload_n C.1 C.2.1 dX12_goOver_96 rfl (lv_at hl 0 rfl) ?_
            refine k_get (v := .int (t1.1 0 70)) C hP 0 rfl rfl inlX12 70 (by decide) m_29_13 rfl dX12_goOver_97 ?_
            refine lv_goto (tgt := 107) C.1 C.2.1 dX12_goOver_100 (by decide) ?_
            refine k_put (ws' := WM K ad (uI t1 0 43 (t1.1 0 70))) (v := .int (t1.1 0 70)) C hP hD hS 0 rfl rfl inlX12 tyX12_ok nmX12 43 (by decide) m_29_14 rfl rfl rfl rfl rfl dX12_goOver_107 (fun H locs hP hD hS => ?_)
            have hok : okM (uI t1 0 43 (t1.1 0 70)) := ⟨okI_I hok.1 0 43 (t1.1 0 70) (show (0 : Int) ≤ ((t1.1 0 70) : Int32).toInt ∧ ((t1.1 0 70) : Int32).toInt ≤ 8 from ⟨by omega, by omega⟩), hok.2.1, hok.2.2.1, hok.2.2.2.1, hok.2.2.2.2.1, hok.2.2.2.2.2.1, hok.2.2.2.2.2.2.1, trivial⟩
            have hfr : frA [(0, 5), (0, 6), (0, 7), (0, 9), (0, 10), (0, 11), (0, 12), (0, 30), (0, 41), (0, 42), (0, 43), (0, 45), (0, 47), (0, 48), (0, 52), (0, 60), (0, 67), (0, 68), (0, 69), (0, 70), (0, 71), (0, 72), (0, 73), (0, 91)] [(0, 8)] [2, 3, 5, 11, 12, 13, 14, 19, 20, 21, 22, 24, 25, 26, 27, 28, 29, 30, 31, 32, 33, 34, 35, 44] [4, 23] t (uI t1 0 43 (t1.1 0 70)) := frA_I hfr 0 43 _ rfl
            obtain ⟨v_58, e_59⟩ : ∃ z, z = w78_2 + 1 := ⟨_, rfl⟩
            refine lv_iinc (v := v_58) (lv' := [(2, .int v_58), (0, .ref (ad 0)), (1, .int w78_1)]) C.1 C.2.1 dX12_goOver_110 hl (k := 2) rfl e_59.symm (by decide) rfl (fun ls hl => ?_)
            have hl : lv_has ls 3 [(0, .ref (ad 0)), (1, .int w78_1), (2, .int v_58)] := lv_sub hl [1, 2, 0] rfl
            refine lv_aload_n C.1 C.2.1 dX12_goOver_113 rfl (lv_at hl 0 rfl) ?_
            refine g_Vv (As := []) (rest := []) C hP hD hS hA (T_X12_sayError l D K Z Y ad (uI t1 0 43 (t1.1 0 70)) hok ) hE hZ (uwV m_42_0 m_42_1 m_42_2 m_1_5 m_42_3) (hdV 0 (by decide +kernel) rfl) ⟨Nat.le_of_ble_eq_true rfl, Nat.le_of_ble_eq_true rfl⟩ rfl rfl (ci := 11) (q0 := 0) rfl rfl rfl hl.1 (Nat.le_of_ble_eq_true rfl) dX12_goOver_114 ⟨Nat.le_of_ble_eq_true rfl, Nat.le_of_ble_eq_true rfl⟩ (fun t_60 H locs hw hP hD hS => ?_)
            obtain ⟨hok, f_62⟩ := hw
            have hfr : frA [(0, 5), (0, 6), (0, 7), (0, 9), (0, 10), (0, 11), (0, 12), (0, 30), (0, 41), (0, 42), (0, 43), (0, 45), (0, 47), (0, 48), (0, 52), (0, 60), (0, 67), (0, 68), (0, 69), (0, 70), (0, 71), (0, 72), (0, 73), (0, 91)] [(0, 8)] [2, 3, 5, 11, 12, 13, 14, 19, 20, 21, 22, 24, 25, 26, 27, 28, 29, 30, 31, 32, 33, 34, 35, 44] [4, 23] t t_60 := frA_tr hfr f_62 rfl
            have h_63 : (t_60.1 0 67).toInt = (t1.1 0 67).toInt := ti_eq (f_62.1 0 67 rfl)
            have h_64 : (t_60.1 0 70).toInt = (t1.1 0 70).toInt := ti_eq (f_62.1 0 70 rfl)
            have h_65 : (t_60.1 0 43).toInt = (t1.1 0 70).toInt := ti_eq (f_62.1 0 43 rfl)
            have h_66 : (t_60.2.1 0 8).toInt = (t1.2.1 0 8).toInt := tl_eq (f_62.2.1 0 8 rfl)
            have h_67 : (t_60.1 0 12).toInt = (t1.1 0 12).toInt := ti_eq (f_62.1 0 12 rfl)
            have h_68 : (t_60.1 0 41).toInt = (t1.1 0 41).toInt := ti_eq (f_62.1 0 41 rfl)
            have h_69 : (t_60.1 0 52).toInt = (t1.1 0 52).toInt := ti_eq (f_62.1 0 52 rfl)
            have h_70 : (t_60.1 0 60).toInt = (t1.1 0 60).toInt := ti_eq (f_62.1 0 60 rfl)
            have e_71 : t_60.2.2.2 4 = t1.2.2.2 4 := f_62.2.2.2 4 rfl
            have e_72 : t_60.2.2.1 19 = t1.2.2.1 19 := f_62.2.2.1 19 rfl
            have e_73 : t_60.2.2.1 20 = t1.2.2.1 20 := f_62.2.2.1 20 rfl
            have h_74 : (t1.2.2.1 19 (t_60.1 0 67 : Int32).toNatClampNeg).toInt = (t1.2.2.1 19 (t1.1 0 67 : Int32).toNatClampNeg).toInt := by rw [show t_60.1 0 67 = t1.1 0 67 from f_62.1 0 67 rfl]
            have h_75 : (t1.2.2.1 20 (t_60.1 0 67 : Int32).toNatClampNeg).toInt = (t1.2.2.1 20 (t1.1 0 67 : Int32).toNatClampNeg).toInt := by rw [show t_60.1 0 67 = t1.1 0 67 from f_62.1 0 67 rfl]
            have h_76 : (0 : Int) ≤ (t_60.1 0 12).toInt ∧ (t_60.1 0 12).toInt ≤ 1 := hok.1 0 12
            have h_77 : (0 : Int) ≤ (t_60.1 0 41).toInt ∧ (t_60.1 0 41).toInt ≤ 1280 := hok.1 0 41
            have h_78 : (0 : Int) ≤ (t_60.1 0 52).toInt ∧ (t_60.1 0 52).toInt ≤ 1200 := hok.1 0 52
            have h_79 : (0 : Int) ≤ (t_60.1 0 60).toInt ∧ (t_60.1 0 60).toInt ≤ 1200 := hok.1 0 60
            have h_80 : (t_60.2.2.1 20 ((t_60.1 0 67) : Int32).toNatClampNeg).toInt = (t1.2.2.1 20 ((t_60.1 0 67) : Int32).toNatClampNeg).toInt := tb_eq e_73 _
            exact L_117 t_60 w78_1 v_58 _ _ _ hok hfr ⟨by omega, by omega⟩ (show (0 : Int) ≤ ((t_60.1 0 67) : Int32).toInt ∧ ((t_60.1 0 67) : Int32).toInt ≤ 1280 from ⟨by omega, by omega⟩) (show lnS (t_60.1 0 41).toInt (t_60.2.2.1 19) (t_60.2.2.1 20) from by first | exact hi78_0 | exact lnS_cg hi78_0 (by omega) e_72 e_73) (show (t_60.1 0 67).toInt ≤ (t_60.1 0 41).toInt from by omega) (show (t_60.1 0 67).toInt < (t_60.1 0 41).toInt → 9 * (t_60.1 0 52).toInt ≤ (t_60.2.2.1 20 ((t_60.1 0 67) : Int32).toNatClampNeg).toInt + 1 ∧ 13 * (t_60.1 0 60).toInt ≤ (t_60.2.2.1 20 ((t_60.1 0 67) : Int32).toNatClampNeg).toInt + 1 from by omega) (show (t_60.2.1 0 8).toInt = 0 from by omega) (show bz (t_60.2.2.2 4) 20 from by first | exact hi78_4 | (rw [e_71]; exact hi78_4)) (show ((t_60.1 0 41).toInt + 1 - (t_60.1 0 67).toInt) < (fuel_22 : Int) + 1 from by omega) hP hD hS (lv_sub hl [0, 1, 2] rfl)
        · replace c_32 : (t1.1 0 70).toInt = 0 := i_eq c_32
          refine lv_goto (tgt := 117) C.1 C.2.1 dX12_goOver_85 (by decide) ?_
          exact L_117 t1 w78_1 w78_2 _ _ _ hok hfr ⟨by omega, by omega⟩ (show (0 : Int) ≤ ((t1.1 0 67) : Int32).toInt ∧ ((t1.1 0 67) : Int32).toInt ≤ 1280 from ⟨by omega, by omega⟩) (show lnS (t1.1 0 41).toInt (t1.2.2.1 19) (t1.2.2.1 20) from by first | exact hi78_0 | exact lnS_cg hi78_0 (by omega) rfl rfl) (show (t1.1 0 67).toInt ≤ (t1.1 0 41).toInt from by omega) (show (t1.1 0 67).toInt < (t1.1 0 41).toInt → 9 * (t1.1 0 52).toInt ≤ (t1.2.2.1 20 ((t1.1 0 67) : Int32).toNatClampNeg).toInt + 1 ∧ 13 * (t1.1 0 60).toInt ≤ (t1.2.2.1 20 ((t1.1 0 67) : Int32).toNatClampNeg).toInt + 1 from by omega) (show (t1.2.1 0 8).toInt = 0 from by omega) (show bz (t1.2.2.2 4) 20 from by first | exact hi78_4 | (rw [rfl]; exact hi78_4)) (show ((t1.1 0 41).toInt + 1 - (t1.1 0 67).toInt) < (fuel_22 : Int) + 1 from by omega) hP hD hS (lv_sub hl [0, 1, 2] rfl)
      refine lv_aload_n C.1 C.2.1 dX12_goOver_22 rfl (lv_at hl 0 rfl) ?_
      refine k_get (v := .int (t1.1 0 67)) C hP 0 rfl rfl inlX12 67 (by decide) m_29_11 rfl dX12_goOver_23 ?_
      refine lv_aload_n C.1 C.2.1 dX12_goOver_26 rfl (lv_at hl 0 rfl) ?_
      refine k_get (v := .int (t1.1 0 41)) C hP 0 rfl rfl inlX12 41 (by decide) m_29_12 rfl dX12_goOver_27 ?_
      refine lv_icmp_gt (tgt := 130) C.1 C.2.1 dX12_goOver_30 (by decide) (fun c_81 => ?_) (fun c_81 => ?_)
      · replace c_81 : (t1.1 0 41).toInt < (t1.1 0 67).toInt := i_lt c_81
        refine lv_aload_n C.1 C.2.1 dX12_goOver_130 rfl (lv_at hl 0 rfl) ?_
        refine g_Vv (As := []) (rest := []) C hP hD hS hA (T_X12_clearMemory l D K Z Y ad t1 hok ) hE hZ (uwV m_30_4 m_30_5 m_30_6 m_1_5 m_30_7) (hdV 0 (by decide +kernel) rfl) ⟨Nat.le_of_ble_eq_true rfl, Nat.le_of_ble_eq_true rfl⟩ rfl rfl (ci := 11) (q0 := 0) rfl rfl rfl hl.1 (Nat.le_of_ble_eq_true rfl) dX12_goOver_131 ⟨Nat.le_of_ble_eq_true rfl, Nat.le_of_ble_eq_true rfl⟩ (fun t_82 H locs hw hP hD hS => ?_)
        obtain ⟨hok, f_84⟩ := hw
        have hfr : frA [(0, 5), (0, 6), (0, 7), (0, 9), (0, 10), (0, 11), (0, 12), (0, 30), (0, 41), (0, 42), (0, 43), (0, 45), (0, 47), (0, 48), (0, 52), (0, 60), (0, 67), (0, 68), (0, 69), (0, 70), (0, 71), (0, 72), (0, 73), (0, 91)] [(0, 8)] [2, 3, 5, 11, 12, 13, 14, 19, 20, 21, 22, 24, 25, 26, 27, 28, 29, 30, 31, 32, 33, 34, 35, 44] [4, 23] t t_82 := frA_tr hfr f_84 rfl
        have h_85 : (t_82.1 0 67).toInt = (t1.1 0 67).toInt := ti_eq (f_84.1 0 67 rfl)
        have h_86 : (t_82.1 0 41).toInt = (t1.1 0 41).toInt := ti_eq (f_84.1 0 41 rfl)
        have h_87 : (t_82.2.1 0 8).toInt = (t1.2.1 0 8).toInt := tl_eq (f_84.2.1 0 8 rfl)
        have h_88 : (t_82.1 0 12).toInt = (t1.1 0 12).toInt := ti_eq (f_84.1 0 12 rfl)
        have h_89 : (t_82.1 0 52).toInt = (t1.1 0 52).toInt := ti_eq (f_84.1 0 52 rfl)
        have h_90 : (t_82.1 0 60).toInt = (t1.1 0 60).toInt := ti_eq (f_84.1 0 60 rfl)
        have h_91 : (t_82.1 0 70).toInt = (t1.1 0 70).toInt := ti_eq (f_84.1 0 70 rfl)
        have e_92 : t_82.2.2.2 4 = t1.2.2.2 4 := f_84.2.2.2 4 rfl
        have e_93 : t_82.2.2.1 19 = t1.2.2.1 19 := f_84.2.2.1 19 rfl
        have e_94 : t_82.2.2.1 20 = t1.2.2.1 20 := f_84.2.2.1 20 rfl
        have h_95 : (t1.2.2.1 19 (t_82.1 0 67 : Int32).toNatClampNeg).toInt = (t1.2.2.1 19 (t1.1 0 67 : Int32).toNatClampNeg).toInt := by rw [show t_82.1 0 67 = t1.1 0 67 from f_84.1 0 67 rfl]
        have h_96 : (t1.2.2.1 20 (t_82.1 0 67 : Int32).toNatClampNeg).toInt = (t1.2.2.1 20 (t1.1 0 67 : Int32).toNatClampNeg).toInt := by rw [show t_82.1 0 67 = t1.1 0 67 from f_84.1 0 67 rfl]
        have h_97 : (0 : Int) ≤ (t_82.1 0 12).toInt ∧ (t_82.1 0 12).toInt ≤ 1 := hok.1 0 12
        have h_98 : (0 : Int) ≤ (t_82.1 0 52).toInt ∧ (t_82.1 0 52).toInt ≤ 1200 := hok.1 0 52
        have h_99 : (0 : Int) ≤ (t_82.1 0 60).toInt ∧ (t_82.1 0 60).toInt ≤ 1200 := hok.1 0 60
        have h_100 : (0 : Int) ≤ (t_82.1 0 70).toInt ∧ (t_82.1 0 70).toInt ≤ 8 := hok.1 0 70
        refine lv_iload_n C.1 C.2.1 dX12_goOver_134 rfl (lv_at hl 2 rfl) ?_
        exact g_iret C hr hlocks hP hD hS rfl t_82 rfl ⟨hok, hfr, (i_rng _).1, (i_rng _).2, (show (t_82.2.1 0 8).toInt = 0 from by omega), (show bz (t_82.2.2.2 4) 20 from by first | exact hi22_4 | (rw [e_92]; exact hi22_4))⟩ (Nat.le_of_ble_eq_true rfl) (Nat.le_of_ble_eq_true rfl) dX12_goOver_135
      · replace c_81 : (t1.1 0 67).toInt ≤ (t1.1 0 41).toInt := i_nlt c_81
        refine lv_iload_n C.1 C.2.1 dX12_goOver_33 rfl (lv_at hl 1 rfl) ?_
        refine lv_if_ne (tgt := 130) C.1 C.2.1 dX12_goOver_34 (by decide) (fun c_101 => ?_) (fun c_101 => ?_)
        · replace c_101 : ¬ w22_1.toInt = 0 := i_ne c_101
          refine lv_aload_n C.1 C.2.1 dX12_goOver_130 rfl (lv_at hl 0 rfl) ?_
          refine g_Vv (As := []) (rest := []) C hP hD hS hA (T_X12_clearMemory l D K Z Y ad t1 hok ) hE hZ (uwV m_30_4 m_30_5 m_30_6 m_1_5 m_30_7) (hdV 0 (by decide +kernel) rfl) ⟨Nat.le_of_ble_eq_true rfl, Nat.le_of_ble_eq_true rfl⟩ rfl rfl (ci := 11) (q0 := 0) rfl rfl rfl hl.1 (Nat.le_of_ble_eq_true rfl) dX12_goOver_131 ⟨Nat.le_of_ble_eq_true rfl, Nat.le_of_ble_eq_true rfl⟩ (fun t_102 H locs hw hP hD hS => ?_)
          obtain ⟨hok, f_104⟩ := hw
          have hfr : frA [(0, 5), (0, 6), (0, 7), (0, 9), (0, 10), (0, 11), (0, 12), (0, 30), (0, 41), (0, 42), (0, 43), (0, 45), (0, 47), (0, 48), (0, 52), (0, 60), (0, 67), (0, 68), (0, 69), (0, 70), (0, 71), (0, 72), (0, 73), (0, 91)] [(0, 8)] [2, 3, 5, 11, 12, 13, 14, 19, 20, 21, 22, 24, 25, 26, 27, 28, 29, 30, 31, 32, 33, 34, 35, 44] [4, 23] t t_102 := frA_tr hfr f_104 rfl
          have h_105 : (t_102.1 0 67).toInt = (t1.1 0 67).toInt := ti_eq (f_104.1 0 67 rfl)
          have h_106 : (t_102.1 0 41).toInt = (t1.1 0 41).toInt := ti_eq (f_104.1 0 41 rfl)
          have h_107 : (t_102.2.1 0 8).toInt = (t1.2.1 0 8).toInt := tl_eq (f_104.2.1 0 8 rfl)
          have h_108 : (t_102.1 0 12).toInt = (t1.1 0 12).toInt := ti_eq (f_104.1 0 12 rfl)
          have h_109 : (t_102.1 0 52).toInt = (t1.1 0 52).toInt := ti_eq (f_104.1 0 52 rfl)
          have h_110 : (t_102.1 0 60).toInt = (t1.1 0 60).toInt := ti_eq (f_104.1 0 60 rfl)
          have h_111 : (t_102.1 0 70).toInt = (t1.1 0 70).toInt := ti_eq (f_104.1 0 70 rfl)
          have e_112 : t_102.2.2.2 4 = t1.2.2.2 4 := f_104.2.2.2 4 rfl
          have e_113 : t_102.2.2.1 19 = t1.2.2.1 19 := f_104.2.2.1 19 rfl
          have e_114 : t_102.2.2.1 20 = t1.2.2.1 20 := f_104.2.2.1 20 rfl
          have h_115 : (t1.2.2.1 19 (t_102.1 0 67 : Int32).toNatClampNeg).toInt = (t1.2.2.1 19 (t1.1 0 67 : Int32).toNatClampNeg).toInt := by rw [show t_102.1 0 67 = t1.1 0 67 from f_104.1 0 67 rfl]
          have h_116 : (t1.2.2.1 20 (t_102.1 0 67 : Int32).toNatClampNeg).toInt = (t1.2.2.1 20 (t1.1 0 67 : Int32).toNatClampNeg).toInt := by rw [show t_102.1 0 67 = t1.1 0 67 from f_104.1 0 67 rfl]
          have h_117 : (0 : Int) ≤ (t_102.1 0 12).toInt ∧ (t_102.1 0 12).toInt ≤ 1 := hok.1 0 12
          have h_118 : (0 : Int) ≤ (t_102.1 0 52).toInt ∧ (t_102.1 0 52).toInt ≤ 1200 := hok.1 0 52
          have h_119 : (0 : Int) ≤ (t_102.1 0 60).toInt ∧ (t_102.1 0 60).toInt ≤ 1200 := hok.1 0 60
          have h_120 : (0 : Int) ≤ (t_102.1 0 70).toInt ∧ (t_102.1 0 70).toInt ≤ 8 := hok.1 0 70
          refine lv_iload_n C.1 C.2.1 dX12_goOver_134 rfl (lv_at hl 2 rfl) ?_
          exact g_iret C hr hlocks hP hD hS rfl t_102 rfl ⟨hok, hfr, (i_rng _).1, (i_rng _).2, (show (t_102.2.1 0 8).toInt = 0 from by omega), (show bz (t_102.2.2.2 4) 20 from by first | exact hi22_4 | (rw [e_112]; exact hi22_4))⟩ (Nat.le_of_ble_eq_true rfl) (Nat.le_of_ble_eq_true rfl) dX12_goOver_135
        · replace c_101 : w22_1.toInt = 0 := i_eq c_101
          refine lv_aload_n C.1 C.2.1 dX12_goOver_37 rfl (lv_at hl 0 rfl) ?_
          refine k_get (v := .int (t1.1 0 67)) C hP 0 rfl rfl inlX12 67 (by decide) m_29_11 rfl dX12_goOver_38 ?_
          refine lv_aload_n C.1 C.2.1 dX12_goOver_41 rfl (lv_at hl 0 rfl) ?_
          refine k_get (v := .int (t1.1 0 41)) C hP 0 rfl rfl inlX12 41 (by decide) m_29_12 rfl dX12_goOver_42 ?_
          refine lv_icmp_ge (tgt := 59) C.1 C.2.1 dX12_goOver_45 (by decide) (fun c_121 => ?_) (fun c_121 => ?_)
          · replace c_121 : (t1.1 0 41).toInt ≤ (t1.1 0 67).toInt := i_le c_121
            refine lv_iconst (v := 0) C.1 C.2.1 dX12_goOver_59 (by decide) ?_
            refine lv_istore_n (lv' := [(1, .int 0), (0, .ref (ad 0)), (2, .int w22_2)]) C.1 C.2.1 dX12_goOver_60 rfl hl (by decide) rfl (fun ls hl => ?_)
            have hl : lv_has ls 3 [(0, .ref (ad 0)), (1, .int 0), (2, .int w22_2)] := lv_sub hl [1, 0, 2] rfl
            refine lv_aload_n C.1 C.2.1 dX12_goOver_61 rfl (lv_at hl 0 rfl) ?_
            refine k_get (v := .int (t1.1 0 67)) C hP 0 rfl rfl inlX12 67 (by decide) m_29_11 rfl dX12_goOver_62 ?_
            refine lv_aload_n C.1 C.2.1 dX12_goOver_65 rfl (lv_at hl 0 rfl) ?_
            refine k_get (v := .int (t1.1 0 41)) C hP 0 rfl rfl inlX12 41 (by decide) m_29_12 rfl dX12_goOver_66 ?_
            refine lv_icmp_ne (tgt := 78) C.1 C.2.1 dX12_goOver_69 (by decide) (fun c_122 => ?_) (fun c_122 => ?_)
            · replace c_122 : ¬ (t1.1 0 67).toInt = (t1.1 0 41).toInt := i_ne c_122
              exact L_78 t1 0 w22_2 _ _ _ hok hfr ⟨by decide, by decide⟩ (show (0 : Int) ≤ ((t1.1 0 67) : Int32).toInt ∧ ((t1.1 0 67) : Int32).toInt ≤ 1280 from ⟨by omega, by omega⟩) (show lnS (t1.1 0 41).toInt (t1.2.2.1 19) (t1.2.2.1 20) from by first | exact hi22_0 | exact lnS_cg hi22_0 (by omega) rfl rfl) (show (t1.1 0 67).toInt ≤ (t1.1 0 41).toInt from by omega) (show (t1.1 0 67).toInt < (t1.1 0 41).toInt → 9 * (t1.1 0 52).toInt ≤ (t1.2.2.1 20 ((t1.1 0 67) : Int32).toNatClampNeg).toInt + 1 ∧ 13 * (t1.1 0 60).toInt ≤ (t1.2.2.1 20 ((t1.1 0 67) : Int32).toNatClampNeg).toInt + 1 from by omega) (show (t1.2.1 0 8).toInt = 0 from by omega) (show bz (t1.2.2.2 4) 20 from by first | exact hi22_4 | (rw [rfl]; exact hi22_4)) (show ((t1.1 0 41).toInt + 1 - (t1.1 0 67).toInt) < (fuel_22 : Int) + 1 from by omega) hP hD hS (lv_sub hl [0, 1, 2] rfl)
            · replace c_122 : (t1.1 0 67).toInt = (t1.1 0 41).toInt := i_eq c_122
              refine lv_aload_n C.1 C.2.1 dX12_goOver_72 rfl (lv_at hl 0 rfl) ?_
              refine lv_bipush (v := 7) C.1 C.2.1 dX12_goOver_73 (by decide) ?_
              refine k_put (ws' := WM K ad (uI t1 0 70 7)) (v := .int 7) C hP hD hS 0 rfl rfl inlX12 tyX12_ok nmX12 70 (by decide) m_29_13 rfl rfl rfl rfl rfl dX12_goOver_75 (fun H locs hP hD hS => ?_)
              have hok : okM (uI t1 0 70 7) := ⟨okI_I hok.1 0 70 7 (show (0 : Int) ≤ (7 : Int32).toInt ∧ (7 : Int32).toInt ≤ 8 from ⟨by decide, by decide⟩), hok.2.1, hok.2.2.1, hok.2.2.2.1, hok.2.2.2.2.1, hok.2.2.2.2.2.1, hok.2.2.2.2.2.2.1, trivial⟩
              have hfr : frA [(0, 5), (0, 6), (0, 7), (0, 9), (0, 10), (0, 11), (0, 12), (0, 30), (0, 41), (0, 42), (0, 43), (0, 45), (0, 47), (0, 48), (0, 52), (0, 60), (0, 67), (0, 68), (0, 69), (0, 70), (0, 71), (0, 72), (0, 73), (0, 91)] [(0, 8)] [2, 3, 5, 11, 12, 13, 14, 19, 20, 21, 22, 24, 25, 26, 27, 28, 29, 30, 31, 32, 33, 34, 35, 44] [4, 23] t (uI t1 0 70 7) := frA_I hfr 0 70 _ rfl
              exact L_78 (uI t1 0 70 7) 0 w22_2 _ _ _ hok hfr ⟨by decide, by decide⟩ (show (0 : Int) ≤ ((t1.1 0 67) : Int32).toInt ∧ ((t1.1 0 67) : Int32).toInt ≤ 1280 from ⟨by omega, by omega⟩) (show lnS (t1.1 0 41).toInt (t1.2.2.1 19) (t1.2.2.1 20) from by first | exact hi22_0 | exact lnS_cg hi22_0 (by omega) rfl rfl) (show (t1.1 0 67).toInt ≤ (t1.1 0 41).toInt from by omega) (show (t1.1 0 67).toInt < (t1.1 0 41).toInt → 9 * (t1.1 0 52).toInt ≤ (t1.2.2.1 20 ((t1.1 0 67) : Int32).toNatClampNeg).toInt + 1 ∧ 13 * (t1.1 0 60).toInt ≤ (t1.2.2.1 20 ((t1.1 0 67) : Int32).toNatClampNeg).toInt + 1 from by omega) (show (t1.2.1 0 8).toInt = 0 from by omega) (show bz (t1.2.2.2 4) 20 from by first | exact hi22_4 | (rw [rfl]; exact hi22_4)) (show ((t1.1 0 41).toInt + 1 - (t1.1 0 67).toInt) < (fuel_22 : Int) + 1 from by omega) hP hD hS (lv_sub hl [0, 1, 2] rfl)
          · replace c_121 : (t1.1 0 67).toInt < (t1.1 0 41).toInt := i_nle c_121
            have hlr : (t1.2.2.1 19 ((t1.1 0 67) : Int32).toNatClampNeg).toInt ≤ 1280 := (hok.2.1 19 _).2
            have hla : (t1.2.2.1 19 ((t1.1 0 67) : Int32).toNatClampNeg).toInt ≤ (t1.2.2.1 20 ((t1.1 0 67) : Int32).toNatClampNeg).toInt := lnS_at hi22_0 (t1.1 0 67) (by omega) (by omega)
            refine lv_aload_n C.1 C.2.1 dX12_goOver_48 rfl (lv_at hl 0 rfl) ?_
            refine g_Vi (As := []) (rest := []) C hP hD hS hA (T_X12_workLine l D K Z Y ad t1 hok (show (t1.1 0 52).toInt ≤ 1190 from by omega) (show (t1.1 0 60).toInt ≤ 1190 from by omega) (show (t1.1 0 67).toInt < (t1.1 0 41).toInt from by omega) (show (t1.2.2.1 19 ((t1.1 0 67) : Int32).toNatClampNeg).toInt ≤ (t1.2.2.1 20 ((t1.1 0 67) : Int32).toNatClampNeg).toInt from by omega)) hE hZ (uwV m_31_2 m_31_3 m_31_4 m_1_5 m_31_5) (hdV 0 (by decide +kernel) rfl) ⟨Nat.le_of_ble_eq_true rfl, Nat.le_of_ble_eq_true rfl⟩ rfl rfl (ci := 11) (q0 := 0) rfl rfl rfl hl.1 (Nat.le_of_ble_eq_true rfl) dX12_goOver_49 ⟨Nat.le_of_ble_eq_true rfl, Nat.le_of_ble_eq_true rfl⟩ (fun r_124 t_123 H locs hw hP hD hS => ?_)
            obtain ⟨hok, f_125, h_126, h_127, p_128, p_129, p_130, p_131⟩ := hw
            have hfr : frA [(0, 5), (0, 6), (0, 7), (0, 9), (0, 10), (0, 11), (0, 12), (0, 30), (0, 41), (0, 42), (0, 43), (0, 45), (0, 47), (0, 48), (0, 52), (0, 60), (0, 67), (0, 68), (0, 69), (0, 70), (0, 71), (0, 72), (0, 73), (0, 91)] [(0, 8)] [2, 3, 5, 11, 12, 13, 14, 19, 20, 21, 22, 24, 25, 26, 27, 28, 29, 30, 31, 32, 33, 34, 35, 44] [4, 23] t t_123 := frA_tr hfr f_125 rfl
            have h_132 : (t_123.1 0 67).toInt = (t1.1 0 67).toInt := ti_eq (f_125.1 0 67 rfl)
            have h_133 : (t_123.1 0 41).toInt = (t1.1 0 41).toInt := ti_eq (f_125.1 0 41 rfl)
            have h_134 : (t_123.2.1 0 8).toInt = (t1.2.1 0 8).toInt := tl_eq (f_125.2.1 0 8 rfl)
            have h_135 : (t_123.1 0 12).toInt = (t1.1 0 12).toInt := ti_eq (f_125.1 0 12 rfl)
            have e_136 : t_123.2.2.2 4 = t1.2.2.2 4 := f_125.2.2.2 4 rfl
            have e_137 : t_123.2.2.1 19 = t1.2.2.1 19 := f_125.2.2.1 19 rfl
            have e_138 : t_123.2.2.1 20 = t1.2.2.1 20 := f_125.2.2.1 20 rfl
            have h_139 : (t1.2.2.1 19 (t_123.1 0 67 : Int32).toNatClampNeg).toInt = (t1.2.2.1 19 (t1.1 0 67 : Int32).toNatClampNeg).toInt := by rw [show t_123.1 0 67 = t1.1 0 67 from f_125.1 0 67 rfl]
            have h_140 : (t1.2.2.1 20 (t_123.1 0 67 : Int32).toNatClampNeg).toInt = (t1.2.2.1 20 (t1.1 0 67 : Int32).toNatClampNeg).toInt := by rw [show t_123.1 0 67 = t1.1 0 67 from f_125.1 0 67 rfl]
            have h_141 : (0 : Int) ≤ (t_123.1 0 12).toInt ∧ (t_123.1 0 12).toInt ≤ 1 := hok.1 0 12
            have h_142 : (0 : Int) ≤ (t_123.1 0 52).toInt ∧ (t_123.1 0 52).toInt ≤ 1200 := hok.1 0 52
            have h_143 : (0 : Int) ≤ (t_123.1 0 60).toInt ∧ (t_123.1 0 60).toInt ≤ 1200 := hok.1 0 60
            have h_144 : (0 : Int) ≤ (t_123.1 0 70).toInt ∧ (t_123.1 0 70).toInt ≤ 8 := hok.1 0 70
            replace p_128 : (t1.1 0 52).toInt ≤ (t_123.1 0 52).toInt := p_128
            replace p_129 : 9 * ((t_123.1 0 52).toInt - (t1.1 0 52).toInt) ≤ (t1.2.2.1 20 ((t1.1 0 67) : Int32).toNatClampNeg).toInt + 1 - (t1.2.2.1 19 ((t1.1 0 67) : Int32).toNatClampNeg).toInt := p_129
            replace p_130 : (t1.1 0 60).toInt ≤ (t_123.1 0 60).toInt := p_130
            replace p_131 : 13 * ((t_123.1 0 60).toInt - (t1.1 0 60).toInt) ≤ (t1.2.2.1 20 ((t1.1 0 67) : Int32).toNatClampNeg).toInt + 1 - (t1.2.2.1 19 ((t1.1 0 67) : Int32).toNatClampNeg).toInt := p_131
            refine lv_if_eq (tgt := 59) C.1 C.2.1 dX12_goOver_52 (by decide) (fun c_145 => ?_) (fun c_145 => ?_)
            · replace c_145 : r_124.toInt = 0 := i_eq c_145
              refine lv_iconst (v := 0) C.1 C.2.1 dX12_goOver_59 (by decide) ?_
              refine lv_istore_n (lv' := [(1, .int 0), (0, .ref (ad 0)), (2, .int w22_2)]) C.1 C.2.1 dX12_goOver_60 rfl hl (by decide) rfl (fun ls hl => ?_)
              have hl : lv_has ls 3 [(0, .ref (ad 0)), (1, .int 0), (2, .int w22_2)] := lv_sub hl [1, 0, 2] rfl
              refine lv_aload_n C.1 C.2.1 dX12_goOver_61 rfl (lv_at hl 0 rfl) ?_
              refine k_get (v := .int (t_123.1 0 67)) C hP 0 rfl rfl inlX12 67 (by decide) m_29_11 rfl dX12_goOver_62 ?_
              refine lv_aload_n C.1 C.2.1 dX12_goOver_65 rfl (lv_at hl 0 rfl) ?_
              refine k_get (v := .int (t_123.1 0 41)) C hP 0 rfl rfl inlX12 41 (by decide) m_29_12 rfl dX12_goOver_66 ?_
              refine lv_icmp_ne (tgt := 78) C.1 C.2.1 dX12_goOver_69 (by decide) (fun c_146 => ?_) (fun c_146 => ?_)
              · replace c_146 : ¬ (t_123.1 0 67).toInt = (t_123.1 0 41).toInt := i_ne c_146
                have h_147 : (t_123.2.2.1 20 ((t_123.1 0 67) : Int32).toNatClampNeg).toInt = (t1.2.2.1 20 ((t_123.1 0 67) : Int32).toNatClampNeg).toInt := tb_eq e_138 _
                exact L_78 t_123 0 w22_2 _ _ _ hok hfr ⟨by decide, by decide⟩ (show (0 : Int) ≤ ((t_123.1 0 67) : Int32).toInt ∧ ((t_123.1 0 67) : Int32).toInt ≤ 1280 from ⟨by omega, by omega⟩) (show lnS (t_123.1 0 41).toInt (t_123.2.2.1 19) (t_123.2.2.1 20) from by first | exact hi22_0 | exact lnS_cg hi22_0 (by omega) e_137 e_138) (show (t_123.1 0 67).toInt ≤ (t_123.1 0 41).toInt from by omega) (show (t_123.1 0 67).toInt < (t_123.1 0 41).toInt → 9 * (t_123.1 0 52).toInt ≤ (t_123.2.2.1 20 ((t_123.1 0 67) : Int32).toNatClampNeg).toInt + 1 ∧ 13 * (t_123.1 0 60).toInt ≤ (t_123.2.2.1 20 ((t_123.1 0 67) : Int32).toNatClampNeg).toInt + 1 from by omega) (show (t_123.2.1 0 8).toInt = 0 from by omega) (show bz (t_123.2.2.2 4) 20 from by first | exact hi22_4 | (rw [e_136]; exact hi22_4)) (show ((t_123.1 0 41).toInt + 1 - (t_123.1 0 67).toInt) < (fuel_22 : Int) + 1 from by omega) hP hD hS (lv_sub hl [0, 1, 2] rfl)
              · replace c_146 : (t_123.1 0 67).toInt = (t_123.1 0 41).toInt := i_eq c_146
                refine lv_aload_n C.1 C.2.1 dX12_goOver_72 rfl (lv_at hl 0 rfl) ?_
                refine lv_bipush (v := 7) C.1 C.2.1 dX12_goOver_73 (by decide) ?_
                refine k_put (ws' := WM K ad (uI t_123 0 70 7)) (v := .int 7) C hP hD hS 0 rfl rfl inlX12 tyX12_ok nmX12 70 (by decide) m_29_13 rfl rfl rfl rfl rfl dX12_goOver_75 (fun H locs hP hD hS => ?_)
                have hok : okM (uI t_123 0 70 7) := ⟨okI_I hok.1 0 70 7 (show (0 : Int) ≤ (7 : Int32).toInt ∧ (7 : Int32).toInt ≤ 8 from ⟨by decide, by decide⟩), hok.2.1, hok.2.2.1, hok.2.2.2.1, hok.2.2.2.2.1, hok.2.2.2.2.2.1, hok.2.2.2.2.2.2.1, trivial⟩
                have hfr : frA [(0, 5), (0, 6), (0, 7), (0, 9), (0, 10), (0, 11), (0, 12), (0, 30), (0, 41), (0, 42), (0, 43), (0, 45), (0, 47), (0, 48), (0, 52), (0, 60), (0, 67), (0, 68), (0, 69), (0, 70), (0, 71), (0, 72), (0, 73), (0, 91)] [(0, 8)] [2, 3, 5, 11, 12, 13, 14, 19, 20, 21, 22, 24, 25, 26, 27, 28, 29, 30, 31, 32, 33, 34, 35, 44] [4, 23] t (uI t_123 0 70 7) := frA_I hfr 0 70 _ rfl
                have h_148 : (t_123.2.2.1 20 ((t_123.1 0 67) : Int32).toNatClampNeg).toInt = (t1.2.2.1 20 ((t_123.1 0 67) : Int32).toNatClampNeg).toInt := tb_eq e_138 _
                exact L_78 (uI t_123 0 70 7) 0 w22_2 _ _ _ hok hfr ⟨by decide, by decide⟩ (show (0 : Int) ≤ ((t_123.1 0 67) : Int32).toInt ∧ ((t_123.1 0 67) : Int32).toInt ≤ 1280 from ⟨by omega, by omega⟩) (show lnS (t_123.1 0 41).toInt (t_123.2.2.1 19) (t_123.2.2.1 20) from by first | exact hi22_0 | exact lnS_cg hi22_0 (by omega) e_137 e_138) (show (t_123.1 0 67).toInt ≤ (t_123.1 0 41).toInt from by omega) (show (t_123.1 0 67).toInt < (t_123.1 0 41).toInt → 9 * (t_123.1 0 52).toInt ≤ (t_123.2.2.1 20 ((t_123.1 0 67) : Int32).toNatClampNeg).toInt + 1 ∧ 13 * (t_123.1 0 60).toInt ≤ (t_123.2.2.1 20 ((t_123.1 0 67) : Int32).toNatClampNeg).toInt + 1 from by omega) (show (t_123.2.1 0 8).toInt = 0 from by omega) (show bz (t_123.2.2.2 4) 20 from by first | exact hi22_4 | (rw [e_136]; exact hi22_4)) (show ((t_123.1 0 41).toInt + 1 - (t_123.1 0 67).toInt) < (fuel_22 : Int) + 1 from by omega) hP hD hS (lv_sub hl [0, 1, 2] rfl)
            · replace c_145 : ¬ r_124.toInt = 0 := i_ne c_145
              refine lv_iconst (v := 1) C.1 C.2.1 dX12_goOver_55 (by decide) ?_
              refine lv_goto (tgt := 60) C.1 C.2.1 dX12_goOver_56 (by decide) ?_
              refine lv_istore_n (lv' := [(1, .int 1), (0, .ref (ad 0)), (2, .int w22_2)]) C.1 C.2.1 dX12_goOver_60 rfl hl (by decide) rfl (fun ls hl => ?_)
              have hl : lv_has ls 3 [(0, .ref (ad 0)), (1, .int 1), (2, .int w22_2)] := lv_sub hl [1, 0, 2] rfl
              refine lv_aload_n C.1 C.2.1 dX12_goOver_61 rfl (lv_at hl 0 rfl) ?_
              refine k_get (v := .int (t_123.1 0 67)) C hP 0 rfl rfl inlX12 67 (by decide) m_29_11 rfl dX12_goOver_62 ?_
              refine lv_aload_n C.1 C.2.1 dX12_goOver_65 rfl (lv_at hl 0 rfl) ?_
              refine k_get (v := .int (t_123.1 0 41)) C hP 0 rfl rfl inlX12 41 (by decide) m_29_12 rfl dX12_goOver_66 ?_
              refine lv_icmp_ne (tgt := 78) C.1 C.2.1 dX12_goOver_69 (by decide) (fun c_149 => ?_) (fun c_149 => ?_)
              · replace c_149 : ¬ (t_123.1 0 67).toInt = (t_123.1 0 41).toInt := i_ne c_149
                have h_150 : (t_123.2.2.1 20 ((t_123.1 0 67) : Int32).toNatClampNeg).toInt = (t1.2.2.1 20 ((t_123.1 0 67) : Int32).toNatClampNeg).toInt := tb_eq e_138 _
                exact L_78 t_123 1 w22_2 _ _ _ hok hfr ⟨by decide, by decide⟩ (show (0 : Int) ≤ ((t_123.1 0 67) : Int32).toInt ∧ ((t_123.1 0 67) : Int32).toInt ≤ 1280 from ⟨by omega, by omega⟩) (show lnS (t_123.1 0 41).toInt (t_123.2.2.1 19) (t_123.2.2.1 20) from by first | exact hi22_0 | exact lnS_cg hi22_0 (by omega) e_137 e_138) (show (t_123.1 0 67).toInt ≤ (t_123.1 0 41).toInt from by omega) (show (t_123.1 0 67).toInt < (t_123.1 0 41).toInt → 9 * (t_123.1 0 52).toInt ≤ (t_123.2.2.1 20 ((t_123.1 0 67) : Int32).toNatClampNeg).toInt + 1 ∧ 13 * (t_123.1 0 60).toInt ≤ (t_123.2.2.1 20 ((t_123.1 0 67) : Int32).toNatClampNeg).toInt + 1 from by omega) (show (t_123.2.1 0 8).toInt = 0 from by omega) (show bz (t_123.2.2.2 4) 20 from by first | exact hi22_4 | (rw [e_136]; exact hi22_4)) (show ((t_123.1 0 41).toInt + 1 - (t_123.1 0 67).toInt) < (fuel_22 : Int) + 1 from by omega) hP hD hS (lv_sub hl [0, 1, 2] rfl)
              · replace c_149 : (t_123.1 0 67).toInt = (t_123.1 0 41).toInt := i_eq c_149
                refine lv_aload_n C.1 C.2.1 dX12_goOver_72 rfl (lv_at hl 0 rfl) ?_
                refine lv_bipush (v := 7) C.1 C.2.1 dX12_goOver_73 (by decide) ?_
                refine k_put (ws' := WM K ad (uI t_123 0 70 7)) (v := .int 7) C hP hD hS 0 rfl rfl inlX12 tyX12_ok nmX12 70 (by decide) m_29_13 rfl rfl rfl rfl rfl dX12_goOver_75 (fun H locs hP hD hS => ?_)
                have hok : okM (uI t_123 0 70 7) := ⟨okI_I hok.1 0 70 7 (show (0 : Int) ≤ (7 : Int32).toInt ∧ (7 : Int32).toInt ≤ 8 from ⟨by decide, by decide⟩), hok.2.1, hok.2.2.1, hok.2.2.2.1, hok.2.2.2.2.1, hok.2.2.2.2.2.1, hok.2.2.2.2.2.2.1, trivial⟩
                have hfr : frA [(0, 5), (0, 6), (0, 7), (0, 9), (0, 10), (0, 11), (0, 12), (0, 30), (0, 41), (0, 42), (0, 43), (0, 45), (0, 47), (0, 48), (0, 52), (0, 60), (0, 67), (0, 68), (0, 69), (0, 70), (0, 71), (0, 72), (0, 73), (0, 91)] [(0, 8)] [2, 3, 5, 11, 12, 13, 14, 19, 20, 21, 22, 24, 25, 26, 27, 28, 29, 30, 31, 32, 33, 34, 35, 44] [4, 23] t (uI t_123 0 70 7) := frA_I hfr 0 70 _ rfl
                have h_151 : (t_123.2.2.1 20 ((t_123.1 0 67) : Int32).toNatClampNeg).toInt = (t1.2.2.1 20 ((t_123.1 0 67) : Int32).toNatClampNeg).toInt := tb_eq e_138 _
                exact L_78 (uI t_123 0 70 7) 1 w22_2 _ _ _ hok hfr ⟨by decide, by decide⟩ (show (0 : Int) ≤ ((t_123.1 0 67) : Int32).toInt ∧ ((t_123.1 0 67) : Int32).toInt ≤ 1280 from ⟨by omega, by omega⟩) (show lnS (t_123.1 0 41).toInt (t_123.2.2.1 19) (t_123.2.2.1 20) from by first | exact hi22_0 | exact lnS_cg hi22_0 (by omega) e_137 e_138) (show (t_123.1 0 67).toInt ≤ (t_123.1 0 41).toInt from by omega) (show (t_123.1 0 67).toInt < (t_123.1 0 41).toInt → 9 * (t_123.1 0 52).toInt ≤ (t_123.2.2.1 20 ((t_123.1 0 67) : Int32).toNatClampNeg).toInt + 1 ∧ 13 * (t_123.1 0 60).toInt ≤ (t_123.2.2.1 20 ((t_123.1 0 67) : Int32).toNatClampNeg).toInt + 1 from by omega) (show (t_123.2.1 0 8).toInt = 0 from by omega) (show bz (t_123.2.2.2 4) 20 from by first | exact hi22_4 | (rw [e_136]; exact hi22_4)) (show ((t_123.1 0 41).toInt + 1 - (t_123.1 0 67).toInt) < (fuel_22 : Int) + 1 from by omega) hP hD hS (lv_sub hl [0, 1, 2] rfl)
  refine lv_aload_n C.1 C.2.1 dX12_goOver_0 rfl (lv_at hl 0 rfl) ?_
  refine g_Vv (As := []) (rest := []) C hP hD hS hA (T_X12_clearMachine l D K Z Y ad t hok ) hE hZ (uwV m_29_17 m_29_18 m_29_19 m_1_5 m_29_20) (hdV 0 (by decide +kernel) rfl) ⟨Nat.le_of_ble_eq_true rfl, Nat.le_of_ble_eq_true rfl⟩ rfl rfl (ci := 11) (q0 := 0) rfl rfl rfl hl.1 (Nat.le_of_ble_eq_true rfl) dX12_goOver_1 ⟨Nat.le_of_ble_eq_true rfl, Nat.le_of_ble_eq_true rfl⟩ (fun t_152 H locs hw hP hD hS => ?_)
  obtain ⟨hok, f_154, p_155, p_156, p_157⟩ := hw
  have hfr : frA [(0, 5), (0, 6), (0, 7), (0, 9), (0, 10), (0, 11), (0, 12), (0, 30), (0, 41), (0, 42), (0, 43), (0, 45), (0, 47), (0, 48), (0, 52), (0, 60), (0, 67), (0, 68), (0, 69), (0, 70), (0, 71), (0, 72), (0, 73), (0, 91)] [(0, 8)] [2, 3, 5, 11, 12, 13, 14, 19, 20, 21, 22, 24, 25, 26, 27, 28, 29, 30, 31, 32, 33, 34, 35, 44] [4, 23] t t_152 := frA_tr hfr f_154 rfl
  have h_158 : (t_152.1 0 41).toInt = (t.1 0 41).toInt := ti_eq (f_154.1 0 41 rfl)
  have h_159 : (t_152.1 0 52).toInt = (t.1 0 52).toInt := ti_eq (f_154.1 0 52 rfl)
  have h_160 : (t_152.1 0 60).toInt = (t.1 0 60).toInt := ti_eq (f_154.1 0 60 rfl)
  have h_161 : (t_152.1 0 67).toInt = (t.1 0 67).toInt := ti_eq (f_154.1 0 67 rfl)
  have h_162 : (t_152.1 0 70).toInt = (t.1 0 70).toInt := ti_eq (f_154.1 0 70 rfl)
  have e_163 : t_152.2.2.1 19 = t.2.2.1 19 := f_154.2.2.1 19 rfl
  have e_164 : t_152.2.2.1 20 = t.2.2.1 20 := f_154.2.2.1 20 rfl
  have h_165 : (t.2.2.1 19 (t_152.1 0 67 : Int32).toNatClampNeg).toInt = (t.2.2.1 19 (t.1 0 67 : Int32).toNatClampNeg).toInt := by rw [show t_152.1 0 67 = t.1 0 67 from f_154.1 0 67 rfl]
  have h_166 : (t.2.2.1 20 (t_152.1 0 67 : Int32).toNatClampNeg).toInt = (t.2.2.1 20 (t.1 0 67 : Int32).toNatClampNeg).toInt := by rw [show t_152.1 0 67 = t.1 0 67 from f_154.1 0 67 rfl]
  have h_167 : (0 : Int) ≤ (t_152.1 0 12).toInt ∧ (t_152.1 0 12).toInt ≤ 1 := hok.1 0 12
  have h_168 : (0 : Int) ≤ (t_152.1 0 41).toInt ∧ (t_152.1 0 41).toInt ≤ 1280 := hok.1 0 41
  have h_169 : (0 : Int) ≤ (t_152.1 0 52).toInt ∧ (t_152.1 0 52).toInt ≤ 1200 := hok.1 0 52
  have h_170 : (0 : Int) ≤ (t_152.1 0 60).toInt ∧ (t_152.1 0 60).toInt ≤ 1200 := hok.1 0 60
  have h_171 : (0 : Int) ≤ (t_152.1 0 67).toInt ∧ (t_152.1 0 67).toInt ≤ 1281 := hok.1 0 67
  have h_172 : (0 : Int) ≤ (t_152.1 0 70).toInt ∧ (t_152.1 0 70).toInt ≤ 8 := hok.1 0 70
  replace p_155 : (t_152.2.1 0 8).toInt = 0 := p_155
  replace p_156 : (t_152.1 0 12).toInt = 0 := p_156
  replace p_157 : bz (t_152.2.2.2 4) 20 := p_157
  have hbz := p_157
  refine lv_aload_n C.1 C.2.1 dX12_goOver_4 rfl (lv_at hl 0 rfl) ?_
  refine g_Vv (As := []) (rest := []) C hP hD hS hA (T_X12_clearAssembling l D K Z Y ad t_152 hok ) hE hZ (uwV m_30_12 m_30_13 m_30_14 m_1_5 m_30_15) (hdV 0 (by decide +kernel) rfl) ⟨Nat.le_of_ble_eq_true rfl, Nat.le_of_ble_eq_true rfl⟩ rfl rfl (ci := 11) (q0 := 0) rfl rfl rfl hl.1 (Nat.le_of_ble_eq_true rfl) dX12_goOver_5 ⟨Nat.le_of_ble_eq_true rfl, Nat.le_of_ble_eq_true rfl⟩ (fun t_173 H locs hw hP hD hS => ?_)
  obtain ⟨hok, f_175, p_176, p_177, p_178, p_179⟩ := hw
  have hfr : frA [(0, 5), (0, 6), (0, 7), (0, 9), (0, 10), (0, 11), (0, 12), (0, 30), (0, 41), (0, 42), (0, 43), (0, 45), (0, 47), (0, 48), (0, 52), (0, 60), (0, 67), (0, 68), (0, 69), (0, 70), (0, 71), (0, 72), (0, 73), (0, 91)] [(0, 8)] [2, 3, 5, 11, 12, 13, 14, 19, 20, 21, 22, 24, 25, 26, 27, 28, 29, 30, 31, 32, 33, 34, 35, 44] [4, 23] t t_173 := frA_tr hfr f_175 rfl
  have h_180 : (t_173.2.1 0 8).toInt = (t_152.2.1 0 8).toInt := tl_eq (f_175.2.1 0 8 rfl)
  have h_181 : (t_173.1 0 12).toInt = (t_152.1 0 12).toInt := ti_eq (f_175.1 0 12 rfl)
  have h_182 : (t_173.1 0 67).toInt = (t_152.1 0 67).toInt := ti_eq (f_175.1 0 67 rfl)
  have e_183 : t_173.2.2.2 4 = t_152.2.2.2 4 := f_175.2.2.2 4 rfl
  have h_184 : (0 : Int) ≤ (t_173.1 0 12).toInt ∧ (t_173.1 0 12).toInt ≤ 1 := hok.1 0 12
  have h_185 : (0 : Int) ≤ (t_173.1 0 41).toInt ∧ (t_173.1 0 41).toInt ≤ 1280 := hok.1 0 41
  have h_186 : (0 : Int) ≤ (t_173.1 0 52).toInt ∧ (t_173.1 0 52).toInt ≤ 1200 := hok.1 0 52
  have h_187 : (0 : Int) ≤ (t_173.1 0 60).toInt ∧ (t_173.1 0 60).toInt ≤ 1200 := hok.1 0 60
  have h_188 : (0 : Int) ≤ (t_173.1 0 67).toInt ∧ (t_173.1 0 67).toInt ≤ 1281 := hok.1 0 67
  have h_189 : (0 : Int) ≤ (t_173.1 0 70).toInt ∧ (t_173.1 0 70).toInt ≤ 8 := hok.1 0 70
  replace p_176 : lnS (t_173.1 0 41).toInt (t_173.2.2.1 19) (t_173.2.2.1 20) := p_176
  replace p_177 : (t_173.1 0 52).toInt = 0 := p_177
  replace p_178 : (t_173.1 0 60).toInt = 0 := p_178
  replace p_179 : (t_173.1 0 70).toInt = 0 := p_179
  have hln := p_176
  refine lv_iconst (v := 0) C.1 C.2.1 dX12_goOver_8 (by decide) ?_
  refine lv_istore_n (lv' := [(1, .int 0), (0, .ref (ad 0))]) C.1 C.2.1 dX12_goOver_9 rfl hl (by decide) rfl (fun ls hl => ?_)
  have hl : lv_has ls 3 [(0, .ref (ad 0)), (1, .int 0)] := lv_sub hl [1, 0] rfl
  refine lv_iconst (v := 0) C.1 C.2.1 dX12_goOver_10 (by decide) ?_
  refine lv_istore_n (lv' := [(2, .int 0), (0, .ref (ad 0)), (1, .int 0)]) C.1 C.2.1 dX12_goOver_11 rfl hl (by decide) rfl (fun ls hl => ?_)
  have hl : lv_has ls 3 [(0, .ref (ad 0)), (1, .int 0), (2, .int 0)] := lv_sub hl [1, 2, 0] rfl
  refine lv_aload_n C.1 C.2.1 dX12_goOver_12 rfl (lv_at hl 0 rfl) ?_
  refine lv_iconst (v := 0) C.1 C.2.1 dX12_goOver_13 (by decide) ?_
  refine k_put (ws' := WM K ad (uI t_173 0 43 0)) (v := .int 0) C hP hD hS 0 rfl rfl inlX12 tyX12_ok nmX12 43 (by decide) m_29_14 rfl rfl rfl rfl rfl dX12_goOver_14 (fun H locs hP hD hS => ?_)
  have hok : okM (uI t_173 0 43 0) := ⟨okI_I hok.1 0 43 0 (show (0 : Int) ≤ (0 : Int32).toInt ∧ (0 : Int32).toInt ≤ 8 from ⟨by decide, by decide⟩), hok.2.1, hok.2.2.1, hok.2.2.2.1, hok.2.2.2.2.1, hok.2.2.2.2.2.1, hok.2.2.2.2.2.2.1, trivial⟩
  have hfr : frA [(0, 5), (0, 6), (0, 7), (0, 9), (0, 10), (0, 11), (0, 12), (0, 30), (0, 41), (0, 42), (0, 43), (0, 45), (0, 47), (0, 48), (0, 52), (0, 60), (0, 67), (0, 68), (0, 69), (0, 70), (0, 71), (0, 72), (0, 73), (0, 91)] [(0, 8)] [2, 3, 5, 11, 12, 13, 14, 19, 20, 21, 22, 24, 25, 26, 27, 28, 29, 30, 31, 32, 33, 34, 35, 44] [4, 23] t (uI t_173 0 43 0) := frA_I hfr 0 43 _ rfl
  refine lv_aload_n C.1 C.2.1 dX12_goOver_17 rfl (lv_at hl 0 rfl) ?_
  refine lv_iconst (v := 0) C.1 C.2.1 dX12_goOver_18 (by decide) ?_
  refine k_put (ws' := WM K ad (uI (uI t_173 0 43 0) 0 67 0)) (v := .int 0) C hP hD hS 0 rfl rfl inlX12 tyX12_ok nmX12 67 (by decide) m_29_11 rfl rfl rfl rfl rfl dX12_goOver_19 (fun H locs hP hD hS => ?_)
  have hok : okM (uI (uI t_173 0 43 0) 0 67 0) := ⟨okI_I hok.1 0 67 0 (show (0 : Int) ≤ (0 : Int32).toInt ∧ (0 : Int32).toInt ≤ 1281 from ⟨by decide, by decide⟩), hok.2.1, hok.2.2.1, hok.2.2.2.1, hok.2.2.2.2.1, hok.2.2.2.2.2.1, hok.2.2.2.2.2.2.1, trivial⟩
  have hfr : frA [(0, 5), (0, 6), (0, 7), (0, 9), (0, 10), (0, 11), (0, 12), (0, 30), (0, 41), (0, 42), (0, 43), (0, 45), (0, 47), (0, 48), (0, 52), (0, 60), (0, 67), (0, 68), (0, 69), (0, 70), (0, 71), (0, 72), (0, 73), (0, 91)] [(0, 8)] [2, 3, 5, 11, 12, 13, 14, 19, 20, 21, 22, 24, 25, 26, 27, 28, 29, 30, 31, 32, 33, 34, 35, 44] [4, 23] t (uI (uI t_173 0 43 0) 0 67 0) := frA_I hfr 0 67 _ rfl
  have hlz : 0 ≤ (t_173.2.2.1 19 (0 : Int32).toNatClampNeg).toInt := (hok.2.1 19 _).1
  exact L_22 3000 (uI (uI t_173 0 43 0) 0 67 0) 0 0 _ _ _ hok hfr ⟨by decide, by decide⟩ (show lnS (t_173.1 0 41).toInt (t_173.2.2.1 19) (t_173.2.2.1 20) from by first | exact hln | exact hi117_0) (show 0 ≤ (t_173.1 0 41).toInt + 1 from by omega) (show 0 < (t_173.1 0 41).toInt → 9 * (t_173.1 0 52).toInt ≤ (t_173.2.2.1 19 (0 : Int32).toNatClampNeg).toInt ∧ 13 * (t_173.1 0 60).toInt ≤ (t_173.2.2.1 19 (0 : Int32).toNatClampNeg).toInt from by omega) (show (t_173.2.1 0 8).toInt = 0 from by omega) (show bz (t_173.2.2.2 4) 20 from by first | exact hi117_4 | (rw [e_183]; exact hbz)) (show ((t_173.1 0 41).toInt + 1 - 0) < ((3000 : Nat) : Int) from by omega) hP hD hS (lv_sub hl [0, 1, 2] rfl)

theorem dX12_assembleLines_0 : decode cX12_assembleLines 0 = .ok (.aload_n 0, 1) := by decide +kernel
theorem dX12_assembleLines_1 : decode cX12_assembleLines 1 = .ok (.iconst 0, 1) := by decide +kernel
theorem dX12_assembleLines_102 : decode cX12_assembleLines 102 = .ok (.iconst 1, 1) := by decide +kernel
theorem dX12_assembleLines_103 : decode cX12_assembleLines 103 = .ok (.ireturn, 1) := by decide +kernel
theorem dX12_assembleLines_104 : decode cX12_assembleLines 104 = .ok (.aload_n 0, 1) := by decide +kernel
theorem dX12_assembleLines_105 : decode cX12_assembleLines 105 = .ok (.iconst 1, 1) := by decide +kernel
theorem dX12_assembleLines_106 : decode cX12_assembleLines 106 = .ok (.invokevirtual 816, 3) := by decide +kernel
theorem dX12_assembleLines_109 : decode cX12_assembleLines 109 = .ok (.ifCond .ne 5, 3) := by decide +kernel
theorem dX12_assembleLines_112 : decode cX12_assembleLines 112 = .ok (.iconst 0, 1) := by decide +kernel
theorem dX12_assembleLines_113 : decode cX12_assembleLines 113 = .ok (.ireturn, 1) := by decide +kernel
theorem dX12_assembleLines_114 : decode cX12_assembleLines 114 = .ok (.aload_n 0, 1) := by decide +kernel
theorem dX12_assembleLines_115 : decode cX12_assembleLines 115 = .ok (.getfield 648, 3) := by decide +kernel
theorem dX12_assembleLines_118 : decode cX12_assembleLines 118 = .ok (.istore_n 3, 1) := by decide +kernel
theorem dX12_assembleLines_119 : decode cX12_assembleLines 119 = .ok (.aload_n 0, 1) := by decide +kernel
theorem dX12_assembleLines_12 : decode cX12_assembleLines 12 = .ok (.aload_n 0, 1) := by decide +kernel
theorem dX12_assembleLines_120 : decode cX12_assembleLines 120 = .ok (.getfield 651, 3) := by decide +kernel
theorem dX12_assembleLines_123 : decode cX12_assembleLines 123 = .ok (.istore 4, 2) := by decide +kernel
theorem dX12_assembleLines_125 : decode cX12_assembleLines 125 = .ok (.aload_n 0, 1) := by decide +kernel
theorem dX12_assembleLines_126 : decode cX12_assembleLines 126 = .ok (.iconst 1, 1) := by decide +kernel
theorem dX12_assembleLines_127 : decode cX12_assembleLines 127 = .ok (.putfield 207, 3) := by decide +kernel
theorem dX12_assembleLines_13 : decode cX12_assembleLines 13 = .ok (.getfield 131, 3) := by decide +kernel
theorem dX12_assembleLines_130 : decode cX12_assembleLines 130 = .ok (.aload_n 0, 1) := by decide +kernel
theorem dX12_assembleLines_131 : decode cX12_assembleLines 131 = .ok (.invokevirtual 673, 3) := by decide +kernel
theorem dX12_assembleLines_134 : decode cX12_assembleLines 134 = .ok (.istore 5, 2) := by decide +kernel
theorem dX12_assembleLines_136 : decode cX12_assembleLines 136 = .ok (.aload_n 0, 1) := by decide +kernel
theorem dX12_assembleLines_137 : decode cX12_assembleLines 137 = .ok (.iconst 0, 1) := by decide +kernel
theorem dX12_assembleLines_138 : decode cX12_assembleLines 138 = .ok (.putfield 207, 3) := by decide +kernel
theorem dX12_assembleLines_141 : decode cX12_assembleLines 141 = .ok (.aload_n 0, 1) := by decide +kernel
theorem dX12_assembleLines_142 : decode cX12_assembleLines 142 = .ok (.iload_n 3, 1) := by decide +kernel
theorem dX12_assembleLines_143 : decode cX12_assembleLines 143 = .ok (.putfield 648, 3) := by decide +kernel
theorem dX12_assembleLines_146 : decode cX12_assembleLines 146 = .ok (.aload_n 0, 1) := by decide +kernel
theorem dX12_assembleLines_147 : decode cX12_assembleLines 147 = .ok (.iload 4, 2) := by decide +kernel
theorem dX12_assembleLines_149 : decode cX12_assembleLines 149 = .ok (.putfield 651, 3) := by decide +kernel
theorem dX12_assembleLines_152 : decode cX12_assembleLines 152 = .ok (.iconst 0, 1) := by decide +kernel
theorem dX12_assembleLines_153 : decode cX12_assembleLines 153 = .ok (.ireturn, 1) := by decide +kernel
theorem dX12_assembleLines_16 : decode cX12_assembleLines 16 = .ok (.iload_n 3, 1) := by decide +kernel
theorem dX12_assembleLines_17 : decode cX12_assembleLines 17 = .ok (.iaload, 1) := by decide +kernel
theorem dX12_assembleLines_18 : decode cX12_assembleLines 18 = .ok (.istore 4, 2) := by decide +kernel
theorem dX12_assembleLines_2 : decode cX12_assembleLines 2 = .ok (.putfield 433, 3) := by decide +kernel
theorem dX12_assembleLines_20 : decode cX12_assembleLines 20 = .ok (.iload 4, 2) := by decide +kernel
theorem dX12_assembleLines_22 : decode cX12_assembleLines 22 = .ok (.aload_n 0, 1) := by decide +kernel
theorem dX12_assembleLines_23 : decode cX12_assembleLines 23 = .ok (.getfield 134, 3) := by decide +kernel
theorem dX12_assembleLines_26 : decode cX12_assembleLines 26 = .ok (.iload_n 3, 1) := by decide +kernel
theorem dX12_assembleLines_27 : decode cX12_assembleLines 27 = .ok (.iaload, 1) := by decide +kernel
theorem dX12_assembleLines_28 : decode cX12_assembleLines 28 = .ok (.if_icmp .ge 35, 3) := by decide +kernel
theorem dX12_assembleLines_31 : decode cX12_assembleLines 31 = .ok (.aload_n 0, 1) := by decide +kernel
theorem dX12_assembleLines_32 : decode cX12_assembleLines 32 = .ok (.getfield 74, 3) := by decide +kernel
theorem dX12_assembleLines_35 : decode cX12_assembleLines 35 = .ok (.aload_n 0, 1) := by decide +kernel
theorem dX12_assembleLines_36 : decode cX12_assembleLines 36 = .ok (.getfield 433, 3) := by decide +kernel
theorem dX12_assembleLines_39 : decode cX12_assembleLines 39 = .ok (.aload_n 0, 1) := by decide +kernel
theorem dX12_assembleLines_40 : decode cX12_assembleLines 40 = .ok (.getfield 128, 3) := by decide +kernel
theorem dX12_assembleLines_43 : decode cX12_assembleLines 43 = .ok (.iload 4, 2) := by decide +kernel
theorem dX12_assembleLines_45 : decode cX12_assembleLines 45 = .ok (.baload, 1) := by decide +kernel
theorem dX12_assembleLines_46 : decode cX12_assembleLines 46 = .ok (.bastore, 1) := by decide +kernel
theorem dX12_assembleLines_47 : decode cX12_assembleLines 47 = .ok (.aload_n 0, 1) := by decide +kernel
theorem dX12_assembleLines_48 : decode cX12_assembleLines 48 = .ok (.dup, 1) := by decide +kernel
theorem dX12_assembleLines_49 : decode cX12_assembleLines 49 = .ok (.getfield 433, 3) := by decide +kernel
theorem dX12_assembleLines_5 : decode cX12_assembleLines 5 = .ok (.iload_n 1, 1) := by decide +kernel
theorem dX12_assembleLines_52 : decode cX12_assembleLines 52 = .ok (.iconst 1, 1) := by decide +kernel
theorem dX12_assembleLines_53 : decode cX12_assembleLines 53 = .ok (.iadd, 1) := by decide +kernel
theorem dX12_assembleLines_54 : decode cX12_assembleLines 54 = .ok (.putfield 433, 3) := by decide +kernel
theorem dX12_assembleLines_57 : decode cX12_assembleLines 57 = .ok (.iinc 4 1, 3) := by decide +kernel
theorem dX12_assembleLines_6 : decode cX12_assembleLines 6 = .ok (.istore_n 3, 1) := by decide +kernel
theorem dX12_assembleLines_60 : decode cX12_assembleLines 60 = .ok (.goto (-40), 3) := by decide +kernel
theorem dX12_assembleLines_63 : decode cX12_assembleLines 63 = .ok (.aload_n 0, 1) := by decide +kernel
theorem dX12_assembleLines_64 : decode cX12_assembleLines 64 = .ok (.getfield 74, 3) := by decide +kernel
theorem dX12_assembleLines_67 : decode cX12_assembleLines 67 = .ok (.aload_n 0, 1) := by decide +kernel
theorem dX12_assembleLines_68 : decode cX12_assembleLines 68 = .ok (.getfield 433, 3) := by decide +kernel
theorem dX12_assembleLines_7 : decode cX12_assembleLines 7 = .ok (.iload_n 3, 1) := by decide +kernel
theorem dX12_assembleLines_71 : decode cX12_assembleLines 71 = .ok (.bipush 10, 2) := by decide +kernel
theorem dX12_assembleLines_73 : decode cX12_assembleLines 73 = .ok (.bastore, 1) := by decide +kernel
theorem dX12_assembleLines_74 : decode cX12_assembleLines 74 = .ok (.aload_n 0, 1) := by decide +kernel
theorem dX12_assembleLines_75 : decode cX12_assembleLines 75 = .ok (.dup, 1) := by decide +kernel
theorem dX12_assembleLines_76 : decode cX12_assembleLines 76 = .ok (.getfield 433, 3) := by decide +kernel
theorem dX12_assembleLines_79 : decode cX12_assembleLines 79 = .ok (.iconst 1, 1) := by decide +kernel
theorem dX12_assembleLines_8 : decode cX12_assembleLines 8 = .ok (.iload_n 2, 1) := by decide +kernel
theorem dX12_assembleLines_80 : decode cX12_assembleLines 80 = .ok (.iadd, 1) := by decide +kernel
theorem dX12_assembleLines_81 : decode cX12_assembleLines 81 = .ok (.putfield 433, 3) := by decide +kernel
theorem dX12_assembleLines_84 : decode cX12_assembleLines 84 = .ok (.iinc 3 1, 3) := by decide +kernel
theorem dX12_assembleLines_87 : decode cX12_assembleLines 87 = .ok (.goto (-80), 3) := by decide +kernel
theorem dX12_assembleLines_9 : decode cX12_assembleLines 9 = .ok (.if_icmp .ge 81, 3) := by decide +kernel
theorem dX12_assembleLines_90 : decode cX12_assembleLines 90 = .ok (.aload_n 0, 1) := by decide +kernel
theorem dX12_assembleLines_91 : decode cX12_assembleLines 91 = .ok (.iconst 1, 1) := by decide +kernel
theorem dX12_assembleLines_92 : decode cX12_assembleLines 92 = .ok (.putfield 596, 3) := by decide +kernel
theorem dX12_assembleLines_95 : decode cX12_assembleLines 95 = .ok (.aload_n 0, 1) := by decide +kernel
theorem dX12_assembleLines_96 : decode cX12_assembleLines 96 = .ok (.invokevirtual 661, 3) := by decide +kernel
theorem dX12_assembleLines_99 : decode cX12_assembleLines 99 = .ok (.ifCond .eq 5, 3) := by decide +kernel
set_option maxHeartbeats 4000000 in
set_option maxRecDepth 100000 in
theorem T_X12_assembleLines (l : Launch) (D : va_G) (K : Nat → ClassId) (Z Y : Nat → Nat) (ad : Nat → Nat) (t : tSt) (hok : okM t) (x1 : Int32) (hx1 : (1 : Int) ≤ x1.toInt ∧ x1.toInt ≤ 1281) (x2 : Int32) (hx2 : (1 : Int) ≤ x2.toInt ∧ x2.toInt ≤ 1280) (hs0 : x1.toInt ≤ x2.toInt) (hs1 : x2.toInt < (t.1 0 77).toInt) (hs2 : lnS (t.1 0 77).toInt (t.2.2.1 37) (t.2.2.1 38)) : tMet l yX12_assembleLines cX12_assembleLines 6 (some .boolean) (rmD 19 0 0) D K Z Y [.ref (ad 0), .int x1, .int x2] (WM K ad t) (QI D K (fun (r : Int32) (u : tSt) => okM u ∧ frA [(0, 5), (0, 6), (0, 7), (0, 9), (0, 10), (0, 11), (0, 12), (0, 30), (0, 31), (0, 38), (0, 41), (0, 42), (0, 43), (0, 44), (0, 45), (0, 46), (0, 47), (0, 48), (0, 51), (0, 52), (0, 60), (0, 67), (0, 68), (0, 69), (0, 70), (0, 71), (0, 72), (0, 73), (0, 91)] [(0, 8)] [2, 3, 5, 11, 12, 13, 14, 18, 19, 20, 21, 22, 24, 25, 26, 27, 28, 29, 30, 31, 32, 33, 34, 35, 44] [4, 23] t u ∧ (0 : Int) ≤ r.toInt ∧ r.toInt ≤ 1 ∧ ((u.2.1 0 8).toInt = 0) ∧ (bz (u.2.2.2 4) 20)) (fun (u : tSt) => WM K ad u)) 0 0 := by
  refine t_met RX12 ⟨rfl, by decide +kernel⟩ (Nat.le_of_ble_eq_true rfl) ?_
  intro p e s m below meth c A ls C hE hZ hr hlocks hA hP hD hS hl
  have hl : lv_has ls 6 [(0, .ref (ad 0)), (1, .int x1), (2, .int x2)] := hl
  have hokt := hok
  have hfr : frA [(0, 5), (0, 6), (0, 7), (0, 9), (0, 10), (0, 11), (0, 12), (0, 30), (0, 31), (0, 38), (0, 41), (0, 42), (0, 43), (0, 44), (0, 45), (0, 46), (0, 47), (0, 48), (0, 51), (0, 52), (0, 60), (0, 67), (0, 68), (0, 69), (0, 70), (0, 71), (0, 72), (0, 73), (0, 91)] [(0, 8)] [2, 3, 5, 11, 12, 13, 14, 18, 19, 20, 21, 22, 24, 25, 26, 27, 28, 29, 30, 31, 32, 33, 34, 35, 44] [4, 23] t t := frA_rf
  have h_1 : (0 : Int) ≤ (t.1 0 38).toInt ∧ (t.1 0 38).toInt ≤ 1280 := hok.1 0 38
  have h_2 : (0 : Int) ≤ (t.1 0 77).toInt ∧ (t.1 0 77).toInt ≤ 1280 := hok.1 0 77
  have L_7 : ∀ (fuel_7 : Nat) (t1 : tSt) (w7_3 : Int32) (H : Heap) (locs : List Loc) (ls : Array Slot), okM t1 → frA [(0, 5), (0, 6), (0, 7), (0, 9), (0, 10), (0, 11), (0, 12), (0, 30), (0, 31), (0, 38), (0, 41), (0, 42), (0, 43), (0, 44), (0, 45), (0, 46), (0, 47), (0, 48), (0, 51), (0, 52), (0, 60), (0, 67), (0, 68), (0, 69), (0, 70), (0, 71), (0, 72), (0, 73), (0, 91)] [(0, 8)] [2, 3, 5, 11, 12, 13, 14, 18, 19, 20, 21, 22, 24, 25, 26, 27, 28, 29, 30, 31, 32, 33, 34, 35, 44] [4, 23] t t1 → (1 : Int) ≤ w7_3.toInt ∧ w7_3.toInt ≤ 1281 → (x1.toInt ≤ w7_3.toInt) → (w7_3.toInt ≤ x2.toInt) → ((t1.1 0 38).toInt ≤ (t.2.2.1 37 (w7_3 : Int32).toNatClampNeg).toInt) → (1281 : Int) - w7_3.toInt < (fuel_7 : Int) → va_P D vwCl (WM K ad t1) H → va_D A (WM K ad t1) → va_S A s.heap H locs → lv_has ls 6 [(0, .ref (ad 0)), (1, .int x1), (2, .int x2), (3, .int w7_3)] → W p l e (rmD 19 0 0) s m [.ref (ad 0), .int x1, .int x2].toArray below meth c H locs 0 0 (MQ below (QI D K (fun (r : Int32) (u : tSt) => okM u ∧ frA [(0, 5), (0, 6), (0, 7), (0, 9), (0, 10), (0, 11), (0, 12), (0, 30), (0, 31), (0, 38), (0, 41), (0, 42), (0, 43), (0, 44), (0, 45), (0, 46), (0, 47), (0, 48), (0, 51), (0, 52), (0, 60), (0, 67), (0, 68), (0, 69), (0, 70), (0, 71), (0, 72), (0, 73), (0, 91)] [(0, 8)] [2, 3, 5, 11, 12, 13, 14, 18, 19, 20, 21, 22, 24, 25, 26, 27, 28, 29, 30, 31, 32, 33, 34, 35, 44] [4, 23] t u ∧ (0 : Int) ≤ r.toInt ∧ r.toInt ≤ 1 ∧ ((u.2.1 0 8).toInt = 0) ∧ (bz (u.2.2.2 4) 20)) (fun (u : tSt) => WM K ad u) A) [.ref (ad 0), .int x1, .int x2].toArray s 0 0 A) (F0 m 7 ls []) := by
    intro fuel_7
    induction fuel_7 with
    | zero =>
      intro t1 w7_3 H locs ls hok hfr hw7_3 hi7_0 hi7_1 hi7_2 hm7_7 hP hD hS hl
      have h_3 : (t1.1 0 77).toInt = (t.1 0 77).toInt := ti_eq (hfr.1 0 77 rfl)
      have e_4 : t1.2.2.1 37 = t.2.2.1 37 := hfr.2.2.1 37 rfl
      have e_5 : t1.2.2.1 38 = t.2.2.1 38 := hfr.2.2.1 38 rfl
      have h_6 : (0 : Int) ≤ (t1.1 0 38).toInt ∧ (t1.1 0 38).toInt ≤ 1280 := hok.1 0 38
      have h_7 : (0 : Int) ≤ (t1.1 0 77).toInt ∧ (t1.1 0 77).toInt ≤ 1280 := hok.1 0 77
      exact absurd hm7_7 (by omega)
    | succ fuel_7 ih_7 =>
      intro t1 w7_3 H locs ls hok hfr hw7_3 hi7_0 hi7_1 hi7_2 hm7_7 hP hD hS hl
      have hm7_7 : (1281 : Int) - w7_3.toInt < (fuel_7 : Int) + 1 := by omega
      have h_8 : (t1.1 0 77).toInt = (t.1 0 77).toInt := ti_eq (hfr.1 0 77 rfl)
      have e_9 : t1.2.2.1 37 = t.2.2.1 37 := hfr.2.2.1 37 rfl
      have e_10 : t1.2.2.1 38 = t.2.2.1 38 := hfr.2.2.1 38 rfl
      have h_11 : (0 : Int) ≤ (t1.1 0 38).toInt ∧ (t1.1 0 38).toInt ≤ 1280 := hok.1 0 38
      have h_12 : (0 : Int) ≤ (t1.1 0 77).toInt ∧ (t1.1 0 77).toInt ≤ 1280 := hok.1 0 77
      have L_20 : ∀ (fuel_20 : Nat) (t1 : tSt) (w20_3 : Int32) (w20_4 : Int32) (H : Heap) (locs : List Loc) (ls : Array Slot), okM t1 → frA [(0, 5), (0, 6), (0, 7), (0, 9), (0, 10), (0, 11), (0, 12), (0, 30), (0, 31), (0, 38), (0, 41), (0, 42), (0, 43), (0, 44), (0, 45), (0, 46), (0, 47), (0, 48), (0, 51), (0, 52), (0, 60), (0, 67), (0, 68), (0, 69), (0, 70), (0, 71), (0, 72), (0, 73), (0, 91)] [(0, 8)] [2, 3, 5, 11, 12, 13, 14, 18, 19, 20, 21, 22, 24, 25, 26, 27, 28, 29, 30, 31, 32, 33, 34, 35, 44] [4, 23] t t1 → (2 : Int) ≤ x2.toInt ∧ x2.toInt ≤ 1280 → (1 : Int) ≤ w20_3.toInt ∧ w20_3.toInt ≤ 1279 → (0 : Int) ≤ w20_4.toInt ∧ w20_4.toInt ≤ 1280 → (x1.toInt ≤ w20_3.toInt) → (w20_3.toInt < x2.toInt) → ((t1.1 0 38).toInt ≤ w20_4.toInt) → (w20_4.toInt ≤ (t.2.2.1 38 (w20_3 : Int32).toNatClampNeg).toInt) → ((t.2.2.1 37 (w20_3 : Int32).toNatClampNeg).toInt ≤ w20_4.toInt) → (1281 : Int) - w20_3.toInt < (fuel_7 : Int) + 1 → (1280 : Int) - w20_4.toInt < (fuel_20 : Int) → va_P D vwCl (WM K ad t1) H → va_D A (WM K ad t1) → va_S A s.heap H locs → lv_has ls 6 [(0, .ref (ad 0)), (1, .int x1), (2, .int x2), (3, .int w20_3), (4, .int w20_4)] → W p l e (rmD 19 0 0) s m [.ref (ad 0), .int x1, .int x2].toArray below meth c H locs 0 0 (MQ below (QI D K (fun (r : Int32) (u : tSt) => okM u ∧ frA [(0, 5), (0, 6), (0, 7), (0, 9), (0, 10), (0, 11), (0, 12), (0, 30), (0, 31), (0, 38), (0, 41), (0, 42), (0, 43), (0, 44), (0, 45), (0, 46), (0, 47), (0, 48), (0, 51), (0, 52), (0, 60), (0, 67), (0, 68), (0, 69), (0, 70), (0, 71), (0, 72), (0, 73), (0, 91)] [(0, 8)] [2, 3, 5, 11, 12, 13, 14, 18, 19, 20, 21, 22, 24, 25, 26, 27, 28, 29, 30, 31, 32, 33, 34, 35, 44] [4, 23] t u ∧ (0 : Int) ≤ r.toInt ∧ r.toInt ≤ 1 ∧ ((u.2.1 0 8).toInt = 0) ∧ (bz (u.2.2.2 4) 20)) (fun (u : tSt) => WM K ad u) A) [.ref (ad 0), .int x1, .int x2].toArray s 0 0 A) (F0 m 20 ls []) := by
        intro fuel_20
        induction fuel_20 with
        | zero =>
          intro t1 w20_3 w20_4 H locs ls hok hfr hx20_2 hw20_3 hw20_4 hi20_0 hi20_1 hi20_2 hi20_3 hi20_4 hm20_7 hm20_20 hP hD hS hl
          have h_13 : (t1.1 0 77).toInt = (t.1 0 77).toInt := ti_eq (hfr.1 0 77 rfl)
          have e_14 : t1.2.2.1 37 = t.2.2.1 37 := hfr.2.2.1 37 rfl
          have e_15 : t1.2.2.1 38 = t.2.2.1 38 := hfr.2.2.1 38 rfl
          have h_16 : (0 : Int) ≤ (t1.1 0 38).toInt ∧ (t1.1 0 38).toInt ≤ 1280 := hok.1 0 38
          have h_17 : (0 : Int) ≤ (t1.1 0 77).toInt ∧ (t1.1 0 77).toInt ≤ 1280 := hok.1 0 77
          exact absurd hm20_20 (by omega)
        | succ fuel_20 ih_20 =>
          intro t1 w20_3 w20_4 H locs ls hok hfr hx20_2 hw20_3 hw20_4 hi20_0 hi20_1 hi20_2 hi20_3 hi20_4 hm20_7 hm20_20 hP hD hS hl
          have hm20_20 : (1280 : Int) - w20_4.toInt < (fuel_20 : Int) + 1 := by omega
          have h_18 : (t1.1 0 77).toInt = (t.1 0 77).toInt := ti_eq (hfr.1 0 77 rfl)
          have e_19 : t1.2.2.1 37 = t.2.2.1 37 := hfr.2.2.1 37 rfl
          have e_20 : t1.2.2.1 38 = t.2.2.1 38 := hfr.2.2.1 38 rfl
          have h_21 : (0 : Int) ≤ (t1.1 0 38).toInt ∧ (t1.1 0 38).toInt ≤ 1280 := hok.1 0 38
          have h_22 : (0 : Int) ≤ (t1.1 0 77).toInt ∧ (t1.1 0 77).toInt ≤ 1280 := hok.1 0 77
          refine lv_iload C.1 C.2.1 dX12_assembleLines_20 (lv_at hl 4 rfl) ?_
          refine lv_aload_n C.1 C.2.1 dX12_assembleLines_22 rfl (lv_at hl 0 rfl) ?_
          refine k_get (v := .ref (ad 38)) C hP 0 rfl rfl inlX12 76 (by decide) m_8_22 rfl dX12_assembleLines_23 ?_
          refine lv_iload_n C.1 C.2.1 dX12_assembleLines_26 rfl (lv_at hl 3 rfl) ?_
          have h_23 : (0 : Int) ≤ (t.2.2.1 38 (w20_3 : Int32).toNatClampNeg).toInt ∧ (t.2.2.1 38 (w20_3 : Int32).toNatClampNeg).toInt ≤ 1280 := by rw [← e_20]; exact hok.2.1 38 _
          refine k_ild (v := (t.2.2.1 38 (w20_3 : Int32).toNatClampNeg)) C hP 38 rfl (vp_in_iff.mpr ⟨by omega, by omega⟩) (congrFun e_20 _) dX12_assembleLines_27 ?_
          refine lv_icmp_ge (tgt := 63) C.1 C.2.1 dX12_assembleLines_28 (by decide) (fun c_24 => ?_) (fun c_24 => ?_)
          · replace c_24 : (t.2.2.1 38 (w20_3 : Int32).toNatClampNeg).toInt ≤ w20_4.toInt := i_le c_24
            have hd3 := lnS_b hs2 (B := 1280) (fun i => (hokt.2.1 37 i).2) w20_3 (by omega) (by omega)
            refine lv_aload_n C.1 C.2.1 dX12_assembleLines_63 rfl (lv_at hl 0 rfl) ?_
            refine k_get (v := .ref (ad 18)) C hP 0 rfl rfl inlX12 37 (by decide) m_8_2 rfl dX12_assembleLines_64 ?_
            refine lv_aload_n C.1 C.2.1 dX12_assembleLines_67 rfl (lv_at hl 0 rfl) ?_
            refine k_get (v := .int (t1.1 0 38)) C hP 0 rfl rfl inlX12 38 (by decide) m_29_6 rfl dX12_assembleLines_68 ?_
            refine lv_bipush (v := 10) C.1 C.2.1 dX12_assembleLines_71 (by decide) ?_
            obtain ⟨v_25, e_26⟩ : ∃ z, z = vp_nar .byte 10 := ⟨_, rfl⟩
            have h_27 : (-128 : Int) ≤ v_25.toInt ∧ v_25.toInt ≤ 127 := by rw [e_26]; exact nar_byte _
            refine k_bst (ws' := WM K ad (uB t1 18 ((t1.1 0 38) : Int32).toNatClampNeg v_25)) (x' := v_25) C hP hD hS 18 rfl (vp_in_iff.mpr ⟨by omega, by omega⟩) rfl e_26.symm rfl dX12_assembleLines_73 (fun H locs hP hD hS => ?_)
            have hok : okM (uB t1 18 ((t1.1 0 38) : Int32).toNatClampNeg v_25) := ⟨hok.1, okB_B hok.2.1 18 _ v_25 (show (-3999 : Int) ≤ (v_25 : Int32).toInt ∧ (v_25 : Int32).toInt ≤ 127 from ⟨by omega, by omega⟩), hok.2.2.1, hok.2.2.2.1, hok.2.2.2.2.1, hok.2.2.2.2.2.1, hok.2.2.2.2.2.2.1, trivial⟩
            have hfr : frA [(0, 5), (0, 6), (0, 7), (0, 9), (0, 10), (0, 11), (0, 12), (0, 30), (0, 31), (0, 38), (0, 41), (0, 42), (0, 43), (0, 44), (0, 45), (0, 46), (0, 47), (0, 48), (0, 51), (0, 52), (0, 60), (0, 67), (0, 68), (0, 69), (0, 70), (0, 71), (0, 72), (0, 73), (0, 91)] [(0, 8)] [2, 3, 5, 11, 12, 13, 14, 18, 19, 20, 21, 22, 24, 25, 26, 27, 28, 29, 30, 31, 32, 33, 34, 35, 44] [4, 23] t (uB t1 18 ((t1.1 0 38) : Int32).toNatClampNeg v_25) := frA_B hfr 18 _ _ rfl
            refine lv_aload_n C.1 C.2.1 dX12_assembleLines_74 rfl (lv_at hl 0 rfl) ?_
            refine lv_dup C.1 C.2.1 dX12_assembleLines_75 rfl ?_
            refine k_get (v := .int (t1.1 0 38)) C hP 0 rfl rfl inlX12 38 (by decide) m_29_6 rfl dX12_assembleLines_76 ?_
            refine lv_iconst (v := 1) C.1 C.2.1 dX12_assembleLines_79 (by decide) ?_
            obtain ⟨v_28, e_29⟩ : ∃ z, z = ((t1.1 0 38) : Int32) + (1 : Int32) := ⟨_, rfl⟩
            have h_30 : v_28.toInt = (t1.1 0 38).toInt + 1 := by rw [e_29]; exact ti_iadd (by show (_ : Int) ≤ (t1.1 0 38).toInt + 1; omega) (by show (t1.1 0 38).toInt + 1 < (_ : Int); omega)
            refine k_iadd (v := v_28) C e_29.symm dX12_assembleLines_80 ?_
            refine k_put (ws' := WM K ad (uI (uB t1 18 ((t1.1 0 38) : Int32).toNatClampNeg v_25) 0 38 v_28)) (v := .int v_28) C hP hD hS 0 rfl rfl inlX12 tyX12_ok nmX12 38 (by decide) m_29_6 rfl rfl rfl rfl rfl dX12_assembleLines_81 (fun H locs hP hD hS => ?_)
            have hok : okM (uI (uB t1 18 ((t1.1 0 38) : Int32).toNatClampNeg v_25) 0 38 v_28) := ⟨okI_I hok.1 0 38 v_28 (show (0 : Int) ≤ (v_28 : Int32).toInt ∧ (v_28 : Int32).toInt ≤ 1280 from ⟨by omega, by omega⟩), hok.2.1, hok.2.2.1, hok.2.2.2.1, hok.2.2.2.2.1, hok.2.2.2.2.2.1, hok.2.2.2.2.2.2.1, trivial⟩
            have hfr : frA [(0, 5), (0, 6), (0, 7), (0, 9), (0, 10), (0, 11), (0, 12), (0, 30), (0, 31), (0, 38), (0, 41), (0, 42), (0, 43), (0, 44), (0, 45), (0, 46), (0, 47), (0, 48), (0, 51), (0, 52), (0, 60), (0, 67), (0, 68), (0, 69), (0, 70), (0, 71), (0, 72), (0, 73), (0, 91)] [(0, 8)] [2, 3, 5, 11, 12, 13, 14, 18, 19, 20, 21, 22, 24, 25, 26, 27, 28, 29, 30, 31, 32, 33, 34, 35, 44] [4, 23] t (uI (uB t1 18 ((t1.1 0 38) : Int32).toNatClampNeg v_25) 0 38 v_28) := frA_I hfr 0 38 _ rfl
            obtain ⟨v_31, e_32⟩ : ∃ z, z = w20_3 + 1 := ⟨_, rfl⟩
            have h_33 : v_31.toInt = w20_3.toInt + 1 := by rw [e_32]; exact ti_iadd (by show (_ : Int) ≤ w20_3.toInt + 1; omega) (by show w20_3.toInt + 1 < (_ : Int); omega)
            refine lv_iinc (v := v_31) (lv' := [(3, .int v_31), (0, .ref (ad 0)), (1, .int x1), (2, .int x2), (4, .int w20_4)]) C.1 C.2.1 dX12_assembleLines_84 hl (k := 3) rfl e_32.symm (by decide) rfl (fun ls hl => ?_)
            have hl : lv_has ls 6 [(0, .ref (ad 0)), (1, .int x1), (2, .int x2), (3, .int v_31), (4, .int w20_4)] := lv_sub hl [1, 2, 3, 0, 4] rfl
            have hd2 := lnS_nx hs2 w20_3 v_31 (by omega) (by omega) (by omega)
            refine lv_goto (tgt := 7) C.1 C.2.1 dX12_assembleLines_87 (by decide) ?_
            have hz0 : 0 ≤ (t.2.2.1 37 (v_31 : Int32).toNatClampNeg).toInt := by have q := (hok.2.1 37 (v_31 : Int32).toNatClampNeg).1; first | exact q | (rw [hfr.2.2.1 37 rfl] at q; exact q)
            exact ih_7 (uI (uB t1 18 ((t1.1 0 38) : Int32).toNatClampNeg v_25) 0 38 v_28) v_31 _ _ _ hok hfr ⟨by omega, by omega⟩ (show x1.toInt ≤ v_31.toInt from by omega) (show v_31.toInt ≤ x2.toInt from by omega) (show v_28.toInt ≤ (t.2.2.1 37 (v_31 : Int32).toNatClampNeg).toInt from by omega) (show (1281 : Int) - v_31.toInt < (fuel_7 : Int) from by omega) hP hD hS (lv_sub hl [0, 1, 2, 3] rfl)
          · replace c_24 : w20_4.toInt < (t.2.2.1 38 (w20_3 : Int32).toNatClampNeg).toInt := i_nle c_24
            refine lv_aload_n C.1 C.2.1 dX12_assembleLines_31 rfl (lv_at hl 0 rfl) ?_
            refine k_get (v := .ref (ad 18)) C hP 0 rfl rfl inlX12 37 (by decide) m_8_2 rfl dX12_assembleLines_32 ?_
            refine lv_aload_n C.1 C.2.1 dX12_assembleLines_35 rfl (lv_at hl 0 rfl) ?_
            refine k_get (v := .int (t1.1 0 38)) C hP 0 rfl rfl inlX12 38 (by decide) m_29_6 rfl dX12_assembleLines_36 ?_
            refine lv_aload_n C.1 C.2.1 dX12_assembleLines_39 rfl (lv_at hl 0 rfl) ?_
            refine k_get (v := .ref (ad 36)) C hP 0 rfl rfl inlX12 74 (by decide) m_8_20 rfl dX12_assembleLines_40 ?_
            refine lv_iload C.1 C.2.1 dX12_assembleLines_43 (lv_at hl 4 rfl) ?_
            obtain ⟨v_34, e_35⟩ : ∃ z, z = (t1.2.2.1 36 (w20_4 : Int32).toNatClampNeg) := ⟨_, rfl⟩
            have h_36 : (-3999 : Int) ≤ v_34.toInt ∧ v_34.toInt ≤ 127 := by rw [e_35]; exact hok.2.1 36 _
            refine k_bld (v := v_34) C hP 36 rfl (vp_in_iff.mpr ⟨by omega, by omega⟩) e_35.symm dX12_assembleLines_45 ?_
            obtain ⟨v_37, e_38⟩ : ∃ z, z = vp_nar .byte v_34 := ⟨_, rfl⟩
            have h_39 : (-128 : Int) ≤ v_37.toInt ∧ v_37.toInt ≤ 127 := by rw [e_38]; exact nar_byte _
            refine k_bst (ws' := WM K ad (uB t1 18 ((t1.1 0 38) : Int32).toNatClampNeg v_37)) (x' := v_37) C hP hD hS 18 rfl (vp_in_iff.mpr ⟨by omega, by omega⟩) rfl e_38.symm rfl dX12_assembleLines_46 (fun H locs hP hD hS => ?_)
            have hok : okM (uB t1 18 ((t1.1 0 38) : Int32).toNatClampNeg v_37) := ⟨hok.1, okB_B hok.2.1 18 _ v_37 (show (-3999 : Int) ≤ (v_37 : Int32).toInt ∧ (v_37 : Int32).toInt ≤ 127 from ⟨by omega, by omega⟩), hok.2.2.1, hok.2.2.2.1, hok.2.2.2.2.1, hok.2.2.2.2.2.1, hok.2.2.2.2.2.2.1, trivial⟩
            have hfr : frA [(0, 5), (0, 6), (0, 7), (0, 9), (0, 10), (0, 11), (0, 12), (0, 30), (0, 31), (0, 38), (0, 41), (0, 42), (0, 43), (0, 44), (0, 45), (0, 46), (0, 47), (0, 48), (0, 51), (0, 52), (0, 60), (0, 67), (0, 68), (0, 69), (0, 70), (0, 71), (0, 72), (0, 73), (0, 91)] [(0, 8)] [2, 3, 5, 11, 12, 13, 14, 18, 19, 20, 21, 22, 24, 25, 26, 27, 28, 29, 30, 31, 32, 33, 34, 35, 44] [4, 23] t (uB t1 18 ((t1.1 0 38) : Int32).toNatClampNeg v_37) := frA_B hfr 18 _ _ rfl
            refine lv_aload_n C.1 C.2.1 dX12_assembleLines_47 rfl (lv_at hl 0 rfl) ?_
            refine lv_dup C.1 C.2.1 dX12_assembleLines_48 rfl ?_
            refine k_get (v := .int (t1.1 0 38)) C hP 0 rfl rfl inlX12 38 (by decide) m_29_6 rfl dX12_assembleLines_49 ?_
            refine lv_iconst (v := 1) C.1 C.2.1 dX12_assembleLines_52 (by decide) ?_
            obtain ⟨v_40, e_41⟩ : ∃ z, z = ((t1.1 0 38) : Int32) + (1 : Int32) := ⟨_, rfl⟩
            have h_42 : v_40.toInt = (t1.1 0 38).toInt + 1 := by rw [e_41]; exact ti_iadd (by show (_ : Int) ≤ (t1.1 0 38).toInt + 1; omega) (by show (t1.1 0 38).toInt + 1 < (_ : Int); omega)
            refine k_iadd (v := v_40) C e_41.symm dX12_assembleLines_53 ?_
            refine k_put (ws' := WM K ad (uI (uB t1 18 ((t1.1 0 38) : Int32).toNatClampNeg v_37) 0 38 v_40)) (v := .int v_40) C hP hD hS 0 rfl rfl inlX12 tyX12_ok nmX12 38 (by decide) m_29_6 rfl rfl rfl rfl rfl dX12_assembleLines_54 (fun H locs hP hD hS => ?_)
            have hok : okM (uI (uB t1 18 ((t1.1 0 38) : Int32).toNatClampNeg v_37) 0 38 v_40) := ⟨okI_I hok.1 0 38 v_40 (show (0 : Int) ≤ (v_40 : Int32).toInt ∧ (v_40 : Int32).toInt ≤ 1280 from ⟨by omega, by omega⟩), hok.2.1, hok.2.2.1, hok.2.2.2.1, hok.2.2.2.2.1, hok.2.2.2.2.2.1, hok.2.2.2.2.2.2.1, trivial⟩
            have hfr : frA [(0, 5), (0, 6), (0, 7), (0, 9), (0, 10), (0, 11), (0, 12), (0, 30), (0, 31), (0, 38), (0, 41), (0, 42), (0, 43), (0, 44), (0, 45), (0, 46), (0, 47), (0, 48), (0, 51), (0, 52), (0, 60), (0, 67), (0, 68), (0, 69), (0, 70), (0, 71), (0, 72), (0, 73), (0, 91)] [(0, 8)] [2, 3, 5, 11, 12, 13, 14, 18, 19, 20, 21, 22, 24, 25, 26, 27, 28, 29, 30, 31, 32, 33, 34, 35, 44] [4, 23] t (uI (uB t1 18 ((t1.1 0 38) : Int32).toNatClampNeg v_37) 0 38 v_40) := frA_I hfr 0 38 _ rfl
            obtain ⟨v_43, e_44⟩ : ∃ z, z = w20_4 + 1 := ⟨_, rfl⟩
            have h_45 : v_43.toInt = w20_4.toInt + 1 := by rw [e_44]; exact ti_iadd (by show (_ : Int) ≤ w20_4.toInt + 1; omega) (by show w20_4.toInt + 1 < (_ : Int); omega)
            refine lv_iinc (v := v_43) (lv' := [(4, .int v_43), (0, .ref (ad 0)), (1, .int x1), (2, .int x2), (3, .int w20_3)]) C.1 C.2.1 dX12_assembleLines_57 hl (k := 4) rfl e_44.symm (by decide) rfl (fun ls hl => ?_)
            have hl : lv_has ls 6 [(0, .ref (ad 0)), (1, .int x1), (2, .int x2), (3, .int w20_3), (4, .int v_43)] := lv_sub hl [1, 2, 3, 4, 0] rfl
            refine lv_goto (tgt := 20) C.1 C.2.1 dX12_assembleLines_60 (by decide) ?_
            exact ih_20 (uI (uB t1 18 ((t1.1 0 38) : Int32).toNatClampNeg v_37) 0 38 v_40) w20_3 v_43 _ _ _ hok hfr ⟨by omega, by omega⟩ ⟨by omega, by omega⟩ ⟨by omega, by omega⟩ (show x1.toInt ≤ w20_3.toInt from by omega) (show w20_3.toInt < x2.toInt from by omega) (show v_40.toInt ≤ v_43.toInt from by omega) (show v_43.toInt ≤ (t.2.2.1 38 (w20_3 : Int32).toNatClampNeg).toInt from by omega) (show (t.2.2.1 37 (w20_3 : Int32).toNatClampNeg).toInt ≤ v_43.toInt from by omega) (show (1281 : Int) - w20_3.toInt < (fuel_7 : Int) + 1 from by omega) (show (1280 : Int) - v_43.toInt < (fuel_20 : Int) from by omega) hP hD hS (lv_sub hl [0, 1, 2, 3, 4] rfl)
      refine lv_iload_n C.1 C.2.1 dX12_assembleLines_7 rfl (lv_at hl 3 rfl) ?_
      refine lv_iload_n C.1 C.2.1 dX12_assembleLines_8 rfl (lv_at hl 2 rfl) ?_
      refine lv_icmp_ge (tgt := 90) C.1 C.2.1 dX12_assembleLines_9 (by decide) (fun c_46 => ?_) (fun c_46 => ?_)
      · replace c_46 : x2.toInt ≤ w7_3.toInt := i_le c_46
        refine lv_aload_n C.1 C.2.1 dX12_assembleLines_90 rfl (lv_at hl 0 rfl) ?_
        refine lv_iconst (v := 1) C.1 C.2.1 dX12_assembleLines_91 (by decide) ?_
        refine k_put (ws' := WM K ad (uI t1 0 46 1)) (v := .int 1) C hP hD hS 0 rfl rfl inlX12 tyX12_ok nmX12 46 (by decide) m_28_22 rfl (by decide) (by decide) rfl rfl dX12_assembleLines_92 (fun H locs hP hD hS => ?_)
        have hok : okM (uI t1 0 46 1) := ⟨okI_I hok.1 0 46 1 (show (0 : Int) ≤ (1 : Int32).toInt ∧ (1 : Int32).toInt ≤ 1 from ⟨by decide, by decide⟩), hok.2.1, hok.2.2.1, hok.2.2.2.1, hok.2.2.2.2.1, hok.2.2.2.2.2.1, hok.2.2.2.2.2.2.1, trivial⟩
        have hfr : frA [(0, 5), (0, 6), (0, 7), (0, 9), (0, 10), (0, 11), (0, 12), (0, 30), (0, 31), (0, 38), (0, 41), (0, 42), (0, 43), (0, 44), (0, 45), (0, 46), (0, 47), (0, 48), (0, 51), (0, 52), (0, 60), (0, 67), (0, 68), (0, 69), (0, 70), (0, 71), (0, 72), (0, 73), (0, 91)] [(0, 8)] [2, 3, 5, 11, 12, 13, 14, 18, 19, 20, 21, 22, 24, 25, 26, 27, 28, 29, 30, 31, 32, 33, 34, 35, 44] [4, 23] t (uI t1 0 46 1) := frA_I hfr 0 46 _ rfl
        refine lv_aload_n C.1 C.2.1 dX12_assembleLines_95 rfl (lv_at hl 0 rfl) ?_
        refine g_Vi (As := []) (rest := []) C hP hD hS hA (T_X12_assembleText l D K Z Y ad (uI t1 0 46 1) hok ) hE hZ (uwV m_29_7 m_29_8 m_29_9 m_1_5 m_29_10) (hdV 0 (by decide +kernel) rfl) ⟨Nat.le_of_ble_eq_true rfl, Nat.le_of_ble_eq_true rfl⟩ rfl rfl (ci := 11) (q0 := 0) rfl rfl rfl hl.1 (Nat.le_of_ble_eq_true rfl) dX12_assembleLines_96 ⟨Nat.le_of_ble_eq_true rfl, Nat.le_of_ble_eq_true rfl⟩ (fun r_48 t_47 H locs hw hP hD hS => ?_)
        obtain ⟨hok, f_49, h_50, h_51, p_52, p_53⟩ := hw
        have hfr : frA [(0, 5), (0, 6), (0, 7), (0, 9), (0, 10), (0, 11), (0, 12), (0, 30), (0, 31), (0, 38), (0, 41), (0, 42), (0, 43), (0, 44), (0, 45), (0, 46), (0, 47), (0, 48), (0, 51), (0, 52), (0, 60), (0, 67), (0, 68), (0, 69), (0, 70), (0, 71), (0, 72), (0, 73), (0, 91)] [(0, 8)] [2, 3, 5, 11, 12, 13, 14, 18, 19, 20, 21, 22, 24, 25, 26, 27, 28, 29, 30, 31, 32, 33, 34, 35, 44] [4, 23] t t_47 := frA_tr hfr f_49 rfl
        have h_54 : (t_47.1 0 46).toInt = 1 := by rw [show (t_47.1 0 46) = (1 : Int32) from f_49.1 0 46 rfl]; rfl
        have h_55 : (t_47.1 0 38).toInt = (t1.1 0 38).toInt := ti_eq (f_49.1 0 38 rfl)
        have h_56 : (t_47.1 0 77).toInt = (t1.1 0 77).toInt := ti_eq (f_49.1 0 77 rfl)
        have e_57 : t_47.2.2.1 37 = t.2.2.1 37 := (f_49.2.2.1 37 rfl).trans (e_9)
        have e_58 : t_47.2.2.1 38 = t.2.2.1 38 := (f_49.2.2.1 38 rfl).trans (e_10)
        have h_59 : (0 : Int) ≤ (t_47.1 0 38).toInt ∧ (t_47.1 0 38).toInt ≤ 1280 := hok.1 0 38
        have h_60 : (0 : Int) ≤ (t_47.1 0 77).toInt ∧ (t_47.1 0 77).toInt ≤ 1280 := hok.1 0 77
        replace p_52 : (t_47.2.1 0 8).toInt = 0 := p_52
        replace p_53 : bz (t_47.2.2.2 4) 20 := p_53
        have hbz := p_53
        refine lv_if_eq (tgt := 104) C.1 C.2.1 dX12_assembleLines_99 (by decide) (fun c_61 => ?_) (fun c_61 => ?_)
        · replace c_61 : r_48.toInt = 0 := i_eq c_61
          refine lv_aload_n C.1 C.2.1 dX12_assembleLines_104 rfl (lv_at hl 0 rfl) ?_
          refine lv_iconst (v := 1) C.1 C.2.1 dX12_assembleLines_105 (by decide) ?_
          refine g_Vi (As := [.int 1]) (rest := []) C hP hD hS hA (T_X12_hasOption l D K Z Y ad t_47 hok 1 (show (0 : Int) ≤ (1 : Int32).toInt ∧ (1 : Int32).toInt ≤ 4 from ⟨by decide, by decide⟩)) hE hZ (uwV m_80_19 m_80_20 m_80_21 m_1_5 m_80_22) (hdV 1 (by decide +kernel) rfl) ⟨Nat.le_of_ble_eq_true rfl, Nat.le_of_ble_eq_true rfl⟩ rfl rfl (ci := 11) (q0 := 0) rfl rfl rfl hl.1 (Nat.le_of_ble_eq_true rfl) dX12_assembleLines_106 ⟨Nat.le_of_ble_eq_true rfl, Nat.le_of_ble_eq_true rfl⟩ (fun r_63 t_62 H locs hw hP hD hS => ?_)
          obtain ⟨h_65, h_66⟩ := hw
          refine lv_if_ne (tgt := 114) C.1 C.2.1 dX12_assembleLines_109 (by decide) (fun c_67 => ?_) (fun c_67 => ?_)
          · replace c_67 : ¬ r_63.toInt = 0 := i_ne c_67
            refine lv_aload_n C.1 C.2.1 dX12_assembleLines_114 rfl (lv_at hl 0 rfl) ?_
            have h_68 : (0 : Int) ≤ (t_47.1 0 43).toInt ∧ (t_47.1 0 43).toInt ≤ 8 := hok.1 0 43
            refine k_get (v := .int (t_47.1 0 43)) C hP 0 rfl rfl inlX12 43 (by decide) m_29_14 rfl dX12_assembleLines_115 ?_
            refine lv_istore_n (lv' := [(3, .int (t_47.1 0 43)), (0, .ref (ad 0)), (1, .int x1), (2, .int x2)]) C.1 C.2.1 dX12_assembleLines_118 rfl hl (by decide) rfl (fun ls hl => ?_)
            have hl : lv_has ls 6 [(0, .ref (ad 0)), (1, .int x1), (2, .int x2), (3, .int (t_47.1 0 43))] := lv_sub hl [1, 2, 3, 0] rfl
            refine lv_aload_n C.1 C.2.1 dX12_assembleLines_119 rfl (lv_at hl 0 rfl) ?_
            have h_69 : (0 : Int) ≤ (t_47.1 0 44).toInt ∧ (t_47.1 0 44).toInt ≤ 4000 := hok.1 0 44
            refine k_get (v := .int (t_47.1 0 44)) C hP 0 rfl rfl inlX12 44 (by decide) m_28_23 rfl dX12_assembleLines_120 ?_
            refine lv_istore (lv' := [(4, .int (t_47.1 0 44)), (0, .ref (ad 0)), (1, .int x1), (2, .int x2), (3, .int (t_47.1 0 43))]) C.1 C.2.1 dX12_assembleLines_123 hl (by decide) rfl (fun ls hl => ?_)
            have hl : lv_has ls 6 [(0, .ref (ad 0)), (1, .int x1), (2, .int x2), (3, .int (t_47.1 0 43)), (4, .int (t_47.1 0 44))] := lv_sub hl [1, 2, 3, 4, 0] rfl
            refine lv_aload_n C.1 C.2.1 dX12_assembleLines_125 rfl (lv_at hl 0 rfl) ?_
            refine lv_iconst (v := 1) C.1 C.2.1 dX12_assembleLines_126 (by decide) ?_
            refine k_put (ws' := WM K ad (uI t_47 0 31 1)) (v := .int 1) C hP hD hS 0 rfl rfl inlX12 tyX12_ok nmX12 31 (by decide) m_43_1 rfl (by decide) (by decide) rfl rfl dX12_assembleLines_127 (fun H locs hP hD hS => ?_)
            have hok : okM (uI t_47 0 31 1) := ⟨okI_I hok.1 0 31 1 (show (0 : Int) ≤ (1 : Int32).toInt ∧ (1 : Int32).toInt ≤ 1 from ⟨by decide, by decide⟩), hok.2.1, hok.2.2.1, hok.2.2.2.1, hok.2.2.2.2.1, hok.2.2.2.2.2.1, hok.2.2.2.2.2.2.1, trivial⟩
            have hfr : frA [(0, 5), (0, 6), (0, 7), (0, 9), (0, 10), (0, 11), (0, 12), (0, 30), (0, 31), (0, 38), (0, 41), (0, 42), (0, 43), (0, 44), (0, 45), (0, 46), (0, 47), (0, 48), (0, 51), (0, 52), (0, 60), (0, 67), (0, 68), (0, 69), (0, 70), (0, 71), (0, 72), (0, 73), (0, 91)] [(0, 8)] [2, 3, 5, 11, 12, 13, 14, 18, 19, 20, 21, 22, 24, 25, 26, 27, 28, 29, 30, 31, 32, 33, 34, 35, 44] [4, 23] t (uI t_47 0 31 1) := frA_I hfr 0 31 _ rfl
            refine lv_aload_n C.1 C.2.1 dX12_assembleLines_130 rfl (lv_at hl 0 rfl) ?_
            refine g_Vi (As := []) (rest := []) C hP hD hS hA (T_X12_goOver l D K Z Y ad (uI t_47 0 31 1) hok ) hE hZ (uwV m_41_20 m_41_21 m_41_22 m_1_5 m_41_23) (hdV 0 (by decide +kernel) rfl) ⟨Nat.le_of_ble_eq_true rfl, Nat.le_of_ble_eq_true rfl⟩ rfl rfl (ci := 11) (q0 := 0) rfl rfl rfl hl.1 (Nat.le_of_ble_eq_true rfl) dX12_assembleLines_131 ⟨Nat.le_of_ble_eq_true rfl, Nat.le_of_ble_eq_true rfl⟩ (fun r_71 t_70 H locs hw hP hD hS => ?_)
            obtain ⟨hok, f_72, h_73, h_74, p_75, p_76⟩ := hw
            have hfr : frA [(0, 5), (0, 6), (0, 7), (0, 9), (0, 10), (0, 11), (0, 12), (0, 30), (0, 31), (0, 38), (0, 41), (0, 42), (0, 43), (0, 44), (0, 45), (0, 46), (0, 47), (0, 48), (0, 51), (0, 52), (0, 60), (0, 67), (0, 68), (0, 69), (0, 70), (0, 71), (0, 72), (0, 73), (0, 91)] [(0, 8)] [2, 3, 5, 11, 12, 13, 14, 18, 19, 20, 21, 22, 24, 25, 26, 27, 28, 29, 30, 31, 32, 33, 34, 35, 44] [4, 23] t t_70 := frA_tr hfr f_72 rfl
            have h_77 : (t_70.1 0 46).toInt = (t_47.1 0 46).toInt := ti_eq (f_72.1 0 46 rfl)
            have h_78 : (t_70.1 0 44).toInt = (t_47.1 0 44).toInt := ti_eq (f_72.1 0 44 rfl)
            have h_79 : (t_70.1 0 31).toInt = 1 := by rw [show (t_70.1 0 31) = (1 : Int32) from f_72.1 0 31 rfl]; rfl
            have h_80 : (t_70.1 0 38).toInt = (t_47.1 0 38).toInt := ti_eq (f_72.1 0 38 rfl)
            have h_81 : (t_70.1 0 77).toInt = (t_47.1 0 77).toInt := ti_eq (f_72.1 0 77 rfl)
            have e_82 : t_70.2.2.1 37 = t.2.2.1 37 := (f_72.2.2.1 37 rfl).trans (e_57)
            have e_83 : t_70.2.2.1 38 = t.2.2.1 38 := (f_72.2.2.1 38 rfl).trans (e_58)
            have h_84 : (0 : Int) ≤ (t_70.1 0 38).toInt ∧ (t_70.1 0 38).toInt ≤ 1280 := hok.1 0 38
            have h_85 : (0 : Int) ≤ (t_70.1 0 77).toInt ∧ (t_70.1 0 77).toInt ≤ 1280 := hok.1 0 77
            replace p_75 : (t_70.2.1 0 8).toInt = 0 := p_75
            replace p_76 : bz (t_70.2.2.2 4) 20 := p_76
            have hbz2 := p_76
            refine lv_istore (lv' := [(5, .int r_71), (0, .ref (ad 0)), (1, .int x1), (2, .int x2), (3, .int (t_47.1 0 43)), (4, .int (t_47.1 0 44))]) C.1 C.2.1 dX12_assembleLines_134 hl (by decide) rfl (fun ls hl => ?_)
            have hl : lv_has ls 6 [(0, .ref (ad 0)), (1, .int x1), (2, .int x2), (3, .int (t_47.1 0 43)), (4, .int (t_47.1 0 44)), (5, .int r_71)] := lv_sub hl [1, 2, 3, 4, 5, 0] rfl
            refine lv_aload_n C.1 C.2.1 dX12_assembleLines_136 rfl (lv_at hl 0 rfl) ?_
            refine lv_iconst (v := 0) C.1 C.2.1 dX12_assembleLines_137 (by decide) ?_
            refine k_put (ws' := WM K ad (uI t_70 0 31 0)) (v := .int 0) C hP hD hS 0 rfl rfl inlX12 tyX12_ok nmX12 31 (by decide) m_43_1 rfl (by decide) (by decide) rfl rfl dX12_assembleLines_138 (fun H locs hP hD hS => ?_)
            have hok : okM (uI t_70 0 31 0) := ⟨okI_I hok.1 0 31 0 (show (0 : Int) ≤ (0 : Int32).toInt ∧ (0 : Int32).toInt ≤ 1 from ⟨by decide, by decide⟩), hok.2.1, hok.2.2.1, hok.2.2.2.1, hok.2.2.2.2.1, hok.2.2.2.2.2.1, hok.2.2.2.2.2.2.1, trivial⟩
            have hfr : frA [(0, 5), (0, 6), (0, 7), (0, 9), (0, 10), (0, 11), (0, 12), (0, 30), (0, 31), (0, 38), (0, 41), (0, 42), (0, 43), (0, 44), (0, 45), (0, 46), (0, 47), (0, 48), (0, 51), (0, 52), (0, 60), (0, 67), (0, 68), (0, 69), (0, 70), (0, 71), (0, 72), (0, 73), (0, 91)] [(0, 8)] [2, 3, 5, 11, 12, 13, 14, 18, 19, 20, 21, 22, 24, 25, 26, 27, 28, 29, 30, 31, 32, 33, 34, 35, 44] [4, 23] t (uI t_70 0 31 0) := frA_I hfr 0 31 _ rfl
            refine lv_aload_n C.1 C.2.1 dX12_assembleLines_141 rfl (lv_at hl 0 rfl) ?_
            refine lv_iload_n C.1 C.2.1 dX12_assembleLines_142 rfl (lv_at hl 3 rfl) ?_
            refine k_put (ws' := WM K ad (uI (uI t_70 0 31 0) 0 43 (t_47.1 0 43))) (v := .int (t_47.1 0 43)) C hP hD hS 0 rfl rfl inlX12 tyX12_ok nmX12 43 (by decide) m_29_14 rfl rfl rfl rfl rfl dX12_assembleLines_143 (fun H locs hP hD hS => ?_)
            have hok : okM (uI (uI t_70 0 31 0) 0 43 (t_47.1 0 43)) := ⟨okI_I hok.1 0 43 (t_47.1 0 43) (show (0 : Int) ≤ ((t_47.1 0 43) : Int32).toInt ∧ ((t_47.1 0 43) : Int32).toInt ≤ 8 from ⟨by omega, by omega⟩), hok.2.1, hok.2.2.1, hok.2.2.2.1, hok.2.2.2.2.1, hok.2.2.2.2.2.1, hok.2.2.2.2.2.2.1, trivial⟩
            have hfr : frA [(0, 5), (0, 6), (0, 7), (0, 9), (0, 10), (0, 11), (0, 12), (0, 30), (0, 31), (0, 38), (0, 41), (0, 42), (0, 43), (0, 44), (0, 45), (0, 46), (0, 47), (0, 48), (0, 51), (0, 52), (0, 60), (0, 67), (0, 68), (0, 69), (0, 70), (0, 71), (0, 72), (0, 73), (0, 91)] [(0, 8)] [2, 3, 5, 11, 12, 13, 14, 18, 19, 20, 21, 22, 24, 25, 26, 27, 28, 29, 30, 31, 32, 33, 34, 35, 44] [4, 23] t (uI (uI t_70 0 31 0) 0 43 (t_47.1 0 43)) := frA_I hfr 0 43 _ rfl
            refine lv_aload_n C.1 C.2.1 dX12_assembleLines_146 rfl (lv_at hl 0 rfl) ?_
            refine lv_iload C.1 C.2.1 dX12_assembleLines_147 (lv_at hl 4 rfl) ?_
            refine k_put (ws' := WM K ad (uI (uI (uI t_70 0 31 0) 0 43 (t_47.1 0 43)) 0 44 (t_47.1 0 44))) (v := .int (t_47.1 0 44)) C hP hD hS 0 rfl rfl inlX12 tyX12_ok nmX12 44 (by decide) m_28_23 rfl rfl rfl rfl rfl dX12_assembleLines_149 (fun H locs hP hD hS => ?_)
            have hok : okM (uI (uI (uI t_70 0 31 0) 0 43 (t_47.1 0 43)) 0 44 (t_47.1 0 44)) := ⟨okI_I hok.1 0 44 (t_47.1 0 44) (show (0 : Int) ≤ ((t_47.1 0 44) : Int32).toInt ∧ ((t_47.1 0 44) : Int32).toInt ≤ 4000 from ⟨by omega, by omega⟩), hok.2.1, hok.2.2.1, hok.2.2.2.1, hok.2.2.2.2.1, hok.2.2.2.2.2.1, hok.2.2.2.2.2.2.1, trivial⟩
            have hfr : frA [(0, 5), (0, 6), (0, 7), (0, 9), (0, 10), (0, 11), (0, 12), (0, 30), (0, 31), (0, 38), (0, 41), (0, 42), (0, 43), (0, 44), (0, 45), (0, 46), (0, 47), (0, 48), (0, 51), (0, 52), (0, 60), (0, 67), (0, 68), (0, 69), (0, 70), (0, 71), (0, 72), (0, 73), (0, 91)] [(0, 8)] [2, 3, 5, 11, 12, 13, 14, 18, 19, 20, 21, 22, 24, 25, 26, 27, 28, 29, 30, 31, 32, 33, 34, 35, 44] [4, 23] t (uI (uI (uI t_70 0 31 0) 0 43 (t_47.1 0 43)) 0 44 (t_47.1 0 44)) := frA_I hfr 0 44 _ rfl
            refine lv_iconst (v := 0) C.1 C.2.1 dX12_assembleLines_152 (by decide) ?_
            exact g_iret C hr hlocks hP hD hS (by decide) (uI (uI (uI t_70 0 31 0) 0 43 (t_47.1 0 43)) 0 44 (t_47.1 0 44)) rfl ⟨hok, hfr, by decide, by decide, (show (t_70.2.1 0 8).toInt = 0 from by omega), (show bz (t_70.2.2.2 4) 20 from by first | exact hbz2 | exact hbz | (rw [rfl]; first | exact hbz2 | exact hbz))⟩ (Nat.le_of_ble_eq_true rfl) (Nat.le_of_ble_eq_true rfl) dX12_assembleLines_153
          · replace c_67 : r_63.toInt = 0 := i_eq c_67
            refine lv_iconst (v := 0) C.1 C.2.1 dX12_assembleLines_112 (by decide) ?_
            exact g_iret C hr hlocks hP hD hS (by decide) t_47 rfl ⟨hok, hfr, by decide, by decide, (show (t_47.2.1 0 8).toInt = 0 from by omega), (show bz (t_47.2.2.2 4) 20 from by first | exact hbz2 | exact hbz | (rw [rfl]; first | exact hbz2 | exact hbz))⟩ (Nat.le_of_ble_eq_true rfl) (Nat.le_of_ble_eq_true rfl) dX12_assembleLines_113
        · replace c_61 : ¬ r_48.toInt = 0 := i_ne c_61
          refine lv_iconst (v := 1) C.1 C.2.1 dX12_assembleLines_102 (by decide) ?_
          exact g_iret C hr hlocks hP hD hS (by decide) t_47 rfl ⟨hok, hfr, by decide, by decide, (show (t_47.2.1 0 8).toInt = 0 from by omega), (show bz (t_47.2.2.2 4) 20 from by first | exact hbz2 | exact hbz | (rw [rfl]; first | exact hbz2 | exact hbz))⟩ (Nat.le_of_ble_eq_true rfl) (Nat.le_of_ble_eq_true rfl) dX12_assembleLines_103
      · replace c_46 : w7_3.toInt < x2.toInt := i_nle c_46
        refine lv_aload_n C.1 C.2.1 dX12_assembleLines_12 rfl (lv_at hl 0 rfl) ?_
        refine k_get (v := .ref (ad 37)) C hP 0 rfl rfl inlX12 75 (by decide) m_8_21 rfl dX12_assembleLines_13 ?_
        refine lv_iload_n C.1 C.2.1 dX12_assembleLines_16 rfl (lv_at hl 3 rfl) ?_
        have h_86 : (0 : Int) ≤ (t.2.2.1 37 (w7_3 : Int32).toNatClampNeg).toInt ∧ (t.2.2.1 37 (w7_3 : Int32).toNatClampNeg).toInt ≤ 1280 := by rw [← e_9]; exact hok.2.1 37 _
        refine k_ild (v := (t.2.2.1 37 (w7_3 : Int32).toNatClampNeg)) C hP 37 rfl (vp_in_iff.mpr ⟨by omega, by omega⟩) (congrFun e_9 _) dX12_assembleLines_17 ?_
        have hd1 := lnS_at hs2 w7_3 (by omega) (by omega)
        refine lv_istore (lv' := [(4, .int (t.2.2.1 37 (w7_3 : Int32).toNatClampNeg)), (0, .ref (ad 0)), (1, .int x1), (2, .int x2), (3, .int w7_3)]) C.1 C.2.1 dX12_assembleLines_18 hl (by decide) rfl (fun ls hl => ?_)
        have hl : lv_has ls 6 [(0, .ref (ad 0)), (1, .int x1), (2, .int x2), (3, .int w7_3), (4, .int (t.2.2.1 37 (w7_3 : Int32).toNatClampNeg))] := lv_sub hl [1, 2, 3, 4, 0] rfl
        exact L_20 1281 t1 w7_3 (t.2.2.1 37 (w7_3 : Int32).toNatClampNeg) _ _ _ hok hfr ⟨by omega, by omega⟩ ⟨by omega, by omega⟩ ⟨by omega, by omega⟩ (show x1.toInt ≤ w7_3.toInt from by omega) (show w7_3.toInt < x2.toInt from by omega) (show (t1.1 0 38).toInt ≤ (t.2.2.1 37 (w7_3 : Int32).toNatClampNeg).toInt from by omega) (show (t.2.2.1 37 (w7_3 : Int32).toNatClampNeg).toInt ≤ (t.2.2.1 38 (w7_3 : Int32).toNatClampNeg).toInt from by omega) (show (t.2.2.1 37 (w7_3 : Int32).toNatClampNeg).toInt ≤ (t.2.2.1 37 (w7_3 : Int32).toNatClampNeg).toInt from by omega) (show (1281 : Int) - w7_3.toInt < (fuel_7 : Int) + 1 from by omega) (show (1280 : Int) - (t.2.2.1 37 (w7_3 : Int32).toNatClampNeg).toInt < ((1281 : Nat) : Int) from by omega) hP hD hS (lv_sub hl [0, 1, 2, 3, 4] rfl)
  refine lv_aload_n C.1 C.2.1 dX12_assembleLines_0 rfl (lv_at hl 0 rfl) ?_
  refine lv_iconst (v := 0) C.1 C.2.1 dX12_assembleLines_1 (by decide) ?_
  refine k_put (ws' := WM K ad (uI t 0 38 0)) (v := .int 0) C hP hD hS 0 rfl rfl inlX12 tyX12_ok nmX12 38 (by decide) m_29_6 rfl rfl rfl rfl rfl dX12_assembleLines_2 (fun H locs hP hD hS => ?_)
  have hok : okM (uI t 0 38 0) := ⟨okI_I hok.1 0 38 0 (show (0 : Int) ≤ (0 : Int32).toInt ∧ (0 : Int32).toInt ≤ 1280 from ⟨by decide, by decide⟩), hok.2.1, hok.2.2.1, hok.2.2.2.1, hok.2.2.2.2.1, hok.2.2.2.2.2.1, hok.2.2.2.2.2.2.1, trivial⟩
  have hfr : frA [(0, 5), (0, 6), (0, 7), (0, 9), (0, 10), (0, 11), (0, 12), (0, 30), (0, 31), (0, 38), (0, 41), (0, 42), (0, 43), (0, 44), (0, 45), (0, 46), (0, 47), (0, 48), (0, 51), (0, 52), (0, 60), (0, 67), (0, 68), (0, 69), (0, 70), (0, 71), (0, 72), (0, 73), (0, 91)] [(0, 8)] [2, 3, 5, 11, 12, 13, 14, 18, 19, 20, 21, 22, 24, 25, 26, 27, 28, 29, 30, 31, 32, 33, 34, 35, 44] [4, 23] t (uI t 0 38 0) := frA_I hfr 0 38 _ rfl
  refine lv_iload_n C.1 C.2.1 dX12_assembleLines_5 rfl (lv_at hl 1 rfl) ?_
  refine lv_istore_n (lv' := [(3, .int x1), (0, .ref (ad 0)), (1, .int x1), (2, .int x2)]) C.1 C.2.1 dX12_assembleLines_6 rfl hl (by decide) rfl (fun ls hl => ?_)
  have hl : lv_has ls 6 [(0, .ref (ad 0)), (1, .int x1), (2, .int x2), (3, .int x1)] := lv_sub hl [1, 2, 3, 0] rfl
  have hz0 : 0 ≤ (t.2.2.1 37 (x1 : Int32).toNatClampNeg).toInt := by have q := (hok.2.1 37 (x1 : Int32).toNatClampNeg).1; first | exact q | (rw [hfr.2.2.1 37 rfl] at q; exact q)
  exact L_7 1281 (uI t 0 38 0) x1 _ _ _ hok hfr ⟨by omega, by omega⟩ (show x1.toInt ≤ x1.toInt from by omega) (show x1.toInt ≤ x2.toInt from by omega) (show 0 ≤ (t.2.2.1 37 (x1 : Int32).toNatClampNeg).toInt from by omega) (show (1281 : Int) - x1.toInt < ((1281 : Nat) : Int) from by omega) hP hD hS (lv_sub hl [0, 1, 2, 3] rfl)
