theorem dX5_future_0 : decode cX5_future 0 = .ok (.aload_n 0, 1) := by decide +kernel
theorem dX5_future_1 : decode cX5_future 1 = .ok (.getfield 19, 3) := by decide +kernel
theorem dX5_future_10 : decode cX5_future 10 = .ok (.aload_n 0, 1) := by decide +kernel
theorem dX5_future_11 : decode cX5_future 11 = .ok (.invokevirtual 39, 3) := by decide +kernel
theorem dX5_future_14 : decode cX5_future 14 = .ok (.ifCond .ne 10, 3) := by decide +kernel
theorem dX5_future_17 : decode cX5_future 17 = .ok (.aload_n 0, 1) := by decide +kernel
theorem dX5_future_18 : decode cX5_future 18 = .ok (.invokevirtual 57, 3) := by decide +kernel
theorem dX5_future_21 : decode cX5_future 21 = .ok (.ifCond .ne 7, 3) := by decide +kernel
theorem dX5_future_24 : decode cX5_future 24 = .ok (.iconst 1, 1) := by decide +kernel
theorem dX5_future_25 : decode cX5_future 25 = .ok (.goto 4, 3) := by decide +kernel
theorem dX5_future_28 : decode cX5_future 28 = .ok (.iconst 0, 1) := by decide +kernel
theorem dX5_future_29 : decode cX5_future 29 = .ok (.istore_n 3, 1) := by decide +kernel
theorem dX5_future_30 : decode cX5_future 30 = .ok (.iload_n 2, 1) := by decide +kernel
theorem dX5_future_31 : decode cX5_future 31 = .ok (.iconst 2, 1) := by decide +kernel
theorem dX5_future_32 : decode cX5_future 32 = .ok (.if_icmp .ne 28, 3) := by decide +kernel
theorem dX5_future_35 : decode cX5_future 35 = .ok (.aload_n 0, 1) := by decide +kernel
theorem dX5_future_36 : decode cX5_future 36 = .ok (.getfield 15, 3) := by decide +kernel
theorem dX5_future_39 : decode cX5_future 39 = .ok (.aload_n 0, 1) := by decide +kernel
theorem dX5_future_4 : decode cX5_future 4 = .ok (.istore_n 1, 1) := by decide +kernel
theorem dX5_future_40 : decode cX5_future 40 = .ok (.getfield 15, 3) := by decide +kernel
theorem dX5_future_43 : decode cX5_future 43 = .ok (.aload_n 0, 1) := by decide +kernel
theorem dX5_future_44 : decode cX5_future 44 = .ok (.getfield 43, 3) := by decide +kernel
theorem dX5_future_47 : decode cX5_future 47 = .ok (.invokevirtual 60, 3) := by decide +kernel
theorem dX5_future_5 : decode cX5_future 5 = .ok (.aload_n 0, 1) := by decide +kernel
theorem dX5_future_50 : decode cX5_future 50 = .ok (.invokevirtual 66, 3) := by decide +kernel
theorem dX5_future_53 : decode cX5_future 53 = .ok (.ifCond .ne 7, 3) := by decide +kernel
theorem dX5_future_56 : decode cX5_future 56 = .ok (.iconst 1, 1) := by decide +kernel
theorem dX5_future_57 : decode cX5_future 57 = .ok (.goto 4, 3) := by decide +kernel
theorem dX5_future_6 : decode cX5_future 6 = .ok (.invokevirtual 35, 3) := by decide +kernel
theorem dX5_future_60 : decode cX5_future 60 = .ok (.iconst 0, 1) := by decide +kernel
theorem dX5_future_61 : decode cX5_future 61 = .ok (.istore 4, 2) := by decide +kernel
theorem dX5_future_63 : decode cX5_future 63 = .ok (.iload_n 3, 1) := by decide +kernel
theorem dX5_future_64 : decode cX5_future 64 = .ok (.ifCond .eq 15, 3) := by decide +kernel
theorem dX5_future_67 : decode cX5_future 67 = .ok (.iload 4, 2) := by decide +kernel
theorem dX5_future_69 : decode cX5_future 69 = .ok (.ifCond .ne 8, 3) := by decide +kernel
theorem dX5_future_72 : decode cX5_future 72 = .ok (.iload_n 2, 1) := by decide +kernel
theorem dX5_future_73 : decode cX5_future 73 = .ok (.iconst 5, 1) := by decide +kernel
theorem dX5_future_74 : decode cX5_future 74 = .ok (.if_icmp .ne 5, 3) := by decide +kernel
theorem dX5_future_77 : decode cX5_future 77 = .ok (.iload_n 2, 1) := by decide +kernel
theorem dX5_future_78 : decode cX5_future 78 = .ok (.ireturn, 1) := by decide +kernel
theorem dX5_future_79 : decode cX5_future 79 = .ok (.aload_n 0, 1) := by decide +kernel
theorem dX5_future_80 : decode cX5_future 80 = .ok (.iload_n 1, 1) := by decide +kernel
theorem dX5_future_81 : decode cX5_future 81 = .ok (.putfield 19, 3) := by decide +kernel
theorem dX5_future_84 : decode cX5_future 84 = .ok (.iconst 0, 1) := by decide +kernel
theorem dX5_future_85 : decode cX5_future 85 = .ok (.ireturn, 1) := by decide +kernel
theorem dX5_future_9 : decode cX5_future 9 = .ok (.istore_n 2, 1) := by decide +kernel
set_option maxHeartbeats 4000000 in
set_option maxRecDepth 100000 in
theorem T_X5_future (l : Launch) (D : va_G) (K : Nat → ClassId) (Z Y : Nat → Nat) (ad : Nat → Nat) (d : dSt) (t : tSt) (hok : okX t)  : tMet l yX5_future cX5_future 5 (some .int) (rmD 2 0 0) D K Z Y [.ref (ad 24)] ((WX d) K ad t) (QI D K (fun (r : Int32) (u : tSt) => okX u ∧ frA [(24, 2), (24, 8)] [(24, 7), (24, 9)] [] [] t u ∧ (0 : Int) ≤ r.toInt ∧ r.toInt ≤ 5) (fun (u : tSt) => (WX d) K ad u)) 0 0 := by
  refine t_met RX5 ⟨rfl, by decide +kernel⟩ (Nat.le_of_ble_eq_true rfl) ?_
  intro p e s m below meth c A ls C hE hZ hr hlocks hA hP hD hS hl
  have hl : lv_has ls 5 [(0, .ref (ad 24))] := hl
  have hokt := hok
  have hfr : frA [(24, 2), (24, 8)] [(24, 7), (24, 9)] [] [] t t := frA_rf
  have h_1 : (0 : Int) ≤ (t.1 23 3).toInt ∧ (t.1 23 3).toInt ≤ 1024 := hok.1 23 3
  have h_2 : (0 : Int) ≤ (t.1 24 2).toInt ∧ (t.1 24 2).toInt ≤ 81 := hok.1 24 2
  have h_3 : (-1 : Int) ≤ (t.1 24 3).toInt ∧ (t.1 24 3).toInt ≤ 80 := hok.1 24 3
  have L_79 : ∀ (t1 : tSt) (w79_1 : Int32) (w79_2 : Int32) (w79_3 : Int32) (w79_4 : Int32) (H : Heap) (locs : List Loc) (ls : Array Slot), okX t1 → frA [(24, 2), (24, 8)] [(24, 7), (24, 9)] [] [] t t1 → (0 : Int) ≤ w79_1.toInt ∧ w79_1.toInt ≤ 81 → (0 : Int) ≤ w79_2.toInt ∧ w79_2.toInt ≤ 5 → (0 : Int) ≤ w79_3.toInt ∧ w79_3.toInt ≤ 1 → (0 : Int) ≤ w79_4.toInt ∧ w79_4.toInt ≤ 1 → va_P D vwCl ((WX d) K ad t1) H → va_D A ((WX d) K ad t1) → va_S A s.heap H locs → lv_has ls 5 [(0, .ref (ad 24)), (1, .int w79_1), (2, .int w79_2), (3, .int w79_3), (4, .int w79_4)] → W p l e (rmD 2 0 0) s m [.ref (ad 24)].toArray below meth c H locs 0 0 (MQ below (QI D K (fun (r : Int32) (u : tSt) => okX u ∧ frA [(24, 2), (24, 8)] [(24, 7), (24, 9)] [] [] t u ∧ (0 : Int) ≤ r.toInt ∧ r.toInt ≤ 5) (fun (u : tSt) => (WX d) K ad u) A) [.ref (ad 24)].toArray s 0 0 A) (F0 m 79 ls []) := by
    intro t1 w79_1 w79_2 w79_3 w79_4 H locs ls hok hfr hw79_1 hw79_2 hw79_3 hw79_4 hP hD hS hl
    have h_4 : (t1.1 23 3).toInt = (t.1 23 3).toInt := ti_eq (hfr.1 23 3 rfl)
    have h_5 : (t1.1 24 3).toInt = (t.1 24 3).toInt := ti_eq (hfr.1 24 3 rfl)
    have h_6 : (0 : Int) ≤ (t1.1 23 3).toInt ∧ (t1.1 23 3).toInt ≤ 1024 := hok.1 23 3
    have h_7 : (0 : Int) ≤ (t1.1 24 2).toInt ∧ (t1.1 24 2).toInt ≤ 81 := hok.1 24 2
    have h_8 : (-1 : Int) ≤ (t1.1 24 3).toInt ∧ (t1.1 24 3).toInt ≤ 80 := hok.1 24 3
    refine lv_aload_n C.1 C.2.1 dX5_future_79 rfl (lv_at hl 0 rfl) ?_
    refine lv_iload_n C.1 C.2.1 dX5_future_80 rfl (lv_at hl 1 rfl) ?_
    refine k_put (ws' := (WX d) K ad (uI t1 24 2 w79_1)) (v := .int w79_1) C hP hD hS 24 rfl rfl inlX5 tyX5_ok nmX5 2 (by decide) m_19_9 rfl rfl rfl rfl rfl dX5_future_81 (fun H locs hP hD hS => ?_)
    have hok : okX (uI t1 24 2 w79_1) := ⟨okI_I hok.1 24 2 w79_1 (show (0 : Int) ≤ (w79_1 : Int32).toInt ∧ (w79_1 : Int32).toInt ≤ 81 from ⟨by omega, by omega⟩), hok.2.1, trivial⟩
    have hfr : frA [(24, 2), (24, 8)] [(24, 7), (24, 9)] [] [] t (uI t1 24 2 w79_1) := frA_I hfr 24 2 _ rfl
    refine lv_iconst (v := 0) C.1 C.2.1 dX5_future_84 (by decide) ?_
    exact g_iret C hr hlocks hP hD hS rfl (uI t1 24 2 w79_1) rfl ⟨hok, hfr, by decide, by decide⟩ (Nat.le_of_ble_eq_true rfl) (Nat.le_of_ble_eq_true rfl) dX5_future_85
  have L_61 : ∀ (t1 : tSt) (w61_1 : Int32) (w61_2 : Int32) (w61_3 : Int32) (k61_0 : Int32) (H : Heap) (locs : List Loc) (ls : Array Slot), okX t1 → frA [(24, 2), (24, 8)] [(24, 7), (24, 9)] [] [] t t1 → (0 : Int) ≤ w61_1.toInt ∧ w61_1.toInt ≤ 81 → (0 : Int) ≤ w61_2.toInt ∧ w61_2.toInt ≤ 5 → (0 : Int) ≤ w61_3.toInt ∧ w61_3.toInt ≤ 1 → (0 : Int) ≤ k61_0.toInt ∧ k61_0.toInt ≤ 1 → va_P D vwCl ((WX d) K ad t1) H → va_D A ((WX d) K ad t1) → va_S A s.heap H locs → lv_has ls 5 [(0, .ref (ad 24)), (1, .int w61_1), (2, .int w61_2), (3, .int w61_3)] → W p l e (rmD 2 0 0) s m [.ref (ad 24)].toArray below meth c H locs 0 0 (MQ below (QI D K (fun (r : Int32) (u : tSt) => okX u ∧ frA [(24, 2), (24, 8)] [(24, 7), (24, 9)] [] [] t u ∧ (0 : Int) ≤ r.toInt ∧ r.toInt ≤ 5) (fun (u : tSt) => (WX d) K ad u) A) [.ref (ad 24)].toArray s 0 0 A) (F0 m 61 ls [.int k61_0]) := by
    intro t1 w61_1 w61_2 w61_3 k61_0 H locs ls hok hfr hw61_1 hw61_2 hw61_3 hk61_0 hP hD hS hl
    have h_9 : (t1.1 23 3).toInt = (t.1 23 3).toInt := ti_eq (hfr.1 23 3 rfl)
    have h_10 : (t1.1 24 3).toInt = (t.1 24 3).toInt := ti_eq (hfr.1 24 3 rfl)
    have h_11 : (0 : Int) ≤ (t1.1 23 3).toInt ∧ (t1.1 23 3).toInt ≤ 1024 := hok.1 23 3
    have h_12 : (0 : Int) ≤ (t1.1 24 2).toInt ∧ (t1.1 24 2).toInt ≤ 81 := hok.1 24 2
    have h_13 : (-1 : Int) ≤ (t1.1 24 3).toInt ∧ (t1.1 24 3).toInt ≤ 80 := hok.1 24 3
    refine lv_istore (lv' := [(4, .int k61_0), (0, .ref (ad 24)), (1, .int w61_1), (2, .int w61_2), (3, .int w61_3)]) C.1 C.2.1 dX5_future_61 hl (by decide) rfl (fun ls hl => ?_)
    have hl : lv_has ls 5 [(0, .ref (ad 24)), (1, .int w61_1), (2, .int w61_2), (3, .int w61_3), (4, .int k61_0)] := lv_sub hl [1, 2, 3, 4, 0] rfl
    refine lv_iload_n C.1 C.2.1 dX5_future_63 rfl (lv_at hl 3 rfl) ?_
    refine lv_if_eq (tgt := 79) C.1 C.2.1 dX5_future_64 (by decide) (fun c_14 => ?_) (fun c_14 => ?_)
    · replace c_14 : w61_3.toInt = 0 := i_eq c_14
      exact L_79 t1 w61_1 w61_2 w61_3 k61_0 _ _ _ hok hfr ⟨by omega, by omega⟩ ⟨by omega, by omega⟩ ⟨by omega, by omega⟩ ⟨by omega, by omega⟩ hP hD hS (lv_sub hl [0, 1, 2, 3, 4] rfl)
    · replace c_14 : ¬ w61_3.toInt = 0 := i_ne c_14
      refine lv_iload C.1 C.2.1 dX5_future_67 (lv_at hl 4 rfl) ?_
      refine lv_if_ne (tgt := 77) C.1 C.2.1 dX5_future_69 (by decide) (fun c_15 => ?_) (fun c_15 => ?_)
      · replace c_15 : ¬ k61_0.toInt = 0 := i_ne c_15
        refine lv_iload_n C.1 C.2.1 dX5_future_77 rfl (lv_at hl 2 rfl) ?_
        exact g_iret C hr hlocks hP hD hS rfl t1 rfl ⟨hok, hfr, by omega, by omega⟩ (Nat.le_of_ble_eq_true rfl) (Nat.le_of_ble_eq_true rfl) dX5_future_78
      · replace c_15 : k61_0.toInt = 0 := i_eq c_15
        refine lv_iload_n C.1 C.2.1 dX5_future_72 rfl (lv_at hl 2 rfl) ?_
        refine lv_iconst (v := 5) C.1 C.2.1 dX5_future_73 (by decide) ?_
        refine lv_icmp_ne (tgt := 79) C.1 C.2.1 dX5_future_74 (by decide) (fun c_16 => ?_) (fun c_16 => ?_)
        · replace c_16 : ¬ w61_2.toInt = 5 := i_ne c_16
          exact L_79 t1 w61_1 w61_2 w61_3 k61_0 _ _ _ hok hfr ⟨by omega, by omega⟩ ⟨by omega, by omega⟩ ⟨by omega, by omega⟩ ⟨by omega, by omega⟩ hP hD hS (lv_sub hl [0, 1, 2, 3, 4] rfl)
        · replace c_16 : w61_2.toInt = 5 := i_eq c_16
          refine lv_iload_n C.1 C.2.1 dX5_future_77 rfl (lv_at hl 2 rfl) ?_
          exact g_iret C hr hlocks hP hD hS rfl t1 rfl ⟨hok, hfr, by omega, by omega⟩ (Nat.le_of_ble_eq_true rfl) (Nat.le_of_ble_eq_true rfl) dX5_future_78
  have L_60 : ∀ (t1 : tSt) (w60_1 : Int32) (w60_2 : Int32) (w60_3 : Int32) (H : Heap) (locs : List Loc) (ls : Array Slot), okX t1 → frA [(24, 2), (24, 8)] [(24, 7), (24, 9)] [] [] t t1 → (0 : Int) ≤ w60_1.toInt ∧ w60_1.toInt ≤ 81 → (0 : Int) ≤ w60_2.toInt ∧ w60_2.toInt ≤ 5 → (0 : Int) ≤ w60_3.toInt ∧ w60_3.toInt ≤ 1 → va_P D vwCl ((WX d) K ad t1) H → va_D A ((WX d) K ad t1) → va_S A s.heap H locs → lv_has ls 5 [(0, .ref (ad 24)), (1, .int w60_1), (2, .int w60_2), (3, .int w60_3)] → W p l e (rmD 2 0 0) s m [.ref (ad 24)].toArray below meth c H locs 0 0 (MQ below (QI D K (fun (r : Int32) (u : tSt) => okX u ∧ frA [(24, 2), (24, 8)] [(24, 7), (24, 9)] [] [] t u ∧ (0 : Int) ≤ r.toInt ∧ r.toInt ≤ 5) (fun (u : tSt) => (WX d) K ad u) A) [.ref (ad 24)].toArray s 0 0 A) (F0 m 60 ls []) := by
    intro t1 w60_1 w60_2 w60_3 H locs ls hok hfr hw60_1 hw60_2 hw60_3 hP hD hS hl
    have h_17 : (t1.1 23 3).toInt = (t.1 23 3).toInt := ti_eq (hfr.1 23 3 rfl)
    have h_18 : (t1.1 24 3).toInt = (t.1 24 3).toInt := ti_eq (hfr.1 24 3 rfl)
    have h_19 : (0 : Int) ≤ (t1.1 23 3).toInt ∧ (t1.1 23 3).toInt ≤ 1024 := hok.1 23 3
    have h_20 : (0 : Int) ≤ (t1.1 24 2).toInt ∧ (t1.1 24 2).toInt ≤ 81 := hok.1 24 2
    have h_21 : (-1 : Int) ≤ (t1.1 24 3).toInt ∧ (t1.1 24 3).toInt ≤ 80 := hok.1 24 3
    refine lv_iconst (v := 0) C.1 C.2.1 dX5_future_60 (by decide) ?_
    exact L_61 t1 w60_1 w60_2 w60_3 0 _ _ _ hok hfr ⟨by omega, by omega⟩ ⟨by omega, by omega⟩ ⟨by omega, by omega⟩ ⟨by decide, by decide⟩ hP hD hS (lv_sub hl [0, 1, 2, 3] rfl)
  have L_29 : ∀ (t1 : tSt) (w29_1 : Int32) (w29_2 : Int32) (k29_0 : Int32) (H : Heap) (locs : List Loc) (ls : Array Slot), okX t1 → frA [(24, 2), (24, 8)] [(24, 7), (24, 9)] [] [] t t1 → (0 : Int) ≤ w29_1.toInt ∧ w29_1.toInt ≤ 81 → (0 : Int) ≤ w29_2.toInt ∧ w29_2.toInt ≤ 5 → (0 : Int) ≤ k29_0.toInt ∧ k29_0.toInt ≤ 1 → va_P D vwCl ((WX d) K ad t1) H → va_D A ((WX d) K ad t1) → va_S A s.heap H locs → lv_has ls 5 [(0, .ref (ad 24)), (1, .int w29_1), (2, .int w29_2)] → W p l e (rmD 2 0 0) s m [.ref (ad 24)].toArray below meth c H locs 0 0 (MQ below (QI D K (fun (r : Int32) (u : tSt) => okX u ∧ frA [(24, 2), (24, 8)] [(24, 7), (24, 9)] [] [] t u ∧ (0 : Int) ≤ r.toInt ∧ r.toInt ≤ 5) (fun (u : tSt) => (WX d) K ad u) A) [.ref (ad 24)].toArray s 0 0 A) (F0 m 29 ls [.int k29_0]) := by
    intro t1 w29_1 w29_2 k29_0 H locs ls hok hfr hw29_1 hw29_2 hk29_0 hP hD hS hl
    have h_22 : (t1.1 23 3).toInt = (t.1 23 3).toInt := ti_eq (hfr.1 23 3 rfl)
    have h_23 : (t1.1 24 3).toInt = (t.1 24 3).toInt := ti_eq (hfr.1 24 3 rfl)
    have h_24 : (0 : Int) ≤ (t1.1 23 3).toInt ∧ (t1.1 23 3).toInt ≤ 1024 := hok.1 23 3
    have h_25 : (0 : Int) ≤ (t1.1 24 2).toInt ∧ (t1.1 24 2).toInt ≤ 81 := hok.1 24 2
    have h_26 : (-1 : Int) ≤ (t1.1 24 3).toInt ∧ (t1.1 24 3).toInt ≤ 80 := hok.1 24 3
    refine lv_istore_n (lv' := [(3, .int k29_0), (0, .ref (ad 24)), (1, .int w29_1), (2, .int w29_2)]) C.1 C.2.1 dX5_future_29 rfl hl (by decide) rfl (fun ls hl => ?_)
    have hl : lv_has ls 5 [(0, .ref (ad 24)), (1, .int w29_1), (2, .int w29_2), (3, .int k29_0)] := lv_sub hl [1, 2, 3, 0] rfl
    refine lv_iload_n C.1 C.2.1 dX5_future_30 rfl (lv_at hl 2 rfl) ?_
    refine lv_iconst (v := 2) C.1 C.2.1 dX5_future_31 (by decide) ?_
    refine lv_icmp_ne (tgt := 60) C.1 C.2.1 dX5_future_32 (by decide) (fun c_27 => ?_) (fun c_27 => ?_)
    · replace c_27 : ¬ w29_2.toInt = 2 := i_ne c_27
      exact L_60 t1 w29_1 w29_2 k29_0 _ _ _ hok hfr ⟨by omega, by omega⟩ ⟨by omega, by omega⟩ ⟨by omega, by omega⟩ hP hD hS (lv_sub hl [0, 1, 2, 3] rfl)
    · replace c_27 : w29_2.toInt = 2 := i_eq c_27
      refine lv_aload_n C.1 C.2.1 dX5_future_35 rfl (lv_at hl 0 rfl) ?_
      refine k_get (v := .ref (ad 23)) C hP 24 rfl rfl inlX5 1 (by decide) m_6_6 rfl dX5_future_36 ?_
      refine lv_aload_n C.1 C.2.1 dX5_future_39 rfl (lv_at hl 0 rfl) ?_
      refine k_get (v := .ref (ad 23)) C hP 24 rfl rfl inlX5 1 (by decide) m_6_6 rfl dX5_future_40 ?_
      refine lv_aload_n C.1 C.2.1 dX5_future_43 rfl (lv_at hl 0 rfl) ?_
      refine k_get (v := .long (t1.2.1 24 7)) C hP 24 rfl rfl inlX5 7 (by decide) m_19_15 rfl dX5_future_44 ?_
      refine g_Vi (As := [.long (t1.2.1 24 7)]) (rest := [.ref (ad 23)]) C hP hD hS hA (T_X8_find l D K Z Y ad d t1 hok ((t1.2.1 24 7))) hE hZ (uwV m_22_18 m_20_12 m_20_13 m_2_5 m_20_14) (hdV 1 (by decide +kernel) rfl) ⟨Nat.le_of_ble_eq_true rfl, Nat.le_of_ble_eq_true rfl⟩ rfl rfl (ci := 7) (q0 := 23) rfl rfl rfl hl.1 (Nat.le_of_ble_eq_true rfl) dX5_future_47 ⟨Nat.le_of_ble_eq_true rfl, Nat.le_of_ble_eq_true rfl⟩ (fun r_29 t_28 H locs hw hP hD hS => ?_)
      obtain ⟨h_31, h_32⟩ := hw
      refine g_Vi (As := [.int r_29]) (rest := []) C hP hD hS hA (T_X8_standing l D K Z Y ad d t1 hok (r_29) (show (-128 : Int) ≤ (r_29 : Int32).toInt ∧ (r_29 : Int32).toInt ≤ 2147483647 from ⟨by omega, (i_rng _).2⟩)) hE hZ (uwV m_22_19 m_20_16 m_20_17 m_2_5 m_20_18) (hdV 1 (by decide +kernel) rfl) ⟨Nat.le_of_ble_eq_true rfl, Nat.le_of_ble_eq_true rfl⟩ rfl rfl (ci := 7) (q0 := 23) rfl rfl rfl hl.1 (Nat.le_of_ble_eq_true rfl) dX5_future_50 ⟨Nat.le_of_ble_eq_true rfl, Nat.le_of_ble_eq_true rfl⟩ (fun r_34 t_33 H locs hw hP hD hS => ?_)
      obtain ⟨h_36, h_37, p_38⟩ := hw
      replace p_38 : ¬ r_34.toInt = 0 → 0 ≤ r_29.toInt ∧ r_29.toInt < (t1.1 23 3).toInt := p_38
      refine lv_if_ne (tgt := 60) C.1 C.2.1 dX5_future_53 (by decide) (fun c_39 => ?_) (fun c_39 => ?_)
      · replace c_39 : ¬ r_34.toInt = 0 := i_ne c_39
        exact L_60 t1 w29_1 w29_2 k29_0 _ _ _ hok hfr ⟨by omega, by omega⟩ ⟨by omega, by omega⟩ ⟨by omega, by omega⟩ hP hD hS (lv_sub hl [0, 1, 2, 3] rfl)
      · replace c_39 : r_34.toInt = 0 := i_eq c_39
        refine lv_iconst (v := 1) C.1 C.2.1 dX5_future_56 (by decide) ?_
        refine lv_goto (tgt := 61) C.1 C.2.1 dX5_future_57 (by decide) ?_
        exact L_61 t1 w29_1 w29_2 k29_0 1 _ _ _ hok hfr ⟨by omega, by omega⟩ ⟨by omega, by omega⟩ ⟨by omega, by omega⟩ ⟨by decide, by decide⟩ hP hD hS (lv_sub hl [0, 1, 2, 3] rfl)
  have L_24 : ∀ (t1 : tSt) (w24_1 : Int32) (w24_2 : Int32) (H : Heap) (locs : List Loc) (ls : Array Slot), okX t1 → frA [(24, 2), (24, 8)] [(24, 7), (24, 9)] [] [] t t1 → (0 : Int) ≤ w24_1.toInt ∧ w24_1.toInt ≤ 81 → (0 : Int) ≤ w24_2.toInt ∧ w24_2.toInt ≤ 5 → va_P D vwCl ((WX d) K ad t1) H → va_D A ((WX d) K ad t1) → va_S A s.heap H locs → lv_has ls 5 [(0, .ref (ad 24)), (1, .int w24_1), (2, .int w24_2)] → W p l e (rmD 2 0 0) s m [.ref (ad 24)].toArray below meth c H locs 0 0 (MQ below (QI D K (fun (r : Int32) (u : tSt) => okX u ∧ frA [(24, 2), (24, 8)] [(24, 7), (24, 9)] [] [] t u ∧ (0 : Int) ≤ r.toInt ∧ r.toInt ≤ 5) (fun (u : tSt) => (WX d) K ad u) A) [.ref (ad 24)].toArray s 0 0 A) (F0 m 24 ls []) := by
    intro t1 w24_1 w24_2 H locs ls hok hfr hw24_1 hw24_2 hP hD hS hl
    have h_40 : (t1.1 23 3).toInt = (t.1 23 3).toInt := ti_eq (hfr.1 23 3 rfl)
    have h_41 : (t1.1 24 3).toInt = (t.1 24 3).toInt := ti_eq (hfr.1 24 3 rfl)
    have h_42 : (0 : Int) ≤ (t1.1 23 3).toInt ∧ (t1.1 23 3).toInt ≤ 1024 := hok.1 23 3
    have h_43 : (0 : Int) ≤ (t1.1 24 2).toInt ∧ (t1.1 24 2).toInt ≤ 81 := hok.1 24 2
    have h_44 : (-1 : Int) ≤ (t1.1 24 3).toInt ∧ (t1.1 24 3).toInt ≤ 80 := hok.1 24 3
    refine lv_iconst (v := 1) C.1 C.2.1 dX5_future_24 (by decide) ?_
    refine lv_goto (tgt := 29) C.1 C.2.1 dX5_future_25 (by decide) ?_
    exact L_29 t1 w24_1 w24_2 1 _ _ _ hok hfr ⟨by omega, by omega⟩ ⟨by omega, by omega⟩ ⟨by decide, by decide⟩ hP hD hS (lv_sub hl [0, 1, 2] rfl)
  refine lv_aload_n C.1 C.2.1 dX5_future_0 rfl (lv_at hl 0 rfl) ?_
  refine k_get (v := .int (t.1 24 2)) C hP 24 rfl rfl inlX5 2 (by decide) m_19_9 rfl dX5_future_1 ?_
  refine lv_istore_n (lv' := [(1, .int (t.1 24 2)), (0, .ref (ad 24))]) C.1 C.2.1 dX5_future_4 rfl hl (by decide) rfl (fun ls hl => ?_)
  have hl : lv_has ls 5 [(0, .ref (ad 24)), (1, .int (t.1 24 2))] := lv_sub hl [1, 0] rfl
  refine lv_aload_n C.1 C.2.1 dX5_future_5 rfl (lv_at hl 0 rfl) ?_
  refine g_Vi (As := []) (rest := []) C hP hD hS hA (T_X5_token l D K Z Y ad d t hok ) hE hZ (uwV m_19_11 m_19_12 m_19_13 m_5_22 m_19_14) (hdV 0 (by decide +kernel) rfl) ⟨Nat.le_of_ble_eq_true rfl, Nat.le_of_ble_eq_true rfl⟩ rfl rfl (ci := 4) (q0 := 24) rfl rfl rfl hl.1 (Nat.le_of_ble_eq_true rfl) dX5_future_6 ⟨Nat.le_of_ble_eq_true rfl, Nat.le_of_ble_eq_true rfl⟩ (fun r_46 t_45 H locs hw hP hD hS => ?_)
  obtain ⟨hok, f_47, h_48, h_49⟩ := hw
  have hfr : frA [(24, 2), (24, 8)] [(24, 7), (24, 9)] [] [] t t_45 := frA_tr hfr f_47 rfl
  have h_50 : (t_45.1 23 3).toInt = (t.1 23 3).toInt := ti_eq (f_47.1 23 3 rfl)
  have h_51 : (t_45.1 24 3).toInt = (t.1 24 3).toInt := ti_eq (f_47.1 24 3 rfl)
  have h_52 : (0 : Int) ≤ (t_45.1 23 3).toInt ∧ (t_45.1 23 3).toInt ≤ 1024 := hok.1 23 3
  have h_53 : (0 : Int) ≤ (t_45.1 24 2).toInt ∧ (t_45.1 24 2).toInt ≤ 81 := hok.1 24 2
  have h_54 : (-1 : Int) ≤ (t_45.1 24 3).toInt ∧ (t_45.1 24 3).toInt ≤ 80 := hok.1 24 3
  refine lv_istore_n (lv' := [(2, .int r_46), (0, .ref (ad 24)), (1, .int (t.1 24 2))]) C.1 C.2.1 dX5_future_9 rfl hl (by decide) rfl (fun ls hl => ?_)
  have hl : lv_has ls 5 [(0, .ref (ad 24)), (1, .int (t.1 24 2)), (2, .int r_46)] := lv_sub hl [1, 2, 0] rfl
  refine lv_aload_n C.1 C.2.1 dX5_future_10 rfl (lv_at hl 0 rfl) ?_
  refine g_Vi (As := []) (rest := []) C hP hD hS hA (T_X5_isAtEnd l D K Z Y ad d t_45 hok ) hE hZ (uwV m_19_20 m_19_21 m_19_22 m_5_22 m_19_23) (hdV 0 (by decide +kernel) rfl) ⟨Nat.le_of_ble_eq_true rfl, Nat.le_of_ble_eq_true rfl⟩ rfl rfl (ci := 4) (q0 := 24) rfl rfl rfl hl.1 (Nat.le_of_ble_eq_true rfl) dX5_future_11 ⟨Nat.le_of_ble_eq_true rfl, Nat.le_of_ble_eq_true rfl⟩ (fun r_56 t_55 H locs hw hP hD hS => ?_)
  obtain ⟨h_58, h_59⟩ := hw
  refine lv_if_ne (tgt := 24) C.1 C.2.1 dX5_future_14 (by decide) (fun c_60 => ?_) (fun c_60 => ?_)
  · replace c_60 : ¬ r_56.toInt = 0 := i_ne c_60
    exact L_24 t_45 (t.1 24 2) r_46 _ _ _ hok hfr ⟨by omega, by omega⟩ ⟨by omega, by omega⟩ hP hD hS (lv_sub hl [0, 1, 2] rfl)
  · replace c_60 : r_56.toInt = 0 := i_eq c_60
    refine lv_aload_n C.1 C.2.1 dX5_future_17 rfl (lv_at hl 0 rfl) ?_
    refine g_Vi (As := []) (rest := []) C hP hD hS hA (T_X5_operatorSize l D K Z Y ad d t_45 hok ) hE hZ (uwV m_23_4 m_23_5 m_23_6 m_5_22 m_23_7) (hdV 0 (by decide +kernel) rfl) ⟨Nat.le_of_ble_eq_true rfl, Nat.le_of_ble_eq_true rfl⟩ rfl rfl (ci := 4) (q0 := 24) rfl rfl rfl hl.1 (Nat.le_of_ble_eq_true rfl) dX5_future_18 ⟨Nat.le_of_ble_eq_true rfl, Nat.le_of_ble_eq_true rfl⟩ (fun r_62 t_61 H locs hw hP hD hS => ?_)
    obtain ⟨h_64, h_65, p_66⟩ := hw
    replace p_66 : ¬ r_62.toInt = 0 → (t_45.1 24 2).toInt + r_62.toInt ≤ (t_45.1 24 3).toInt := p_66
    refine lv_if_ne (tgt := 28) C.1 C.2.1 dX5_future_21 (by decide) (fun c_67 => ?_) (fun c_67 => ?_)
    · replace c_67 : ¬ r_62.toInt = 0 := i_ne c_67
      refine lv_iconst (v := 0) C.1 C.2.1 dX5_future_28 (by decide) ?_
      exact L_29 t_45 (t.1 24 2) r_46 0 _ _ _ hok hfr ⟨by omega, by omega⟩ ⟨by omega, by omega⟩ ⟨by decide, by decide⟩ hP hD hS (lv_sub hl [0, 1, 2] rfl)
    · replace c_67 : r_62.toInt = 0 := i_eq c_67
      exact L_24 t_45 (t.1 24 2) r_46 _ _ _ hok hfr ⟨by omega, by omega⟩ ⟨by omega, by omega⟩ hP hD hS (lv_sub hl [0, 1, 2] rfl)

theorem dX0_placeComing_0 : decode cX0_placeComing 0 = .ok (.aload_n 0, 1) := by decide +kernel
theorem dX0_placeComing_1 : decode cX0_placeComing 1 = .ok (.getfield 119, 3) := by decide +kernel
theorem dX0_placeComing_102 : decode cX0_placeComing 102 = .ok (.ifCond .ne 24, 3) := by decide +kernel
theorem dX0_placeComing_105 : decode cX0_placeComing 105 = .ok (.aload_n 0, 1) := by decide +kernel
theorem dX0_placeComing_106 : decode cX0_placeComing 106 = .ok (.getfield 32, 3) := by decide +kernel
theorem dX0_placeComing_109 : decode cX0_placeComing 109 = .ok (.iload 4, 2) := by decide +kernel
theorem dX0_placeComing_111 : decode cX0_placeComing 111 = .ok (.iconst 1, 1) := by decide +kernel
theorem dX0_placeComing_112 : decode cX0_placeComing 112 = .ok (.iload_n 2, 1) := by decide +kernel
theorem dX0_placeComing_113 : decode cX0_placeComing 113 = .ok (.i2l, 1) := by decide +kernel
theorem dX0_placeComing_114 : decode cX0_placeComing 114 = .ok (.invokestatic 192, 3) := by decide +kernel
theorem dX0_placeComing_117 : decode cX0_placeComing 117 = .ok (.invokevirtual 224, 3) := by decide +kernel
theorem dX0_placeComing_12 : decode cX0_placeComing 12 = .ok (.aload_n 0, 1) := by decide +kernel
theorem dX0_placeComing_120 : decode cX0_placeComing 120 = .ok (.iinc 2 1, 3) := by decide +kernel
theorem dX0_placeComing_123 : decode cX0_placeComing 123 = .ok (.goto 56, 3) := by decide +kernel
theorem dX0_placeComing_126 : decode cX0_placeComing 126 = .ok (.iload 5, 2) := by decide +kernel
theorem dX0_placeComing_128 : decode cX0_placeComing 128 = .ok (.ifCond .lt 51, 3) := by decide +kernel
theorem dX0_placeComing_13 : decode cX0_placeComing 13 = .ok (.getfield 134, 3) := by decide +kernel
theorem dX0_placeComing_131 : decode cX0_placeComing 131 = .ok (.iload 5, 2) := by decide +kernel
theorem dX0_placeComing_133 : decode cX0_placeComing 133 = .ok (.bipush 10, 2) := by decide +kernel
theorem dX0_placeComing_135 : decode cX0_placeComing 135 = .ok (.if_icmp .ge 44, 3) := by decide +kernel
theorem dX0_placeComing_138 : decode cX0_placeComing 138 = .ok (.aload_n 0, 1) := by decide +kernel
theorem dX0_placeComing_139 : decode cX0_placeComing 139 = .ok (.getfield 22, 3) := by decide +kernel
theorem dX0_placeComing_142 : decode cX0_placeComing 142 = .ok (.iload 5, 2) := by decide +kernel
theorem dX0_placeComing_144 : decode cX0_placeComing 144 = .ok (.iaload, 1) := by decide +kernel
theorem dX0_placeComing_145 : decode cX0_placeComing 145 = .ok (.sipush 9999, 3) := by decide +kernel
theorem dX0_placeComing_148 : decode cX0_placeComing 148 = .ok (.if_icmp .ne 31, 3) := by decide +kernel
theorem dX0_placeComing_151 : decode cX0_placeComing 151 = .ok (.aload_n 0, 1) := by decide +kernel
theorem dX0_placeComing_152 : decode cX0_placeComing 152 = .ok (.getfield 119, 3) := by decide +kernel
theorem dX0_placeComing_155 : decode cX0_placeComing 155 = .ok (.iconst 3, 1) := by decide +kernel
theorem dX0_placeComing_156 : decode cX0_placeComing 156 = .ok (.if_icmp .ne 12, 3) := by decide +kernel
theorem dX0_placeComing_159 : decode cX0_placeComing 159 = .ok (.aload_n 0, 1) := by decide +kernel
theorem dX0_placeComing_16 : decode cX0_placeComing 16 = .ok (.invokevirtual 146, 3) := by decide +kernel
theorem dX0_placeComing_160 : decode cX0_placeComing 160 = .ok (.getfield 140, 3) := by decide +kernel
theorem dX0_placeComing_163 : decode cX0_placeComing 163 = .ok (.iload 5, 2) := by decide +kernel
theorem dX0_placeComing_165 : decode cX0_placeComing 165 = .ok (.if_icmp .eq 14, 3) := by decide +kernel
theorem dX0_placeComing_168 : decode cX0_placeComing 168 = .ok (.aload_n 0, 1) := by decide +kernel
theorem dX0_placeComing_169 : decode cX0_placeComing 169 = .ok (.getfield 22, 3) := by decide +kernel
theorem dX0_placeComing_172 : decode cX0_placeComing 172 = .ok (.iload 5, 2) := by decide +kernel
theorem dX0_placeComing_174 : decode cX0_placeComing 174 = .ok (.iload_n 2, 1) := by decide +kernel
theorem dX0_placeComing_175 : decode cX0_placeComing 175 = .ok (.iastore, 1) := by decide +kernel
theorem dX0_placeComing_176 : decode cX0_placeComing 176 = .ok (.iinc 2 1, 3) := by decide +kernel
theorem dX0_placeComing_179 : decode cX0_placeComing 179 = .ok (.iinc 3 1, 3) := by decide +kernel
theorem dX0_placeComing_182 : decode cX0_placeComing 182 = .ok (.goto (-141), 3) := by decide +kernel
theorem dX0_placeComing_185 : decode cX0_placeComing 185 = .ok (.iload_n 2, 1) := by decide +kernel
theorem dX0_placeComing_186 : decode cX0_placeComing 186 = .ok (.ireturn, 1) := by decide +kernel
theorem dX0_placeComing_19 : decode cX0_placeComing 19 = .ok (.goto 4, 3) := by decide +kernel
theorem dX0_placeComing_22 : decode cX0_placeComing 22 = .ok (.iconst (-1), 1) := by decide +kernel
theorem dX0_placeComing_23 : decode cX0_placeComing 23 = .ok (.istore_n 1, 1) := by decide +kernel
theorem dX0_placeComing_24 : decode cX0_placeComing 24 = .ok (.aload_n 0, 1) := by decide +kernel
theorem dX0_placeComing_25 : decode cX0_placeComing 25 = .ok (.getfield 70, 3) := by decide +kernel
theorem dX0_placeComing_28 : decode cX0_placeComing 28 = .ok (.istore_n 2, 1) := by decide +kernel
theorem dX0_placeComing_29 : decode cX0_placeComing 29 = .ok (.aload_n 0, 1) := by decide +kernel
theorem dX0_placeComing_30 : decode cX0_placeComing 30 = .ok (.getfield 22, 3) := by decide +kernel
theorem dX0_placeComing_33 : decode cX0_placeComing 33 = .ok (.sipush 9999, 3) := by decide +kernel
theorem dX0_placeComing_36 : decode cX0_placeComing 36 = .ok (.invokestatic 248, 3) := by decide +kernel
theorem dX0_placeComing_39 : decode cX0_placeComing 39 = .ok (.iconst 0, 1) := by decide +kernel
theorem dX0_placeComing_4 : decode cX0_placeComing 4 = .ok (.iconst 2, 1) := by decide +kernel
theorem dX0_placeComing_40 : decode cX0_placeComing 40 = .ok (.istore_n 3, 1) := by decide +kernel
theorem dX0_placeComing_41 : decode cX0_placeComing 41 = .ok (.iload_n 3, 1) := by decide +kernel
theorem dX0_placeComing_42 : decode cX0_placeComing 42 = .ok (.aload_n 0, 1) := by decide +kernel
theorem dX0_placeComing_43 : decode cX0_placeComing 43 = .ok (.getfield 32, 3) := by decide +kernel
theorem dX0_placeComing_46 : decode cX0_placeComing 46 = .ok (.getfield 251, 3) := by decide +kernel
theorem dX0_placeComing_49 : decode cX0_placeComing 49 = .ok (.if_icmp .ge 136, 3) := by decide +kernel
theorem dX0_placeComing_5 : decode cX0_placeComing 5 = .ok (.if_icmp .ne 17, 3) := by decide +kernel
theorem dX0_placeComing_52 : decode cX0_placeComing 52 = .ok (.aload_n 0, 1) := by decide +kernel
theorem dX0_placeComing_53 : decode cX0_placeComing 53 = .ok (.getfield 32, 3) := by decide +kernel
theorem dX0_placeComing_56 : decode cX0_placeComing 56 = .ok (.getfield 254, 3) := by decide +kernel
theorem dX0_placeComing_59 : decode cX0_placeComing 59 = .ok (.iload_n 3, 1) := by decide +kernel
theorem dX0_placeComing_60 : decode cX0_placeComing 60 = .ok (.iaload, 1) := by decide +kernel
theorem dX0_placeComing_61 : decode cX0_placeComing 61 = .ok (.istore 4, 2) := by decide +kernel
theorem dX0_placeComing_63 : decode cX0_placeComing 63 = .ok (.bipush (-10), 2) := by decide +kernel
theorem dX0_placeComing_65 : decode cX0_placeComing 65 = .ok (.iload 4, 2) := by decide +kernel
theorem dX0_placeComing_67 : decode cX0_placeComing 67 = .ok (.isub, 1) := by decide +kernel
theorem dX0_placeComing_68 : decode cX0_placeComing 68 = .ok (.istore 5, 2) := by decide +kernel
theorem dX0_placeComing_70 : decode cX0_placeComing 70 = .ok (.iload 4, 2) := by decide +kernel
theorem dX0_placeComing_72 : decode cX0_placeComing 72 = .ok (.iconst (-1), 1) := by decide +kernel
theorem dX0_placeComing_73 : decode cX0_placeComing 73 = .ok (.if_icmp .ne 9, 3) := by decide +kernel
theorem dX0_placeComing_76 : decode cX0_placeComing 76 = .ok (.iinc 2 1, 3) := by decide +kernel
theorem dX0_placeComing_79 : decode cX0_placeComing 79 = .ok (.goto 100, 3) := by decide +kernel
theorem dX0_placeComing_8 : decode cX0_placeComing 8 = .ok (.aload_n 0, 1) := by decide +kernel
theorem dX0_placeComing_82 : decode cX0_placeComing 82 = .ok (.iload 4, 2) := by decide +kernel
theorem dX0_placeComing_84 : decode cX0_placeComing 84 = .ok (.ifCond .lt 42, 3) := by decide +kernel
theorem dX0_placeComing_87 : decode cX0_placeComing 87 = .ok (.iload 4, 2) := by decide +kernel
theorem dX0_placeComing_89 : decode cX0_placeComing 89 = .ok (.iload_n 1, 1) := by decide +kernel
theorem dX0_placeComing_9 : decode cX0_placeComing 9 = .ok (.getfield 32, 3) := by decide +kernel
theorem dX0_placeComing_90 : decode cX0_placeComing 90 = .ok (.if_icmp .eq 36, 3) := by decide +kernel
theorem dX0_placeComing_93 : decode cX0_placeComing 93 = .ok (.aload_n 0, 1) := by decide +kernel
theorem dX0_placeComing_94 : decode cX0_placeComing 94 = .ok (.getfield 32, 3) := by decide +kernel
theorem dX0_placeComing_97 : decode cX0_placeComing 97 = .ok (.iload 4, 2) := by decide +kernel
theorem dX0_placeComing_99 : decode cX0_placeComing 99 = .ok (.invokevirtual 150, 3) := by decide +kernel
set_option maxHeartbeats 4000000 in
set_option maxRecDepth 100000 in
theorem T_X0_placeComing (l : Launch) (D : va_G) (K : Nat → ClassId) (Z Y : Nat → Nat) (ad : Nat → Nat) (d : dSt) (t : tSt) (hok : okX t)  : tMet l yX0_placeComing cX0_placeComing 6 (some .int) (rmD 2 0 0) D K Z Y [.ref (ad 5)] ((WX d) K ad t) (QI D K (fun (r : Int32) (u : tSt) => okX u ∧ frA [] [] [28, 42, 43] [] t u ∧ (-2147483648 : Int) ≤ r.toInt ∧ r.toInt ≤ 2147483647) (fun (u : tSt) => (WX d) K ad u)) 0 0 := by
  refine t_met RX0 ⟨rfl, by decide +kernel⟩ (Nat.le_of_ble_eq_true rfl) ?_
  intro p e s m below meth c A ls C hE hZ hr hlocks hA hP hD hS hl
  have hl : lv_has ls 6 [(0, .ref (ad 5))] := hl
  have hokt := hok
  have hfr : frA [] [] [28, 42, 43] [] t t := frA_rf
  have h_1 : (0 : Int) ≤ (t.1 23 3).toInt ∧ (t.1 23 3).toInt ≤ 1024 := hok.1 23 3
  have L_41 : ∀ (fuel_41 : Nat) (t1 : tSt) (w41_1 : Int32) (w41_2 : Int32) (w41_3 : Int32) (H : Heap) (locs : List Loc) (ls : Array Slot), okX t1 → frA [] [] [28, 42, 43] [] t t1 → (-1 : Int) ≤ w41_1.toInt ∧ w41_1.toInt ≤ 2147483647 → (0 : Int) ≤ w41_3.toInt ∧ w41_3.toInt ≤ 512 → (512 : Int) - w41_3.toInt < (fuel_41 : Int) → va_P D vwCl ((WX d) K ad t1) H → va_D A ((WX d) K ad t1) → va_S A s.heap H locs → lv_has ls 6 [(0, .ref (ad 5)), (1, .int w41_1), (2, .int w41_2), (3, .int w41_3)] → W p l e (rmD 2 0 0) s m [.ref (ad 5)].toArray below meth c H locs 0 0 (MQ below (QI D K (fun (r : Int32) (u : tSt) => okX u ∧ frA [] [] [28, 42, 43] [] t u ∧ (-2147483648 : Int) ≤ r.toInt ∧ r.toInt ≤ 2147483647) (fun (u : tSt) => (WX d) K ad u) A) [.ref (ad 5)].toArray s 0 0 A) (F0 m 41 ls []) := by
    intro fuel_41
    induction fuel_41 with
    | zero =>
      intro t1 w41_1 w41_2 w41_3 H locs ls hok hfr hw41_1 hw41_3 hm41_41 hP hD hS hl
      have h_2 : (t1.1 23 3).toInt = (t.1 23 3).toInt := ti_eq (hfr.1 23 3 rfl)
      have h_3 : (0 : Int) ≤ (t1.1 23 3).toInt ∧ (t1.1 23 3).toInt ≤ 1024 := hok.1 23 3
      exact absurd hm41_41 (by omega)
    | succ fuel_41 ih_41 =>
      intro t1 w41_1 w41_2 w41_3 H locs ls hok hfr hw41_1 hw41_3 hm41_41 hP hD hS hl
      have hm41_41 : (512 : Int) - w41_3.toInt < (fuel_41 : Int) + 1 := by omega
      have h_4 : (t1.1 23 3).toInt = (t.1 23 3).toInt := ti_eq (hfr.1 23 3 rfl)
      have h_5 : (0 : Int) ≤ (t1.1 23 3).toInt ∧ (t1.1 23 3).toInt ≤ 1024 := hok.1 23 3
      have L_179 : ∀ (t1 : tSt) (w179_1 : Int32) (w179_2 : Int32) (w179_3 : Int32) (w179_4 : Int32) (w179_5 : Int32) (H : Heap) (locs : List Loc) (ls : Array Slot), okX t1 → frA [] [] [28, 42, 43] [] t t1 → (-1 : Int) ≤ w179_1.toInt ∧ w179_1.toInt ≤ 2147483647 → (0 : Int) ≤ w179_3.toInt ∧ w179_3.toInt ≤ 511 → (-128 : Int) ≤ w179_4.toInt ∧ w179_4.toInt ≤ 2147483647 → (1 : Int) ≤ (t1.1 23 12).toInt ∧ (t1.1 23 12).toInt ≤ 512 → (512 : Int) - w179_3.toInt < (fuel_41 : Int) + 1 → va_P D vwCl ((WX d) K ad t1) H → va_D A ((WX d) K ad t1) → va_S A s.heap H locs → lv_has ls 6 [(0, .ref (ad 5)), (1, .int w179_1), (2, .int w179_2), (3, .int w179_3), (4, .int w179_4), (5, .int w179_5)] → W p l e (rmD 2 0 0) s m [.ref (ad 5)].toArray below meth c H locs 0 0 (MQ below (QI D K (fun (r : Int32) (u : tSt) => okX u ∧ frA [] [] [28, 42, 43] [] t u ∧ (-2147483648 : Int) ≤ r.toInt ∧ r.toInt ≤ 2147483647) (fun (u : tSt) => (WX d) K ad u) A) [.ref (ad 5)].toArray s 0 0 A) (F0 m 179 ls []) := by
        intro t1 w179_1 w179_2 w179_3 w179_4 w179_5 H locs ls hok hfr hw179_1 hw179_3 hw179_4 hf179_12 hm179_41 hP hD hS hl
        have h_6 : (t1.1 23 3).toInt = (t.1 23 3).toInt := ti_eq (hfr.1 23 3 rfl)
        have h_7 : (0 : Int) ≤ (t1.1 23 3).toInt ∧ (t1.1 23 3).toInt ≤ 1024 := hok.1 23 3
        obtain ⟨v_8, e_9⟩ : ∃ z, z = w179_3 + 1 := ⟨_, rfl⟩
        have h_10 : v_8.toInt = w179_3.toInt + 1 := by rw [e_9]; exact ti_iadd (by show (_ : Int) ≤ w179_3.toInt + 1; omega) (by show w179_3.toInt + 1 < (_ : Int); omega)
        refine lv_iinc (v := v_8) (lv' := [(3, .int v_8), (0, .ref (ad 5)), (1, .int w179_1), (2, .int w179_2), (4, .int w179_4), (5, .int w179_5)]) C.1 C.2.1 dX0_placeComing_179 hl (k := 3) rfl e_9.symm (by decide) rfl (fun ls hl => ?_)
        have hl : lv_has ls 6 [(0, .ref (ad 5)), (1, .int w179_1), (2, .int w179_2), (3, .int v_8), (4, .int w179_4), (5, .int w179_5)] := lv_sub hl [1, 2, 3, 0, 4, 5] rfl
        refine lv_goto (tgt := 41) C.1 C.2.1 dX0_placeComing_182 (by decide) ?_
        exact ih_41 t1 w179_1 w179_2 v_8 _ _ _ hok hfr ⟨by omega, (i_rng _).2⟩ ⟨by omega, by omega⟩ (show (512 : Int) - v_8.toInt < (fuel_41 : Int) from by omega) hP hD hS (lv_sub hl [0, 1, 2, 3] rfl)
      have L_168 : ∀ (t1 : tSt) (w168_1 : Int32) (w168_2 : Int32) (w168_3 : Int32) (w168_4 : Int32) (w168_5 : Int32) (H : Heap) (locs : List Loc) (ls : Array Slot), okX t1 → frA [] [] [28, 42, 43] [] t t1 → (-1 : Int) ≤ w168_1.toInt ∧ w168_1.toInt ≤ 2147483647 → (0 : Int) ≤ w168_3.toInt ∧ w168_3.toInt ≤ 511 → (-128 : Int) ≤ w168_4.toInt ∧ w168_4.toInt ≤ 2147483647 → (0 : Int) ≤ w168_5.toInt ∧ w168_5.toInt ≤ 9 → (1 : Int) ≤ (t1.1 23 12).toInt ∧ (t1.1 23 12).toInt ≤ 512 → (512 : Int) - w168_3.toInt < (fuel_41 : Int) + 1 → va_P D vwCl ((WX d) K ad t1) H → va_D A ((WX d) K ad t1) → va_S A s.heap H locs → lv_has ls 6 [(0, .ref (ad 5)), (1, .int w168_1), (2, .int w168_2), (3, .int w168_3), (4, .int w168_4), (5, .int w168_5)] → W p l e (rmD 2 0 0) s m [.ref (ad 5)].toArray below meth c H locs 0 0 (MQ below (QI D K (fun (r : Int32) (u : tSt) => okX u ∧ frA [] [] [28, 42, 43] [] t u ∧ (-2147483648 : Int) ≤ r.toInt ∧ r.toInt ≤ 2147483647) (fun (u : tSt) => (WX d) K ad u) A) [.ref (ad 5)].toArray s 0 0 A) (F0 m 168 ls []) := by
        intro t1 w168_1 w168_2 w168_3 w168_4 w168_5 H locs ls hok hfr hw168_1 hw168_3 hw168_4 hw168_5 hf168_12 hm168_41 hP hD hS hl
        have h_11 : (t1.1 23 3).toInt = (t.1 23 3).toInt := ti_eq (hfr.1 23 3 rfl)
        have h_12 : (0 : Int) ≤ (t1.1 23 3).toInt ∧ (t1.1 23 3).toInt ≤ 1024 := hok.1 23 3
        refine lv_aload_n C.1 C.2.1 dX0_placeComing_168 rfl (lv_at hl 0 rfl) ?_
        refine k_get (v := .ref (ad 28)) C hP 5 rfl rfl inlX0 8 (by decide) m_5_16 rfl dX0_placeComing_169 ?_
        refine lv_iload C.1 C.2.1 dX0_placeComing_172 (lv_at hl 5 rfl) ?_
        refine lv_iload_n C.1 C.2.1 dX0_placeComing_174 rfl (lv_at hl 2 rfl) ?_
        refine k_ist (ws' := (WX d) K ad (uB t1 28 (w168_5 : Int32).toNatClampNeg w168_2)) (x' := w168_2) C hP hD hS 28 rfl (vp_in_iff.mpr ⟨by omega, by omega⟩) rfl rfl rfl dX0_placeComing_175 (fun H locs hP hD hS => ?_)
        have hok : okX (uB t1 28 (w168_5 : Int32).toNatClampNeg w168_2) := ⟨hok.1, okB_B hok.2.1 28 _ w168_2 (show (-2147483648 : Int) ≤ (w168_2 : Int32).toInt ∧ (w168_2 : Int32).toInt ≤ 2147483647 from (i_rng _)), trivial⟩
        have hfr : frA [] [] [28, 42, 43] [] t (uB t1 28 (w168_5 : Int32).toNatClampNeg w168_2) := frA_B hfr 28 _ _ rfl
        obtain ⟨v_13, e_14⟩ : ∃ z, z = w168_2 + 1 := ⟨_, rfl⟩
        refine lv_iinc (v := v_13) (lv' := [(2, .int v_13), (0, .ref (ad 5)), (1, .int w168_1), (3, .int w168_3), (4, .int w168_4), (5, .int w168_5)]) C.1 C.2.1 dX0_placeComing_176 hl (k := 2) rfl e_14.symm (by decide) rfl (fun ls hl => ?_)
        have hl : lv_has ls 6 [(0, .ref (ad 5)), (1, .int w168_1), (2, .int v_13), (3, .int w168_3), (4, .int w168_4), (5, .int w168_5)] := lv_sub hl [1, 2, 0, 3, 4, 5] rfl
        exact L_179 (uB t1 28 (w168_5 : Int32).toNatClampNeg w168_2) w168_1 v_13 w168_3 w168_4 w168_5 _ _ _ hok hfr ⟨by omega, (i_rng _).2⟩ ⟨by omega, by omega⟩ ⟨by omega, (i_rng _).2⟩ (show (1 : Int) ≤ ((t1.1 23 12) : Int32).toInt ∧ ((t1.1 23 12) : Int32).toInt ≤ 512 from ⟨by omega, by omega⟩) (show (512 : Int) - w168_3.toInt < (fuel_41 : Int) + 1 from by omega) hP hD hS (lv_sub hl [0, 1, 2, 3, 4, 5] rfl)
      have L_126 : ∀ (t1 : tSt) (w126_1 : Int32) (w126_2 : Int32) (w126_3 : Int32) (w126_4 : Int32) (w126_5 : Int32) (H : Heap) (locs : List Loc) (ls : Array Slot), okX t1 → frA [] [] [28, 42, 43] [] t t1 → (-1 : Int) ≤ w126_1.toInt ∧ w126_1.toInt ≤ 2147483647 → (0 : Int) ≤ w126_3.toInt ∧ w126_3.toInt ≤ 511 → (-128 : Int) ≤ w126_4.toInt ∧ w126_4.toInt ≤ 2147483647 → (1 : Int) ≤ (t1.1 23 12).toInt ∧ (t1.1 23 12).toInt ≤ 512 → (512 : Int) - w126_3.toInt < (fuel_41 : Int) + 1 → va_P D vwCl ((WX d) K ad t1) H → va_D A ((WX d) K ad t1) → va_S A s.heap H locs → lv_has ls 6 [(0, .ref (ad 5)), (1, .int w126_1), (2, .int w126_2), (3, .int w126_3), (4, .int w126_4), (5, .int w126_5)] → W p l e (rmD 2 0 0) s m [.ref (ad 5)].toArray below meth c H locs 0 0 (MQ below (QI D K (fun (r : Int32) (u : tSt) => okX u ∧ frA [] [] [28, 42, 43] [] t u ∧ (-2147483648 : Int) ≤ r.toInt ∧ r.toInt ≤ 2147483647) (fun (u : tSt) => (WX d) K ad u) A) [.ref (ad 5)].toArray s 0 0 A) (F0 m 126 ls []) := by
        intro t1 w126_1 w126_2 w126_3 w126_4 w126_5 H locs ls hok hfr hw126_1 hw126_3 hw126_4 hf126_12 hm126_41 hP hD hS hl
        have h_15 : (t1.1 23 3).toInt = (t.1 23 3).toInt := ti_eq (hfr.1 23 3 rfl)
        have h_16 : (0 : Int) ≤ (t1.1 23 3).toInt ∧ (t1.1 23 3).toInt ≤ 1024 := hok.1 23 3
        refine lv_iload C.1 C.2.1 dX0_placeComing_126 (lv_at hl 5 rfl) ?_
        refine lv_if_lt (tgt := 179) C.1 C.2.1 dX0_placeComing_128 (by decide) (fun c_17 => ?_) (fun c_17 => ?_)
        · replace c_17 : w126_5.toInt < 0 := i_lt c_17
          exact L_179 t1 w126_1 w126_2 w126_3 w126_4 w126_5 _ _ _ hok hfr ⟨by omega, (i_rng _).2⟩ ⟨by omega, by omega⟩ ⟨by omega, (i_rng _).2⟩ (show (1 : Int) ≤ ((t1.1 23 12) : Int32).toInt ∧ ((t1.1 23 12) : Int32).toInt ≤ 512 from ⟨by omega, by omega⟩) (show (512 : Int) - w126_3.toInt < (fuel_41 : Int) + 1 from by omega) hP hD hS (lv_sub hl [0, 1, 2, 3, 4, 5] rfl)
        · replace c_17 : 0 ≤ w126_5.toInt := i_nlt c_17
          refine lv_iload C.1 C.2.1 dX0_placeComing_131 (lv_at hl 5 rfl) ?_
          refine lv_bipush (v := 10) C.1 C.2.1 dX0_placeComing_133 (by decide) ?_
          refine lv_icmp_ge (tgt := 179) C.1 C.2.1 dX0_placeComing_135 (by decide) (fun c_18 => ?_) (fun c_18 => ?_)
          · replace c_18 : 10 ≤ w126_5.toInt := i_le c_18
            exact L_179 t1 w126_1 w126_2 w126_3 w126_4 w126_5 _ _ _ hok hfr ⟨by omega, (i_rng _).2⟩ ⟨by omega, by omega⟩ ⟨by omega, (i_rng _).2⟩ (show (1 : Int) ≤ ((t1.1 23 12) : Int32).toInt ∧ ((t1.1 23 12) : Int32).toInt ≤ 512 from ⟨by omega, by omega⟩) (show (512 : Int) - w126_3.toInt < (fuel_41 : Int) + 1 from by omega) hP hD hS (lv_sub hl [0, 1, 2, 3, 4, 5] rfl)
          · replace c_18 : w126_5.toInt < 10 := i_nle c_18
            refine lv_aload_n C.1 C.2.1 dX0_placeComing_138 rfl (lv_at hl 0 rfl) ?_
            refine k_get (v := .ref (ad 28)) C hP 5 rfl rfl inlX0 8 (by decide) m_5_16 rfl dX0_placeComing_139 ?_
            refine lv_iload C.1 C.2.1 dX0_placeComing_142 (lv_at hl 5 rfl) ?_
            obtain ⟨v_19, e_20⟩ : ∃ z, z = (t1.2.2.1 28 (w126_5 : Int32).toNatClampNeg) := ⟨_, rfl⟩
            refine k_ild (v := v_19) C hP 28 rfl (vp_in_iff.mpr ⟨by omega, by omega⟩) e_20.symm dX0_placeComing_144 ?_
            refine lv_sipush (v := 9999) C.1 C.2.1 dX0_placeComing_145 (by decide) ?_
            refine lv_icmp_ne (tgt := 179) C.1 C.2.1 dX0_placeComing_148 (by decide) (fun c_21 => ?_) (fun c_21 => ?_)
            · replace c_21 : ¬ v_19.toInt = 9999 := i_ne c_21
              exact L_179 t1 w126_1 w126_2 w126_3 w126_4 w126_5 _ _ _ hok hfr ⟨by omega, (i_rng _).2⟩ ⟨by omega, by omega⟩ ⟨by omega, (i_rng _).2⟩ (show (1 : Int) ≤ ((t1.1 23 12) : Int32).toInt ∧ ((t1.1 23 12) : Int32).toInt ≤ 512 from ⟨by omega, by omega⟩) (show (512 : Int) - w126_3.toInt < (fuel_41 : Int) + 1 from by omega) hP hD hS (lv_sub hl [0, 1, 2, 3, 4, 5] rfl)
            · replace c_21 : v_19.toInt = 9999 := i_eq c_21
              refine lv_aload_n C.1 C.2.1 dX0_placeComing_151 rfl (lv_at hl 0 rfl) ?_
              have h_22 : (0 : Int) ≤ (t1.1 5 12).toInt ∧ (t1.1 5 12).toInt ≤ 3 := hok.1 5 12
              refine k_get (v := .int (t1.1 5 12)) C hP 5 rfl rfl inlX0 12 (by decide) m_18_20 rfl dX0_placeComing_152 ?_
              refine lv_iconst (v := 3) C.1 C.2.1 dX0_placeComing_155 (by decide) ?_
              refine lv_icmp_ne (tgt := 168) C.1 C.2.1 dX0_placeComing_156 (by decide) (fun c_23 => ?_) (fun c_23 => ?_)
              · replace c_23 : ¬ (t1.1 5 12).toInt = 3 := i_ne c_23
                exact L_168 t1 w126_1 w126_2 w126_3 w126_4 w126_5 _ _ _ hok hfr ⟨by omega, (i_rng _).2⟩ ⟨by omega, by omega⟩ ⟨by omega, (i_rng _).2⟩ ⟨by omega, by omega⟩ (show (1 : Int) ≤ ((t1.1 23 12) : Int32).toInt ∧ ((t1.1 23 12) : Int32).toInt ≤ 512 from ⟨by omega, by omega⟩) (show (512 : Int) - w126_3.toInt < (fuel_41 : Int) + 1 from by omega) hP hD hS (lv_sub hl [0, 1, 2, 3, 4, 5] rfl)
              · replace c_23 : (t1.1 5 12).toInt = 3 := i_eq c_23
                refine lv_aload_n C.1 C.2.1 dX0_placeComing_159 rfl (lv_at hl 0 rfl) ?_
                have h_24 : (-3999 : Int) ≤ (t1.1 5 14).toInt ∧ (t1.1 5 14).toInt ≤ 79 := hok.1 5 14
                refine k_get (v := .int (t1.1 5 14)) C hP 5 rfl rfl inlX0 14 (by decide) m_19_0 rfl dX0_placeComing_160 ?_
                refine lv_iload C.1 C.2.1 dX0_placeComing_163 (lv_at hl 5 rfl) ?_
                refine lv_icmp_eq (tgt := 179) C.1 C.2.1 dX0_placeComing_165 (by decide) (fun c_25 => ?_) (fun c_25 => ?_)
                · replace c_25 : (t1.1 5 14).toInt = w126_5.toInt := i_eq c_25
                  exact L_179 t1 w126_1 w126_2 w126_3 w126_4 w126_5 _ _ _ hok hfr ⟨by omega, (i_rng _).2⟩ ⟨by omega, by omega⟩ ⟨by omega, (i_rng _).2⟩ (show (1 : Int) ≤ ((t1.1 23 12) : Int32).toInt ∧ ((t1.1 23 12) : Int32).toInt ≤ 512 from ⟨by omega, by omega⟩) (show (512 : Int) - w126_3.toInt < (fuel_41 : Int) + 1 from by omega) hP hD hS (lv_sub hl [0, 1, 2, 3, 4, 5] rfl)
                · replace c_25 : ¬ (t1.1 5 14).toInt = w126_5.toInt := i_ne c_25
                  exact L_168 t1 w126_1 w126_2 w126_3 w126_4 w126_5 _ _ _ hok hfr ⟨by omega, (i_rng _).2⟩ ⟨by omega, by omega⟩ ⟨by omega, (i_rng _).2⟩ ⟨by omega, by omega⟩ (show (1 : Int) ≤ ((t1.1 23 12) : Int32).toInt ∧ ((t1.1 23 12) : Int32).toInt ≤ 512 from ⟨by omega, by omega⟩) (show (512 : Int) - w126_3.toInt < (fuel_41 : Int) + 1 from by omega) hP hD hS (lv_sub hl [0, 1, 2, 3, 4, 5] rfl)
      refine lv_iload_n C.1 C.2.1 dX0_placeComing_41 rfl (lv_at hl 3 rfl) ?_
      refine lv_aload_n C.1 C.2.1 dX0_placeComing_42 rfl (lv_at hl 0 rfl) ?_
      refine k_get (v := .ref (ad 23)) C hP 5 rfl rfl inlX0 2 (by decide) m_5_19 rfl dX0_placeComing_43 ?_
      have h_26 : (0 : Int) ≤ (t1.1 23 12).toInt ∧ (t1.1 23 12).toInt ≤ 512 := hok.1 23 12
      refine k_get (v := .int (t1.1 23 12)) C hP 23 rfl rfl inlX8 12 (by decide) m_27_3 rfl dX0_placeComing_46 ?_
      refine lv_icmp_ge (tgt := 185) C.1 C.2.1 dX0_placeComing_49 (by decide) (fun c_27 => ?_) (fun c_27 => ?_)
      · replace c_27 : (t1.1 23 12).toInt ≤ w41_3.toInt := i_le c_27
        refine lv_iload_n C.1 C.2.1 dX0_placeComing_185 rfl (lv_at hl 2 rfl) ?_
        exact g_iret C hr hlocks hP hD hS rfl t1 rfl ⟨hok, hfr, (i_rng _).1, (i_rng _).2⟩ (Nat.le_of_ble_eq_true rfl) (Nat.le_of_ble_eq_true rfl) dX0_placeComing_186
      · replace c_27 : w41_3.toInt < (t1.1 23 12).toInt := i_nle c_27
        refine lv_aload_n C.1 C.2.1 dX0_placeComing_52 rfl (lv_at hl 0 rfl) ?_
        refine k_get (v := .ref (ad 23)) C hP 5 rfl rfl inlX0 2 (by decide) m_5_19 rfl dX0_placeComing_53 ?_
        refine k_get (v := .ref (ad 49)) C hP 23 rfl rfl inlX8 10 (by decide) m_27_4 rfl dX0_placeComing_56 ?_
        refine lv_iload_n C.1 C.2.1 dX0_placeComing_59 rfl (lv_at hl 3 rfl) ?_
        obtain ⟨v_28, e_29⟩ : ∃ z, z = (t1.2.2.1 49 (w41_3 : Int32).toNatClampNeg) := ⟨_, rfl⟩
        have h_30 : (-128 : Int) ≤ v_28.toInt ∧ v_28.toInt ≤ 2147483647 := by rw [e_29]; exact hok.2.1 49 _
        refine k_ild (v := v_28) C hP 49 rfl (vp_in_iff.mpr ⟨by omega, by omega⟩) e_29.symm dX0_placeComing_60 ?_
        refine lv_istore (lv' := [(4, .int v_28), (0, .ref (ad 5)), (1, .int w41_1), (2, .int w41_2), (3, .int w41_3)]) C.1 C.2.1 dX0_placeComing_61 hl (by decide) rfl (fun ls hl => ?_)
        have hl : lv_has ls 6 [(0, .ref (ad 5)), (1, .int w41_1), (2, .int w41_2), (3, .int w41_3), (4, .int v_28)] := lv_sub hl [1, 2, 3, 4, 0] rfl
        refine lv_bipush (v := (-10)) C.1 C.2.1 dX0_placeComing_63 (by decide) ?_
        refine lv_iload C.1 C.2.1 dX0_placeComing_65 (lv_at hl 4 rfl) ?_
        obtain ⟨v_31, e_32⟩ : ∃ z, z = ((-10) : Int32) - (v_28 : Int32) := ⟨_, rfl⟩
        refine k_isub (v := v_31) C e_32.symm dX0_placeComing_67 ?_
        refine lv_istore (lv' := [(5, .int v_31), (0, .ref (ad 5)), (1, .int w41_1), (2, .int w41_2), (3, .int w41_3), (4, .int v_28)]) C.1 C.2.1 dX0_placeComing_68 hl (by decide) rfl (fun ls hl => ?_)
        have hl : lv_has ls 6 [(0, .ref (ad 5)), (1, .int w41_1), (2, .int w41_2), (3, .int w41_3), (4, .int v_28), (5, .int v_31)] := lv_sub hl [1, 2, 3, 4, 5, 0] rfl
        refine lv_iload C.1 C.2.1 dX0_placeComing_70 (lv_at hl 4 rfl) ?_
        refine lv_iconst (v := (-1)) C.1 C.2.1 dX0_placeComing_72 (by decide) ?_
        refine lv_icmp_ne (tgt := 82) C.1 C.2.1 dX0_placeComing_73 (by decide) (fun c_34 => ?_) (fun c_34 => ?_)
        · replace c_34 : ¬ v_28.toInt = (-1) := i_ne c_34
          refine lv_iload C.1 C.2.1 dX0_placeComing_82 (lv_at hl 4 rfl) ?_
          refine lv_if_lt (tgt := 126) C.1 C.2.1 dX0_placeComing_84 (by decide) (fun c_35 => ?_) (fun c_35 => ?_)
          · replace c_35 : v_28.toInt < 0 := i_lt c_35
            exact L_126 t1 w41_1 w41_2 w41_3 v_28 v_31 _ _ _ hok hfr ⟨by omega, (i_rng _).2⟩ ⟨by omega, by omega⟩ ⟨by omega, (i_rng _).2⟩ (show (1 : Int) ≤ ((t1.1 23 12) : Int32).toInt ∧ ((t1.1 23 12) : Int32).toInt ≤ 512 from ⟨by omega, by omega⟩) (show (512 : Int) - w41_3.toInt < (fuel_41 : Int) + 1 from by omega) hP hD hS (lv_sub hl [0, 1, 2, 3, 4, 5] rfl)
          · replace c_35 : 0 ≤ v_28.toInt := i_nlt c_35
            refine lv_iload C.1 C.2.1 dX0_placeComing_87 (lv_at hl 4 rfl) ?_
            refine lv_iload_n C.1 C.2.1 dX0_placeComing_89 rfl (lv_at hl 1 rfl) ?_
            refine lv_icmp_eq (tgt := 126) C.1 C.2.1 dX0_placeComing_90 (by decide) (fun c_36 => ?_) (fun c_36 => ?_)
            · replace c_36 : v_28.toInt = w41_1.toInt := i_eq c_36
              exact L_126 t1 w41_1 w41_2 w41_3 v_28 v_31 _ _ _ hok hfr ⟨by omega, (i_rng _).2⟩ ⟨by omega, by omega⟩ ⟨by omega, (i_rng _).2⟩ (show (1 : Int) ≤ ((t1.1 23 12) : Int32).toInt ∧ ((t1.1 23 12) : Int32).toInt ≤ 512 from ⟨by omega, by omega⟩) (show (512 : Int) - w41_3.toInt < (fuel_41 : Int) + 1 from by omega) hP hD hS (lv_sub hl [0, 1, 2, 3, 4, 5] rfl)
            · replace c_36 : ¬ v_28.toInt = w41_1.toInt := i_ne c_36
              refine lv_aload_n C.1 C.2.1 dX0_placeComing_93 rfl (lv_at hl 0 rfl) ?_
              refine k_get (v := .ref (ad 23)) C hP 5 rfl rfl inlX0 2 (by decide) m_5_19 rfl dX0_placeComing_94 ?_
              refine lv_iload C.1 C.2.1 dX0_placeComing_97 (lv_at hl 4 rfl) ?_
              refine g_Vi (As := [.int v_28]) (rest := []) C hP hD hS hA (T_X8_standing l D K Z Y ad d t1 hok (v_28) (show (-128 : Int) ≤ (v_28 : Int32).toInt ∧ (v_28 : Int32).toInt ≤ 2147483647 from ⟨by omega, (i_rng _).2⟩)) hE hZ (uwV m_20_15 m_20_16 m_20_17 m_2_5 m_20_18) (hdV 1 (by decide +kernel) rfl) ⟨Nat.le_of_ble_eq_true rfl, Nat.le_of_ble_eq_true rfl⟩ rfl rfl (ci := 7) (q0 := 23) rfl rfl rfl hl.1 (Nat.le_of_ble_eq_true rfl) dX0_placeComing_99 ⟨Nat.le_of_ble_eq_true rfl, Nat.le_of_ble_eq_true rfl⟩ (fun r_38 t_37 H locs hw hP hD hS => ?_)
              obtain ⟨h_40, h_41, p_42⟩ := hw
              replace p_42 : ¬ r_38.toInt = 0 → 0 ≤ v_28.toInt ∧ v_28.toInt < (t1.1 23 3).toInt := p_42
              refine lv_if_ne (tgt := 126) C.1 C.2.1 dX0_placeComing_102 (by decide) (fun c_43 => ?_) (fun c_43 => ?_)
              · replace c_43 : ¬ r_38.toInt = 0 := i_ne c_43
                exact L_126 t1 w41_1 w41_2 w41_3 v_28 v_31 _ _ _ hok hfr ⟨by omega, (i_rng _).2⟩ ⟨by omega, by omega⟩ ⟨by omega, (i_rng _).2⟩ (show (1 : Int) ≤ ((t1.1 23 12) : Int32).toInt ∧ ((t1.1 23 12) : Int32).toInt ≤ 512 from ⟨by omega, by omega⟩) (show (512 : Int) - w41_3.toInt < (fuel_41 : Int) + 1 from by omega) hP hD hS (lv_sub hl [0, 1, 2, 3, 4, 5] rfl)
              · replace c_43 : r_38.toInt = 0 := i_eq c_43
                refine lv_aload_n C.1 C.2.1 dX0_placeComing_105 rfl (lv_at hl 0 rfl) ?_
                refine k_get (v := .ref (ad 23)) C hP 5 rfl rfl inlX0 2 (by decide) m_5_19 rfl dX0_placeComing_106 ?_
                refine lv_iload C.1 C.2.1 dX0_placeComing_109 (lv_at hl 4 rfl) ?_
                refine lv_iconst (v := 1) C.1 C.2.1 dX0_placeComing_111 (by decide) ?_
                refine lv_iload_n C.1 C.2.1 dX0_placeComing_112 rfl (lv_at hl 2 rfl) ?_
                obtain ⟨v_44, e_45⟩ : ∃ z, z = (w41_2 : Int32).toInt64 := ⟨_, rfl⟩
                have h_46 : v_44.toInt = w41_2.toInt := by rw [e_45]; exact Jvm.Kit.i64_of_i32 _
                have h_47 := i_rng w41_2
                refine lv_i2l (v := v_44) C.1 C.2.1 dX0_placeComing_113 e_45.symm ?_
                refine g_Si (As := [.long v_44]) (rest := [.int 1, .int v_28, .ref (ad 23)]) C hP hD hS hA (T_X1_wordOf l D K Z Y ad d t1 hok (v_44)) hE hZ (uwS m_25_10 m_22_11 m_14_2 m_22_12) (hdS 1 (by decide +kernel) rfl) ⟨Nat.le_of_ble_eq_true rfl, Nat.le_of_ble_eq_true rfl⟩ rfl rfl rfl hl.1 (Nat.le_of_ble_eq_true rfl) dX0_placeComing_114 ⟨Nat.le_of_ble_eq_true rfl, Nat.le_of_ble_eq_true rfl⟩ (fun r_49 t_48 H locs hw hP hD hS => ?_)
                obtain ⟨h_51, h_52⟩ := hw
                refine g_Vv (As := [.int v_28, .int 1, .int r_49]) (rest := []) C hP hD hS hA (T_X8_stand l D K Z Y ad d t1 hok (v_28) (show (-1 : Int) ≤ (v_28 : Int32).toInt ∧ (v_28 : Int32).toInt ≤ 2147483647 from ⟨by omega, (i_rng _).2⟩) 1 (show (0 : Int) ≤ (1 : Int32).toInt ∧ (1 : Int32).toInt ≤ 2 from ⟨by decide, by decide⟩) (r_49)) hE hZ (uwV m_25_20 m_25_21 m_25_22 m_2_5 m_25_23) (hdV 3 (by decide +kernel) rfl) ⟨Nat.le_of_ble_eq_true rfl, Nat.le_of_ble_eq_true rfl⟩ rfl rfl (ci := 7) (q0 := 23) rfl rfl rfl hl.1 (Nat.le_of_ble_eq_true rfl) dX0_placeComing_117 ⟨Nat.le_of_ble_eq_true rfl, Nat.le_of_ble_eq_true rfl⟩ (fun t_53 H locs hw hP hD hS => ?_)
                obtain ⟨hok, f_55⟩ := hw
                have hfr : frA [] [] [28, 42, 43] [] t t_53 := frA_tr hfr f_55 rfl
                have h_56 : (t_53.1 23 12).toInt = (t1.1 23 12).toInt := ti_eq (f_55.1 23 12 rfl)
                have h_57 : (t_53.1 23 3).toInt = (t1.1 23 3).toInt := ti_eq (f_55.1 23 3 rfl)
                have h_58 : (0 : Int) ≤ (t_53.1 23 3).toInt ∧ (t_53.1 23 3).toInt ≤ 1024 := hok.1 23 3
                obtain ⟨v_59, e_60⟩ : ∃ z, z = w41_2 + 1 := ⟨_, rfl⟩
                refine lv_iinc (v := v_59) (lv' := [(2, .int v_59), (0, .ref (ad 5)), (1, .int w41_1), (3, .int w41_3), (4, .int v_28), (5, .int v_31)]) C.1 C.2.1 dX0_placeComing_120 hl (k := 2) rfl e_60.symm (by decide) rfl (fun ls hl => ?_)
                have hl : lv_has ls 6 [(0, .ref (ad 5)), (1, .int w41_1), (2, .int v_59), (3, .int w41_3), (4, .int v_28), (5, .int v_31)] := lv_sub hl [1, 2, 0, 3, 4, 5] rfl
                refine lv_goto (tgt := 179) C.1 C.2.1 dX0_placeComing_123 (by decide) ?_
                exact L_179 t_53 w41_1 v_59 w41_3 v_28 v_31 _ _ _ hok hfr ⟨by omega, (i_rng _).2⟩ ⟨by omega, by omega⟩ ⟨by omega, (i_rng _).2⟩ (show (1 : Int) ≤ ((t_53.1 23 12) : Int32).toInt ∧ ((t_53.1 23 12) : Int32).toInt ≤ 512 from ⟨by omega, by omega⟩) (show (512 : Int) - w41_3.toInt < (fuel_41 : Int) + 1 from by omega) hP hD hS (lv_sub hl [0, 1, 2, 3, 4, 5] rfl)
        · replace c_34 : v_28.toInt = (-1) := i_eq c_34
          obtain ⟨v_61, e_62⟩ : ∃ z, z = w41_2 + 1 := ⟨_, rfl⟩
          refine lv_iinc (v := v_61) (lv' := [(2, .int v_61), (0, .ref (ad 5)), (1, .int w41_1), (3, .int w41_3), (4, .int v_28), (5, .int v_31)]) C.1 C.2.1 dX0_placeComing_76 hl (k := 2) rfl e_62.symm (by decide) rfl (fun ls hl => ?_)
          have hl : lv_has ls 6 [(0, .ref (ad 5)), (1, .int w41_1), (2, .int v_61), (3, .int w41_3), (4, .int v_28), (5, .int v_31)] := lv_sub hl [1, 2, 0, 3, 4, 5] rfl
          refine lv_goto (tgt := 179) C.1 C.2.1 dX0_placeComing_79 (by decide) ?_
          exact L_179 t1 w41_1 v_61 w41_3 v_28 v_31 _ _ _ hok hfr ⟨by omega, (i_rng _).2⟩ ⟨by omega, by omega⟩ ⟨by omega, (i_rng _).2⟩ (show (1 : Int) ≤ ((t1.1 23 12) : Int32).toInt ∧ ((t1.1 23 12) : Int32).toInt ≤ 512 from ⟨by omega, by omega⟩) (show (512 : Int) - w41_3.toInt < (fuel_41 : Int) + 1 from by omega) hP hD hS (lv_sub hl [0, 1, 2, 3, 4, 5] rfl)
  have L_23 : ∀ (t1 : tSt) (k23_0 : Int32) (H : Heap) (locs : List Loc) (ls : Array Slot), okX t1 → frA [] [] [28, 42, 43] [] t t1 → (-1 : Int) ≤ k23_0.toInt ∧ k23_0.toInt ≤ 2147483647 → va_P D vwCl ((WX d) K ad t1) H → va_D A ((WX d) K ad t1) → va_S A s.heap H locs → lv_has ls 6 [(0, .ref (ad 5))] → W p l e (rmD 2 0 0) s m [.ref (ad 5)].toArray below meth c H locs 0 0 (MQ below (QI D K (fun (r : Int32) (u : tSt) => okX u ∧ frA [] [] [28, 42, 43] [] t u ∧ (-2147483648 : Int) ≤ r.toInt ∧ r.toInt ≤ 2147483647) (fun (u : tSt) => (WX d) K ad u) A) [.ref (ad 5)].toArray s 0 0 A) (F0 m 23 ls [.int k23_0]) := by
    intro t1 k23_0 H locs ls hok hfr hk23_0 hP hD hS hl
    have h_63 : (t1.1 23 3).toInt = (t.1 23 3).toInt := ti_eq (hfr.1 23 3 rfl)
    have h_64 : (0 : Int) ≤ (t1.1 23 3).toInt ∧ (t1.1 23 3).toInt ≤ 1024 := hok.1 23 3
    refine lv_istore_n (lv' := [(1, .int k23_0), (0, .ref (ad 5))]) C.1 C.2.1 dX0_placeComing_23 rfl hl (by decide) rfl (fun ls hl => ?_)
    have hl : lv_has ls 6 [(0, .ref (ad 5)), (1, .int k23_0)] := lv_sub hl [1, 0] rfl
    refine lv_aload_n C.1 C.2.1 dX0_placeComing_24 rfl (lv_at hl 0 rfl) ?_
    have h_65 : (-1073741824 : Int) ≤ (t1.1 5 9).toInt ∧ (t1.1 5 9).toInt ≤ 1073741824 := hok.1 5 9
    refine k_get (v := .int (t1.1 5 9)) C hP 5 rfl rfl inlX0 9 (by decide) m_12_3 rfl dX0_placeComing_25 ?_
    refine lv_istore_n (lv' := [(2, .int (t1.1 5 9)), (0, .ref (ad 5)), (1, .int k23_0)]) C.1 C.2.1 dX0_placeComing_28 rfl hl (by decide) rfl (fun ls hl => ?_)
    have hl : lv_has ls 6 [(0, .ref (ad 5)), (1, .int k23_0), (2, .int (t1.1 5 9))] := lv_sub hl [1, 2, 0] rfl
    refine lv_aload_n C.1 C.2.1 dX0_placeComing_29 rfl (lv_at hl 0 rfl) ?_
    refine k_get (v := .ref (ad 28)) C hP 5 rfl rfl inlX0 8 (by decide) m_5_16 rfl dX0_placeComing_30 ?_
    refine lv_sipush (v := 9999) C.1 C.2.1 dX0_placeComing_33 (by decide) ?_
    refine g_Sv (W' := fun (_ : Unit) => (WX d) K ad (fB t1 28 9999)) (As := [.ref (ad 28), .int 9999]) (rest := []) C hP hD hS hA (TJ_fillI l D K Z Y ((WX d) K ad t1) 28 (ad 28) 10 (by decide) _ 9999 9999 rfl rfl) hE hZ (uwS m_27_5 m_11_11 m_11_12 m_11_13) (hdS 2 (by decide +kernel) rfl) ⟨Nat.le_of_ble_eq_true rfl, Nat.le_of_ble_eq_true rfl⟩ rfl rfl rfl hl.1 (Nat.le_of_ble_eq_true rfl) dX0_placeComing_36 ⟨Nat.le_of_ble_eq_true rfl, Nat.le_of_ble_eq_true rfl⟩ (fun u_ H locs hw hP hD hS => ?_)
    have hok : okX (fB t1 28 9999) := ⟨hok.1, okB_f hok.2.1 28 9999 (show (-2147483648 : Int) ≤ (9999 : Int32).toInt ∧ (9999 : Int32).toInt ≤ 2147483647 from (i_rng _)), trivial⟩
    have hfr : frA [] [] [28, 42, 43] [] t (fB t1 28 9999) := frA_fB hfr 28 _ rfl
    refine lv_iconst (v := 0) C.1 C.2.1 dX0_placeComing_39 (by decide) ?_
    refine lv_istore_n (lv' := [(3, .int 0), (0, .ref (ad 5)), (1, .int k23_0), (2, .int (t1.1 5 9))]) C.1 C.2.1 dX0_placeComing_40 rfl hl (by decide) rfl (fun ls hl => ?_)
    have hl : lv_has ls 6 [(0, .ref (ad 5)), (1, .int k23_0), (2, .int (t1.1 5 9)), (3, .int 0)] := lv_sub hl [1, 2, 3, 0] rfl
    exact L_41 513 (fB t1 28 9999) k23_0 (t1.1 5 9) 0 _ _ _ hok hfr ⟨by omega, (i_rng _).2⟩ ⟨by decide, by decide⟩ (show (512 : Int) - 0 < ((513 : Nat) : Int) from by omega) hP hD hS (lv_sub hl [0, 1, 2, 3] rfl)
  refine lv_aload_n C.1 C.2.1 dX0_placeComing_0 rfl (lv_at hl 0 rfl) ?_
  have h_66 : (0 : Int) ≤ (t.1 5 12).toInt ∧ (t.1 5 12).toInt ≤ 3 := hok.1 5 12
  refine k_get (v := .int (t.1 5 12)) C hP 5 rfl rfl inlX0 12 (by decide) m_18_20 rfl dX0_placeComing_1 ?_
  refine lv_iconst (v := 2) C.1 C.2.1 dX0_placeComing_4 (by decide) ?_
  refine lv_icmp_ne (tgt := 22) C.1 C.2.1 dX0_placeComing_5 (by decide) (fun c_67 => ?_) (fun c_67 => ?_)
  · replace c_67 : ¬ (t.1 5 12).toInt = 2 := i_ne c_67
    refine lv_iconst (v := (-1)) C.1 C.2.1 dX0_placeComing_22 (by decide) ?_
    exact L_23 t (-1) _ _ _ hok hfr ⟨by decide, by decide⟩ hP hD hS (lv_sub hl [0] rfl)
  · replace c_67 : (t.1 5 12).toInt = 2 := i_eq c_67
    refine lv_aload_n C.1 C.2.1 dX0_placeComing_8 rfl (lv_at hl 0 rfl) ?_
    refine k_get (v := .ref (ad 23)) C hP 5 rfl rfl inlX0 2 (by decide) m_5_19 rfl dX0_placeComing_9 ?_
    refine lv_aload_n C.1 C.2.1 dX0_placeComing_12 rfl (lv_at hl 0 rfl) ?_
    refine k_get (v := .long (t.2.1 5 13)) C hP 5 rfl rfl inlX0 13 (by decide) m_18_22 rfl dX0_placeComing_13 ?_
    refine g_Vi (As := [.long (t.2.1 5 13)]) (rest := []) C hP hD hS hA (T_X8_find l D K Z Y ad d t hok ((t.2.1 5 13))) hE hZ (uwV m_20_11 m_20_12 m_20_13 m_2_5 m_20_14) (hdV 1 (by decide +kernel) rfl) ⟨Nat.le_of_ble_eq_true rfl, Nat.le_of_ble_eq_true rfl⟩ rfl rfl (ci := 7) (q0 := 23) rfl rfl rfl hl.1 (Nat.le_of_ble_eq_true rfl) dX0_placeComing_16 ⟨Nat.le_of_ble_eq_true rfl, Nat.le_of_ble_eq_true rfl⟩ (fun r_69 t_68 H locs hw hP hD hS => ?_)
    obtain ⟨h_71, h_72⟩ := hw
    refine lv_goto (tgt := 23) C.1 C.2.1 dX0_placeComing_19 (by decide) ?_
    exact L_23 t r_69 _ _ _ hok hfr ⟨by omega, (i_rng _).2⟩ hP hD hS (lv_sub hl [0] rfl)

theorem dX0_define_0 : decode cX0_define 0 = .ok (.aload_n 0, 1) := by decide +kernel
theorem dX0_define_1 : decode cX0_define 1 = .ok (.getfield 119, 3) := by decide +kernel
theorem dX0_define_12 : decode cX0_define 12 = .ok (.aload_n 0, 1) := by decide +kernel
theorem dX0_define_13 : decode cX0_define 13 = .ok (.getfield 32, 3) := by decide +kernel
theorem dX0_define_16 : decode cX0_define 16 = .ok (.aload_n 0, 1) := by decide +kernel
theorem dX0_define_17 : decode cX0_define 17 = .ok (.getfield 134, 3) := by decide +kernel
theorem dX0_define_20 : decode cX0_define 20 = .ok (.invokevirtual 202, 3) := by decide +kernel
theorem dX0_define_23 : decode cX0_define 23 = .ok (.iconst 2, 1) := by decide +kernel
theorem dX0_define_24 : decode cX0_define 24 = .ok (.iload_n 1, 1) := by decide +kernel
theorem dX0_define_25 : decode cX0_define 25 = .ok (.invokevirtual 224, 3) := by decide +kernel
theorem dX0_define_28 : decode cX0_define 28 = .ok (.goto 23, 3) := by decide +kernel
theorem dX0_define_31 : decode cX0_define 31 = .ok (.aload_n 0, 1) := by decide +kernel
theorem dX0_define_32 : decode cX0_define 32 = .ok (.getfield 119, 3) := by decide +kernel
theorem dX0_define_35 : decode cX0_define 35 = .ok (.iconst 3, 1) := by decide +kernel
theorem dX0_define_36 : decode cX0_define 36 = .ok (.if_icmp .ne 15, 3) := by decide +kernel
theorem dX0_define_39 : decode cX0_define 39 = .ok (.aload_n 0, 1) := by decide +kernel
theorem dX0_define_4 : decode cX0_define 4 = .ok (.iconst 2, 1) := by decide +kernel
theorem dX0_define_40 : decode cX0_define 40 = .ok (.getfield 32, 3) := by decide +kernel
theorem dX0_define_43 : decode cX0_define 43 = .ok (.aload_n 0, 1) := by decide +kernel
theorem dX0_define_44 : decode cX0_define 44 = .ok (.getfield 140, 3) := by decide +kernel
theorem dX0_define_47 : decode cX0_define 47 = .ok (.iload_n 1, 1) := by decide +kernel
theorem dX0_define_48 : decode cX0_define 48 = .ok (.invokevirtual 227, 3) := by decide +kernel
theorem dX0_define_5 : decode cX0_define 5 = .ok (.if_icmp .ne 26, 3) := by decide +kernel
theorem dX0_define_51 : decode cX0_define 51 = .ok (.return_, 1) := by decide +kernel
theorem dX0_define_8 : decode cX0_define 8 = .ok (.aload_n 0, 1) := by decide +kernel
theorem dX0_define_9 : decode cX0_define 9 = .ok (.getfield 32, 3) := by decide +kernel
set_option maxHeartbeats 4000000 in
set_option maxRecDepth 100000 in
theorem T_X0_define (l : Launch) (D : va_G) (K : Nat → ClassId) (Z Y : Nat → Nat) (ad : Nat → Nat) (d : dSt) (t : tSt) (hok : okX t) (x1 : Int32) : tMet l yX0_define cX0_define 2 none (rmD 2 0 0) D K Z Y [.ref (ad 5), .int x1] ((WX d) K ad t) (QV D K (fun (u : tSt) => okX u ∧ frA [(23, 3)] [] [42, 43, 46, 47, 49, 50] [41] t u) (fun (u : tSt) => (WX d) K ad u)) 0 0 := by
  refine t_met RX0 ⟨rfl, by decide +kernel⟩ (Nat.le_of_ble_eq_true rfl) ?_
  intro p e s m below meth c A ls C hE hZ hr hlocks hA hP hD hS hl
  have hl : lv_has ls 2 [(0, .ref (ad 5)), (1, .int x1)] := hl
  have hokt := hok
  have hfr : frA [(23, 3)] [] [42, 43, 46, 47, 49, 50] [41] t t := frA_rf
  refine lv_aload_n C.1 C.2.1 dX0_define_0 rfl (lv_at hl 0 rfl) ?_
  have h_1 : (0 : Int) ≤ (t.1 5 12).toInt ∧ (t.1 5 12).toInt ≤ 3 := hok.1 5 12
  refine k_get (v := .int (t.1 5 12)) C hP 5 rfl rfl inlX0 12 (by decide) m_18_20 rfl dX0_define_1 ?_
  refine lv_iconst (v := 2) C.1 C.2.1 dX0_define_4 (by decide) ?_
  refine lv_icmp_ne (tgt := 31) C.1 C.2.1 dX0_define_5 (by decide) (fun c_2 => ?_) (fun c_2 => ?_)
  · replace c_2 : ¬ (t.1 5 12).toInt = 2 := i_ne c_2
    refine lv_aload_n C.1 C.2.1 dX0_define_31 rfl (lv_at hl 0 rfl) ?_
    refine k_get (v := .int (t.1 5 12)) C hP 5 rfl rfl inlX0 12 (by decide) m_18_20 rfl dX0_define_32 ?_
    refine lv_iconst (v := 3) C.1 C.2.1 dX0_define_35 (by decide) ?_
    refine lv_icmp_ne (tgt := 51) C.1 C.2.1 dX0_define_36 (by decide) (fun c_3 => ?_) (fun c_3 => ?_)
    · replace c_3 : ¬ (t.1 5 12).toInt = 3 := i_ne c_3
      exact g_vret C hr hlocks hP hD hS t rfl ⟨hok, hfr⟩ (Nat.le_of_ble_eq_true rfl) (Nat.le_of_ble_eq_true rfl) dX0_define_51
    · replace c_3 : (t.1 5 12).toInt = 3 := i_eq c_3
      refine lv_aload_n C.1 C.2.1 dX0_define_39 rfl (lv_at hl 0 rfl) ?_
      refine k_get (v := .ref (ad 23)) C hP 5 rfl rfl inlX0 2 (by decide) m_5_19 rfl dX0_define_40 ?_
      refine lv_aload_n C.1 C.2.1 dX0_define_43 rfl (lv_at hl 0 rfl) ?_
      have h_4 : (-3999 : Int) ≤ (t.1 5 14).toInt ∧ (t.1 5 14).toInt ≤ 79 := hok.1 5 14
      refine k_get (v := .int (t.1 5 14)) C hP 5 rfl rfl inlX0 14 (by decide) m_19_0 rfl dX0_define_44 ?_
      refine lv_iload_n C.1 C.2.1 dX0_define_47 rfl (lv_at hl 1 rfl) ?_
      refine g_Vv (As := [.int (t.1 5 14), .int x1]) (rest := []) C hP hD hS hA (T_X8_enterLocal l D K Z Y ad d t hok ((t.1 5 14)) (show (-3999 : Int) ≤ ((t.1 5 14) : Int32).toInt ∧ ((t.1 5 14) : Int32).toInt ≤ 79 from ⟨by omega, by omega⟩) (x1)) hE hZ (uwV m_26_0 m_26_1 m_26_2 m_2_5 m_26_3) (hdV 2 (by decide +kernel) rfl) ⟨Nat.le_of_ble_eq_true rfl, Nat.le_of_ble_eq_true rfl⟩ rfl rfl (ci := 7) (q0 := 23) rfl rfl rfl hl.1 (Nat.le_of_ble_eq_true rfl) dX0_define_48 ⟨Nat.le_of_ble_eq_true rfl, Nat.le_of_ble_eq_true rfl⟩ (fun t_5 H locs hw hP hD hS => ?_)
      obtain ⟨hok, f_7⟩ := hw
      have hfr : frA [(23, 3)] [] [42, 43, 46, 47, 49, 50] [41] t t_5 := frA_tr hfr f_7 rfl
      have h_8 : (t_5.1 5 12).toInt = (t.1 5 12).toInt := ti_eq (f_7.1 5 12 rfl)
      have h_9 : (t_5.1 5 14).toInt = (t.1 5 14).toInt := ti_eq (f_7.1 5 14 rfl)
      exact g_vret C hr hlocks hP hD hS t_5 rfl ⟨hok, hfr⟩ (Nat.le_of_ble_eq_true rfl) (Nat.le_of_ble_eq_true rfl) dX0_define_51
  · replace c_2 : (t.1 5 12).toInt = 2 := i_eq c_2
    refine lv_aload_n C.1 C.2.1 dX0_define_8 rfl (lv_at hl 0 rfl) ?_
    refine k_get (v := .ref (ad 23)) C hP 5 rfl rfl inlX0 2 (by decide) m_5_19 rfl dX0_define_9 ?_
    refine lv_aload_n C.1 C.2.1 dX0_define_12 rfl (lv_at hl 0 rfl) ?_
    refine k_get (v := .ref (ad 23)) C hP 5 rfl rfl inlX0 2 (by decide) m_5_19 rfl dX0_define_13 ?_
    refine lv_aload_n C.1 C.2.1 dX0_define_16 rfl (lv_at hl 0 rfl) ?_
    refine k_get (v := .long (t.2.1 5 13)) C hP 5 rfl rfl inlX0 13 (by decide) m_18_22 rfl dX0_define_17 ?_
    refine g_Vi (As := [.long (t.2.1 5 13)]) (rest := [.ref (ad 23)]) C hP hD hS hA (T_X8_enter l D K Z Y ad d t hok ((t.2.1 5 13))) hE hZ (uwV m_25_15 m_25_16 m_25_17 m_2_5 m_25_18) (hdV 1 (by decide +kernel) rfl) ⟨Nat.le_of_ble_eq_true rfl, Nat.le_of_ble_eq_true rfl⟩ rfl rfl (ci := 7) (q0 := 23) rfl rfl rfl hl.1 (Nat.le_of_ble_eq_true rfl) dX0_define_20 ⟨Nat.le_of_ble_eq_true rfl, Nat.le_of_ble_eq_true rfl⟩ (fun r_11 t_10 H locs hw hP hD hS => ?_)
    obtain ⟨hok, f_12, h_13, h_14⟩ := hw
    have hfr : frA [(23, 3)] [] [42, 43, 46, 47, 49, 50] [41] t t_10 := frA_tr hfr f_12 rfl
    have h_15 : (t_10.1 5 12).toInt = (t.1 5 12).toInt := ti_eq (f_12.1 5 12 rfl)
    refine lv_iconst (v := 2) C.1 C.2.1 dX0_define_23 (by decide) ?_
    refine lv_iload_n C.1 C.2.1 dX0_define_24 rfl (lv_at hl 1 rfl) ?_
    refine g_Vv (As := [.int r_11, .int 2, .int x1]) (rest := []) C hP hD hS hA (T_X8_stand l D K Z Y ad d t_10 hok (r_11) (show (-1 : Int) ≤ (r_11 : Int32).toInt ∧ (r_11 : Int32).toInt ≤ 2147483647 from ⟨by omega, (i_rng _).2⟩) 2 (show (0 : Int) ≤ (2 : Int32).toInt ∧ (2 : Int32).toInt ≤ 2 from ⟨by decide, by decide⟩) (x1)) hE hZ (uwV m_25_20 m_25_21 m_25_22 m_2_5 m_25_23) (hdV 3 (by decide +kernel) rfl) ⟨Nat.le_of_ble_eq_true rfl, Nat.le_of_ble_eq_true rfl⟩ rfl rfl (ci := 7) (q0 := 23) rfl rfl rfl hl.1 (Nat.le_of_ble_eq_true rfl) dX0_define_25 ⟨Nat.le_of_ble_eq_true rfl, Nat.le_of_ble_eq_true rfl⟩ (fun t_16 H locs hw hP hD hS => ?_)
    obtain ⟨hok, f_18⟩ := hw
    have hfr : frA [(23, 3)] [] [42, 43, 46, 47, 49, 50] [41] t t_16 := frA_tr hfr f_18 rfl
    have h_19 : (t_16.1 5 12).toInt = (t_10.1 5 12).toInt := ti_eq (f_18.1 5 12 rfl)
    refine lv_goto (tgt := 51) C.1 C.2.1 dX0_define_28 (by decide) ?_
    exact g_vret C hr hlocks hP hD hS t_16 rfl ⟨hok, hfr⟩ (Nat.le_of_ble_eq_true rfl) (Nat.le_of_ble_eq_true rfl) dX0_define_51

theorem dX2_jumps_0 : decode cX2_jumps 0 = .ok (.aload_n 0, 1) := by decide +kernel
theorem dX2_jumps_1 : decode cX2_jumps 1 = .ok (.getfield 84, 3) := by decide +kernel
theorem dX2_jumps_10 : decode cX2_jumps 10 = .ok (.getfield 84, 3) := by decide +kernel
theorem dX2_jumps_100 : decode cX2_jumps 100 = .ok (.if_icmp .ne 7, 3) := by decide +kernel
theorem dX2_jumps_103 : decode cX2_jumps 103 = .ok (.iconst 1, 1) := by decide +kernel
theorem dX2_jumps_104 : decode cX2_jumps 104 = .ok (.goto 20, 3) := by decide +kernel
theorem dX2_jumps_107 : decode cX2_jumps 107 = .ok (.iconst 0, 1) := by decide +kernel
theorem dX2_jumps_108 : decode cX2_jumps 108 = .ok (.goto 16, 3) := by decide +kernel
theorem dX2_jumps_111 : decode cX2_jumps 111 = .ok (.aload_n 0, 1) := by decide +kernel
theorem dX2_jumps_112 : decode cX2_jumps 112 = .ok (.getfield 87, 3) := by decide +kernel
theorem dX2_jumps_115 : decode cX2_jumps 115 = .ok (.iconst 4, 1) := by decide +kernel
theorem dX2_jumps_116 : decode cX2_jumps 116 = .ok (.isub, 1) := by decide +kernel
theorem dX2_jumps_117 : decode cX2_jumps 117 = .ok (.aload_n 0, 1) := by decide +kernel
theorem dX2_jumps_118 : decode cX2_jumps 118 = .ok (.getfield 41, 3) := by decide +kernel
theorem dX2_jumps_121 : decode cX2_jumps 121 = .ok (.invokestatic 185, 3) := by decide +kernel
theorem dX2_jumps_124 : decode cX2_jumps 124 = .ok (.ireturn, 1) := by decide +kernel
theorem dX2_jumps_125 : decode cX2_jumps 125 = .ok (.aload_n 0, 1) := by decide +kernel
theorem dX2_jumps_126 : decode cX2_jumps 126 = .ok (.getfield 84, 3) := by decide +kernel
theorem dX2_jumps_129 : decode cX2_jumps 129 = .ok (.bipush 40, 2) := by decide +kernel
theorem dX2_jumps_13 : decode cX2_jumps 13 = .ok (.bipush 38, 2) := by decide +kernel
theorem dX2_jumps_131 : decode cX2_jumps 131 = .ok (.if_icmp .lt 41, 3) := by decide +kernel
theorem dX2_jumps_134 : decode cX2_jumps 134 = .ok (.aload_n 0, 1) := by decide +kernel
theorem dX2_jumps_135 : decode cX2_jumps 135 = .ok (.getfield 84, 3) := by decide +kernel
theorem dX2_jumps_138 : decode cX2_jumps 138 = .ok (.bipush 47, 2) := by decide +kernel
theorem dX2_jumps_140 : decode cX2_jumps 140 = .ok (.if_icmp .gt 32, 3) := by decide +kernel
theorem dX2_jumps_143 : decode cX2_jumps 143 = .ok (.aload_n 0, 1) := by decide +kernel
theorem dX2_jumps_144 : decode cX2_jumps 144 = .ok (.getfield 87, 3) := by decide +kernel
theorem dX2_jumps_147 : decode cX2_jumps 147 = .ok (.aload_n 0, 1) := by decide +kernel
theorem dX2_jumps_148 : decode cX2_jumps 148 = .ok (.getfield 11, 3) := by decide +kernel
theorem dX2_jumps_15 : decode cX2_jumps 15 = .ok (.if_icmp .ne 41, 3) := by decide +kernel
theorem dX2_jumps_151 : decode cX2_jumps 151 = .ok (.aload_n 0, 1) := by decide +kernel
theorem dX2_jumps_152 : decode cX2_jumps 152 = .ok (.getfield 84, 3) := by decide +kernel
theorem dX2_jumps_155 : decode cX2_jumps 155 = .ok (.bipush 40, 2) := by decide +kernel
theorem dX2_jumps_157 : decode cX2_jumps 157 = .ok (.isub, 1) := by decide +kernel
theorem dX2_jumps_158 : decode cX2_jumps 158 = .ok (.iaload, 1) := by decide +kernel
theorem dX2_jumps_159 : decode cX2_jumps 159 = .ok (.invokestatic 98, 3) := by decide +kernel
theorem dX2_jumps_162 : decode cX2_jumps 162 = .ok (.invokestatic 185, 3) := by decide +kernel
theorem dX2_jumps_165 : decode cX2_jumps 165 = .ok (.ifCond .eq 7, 3) := by decide +kernel
theorem dX2_jumps_168 : decode cX2_jumps 168 = .ok (.iconst 1, 1) := by decide +kernel
theorem dX2_jumps_169 : decode cX2_jumps 169 = .ok (.goto 4, 3) := by decide +kernel
theorem dX2_jumps_172 : decode cX2_jumps 172 = .ok (.iconst 0, 1) := by decide +kernel
theorem dX2_jumps_173 : decode cX2_jumps 173 = .ok (.ireturn, 1) := by decide +kernel
theorem dX2_jumps_18 : decode cX2_jumps 18 = .ok (.aload_n 0, 1) := by decide +kernel
theorem dX2_jumps_19 : decode cX2_jumps 19 = .ok (.getfield 22, 3) := by decide +kernel
theorem dX2_jumps_22 : decode cX2_jumps 22 = .ok (.aload_n 0, 1) := by decide +kernel
theorem dX2_jumps_23 : decode cX2_jumps 23 = .ok (.getfield 87, 3) := by decide +kernel
theorem dX2_jumps_26 : decode cX2_jumps 26 = .ok (.aload_n 0, 1) := by decide +kernel
theorem dX2_jumps_27 : decode cX2_jumps 27 = .ok (.getfield 47, 3) := by decide +kernel
theorem dX2_jumps_30 : decode cX2_jumps 30 = .ok (.invokevirtual 181, 3) := by decide +kernel
theorem dX2_jumps_33 : decode cX2_jumps 33 = .ok (.aload_n 0, 1) := by decide +kernel
theorem dX2_jumps_34 : decode cX2_jumps 34 = .ok (.getfield 84, 3) := by decide +kernel
theorem dX2_jumps_37 : decode cX2_jumps 37 = .ok (.bipush 34, 2) := by decide +kernel
theorem dX2_jumps_39 : decode cX2_jumps 39 = .ok (.if_icmp .ne 7, 3) := by decide +kernel
theorem dX2_jumps_4 : decode cX2_jumps 4 = .ok (.bipush 34, 2) := by decide +kernel
theorem dX2_jumps_42 : decode cX2_jumps 42 = .ok (.iconst 1, 1) := by decide +kernel
theorem dX2_jumps_43 : decode cX2_jumps 43 = .ok (.goto 4, 3) := by decide +kernel
theorem dX2_jumps_46 : decode cX2_jumps 46 = .ok (.iconst 0, 1) := by decide +kernel
theorem dX2_jumps_47 : decode cX2_jumps 47 = .ok (.if_icmp .ne 7, 3) := by decide +kernel
theorem dX2_jumps_50 : decode cX2_jumps 50 = .ok (.iconst 1, 1) := by decide +kernel
theorem dX2_jumps_51 : decode cX2_jumps 51 = .ok (.goto 4, 3) := by decide +kernel
theorem dX2_jumps_54 : decode cX2_jumps 54 = .ok (.iconst 0, 1) := by decide +kernel
theorem dX2_jumps_55 : decode cX2_jumps 55 = .ok (.ireturn, 1) := by decide +kernel
theorem dX2_jumps_56 : decode cX2_jumps 56 = .ok (.aload_n 0, 1) := by decide +kernel
theorem dX2_jumps_57 : decode cX2_jumps 57 = .ok (.getfield 84, 3) := by decide +kernel
theorem dX2_jumps_6 : decode cX2_jumps 6 = .ok (.if_icmp .eq 12, 3) := by decide +kernel
theorem dX2_jumps_60 : decode cX2_jumps 60 = .ok (.bipush 39, 2) := by decide +kernel
theorem dX2_jumps_62 : decode cX2_jumps 62 = .ok (.if_icmp .ne 63, 3) := by decide +kernel
theorem dX2_jumps_65 : decode cX2_jumps 65 = .ok (.aload_n 0, 1) := by decide +kernel
theorem dX2_jumps_66 : decode cX2_jumps 66 = .ok (.getfield 87, 3) := by decide +kernel
theorem dX2_jumps_69 : decode cX2_jumps 69 = .ok (.iconst 2, 1) := by decide +kernel
theorem dX2_jumps_70 : decode cX2_jumps 70 = .ok (.if_icmp .ge 5, 3) := by decide +kernel
theorem dX2_jumps_73 : decode cX2_jumps 73 = .ok (.iconst 1, 1) := by decide +kernel
theorem dX2_jumps_74 : decode cX2_jumps 74 = .ok (.ireturn, 1) := by decide +kernel
theorem dX2_jumps_75 : decode cX2_jumps 75 = .ok (.aload_n 0, 1) := by decide +kernel
theorem dX2_jumps_76 : decode cX2_jumps 76 = .ok (.getfield 87, 3) := by decide +kernel
theorem dX2_jumps_79 : decode cX2_jumps 79 = .ok (.iconst 4, 1) := by decide +kernel
theorem dX2_jumps_80 : decode cX2_jumps 80 = .ok (.if_icmp .ge 31, 3) := by decide +kernel
theorem dX2_jumps_83 : decode cX2_jumps 83 = .ok (.aload_n 0, 1) := by decide +kernel
theorem dX2_jumps_84 : decode cX2_jumps 84 = .ok (.getfield 37, 3) := by decide +kernel
theorem dX2_jumps_87 : decode cX2_jumps 87 = .ok (.aload_n 0, 1) := by decide +kernel
theorem dX2_jumps_88 : decode cX2_jumps 88 = .ok (.getfield 87, 3) := by decide +kernel
theorem dX2_jumps_9 : decode cX2_jumps 9 = .ok (.aload_n 0, 1) := by decide +kernel
theorem dX2_jumps_91 : decode cX2_jumps 91 = .ok (.iconst 2, 1) := by decide +kernel
theorem dX2_jumps_92 : decode cX2_jumps 92 = .ok (.if_icmp .ne 7, 3) := by decide +kernel
theorem dX2_jumps_95 : decode cX2_jumps 95 = .ok (.iconst 1, 1) := by decide +kernel
theorem dX2_jumps_96 : decode cX2_jumps 96 = .ok (.goto 4, 3) := by decide +kernel
theorem dX2_jumps_99 : decode cX2_jumps 99 = .ok (.iconst 0, 1) := by decide +kernel
set_option maxHeartbeats 4000000 in
set_option maxRecDepth 100000 in
theorem T_X2_jumps (l : Launch) (D : va_G) (K : Nat → ClassId) (Z Y : Nat → Nat) (ad : Nat → Nat) (d : dSt) (t : tSt) (hok : okX t)  : tMet l yX2_jumps cX2_jumps 1 (some .boolean) (rmD 3 0 0) D K Z Y [.ref (ad 4)] ((WX d) K ad t) (QI D K (fun (r : Int32) (u : Unit) => (0 : Int) ≤ r.toInt ∧ r.toInt ≤ 1) (fun (_ : Unit) => (WX d) K ad t)) 0 0 := by
  refine t_met RX2 ⟨rfl, by decide +kernel⟩ (Nat.le_of_ble_eq_true rfl) ?_
  intro p e s m below meth c A ls C hE hZ hr hlocks hA hP hD hS hl
  have hl : lv_has ls 1 [(0, .ref (ad 4))] := hl
  have L_100 : ∀ (k100_0 : Int32) (k100_1 : Int32) (H : Heap) (locs : List Loc) (ls : Array Slot), (0 : Int) ≤ k100_0.toInt ∧ k100_0.toInt ≤ 1 → (0 : Int) ≤ k100_1.toInt ∧ k100_1.toInt ≤ 1 → (39 : Int) ≤ (t.1 4 13).toInt ∧ (t.1 4 13).toInt ≤ 39 → (2 : Int) ≤ (t.1 4 14).toInt ∧ (t.1 4 14).toInt ≤ 3 → va_P D vwCl ((WX d) K ad t) H → va_D A ((WX d) K ad t) → va_S A s.heap H locs → lv_has ls 1 [(0, .ref (ad 4))] → W p l e (rmD 3 0 0) s m [.ref (ad 4)].toArray below meth c H locs 0 0 (MQ below (QI D K (fun (r : Int32) (u : Unit) => (0 : Int) ≤ r.toInt ∧ r.toInt ≤ 1) (fun (_ : Unit) => (WX d) K ad t) A) [.ref (ad 4)].toArray s 0 0 A) (F0 m 100 ls [.int k100_1, .int k100_0]) := by
    intro k100_0 k100_1 H locs ls hk100_0 hk100_1 hf100_13 hf100_14 hP hD hS hl
    refine lv_icmp_ne (tgt := 107) C.1 C.2.1 dX2_jumps_100 (by decide) (fun c_1 => ?_) (fun c_1 => ?_)
    · replace c_1 : ¬ k100_0.toInt = k100_1.toInt := i_ne c_1
      refine lv_iconst (v := 0) C.1 C.2.1 dX2_jumps_107 (by decide) ?_
      refine lv_goto (tgt := 124) C.1 C.2.1 dX2_jumps_108 (by decide) ?_
      exact g_iret C hr hlocks hP hD hS (by decide) () rfl ⟨by decide, by decide⟩ (Nat.le_of_ble_eq_true rfl) (Nat.le_of_ble_eq_true rfl) dX2_jumps_124
    · replace c_1 : k100_0.toInt = k100_1.toInt := i_eq c_1
      refine lv_iconst (v := 1) C.1 C.2.1 dX2_jumps_103 (by decide) ?_
      refine lv_goto (tgt := 124) C.1 C.2.1 dX2_jumps_104 (by decide) ?_
      exact g_iret C hr hlocks hP hD hS (by decide) () rfl ⟨by decide, by decide⟩ (Nat.le_of_ble_eq_true rfl) (Nat.le_of_ble_eq_true rfl) dX2_jumps_124
  have L_47 : ∀ (k47_0 : Int32) (k47_1 : Int32) (H : Heap) (locs : List Loc) (ls : Array Slot), (0 : Int) ≤ k47_0.toInt ∧ k47_0.toInt ≤ 1 → (0 : Int) ≤ k47_1.toInt ∧ k47_1.toInt ≤ 1 → (34 : Int) ≤ (t.1 4 13).toInt ∧ (t.1 4 13).toInt ≤ 38 → va_P D vwCl ((WX d) K ad t) H → va_D A ((WX d) K ad t) → va_S A s.heap H locs → lv_has ls 1 [(0, .ref (ad 4))] → W p l e (rmD 3 0 0) s m [.ref (ad 4)].toArray below meth c H locs 0 0 (MQ below (QI D K (fun (r : Int32) (u : Unit) => (0 : Int) ≤ r.toInt ∧ r.toInt ≤ 1) (fun (_ : Unit) => (WX d) K ad t) A) [.ref (ad 4)].toArray s 0 0 A) (F0 m 47 ls [.int k47_1, .int k47_0]) := by
    intro k47_0 k47_1 H locs ls hk47_0 hk47_1 hf47_13 hP hD hS hl
    refine lv_icmp_ne (tgt := 54) C.1 C.2.1 dX2_jumps_47 (by decide) (fun c_2 => ?_) (fun c_2 => ?_)
    · replace c_2 : ¬ k47_0.toInt = k47_1.toInt := i_ne c_2
      refine lv_iconst (v := 0) C.1 C.2.1 dX2_jumps_54 (by decide) ?_
      exact g_iret C hr hlocks hP hD hS (by decide) () rfl ⟨by decide, by decide⟩ (Nat.le_of_ble_eq_true rfl) (Nat.le_of_ble_eq_true rfl) dX2_jumps_55
    · replace c_2 : k47_0.toInt = k47_1.toInt := i_eq c_2
      refine lv_iconst (v := 1) C.1 C.2.1 dX2_jumps_50 (by decide) ?_
      refine lv_goto (tgt := 55) C.1 C.2.1 dX2_jumps_51 (by decide) ?_
      exact g_iret C hr hlocks hP hD hS (by decide) () rfl ⟨by decide, by decide⟩ (Nat.le_of_ble_eq_true rfl) (Nat.le_of_ble_eq_true rfl) dX2_jumps_55
  have L_18 : ∀  (H : Heap) (locs : List Loc) (ls : Array Slot), (34 : Int) ≤ (t.1 4 13).toInt ∧ (t.1 4 13).toInt ≤ 38 → va_P D vwCl ((WX d) K ad t) H → va_D A ((WX d) K ad t) → va_S A s.heap H locs → lv_has ls 1 [(0, .ref (ad 4))] → W p l e (rmD 3 0 0) s m [.ref (ad 4)].toArray below meth c H locs 0 0 (MQ below (QI D K (fun (r : Int32) (u : Unit) => (0 : Int) ≤ r.toInt ∧ r.toInt ≤ 1) (fun (_ : Unit) => (WX d) K ad t) A) [.ref (ad 4)].toArray s 0 0 A) (F0 m 18 ls []) := by
    intro  H locs ls hf18_13 hP hD hS hl
    refine lv_aload_n C.1 C.2.1 dX2_jumps_18 rfl (lv_at hl 0 rfl) ?_
    refine k_get (v := .ref (ad 3)) C hP 4 rfl rfl inlX2 2 (by decide) m_4_19 rfl dX2_jumps_19 ?_
    refine lv_aload_n C.1 C.2.1 dX2_jumps_22 rfl (lv_at hl 0 rfl) ?_
    have h_3 : (0 : Int) ≤ (t.1 4 14).toInt ∧ (t.1 4 14).toInt ≤ 63 := hok.1 4 14
    refine k_get (v := .int (t.1 4 14)) C hP 4 rfl rfl inlX2 14 (by decide) m_45_19 rfl dX2_jumps_23 ?_
    refine lv_aload_n C.1 C.2.1 dX2_jumps_26 rfl (lv_at hl 0 rfl) ?_
    refine k_get (v := .long (t.2.1 4 6)) C hP 4 rfl rfl inlX2 6 (by decide) m_11_7 rfl dX2_jumps_27 ?_
    refine g_Vi (As := [.int (t.1 4 14), .long (t.2.1 4 6)]) (rest := []) C hP hD hS hA (T_X10_isBusy l D K Z Y ad d t hok ((t.1 4 14)) (show (0 : Int) ≤ ((t.1 4 14) : Int32).toInt ∧ ((t.1 4 14) : Int32).toInt ≤ 63 from ⟨by omega, by omega⟩) ((t.2.1 4 6))) hE hZ (uwV m_50_3 m_50_4 m_50_5 m_1_20 m_50_6) (hdV 2 (by decide +kernel) rfl) ⟨Nat.le_of_ble_eq_true rfl, Nat.le_of_ble_eq_true rfl⟩ rfl rfl (ci := 9) (q0 := 3) rfl rfl rfl hl.1 (Nat.le_of_ble_eq_true rfl) dX2_jumps_30 ⟨Nat.le_of_ble_eq_true rfl, Nat.le_of_ble_eq_true rfl⟩ (fun r_5 t_4 H locs hw hP hD hS => ?_)
    obtain ⟨h_7, h_8⟩ := hw
    refine lv_aload_n C.1 C.2.1 dX2_jumps_33 rfl (lv_at hl 0 rfl) ?_
    refine k_get (v := .int (t.1 4 13)) C hP 4 rfl rfl inlX2 13 (by decide) m_45_18 rfl dX2_jumps_34 ?_
    refine lv_bipush (v := 34) C.1 C.2.1 dX2_jumps_37 (by decide) ?_
    refine lv_icmp_ne (tgt := 46) C.1 C.2.1 dX2_jumps_39 (by decide) (fun c_9 => ?_) (fun c_9 => ?_)
    · replace c_9 : ¬ (t.1 4 13).toInt = 34 := i_ne c_9
      refine lv_iconst (v := 0) C.1 C.2.1 dX2_jumps_46 (by decide) ?_
      exact L_47 r_5 0 _ _ _ ⟨by omega, by omega⟩ ⟨by decide, by decide⟩ (show (34 : Int) ≤ ((t.1 4 13) : Int32).toInt ∧ ((t.1 4 13) : Int32).toInt ≤ 38 from ⟨by omega, by omega⟩) hP hD hS (lv_sub hl [0] rfl)
    · replace c_9 : (t.1 4 13).toInt = 34 := i_eq c_9
      refine lv_iconst (v := 1) C.1 C.2.1 dX2_jumps_42 (by decide) ?_
      refine lv_goto (tgt := 47) C.1 C.2.1 dX2_jumps_43 (by decide) ?_
      exact L_47 r_5 1 _ _ _ ⟨by omega, by omega⟩ ⟨by decide, by decide⟩ (show (34 : Int) ≤ ((t.1 4 13) : Int32).toInt ∧ ((t.1 4 13) : Int32).toInt ≤ 38 from ⟨by omega, by omega⟩) hP hD hS (lv_sub hl [0] rfl)
  refine lv_aload_n C.1 C.2.1 dX2_jumps_0 rfl (lv_at hl 0 rfl) ?_
  have h_10 : (0 : Int) ≤ (t.1 4 13).toInt ∧ (t.1 4 13).toInt ≤ 63 := hok.1 4 13
  refine k_get (v := .int (t.1 4 13)) C hP 4 rfl rfl inlX2 13 (by decide) m_45_18 rfl dX2_jumps_1 ?_
  refine lv_bipush (v := 34) C.1 C.2.1 dX2_jumps_4 (by decide) ?_
  refine lv_icmp_eq (tgt := 18) C.1 C.2.1 dX2_jumps_6 (by decide) (fun c_11 => ?_) (fun c_11 => ?_)
  · replace c_11 : (t.1 4 13).toInt = 34 := i_eq c_11
    exact L_18  _ _ _ (show (34 : Int) ≤ ((t.1 4 13) : Int32).toInt ∧ ((t.1 4 13) : Int32).toInt ≤ 38 from ⟨by omega, by omega⟩) hP hD hS (lv_sub hl [0] rfl)
  · replace c_11 : ¬ (t.1 4 13).toInt = 34 := i_ne c_11
    refine lv_aload_n C.1 C.2.1 dX2_jumps_9 rfl (lv_at hl 0 rfl) ?_
    refine k_get (v := .int (t.1 4 13)) C hP 4 rfl rfl inlX2 13 (by decide) m_45_18 rfl dX2_jumps_10 ?_
    refine lv_bipush (v := 38) C.1 C.2.1 dX2_jumps_13 (by decide) ?_
    refine lv_icmp_ne (tgt := 56) C.1 C.2.1 dX2_jumps_15 (by decide) (fun c_12 => ?_) (fun c_12 => ?_)
    · replace c_12 : ¬ (t.1 4 13).toInt = 38 := i_ne c_12
      refine lv_aload_n C.1 C.2.1 dX2_jumps_56 rfl (lv_at hl 0 rfl) ?_
      refine k_get (v := .int (t.1 4 13)) C hP 4 rfl rfl inlX2 13 (by decide) m_45_18 rfl dX2_jumps_57 ?_
      refine lv_bipush (v := 39) C.1 C.2.1 dX2_jumps_60 (by decide) ?_
      refine lv_icmp_ne (tgt := 125) C.1 C.2.1 dX2_jumps_62 (by decide) (fun c_13 => ?_) (fun c_13 => ?_)
      · replace c_13 : ¬ (t.1 4 13).toInt = 39 := i_ne c_13
        refine lv_aload_n C.1 C.2.1 dX2_jumps_125 rfl (lv_at hl 0 rfl) ?_
        refine k_get (v := .int (t.1 4 13)) C hP 4 rfl rfl inlX2 13 (by decide) m_45_18 rfl dX2_jumps_126 ?_
        refine lv_bipush (v := 40) C.1 C.2.1 dX2_jumps_129 (by decide) ?_
        refine lv_icmp_lt (tgt := 172) C.1 C.2.1 dX2_jumps_131 (by decide) (fun c_14 => ?_) (fun c_14 => ?_)
        · replace c_14 : (t.1 4 13).toInt < 40 := i_lt c_14
          refine lv_iconst (v := 0) C.1 C.2.1 dX2_jumps_172 (by decide) ?_
          exact g_iret C hr hlocks hP hD hS (by decide) () rfl ⟨by decide, by decide⟩ (Nat.le_of_ble_eq_true rfl) (Nat.le_of_ble_eq_true rfl) dX2_jumps_173
        · replace c_14 : 40 ≤ (t.1 4 13).toInt := i_nlt c_14
          refine lv_aload_n C.1 C.2.1 dX2_jumps_134 rfl (lv_at hl 0 rfl) ?_
          refine k_get (v := .int (t.1 4 13)) C hP 4 rfl rfl inlX2 13 (by decide) m_45_18 rfl dX2_jumps_135 ?_
          refine lv_bipush (v := 47) C.1 C.2.1 dX2_jumps_138 (by decide) ?_
          refine lv_icmp_gt (tgt := 172) C.1 C.2.1 dX2_jumps_140 (by decide) (fun c_15 => ?_) (fun c_15 => ?_)
          · replace c_15 : 47 < (t.1 4 13).toInt := i_lt c_15
            refine lv_iconst (v := 0) C.1 C.2.1 dX2_jumps_172 (by decide) ?_
            exact g_iret C hr hlocks hP hD hS (by decide) () rfl ⟨by decide, by decide⟩ (Nat.le_of_ble_eq_true rfl) (Nat.le_of_ble_eq_true rfl) dX2_jumps_173
          · replace c_15 : (t.1 4 13).toInt ≤ 47 := i_nlt c_15
            refine lv_aload_n C.1 C.2.1 dX2_jumps_143 rfl (lv_at hl 0 rfl) ?_
            have h_16 : (0 : Int) ≤ (t.1 4 14).toInt ∧ (t.1 4 14).toInt ≤ 63 := hok.1 4 14
            refine k_get (v := .int (t.1 4 14)) C hP 4 rfl rfl inlX2 14 (by decide) m_45_19 rfl dX2_jumps_144 ?_
            refine lv_aload_n C.1 C.2.1 dX2_jumps_147 rfl (lv_at hl 0 rfl) ?_
            refine k_get (v := .ref (ad 22)) C hP 4 rfl rfl inlX2 1 (by decide) m_4_16 rfl dX2_jumps_148 ?_
            refine lv_aload_n C.1 C.2.1 dX2_jumps_151 rfl (lv_at hl 0 rfl) ?_
            refine k_get (v := .int (t.1 4 13)) C hP 4 rfl rfl inlX2 13 (by decide) m_45_18 rfl dX2_jumps_152 ?_
            refine lv_bipush (v := 40) C.1 C.2.1 dX2_jumps_155 (by decide) ?_
            obtain ⟨v_17, e_18⟩ : ∃ z, z = ((t.1 4 13) : Int32) - (40 : Int32) := ⟨_, rfl⟩
            have h_19 : v_17.toInt = (t.1 4 13).toInt - 40 := by rw [e_18]; exact ti_isub (by show (_ : Int) ≤ (t.1 4 13).toInt - 40; omega) (by show (t.1 4 13).toInt - 40 < (_ : Int); omega)
            refine k_isub (v := v_17) C e_18.symm dX2_jumps_157 ?_
            obtain ⟨v_20, e_21⟩ : ∃ z, z = (t.2.2.1 22 (v_17 : Int32).toNatClampNeg) := ⟨_, rfl⟩
            refine k_ild (v := v_20) C hP 22 rfl (vp_in_iff.mpr ⟨by omega, by omega⟩) e_21.symm dX2_jumps_158 ?_
            refine g_Si (As := [.int v_20]) (rest := [.int (t.1 4 14)]) C hP hD hS hA (T_X1_value l D K Z Y ad d t hok (v_20)) hE hZ (uwS m_47_19 m_23_9 m_14_2 m_23_10) (hdS 1 (by decide +kernel) rfl) ⟨Nat.le_of_ble_eq_true rfl, Nat.le_of_ble_eq_true rfl⟩ rfl rfl rfl hl.1 (Nat.le_of_ble_eq_true rfl) dX2_jumps_159 ⟨Nat.le_of_ble_eq_true rfl, Nat.le_of_ble_eq_true rfl⟩ (fun r_23 t_22 H locs hw hP hD hS => ?_)
            obtain ⟨h_25, h_26⟩ := hw
            refine g_Si (As := [.int (t.1 4 14), .int r_23]) (rest := []) C hP hD hS hA (T_X2_holds l D K Z Y ad d t hok ((t.1 4 14)) (show (0 : Int) ≤ ((t.1 4 14) : Int32).toInt ∧ ((t.1 4 14) : Int32).toInt ≤ 63 from ⟨by omega, by omega⟩) (r_23) (show (-1073741824 : Int) ≤ (r_23 : Int32).toInt ∧ (r_23 : Int32).toInt ≤ 1073741823 from ⟨by omega, by omega⟩)) hE hZ (uwS m_50_8 m_50_9 m_1_23 m_50_10) (hdS 2 (by decide +kernel) rfl) ⟨Nat.le_of_ble_eq_true rfl, Nat.le_of_ble_eq_true rfl⟩ rfl rfl rfl hl.1 (Nat.le_of_ble_eq_true rfl) dX2_jumps_162 ⟨Nat.le_of_ble_eq_true rfl, Nat.le_of_ble_eq_true rfl⟩ (fun r_28 t_27 H locs hw hP hD hS => ?_)
            obtain ⟨h_30, h_31⟩ := hw
            refine lv_if_eq (tgt := 172) C.1 C.2.1 dX2_jumps_165 (by decide) (fun c_32 => ?_) (fun c_32 => ?_)
            · replace c_32 : r_28.toInt = 0 := i_eq c_32
              refine lv_iconst (v := 0) C.1 C.2.1 dX2_jumps_172 (by decide) ?_
              exact g_iret C hr hlocks hP hD hS (by decide) () rfl ⟨by decide, by decide⟩ (Nat.le_of_ble_eq_true rfl) (Nat.le_of_ble_eq_true rfl) dX2_jumps_173
            · replace c_32 : ¬ r_28.toInt = 0 := i_ne c_32
              refine lv_iconst (v := 1) C.1 C.2.1 dX2_jumps_168 (by decide) ?_
              refine lv_goto (tgt := 173) C.1 C.2.1 dX2_jumps_169 (by decide) ?_
              exact g_iret C hr hlocks hP hD hS (by decide) () rfl ⟨by decide, by decide⟩ (Nat.le_of_ble_eq_true rfl) (Nat.le_of_ble_eq_true rfl) dX2_jumps_173
      · replace c_13 : (t.1 4 13).toInt = 39 := i_eq c_13
        refine lv_aload_n C.1 C.2.1 dX2_jumps_65 rfl (lv_at hl 0 rfl) ?_
        have h_33 : (0 : Int) ≤ (t.1 4 14).toInt ∧ (t.1 4 14).toInt ≤ 63 := hok.1 4 14
        refine k_get (v := .int (t.1 4 14)) C hP 4 rfl rfl inlX2 14 (by decide) m_45_19 rfl dX2_jumps_66 ?_
        refine lv_iconst (v := 2) C.1 C.2.1 dX2_jumps_69 (by decide) ?_
        refine lv_icmp_ge (tgt := 75) C.1 C.2.1 dX2_jumps_70 (by decide) (fun c_34 => ?_) (fun c_34 => ?_)
        · replace c_34 : 2 ≤ (t.1 4 14).toInt := i_le c_34
          refine lv_aload_n C.1 C.2.1 dX2_jumps_75 rfl (lv_at hl 0 rfl) ?_
          refine k_get (v := .int (t.1 4 14)) C hP 4 rfl rfl inlX2 14 (by decide) m_45_19 rfl dX2_jumps_76 ?_
          refine lv_iconst (v := 4) C.1 C.2.1 dX2_jumps_79 (by decide) ?_
          refine lv_icmp_ge (tgt := 111) C.1 C.2.1 dX2_jumps_80 (by decide) (fun c_35 => ?_) (fun c_35 => ?_)
          · replace c_35 : 4 ≤ (t.1 4 14).toInt := i_le c_35
            refine lv_aload_n C.1 C.2.1 dX2_jumps_111 rfl (lv_at hl 0 rfl) ?_
            refine k_get (v := .int (t.1 4 14)) C hP 4 rfl rfl inlX2 14 (by decide) m_45_19 rfl dX2_jumps_112 ?_
            refine lv_iconst (v := 4) C.1 C.2.1 dX2_jumps_115 (by decide) ?_
            obtain ⟨v_36, e_37⟩ : ∃ z, z = ((t.1 4 14) : Int32) - (4 : Int32) := ⟨_, rfl⟩
            have h_38 : v_36.toInt = (t.1 4 14).toInt - 4 := by rw [e_37]; exact ti_isub (by show (_ : Int) ≤ (t.1 4 14).toInt - 4; omega) (by show (t.1 4 14).toInt - 4 < (_ : Int); omega)
            refine k_isub (v := v_36) C e_37.symm dX2_jumps_116 ?_
            refine lv_aload_n C.1 C.2.1 dX2_jumps_117 rfl (lv_at hl 0 rfl) ?_
            have h_39 : (-1 : Int) ≤ (t.1 4 4).toInt ∧ (t.1 4 4).toInt ≤ 1 := hok.1 4 4
            refine k_get (v := .int (t.1 4 4)) C hP 4 rfl rfl inlX2 4 (by decide) m_11_5 rfl dX2_jumps_118 ?_
            refine g_Si (As := [.int v_36, .int (t.1 4 4)]) (rest := []) C hP hD hS hA (T_X2_holds l D K Z Y ad d t hok (v_36) (show (0 : Int) ≤ (v_36 : Int32).toInt ∧ (v_36 : Int32).toInt ≤ 63 from ⟨by omega, by omega⟩) ((t.1 4 4)) (show (-1073741824 : Int) ≤ ((t.1 4 4) : Int32).toInt ∧ ((t.1 4 4) : Int32).toInt ≤ 1073741823 from ⟨by omega, by omega⟩)) hE hZ (uwS m_50_8 m_50_9 m_1_23 m_50_10) (hdS 2 (by decide +kernel) rfl) ⟨Nat.le_of_ble_eq_true rfl, Nat.le_of_ble_eq_true rfl⟩ rfl rfl rfl hl.1 (Nat.le_of_ble_eq_true rfl) dX2_jumps_121 ⟨Nat.le_of_ble_eq_true rfl, Nat.le_of_ble_eq_true rfl⟩ (fun r_41 t_40 H locs hw hP hD hS => ?_)
            obtain ⟨h_43, h_44⟩ := hw
            exact g_iret C hr hlocks hP hD hS (nar01 (by omega) (by omega)) () rfl ⟨by omega, by omega⟩ (Nat.le_of_ble_eq_true rfl) (Nat.le_of_ble_eq_true rfl) dX2_jumps_124
          · replace c_35 : (t.1 4 14).toInt < 4 := i_nle c_35
            refine lv_aload_n C.1 C.2.1 dX2_jumps_83 rfl (lv_at hl 0 rfl) ?_
            have h_45 : (0 : Int) ≤ (t.1 4 3).toInt ∧ (t.1 4 3).toInt ≤ 1 := hok.1 4 3
            refine k_get (v := .int (t.1 4 3)) C hP 4 rfl rfl inlX2 3 (by decide) m_11_4 rfl dX2_jumps_84 ?_
            refine lv_aload_n C.1 C.2.1 dX2_jumps_87 rfl (lv_at hl 0 rfl) ?_
            refine k_get (v := .int (t.1 4 14)) C hP 4 rfl rfl inlX2 14 (by decide) m_45_19 rfl dX2_jumps_88 ?_
            refine lv_iconst (v := 2) C.1 C.2.1 dX2_jumps_91 (by decide) ?_
            refine lv_icmp_ne (tgt := 99) C.1 C.2.1 dX2_jumps_92 (by decide) (fun c_46 => ?_) (fun c_46 => ?_)
            · replace c_46 : ¬ (t.1 4 14).toInt = 2 := i_ne c_46
              refine lv_iconst (v := 0) C.1 C.2.1 dX2_jumps_99 (by decide) ?_
              exact L_100 (t.1 4 3) 0 _ _ _ ⟨by omega, by omega⟩ ⟨by decide, by decide⟩ (show (39 : Int) ≤ ((t.1 4 13) : Int32).toInt ∧ ((t.1 4 13) : Int32).toInt ≤ 39 from ⟨by omega, by omega⟩) (show (2 : Int) ≤ ((t.1 4 14) : Int32).toInt ∧ ((t.1 4 14) : Int32).toInt ≤ 3 from ⟨by omega, by omega⟩) hP hD hS (lv_sub hl [0] rfl)
            · replace c_46 : (t.1 4 14).toInt = 2 := i_eq c_46
              refine lv_iconst (v := 1) C.1 C.2.1 dX2_jumps_95 (by decide) ?_
              refine lv_goto (tgt := 100) C.1 C.2.1 dX2_jumps_96 (by decide) ?_
              exact L_100 (t.1 4 3) 1 _ _ _ ⟨by omega, by omega⟩ ⟨by decide, by decide⟩ (show (39 : Int) ≤ ((t.1 4 13) : Int32).toInt ∧ ((t.1 4 13) : Int32).toInt ≤ 39 from ⟨by omega, by omega⟩) (show (2 : Int) ≤ ((t.1 4 14) : Int32).toInt ∧ ((t.1 4 14) : Int32).toInt ≤ 3 from ⟨by omega, by omega⟩) hP hD hS (lv_sub hl [0] rfl)
        · replace c_34 : (t.1 4 14).toInt < 2 := i_nle c_34
          refine lv_iconst (v := 1) C.1 C.2.1 dX2_jumps_73 (by decide) ?_
          exact g_iret C hr hlocks hP hD hS (by decide) () rfl ⟨by decide, by decide⟩ (Nat.le_of_ble_eq_true rfl) (Nat.le_of_ble_eq_true rfl) dX2_jumps_74
    · replace c_12 : (t.1 4 13).toInt = 38 := i_eq c_12
      exact L_18  _ _ _ (show (34 : Int) ≤ ((t.1 4 13) : Int32).toInt ∧ ((t.1 4 13) : Int32).toInt ≤ 38 from ⟨by omega, by omega⟩) hP hD hS (lv_sub hl [0] rfl)

theorem dX1_stored_0 : decode cX1_stored 0 = .ok (.bipush 6, 2) := by decide +kernel
theorem dX1_stored_10 : decode cX1_stored 10 = .ok (.iload_n 1, 1) := by decide +kernel
theorem dX1_stored_11 : decode cX1_stored 11 = .ok (.invokestatic 30, 3) := by decide +kernel
theorem dX1_stored_14 : decode cX1_stored 14 = .ok (.iload_n 3, 1) := by decide +kernel
theorem dX1_stored_15 : decode cX1_stored 15 = .ok (.ishl, 1) := by decide +kernel
theorem dX1_stored_16 : decode cX1_stored 16 = .ok (.istore 4, 2) := by decide +kernel
theorem dX1_stored_18 : decode cX1_stored 18 = .ok (.iload_n 1, 1) := by decide +kernel
theorem dX1_stored_19 : decode cX1_stored 19 = .ok (.iconst 3, 1) := by decide +kernel
theorem dX1_stored_2 : decode cX1_stored 2 = .ok (.iconst 5, 1) := by decide +kernel
theorem dX1_stored_20 : decode cX1_stored 20 = .ok (.ishr, 1) := by decide +kernel
theorem dX1_stored_21 : decode cX1_stored 21 = .ok (.ifCond .ne 7, 3) := by decide +kernel
theorem dX1_stored_24 : decode cX1_stored 24 = .ok (.iload_n 2, 1) := by decide +kernel
theorem dX1_stored_25 : decode cX1_stored 25 = .ok (.goto 4, 3) := by decide +kernel
theorem dX1_stored_28 : decode cX1_stored 28 = .ok (.iload_n 0, 1) := by decide +kernel
theorem dX1_stored_29 : decode cX1_stored 29 = .ok (.ldc 11, 2) := by decide +kernel
theorem dX1_stored_3 : decode cX1_stored 3 = .ok (.iload_n 1, 1) := by decide +kernel
theorem dX1_stored_31 : decode cX1_stored 31 = .ok (.iand, 1) := by decide +kernel
theorem dX1_stored_32 : decode cX1_stored 32 = .ok (.istore 5, 2) := by decide +kernel
theorem dX1_stored_34 : decode cX1_stored 34 = .ok (.iload 5, 2) := by decide +kernel
theorem dX1_stored_36 : decode cX1_stored 36 = .ok (.iload_n 0, 1) := by decide +kernel
theorem dX1_stored_37 : decode cX1_stored 37 = .ok (.ldc 12, 2) := by decide +kernel
theorem dX1_stored_39 : decode cX1_stored 39 = .ok (.iand, 1) := by decide +kernel
theorem dX1_stored_4 : decode cX1_stored 4 = .ok (.bipush 7, 2) := by decide +kernel
theorem dX1_stored_40 : decode cX1_stored 40 = .ok (.iload 4, 2) := by decide +kernel
theorem dX1_stored_42 : decode cX1_stored 42 = .ok (.iconst (-1), 1) := by decide +kernel
theorem dX1_stored_43 : decode cX1_stored 43 = .ok (.ixor, 1) := by decide +kernel
theorem dX1_stored_44 : decode cX1_stored 44 = .ok (.iand, 1) := by decide +kernel
theorem dX1_stored_45 : decode cX1_stored 45 = .ok (.ior, 1) := by decide +kernel
theorem dX1_stored_46 : decode cX1_stored 46 = .ok (.iload_n 2, 1) := by decide +kernel
theorem dX1_stored_47 : decode cX1_stored 47 = .ok (.ldc 12, 2) := by decide +kernel
theorem dX1_stored_49 : decode cX1_stored 49 = .ok (.iand, 1) := by decide +kernel
theorem dX1_stored_50 : decode cX1_stored 50 = .ok (.iload_n 3, 1) := by decide +kernel
theorem dX1_stored_51 : decode cX1_stored 51 = .ok (.ishl, 1) := by decide +kernel
theorem dX1_stored_52 : decode cX1_stored 52 = .ok (.iload 4, 2) := by decide +kernel
theorem dX1_stored_54 : decode cX1_stored 54 = .ok (.iand, 1) := by decide +kernel
theorem dX1_stored_55 : decode cX1_stored 55 = .ok (.ior, 1) := by decide +kernel
theorem dX1_stored_56 : decode cX1_stored 56 = .ok (.ireturn, 1) := by decide +kernel
theorem dX1_stored_6 : decode cX1_stored 6 = .ok (.iand, 1) := by decide +kernel
theorem dX1_stored_7 : decode cX1_stored 7 = .ok (.isub, 1) := by decide +kernel
theorem dX1_stored_8 : decode cX1_stored 8 = .ok (.imul, 1) := by decide +kernel
theorem dX1_stored_9 : decode cX1_stored 9 = .ok (.istore_n 3, 1) := by decide +kernel
set_option maxHeartbeats 4000000 in
set_option maxRecDepth 100000 in
theorem T_X1_stored (l : Launch) (D : va_G) (K : Nat → ClassId) (Z Y : Nat → Nat) (ad : Nat → Nat) (d : dSt) (t : tSt) (hok : okX t) (x0 : Int32) (x1 : Int32) (hx1 : (-1073741824 : Int) ≤ x1.toInt ∧ x1.toInt ≤ 1073741823) (x2 : Int32) : tMet l yX1_stored cX1_stored 6 (some .int) (rmD 2 0 0) D K Z Y [.int x0, .int x1, .int x2] ((WX d) K ad t) (QI D K (fun (r : Int32) (u : Unit) => (-2147483648 : Int) ≤ r.toInt ∧ r.toInt ≤ 2147483647) (fun (_ : Unit) => (WX d) K ad t)) 0 0 := by
  refine t_met RX1 ⟨rfl, by decide +kernel⟩ (Nat.le_of_ble_eq_true rfl) ?_
  intro p e s m below meth c A ls C hE hZ hr hlocks hA hP hD hS hl
  have hl : lv_has ls 6 [(0, .int x0), (1, .int x1), (2, .int x2)] := hl
  have L_29 : ∀ (w29_3 : Int32) (w29_4 : Int32) (k29_0 : Int32) (H : Heap) (locs : List Loc) (ls : Array Slot), (-12 : Int) ≤ w29_3.toInt ∧ w29_3.toInt ≤ 30 → va_P D vwCl ((WX d) K ad t) H → va_D A ((WX d) K ad t) → va_S A s.heap H locs → lv_has ls 6 [(0, .int x0), (1, .int x1), (2, .int x2), (3, .int w29_3), (4, .int w29_4)] → W p l e (rmD 2 0 0) s m [.int x0, .int x1, .int x2].toArray below meth c H locs 0 0 (MQ below (QI D K (fun (r : Int32) (u : Unit) => (-2147483648 : Int) ≤ r.toInt ∧ r.toInt ≤ 2147483647) (fun (_ : Unit) => (WX d) K ad t) A) [.int x0, .int x1, .int x2].toArray s 0 0 A) (F0 m 29 ls [.int k29_0]) := by
    intro w29_3 w29_4 k29_0 H locs ls hw29_3 hP hD hS hl
    refine lv_ldc (v := 1073741824) C.1 C.2.1 C.2.2.2.1 (C.2.2.2.2.1 _ m_22_17) dX1_stored_29 ?_
    obtain ⟨v_1, e_2⟩ : ∃ z, z = (k29_0 : Int32) &&& (1073741824 : Int32) := ⟨_, rfl⟩
    have h_3 : (0 : Int) ≤ v_1.toInt ∧ v_1.toInt ≤ 1073741824 := by rw [e_2]; exact z_and _ (k := 1073741824) (by decide) (by decide)
    refine k_iand (v := v_1) C e_2.symm dX1_stored_31 ?_
    refine lv_istore (lv' := [(5, .int v_1), (0, .int x0), (1, .int x1), (2, .int x2), (3, .int w29_3), (4, .int w29_4)]) C.1 C.2.1 dX1_stored_32 hl (by decide) rfl (fun ls hl => ?_)
    have hl : lv_has ls 6 [(0, .int x0), (1, .int x1), (2, .int x2), (3, .int w29_3), (4, .int w29_4), (5, .int v_1)] := lv_sub hl [1, 2, 3, 4, 5, 0] rfl
    refine lv_iload C.1 C.2.1 dX1_stored_34 (lv_at hl 5 rfl) ?_
    refine lv_iload_n C.1 C.2.1 dX1_stored_36 rfl (lv_at hl 0 rfl) ?_
    refine lv_ldc (v := 1073741823) C.1 C.2.1 C.2.2.2.1 (C.2.2.2.2.1 _ m_23_11) dX1_stored_37 ?_
    obtain ⟨v_4, e_5⟩ : ∃ z, z = (x0 : Int32) &&& (1073741823 : Int32) := ⟨_, rfl⟩
    have h_6 : v_4.toInt = x0.toInt % 2 ^ 30 := by rw [e_5]; exact Jvm.Kit.i32_mask _ _ (k := 30) (by decide) (by decide)
    refine k_iand (v := v_4) C e_5.symm dX1_stored_39 ?_
    refine lv_iload C.1 C.2.1 dX1_stored_40 (lv_at hl 4 rfl) ?_
    refine lv_iconst (v := (-1)) C.1 C.2.1 dX1_stored_42 (by decide) ?_
    obtain ⟨v_7, e_8⟩ : ∃ z, z = (w29_4 : Int32) ^^^ ((-1) : Int32) := ⟨_, rfl⟩
    refine k_ixor (v := v_7) C e_8.symm dX1_stored_43 ?_
    obtain ⟨v_10, e_11⟩ : ∃ z, z = (v_4 : Int32) &&& (v_7 : Int32) := ⟨_, rfl⟩
    have h_12 : (0 : Int) ≤ v_10.toInt ∧ v_10.toInt ≤ v_4.toInt := by rw [e_11]; exact z_andl (by show (0 : Int) ≤ v_4.toInt; omega)
    refine k_iand (v := v_10) C e_11.symm dX1_stored_44 ?_
    obtain ⟨v_13, e_14⟩ : ∃ z, z = (v_1 : Int32) ||| (v_10 : Int32) := ⟨_, rfl⟩
    have h_15 : (0 : Int) ≤ v_13.toInt ∧ v_13.toInt ≤ 2147483647 := by rw [e_14]; exact z_or (k := 31) (by decide) (by show (0 : Int) ≤ v_1.toInt; omega) (by show v_1.toInt < (_ : Int); omega) (by show (0 : Int) ≤ v_10.toInt; omega) (by show v_10.toInt < (_ : Int); omega)
    refine k_ior (v := v_13) C e_14.symm dX1_stored_45 ?_
    refine lv_iload_n C.1 C.2.1 dX1_stored_46 rfl (lv_at hl 2 rfl) ?_
    refine lv_ldc (v := 1073741823) C.1 C.2.1 C.2.2.2.1 (C.2.2.2.2.1 _ m_23_11) dX1_stored_47 ?_
    obtain ⟨v_16, e_17⟩ : ∃ z, z = (x2 : Int32) &&& (1073741823 : Int32) := ⟨_, rfl⟩
    have h_18 : v_16.toInt = x2.toInt % 2 ^ 30 := by rw [e_17]; exact Jvm.Kit.i32_mask _ _ (k := 30) (by decide) (by decide)
    refine k_iand (v := v_16) C e_17.symm dX1_stored_49 ?_
    refine lv_iload_n C.1 C.2.1 dX1_stored_50 rfl (lv_at hl 3 rfl) ?_
    obtain ⟨v_19, e_20⟩ : ∃ z, z = (v_16 : Int32) <<< ((w29_3 : Int32) &&& 31) := ⟨_, rfl⟩
    refine k_ishl (v := v_19) C e_20.symm dX1_stored_51 ?_
    refine lv_iload C.1 C.2.1 dX1_stored_52 (lv_at hl 4 rfl) ?_
    obtain ⟨v_22, e_23⟩ : ∃ z, z = (v_19 : Int32) &&& (w29_4 : Int32) := ⟨_, rfl⟩
    refine k_iand (v := v_22) C e_23.symm dX1_stored_54 ?_
    obtain ⟨v_25, e_26⟩ : ∃ z, z = (v_13 : Int32) ||| (v_22 : Int32) := ⟨_, rfl⟩
    refine k_ior (v := v_25) C e_26.symm dX1_stored_55 ?_
    exact g_iret C hr hlocks hP hD hS rfl () rfl ⟨(i_rng _).1, (i_rng _).2⟩ (Nat.le_of_ble_eq_true rfl) (Nat.le_of_ble_eq_true rfl) dX1_stored_56
  refine lv_bipush (v := 6) C.1 C.2.1 dX1_stored_0 (by decide) ?_
  refine lv_iconst (v := 5) C.1 C.2.1 dX1_stored_2 (by decide) ?_
  refine lv_iload_n C.1 C.2.1 dX1_stored_3 rfl (lv_at hl 1 rfl) ?_
  refine lv_bipush (v := 7) C.1 C.2.1 dX1_stored_4 (by decide) ?_
  obtain ⟨v_28, e_29⟩ : ∃ z, z = (x1 : Int32) &&& (7 : Int32) := ⟨_, rfl⟩
  have h_30 : v_28.toInt = x1.toInt % 2 ^ 3 := by rw [e_29]; exact Jvm.Kit.i32_mask _ _ (k := 3) (by decide) (by decide)
  refine k_iand (v := v_28) C e_29.symm dX1_stored_6 ?_
  obtain ⟨v_31, e_32⟩ : ∃ z, z = (5 : Int32) - (v_28 : Int32) := ⟨_, rfl⟩
  have h_33 : v_31.toInt = 5 - v_28.toInt := by rw [e_32]; exact ti_isub (by show (_ : Int) ≤ 5 - v_28.toInt; omega) (by show 5 - v_28.toInt < (_ : Int); omega)
  refine k_isub (v := v_31) C e_32.symm dX1_stored_7 ?_
  obtain ⟨v_34, e_35⟩ : ∃ z, z = (6 : Int32) * (v_31 : Int32) := ⟨_, rfl⟩
  have h_36 : v_34.toInt = 6 * v_31.toInt := by rw [e_35]; exact ti_mull (k := 6) (by decide) (by omega) (by omega)
  refine k_imul (v := v_34) C e_35.symm dX1_stored_8 ?_
  refine lv_istore_n (lv' := [(3, .int v_34), (0, .int x0), (1, .int x1), (2, .int x2)]) C.1 C.2.1 dX1_stored_9 rfl hl (by decide) rfl (fun ls hl => ?_)
  have hl : lv_has ls 6 [(0, .int x0), (1, .int x1), (2, .int x2), (3, .int v_34)] := lv_sub hl [1, 2, 3, 0] rfl
  refine lv_iload_n C.1 C.2.1 dX1_stored_10 rfl (lv_at hl 1 rfl) ?_
  refine g_Si (As := [.int x1]) (rest := []) C hP hD hS hA (T_X1_maskOf l D K Z Y ad d t hok (x1) (show (-1073741824 : Int) ≤ (x1 : Int32).toInt ∧ (x1 : Int32).toInt ≤ 1073741823 from ⟨by omega, by omega⟩)) hE hZ (uwS m_24_5 m_24_6 m_14_2 m_24_7) (hdS 1 (by decide +kernel) rfl) ⟨Nat.le_of_ble_eq_true rfl, Nat.le_of_ble_eq_true rfl⟩ rfl rfl rfl hl.1 (Nat.le_of_ble_eq_true rfl) dX1_stored_11 ⟨Nat.le_of_ble_eq_true rfl, Nat.le_of_ble_eq_true rfl⟩ (fun r_38 t_37 H locs hw hP hD hS => ?_)
  obtain ⟨h_40, h_41⟩ := hw
  refine lv_iload_n C.1 C.2.1 dX1_stored_14 rfl (lv_at hl 3 rfl) ?_
  obtain ⟨v_42, e_43⟩ : ∃ z, z = (r_38 : Int32) <<< ((v_34 : Int32) &&& 31) := ⟨_, rfl⟩
  refine k_ishl (v := v_42) C e_43.symm dX1_stored_15 ?_
  refine lv_istore (lv' := [(4, .int v_42), (0, .int x0), (1, .int x1), (2, .int x2), (3, .int v_34)]) C.1 C.2.1 dX1_stored_16 hl (by decide) rfl (fun ls hl => ?_)
  have hl : lv_has ls 6 [(0, .int x0), (1, .int x1), (2, .int x2), (3, .int v_34), (4, .int v_42)] := lv_sub hl [1, 2, 3, 4, 0] rfl
  refine lv_iload_n C.1 C.2.1 dX1_stored_18 rfl (lv_at hl 1 rfl) ?_
  refine lv_iconst (v := 3) C.1 C.2.1 dX1_stored_19 (by decide) ?_
  obtain ⟨v_45, e_46⟩ : ∃ z, z = (x1 : Int32) >>> ((3 : Int32) &&& 31) := ⟨_, rfl⟩
  have h_47 : v_45.toInt = x1.toInt / 2 ^ 3 := by rw [e_46]; exact Jvm.Kit.i32_shr _ _ (k := 3) (by decide)
  refine k_ishr (v := v_45) C e_46.symm dX1_stored_20 ?_
  refine lv_if_ne (tgt := 28) C.1 C.2.1 dX1_stored_21 (by decide) (fun c_48 => ?_) (fun c_48 => ?_)
  · replace c_48 : ¬ v_45.toInt = 0 := i_ne c_48
    refine lv_iload_n C.1 C.2.1 dX1_stored_28 rfl (lv_at hl 0 rfl) ?_
    exact L_29 v_34 v_42 x0 _ _ _ ⟨by omega, by omega⟩ hP hD hS (lv_sub hl [0, 1, 2, 3, 4] rfl)
  · replace c_48 : v_45.toInt = 0 := i_eq c_48
    refine lv_iload_n C.1 C.2.1 dX1_stored_24 rfl (lv_at hl 2 rfl) ?_
    refine lv_goto (tgt := 29) C.1 C.2.1 dX1_stored_25 (by decide) ?_
    exact L_29 v_34 v_42 x2 _ _ _ ⟨by omega, by omega⟩ hP hD hS (lv_sub hl [0, 1, 2, 3, 4] rfl)

theorem dX0_put_0 : decode cX0_put 0 = .ok (.aload_n 0, 1) := by decide +kernel
theorem dX0_put_1 : decode cX0_put 1 = .ok (.getfield 66, 3) := by decide +kernel
theorem dX0_put_10 : decode cX0_put 10 = .ok (.aload_n 0, 1) := by decide +kernel
theorem dX0_put_11 : decode cX0_put 11 = .ok (.getfield 15, 3) := by decide +kernel
theorem dX0_put_14 : decode cX0_put 14 = .ok (.aload_n 0, 1) := by decide +kernel
theorem dX0_put_15 : decode cX0_put 15 = .ok (.getfield 66, 3) := by decide +kernel
theorem dX0_put_18 : decode cX0_put 18 = .ok (.aload_n 0, 1) := by decide +kernel
theorem dX0_put_19 : decode cX0_put 19 = .ok (.getfield 25, 3) := by decide +kernel
theorem dX0_put_22 : decode cX0_put 22 = .ok (.getfield 98, 3) := by decide +kernel
theorem dX0_put_25 : decode cX0_put 25 = .ok (.iastore, 1) := by decide +kernel
theorem dX0_put_26 : decode cX0_put 26 = .ok (.aload_n 0, 1) := by decide +kernel
theorem dX0_put_27 : decode cX0_put 27 = .ok (.getfield 19, 3) := by decide +kernel
theorem dX0_put_30 : decode cX0_put 30 = .ok (.aload_n 0, 1) := by decide +kernel
theorem dX0_put_31 : decode cX0_put 31 = .ok (.getfield 66, 3) := by decide +kernel
theorem dX0_put_34 : decode cX0_put 34 = .ok (.aload_n 0, 1) := by decide +kernel
theorem dX0_put_35 : decode cX0_put 35 = .ok (.getfield 70, 3) := by decide +kernel
theorem dX0_put_38 : decode cX0_put 38 = .ok (.iastore, 1) := by decide +kernel
theorem dX0_put_39 : decode cX0_put 39 = .ok (.aload_n 0, 1) := by decide +kernel
theorem dX0_put_4 : decode cX0_put 4 = .ok (.sipush 1024, 3) := by decide +kernel
theorem dX0_put_40 : decode cX0_put 40 = .ok (.dup, 1) := by decide +kernel
theorem dX0_put_41 : decode cX0_put 41 = .ok (.getfield 66, 3) := by decide +kernel
theorem dX0_put_44 : decode cX0_put 44 = .ok (.iconst 1, 1) := by decide +kernel
theorem dX0_put_45 : decode cX0_put 45 = .ok (.iadd, 1) := by decide +kernel
theorem dX0_put_46 : decode cX0_put 46 = .ok (.putfield 66, 3) := by decide +kernel
theorem dX0_put_49 : decode cX0_put 49 = .ok (.aload_n 0, 1) := by decide +kernel
theorem dX0_put_50 : decode cX0_put 50 = .ok (.iload_n 1, 1) := by decide +kernel
theorem dX0_put_51 : decode cX0_put 51 = .ok (.invokevirtual 230, 3) := by decide +kernel
theorem dX0_put_54 : decode cX0_put 54 = .ok (.return_, 1) := by decide +kernel
theorem dX0_put_7 : decode cX0_put 7 = .ok (.if_icmp .ge 42, 3) := by decide +kernel
set_option maxHeartbeats 4000000 in
set_option maxRecDepth 100000 in
theorem T_X0_put (l : Launch) (D : va_G) (K : Nat → ClassId) (Z Y : Nat → Nat) (ad : Nat → Nat) (d : dSt) (t : tSt) (hok : okX t) (x1 : Int32) : tMet l yX0_put cX0_put 2 none (rmD 1 0 0) D K Z Y [.ref (ad 5), .int x1] ((WX d) K ad t) (QV D K (fun (u : tSt) => okX u ∧ frA [(5, 7), (5, 9), (5, 16)] [] [10, 26, 27] [25] t u) (fun (u : tSt) => (WX d) K ad u)) 0 0 := by
  refine t_met RX0 ⟨rfl, by decide +kernel⟩ (Nat.le_of_ble_eq_true rfl) ?_
  intro p e s m below meth c A ls C hE hZ hr hlocks hA hP hD hS hl
  have hl : lv_has ls 2 [(0, .ref (ad 5)), (1, .int x1)] := hl
  have hokt := hok
  have hfr : frA [(5, 7), (5, 9), (5, 16)] [] [10, 26, 27] [25] t t := frA_rf
  refine lv_aload_n C.1 C.2.1 dX0_put_0 rfl (lv_at hl 0 rfl) ?_
  have h_1 : (0 : Int) ≤ (t.1 5 7).toInt ∧ (t.1 5 7).toInt ≤ 1024 := hok.1 5 7
  refine k_get (v := .int (t.1 5 7)) C hP 5 rfl rfl inlX0 7 (by decide) m_12_2 rfl dX0_put_1 ?_
  refine lv_sipush (v := 1024) C.1 C.2.1 dX0_put_4 (by decide) ?_
  refine lv_icmp_ge (tgt := 49) C.1 C.2.1 dX0_put_7 (by decide) (fun c_2 => ?_) (fun c_2 => ?_)
  · replace c_2 : 1024 ≤ (t.1 5 7).toInt := i_le c_2
    refine lv_aload_n C.1 C.2.1 dX0_put_49 rfl (lv_at hl 0 rfl) ?_
    refine lv_iload_n C.1 C.2.1 dX0_put_50 rfl (lv_at hl 1 rfl) ?_
    refine g_Vv (As := [.int x1]) (rest := []) C hP hD hS hA (T_X0_lay l D K Z Y ad d t hok (x1)) hE hZ (uwV m_26_14 m_26_15 m_26_16 m_2_2 m_26_17) (hdV 1 (by decide +kernel) rfl) ⟨Nat.le_of_ble_eq_true rfl, Nat.le_of_ble_eq_true rfl⟩ rfl rfl (ci := 0) (q0 := 5) rfl rfl rfl hl.1 (Nat.le_of_ble_eq_true rfl) dX0_put_51 ⟨Nat.le_of_ble_eq_true rfl, Nat.le_of_ble_eq_true rfl⟩ (fun t_3 H locs hw hP hD hS => ?_)
    obtain ⟨hok, f_5⟩ := hw
    have hfr : frA [(5, 7), (5, 9), (5, 16)] [] [10, 26, 27] [25] t t_3 := frA_tr hfr f_5 rfl
    have h_6 : (t_3.1 5 7).toInt = (t.1 5 7).toInt := ti_eq (f_5.1 5 7 rfl)
    exact g_vret C hr hlocks hP hD hS t_3 rfl ⟨hok, hfr⟩ (Nat.le_of_ble_eq_true rfl) (Nat.le_of_ble_eq_true rfl) dX0_put_54
  · replace c_2 : (t.1 5 7).toInt < 1024 := i_nle c_2
    refine lv_aload_n C.1 C.2.1 dX0_put_10 rfl (lv_at hl 0 rfl) ?_
    refine k_get (v := .ref (ad 26)) C hP 5 rfl rfl inlX0 5 (by decide) m_5_14 rfl dX0_put_11 ?_
    refine lv_aload_n C.1 C.2.1 dX0_put_14 rfl (lv_at hl 0 rfl) ?_
    refine k_get (v := .int (t.1 5 7)) C hP 5 rfl rfl inlX0 7 (by decide) m_12_2 rfl dX0_put_15 ?_
    refine lv_aload_n C.1 C.2.1 dX0_put_18 rfl (lv_at hl 0 rfl) ?_
    refine k_get (v := .ref (ad 2)) C hP 5 rfl rfl inlX0 0 (by decide) m_5_17 rfl dX0_put_19 ?_
    refine k_get (v := .int (t.1 2 5)) C hP 2 rfl rfl inlX9 5 (by decide) m_13_16 rfl dX0_put_22 ?_
    refine k_ist (ws' := (WX d) K ad (uB t 26 ((t.1 5 7) : Int32).toNatClampNeg (t.1 2 5))) (x' := (t.1 2 5)) C hP hD hS 26 rfl (vp_in_iff.mpr ⟨by omega, by omega⟩) rfl rfl rfl dX0_put_25 (fun H locs hP hD hS => ?_)
    have hok : okX (uB t 26 ((t.1 5 7) : Int32).toNatClampNeg (t.1 2 5)) := ⟨hok.1, okB_B hok.2.1 26 _ (t.1 2 5) (show (-2147483648 : Int) ≤ ((t.1 2 5) : Int32).toInt ∧ ((t.1 2 5) : Int32).toInt ≤ 2147483647 from (i_rng _)), trivial⟩
    have hfr : frA [(5, 7), (5, 9), (5, 16)] [] [10, 26, 27] [25] t (uB t 26 ((t.1 5 7) : Int32).toNatClampNeg (t.1 2 5)) := frA_B hfr 26 _ _ rfl
    refine lv_aload_n C.1 C.2.1 dX0_put_26 rfl (lv_at hl 0 rfl) ?_
    refine k_get (v := .ref (ad 27)) C hP 5 rfl rfl inlX0 6 (by decide) m_5_15 rfl dX0_put_27 ?_
    refine lv_aload_n C.1 C.2.1 dX0_put_30 rfl (lv_at hl 0 rfl) ?_
    refine k_get (v := .int (t.1 5 7)) C hP 5 rfl rfl inlX0 7 (by decide) m_12_2 rfl dX0_put_31 ?_
    refine lv_aload_n C.1 C.2.1 dX0_put_34 rfl (lv_at hl 0 rfl) ?_
    have h_7 : (-1073741824 : Int) ≤ (t.1 5 9).toInt ∧ (t.1 5 9).toInt ≤ 1073741824 := hok.1 5 9
    refine k_get (v := .int (t.1 5 9)) C hP 5 rfl rfl inlX0 9 (by decide) m_12_3 rfl dX0_put_35 ?_
    obtain ⟨t_8, e_9⟩ : ∃ z, z = (uB t 26 ((t.1 5 7) : Int32).toNatClampNeg (t.1 2 5)) := ⟨_, rfl⟩
    rw [← e_9] at hP hD hok hfr
    have h_10 : (t_8.1 5 7).toInt = ((t.1 5 7) : Int32).toInt := by rw [e_9]; rfl
    have h_11 : (t_8.1 2 5).toInt = ((t.1 2 5) : Int32).toInt := by rw [e_9]; rfl
    have h_12 : (t_8.1 5 9).toInt = ((t.1 5 9) : Int32).toInt := by rw [e_9]; rfl
    refine k_ist (ws' := (WX d) K ad (uB t_8 27 ((t.1 5 7) : Int32).toNatClampNeg (t.1 5 9))) (x' := (t.1 5 9)) C hP hD hS 27 rfl (vp_in_iff.mpr ⟨by omega, by omega⟩) rfl rfl rfl dX0_put_38 (fun H locs hP hD hS => ?_)
    have hok : okX (uB t_8 27 ((t.1 5 7) : Int32).toNatClampNeg (t.1 5 9)) := ⟨hok.1, okB_B hok.2.1 27 _ (t.1 5 9) (show (-1073741824 : Int) ≤ ((t.1 5 9) : Int32).toInt ∧ ((t.1 5 9) : Int32).toInt ≤ 1073741824 from ⟨by omega, by omega⟩), trivial⟩
    have hfr : frA [(5, 7), (5, 9), (5, 16)] [] [10, 26, 27] [25] t (uB t_8 27 ((t.1 5 7) : Int32).toNatClampNeg (t.1 5 9)) := frA_B hfr 27 _ _ rfl
    refine lv_aload_n C.1 C.2.1 dX0_put_39 rfl (lv_at hl 0 rfl) ?_
    refine lv_dup C.1 C.2.1 dX0_put_40 rfl ?_
    refine k_get (v := .int (t_8.1 5 7)) C hP 5 rfl rfl inlX0 7 (by decide) m_12_2 rfl dX0_put_41 ?_
    refine lv_iconst (v := 1) C.1 C.2.1 dX0_put_44 (by decide) ?_
    obtain ⟨v_13, e_14⟩ : ∃ z, z = ((t_8.1 5 7) : Int32) + (1 : Int32) := ⟨_, rfl⟩
    have h_15 : v_13.toInt = (t_8.1 5 7).toInt + 1 := by rw [e_14]; exact ti_iadd (by show (_ : Int) ≤ (t_8.1 5 7).toInt + 1; omega) (by show (t_8.1 5 7).toInt + 1 < (_ : Int); omega)
    refine k_iadd (v := v_13) C e_14.symm dX0_put_45 ?_
    refine k_put (ws' := (WX d) K ad (uI (uB t_8 27 ((t.1 5 7) : Int32).toNatClampNeg (t.1 5 9)) 5 7 v_13)) (v := .int v_13) C hP hD hS 5 rfl rfl inlX0 tyX0_ok nmX0 7 (by decide) m_12_2 rfl rfl rfl rfl rfl dX0_put_46 (fun H locs hP hD hS => ?_)
    have hok : okX (uI (uB t_8 27 ((t.1 5 7) : Int32).toNatClampNeg (t.1 5 9)) 5 7 v_13) := ⟨okI_I hok.1 5 7 v_13 (show (0 : Int) ≤ (v_13 : Int32).toInt ∧ (v_13 : Int32).toInt ≤ 1024 from ⟨by omega, by omega⟩), hok.2.1, trivial⟩
    have hfr : frA [(5, 7), (5, 9), (5, 16)] [] [10, 26, 27] [25] t (uI (uB t_8 27 ((t.1 5 7) : Int32).toNatClampNeg (t.1 5 9)) 5 7 v_13) := frA_I hfr 5 7 _ rfl
    refine lv_aload_n C.1 C.2.1 dX0_put_49 rfl (lv_at hl 0 rfl) ?_
    refine lv_iload_n C.1 C.2.1 dX0_put_50 rfl (lv_at hl 1 rfl) ?_
    refine g_Vv (As := [.int x1]) (rest := []) C hP hD hS hA (T_X0_lay l D K Z Y ad d (uI (uB t_8 27 ((t.1 5 7) : Int32).toNatClampNeg (t.1 5 9)) 5 7 v_13) hok (x1)) hE hZ (uwV m_26_14 m_26_15 m_26_16 m_2_2 m_26_17) (hdV 1 (by decide +kernel) rfl) ⟨Nat.le_of_ble_eq_true rfl, Nat.le_of_ble_eq_true rfl⟩ rfl rfl (ci := 0) (q0 := 5) rfl rfl rfl hl.1 (Nat.le_of_ble_eq_true rfl) dX0_put_51 ⟨Nat.le_of_ble_eq_true rfl, Nat.le_of_ble_eq_true rfl⟩ (fun t_16 H locs hw hP hD hS => ?_)
    obtain ⟨hok, f_18⟩ := hw
    have hfr : frA [(5, 7), (5, 9), (5, 16)] [] [10, 26, 27] [25] t t_16 := frA_tr hfr f_18 rfl
    have h_19 : (t_16.1 5 7).toInt = v_13.toInt := ti_eq (f_18.1 5 7 rfl)
    have h_20 : (t_16.1 2 5).toInt = (t_8.1 2 5).toInt := ti_eq (f_18.1 2 5 rfl)
    exact g_vret C hr hlocks hP hD hS t_16 rfl ⟨hok, hfr⟩ (Nat.le_of_ble_eq_true rfl) (Nat.le_of_ble_eq_true rfl) dX0_put_54

theorem dX0_forgetComing_0 : decode cX0_forgetComing 0 = .ok (.iconst 0, 1) := by decide +kernel
theorem dX0_forgetComing_1 : decode cX0_forgetComing 1 = .ok (.istore_n 1, 1) := by decide +kernel
theorem dX0_forgetComing_10 : decode cX0_forgetComing 10 = .ok (.if_icmp .ge 31, 3) := by decide +kernel
theorem dX0_forgetComing_13 : decode cX0_forgetComing 13 = .ok (.aload_n 0, 1) := by decide +kernel
theorem dX0_forgetComing_14 : decode cX0_forgetComing 14 = .ok (.getfield 32, 3) := by decide +kernel
theorem dX0_forgetComing_17 : decode cX0_forgetComing 17 = .ok (.iload_n 1, 1) := by decide +kernel
theorem dX0_forgetComing_18 : decode cX0_forgetComing 18 = .ok (.invokevirtual 150, 3) := by decide +kernel
theorem dX0_forgetComing_2 : decode cX0_forgetComing 2 = .ok (.iload_n 1, 1) := by decide +kernel
theorem dX0_forgetComing_21 : decode cX0_forgetComing 21 = .ok (.iconst 1, 1) := by decide +kernel
theorem dX0_forgetComing_22 : decode cX0_forgetComing 22 = .ok (.if_icmp .ne 13, 3) := by decide +kernel
theorem dX0_forgetComing_25 : decode cX0_forgetComing 25 = .ok (.aload_n 0, 1) := by decide +kernel
theorem dX0_forgetComing_26 : decode cX0_forgetComing 26 = .ok (.getfield 32, 3) := by decide +kernel
theorem dX0_forgetComing_29 : decode cX0_forgetComing 29 = .ok (.iload_n 1, 1) := by decide +kernel
theorem dX0_forgetComing_3 : decode cX0_forgetComing 3 = .ok (.aload_n 0, 1) := by decide +kernel
theorem dX0_forgetComing_30 : decode cX0_forgetComing 30 = .ok (.iconst 0, 1) := by decide +kernel
theorem dX0_forgetComing_31 : decode cX0_forgetComing 31 = .ok (.iconst 0, 1) := by decide +kernel
theorem dX0_forgetComing_32 : decode cX0_forgetComing 32 = .ok (.invokevirtual 224, 3) := by decide +kernel
theorem dX0_forgetComing_35 : decode cX0_forgetComing 35 = .ok (.iinc 1 1, 3) := by decide +kernel
theorem dX0_forgetComing_38 : decode cX0_forgetComing 38 = .ok (.goto (-36), 3) := by decide +kernel
theorem dX0_forgetComing_4 : decode cX0_forgetComing 4 = .ok (.getfield 32, 3) := by decide +kernel
theorem dX0_forgetComing_41 : decode cX0_forgetComing 41 = .ok (.return_, 1) := by decide +kernel
theorem dX0_forgetComing_7 : decode cX0_forgetComing 7 = .ok (.getfield 257, 3) := by decide +kernel
set_option maxHeartbeats 4000000 in
set_option maxRecDepth 100000 in
theorem T_X0_forgetComing (l : Launch) (D : va_G) (K : Nat → ClassId) (Z Y : Nat → Nat) (ad : Nat → Nat) (d : dSt) (t : tSt) (hok : okX t)  : tMet l yX0_forgetComing cX0_forgetComing 2 none (rmD 1 0 0) D K Z Y [.ref (ad 5)] ((WX d) K ad t) (QV D K (fun (u : tSt) => okX u ∧ frA [] [] [42, 43] [] t u) (fun (u : tSt) => (WX d) K ad u)) 0 0 := by
  refine t_met RX0 ⟨rfl, by decide +kernel⟩ (Nat.le_of_ble_eq_true rfl) ?_
  intro p e s m below meth c A ls C hE hZ hr hlocks hA hP hD hS hl
  have hl : lv_has ls 2 [(0, .ref (ad 5))] := hl
  have hokt := hok
  have hfr : frA [] [] [42, 43] [] t t := frA_rf
  have h_1 : (0 : Int) ≤ (t.1 23 3).toInt ∧ (t.1 23 3).toInt ≤ 1024 := hok.1 23 3
  have L_2 : ∀ (fuel_2 : Nat) (t1 : tSt) (w2_1 : Int32) (H : Heap) (locs : List Loc) (ls : Array Slot), okX t1 → frA [] [] [42, 43] [] t t1 → (0 : Int) ≤ w2_1.toInt ∧ w2_1.toInt ≤ 1024 → (1024 : Int) - w2_1.toInt < (fuel_2 : Int) → va_P D vwCl ((WX d) K ad t1) H → va_D A ((WX d) K ad t1) → va_S A s.heap H locs → lv_has ls 2 [(0, .ref (ad 5)), (1, .int w2_1)] → W p l e (rmD 1 0 0) s m [.ref (ad 5)].toArray below meth c H locs 0 0 (MQ below (QV D K (fun (u : tSt) => okX u ∧ frA [] [] [42, 43] [] t u) (fun (u : tSt) => (WX d) K ad u) A) [.ref (ad 5)].toArray s 0 0 A) (F0 m 2 ls []) := by
    intro fuel_2
    induction fuel_2 with
    | zero =>
      intro t1 w2_1 H locs ls hok hfr hw2_1 hm2_2 hP hD hS hl
      have h_2 : (t1.1 23 3).toInt = (t.1 23 3).toInt := ti_eq (hfr.1 23 3 rfl)
      have h_3 : (0 : Int) ≤ (t1.1 23 3).toInt ∧ (t1.1 23 3).toInt ≤ 1024 := hok.1 23 3
      exact absurd hm2_2 (by omega)
    | succ fuel_2 ih_2 =>
      intro t1 w2_1 H locs ls hok hfr hw2_1 hm2_2 hP hD hS hl
      have hm2_2 : (1024 : Int) - w2_1.toInt < (fuel_2 : Int) + 1 := by omega
      have h_4 : (t1.1 23 3).toInt = (t.1 23 3).toInt := ti_eq (hfr.1 23 3 rfl)
      have h_5 : (0 : Int) ≤ (t1.1 23 3).toInt ∧ (t1.1 23 3).toInt ≤ 1024 := hok.1 23 3
      have L_35 : ∀ (t1 : tSt) (w35_1 : Int32) (H : Heap) (locs : List Loc) (ls : Array Slot), okX t1 → frA [] [] [42, 43] [] t t1 → (0 : Int) ≤ w35_1.toInt ∧ w35_1.toInt ≤ 1023 → (1 : Int) ≤ (t1.1 23 3).toInt ∧ (t1.1 23 3).toInt ≤ 1024 → (1024 : Int) - w35_1.toInt < (fuel_2 : Int) + 1 → va_P D vwCl ((WX d) K ad t1) H → va_D A ((WX d) K ad t1) → va_S A s.heap H locs → lv_has ls 2 [(0, .ref (ad 5)), (1, .int w35_1)] → W p l e (rmD 1 0 0) s m [.ref (ad 5)].toArray below meth c H locs 0 0 (MQ below (QV D K (fun (u : tSt) => okX u ∧ frA [] [] [42, 43] [] t u) (fun (u : tSt) => (WX d) K ad u) A) [.ref (ad 5)].toArray s 0 0 A) (F0 m 35 ls []) := by
        intro t1 w35_1 H locs ls hok hfr hw35_1 hf35_3 hm35_2 hP hD hS hl
        have h_6 : (t1.1 23 3).toInt = (t.1 23 3).toInt := ti_eq (hfr.1 23 3 rfl)
        obtain ⟨v_7, e_8⟩ : ∃ z, z = w35_1 + 1 := ⟨_, rfl⟩
        have h_9 : v_7.toInt = w35_1.toInt + 1 := by rw [e_8]; exact ti_iadd (by show (_ : Int) ≤ w35_1.toInt + 1; omega) (by show w35_1.toInt + 1 < (_ : Int); omega)
        refine lv_iinc (v := v_7) (lv' := [(1, .int v_7), (0, .ref (ad 5))]) C.1 C.2.1 dX0_forgetComing_35 hl (k := 1) rfl e_8.symm (by decide) rfl (fun ls hl => ?_)
        have hl : lv_has ls 2 [(0, .ref (ad 5)), (1, .int v_7)] := lv_sub hl [1, 0] rfl
        refine lv_goto (tgt := 2) C.1 C.2.1 dX0_forgetComing_38 (by decide) ?_
        exact ih_2 t1 v_7 _ _ _ hok hfr ⟨by omega, by omega⟩ (show (1024 : Int) - v_7.toInt < (fuel_2 : Int) from by omega) hP hD hS (lv_sub hl [0, 1] rfl)
      refine lv_iload_n C.1 C.2.1 dX0_forgetComing_2 rfl (lv_at hl 1 rfl) ?_
      refine lv_aload_n C.1 C.2.1 dX0_forgetComing_3 rfl (lv_at hl 0 rfl) ?_
      refine k_get (v := .ref (ad 23)) C hP 5 rfl rfl inlX0 2 (by decide) m_5_19 rfl dX0_forgetComing_4 ?_
      refine k_get (v := .int (t1.1 23 3)) C hP 23 rfl rfl inlX8 3 (by decide) m_27_12 rfl dX0_forgetComing_7 ?_
      refine lv_icmp_ge (tgt := 41) C.1 C.2.1 dX0_forgetComing_10 (by decide) (fun c_10 => ?_) (fun c_10 => ?_)
      · replace c_10 : (t1.1 23 3).toInt ≤ w2_1.toInt := i_le c_10
        exact g_vret C hr hlocks hP hD hS t1 rfl ⟨hok, hfr⟩ (Nat.le_of_ble_eq_true rfl) (Nat.le_of_ble_eq_true rfl) dX0_forgetComing_41
      · replace c_10 : w2_1.toInt < (t1.1 23 3).toInt := i_nle c_10
        refine lv_aload_n C.1 C.2.1 dX0_forgetComing_13 rfl (lv_at hl 0 rfl) ?_
        refine k_get (v := .ref (ad 23)) C hP 5 rfl rfl inlX0 2 (by decide) m_5_19 rfl dX0_forgetComing_14 ?_
        refine lv_iload_n C.1 C.2.1 dX0_forgetComing_17 rfl (lv_at hl 1 rfl) ?_
        refine g_Vi (As := [.int w2_1]) (rest := []) C hP hD hS hA (T_X8_standing l D K Z Y ad d t1 hok (w2_1) (show (-128 : Int) ≤ (w2_1 : Int32).toInt ∧ (w2_1 : Int32).toInt ≤ 2147483647 from ⟨by omega, (i_rng _).2⟩)) hE hZ (uwV m_20_15 m_20_16 m_20_17 m_2_5 m_20_18) (hdV 1 (by decide +kernel) rfl) ⟨Nat.le_of_ble_eq_true rfl, Nat.le_of_ble_eq_true rfl⟩ rfl rfl (ci := 7) (q0 := 23) rfl rfl rfl hl.1 (Nat.le_of_ble_eq_true rfl) dX0_forgetComing_18 ⟨Nat.le_of_ble_eq_true rfl, Nat.le_of_ble_eq_true rfl⟩ (fun r_12 t_11 H locs hw hP hD hS => ?_)
        obtain ⟨h_14, h_15, p_16⟩ := hw
        replace p_16 : ¬ r_12.toInt = 0 → 0 ≤ w2_1.toInt ∧ w2_1.toInt < (t1.1 23 3).toInt := p_16
        refine lv_iconst (v := 1) C.1 C.2.1 dX0_forgetComing_21 (by decide) ?_
        refine lv_icmp_ne (tgt := 35) C.1 C.2.1 dX0_forgetComing_22 (by decide) (fun c_17 => ?_) (fun c_17 => ?_)
        · replace c_17 : ¬ r_12.toInt = 1 := i_ne c_17
          exact L_35 t1 w2_1 _ _ _ hok hfr ⟨by omega, by omega⟩ (show (1 : Int) ≤ ((t1.1 23 3) : Int32).toInt ∧ ((t1.1 23 3) : Int32).toInt ≤ 1024 from ⟨by omega, by omega⟩) (show (1024 : Int) - w2_1.toInt < (fuel_2 : Int) + 1 from by omega) hP hD hS (lv_sub hl [0, 1] rfl)
        · replace c_17 : r_12.toInt = 1 := i_eq c_17
          refine lv_aload_n C.1 C.2.1 dX0_forgetComing_25 rfl (lv_at hl 0 rfl) ?_
          refine k_get (v := .ref (ad 23)) C hP 5 rfl rfl inlX0 2 (by decide) m_5_19 rfl dX0_forgetComing_26 ?_
          refine lv_iload_n C.1 C.2.1 dX0_forgetComing_29 rfl (lv_at hl 1 rfl) ?_
          refine lv_iconst (v := 0) C.1 C.2.1 dX0_forgetComing_30 (by decide) ?_
          refine lv_iconst (v := 0) C.1 C.2.1 dX0_forgetComing_31 (by decide) ?_
          refine g_Vv (As := [.int w2_1, .int 0, .int 0]) (rest := []) C hP hD hS hA (T_X8_stand l D K Z Y ad d t1 hok (w2_1) (show (-1 : Int) ≤ (w2_1 : Int32).toInt ∧ (w2_1 : Int32).toInt ≤ 2147483647 from ⟨by omega, (i_rng _).2⟩) 0 (show (0 : Int) ≤ (0 : Int32).toInt ∧ (0 : Int32).toInt ≤ 2 from ⟨by decide, by decide⟩) 0) hE hZ (uwV m_25_20 m_25_21 m_25_22 m_2_5 m_25_23) (hdV 3 (by decide +kernel) rfl) ⟨Nat.le_of_ble_eq_true rfl, Nat.le_of_ble_eq_true rfl⟩ rfl rfl (ci := 7) (q0 := 23) rfl rfl rfl hl.1 (Nat.le_of_ble_eq_true rfl) dX0_forgetComing_32 ⟨Nat.le_of_ble_eq_true rfl, Nat.le_of_ble_eq_true rfl⟩ (fun t_18 H locs hw hP hD hS => ?_)
          obtain ⟨hok, f_20⟩ := hw
          have hfr : frA [] [] [42, 43] [] t t_18 := frA_tr hfr f_20 rfl
          have h_21 : (t_18.1 23 3).toInt = (t1.1 23 3).toInt := ti_eq (f_20.1 23 3 rfl)
          exact L_35 t_18 w2_1 _ _ _ hok hfr ⟨by omega, by omega⟩ (show (1 : Int) ≤ ((t_18.1 23 3) : Int32).toInt ∧ ((t_18.1 23 3) : Int32).toInt ≤ 1024 from ⟨by omega, by omega⟩) (show (1024 : Int) - w2_1.toInt < (fuel_2 : Int) + 1 from by omega) hP hD hS (lv_sub hl [0, 1] rfl)
  refine lv_iconst (v := 0) C.1 C.2.1 dX0_forgetComing_0 (by decide) ?_
  refine lv_istore_n (lv' := [(1, .int 0), (0, .ref (ad 5))]) C.1 C.2.1 dX0_forgetComing_1 rfl hl (by decide) rfl (fun ls hl => ?_)
  have hl : lv_has ls 2 [(0, .ref (ad 5)), (1, .int 0)] := lv_sub hl [1, 0] rfl
  exact L_2 1025 t 0 _ _ _ hok hfr ⟨by decide, by decide⟩ (show (1024 : Int) - 0 < ((1025 : Nat) : Int) from by omega) hP hD hS (lv_sub hl [0, 1] rfl)

theorem dX1_field_0 : decode cX1_field 0 = .ok (.iload_n 1, 1) := by decide +kernel
theorem dX1_field_1 : decode cX1_field 1 = .ok (.iconst 3, 1) := by decide +kernel
theorem dX1_field_10 : decode cX1_field 10 = .ok (.goto 4, 3) := by decide +kernel
theorem dX1_field_13 : decode cX1_field 13 = .ok (.iconst 0, 1) := by decide +kernel
theorem dX1_field_14 : decode cX1_field 14 = .ok (.istore_n 2, 1) := by decide +kernel
theorem dX1_field_15 : decode cX1_field 15 = .ok (.iload_n 2, 1) := by decide +kernel
theorem dX1_field_16 : decode cX1_field 16 = .ok (.iload_n 0, 1) := by decide +kernel
theorem dX1_field_17 : decode cX1_field 17 = .ok (.ldc 12, 2) := by decide +kernel
theorem dX1_field_19 : decode cX1_field 19 = .ok (.iand, 1) := by decide +kernel
theorem dX1_field_2 : decode cX1_field 2 = .ok (.ishr, 1) := by decide +kernel
theorem dX1_field_20 : decode cX1_field 20 = .ok (.bipush 6, 2) := by decide +kernel
theorem dX1_field_22 : decode cX1_field 22 = .ok (.iconst 5, 1) := by decide +kernel
theorem dX1_field_23 : decode cX1_field 23 = .ok (.iload_n 1, 1) := by decide +kernel
theorem dX1_field_24 : decode cX1_field 24 = .ok (.bipush 7, 2) := by decide +kernel
theorem dX1_field_26 : decode cX1_field 26 = .ok (.iand, 1) := by decide +kernel
theorem dX1_field_27 : decode cX1_field 27 = .ok (.isub, 1) := by decide +kernel
theorem dX1_field_28 : decode cX1_field 28 = .ok (.imul, 1) := by decide +kernel
theorem dX1_field_29 : decode cX1_field 29 = .ok (.ishr, 1) := by decide +kernel
theorem dX1_field_3 : decode cX1_field 3 = .ok (.ifCond .ne 10, 3) := by decide +kernel
theorem dX1_field_30 : decode cX1_field 30 = .ok (.iload_n 1, 1) := by decide +kernel
theorem dX1_field_31 : decode cX1_field 31 = .ok (.invokestatic 30, 3) := by decide +kernel
theorem dX1_field_34 : decode cX1_field 34 = .ok (.iand, 1) := by decide +kernel
theorem dX1_field_35 : decode cX1_field 35 = .ok (.ior, 1) := by decide +kernel
theorem dX1_field_36 : decode cX1_field 36 = .ok (.ireturn, 1) := by decide +kernel
theorem dX1_field_6 : decode cX1_field 6 = .ok (.iload_n 0, 1) := by decide +kernel
theorem dX1_field_7 : decode cX1_field 7 = .ok (.ldc 11, 2) := by decide +kernel
theorem dX1_field_9 : decode cX1_field 9 = .ok (.iand, 1) := by decide +kernel
set_option maxHeartbeats 4000000 in
set_option maxRecDepth 100000 in
theorem T_X1_field (l : Launch) (D : va_G) (K : Nat → ClassId) (Z Y : Nat → Nat) (ad : Nat → Nat) (d : dSt) (t : tSt) (hok : okX t) (x0 : Int32) (x1 : Int32) (hx1 : (0 : Int) ≤ x1.toInt ∧ x1.toInt ≤ 63) : tMet l yX1_field cX1_field 3 (some .int) (rmD 2 0 0) D K Z Y [.int x0, .int x1] ((WX d) K ad t) (QI D K (fun (r : Int32) (u : Unit) => (0 : Int) ≤ r.toInt ∧ r.toInt ≤ 2147483647) (fun (_ : Unit) => (WX d) K ad t)) 0 0 := by
  refine t_met RX1 ⟨rfl, by decide +kernel⟩ (Nat.le_of_ble_eq_true rfl) ?_
  intro p e s m below meth c A ls C hE hZ hr hlocks hA hP hD hS hl
  have hl : lv_has ls 3 [(0, .int x0), (1, .int x1)] := hl
  have L_14 : ∀ (k14_0 : Int32) (H : Heap) (locs : List Loc) (ls : Array Slot), (0 : Int) ≤ k14_0.toInt ∧ k14_0.toInt ≤ 1073741824 → va_P D vwCl ((WX d) K ad t) H → va_D A ((WX d) K ad t) → va_S A s.heap H locs → lv_has ls 3 [(0, .int x0), (1, .int x1)] → W p l e (rmD 2 0 0) s m [.int x0, .int x1].toArray below meth c H locs 0 0 (MQ below (QI D K (fun (r : Int32) (u : Unit) => (0 : Int) ≤ r.toInt ∧ r.toInt ≤ 2147483647) (fun (_ : Unit) => (WX d) K ad t) A) [.int x0, .int x1].toArray s 0 0 A) (F0 m 14 ls [.int k14_0]) := by
    intro k14_0 H locs ls hk14_0 hP hD hS hl
    refine lv_istore_n (lv' := [(2, .int k14_0), (0, .int x0), (1, .int x1)]) C.1 C.2.1 dX1_field_14 rfl hl (by decide) rfl (fun ls hl => ?_)
    have hl : lv_has ls 3 [(0, .int x0), (1, .int x1), (2, .int k14_0)] := lv_sub hl [1, 2, 0] rfl
    refine lv_iload_n C.1 C.2.1 dX1_field_15 rfl (lv_at hl 2 rfl) ?_
    refine lv_iload_n C.1 C.2.1 dX1_field_16 rfl (lv_at hl 0 rfl) ?_
    refine lv_ldc (v := 1073741823) C.1 C.2.1 C.2.2.2.1 (C.2.2.2.2.1 _ m_23_11) dX1_field_17 ?_
    obtain ⟨v_1, e_2⟩ : ∃ z, z = (x0 : Int32) &&& (1073741823 : Int32) := ⟨_, rfl⟩
    have h_3 : v_1.toInt = x0.toInt % 2 ^ 30 := by rw [e_2]; exact Jvm.Kit.i32_mask _ _ (k := 30) (by decide) (by decide)
    refine k_iand (v := v_1) C e_2.symm dX1_field_19 ?_
    refine lv_bipush (v := 6) C.1 C.2.1 dX1_field_20 (by decide) ?_
    refine lv_iconst (v := 5) C.1 C.2.1 dX1_field_22 (by decide) ?_
    refine lv_iload_n C.1 C.2.1 dX1_field_23 rfl (lv_at hl 1 rfl) ?_
    refine lv_bipush (v := 7) C.1 C.2.1 dX1_field_24 (by decide) ?_
    obtain ⟨v_4, e_5⟩ : ∃ z, z = (x1 : Int32) &&& (7 : Int32) := ⟨_, rfl⟩
    have h_6 : v_4.toInt = x1.toInt % 2 ^ 3 := by rw [e_5]; exact Jvm.Kit.i32_mask _ _ (k := 3) (by decide) (by decide)
    refine k_iand (v := v_4) C e_5.symm dX1_field_26 ?_
    obtain ⟨v_7, e_8⟩ : ∃ z, z = (5 : Int32) - (v_4 : Int32) := ⟨_, rfl⟩
    have h_9 : v_7.toInt = 5 - v_4.toInt := by rw [e_8]; exact ti_isub (by show (_ : Int) ≤ 5 - v_4.toInt; omega) (by show 5 - v_4.toInt < (_ : Int); omega)
    refine k_isub (v := v_7) C e_8.symm dX1_field_27 ?_
    obtain ⟨v_10, e_11⟩ : ∃ z, z = (6 : Int32) * (v_7 : Int32) := ⟨_, rfl⟩
    have h_12 : v_10.toInt = 6 * v_7.toInt := by rw [e_11]; exact ti_mull (k := 6) (by decide) (by omega) (by omega)
    refine k_imul (v := v_10) C e_11.symm dX1_field_28 ?_
    obtain ⟨v_13, e_14⟩ : ∃ z, z = (v_1 : Int32) >>> ((v_10 : Int32) &&& 31) := ⟨_, rfl⟩
    have h_15 : (0 : Int) ≤ v_13.toInt ∧ v_13.toInt ≤ v_1.toInt := by rw [e_14]; exact z_shr (by show (0 : Int) ≤ v_1.toInt; omega)
    refine k_ishr (v := v_13) C e_14.symm dX1_field_29 ?_
    refine lv_iload_n C.1 C.2.1 dX1_field_30 rfl (lv_at hl 1 rfl) ?_
    refine g_Si (As := [.int x1]) (rest := [.int v_13, .int k14_0]) C hP hD hS hA (T_X1_maskOf l D K Z Y ad d t hok (x1) (show (-1073741824 : Int) ≤ (x1 : Int32).toInt ∧ (x1 : Int32).toInt ≤ 1073741823 from ⟨by omega, by omega⟩)) hE hZ (uwS m_24_5 m_24_6 m_14_2 m_24_7) (hdS 1 (by decide +kernel) rfl) ⟨Nat.le_of_ble_eq_true rfl, Nat.le_of_ble_eq_true rfl⟩ rfl rfl rfl hl.1 (Nat.le_of_ble_eq_true rfl) dX1_field_31 ⟨Nat.le_of_ble_eq_true rfl, Nat.le_of_ble_eq_true rfl⟩ (fun r_17 t_16 H locs hw hP hD hS => ?_)
    obtain ⟨h_19, h_20⟩ := hw
    obtain ⟨v_21, e_22⟩ : ∃ z, z = (v_13 : Int32) &&& (r_17 : Int32) := ⟨_, rfl⟩
    have h_23 : (0 : Int) ≤ v_21.toInt ∧ v_21.toInt ≤ v_13.toInt := by rw [e_22]; exact z_andl (by show (0 : Int) ≤ v_13.toInt; omega)
    refine k_iand (v := v_21) C e_22.symm dX1_field_34 ?_
    obtain ⟨v_24, e_25⟩ : ∃ z, z = (k14_0 : Int32) ||| (v_21 : Int32) := ⟨_, rfl⟩
    have h_26 : (0 : Int) ≤ v_24.toInt ∧ v_24.toInt ≤ 2147483647 := by rw [e_25]; exact z_or (k := 31) (by decide) (by show (0 : Int) ≤ k14_0.toInt; omega) (by show k14_0.toInt < (_ : Int); omega) (by show (0 : Int) ≤ v_21.toInt; omega) (by show v_21.toInt < (_ : Int); omega)
    refine k_ior (v := v_24) C e_25.symm dX1_field_35 ?_
    exact g_iret C hr hlocks hP hD hS rfl () rfl ⟨by omega, by omega⟩ (Nat.le_of_ble_eq_true rfl) (Nat.le_of_ble_eq_true rfl) dX1_field_36
  refine lv_iload_n C.1 C.2.1 dX1_field_0 rfl (lv_at hl 1 rfl) ?_
  refine lv_iconst (v := 3) C.1 C.2.1 dX1_field_1 (by decide) ?_
  obtain ⟨v_27, e_28⟩ : ∃ z, z = (x1 : Int32) >>> ((3 : Int32) &&& 31) := ⟨_, rfl⟩
  have h_29 : v_27.toInt = x1.toInt / 2 ^ 3 := by rw [e_28]; exact Jvm.Kit.i32_shr _ _ (k := 3) (by decide)
  refine k_ishr (v := v_27) C e_28.symm dX1_field_2 ?_
  refine lv_if_ne (tgt := 13) C.1 C.2.1 dX1_field_3 (by decide) (fun c_30 => ?_) (fun c_30 => ?_)
  · replace c_30 : ¬ v_27.toInt = 0 := i_ne c_30
    refine lv_iconst (v := 0) C.1 C.2.1 dX1_field_13 (by decide) ?_
    exact L_14 0 _ _ _ ⟨by decide, by decide⟩ hP hD hS (lv_sub hl [0, 1] rfl)
  · replace c_30 : v_27.toInt = 0 := i_eq c_30
    refine lv_iload_n C.1 C.2.1 dX1_field_6 rfl (lv_at hl 0 rfl) ?_
    refine lv_ldc (v := 1073741824) C.1 C.2.1 C.2.2.2.1 (C.2.2.2.2.1 _ m_22_17) dX1_field_7 ?_
    obtain ⟨v_31, e_32⟩ : ∃ z, z = (x0 : Int32) &&& (1073741824 : Int32) := ⟨_, rfl⟩
    have h_33 : (0 : Int) ≤ v_31.toInt ∧ v_31.toInt ≤ 1073741824 := by rw [e_32]; exact z_and _ (k := 1073741824) (by decide) (by decide)
    refine k_iand (v := v_31) C e_32.symm dX1_field_9 ?_
    refine lv_goto (tgt := 14) C.1 C.2.1 dX1_field_10 (by decide) ?_
    exact L_14 v_31 _ _ _ ⟨by omega, by omega⟩ hP hD hS (lv_sub hl [0, 1] rfl)

theorem dX2_convert_0 : decode cX2_convert 0 = .ok (.aload_n 0, 1) := by decide +kernel
theorem dX2_convert_1 : decode cX2_convert 1 = .ok (.getfield 87, 3) := by decide +kernel
theorem dX2_convert_10 : decode cX2_convert 10 = .ok (.istore_n 3, 1) := by decide +kernel
theorem dX2_convert_100 : decode cX2_convert 100 = .ok (.getfield 87, 3) := by decide +kernel
theorem dX2_convert_103 : decode cX2_convert 103 = .ok (.iconst 1, 1) := by decide +kernel
theorem dX2_convert_104 : decode cX2_convert 104 = .ok (.if_icmp .ne 61, 3) := by decide +kernel
theorem dX2_convert_107 : decode cX2_convert 107 = .ok (.lconst 0, 1) := by decide +kernel
theorem dX2_convert_108 : decode cX2_convert 108 = .ok (.lstore_n 1, 1) := by decide +kernel
theorem dX2_convert_109 : decode cX2_convert 109 = .ok (.aload_n 0, 1) := by decide +kernel
theorem dX2_convert_11 : decode cX2_convert 11 = .ok (.iload_n 3, 1) := by decide +kernel
theorem dX2_convert_110 : decode cX2_convert 110 = .ok (.getfield 11, 3) := by decide +kernel
theorem dX2_convert_113 : decode cX2_convert 113 = .ok (.iconst 0, 1) := by decide +kernel
theorem dX2_convert_114 : decode cX2_convert 114 = .ok (.iaload, 1) := by decide +kernel
theorem dX2_convert_115 : decode cX2_convert 115 = .ok (.ldc 173, 2) := by decide +kernel
theorem dX2_convert_117 : decode cX2_convert 117 = .ok (.iand, 1) := by decide +kernel
theorem dX2_convert_118 : decode cX2_convert 118 = .ok (.istore_n 3, 1) := by decide +kernel
theorem dX2_convert_119 : decode cX2_convert 119 = .ok (.iconst 0, 1) := by decide +kernel
theorem dX2_convert_12 : decode cX2_convert 12 = .ok (.bipush 10, 2) := by decide +kernel
theorem dX2_convert_120 : decode cX2_convert 120 = .ok (.istore 4, 2) := by decide +kernel
theorem dX2_convert_122 : decode cX2_convert 122 = .ok (.iload 4, 2) := by decide +kernel
theorem dX2_convert_124 : decode cX2_convert 124 = .ok (.bipush 10, 2) := by decide +kernel
theorem dX2_convert_126 : decode cX2_convert 126 = .ok (.if_icmp .ge 31, 3) := by decide +kernel
theorem dX2_convert_129 : decode cX2_convert 129 = .ok (.lload_n 1, 1) := by decide +kernel
theorem dX2_convert_130 : decode cX2_convert 130 = .ok (.bipush 30, 2) := by decide +kernel
theorem dX2_convert_132 : decode cX2_convert 132 = .ok (.iload_n 3, 1) := by decide +kernel
theorem dX2_convert_133 : decode cX2_convert 133 = .ok (.bipush 10, 2) := by decide +kernel
theorem dX2_convert_135 : decode cX2_convert 135 = .ok (.irem, 1) := by decide +kernel
theorem dX2_convert_136 : decode cX2_convert 136 = .ok (.iadd, 1) := by decide +kernel
theorem dX2_convert_137 : decode cX2_convert 137 = .ok (.i2l, 1) := by decide +kernel
theorem dX2_convert_138 : decode cX2_convert 138 = .ok (.bipush 6, 2) := by decide +kernel
theorem dX2_convert_14 : decode cX2_convert 14 = .ok (.if_icmp .gt 60, 3) := by decide +kernel
theorem dX2_convert_140 : decode cX2_convert 140 = .ok (.iload 4, 2) := by decide +kernel
theorem dX2_convert_142 : decode cX2_convert 142 = .ok (.imul, 1) := by decide +kernel
theorem dX2_convert_143 : decode cX2_convert 143 = .ok (.lshl, 1) := by decide +kernel
theorem dX2_convert_144 : decode cX2_convert 144 = .ok (.lor, 1) := by decide +kernel
theorem dX2_convert_145 : decode cX2_convert 145 = .ok (.lstore_n 1, 1) := by decide +kernel
theorem dX2_convert_146 : decode cX2_convert 146 = .ok (.iload_n 3, 1) := by decide +kernel
theorem dX2_convert_147 : decode cX2_convert 147 = .ok (.bipush 10, 2) := by decide +kernel
theorem dX2_convert_149 : decode cX2_convert 149 = .ok (.idiv, 1) := by decide +kernel
theorem dX2_convert_150 : decode cX2_convert 150 = .ok (.istore_n 3, 1) := by decide +kernel
theorem dX2_convert_151 : decode cX2_convert 151 = .ok (.iinc 4 1, 3) := by decide +kernel
theorem dX2_convert_154 : decode cX2_convert 154 = .ok (.goto (-32), 3) := by decide +kernel
theorem dX2_convert_157 : decode cX2_convert 157 = .ok (.aload_n 0, 1) := by decide +kernel
theorem dX2_convert_158 : decode cX2_convert 158 = .ok (.lload_n 1, 1) := by decide +kernel
theorem dX2_convert_159 : decode cX2_convert 159 = .ok (.invokevirtual 226, 3) := by decide +kernel
theorem dX2_convert_162 : decode cX2_convert 162 = .ok (.goto 15, 3) := by decide +kernel
theorem dX2_convert_165 : decode cX2_convert 165 = .ok (.aload_n 0, 1) := by decide +kernel
theorem dX2_convert_166 : decode cX2_convert 166 = .ok (.getfield 87, 3) := by decide +kernel
theorem dX2_convert_169 : decode cX2_convert 169 = .ok (.iconst 3, 1) := by decide +kernel
theorem dX2_convert_17 : decode cX2_convert 17 = .ok (.iload_n 3, 1) := by decide +kernel
theorem dX2_convert_170 : decode cX2_convert 170 = .ok (.if_icmp .ne 7, 3) := by decide +kernel
theorem dX2_convert_173 : decode cX2_convert 173 = .ok (.aload_n 0, 1) := by decide +kernel
theorem dX2_convert_174 : decode cX2_convert 174 = .ok (.invokevirtual 229, 3) := by decide +kernel
theorem dX2_convert_177 : decode cX2_convert 177 = .ok (.return_, 1) := by decide +kernel
theorem dX2_convert_18 : decode cX2_convert 18 = .ok (.iconst 5, 1) := by decide +kernel
theorem dX2_convert_19 : decode cX2_convert 19 = .ok (.if_icmp .gt 12, 3) := by decide +kernel
theorem dX2_convert_22 : decode cX2_convert 22 = .ok (.aload_n 0, 1) := by decide +kernel
theorem dX2_convert_23 : decode cX2_convert 23 = .ok (.getfield 11, 3) := by decide +kernel
theorem dX2_convert_26 : decode cX2_convert 26 = .ok (.iconst 0, 1) := by decide +kernel
theorem dX2_convert_27 : decode cX2_convert 27 = .ok (.iaload, 1) := by decide +kernel
theorem dX2_convert_28 : decode cX2_convert 28 = .ok (.goto 10, 3) := by decide +kernel
theorem dX2_convert_31 : decode cX2_convert 31 = .ok (.aload_n 0, 1) := by decide +kernel
theorem dX2_convert_32 : decode cX2_convert 32 = .ok (.getfield 11, 3) := by decide +kernel
theorem dX2_convert_35 : decode cX2_convert 35 = .ok (.bipush 7, 2) := by decide +kernel
theorem dX2_convert_37 : decode cX2_convert 37 = .ok (.iaload, 1) := by decide +kernel
theorem dX2_convert_38 : decode cX2_convert 38 = .ok (.istore 4, 2) := by decide +kernel
theorem dX2_convert_4 : decode cX2_convert 4 = .ok (.ifCond .ne 95, 3) := by decide +kernel
theorem dX2_convert_40 : decode cX2_convert 40 = .ok (.ldc2_w 224, 3) := by decide +kernel
theorem dX2_convert_43 : decode cX2_convert 43 = .ok (.lload_n 1, 1) := by decide +kernel
theorem dX2_convert_44 : decode cX2_convert 44 = .ok (.lmul, 1) := by decide +kernel
theorem dX2_convert_45 : decode cX2_convert 45 = .ok (.iload 4, 2) := by decide +kernel
theorem dX2_convert_47 : decode cX2_convert 47 = .ok (.iload_n 3, 1) := by decide +kernel
theorem dX2_convert_48 : decode cX2_convert 48 = .ok (.iconst 5, 1) := by decide +kernel
theorem dX2_convert_49 : decode cX2_convert 49 = .ok (.if_icmp .gt 7, 3) := by decide +kernel
theorem dX2_convert_52 : decode cX2_convert 52 = .ok (.iload_n 3, 1) := by decide +kernel
theorem dX2_convert_53 : decode cX2_convert 53 = .ok (.goto 6, 3) := by decide +kernel
theorem dX2_convert_56 : decode cX2_convert 56 = .ok (.iload_n 3, 1) := by decide +kernel
theorem dX2_convert_57 : decode cX2_convert 57 = .ok (.iconst 5, 1) := by decide +kernel
theorem dX2_convert_58 : decode cX2_convert 58 = .ok (.isub, 1) := by decide +kernel
theorem dX2_convert_59 : decode cX2_convert 59 = .ok (.invokestatic 130, 3) := by decide +kernel
theorem dX2_convert_62 : decode cX2_convert 62 = .ok (.bipush 10, 2) := by decide +kernel
theorem dX2_convert_64 : decode cX2_convert 64 = .ok (.irem, 1) := by decide +kernel
theorem dX2_convert_65 : decode cX2_convert 65 = .ok (.i2l, 1) := by decide +kernel
theorem dX2_convert_66 : decode cX2_convert 66 = .ok (.ladd, 1) := by decide +kernel
theorem dX2_convert_67 : decode cX2_convert 67 = .ok (.lstore_n 1, 1) := by decide +kernel
theorem dX2_convert_68 : decode cX2_convert 68 = .ok (.iinc 3 1, 3) := by decide +kernel
theorem dX2_convert_7 : decode cX2_convert 7 = .ok (.lconst 0, 1) := by decide +kernel
theorem dX2_convert_71 : decode cX2_convert 71 = .ok (.goto (-60), 3) := by decide +kernel
theorem dX2_convert_74 : decode cX2_convert 74 = .ok (.aload_n 0, 1) := by decide +kernel
theorem dX2_convert_75 : decode cX2_convert 75 = .ok (.getfield 11, 3) := by decide +kernel
theorem dX2_convert_78 : decode cX2_convert 78 = .ok (.iconst 0, 1) := by decide +kernel
theorem dX2_convert_79 : decode cX2_convert 79 = .ok (.aload_n 0, 1) := by decide +kernel
theorem dX2_convert_8 : decode cX2_convert 8 = .ok (.lstore_n 1, 1) := by decide +kernel
theorem dX2_convert_80 : decode cX2_convert 80 = .ok (.getfield 11, 3) := by decide +kernel
theorem dX2_convert_83 : decode cX2_convert 83 = .ok (.iconst 0, 1) := by decide +kernel
theorem dX2_convert_84 : decode cX2_convert 84 = .ok (.iaload, 1) := by decide +kernel
theorem dX2_convert_85 : decode cX2_convert 85 = .ok (.ldc 124, 2) := by decide +kernel
theorem dX2_convert_87 : decode cX2_convert 87 = .ok (.iand, 1) := by decide +kernel
theorem dX2_convert_88 : decode cX2_convert 88 = .ok (.lload_n 1, 1) := by decide +kernel
theorem dX2_convert_89 : decode cX2_convert 89 = .ok (.ldc2_w 219, 3) := by decide +kernel
theorem dX2_convert_9 : decode cX2_convert 9 = .ok (.iconst 1, 1) := by decide +kernel
theorem dX2_convert_92 : decode cX2_convert 92 = .ok (.land, 1) := by decide +kernel
theorem dX2_convert_93 : decode cX2_convert 93 = .ok (.l2i, 1) := by decide +kernel
theorem dX2_convert_94 : decode cX2_convert 94 = .ok (.ior, 1) := by decide +kernel
theorem dX2_convert_95 : decode cX2_convert 95 = .ok (.iastore, 1) := by decide +kernel
theorem dX2_convert_96 : decode cX2_convert 96 = .ok (.goto 81, 3) := by decide +kernel
theorem dX2_convert_99 : decode cX2_convert 99 = .ok (.aload_n 0, 1) := by decide +kernel
set_option maxHeartbeats 4000000 in
set_option maxRecDepth 100000 in
theorem T_X2_convert (l : Launch) (D : va_G) (K : Nat → ClassId) (Z Y : Nat → Nat) (ad : Nat → Nat) (d : dSt) (t : tSt) (hok : okX t)  : tMet l yX2_convert cX2_convert 5 none (rmD 2 0 0) D K Z Y [.ref (ad 4)] ((WX d) K ad t) (QV D K (fun (u : tSt) => okX u ∧ frA [(4, 3), (4, 4), (4, 5), (4, 10)] [] [22] [] t u) (fun (u : tSt) => (WX d) K ad u)) 0 0 := by
  refine t_met RX2 ⟨rfl, by decide +kernel⟩ (Nat.le_of_ble_eq_true rfl) ?_
  intro p e s m below meth c A ls C hE hZ hr hlocks hA hP hD hS hl
  have hl : lv_has ls 5 [(0, .ref (ad 4))] := hl
  have hokt := hok
  have hfr : frA [(4, 3), (4, 4), (4, 5), (4, 10)] [] [22] [] t t := frA_rf
  have L_122 : ∀ (fuel_122 : Nat) (t1 : tSt) (w122_1 : Int64) (w122_3 : Int32) (w122_4 : Int32) (H : Heap) (locs : List Loc) (ls : Array Slot), okX t1 → frA [(4, 3), (4, 4), (4, 5), (4, 10)] [] [22] [] t t1 → (0 : Int) ≤ w122_3.toInt ∧ w122_3.toInt ≤ 1073741823 → (0 : Int) ≤ w122_4.toInt ∧ w122_4.toInt ≤ 10 → (1 : Int) ≤ (t1.1 4 14).toInt ∧ (t1.1 4 14).toInt ≤ 1 → (10 : Int) - w122_4.toInt < (fuel_122 : Int) → va_P D vwCl ((WX d) K ad t1) H → va_D A ((WX d) K ad t1) → va_S A s.heap H locs → lv_has ls 5 [(0, .ref (ad 4)), (1, .long w122_1), (3, .int w122_3), (4, .int w122_4)] → W p l e (rmD 2 0 0) s m [.ref (ad 4)].toArray below meth c H locs 0 0 (MQ below (QV D K (fun (u : tSt) => okX u ∧ frA [(4, 3), (4, 4), (4, 5), (4, 10)] [] [22] [] t u) (fun (u : tSt) => (WX d) K ad u) A) [.ref (ad 4)].toArray s 0 0 A) (F0 m 122 ls []) := by
    intro fuel_122
    induction fuel_122 with
    | zero =>
      intro t1 w122_1 w122_3 w122_4 H locs ls hok hfr hw122_3 hw122_4 hf122_14 hm122_122 hP hD hS hl
      exact absurd hm122_122 (by omega)
    | succ fuel_122 ih_122 =>
      intro t1 w122_1 w122_3 w122_4 H locs ls hok hfr hw122_3 hw122_4 hf122_14 hm122_122 hP hD hS hl
      have hm122_122 : (10 : Int) - w122_4.toInt < (fuel_122 : Int) + 1 := by omega
      refine lv_iload C.1 C.2.1 dX2_convert_122 (lv_at hl 3 rfl) ?_
      refine lv_bipush (v := 10) C.1 C.2.1 dX2_convert_124 (by decide) ?_
      refine lv_icmp_ge (tgt := 157) C.1 C.2.1 dX2_convert_126 (by decide) (fun c_1 => ?_) (fun c_1 => ?_)
      · replace c_1 : 10 ≤ w122_4.toInt := i_le c_1
        refine lv_aload_n C.1 C.2.1 dX2_convert_157 rfl (lv_at hl 0 rfl) ?_
        refine lv_lload_n C.1 C.2.1 dX2_convert_158 rfl (lv_at hl 1 rfl) ?_
        refine g_Vv (As := [.long w122_1]) (rest := []) C hP hD hS hA (T_X2_spread l D K Z Y ad d t1 hok (w122_1)) hE hZ (uwV m_51_7 m_51_8 m_51_9 m_1_23 m_51_10) (hdV 1 (by decide +kernel) rfl) ⟨Nat.le_of_ble_eq_true rfl, Nat.le_of_ble_eq_true rfl⟩ rfl rfl (ci := 1) (q0 := 4) rfl rfl rfl hl.1 (Nat.le_of_ble_eq_true rfl) dX2_convert_159 ⟨Nat.le_of_ble_eq_true rfl, Nat.le_of_ble_eq_true rfl⟩ (fun t_2 H locs hw hP hD hS => ?_)
        obtain ⟨hok, f_4⟩ := hw
        have hfr : frA [(4, 3), (4, 4), (4, 5), (4, 10)] [] [22] [] t t_2 := frA_tr hfr f_4 rfl
        have h_5 : (t_2.1 4 14).toInt = (t1.1 4 14).toInt := ti_eq (f_4.1 4 14 rfl)
        refine lv_goto (tgt := 177) C.1 C.2.1 dX2_convert_162 (by decide) ?_
        exact g_vret C hr hlocks hP hD hS t_2 rfl ⟨hok, hfr⟩ (Nat.le_of_ble_eq_true rfl) (Nat.le_of_ble_eq_true rfl) dX2_convert_177
      · replace c_1 : w122_4.toInt < 10 := i_nle c_1
        refine lv_lload_n C.1 C.2.1 dX2_convert_129 rfl (lv_at hl 1 rfl) ?_
        refine lv_bipush (v := 30) C.1 C.2.1 dX2_convert_130 (by decide) ?_
        refine lv_iload_n C.1 C.2.1 dX2_convert_132 rfl (lv_at hl 2 rfl) ?_
        refine lv_bipush (v := 10) C.1 C.2.1 dX2_convert_133 (by decide) ?_
        obtain ⟨v_6, e_7⟩ : ∃ z, z = (w122_3 : Int32) - (w122_3 : Int32) / (10 : Int32) * (10 : Int32) := ⟨_, rfl⟩
        have h_8 : v_6.toInt = w122_3.toInt % 10 := by rw [e_7]; exact z_remp (k := 10) (by decide) (by show (0 : Int) ≤ w122_3.toInt; omega)
        refine k_irem (v := v_6) C (by decide) e_7.symm dX2_convert_135 ?_
        obtain ⟨v_9, e_10⟩ : ∃ z, z = (30 : Int32) + (v_6 : Int32) := ⟨_, rfl⟩
        have h_11 : v_9.toInt = 30 + v_6.toInt := by rw [e_10]; exact ti_iadd (by show (_ : Int) ≤ 30 + v_6.toInt; omega) (by show 30 + v_6.toInt < (_ : Int); omega)
        refine k_iadd (v := v_9) C e_10.symm dX2_convert_136 ?_
        obtain ⟨v_12, e_13⟩ : ∃ z, z = (v_9 : Int32).toInt64 := ⟨_, rfl⟩
        have h_14 : v_12.toInt = v_9.toInt := by rw [e_13]; exact Jvm.Kit.i64_of_i32 _
        refine lv_i2l (v := v_12) C.1 C.2.1 dX2_convert_137 e_13.symm ?_
        refine lv_bipush (v := 6) C.1 C.2.1 dX2_convert_138 (by decide) ?_
        refine lv_iload C.1 C.2.1 dX2_convert_140 (lv_at hl 3 rfl) ?_
        obtain ⟨v_15, e_16⟩ : ∃ z, z = (6 : Int32) * (w122_4 : Int32) := ⟨_, rfl⟩
        have h_17 : v_15.toInt = 6 * w122_4.toInt := by rw [e_16]; exact ti_mull (k := 6) (by decide) (by omega) (by omega)
        refine k_imul (v := v_15) C e_16.symm dX2_convert_142 ?_
        obtain ⟨v_18, e_19⟩ : ∃ z, z = (v_12 : Int64) <<< ((v_15 : Int32).toInt64 &&& 63) := ⟨_, rfl⟩
        refine lv_lshl (v := v_18) C.1 C.2.1 dX2_convert_143 e_19.symm ?_
        obtain ⟨v_20, e_21⟩ : ∃ z, z = (w122_1 : Int64) ||| v_18 := ⟨_, rfl⟩
        refine lw_lor (v := v_20) C.1 C.2.1 dX2_convert_144 e_21.symm ?_
        refine lv_lstore_n (lv' := [(1, .long v_20), (0, .ref (ad 4)), (3, .int w122_3), (4, .int w122_4)]) C.1 C.2.1 dX2_convert_145 rfl hl (by decide) rfl (fun ls hl => ?_)
        have hl : lv_has ls 5 [(0, .ref (ad 4)), (1, .long v_20), (3, .int w122_3), (4, .int w122_4)] := lv_sub hl [1, 0, 2, 3] rfl
        refine lv_iload_n C.1 C.2.1 dX2_convert_146 rfl (lv_at hl 2 rfl) ?_
        refine lv_bipush (v := 10) C.1 C.2.1 dX2_convert_147 (by decide) ?_
        obtain ⟨v_22, e_23⟩ : ∃ z, z = (w122_3 : Int32) / (10 : Int32) := ⟨_, rfl⟩
        have h_24 : v_22.toInt = w122_3.toInt / 10 := by rw [e_23]; exact z_divp (k := 10) (by decide) (by decide) (by show (0 : Int) ≤ w122_3.toInt; omega)
        refine k_idiv (v := v_22) C (by decide) e_23.symm dX2_convert_149 ?_
        refine lv_istore_n (lv' := [(3, .int v_22), (0, .ref (ad 4)), (1, .long v_20), (4, .int w122_4)]) C.1 C.2.1 dX2_convert_150 rfl hl (by decide) rfl (fun ls hl => ?_)
        have hl : lv_has ls 5 [(0, .ref (ad 4)), (1, .long v_20), (3, .int v_22), (4, .int w122_4)] := lv_sub hl [1, 2, 0, 3] rfl
        obtain ⟨v_25, e_26⟩ : ∃ z, z = w122_4 + 1 := ⟨_, rfl⟩
        have h_27 : v_25.toInt = w122_4.toInt + 1 := by rw [e_26]; exact ti_iadd (by show (_ : Int) ≤ w122_4.toInt + 1; omega) (by show w122_4.toInt + 1 < (_ : Int); omega)
        refine lv_iinc (v := v_25) (lv' := [(4, .int v_25), (0, .ref (ad 4)), (1, .long v_20), (3, .int v_22)]) C.1 C.2.1 dX2_convert_151 hl (k := 3) rfl e_26.symm (by decide) rfl (fun ls hl => ?_)
        have hl : lv_has ls 5 [(0, .ref (ad 4)), (1, .long v_20), (3, .int v_22), (4, .int v_25)] := lv_sub hl [1, 2, 3, 0] rfl
        refine lv_goto (tgt := 122) C.1 C.2.1 dX2_convert_154 (by decide) ?_
        exact ih_122 t1 v_20 v_22 v_25 _ _ _ hok hfr ⟨by omega, by omega⟩ ⟨by omega, by omega⟩ (show (1 : Int) ≤ ((t1.1 4 14) : Int32).toInt ∧ ((t1.1 4 14) : Int32).toInt ≤ 1 from ⟨by omega, by omega⟩) (show (10 : Int) - v_25.toInt < (fuel_122 : Int) from by omega) hP hD hS (lv_sub hl [0, 1, 2, 3] rfl)
  have L_11 : ∀ (fuel_11 : Nat) (t1 : tSt) (w11_1 : Int64) (w11_3 : Int32) (H : Heap) (locs : List Loc) (ls : Array Slot), okX t1 → frA [(4, 3), (4, 4), (4, 5), (4, 10)] [] [22] [] t t1 → (1 : Int) ≤ w11_3.toInt ∧ w11_3.toInt ≤ 15 → (0 : Int) ≤ (t1.1 4 14).toInt ∧ (t1.1 4 14).toInt ≤ 0 → (15 : Int) - w11_3.toInt < (fuel_11 : Int) → va_P D vwCl ((WX d) K ad t1) H → va_D A ((WX d) K ad t1) → va_S A s.heap H locs → lv_has ls 5 [(0, .ref (ad 4)), (1, .long w11_1), (3, .int w11_3)] → W p l e (rmD 2 0 0) s m [.ref (ad 4)].toArray below meth c H locs 0 0 (MQ below (QV D K (fun (u : tSt) => okX u ∧ frA [(4, 3), (4, 4), (4, 5), (4, 10)] [] [22] [] t u) (fun (u : tSt) => (WX d) K ad u) A) [.ref (ad 4)].toArray s 0 0 A) (F0 m 11 ls []) := by
    intro fuel_11
    induction fuel_11 with
    | zero =>
      intro t1 w11_1 w11_3 H locs ls hok hfr hw11_3 hf11_14 hm11_11 hP hD hS hl
      exact absurd hm11_11 (by omega)
    | succ fuel_11 ih_11 =>
      intro t1 w11_1 w11_3 H locs ls hok hfr hw11_3 hf11_14 hm11_11 hP hD hS hl
      have hm11_11 : (15 : Int) - w11_3.toInt < (fuel_11 : Int) + 1 := by omega
      have L_59 : ∀ (t1 : tSt) (w59_1 : Int64) (w59_3 : Int32) (w59_4 : Int32) (k59_0 : Int64) (k59_1 : Int32) (k59_2 : Int32) (H : Heap) (locs : List Loc) (ls : Array Slot), okX t1 → frA [(4, 3), (4, 4), (4, 5), (4, 10)] [] [22] [] t t1 → (1 : Int) ≤ w59_3.toInt ∧ w59_3.toInt ≤ 10 → (1 : Int) ≤ k59_2.toInt ∧ k59_2.toInt ≤ 5 → (0 : Int) ≤ (t1.1 4 14).toInt ∧ (t1.1 4 14).toInt ≤ 0 → (15 : Int) - w59_3.toInt < (fuel_11 : Int) + 1 → va_P D vwCl ((WX d) K ad t1) H → va_D A ((WX d) K ad t1) → va_S A s.heap H locs → lv_has ls 5 [(0, .ref (ad 4)), (1, .long w59_1), (3, .int w59_3), (4, .int w59_4)] → W p l e (rmD 2 0 0) s m [.ref (ad 4)].toArray below meth c H locs 0 0 (MQ below (QV D K (fun (u : tSt) => okX u ∧ frA [(4, 3), (4, 4), (4, 5), (4, 10)] [] [22] [] t u) (fun (u : tSt) => (WX d) K ad u) A) [.ref (ad 4)].toArray s 0 0 A) (F0 m 59 ls [.int k59_2, .int k59_1, .long k59_0]) := by
        intro t1 w59_1 w59_3 w59_4 k59_0 k59_1 k59_2 H locs ls hok hfr hw59_3 hk59_2 hf59_14 hm59_11 hP hD hS hl
        refine g_Si (As := [.int k59_1, .int k59_2]) (rest := [.long k59_0]) C hP hD hS hA (T_X1_byteOf l D K Z Y ad d t1 hok (k59_1) (k59_2) (show (1 : Int) ≤ (k59_2 : Int32).toInt ∧ (k59_2 : Int32).toInt ≤ 5 from ⟨by omega, by omega⟩)) hE hZ (uwS m_47_13 m_47_14 m_14_2 m_47_15) (hdS 2 (by decide +kernel) rfl) ⟨Nat.le_of_ble_eq_true rfl, Nat.le_of_ble_eq_true rfl⟩ rfl rfl rfl hl.1 (Nat.le_of_ble_eq_true rfl) dX2_convert_59 ⟨Nat.le_of_ble_eq_true rfl, Nat.le_of_ble_eq_true rfl⟩ (fun r_29 t_28 H locs hw hP hD hS => ?_)
        obtain ⟨h_31, h_32⟩ := hw
        refine lv_bipush (v := 10) C.1 C.2.1 dX2_convert_62 (by decide) ?_
        obtain ⟨v_33, e_34⟩ : ∃ z, z = (r_29 : Int32) - (r_29 : Int32) / (10 : Int32) * (10 : Int32) := ⟨_, rfl⟩
        have h_35 : v_33.toInt = r_29.toInt % 10 := by rw [e_34]; exact z_remp (k := 10) (by decide) (by show (0 : Int) ≤ r_29.toInt; omega)
        refine k_irem (v := v_33) C (by decide) e_34.symm dX2_convert_64 ?_
        obtain ⟨v_36, e_37⟩ : ∃ z, z = (v_33 : Int32).toInt64 := ⟨_, rfl⟩
        have h_38 : v_36.toInt = v_33.toInt := by rw [e_37]; exact Jvm.Kit.i64_of_i32 _
        refine lv_i2l (v := v_36) C.1 C.2.1 dX2_convert_65 e_37.symm ?_
        obtain ⟨v_39, e_40⟩ : ∃ z, z = (k59_0 : Int64) + (v_36 : Int64) := ⟨_, rfl⟩
        refine k_ladd (v := v_39) C e_40.symm dX2_convert_66 ?_
        refine lv_lstore_n (lv' := [(1, .long v_39), (0, .ref (ad 4)), (3, .int w59_3), (4, .int w59_4)]) C.1 C.2.1 dX2_convert_67 rfl hl (by decide) rfl (fun ls hl => ?_)
        have hl : lv_has ls 5 [(0, .ref (ad 4)), (1, .long v_39), (3, .int w59_3), (4, .int w59_4)] := lv_sub hl [1, 0, 2, 3] rfl
        obtain ⟨v_41, e_42⟩ : ∃ z, z = w59_3 + 1 := ⟨_, rfl⟩
        have h_43 : v_41.toInt = w59_3.toInt + 1 := by rw [e_42]; exact ti_iadd (by show (_ : Int) ≤ w59_3.toInt + 1; omega) (by show w59_3.toInt + 1 < (_ : Int); omega)
        refine lv_iinc (v := v_41) (lv' := [(3, .int v_41), (0, .ref (ad 4)), (1, .long v_39), (4, .int w59_4)]) C.1 C.2.1 dX2_convert_68 hl (k := 2) rfl e_42.symm (by decide) rfl (fun ls hl => ?_)
        have hl : lv_has ls 5 [(0, .ref (ad 4)), (1, .long v_39), (3, .int v_41), (4, .int w59_4)] := lv_sub hl [1, 2, 0, 3] rfl
        refine lv_goto (tgt := 11) C.1 C.2.1 dX2_convert_71 (by decide) ?_
        exact ih_11 t1 v_39 v_41 _ _ _ hok hfr ⟨by omega, by omega⟩ (show (0 : Int) ≤ ((t1.1 4 14) : Int32).toInt ∧ ((t1.1 4 14) : Int32).toInt ≤ 0 from ⟨by omega, by omega⟩) (show (15 : Int) - v_41.toInt < (fuel_11 : Int) from by omega) hP hD hS (lv_sub hl [0, 1, 2] rfl)
      have L_38 : ∀ (t1 : tSt) (w38_1 : Int64) (w38_3 : Int32) (k38_0 : Int32) (H : Heap) (locs : List Loc) (ls : Array Slot), okX t1 → frA [(4, 3), (4, 4), (4, 5), (4, 10)] [] [22] [] t t1 → (1 : Int) ≤ w38_3.toInt ∧ w38_3.toInt ≤ 10 → (0 : Int) ≤ (t1.1 4 14).toInt ∧ (t1.1 4 14).toInt ≤ 0 → (15 : Int) - w38_3.toInt < (fuel_11 : Int) + 1 → va_P D vwCl ((WX d) K ad t1) H → va_D A ((WX d) K ad t1) → va_S A s.heap H locs → lv_has ls 5 [(0, .ref (ad 4)), (1, .long w38_1), (3, .int w38_3)] → W p l e (rmD 2 0 0) s m [.ref (ad 4)].toArray below meth c H locs 0 0 (MQ below (QV D K (fun (u : tSt) => okX u ∧ frA [(4, 3), (4, 4), (4, 5), (4, 10)] [] [22] [] t u) (fun (u : tSt) => (WX d) K ad u) A) [.ref (ad 4)].toArray s 0 0 A) (F0 m 38 ls [.int k38_0]) := by
        intro t1 w38_1 w38_3 k38_0 H locs ls hok hfr hw38_3 hf38_14 hm38_11 hP hD hS hl
        refine lv_istore (lv' := [(4, .int k38_0), (0, .ref (ad 4)), (1, .long w38_1), (3, .int w38_3)]) C.1 C.2.1 dX2_convert_38 hl (by decide) rfl (fun ls hl => ?_)
        have hl : lv_has ls 5 [(0, .ref (ad 4)), (1, .long w38_1), (3, .int w38_3), (4, .int k38_0)] := lv_sub hl [1, 2, 3, 0] rfl
        refine lv_ldc2 (v := 10) C.1 C.2.1 C.2.2.2.1 (C.2.2.2.2.1 _ m_51_6) dX2_convert_40 ?_
        refine lv_lload_n C.1 C.2.1 dX2_convert_43 rfl (lv_at hl 1 rfl) ?_
        obtain ⟨v_44, e_45⟩ : ∃ z, z = (10 : Int64) * (w38_1 : Int64) := ⟨_, rfl⟩
        refine k_lmul (v := v_44) C e_45.symm dX2_convert_44 ?_
        refine lv_iload C.1 C.2.1 dX2_convert_45 (lv_at hl 3 rfl) ?_
        refine lv_iload_n C.1 C.2.1 dX2_convert_47 rfl (lv_at hl 2 rfl) ?_
        refine lv_iconst (v := 5) C.1 C.2.1 dX2_convert_48 (by decide) ?_
        refine lv_icmp_gt (tgt := 56) C.1 C.2.1 dX2_convert_49 (by decide) (fun c_46 => ?_) (fun c_46 => ?_)
        · replace c_46 : 5 < w38_3.toInt := i_lt c_46
          refine lv_iload_n C.1 C.2.1 dX2_convert_56 rfl (lv_at hl 2 rfl) ?_
          refine lv_iconst (v := 5) C.1 C.2.1 dX2_convert_57 (by decide) ?_
          obtain ⟨v_47, e_48⟩ : ∃ z, z = (w38_3 : Int32) - (5 : Int32) := ⟨_, rfl⟩
          have h_49 : v_47.toInt = w38_3.toInt - 5 := by rw [e_48]; exact ti_isub (by show (_ : Int) ≤ w38_3.toInt - 5; omega) (by show w38_3.toInt - 5 < (_ : Int); omega)
          refine k_isub (v := v_47) C e_48.symm dX2_convert_58 ?_
          exact L_59 t1 w38_1 w38_3 k38_0 v_44 k38_0 v_47 _ _ _ hok hfr ⟨by omega, by omega⟩ ⟨by omega, by omega⟩ (show (0 : Int) ≤ ((t1.1 4 14) : Int32).toInt ∧ ((t1.1 4 14) : Int32).toInt ≤ 0 from ⟨by omega, by omega⟩) (show (15 : Int) - w38_3.toInt < (fuel_11 : Int) + 1 from by omega) hP hD hS (lv_sub hl [0, 1, 2, 3] rfl)
        · replace c_46 : w38_3.toInt ≤ 5 := i_nlt c_46
          refine lv_iload_n C.1 C.2.1 dX2_convert_52 rfl (lv_at hl 2 rfl) ?_
          refine lv_goto (tgt := 59) C.1 C.2.1 dX2_convert_53 (by decide) ?_
          exact L_59 t1 w38_1 w38_3 k38_0 v_44 k38_0 w38_3 _ _ _ hok hfr ⟨by omega, by omega⟩ ⟨by omega, by omega⟩ (show (0 : Int) ≤ ((t1.1 4 14) : Int32).toInt ∧ ((t1.1 4 14) : Int32).toInt ≤ 0 from ⟨by omega, by omega⟩) (show (15 : Int) - w38_3.toInt < (fuel_11 : Int) + 1 from by omega) hP hD hS (lv_sub hl [0, 1, 2, 3] rfl)
      refine lv_iload_n C.1 C.2.1 dX2_convert_11 rfl (lv_at hl 2 rfl) ?_
      refine lv_bipush (v := 10) C.1 C.2.1 dX2_convert_12 (by decide) ?_
      refine lv_icmp_gt (tgt := 74) C.1 C.2.1 dX2_convert_14 (by decide) (fun c_50 => ?_) (fun c_50 => ?_)
      · replace c_50 : 10 < w11_3.toInt := i_lt c_50
        refine lv_aload_n C.1 C.2.1 dX2_convert_74 rfl (lv_at hl 0 rfl) ?_
        refine k_get (v := .ref (ad 22)) C hP 4 rfl rfl inlX2 1 (by decide) m_4_16 rfl dX2_convert_75 ?_
        refine lv_iconst (v := 0) C.1 C.2.1 dX2_convert_78 (by decide) ?_
        refine lv_aload_n C.1 C.2.1 dX2_convert_79 rfl (lv_at hl 0 rfl) ?_
        refine k_get (v := .ref (ad 22)) C hP 4 rfl rfl inlX2 1 (by decide) m_4_16 rfl dX2_convert_80 ?_
        refine lv_iconst (v := 0) C.1 C.2.1 dX2_convert_83 (by decide) ?_
        obtain ⟨v_51, e_52⟩ : ∃ z, z = (t1.2.2.1 22 (0 : Int32).toNatClampNeg) := ⟨_, rfl⟩
        refine k_ild (v := v_51) C hP 22 rfl (vin (by decide)) e_52.symm dX2_convert_84 ?_
        refine lv_ldc (v := 1073741824) C.1 C.2.1 C.2.2.2.1 (C.2.2.2.2.1 _ m_47_11) dX2_convert_85 ?_
        obtain ⟨v_53, e_54⟩ : ∃ z, z = (v_51 : Int32) &&& (1073741824 : Int32) := ⟨_, rfl⟩
        have h_55 : (0 : Int) ≤ v_53.toInt ∧ v_53.toInt ≤ 1073741824 := by rw [e_54]; exact z_and _ (k := 1073741824) (by decide) (by decide)
        refine k_iand (v := v_53) C e_54.symm dX2_convert_87 ?_
        refine lv_lload_n C.1 C.2.1 dX2_convert_88 rfl (lv_at hl 1 rfl) ?_
        refine lv_ldc2 (v := 1073741823) C.1 C.2.1 C.2.2.2.1 (C.2.2.2.2.1 _ m_50_20) dX2_convert_89 ?_
        obtain ⟨v_56, e_57⟩ : ∃ z, z = (w11_1 : Int64) &&& 1073741823 := ⟨_, rfl⟩
        have h_58 : v_56.toInt = w11_1.toInt % 2 ^ 30 := by rw [e_57]; exact Jvm.Kit.i64_mask _ _ (k := 30) (by decide) (by decide)
        refine lw_land (v := v_56) C.1 C.2.1 dX2_convert_92 e_57.symm ?_
        obtain ⟨v_59, e_60⟩ : ∃ z, z = (v_56).toInt32 := ⟨_, rfl⟩
        have h_61 : v_59.toInt = v_56.toInt := by rw [e_60]; exact Jvm.Kit.i32_of_i64 (by show (_ : Int) ≤ v_56.toInt; omega) (by show v_56.toInt < (_ : Int); omega)
        refine lv_l2i (v := v_59) C.1 C.2.1 dX2_convert_93 e_60.symm ?_
        obtain ⟨v_62, e_63⟩ : ∃ z, z = (v_53 : Int32) ||| (v_59 : Int32) := ⟨_, rfl⟩
        have h_64 : (0 : Int) ≤ v_62.toInt ∧ v_62.toInt ≤ 2147483647 := by rw [e_63]; exact z_or (k := 31) (by decide) (by show (0 : Int) ≤ v_53.toInt; omega) (by show v_53.toInt < (_ : Int); omega) (by show (0 : Int) ≤ v_59.toInt; omega) (by show v_59.toInt < (_ : Int); omega)
        refine k_ior (v := v_62) C e_63.symm dX2_convert_94 ?_
        refine k_ist (ws' := (WX d) K ad (uB t1 22 (0 : Int32).toNatClampNeg v_62)) (x' := v_62) C hP hD hS 22 rfl (vin (by decide)) rfl rfl rfl dX2_convert_95 (fun H locs hP hD hS => ?_)
        have hok : okX (uB t1 22 (0 : Int32).toNatClampNeg v_62) := ⟨hok.1, okB_B hok.2.1 22 _ v_62 (show (-2147483648 : Int) ≤ (v_62 : Int32).toInt ∧ (v_62 : Int32).toInt ≤ 2147483647 from (i_rng _)), trivial⟩
        have hfr : frA [(4, 3), (4, 4), (4, 5), (4, 10)] [] [22] [] t (uB t1 22 (0 : Int32).toNatClampNeg v_62) := frA_B hfr 22 _ _ rfl
        refine lv_goto (tgt := 177) C.1 C.2.1 dX2_convert_96 (by decide) ?_
        exact g_vret C hr hlocks hP hD hS (uB t1 22 (0 : Int32).toNatClampNeg v_62) rfl ⟨hok, hfr⟩ (Nat.le_of_ble_eq_true rfl) (Nat.le_of_ble_eq_true rfl) dX2_convert_177
      · replace c_50 : w11_3.toInt ≤ 10 := i_nlt c_50
        refine lv_iload_n C.1 C.2.1 dX2_convert_17 rfl (lv_at hl 2 rfl) ?_
        refine lv_iconst (v := 5) C.1 C.2.1 dX2_convert_18 (by decide) ?_
        refine lv_icmp_gt (tgt := 31) C.1 C.2.1 dX2_convert_19 (by decide) (fun c_65 => ?_) (fun c_65 => ?_)
        · replace c_65 : 5 < w11_3.toInt := i_lt c_65
          refine lv_aload_n C.1 C.2.1 dX2_convert_31 rfl (lv_at hl 0 rfl) ?_
          refine k_get (v := .ref (ad 22)) C hP 4 rfl rfl inlX2 1 (by decide) m_4_16 rfl dX2_convert_32 ?_
          refine lv_bipush (v := 7) C.1 C.2.1 dX2_convert_35 (by decide) ?_
          obtain ⟨v_66, e_67⟩ : ∃ z, z = (t1.2.2.1 22 (7 : Int32).toNatClampNeg) := ⟨_, rfl⟩
          refine k_ild (v := v_66) C hP 22 rfl (vin (by decide)) e_67.symm dX2_convert_37 ?_
          exact L_38 t1 w11_1 w11_3 v_66 _ _ _ hok hfr ⟨by omega, by omega⟩ (show (0 : Int) ≤ ((t1.1 4 14) : Int32).toInt ∧ ((t1.1 4 14) : Int32).toInt ≤ 0 from ⟨by omega, by omega⟩) (show (15 : Int) - w11_3.toInt < (fuel_11 : Int) + 1 from by omega) hP hD hS (lv_sub hl [0, 1, 2] rfl)
        · replace c_65 : w11_3.toInt ≤ 5 := i_nlt c_65
          refine lv_aload_n C.1 C.2.1 dX2_convert_22 rfl (lv_at hl 0 rfl) ?_
          refine k_get (v := .ref (ad 22)) C hP 4 rfl rfl inlX2 1 (by decide) m_4_16 rfl dX2_convert_23 ?_
          refine lv_iconst (v := 0) C.1 C.2.1 dX2_convert_26 (by decide) ?_
          obtain ⟨v_68, e_69⟩ : ∃ z, z = (t1.2.2.1 22 (0 : Int32).toNatClampNeg) := ⟨_, rfl⟩
          refine k_ild (v := v_68) C hP 22 rfl (vin (by decide)) e_69.symm dX2_convert_27 ?_
          refine lv_goto (tgt := 38) C.1 C.2.1 dX2_convert_28 (by decide) ?_
          exact L_38 t1 w11_1 w11_3 v_68 _ _ _ hok hfr ⟨by omega, by omega⟩ (show (0 : Int) ≤ ((t1.1 4 14) : Int32).toInt ∧ ((t1.1 4 14) : Int32).toInt ≤ 0 from ⟨by omega, by omega⟩) (show (15 : Int) - w11_3.toInt < (fuel_11 : Int) + 1 from by omega) hP hD hS (lv_sub hl [0, 1, 2] rfl)
  refine lv_aload_n C.1 C.2.1 dX2_convert_0 rfl (lv_at hl 0 rfl) ?_
  have h_70 : (0 : Int) ≤ (t.1 4 14).toInt ∧ (t.1 4 14).toInt ≤ 63 := hok.1 4 14
  refine k_get (v := .int (t.1 4 14)) C hP 4 rfl rfl inlX2 14 (by decide) m_45_19 rfl dX2_convert_1 ?_
  refine lv_if_ne (tgt := 99) C.1 C.2.1 dX2_convert_4 (by decide) (fun c_71 => ?_) (fun c_71 => ?_)
  · replace c_71 : ¬ (t.1 4 14).toInt = 0 := i_ne c_71
    refine lv_aload_n C.1 C.2.1 dX2_convert_99 rfl (lv_at hl 0 rfl) ?_
    refine k_get (v := .int (t.1 4 14)) C hP 4 rfl rfl inlX2 14 (by decide) m_45_19 rfl dX2_convert_100 ?_
    refine lv_iconst (v := 1) C.1 C.2.1 dX2_convert_103 (by decide) ?_
    refine lv_icmp_ne (tgt := 165) C.1 C.2.1 dX2_convert_104 (by decide) (fun c_72 => ?_) (fun c_72 => ?_)
    · replace c_72 : ¬ (t.1 4 14).toInt = 1 := i_ne c_72
      refine lv_aload_n C.1 C.2.1 dX2_convert_165 rfl (lv_at hl 0 rfl) ?_
      refine k_get (v := .int (t.1 4 14)) C hP 4 rfl rfl inlX2 14 (by decide) m_45_19 rfl dX2_convert_166 ?_
      refine lv_iconst (v := 3) C.1 C.2.1 dX2_convert_169 (by decide) ?_
      refine lv_icmp_ne (tgt := 177) C.1 C.2.1 dX2_convert_170 (by decide) (fun c_73 => ?_) (fun c_73 => ?_)
      · replace c_73 : ¬ (t.1 4 14).toInt = 3 := i_ne c_73
        exact g_vret C hr hlocks hP hD hS t rfl ⟨hok, hfr⟩ (Nat.le_of_ble_eq_true rfl) (Nat.le_of_ble_eq_true rfl) dX2_convert_177
      · replace c_73 : (t.1 4 14).toInt = 3 := i_eq c_73
        refine lv_aload_n C.1 C.2.1 dX2_convert_173 rfl (lv_at hl 0 rfl) ?_
        refine g_Vv (As := []) (rest := []) C hP hD hS hA (T_X2_returnToNormal l D K Z Y ad d t hok ) hE hZ (uwV m_51_11 m_51_12 m_51_13 m_1_23 m_51_14) (hdV 0 (by decide +kernel) rfl) ⟨Nat.le_of_ble_eq_true rfl, Nat.le_of_ble_eq_true rfl⟩ rfl rfl (ci := 1) (q0 := 4) rfl rfl rfl hl.1 (Nat.le_of_ble_eq_true rfl) dX2_convert_174 ⟨Nat.le_of_ble_eq_true rfl, Nat.le_of_ble_eq_true rfl⟩ (fun t_74 H locs hw hP hD hS => ?_)
        obtain ⟨hok, f_76⟩ := hw
        have hfr : frA [(4, 3), (4, 4), (4, 5), (4, 10)] [] [22] [] t t_74 := frA_tr hfr f_76 rfl
        have h_77 : (t_74.1 4 14).toInt = (t.1 4 14).toInt := ti_eq (f_76.1 4 14 rfl)
        exact g_vret C hr hlocks hP hD hS t_74 rfl ⟨hok, hfr⟩ (Nat.le_of_ble_eq_true rfl) (Nat.le_of_ble_eq_true rfl) dX2_convert_177
    · replace c_72 : (t.1 4 14).toInt = 1 := i_eq c_72
      refine lv_lconst (v := 0) C.1 C.2.1 dX2_convert_107 (by decide) ?_
      refine lv_lstore_n (lv' := [(1, .long 0), (0, .ref (ad 4))]) C.1 C.2.1 dX2_convert_108 rfl hl (by decide) rfl (fun ls hl => ?_)
      have hl : lv_has ls 5 [(0, .ref (ad 4)), (1, .long 0)] := lv_sub hl [1, 0] rfl
      refine lv_aload_n C.1 C.2.1 dX2_convert_109 rfl (lv_at hl 0 rfl) ?_
      refine k_get (v := .ref (ad 22)) C hP 4 rfl rfl inlX2 1 (by decide) m_4_16 rfl dX2_convert_110 ?_
      refine lv_iconst (v := 0) C.1 C.2.1 dX2_convert_113 (by decide) ?_
      obtain ⟨v_78, e_79⟩ : ∃ z, z = (t.2.2.1 22 (0 : Int32).toNatClampNeg) := ⟨_, rfl⟩
      refine k_ild (v := v_78) C hP 22 rfl (vin (by decide)) e_79.symm dX2_convert_114 ?_
      refine lv_ldc (v := 1073741823) C.1 C.2.1 C.2.2.2.1 (C.2.2.2.2.1 _ m_48_22) dX2_convert_115 ?_
      obtain ⟨v_80, e_81⟩ : ∃ z, z = (v_78 : Int32) &&& (1073741823 : Int32) := ⟨_, rfl⟩
      have h_82 : v_80.toInt = v_78.toInt % 2 ^ 30 := by rw [e_81]; exact Jvm.Kit.i32_mask _ _ (k := 30) (by decide) (by decide)
      refine k_iand (v := v_80) C e_81.symm dX2_convert_117 ?_
      refine lv_istore_n (lv' := [(3, .int v_80), (0, .ref (ad 4)), (1, .long 0)]) C.1 C.2.1 dX2_convert_118 rfl hl (by decide) rfl (fun ls hl => ?_)
      have hl : lv_has ls 5 [(0, .ref (ad 4)), (1, .long 0), (3, .int v_80)] := lv_sub hl [1, 2, 0] rfl
      refine lv_iconst (v := 0) C.1 C.2.1 dX2_convert_119 (by decide) ?_
      refine lv_istore (lv' := [(4, .int 0), (0, .ref (ad 4)), (1, .long 0), (3, .int v_80)]) C.1 C.2.1 dX2_convert_120 hl (by decide) rfl (fun ls hl => ?_)
      have hl : lv_has ls 5 [(0, .ref (ad 4)), (1, .long 0), (3, .int v_80), (4, .int 0)] := lv_sub hl [1, 2, 3, 0] rfl
      exact L_122 11 t 0 v_80 0 _ _ _ hok hfr ⟨by omega, by omega⟩ ⟨by decide, by decide⟩ (show (1 : Int) ≤ ((t.1 4 14) : Int32).toInt ∧ ((t.1 4 14) : Int32).toInt ≤ 1 from ⟨by omega, by omega⟩) (show (10 : Int) - 0 < ((11 : Nat) : Int) from by omega) hP hD hS (lv_sub hl [0, 1, 2, 3] rfl)
  · replace c_71 : (t.1 4 14).toInt = 0 := i_eq c_71
    refine lv_lconst (v := 0) C.1 C.2.1 dX2_convert_7 (by decide) ?_
    refine lv_lstore_n (lv' := [(1, .long 0), (0, .ref (ad 4))]) C.1 C.2.1 dX2_convert_8 rfl hl (by decide) rfl (fun ls hl => ?_)
    have hl : lv_has ls 5 [(0, .ref (ad 4)), (1, .long 0)] := lv_sub hl [1, 0] rfl
    refine lv_iconst (v := 1) C.1 C.2.1 dX2_convert_9 (by decide) ?_
    refine lv_istore_n (lv' := [(3, .int 1), (0, .ref (ad 4)), (1, .long 0)]) C.1 C.2.1 dX2_convert_10 rfl hl (by decide) rfl (fun ls hl => ?_)
    have hl : lv_has ls 5 [(0, .ref (ad 4)), (1, .long 0), (3, .int 1)] := lv_sub hl [1, 2, 0] rfl
    exact L_11 15 t 0 1 _ _ _ hok hfr ⟨by decide, by decide⟩ (show (0 : Int) ≤ ((t.1 4 14) : Int32).toInt ∧ ((t.1 4 14) : Int32).toInt ≤ 0 from ⟨by omega, by omega⟩) (show (15 : Int) - 1 < ((15 : Nat) : Int) from by omega) hP hD hS (lv_sub hl [0, 1, 2] rfl)

theorem dX2_shift_0 : decode cX2_shift 0 = .ok (.aload_n 0, 1) := by decide +kernel
theorem dX2_shift_1 : decode cX2_shift 1 = .ok (.getfield 11, 3) := by decide +kernel
theorem dX2_shift_10 : decode cX2_shift 10 = .ok (.lstore_n 1, 1) := by decide +kernel
theorem dX2_shift_100 : decode cX2_shift 100 = .ok (.iastore, 1) := by decide +kernel
theorem dX2_shift_101 : decode cX2_shift 101 = .ok (.goto 89, 3) := by decide +kernel
theorem dX2_shift_104 : decode cX2_shift 104 = .ok (.aload_n 0, 1) := by decide +kernel
theorem dX2_shift_105 : decode cX2_shift 105 = .ok (.getfield 87, 3) := by decide +kernel
theorem dX2_shift_108 : decode cX2_shift 108 = .ok (.iconst 4, 1) := by decide +kernel
theorem dX2_shift_109 : decode cX2_shift 109 = .ok (.if_icmp .ge 31, 3) := by decide +kernel
theorem dX2_shift_11 : decode cX2_shift 11 = .ok (.aload_n 0, 1) := by decide +kernel
theorem dX2_shift_112 : decode cX2_shift 112 = .ok (.aload_n 0, 1) := by decide +kernel
theorem dX2_shift_113 : decode cX2_shift 113 = .ok (.aload_n 0, 1) := by decide +kernel
theorem dX2_shift_114 : decode cX2_shift 114 = .ok (.getfield 87, 3) := by decide +kernel
theorem dX2_shift_117 : decode cX2_shift 117 = .ok (.iconst 2, 1) := by decide +kernel
theorem dX2_shift_118 : decode cX2_shift 118 = .ok (.if_icmp .ne 11, 3) := by decide +kernel
theorem dX2_shift_12 : decode cX2_shift 12 = .ok (.getfield 11, 3) := by decide +kernel
theorem dX2_shift_121 : decode cX2_shift 121 = .ok (.lload 5, 2) := by decide +kernel
theorem dX2_shift_123 : decode cX2_shift 123 = .ok (.iload 7, 2) := by decide +kernel
theorem dX2_shift_125 : decode cX2_shift 125 = .ok (.lshl, 1) := by decide +kernel
theorem dX2_shift_126 : decode cX2_shift 126 = .ok (.goto 8, 3) := by decide +kernel
theorem dX2_shift_129 : decode cX2_shift 129 = .ok (.lload 5, 2) := by decide +kernel
theorem dX2_shift_131 : decode cX2_shift 131 = .ok (.iload 7, 2) := by decide +kernel
theorem dX2_shift_133 : decode cX2_shift 133 = .ok (.lshr, 1) := by decide +kernel
theorem dX2_shift_134 : decode cX2_shift 134 = .ok (.invokevirtual 226, 3) := by decide +kernel
theorem dX2_shift_137 : decode cX2_shift 137 = .ok (.goto 53, 3) := by decide +kernel
theorem dX2_shift_140 : decode cX2_shift 140 = .ok (.bipush 6, 2) := by decide +kernel
theorem dX2_shift_142 : decode cX2_shift 142 = .ok (.aload_n 0, 1) := by decide +kernel
theorem dX2_shift_143 : decode cX2_shift 143 = .ok (.getfield 142, 3) := by decide +kernel
theorem dX2_shift_146 : decode cX2_shift 146 = .ok (.bipush 10, 2) := by decide +kernel
theorem dX2_shift_148 : decode cX2_shift 148 = .ok (.irem, 1) := by decide +kernel
theorem dX2_shift_149 : decode cX2_shift 149 = .ok (.imul, 1) := by decide +kernel
theorem dX2_shift_15 : decode cX2_shift 15 = .ok (.bipush 7, 2) := by decide +kernel
theorem dX2_shift_150 : decode cX2_shift 150 = .ok (.istore 8, 2) := by decide +kernel
theorem dX2_shift_152 : decode cX2_shift 152 = .ok (.aload_n 0, 1) := by decide +kernel
theorem dX2_shift_153 : decode cX2_shift 153 = .ok (.getfield 87, 3) := by decide +kernel
theorem dX2_shift_156 : decode cX2_shift 156 = .ok (.iconst 4, 1) := by decide +kernel
theorem dX2_shift_157 : decode cX2_shift 157 = .ok (.if_icmp .ne 8, 3) := by decide +kernel
theorem dX2_shift_160 : decode cX2_shift 160 = .ok (.iload 8, 2) := by decide +kernel
theorem dX2_shift_162 : decode cX2_shift 162 = .ok (.goto 8, 3) := by decide +kernel
theorem dX2_shift_165 : decode cX2_shift 165 = .ok (.bipush 60, 2) := by decide +kernel
theorem dX2_shift_167 : decode cX2_shift 167 = .ok (.iload 8, 2) := by decide +kernel
theorem dX2_shift_169 : decode cX2_shift 169 = .ok (.isub, 1) := by decide +kernel
theorem dX2_shift_17 : decode cX2_shift 17 = .ok (.iaload, 1) := by decide +kernel
theorem dX2_shift_170 : decode cX2_shift 170 = .ok (.istore 9, 2) := by decide +kernel
theorem dX2_shift_172 : decode cX2_shift 172 = .ok (.aload_n 0, 1) := by decide +kernel
theorem dX2_shift_173 : decode cX2_shift 173 = .ok (.lload 5, 2) := by decide +kernel
theorem dX2_shift_175 : decode cX2_shift 175 = .ok (.iload 9, 2) := by decide +kernel
theorem dX2_shift_177 : decode cX2_shift 177 = .ok (.lshl, 1) := by decide +kernel
theorem dX2_shift_178 : decode cX2_shift 178 = .ok (.lload 5, 2) := by decide +kernel
theorem dX2_shift_18 : decode cX2_shift 18 = .ok (.ldc 173, 2) := by decide +kernel
theorem dX2_shift_180 : decode cX2_shift 180 = .ok (.bipush 60, 2) := by decide +kernel
theorem dX2_shift_182 : decode cX2_shift 182 = .ok (.iload 9, 2) := by decide +kernel
theorem dX2_shift_184 : decode cX2_shift 184 = .ok (.isub, 1) := by decide +kernel
theorem dX2_shift_185 : decode cX2_shift 185 = .ok (.lshr, 1) := by decide +kernel
theorem dX2_shift_186 : decode cX2_shift 186 = .ok (.lor, 1) := by decide +kernel
theorem dX2_shift_187 : decode cX2_shift 187 = .ok (.invokevirtual 226, 3) := by decide +kernel
theorem dX2_shift_190 : decode cX2_shift 190 = .ok (.return_, 1) := by decide +kernel
theorem dX2_shift_20 : decode cX2_shift 20 = .ok (.iand, 1) := by decide +kernel
theorem dX2_shift_21 : decode cX2_shift 21 = .ok (.i2l, 1) := by decide +kernel
theorem dX2_shift_22 : decode cX2_shift 22 = .ok (.lstore_n 3, 1) := by decide +kernel
theorem dX2_shift_23 : decode cX2_shift 23 = .ok (.lload_n 1, 1) := by decide +kernel
theorem dX2_shift_24 : decode cX2_shift 24 = .ok (.bipush 30, 2) := by decide +kernel
theorem dX2_shift_26 : decode cX2_shift 26 = .ok (.lshl, 1) := by decide +kernel
theorem dX2_shift_27 : decode cX2_shift 27 = .ok (.lload_n 3, 1) := by decide +kernel
theorem dX2_shift_28 : decode cX2_shift 28 = .ok (.lor, 1) := by decide +kernel
theorem dX2_shift_29 : decode cX2_shift 29 = .ok (.lstore 5, 2) := by decide +kernel
theorem dX2_shift_31 : decode cX2_shift 31 = .ok (.bipush 6, 2) := by decide +kernel
theorem dX2_shift_33 : decode cX2_shift 33 = .ok (.aload_n 0, 1) := by decide +kernel
theorem dX2_shift_34 : decode cX2_shift 34 = .ok (.getfield 142, 3) := by decide +kernel
theorem dX2_shift_37 : decode cX2_shift 37 = .ok (.bipush 10, 2) := by decide +kernel
theorem dX2_shift_39 : decode cX2_shift 39 = .ok (.invokestatic 134, 3) := by decide +kernel
theorem dX2_shift_4 : decode cX2_shift 4 = .ok (.iconst 0, 1) := by decide +kernel
theorem dX2_shift_42 : decode cX2_shift 42 = .ok (.imul, 1) := by decide +kernel
theorem dX2_shift_43 : decode cX2_shift 43 = .ok (.istore 7, 2) := by decide +kernel
theorem dX2_shift_45 : decode cX2_shift 45 = .ok (.aload_n 0, 1) := by decide +kernel
theorem dX2_shift_46 : decode cX2_shift 46 = .ok (.getfield 87, 3) := by decide +kernel
theorem dX2_shift_49 : decode cX2_shift 49 = .ok (.iconst 2, 1) := by decide +kernel
theorem dX2_shift_5 : decode cX2_shift 5 = .ok (.iaload, 1) := by decide +kernel
theorem dX2_shift_50 : decode cX2_shift 50 = .ok (.if_icmp .ge 54, 3) := by decide +kernel
theorem dX2_shift_53 : decode cX2_shift 53 = .ok (.aload_n 0, 1) := by decide +kernel
theorem dX2_shift_54 : decode cX2_shift 54 = .ok (.getfield 87, 3) := by decide +kernel
theorem dX2_shift_57 : decode cX2_shift 57 = .ok (.ifCond .ne 15, 3) := by decide +kernel
theorem dX2_shift_6 : decode cX2_shift 6 = .ok (.ldc 173, 2) := by decide +kernel
theorem dX2_shift_60 : decode cX2_shift 60 = .ok (.lload_n 1, 1) := by decide +kernel
theorem dX2_shift_61 : decode cX2_shift 61 = .ok (.iload 7, 2) := by decide +kernel
theorem dX2_shift_63 : decode cX2_shift 63 = .ok (.bipush 30, 2) := by decide +kernel
theorem dX2_shift_65 : decode cX2_shift 65 = .ok (.invokestatic 134, 3) := by decide +kernel
theorem dX2_shift_68 : decode cX2_shift 68 = .ok (.lshl, 1) := by decide +kernel
theorem dX2_shift_69 : decode cX2_shift 69 = .ok (.goto 7, 3) := by decide +kernel
theorem dX2_shift_72 : decode cX2_shift 72 = .ok (.lload_n 1, 1) := by decide +kernel
theorem dX2_shift_73 : decode cX2_shift 73 = .ok (.iload 7, 2) := by decide +kernel
theorem dX2_shift_75 : decode cX2_shift 75 = .ok (.lshr, 1) := by decide +kernel
theorem dX2_shift_76 : decode cX2_shift 76 = .ok (.lstore 8, 2) := by decide +kernel
theorem dX2_shift_78 : decode cX2_shift 78 = .ok (.aload_n 0, 1) := by decide +kernel
theorem dX2_shift_79 : decode cX2_shift 79 = .ok (.getfield 11, 3) := by decide +kernel
theorem dX2_shift_8 : decode cX2_shift 8 = .ok (.iand, 1) := by decide +kernel
theorem dX2_shift_82 : decode cX2_shift 82 = .ok (.iconst 0, 1) := by decide +kernel
theorem dX2_shift_83 : decode cX2_shift 83 = .ok (.aload_n 0, 1) := by decide +kernel
theorem dX2_shift_84 : decode cX2_shift 84 = .ok (.getfield 11, 3) := by decide +kernel
theorem dX2_shift_87 : decode cX2_shift 87 = .ok (.iconst 0, 1) := by decide +kernel
theorem dX2_shift_88 : decode cX2_shift 88 = .ok (.iaload, 1) := by decide +kernel
theorem dX2_shift_89 : decode cX2_shift 89 = .ok (.ldc 124, 2) := by decide +kernel
theorem dX2_shift_9 : decode cX2_shift 9 = .ok (.i2l, 1) := by decide +kernel
theorem dX2_shift_91 : decode cX2_shift 91 = .ok (.iand, 1) := by decide +kernel
theorem dX2_shift_92 : decode cX2_shift 92 = .ok (.lload 8, 2) := by decide +kernel
theorem dX2_shift_94 : decode cX2_shift 94 = .ok (.ldc2_w 219, 3) := by decide +kernel
theorem dX2_shift_97 : decode cX2_shift 97 = .ok (.land, 1) := by decide +kernel
theorem dX2_shift_98 : decode cX2_shift 98 = .ok (.l2i, 1) := by decide +kernel
theorem dX2_shift_99 : decode cX2_shift 99 = .ok (.ior, 1) := by decide +kernel
set_option maxHeartbeats 4000000 in
set_option maxRecDepth 100000 in
theorem T_X2_shift (l : Launch) (D : va_G) (K : Nat → ClassId) (Z Y : Nat → Nat) (ad : Nat → Nat) (d : dSt) (t : tSt) (hok : okX t)  : tMet l yX2_shift cX2_shift 10 none (rmD 1 0 0) D K Z Y [.ref (ad 4)] ((WX d) K ad t) (QV D K (fun (u : tSt) => okX u ∧ frA [] [] [22] [] t u) (fun (u : tSt) => (WX d) K ad u)) 0 0 := by
  refine t_met RX2 ⟨rfl, by decide +kernel⟩ (Nat.le_of_ble_eq_true rfl) ?_
  intro p e s m below meth c A ls C hE hZ hr hlocks hA hP hD hS hl
  have hl : lv_has ls 10 [(0, .ref (ad 4))] := hl
  have hokt := hok
  have hfr : frA [] [] [22] [] t t := frA_rf
  have L_170 : ∀ (t1 : tSt) (w170_1 : Int64) (w170_3 : Int64) (w170_5 : Int64) (w170_7 : Int32) (w170_8 : Int32) (k170_0 : Int32) (H : Heap) (locs : List Loc) (ls : Array Slot), okX t1 → frA [] [] [22] [] t t1 → (-54 : Int) ≤ w170_8.toInt ∧ w170_8.toInt ≤ 54 → (-54 : Int) ≤ k170_0.toInt ∧ k170_0.toInt ≤ 114 → (4 : Int) ≤ (t1.1 4 14).toInt ∧ (t1.1 4 14).toInt ≤ 63 → va_P D vwCl ((WX d) K ad t1) H → va_D A ((WX d) K ad t1) → va_S A s.heap H locs → lv_has ls 10 [(0, .ref (ad 4)), (1, .long w170_1), (3, .long w170_3), (5, .long w170_5), (7, .int w170_7), (8, .int w170_8)] → W p l e (rmD 1 0 0) s m [.ref (ad 4)].toArray below meth c H locs 0 0 (MQ below (QV D K (fun (u : tSt) => okX u ∧ frA [] [] [22] [] t u) (fun (u : tSt) => (WX d) K ad u) A) [.ref (ad 4)].toArray s 0 0 A) (F0 m 170 ls [.int k170_0]) := by
    intro t1 w170_1 w170_3 w170_5 w170_7 w170_8 k170_0 H locs ls hok hfr hw170_8 hk170_0 hf170_14 hP hD hS hl
    refine lv_istore (lv' := [(9, .int k170_0), (0, .ref (ad 4)), (1, .long w170_1), (3, .long w170_3), (5, .long w170_5), (7, .int w170_7), (8, .int w170_8)]) C.1 C.2.1 dX2_shift_170 hl (by decide) rfl (fun ls hl => ?_)
    have hl : lv_has ls 10 [(0, .ref (ad 4)), (1, .long w170_1), (3, .long w170_3), (5, .long w170_5), (7, .int w170_7), (8, .int w170_8), (9, .int k170_0)] := lv_sub hl [1, 2, 3, 4, 5, 6, 0] rfl
    refine lv_aload_n C.1 C.2.1 dX2_shift_172 rfl (lv_at hl 0 rfl) ?_
    refine lv_lload C.1 C.2.1 dX2_shift_173 (lv_at hl 3 rfl) ?_
    refine lv_iload C.1 C.2.1 dX2_shift_175 (lv_at hl 6 rfl) ?_
    obtain ⟨v_1, e_2⟩ : ∃ z, z = (w170_5 : Int64) <<< ((k170_0 : Int32).toInt64 &&& 63) := ⟨_, rfl⟩
    refine lv_lshl (v := v_1) C.1 C.2.1 dX2_shift_177 e_2.symm ?_
    refine lv_lload C.1 C.2.1 dX2_shift_178 (lv_at hl 3 rfl) ?_
    refine lv_bipush (v := 60) C.1 C.2.1 dX2_shift_180 (by decide) ?_
    refine lv_iload C.1 C.2.1 dX2_shift_182 (lv_at hl 6 rfl) ?_
    obtain ⟨v_3, e_4⟩ : ∃ z, z = (60 : Int32) - (k170_0 : Int32) := ⟨_, rfl⟩
    have h_5 : v_3.toInt = 60 - k170_0.toInt := by rw [e_4]; exact ti_isub (by show (_ : Int) ≤ 60 - k170_0.toInt; omega) (by show 60 - k170_0.toInt < (_ : Int); omega)
    refine k_isub (v := v_3) C e_4.symm dX2_shift_184 ?_
    obtain ⟨v_6, e_7⟩ : ∃ z, z = (w170_5 : Int64) >>> ((v_3 : Int32).toInt64 &&& 63) := ⟨_, rfl⟩
    refine lv_lshr (v := v_6) C.1 C.2.1 dX2_shift_185 e_7.symm ?_
    obtain ⟨v_8, e_9⟩ : ∃ z, z = (v_1 : Int64) ||| v_6 := ⟨_, rfl⟩
    refine lw_lor (v := v_8) C.1 C.2.1 dX2_shift_186 e_9.symm ?_
    refine g_Vv (As := [.long v_8]) (rest := []) C hP hD hS hA (T_X2_spread l D K Z Y ad d t1 hok (v_8)) hE hZ (uwV m_51_7 m_51_8 m_51_9 m_1_23 m_51_10) (hdV 1 (by decide +kernel) rfl) ⟨Nat.le_of_ble_eq_true rfl, Nat.le_of_ble_eq_true rfl⟩ rfl rfl (ci := 1) (q0 := 4) rfl rfl rfl hl.1 (Nat.le_of_ble_eq_true rfl) dX2_shift_187 ⟨Nat.le_of_ble_eq_true rfl, Nat.le_of_ble_eq_true rfl⟩ (fun t_10 H locs hw hP hD hS => ?_)
    obtain ⟨hok, f_12⟩ := hw
    have hfr : frA [] [] [22] [] t t_10 := frA_tr hfr f_12 rfl
    have h_13 : (t_10.1 4 14).toInt = (t1.1 4 14).toInt := ti_eq (f_12.1 4 14 rfl)
    exact g_vret C hr hlocks hP hD hS t_10 rfl ⟨hok, hfr⟩ (Nat.le_of_ble_eq_true rfl) (Nat.le_of_ble_eq_true rfl) dX2_shift_190
  have L_76 : ∀ (t1 : tSt) (w76_1 : Int64) (w76_3 : Int64) (w76_5 : Int64) (w76_7 : Int32) (k76_0 : Int64) (H : Heap) (locs : List Loc) (ls : Array Slot), okX t1 → frA [] [] [22] [] t t1 → (0 : Int) ≤ (t1.1 4 14).toInt ∧ (t1.1 4 14).toInt ≤ 1 → va_P D vwCl ((WX d) K ad t1) H → va_D A ((WX d) K ad t1) → va_S A s.heap H locs → lv_has ls 10 [(0, .ref (ad 4)), (1, .long w76_1), (3, .long w76_3), (5, .long w76_5), (7, .int w76_7)] → W p l e (rmD 1 0 0) s m [.ref (ad 4)].toArray below meth c H locs 0 0 (MQ below (QV D K (fun (u : tSt) => okX u ∧ frA [] [] [22] [] t u) (fun (u : tSt) => (WX d) K ad u) A) [.ref (ad 4)].toArray s 0 0 A) (F0 m 76 ls [.long k76_0]) := by
    intro t1 w76_1 w76_3 w76_5 w76_7 k76_0 H locs ls hok hfr hf76_14 hP hD hS hl
    refine lv_lstore (lv' := [(8, .long k76_0), (0, .ref (ad 4)), (1, .long w76_1), (3, .long w76_3), (5, .long w76_5), (7, .int w76_7)]) C.1 C.2.1 dX2_shift_76 hl (by decide) rfl (fun ls hl => ?_)
    have hl : lv_has ls 10 [(0, .ref (ad 4)), (1, .long w76_1), (3, .long w76_3), (5, .long w76_5), (7, .int w76_7), (8, .long k76_0)] := lv_sub hl [1, 2, 3, 4, 5, 0] rfl
    refine lv_aload_n C.1 C.2.1 dX2_shift_78 rfl (lv_at hl 0 rfl) ?_
    refine k_get (v := .ref (ad 22)) C hP 4 rfl rfl inlX2 1 (by decide) m_4_16 rfl dX2_shift_79 ?_
    refine lv_iconst (v := 0) C.1 C.2.1 dX2_shift_82 (by decide) ?_
    refine lv_aload_n C.1 C.2.1 dX2_shift_83 rfl (lv_at hl 0 rfl) ?_
    refine k_get (v := .ref (ad 22)) C hP 4 rfl rfl inlX2 1 (by decide) m_4_16 rfl dX2_shift_84 ?_
    refine lv_iconst (v := 0) C.1 C.2.1 dX2_shift_87 (by decide) ?_
    obtain ⟨v_14, e_15⟩ : ∃ z, z = (t1.2.2.1 22 (0 : Int32).toNatClampNeg) := ⟨_, rfl⟩
    refine k_ild (v := v_14) C hP 22 rfl (vin (by decide)) e_15.symm dX2_shift_88 ?_
    refine lv_ldc (v := 1073741824) C.1 C.2.1 C.2.2.2.1 (C.2.2.2.2.1 _ m_47_11) dX2_shift_89 ?_
    obtain ⟨v_16, e_17⟩ : ∃ z, z = (v_14 : Int32) &&& (1073741824 : Int32) := ⟨_, rfl⟩
    have h_18 : (0 : Int) ≤ v_16.toInt ∧ v_16.toInt ≤ 1073741824 := by rw [e_17]; exact z_and _ (k := 1073741824) (by decide) (by decide)
    refine k_iand (v := v_16) C e_17.symm dX2_shift_91 ?_
    refine lv_lload C.1 C.2.1 dX2_shift_92 (lv_at hl 5 rfl) ?_
    refine lv_ldc2 (v := 1073741823) C.1 C.2.1 C.2.2.2.1 (C.2.2.2.2.1 _ m_50_20) dX2_shift_94 ?_
    obtain ⟨v_19, e_20⟩ : ∃ z, z = (k76_0 : Int64) &&& 1073741823 := ⟨_, rfl⟩
    have h_21 : v_19.toInt = k76_0.toInt % 2 ^ 30 := by rw [e_20]; exact Jvm.Kit.i64_mask _ _ (k := 30) (by decide) (by decide)
    refine lw_land (v := v_19) C.1 C.2.1 dX2_shift_97 e_20.symm ?_
    obtain ⟨v_22, e_23⟩ : ∃ z, z = (v_19).toInt32 := ⟨_, rfl⟩
    have h_24 : v_22.toInt = v_19.toInt := by rw [e_23]; exact Jvm.Kit.i32_of_i64 (by show (_ : Int) ≤ v_19.toInt; omega) (by show v_19.toInt < (_ : Int); omega)
    refine lv_l2i (v := v_22) C.1 C.2.1 dX2_shift_98 e_23.symm ?_
    obtain ⟨v_25, e_26⟩ : ∃ z, z = (v_16 : Int32) ||| (v_22 : Int32) := ⟨_, rfl⟩
    have h_27 : (0 : Int) ≤ v_25.toInt ∧ v_25.toInt ≤ 2147483647 := by rw [e_26]; exact z_or (k := 31) (by decide) (by show (0 : Int) ≤ v_16.toInt; omega) (by show v_16.toInt < (_ : Int); omega) (by show (0 : Int) ≤ v_22.toInt; omega) (by show v_22.toInt < (_ : Int); omega)
    refine k_ior (v := v_25) C e_26.symm dX2_shift_99 ?_
    refine k_ist (ws' := (WX d) K ad (uB t1 22 (0 : Int32).toNatClampNeg v_25)) (x' := v_25) C hP hD hS 22 rfl (vin (by decide)) rfl rfl rfl dX2_shift_100 (fun H locs hP hD hS => ?_)
    have hok : okX (uB t1 22 (0 : Int32).toNatClampNeg v_25) := ⟨hok.1, okB_B hok.2.1 22 _ v_25 (show (-2147483648 : Int) ≤ (v_25 : Int32).toInt ∧ (v_25 : Int32).toInt ≤ 2147483647 from (i_rng _)), trivial⟩
    have hfr : frA [] [] [22] [] t (uB t1 22 (0 : Int32).toNatClampNeg v_25) := frA_B hfr 22 _ _ rfl
    refine lv_goto (tgt := 190) C.1 C.2.1 dX2_shift_101 (by decide) ?_
    exact g_vret C hr hlocks hP hD hS (uB t1 22 (0 : Int32).toNatClampNeg v_25) rfl ⟨hok, hfr⟩ (Nat.le_of_ble_eq_true rfl) (Nat.le_of_ble_eq_true rfl) dX2_shift_190
  refine lv_aload_n C.1 C.2.1 dX2_shift_0 rfl (lv_at hl 0 rfl) ?_
  refine k_get (v := .ref (ad 22)) C hP 4 rfl rfl inlX2 1 (by decide) m_4_16 rfl dX2_shift_1 ?_
  refine lv_iconst (v := 0) C.1 C.2.1 dX2_shift_4 (by decide) ?_
  obtain ⟨v_28, e_29⟩ : ∃ z, z = (t.2.2.1 22 (0 : Int32).toNatClampNeg) := ⟨_, rfl⟩
  refine k_ild (v := v_28) C hP 22 rfl (vin (by decide)) e_29.symm dX2_shift_5 ?_
  refine lv_ldc (v := 1073741823) C.1 C.2.1 C.2.2.2.1 (C.2.2.2.2.1 _ m_48_22) dX2_shift_6 ?_
  obtain ⟨v_30, e_31⟩ : ∃ z, z = (v_28 : Int32) &&& (1073741823 : Int32) := ⟨_, rfl⟩
  have h_32 : v_30.toInt = v_28.toInt % 2 ^ 30 := by rw [e_31]; exact Jvm.Kit.i32_mask _ _ (k := 30) (by decide) (by decide)
  refine k_iand (v := v_30) C e_31.symm dX2_shift_8 ?_
  obtain ⟨v_33, e_34⟩ : ∃ z, z = (v_30 : Int32).toInt64 := ⟨_, rfl⟩
  have h_35 : v_33.toInt = v_30.toInt := by rw [e_34]; exact Jvm.Kit.i64_of_i32 _
  refine lv_i2l (v := v_33) C.1 C.2.1 dX2_shift_9 e_34.symm ?_
  refine lv_lstore_n (lv' := [(1, .long v_33), (0, .ref (ad 4))]) C.1 C.2.1 dX2_shift_10 rfl hl (by decide) rfl (fun ls hl => ?_)
  have hl : lv_has ls 10 [(0, .ref (ad 4)), (1, .long v_33)] := lv_sub hl [1, 0] rfl
  refine lv_aload_n C.1 C.2.1 dX2_shift_11 rfl (lv_at hl 0 rfl) ?_
  refine k_get (v := .ref (ad 22)) C hP 4 rfl rfl inlX2 1 (by decide) m_4_16 rfl dX2_shift_12 ?_
  refine lv_bipush (v := 7) C.1 C.2.1 dX2_shift_15 (by decide) ?_
  obtain ⟨v_36, e_37⟩ : ∃ z, z = (t.2.2.1 22 (7 : Int32).toNatClampNeg) := ⟨_, rfl⟩
  refine k_ild (v := v_36) C hP 22 rfl (vin (by decide)) e_37.symm dX2_shift_17 ?_
  refine lv_ldc (v := 1073741823) C.1 C.2.1 C.2.2.2.1 (C.2.2.2.2.1 _ m_48_22) dX2_shift_18 ?_
  obtain ⟨v_38, e_39⟩ : ∃ z, z = (v_36 : Int32) &&& (1073741823 : Int32) := ⟨_, rfl⟩
  have h_40 : v_38.toInt = v_36.toInt % 2 ^ 30 := by rw [e_39]; exact Jvm.Kit.i32_mask _ _ (k := 30) (by decide) (by decide)
  refine k_iand (v := v_38) C e_39.symm dX2_shift_20 ?_
  obtain ⟨v_41, e_42⟩ : ∃ z, z = (v_38 : Int32).toInt64 := ⟨_, rfl⟩
  have h_43 : v_41.toInt = v_38.toInt := by rw [e_42]; exact Jvm.Kit.i64_of_i32 _
  refine lv_i2l (v := v_41) C.1 C.2.1 dX2_shift_21 e_42.symm ?_
  refine lv_lstore_n (lv' := [(3, .long v_41), (0, .ref (ad 4)), (1, .long v_33)]) C.1 C.2.1 dX2_shift_22 rfl hl (by decide) rfl (fun ls hl => ?_)
  have hl : lv_has ls 10 [(0, .ref (ad 4)), (1, .long v_33), (3, .long v_41)] := lv_sub hl [1, 2, 0] rfl
  refine lv_lload_n C.1 C.2.1 dX2_shift_23 rfl (lv_at hl 1 rfl) ?_
  refine lv_bipush (v := 30) C.1 C.2.1 dX2_shift_24 (by decide) ?_
  obtain ⟨v_44, e_45⟩ : ∃ z, z = (v_33 : Int64) <<< ((30 : Int32).toInt64 &&& 63) := ⟨_, rfl⟩
  refine lv_lshl (v := v_44) C.1 C.2.1 dX2_shift_26 e_45.symm ?_
  refine lv_lload_n C.1 C.2.1 dX2_shift_27 rfl (lv_at hl 2 rfl) ?_
  obtain ⟨v_46, e_47⟩ : ∃ z, z = (v_44 : Int64) ||| v_41 := ⟨_, rfl⟩
  refine lw_lor (v := v_46) C.1 C.2.1 dX2_shift_28 e_47.symm ?_
  refine lv_lstore (lv' := [(5, .long v_46), (0, .ref (ad 4)), (1, .long v_33), (3, .long v_41)]) C.1 C.2.1 dX2_shift_29 hl (by decide) rfl (fun ls hl => ?_)
  have hl : lv_has ls 10 [(0, .ref (ad 4)), (1, .long v_33), (3, .long v_41), (5, .long v_46)] := lv_sub hl [1, 2, 3, 0] rfl
  refine lv_bipush (v := 6) C.1 C.2.1 dX2_shift_31 (by decide) ?_
  refine lv_aload_n C.1 C.2.1 dX2_shift_33 rfl (lv_at hl 0 rfl) ?_
  have h_48 : (-2147483648 : Int) ≤ (t.1 4 15).toInt ∧ (t.1 4 15).toInt ≤ 1073745919 := hok.1 4 15
  refine k_get (v := .int (t.1 4 15)) C hP 4 rfl rfl inlX2 15 (by decide) m_47_12 rfl dX2_shift_34 ?_
  refine lv_bipush (v := 10) C.1 C.2.1 dX2_shift_37 (by decide) ?_
  obtain ⟨v_50, e_49⟩ : ∃ z, z = if (10 : Int32) < ((t.1 4 15) : Int32) then (10 : Int32) else ((t.1 4 15) : Int32) := ⟨_, rfl⟩
  have h_51 : (10 : Int32).toInt = 10 := rfl
  have h_52 := mn_r e_49
  refine k_mmin (v := v_50) C hl.1 m_51_16 m_12_19 m_12_15 m_12_20 (Nat.le_of_ble_eq_true rfl) (Nat.le_of_ble_eq_true rfl) (Nat.le_of_ble_eq_true rfl) (Nat.le_of_ble_eq_true rfl) e_49.symm dX2_shift_39 ?_
  obtain ⟨v_53, e_54⟩ : ∃ z, z = (6 : Int32) * (v_50 : Int32) := ⟨_, rfl⟩
  refine k_imul (v := v_53) C e_54.symm dX2_shift_42 ?_
  refine lv_istore (lv' := [(7, .int v_53), (0, .ref (ad 4)), (1, .long v_33), (3, .long v_41), (5, .long v_46)]) C.1 C.2.1 dX2_shift_43 hl (by decide) rfl (fun ls hl => ?_)
  have hl : lv_has ls 10 [(0, .ref (ad 4)), (1, .long v_33), (3, .long v_41), (5, .long v_46), (7, .int v_53)] := lv_sub hl [1, 2, 3, 4, 0] rfl
  refine lv_aload_n C.1 C.2.1 dX2_shift_45 rfl (lv_at hl 0 rfl) ?_
  have h_56 : (0 : Int) ≤ (t.1 4 14).toInt ∧ (t.1 4 14).toInt ≤ 63 := hok.1 4 14
  refine k_get (v := .int (t.1 4 14)) C hP 4 rfl rfl inlX2 14 (by decide) m_45_19 rfl dX2_shift_46 ?_
  refine lv_iconst (v := 2) C.1 C.2.1 dX2_shift_49 (by decide) ?_
  refine lv_icmp_ge (tgt := 104) C.1 C.2.1 dX2_shift_50 (by decide) (fun c_57 => ?_) (fun c_57 => ?_)
  · replace c_57 : 2 ≤ (t.1 4 14).toInt := i_le c_57
    refine lv_aload_n C.1 C.2.1 dX2_shift_104 rfl (lv_at hl 0 rfl) ?_
    refine k_get (v := .int (t.1 4 14)) C hP 4 rfl rfl inlX2 14 (by decide) m_45_19 rfl dX2_shift_105 ?_
    refine lv_iconst (v := 4) C.1 C.2.1 dX2_shift_108 (by decide) ?_
    refine lv_icmp_ge (tgt := 140) C.1 C.2.1 dX2_shift_109 (by decide) (fun c_58 => ?_) (fun c_58 => ?_)
    · replace c_58 : 4 ≤ (t.1 4 14).toInt := i_le c_58
      refine lv_bipush (v := 6) C.1 C.2.1 dX2_shift_140 (by decide) ?_
      refine lv_aload_n C.1 C.2.1 dX2_shift_142 rfl (lv_at hl 0 rfl) ?_
      refine k_get (v := .int (t.1 4 15)) C hP 4 rfl rfl inlX2 15 (by decide) m_47_12 rfl dX2_shift_143 ?_
      refine lv_bipush (v := 10) C.1 C.2.1 dX2_shift_146 (by decide) ?_
      obtain ⟨v_59, e_60⟩ : ∃ z, z = ((t.1 4 15) : Int32) - ((t.1 4 15) : Int32) / (10 : Int32) * (10 : Int32) := ⟨_, rfl⟩
      have h_61 : (-10 : Int) < v_59.toInt ∧ v_59.toInt < 10 := by rw [e_60]; exact z_remb (k := 10) (by decide) (by decide)
      refine k_irem (v := v_59) C (by decide) e_60.symm dX2_shift_148 ?_
      obtain ⟨v_62, e_63⟩ : ∃ z, z = (6 : Int32) * (v_59 : Int32) := ⟨_, rfl⟩
      have h_64 : v_62.toInt = 6 * v_59.toInt := by rw [e_63]; exact ti_mull (k := 6) (by decide) (by omega) (by omega)
      refine k_imul (v := v_62) C e_63.symm dX2_shift_149 ?_
      refine lv_istore (lv' := [(8, .int v_62), (0, .ref (ad 4)), (1, .long v_33), (3, .long v_41), (5, .long v_46), (7, .int v_53)]) C.1 C.2.1 dX2_shift_150 hl (by decide) rfl (fun ls hl => ?_)
      have hl : lv_has ls 10 [(0, .ref (ad 4)), (1, .long v_33), (3, .long v_41), (5, .long v_46), (7, .int v_53), (8, .int v_62)] := lv_sub hl [1, 2, 3, 4, 5, 0] rfl
      refine lv_aload_n C.1 C.2.1 dX2_shift_152 rfl (lv_at hl 0 rfl) ?_
      refine k_get (v := .int (t.1 4 14)) C hP 4 rfl rfl inlX2 14 (by decide) m_45_19 rfl dX2_shift_153 ?_
      refine lv_iconst (v := 4) C.1 C.2.1 dX2_shift_156 (by decide) ?_
      refine lv_icmp_ne (tgt := 165) C.1 C.2.1 dX2_shift_157 (by decide) (fun c_65 => ?_) (fun c_65 => ?_)
      · replace c_65 : ¬ (t.1 4 14).toInt = 4 := i_ne c_65
        refine lv_bipush (v := 60) C.1 C.2.1 dX2_shift_165 (by decide) ?_
        refine lv_iload C.1 C.2.1 dX2_shift_167 (lv_at hl 5 rfl) ?_
        obtain ⟨v_66, e_67⟩ : ∃ z, z = (60 : Int32) - (v_62 : Int32) := ⟨_, rfl⟩
        have h_68 : v_66.toInt = 60 - v_62.toInt := by rw [e_67]; exact ti_isub (by show (_ : Int) ≤ 60 - v_62.toInt; omega) (by show 60 - v_62.toInt < (_ : Int); omega)
        refine k_isub (v := v_66) C e_67.symm dX2_shift_169 ?_
        exact L_170 t v_33 v_41 v_46 v_53 v_62 v_66 _ _ _ hok hfr ⟨by omega, by omega⟩ ⟨by omega, by omega⟩ (show (4 : Int) ≤ ((t.1 4 14) : Int32).toInt ∧ ((t.1 4 14) : Int32).toInt ≤ 63 from ⟨by omega, by omega⟩) hP hD hS (lv_sub hl [0, 1, 2, 3, 4, 5] rfl)
      · replace c_65 : (t.1 4 14).toInt = 4 := i_eq c_65
        refine lv_iload C.1 C.2.1 dX2_shift_160 (lv_at hl 5 rfl) ?_
        refine lv_goto (tgt := 170) C.1 C.2.1 dX2_shift_162 (by decide) ?_
        exact L_170 t v_33 v_41 v_46 v_53 v_62 v_62 _ _ _ hok hfr ⟨by omega, by omega⟩ ⟨by omega, by omega⟩ (show (4 : Int) ≤ ((t.1 4 14) : Int32).toInt ∧ ((t.1 4 14) : Int32).toInt ≤ 63 from ⟨by omega, by omega⟩) hP hD hS (lv_sub hl [0, 1, 2, 3, 4, 5] rfl)
    · replace c_58 : (t.1 4 14).toInt < 4 := i_nle c_58
      refine lv_aload_n C.1 C.2.1 dX2_shift_112 rfl (lv_at hl 0 rfl) ?_
      refine lv_aload_n C.1 C.2.1 dX2_shift_113 rfl (lv_at hl 0 rfl) ?_
      refine k_get (v := .int (t.1 4 14)) C hP 4 rfl rfl inlX2 14 (by decide) m_45_19 rfl dX2_shift_114 ?_
      refine lv_iconst (v := 2) C.1 C.2.1 dX2_shift_117 (by decide) ?_
      refine lv_icmp_ne (tgt := 129) C.1 C.2.1 dX2_shift_118 (by decide) (fun c_69 => ?_) (fun c_69 => ?_)
      · replace c_69 : ¬ (t.1 4 14).toInt = 2 := i_ne c_69
        refine lv_lload C.1 C.2.1 dX2_shift_129 (lv_at hl 3 rfl) ?_
        refine lv_iload C.1 C.2.1 dX2_shift_131 (lv_at hl 4 rfl) ?_
        obtain ⟨v_70, e_71⟩ : ∃ z, z = (v_46 : Int64) >>> ((v_53 : Int32).toInt64 &&& 63) := ⟨_, rfl⟩
        refine lv_lshr (v := v_70) C.1 C.2.1 dX2_shift_133 e_71.symm ?_
        refine g_Vv (As := [.long v_70]) (rest := []) C hP hD hS hA (T_X2_spread l D K Z Y ad d t hok (v_70)) hE hZ (uwV m_51_7 m_51_8 m_51_9 m_1_23 m_51_10) (hdV 1 (by decide +kernel) rfl) ⟨Nat.le_of_ble_eq_true rfl, Nat.le_of_ble_eq_true rfl⟩ rfl rfl (ci := 1) (q0 := 4) rfl rfl rfl hl.1 (Nat.le_of_ble_eq_true rfl) dX2_shift_134 ⟨Nat.le_of_ble_eq_true rfl, Nat.le_of_ble_eq_true rfl⟩ (fun t_72 H locs hw hP hD hS => ?_)
        obtain ⟨hok, f_74⟩ := hw
        have hfr : frA [] [] [22] [] t t_72 := frA_tr hfr f_74 rfl
        have h_75 : (t_72.1 4 15).toInt = (t.1 4 15).toInt := ti_eq (f_74.1 4 15 rfl)
        have h_76 : (t_72.1 4 14).toInt = (t.1 4 14).toInt := ti_eq (f_74.1 4 14 rfl)
        refine lv_goto (tgt := 190) C.1 C.2.1 dX2_shift_137 (by decide) ?_
        exact g_vret C hr hlocks hP hD hS t_72 rfl ⟨hok, hfr⟩ (Nat.le_of_ble_eq_true rfl) (Nat.le_of_ble_eq_true rfl) dX2_shift_190
      · replace c_69 : (t.1 4 14).toInt = 2 := i_eq c_69
        refine lv_lload C.1 C.2.1 dX2_shift_121 (lv_at hl 3 rfl) ?_
        refine lv_iload C.1 C.2.1 dX2_shift_123 (lv_at hl 4 rfl) ?_
        obtain ⟨v_77, e_78⟩ : ∃ z, z = (v_46 : Int64) <<< ((v_53 : Int32).toInt64 &&& 63) := ⟨_, rfl⟩
        refine lv_lshl (v := v_77) C.1 C.2.1 dX2_shift_125 e_78.symm ?_
        refine lv_goto (tgt := 134) C.1 C.2.1 dX2_shift_126 (by decide) ?_
        refine g_Vv (As := [.long v_77]) (rest := []) C hP hD hS hA (T_X2_spread l D K Z Y ad d t hok (v_77)) hE hZ (uwV m_51_7 m_51_8 m_51_9 m_1_23 m_51_10) (hdV 1 (by decide +kernel) rfl) ⟨Nat.le_of_ble_eq_true rfl, Nat.le_of_ble_eq_true rfl⟩ rfl rfl (ci := 1) (q0 := 4) rfl rfl rfl hl.1 (Nat.le_of_ble_eq_true rfl) dX2_shift_134 ⟨Nat.le_of_ble_eq_true rfl, Nat.le_of_ble_eq_true rfl⟩ (fun t_79 H locs hw hP hD hS => ?_)
        obtain ⟨hok, f_81⟩ := hw
        have hfr : frA [] [] [22] [] t t_79 := frA_tr hfr f_81 rfl
        have h_82 : (t_79.1 4 15).toInt = (t.1 4 15).toInt := ti_eq (f_81.1 4 15 rfl)
        have h_83 : (t_79.1 4 14).toInt = (t.1 4 14).toInt := ti_eq (f_81.1 4 14 rfl)
        refine lv_goto (tgt := 190) C.1 C.2.1 dX2_shift_137 (by decide) ?_
        exact g_vret C hr hlocks hP hD hS t_79 rfl ⟨hok, hfr⟩ (Nat.le_of_ble_eq_true rfl) (Nat.le_of_ble_eq_true rfl) dX2_shift_190
  · replace c_57 : (t.1 4 14).toInt < 2 := i_nle c_57
    refine lv_aload_n C.1 C.2.1 dX2_shift_53 rfl (lv_at hl 0 rfl) ?_
    refine k_get (v := .int (t.1 4 14)) C hP 4 rfl rfl inlX2 14 (by decide) m_45_19 rfl dX2_shift_54 ?_
    refine lv_if_ne (tgt := 72) C.1 C.2.1 dX2_shift_57 (by decide) (fun c_84 => ?_) (fun c_84 => ?_)
    · replace c_84 : ¬ (t.1 4 14).toInt = 0 := i_ne c_84
      refine lv_lload_n C.1 C.2.1 dX2_shift_72 rfl (lv_at hl 1 rfl) ?_
      refine lv_iload C.1 C.2.1 dX2_shift_73 (lv_at hl 4 rfl) ?_
      obtain ⟨v_85, e_86⟩ : ∃ z, z = (v_33 : Int64) >>> ((v_53 : Int32).toInt64 &&& 63) := ⟨_, rfl⟩
      refine lv_lshr (v := v_85) C.1 C.2.1 dX2_shift_75 e_86.symm ?_
      exact L_76 t v_33 v_41 v_46 v_53 v_85 _ _ _ hok hfr (show (0 : Int) ≤ ((t.1 4 14) : Int32).toInt ∧ ((t.1 4 14) : Int32).toInt ≤ 1 from ⟨by omega, by omega⟩) hP hD hS (lv_sub hl [0, 1, 2, 3, 4] rfl)
    · replace c_84 : (t.1 4 14).toInt = 0 := i_eq c_84
      refine lv_lload_n C.1 C.2.1 dX2_shift_60 rfl (lv_at hl 1 rfl) ?_
      refine lv_iload C.1 C.2.1 dX2_shift_61 (lv_at hl 4 rfl) ?_
      refine lv_bipush (v := 30) C.1 C.2.1 dX2_shift_63 (by decide) ?_
      obtain ⟨v_88, e_87⟩ : ∃ z, z = if (30 : Int32) < (v_53 : Int32) then (30 : Int32) else (v_53 : Int32) := ⟨_, rfl⟩
      have h_89 : (30 : Int32).toInt = 30 := rfl
      have h_90 := mn_r e_87
      refine k_mmin (v := v_88) C hl.1 m_51_16 m_12_19 m_12_15 m_12_20 (Nat.le_of_ble_eq_true rfl) (Nat.le_of_ble_eq_true rfl) (Nat.le_of_ble_eq_true rfl) (Nat.le_of_ble_eq_true rfl) e_87.symm dX2_shift_65 ?_
      obtain ⟨v_91, e_92⟩ : ∃ z, z = (v_33 : Int64) <<< ((v_88 : Int32).toInt64 &&& 63) := ⟨_, rfl⟩
      refine lv_lshl (v := v_91) C.1 C.2.1 dX2_shift_68 e_92.symm ?_
      refine lv_goto (tgt := 76) C.1 C.2.1 dX2_shift_69 (by decide) ?_
      exact L_76 t v_33 v_41 v_46 v_53 v_91 _ _ _ hok hfr (show (0 : Int) ≤ ((t.1 4 14) : Int32).toInt ∧ ((t.1 4 14) : Int32).toInt ≤ 1 from ⟨by omega, by omega⟩) hP hD hS (lv_sub hl [0, 1, 2, 3, 4] rfl)

theorem dX2_move_0 : decode cX2_move 0 = .ok (.aload_n 0, 1) := by decide +kernel
theorem dX2_move_1 : decode cX2_move 1 = .ok (.getfield 11, 3) := by decide +kernel
theorem dX2_move_10 : decode cX2_move 10 = .ok (.iconst 0, 1) := by decide +kernel
theorem dX2_move_11 : decode cX2_move 11 = .ok (.istore_n 2, 1) := by decide +kernel
theorem dX2_move_12 : decode cX2_move 12 = .ok (.iload_n 2, 1) := by decide +kernel
theorem dX2_move_13 : decode cX2_move 13 = .ok (.aload_n 0, 1) := by decide +kernel
theorem dX2_move_14 : decode cX2_move 14 = .ok (.getfield 87, 3) := by decide +kernel
theorem dX2_move_17 : decode cX2_move 17 = .ok (.if_icmp .ge 26, 3) := by decide +kernel
theorem dX2_move_20 : decode cX2_move 20 = .ok (.aload_n 0, 1) := by decide +kernel
theorem dX2_move_21 : decode cX2_move 21 = .ok (.iload_n 1, 1) := by decide +kernel
theorem dX2_move_22 : decode cX2_move 22 = .ok (.iload_n 2, 1) := by decide +kernel
theorem dX2_move_23 : decode cX2_move 23 = .ok (.iadd, 1) := by decide +kernel
theorem dX2_move_24 : decode cX2_move 24 = .ok (.aload_n 0, 1) := by decide +kernel
theorem dX2_move_25 : decode cX2_move 25 = .ok (.aload_n 0, 1) := by decide +kernel
theorem dX2_move_26 : decode cX2_move 26 = .ok (.getfield 142, 3) := by decide +kernel
theorem dX2_move_29 : decode cX2_move 29 = .ok (.iload_n 2, 1) := by decide +kernel
theorem dX2_move_30 : decode cX2_move 30 = .ok (.iadd, 1) := by decide +kernel
theorem dX2_move_31 : decode cX2_move 31 = .ok (.invokevirtual 73, 3) := by decide +kernel
theorem dX2_move_34 : decode cX2_move 34 = .ok (.invokevirtual 125, 3) := by decide +kernel
theorem dX2_move_37 : decode cX2_move 37 = .ok (.iinc 2 1, 3) := by decide +kernel
theorem dX2_move_4 : decode cX2_move 4 = .ok (.iconst 1, 1) := by decide +kernel
theorem dX2_move_40 : decode cX2_move 40 = .ok (.goto (-28), 3) := by decide +kernel
theorem dX2_move_43 : decode cX2_move 43 = .ok (.aload_n 0, 1) := by decide +kernel
theorem dX2_move_44 : decode cX2_move 44 = .ok (.iconst 1, 1) := by decide +kernel
theorem dX2_move_45 : decode cX2_move 45 = .ok (.aload_n 0, 1) := by decide +kernel
theorem dX2_move_46 : decode cX2_move 46 = .ok (.getfield 87, 3) := by decide +kernel
theorem dX2_move_49 : decode cX2_move 49 = .ok (.invokevirtual 216, 3) := by decide +kernel
theorem dX2_move_5 : decode cX2_move 5 = .ok (.iaload, 1) := by decide +kernel
theorem dX2_move_52 : decode cX2_move 52 = .ok (.return_, 1) := by decide +kernel
theorem dX2_move_6 : decode cX2_move 6 = .ok (.invokestatic 98, 3) := by decide +kernel
theorem dX2_move_9 : decode cX2_move 9 = .ok (.istore_n 1, 1) := by decide +kernel
set_option maxHeartbeats 4000000 in
set_option maxRecDepth 100000 in
theorem T_X2_move (l : Launch) (D : va_G) (K : Nat → ClassId) (Z Y : Nat → Nat) (ad : Nat → Nat) (d : dSt) (t : tSt) (hok : okX t)  : tMet l yX2_move cX2_move 3 none (rmD 3 0 0) D K Z Y [.ref (ad 4)] ((WX d) K ad t) (QV D K (fun (u : tSt) => okX u ∧ frA [(4, 3)] [] [10, 22] [] t u) (fun (u : tSt) => (WX d) K ad u)) 0 0 := by
  refine t_met RX2 ⟨rfl, by decide +kernel⟩ (Nat.le_of_ble_eq_true rfl) ?_
  intro p e s m below meth c A ls C hE hZ hr hlocks hA hP hD hS hl
  have hl : lv_has ls 3 [(0, .ref (ad 4))] := hl
  have hokt := hok
  have hfr : frA [(4, 3)] [] [10, 22] [] t t := frA_rf
  have L_12 : ∀ (fuel_12 : Nat) (t1 : tSt) (w12_1 : Int32) (w12_2 : Int32) (H : Heap) (locs : List Loc) (ls : Array Slot), okX t1 → frA [(4, 3)] [] [10, 22] [] t t1 → (-1073741824 : Int) ≤ w12_1.toInt ∧ w12_1.toInt ≤ 1073741823 → (0 : Int) ≤ w12_2.toInt ∧ w12_2.toInt ≤ 63 → (63 : Int) - w12_2.toInt < (fuel_12 : Int) → va_P D vwCl ((WX d) K ad t1) H → va_D A ((WX d) K ad t1) → va_S A s.heap H locs → lv_has ls 3 [(0, .ref (ad 4)), (1, .int w12_1), (2, .int w12_2)] → W p l e (rmD 3 0 0) s m [.ref (ad 4)].toArray below meth c H locs 0 0 (MQ below (QV D K (fun (u : tSt) => okX u ∧ frA [(4, 3)] [] [10, 22] [] t u) (fun (u : tSt) => (WX d) K ad u) A) [.ref (ad 4)].toArray s 0 0 A) (F0 m 12 ls []) := by
    intro fuel_12
    induction fuel_12 with
    | zero =>
      intro t1 w12_1 w12_2 H locs ls hok hfr hw12_1 hw12_2 hm12_12 hP hD hS hl
      exact absurd hm12_12 (by omega)
    | succ fuel_12 ih_12 =>
      intro t1 w12_1 w12_2 H locs ls hok hfr hw12_1 hw12_2 hm12_12 hP hD hS hl
      have hm12_12 : (63 : Int) - w12_2.toInt < (fuel_12 : Int) + 1 := by omega
      refine lv_iload_n C.1 C.2.1 dX2_move_12 rfl (lv_at hl 2 rfl) ?_
      refine lv_aload_n C.1 C.2.1 dX2_move_13 rfl (lv_at hl 0 rfl) ?_
      have h_1 : (0 : Int) ≤ (t1.1 4 14).toInt ∧ (t1.1 4 14).toInt ≤ 63 := hok.1 4 14
      refine k_get (v := .int (t1.1 4 14)) C hP 4 rfl rfl inlX2 14 (by decide) m_45_19 rfl dX2_move_14 ?_
      refine lv_icmp_ge (tgt := 43) C.1 C.2.1 dX2_move_17 (by decide) (fun c_2 => ?_) (fun c_2 => ?_)
      · replace c_2 : (t1.1 4 14).toInt ≤ w12_2.toInt := i_le c_2
        refine lv_aload_n C.1 C.2.1 dX2_move_43 rfl (lv_at hl 0 rfl) ?_
        refine lv_iconst (v := 1) C.1 C.2.1 dX2_move_44 (by decide) ?_
        refine lv_aload_n C.1 C.2.1 dX2_move_45 rfl (lv_at hl 0 rfl) ?_
        refine k_get (v := .int (t1.1 4 14)) C hP 4 rfl rfl inlX2 14 (by decide) m_45_19 rfl dX2_move_46 ?_
        refine g_Vv (As := [.int 1, .int (t1.1 4 14)]) (rest := []) C hP hD hS hA (T_X2_add l D K Z Y ad d t1 hok 1 (show (0 : Int) ≤ (1 : Int32).toInt ∧ (1 : Int32).toInt ≤ 7 from ⟨by decide, by decide⟩) ((t1.1 4 14))) hE hZ (uwV m_50_21 m_50_22 m_50_23 m_1_23 m_51_0) (hdV 2 (by decide +kernel) rfl) ⟨Nat.le_of_ble_eq_true rfl, Nat.le_of_ble_eq_true rfl⟩ rfl rfl (ci := 1) (q0 := 4) rfl rfl rfl hl.1 (Nat.le_of_ble_eq_true rfl) dX2_move_49 ⟨Nat.le_of_ble_eq_true rfl, Nat.le_of_ble_eq_true rfl⟩ (fun t_3 H locs hw hP hD hS => ?_)
        obtain ⟨hok, f_5⟩ := hw
        have hfr : frA [(4, 3)] [] [10, 22] [] t t_3 := frA_tr hfr f_5 rfl
        have h_6 : (t_3.1 4 14).toInt = (t1.1 4 14).toInt := ti_eq (f_5.1 4 14 rfl)
        exact g_vret C hr hlocks hP hD hS t_3 rfl ⟨hok, hfr⟩ (Nat.le_of_ble_eq_true rfl) (Nat.le_of_ble_eq_true rfl) dX2_move_52
      · replace c_2 : w12_2.toInt < (t1.1 4 14).toInt := i_nle c_2
        refine lv_aload_n C.1 C.2.1 dX2_move_20 rfl (lv_at hl 0 rfl) ?_
        refine lv_iload_n C.1 C.2.1 dX2_move_21 rfl (lv_at hl 1 rfl) ?_
        refine lv_iload_n C.1 C.2.1 dX2_move_22 rfl (lv_at hl 2 rfl) ?_
        obtain ⟨v_7, e_8⟩ : ∃ z, z = (w12_1 : Int32) + (w12_2 : Int32) := ⟨_, rfl⟩
        have h_9 : v_7.toInt = w12_1.toInt + w12_2.toInt := by rw [e_8]; exact ti_iadd (by show (_ : Int) ≤ w12_1.toInt + w12_2.toInt; omega) (by show w12_1.toInt + w12_2.toInt < (_ : Int); omega)
        refine k_iadd (v := v_7) C e_8.symm dX2_move_23 ?_
        refine lv_aload_n C.1 C.2.1 dX2_move_24 rfl (lv_at hl 0 rfl) ?_
        refine lv_aload_n C.1 C.2.1 dX2_move_25 rfl (lv_at hl 0 rfl) ?_
        have h_10 : (-2147483648 : Int) ≤ (t1.1 4 15).toInt ∧ (t1.1 4 15).toInt ≤ 1073745919 := hok.1 4 15
        refine k_get (v := .int (t1.1 4 15)) C hP 4 rfl rfl inlX2 15 (by decide) m_47_12 rfl dX2_move_26 ?_
        refine lv_iload_n C.1 C.2.1 dX2_move_29 rfl (lv_at hl 2 rfl) ?_
        obtain ⟨v_11, e_12⟩ : ∃ z, z = ((t1.1 4 15) : Int32) + (w12_2 : Int32) := ⟨_, rfl⟩
        have h_14 := i_rng (t1.1 4 15)
        have h_13 : v_11.toInt = (t1.1 4 15).toInt + w12_2.toInt := by rw [e_12]; exact ti_iadd (by show (_ : Int) ≤ (t1.1 4 15).toInt + w12_2.toInt; omega) (by show (t1.1 4 15).toInt + w12_2.toInt < (_ : Int); omega)
        refine k_iadd (v := v_11) C e_12.symm dX2_move_30 ?_
        refine g_Vi (As := [.int v_11]) (rest := [.int v_7, .ref (ad 4)]) C hP hD hS hA (T_X2_load l D K Z Y ad d t1 hok (v_11)) hE hZ (uwV m_47_3 m_47_4 m_47_5 m_1_23 m_47_6) (hdV 1 (by decide +kernel) rfl) ⟨Nat.le_of_ble_eq_true rfl, Nat.le_of_ble_eq_true rfl⟩ rfl rfl (ci := 1) (q0 := 4) rfl rfl rfl hl.1 (Nat.le_of_ble_eq_true rfl) dX2_move_31 ⟨Nat.le_of_ble_eq_true rfl, Nat.le_of_ble_eq_true rfl⟩ (fun r_16 t_15 H locs hw hP hD hS => ?_)
        obtain ⟨h_18, h_19⟩ := hw
        refine g_Vv (As := [.int v_7, .int r_16]) (rest := []) C hP hD hS hA (T_X2_save l D K Z Y ad d t1 hok (v_7) (show (-2147483648 : Int) ≤ (v_7 : Int32).toInt ∧ (v_7 : Int32).toInt ≤ 1073745919 from ⟨(i_rng _).1, by omega⟩) (r_16)) hE hZ (uwV m_46_8 m_46_9 m_46_10 m_1_23 m_46_11) (hdV 2 (by decide +kernel) rfl) ⟨Nat.le_of_ble_eq_true rfl, Nat.le_of_ble_eq_true rfl⟩ rfl rfl (ci := 1) (q0 := 4) rfl rfl rfl hl.1 (Nat.le_of_ble_eq_true rfl) dX2_move_34 ⟨Nat.le_of_ble_eq_true rfl, Nat.le_of_ble_eq_true rfl⟩ (fun t_20 H locs hw hP hD hS => ?_)
        obtain ⟨hok, f_22⟩ := hw
        have hfr : frA [(4, 3)] [] [10, 22] [] t t_20 := frA_tr hfr f_22 rfl
        have h_23 : (t_20.1 4 14).toInt = (t1.1 4 14).toInt := ti_eq (f_22.1 4 14 rfl)
        have h_24 : (t_20.1 4 15).toInt = (t1.1 4 15).toInt := ti_eq (f_22.1 4 15 rfl)
        obtain ⟨v_25, e_26⟩ : ∃ z, z = w12_2 + 1 := ⟨_, rfl⟩
        have h_27 : v_25.toInt = w12_2.toInt + 1 := by rw [e_26]; exact ti_iadd (by show (_ : Int) ≤ w12_2.toInt + 1; omega) (by show w12_2.toInt + 1 < (_ : Int); omega)
        refine lv_iinc (v := v_25) (lv' := [(2, .int v_25), (0, .ref (ad 4)), (1, .int w12_1)]) C.1 C.2.1 dX2_move_37 hl (k := 2) rfl e_26.symm (by decide) rfl (fun ls hl => ?_)
        have hl : lv_has ls 3 [(0, .ref (ad 4)), (1, .int w12_1), (2, .int v_25)] := lv_sub hl [1, 2, 0] rfl
        refine lv_goto (tgt := 12) C.1 C.2.1 dX2_move_40 (by decide) ?_
        exact ih_12 t_20 w12_1 v_25 _ _ _ hok hfr ⟨by omega, by omega⟩ ⟨by omega, by omega⟩ (show (63 : Int) - v_25.toInt < (fuel_12 : Int) from by omega) hP hD hS (lv_sub hl [0, 1, 2] rfl)
  refine lv_aload_n C.1 C.2.1 dX2_move_0 rfl (lv_at hl 0 rfl) ?_
  refine k_get (v := .ref (ad 22)) C hP 4 rfl rfl inlX2 1 (by decide) m_4_16 rfl dX2_move_1 ?_
  refine lv_iconst (v := 1) C.1 C.2.1 dX2_move_4 (by decide) ?_
  obtain ⟨v_28, e_29⟩ : ∃ z, z = (t.2.2.1 22 (1 : Int32).toNatClampNeg) := ⟨_, rfl⟩
  refine k_ild (v := v_28) C hP 22 rfl (vin (by decide)) e_29.symm dX2_move_5 ?_
  refine g_Si (As := [.int v_28]) (rest := []) C hP hD hS hA (T_X1_value l D K Z Y ad d t hok (v_28)) hE hZ (uwS m_47_19 m_23_9 m_14_2 m_23_10) (hdS 1 (by decide +kernel) rfl) ⟨Nat.le_of_ble_eq_true rfl, Nat.le_of_ble_eq_true rfl⟩ rfl rfl rfl hl.1 (Nat.le_of_ble_eq_true rfl) dX2_move_6 ⟨Nat.le_of_ble_eq_true rfl, Nat.le_of_ble_eq_true rfl⟩ (fun r_31 t_30 H locs hw hP hD hS => ?_)
  obtain ⟨h_33, h_34⟩ := hw
  refine lv_istore_n (lv' := [(1, .int r_31), (0, .ref (ad 4))]) C.1 C.2.1 dX2_move_9 rfl hl (by decide) rfl (fun ls hl => ?_)
  have hl : lv_has ls 3 [(0, .ref (ad 4)), (1, .int r_31)] := lv_sub hl [1, 0] rfl
  refine lv_iconst (v := 0) C.1 C.2.1 dX2_move_10 (by decide) ?_
  refine lv_istore_n (lv' := [(2, .int 0), (0, .ref (ad 4)), (1, .int r_31)]) C.1 C.2.1 dX2_move_11 rfl hl (by decide) rfl (fun ls hl => ?_)
  have hl : lv_has ls 3 [(0, .ref (ad 4)), (1, .int r_31), (2, .int 0)] := lv_sub hl [1, 2, 0] rfl
  exact L_12 64 t r_31 0 _ _ _ hok hfr ⟨by omega, by omega⟩ ⟨by decide, by decide⟩ (show (63 : Int) - 0 < ((64 : Nat) : Int) from by omega) hP hD hS (lv_sub hl [0, 1, 2] rfl)

theorem dX2_enter_0 : decode cX2_enter 0 = .ok (.aload_n 0, 1) := by decide +kernel
theorem dX2_enter_1 : decode cX2_enter 1 = .ok (.getfield 87, 3) := by decide +kernel
theorem dX2_enter_10 : decode cX2_enter 10 = .ok (.aload_n 0, 1) := by decide +kernel
theorem dX2_enter_11 : decode cX2_enter 11 = .ok (.getfield 87, 3) := by decide +kernel
theorem dX2_enter_14 : decode cX2_enter 14 = .ok (.ifCond .ne 10, 3) := by decide +kernel
theorem dX2_enter_17 : decode cX2_enter 17 = .ok (.aload_n 0, 1) := by decide +kernel
theorem dX2_enter_18 : decode cX2_enter 18 = .ok (.getfield 142, 3) := by decide +kernel
theorem dX2_enter_21 : decode cX2_enter 21 = .ok (.goto 8, 3) := by decide +kernel
theorem dX2_enter_24 : decode cX2_enter 24 = .ok (.aload_n 0, 1) := by decide +kernel
theorem dX2_enter_25 : decode cX2_enter 25 = .ok (.getfield 142, 3) := by decide +kernel
theorem dX2_enter_28 : decode cX2_enter 28 = .ok (.ineg, 1) := by decide +kernel
theorem dX2_enter_29 : decode cX2_enter 29 = .ok (.invokevirtual 216, 3) := by decide +kernel
theorem dX2_enter_32 : decode cX2_enter 32 = .ok (.return_, 1) := by decide +kernel
theorem dX2_enter_33 : decode cX2_enter 33 = .ok (.aload_n 0, 1) := by decide +kernel
theorem dX2_enter_34 : decode cX2_enter 34 = .ok (.getfield 142, 3) := by decide +kernel
theorem dX2_enter_37 : decode cX2_enter 37 = .ok (.ifCond .ne 13, 3) := by decide +kernel
theorem dX2_enter_4 : decode cX2_enter 4 = .ok (.iconst 2, 1) := by decide +kernel
theorem dX2_enter_40 : decode cX2_enter 40 = .ok (.aload_n 0, 1) := by decide +kernel
theorem dX2_enter_41 : decode cX2_enter 41 = .ok (.getfield 77, 3) := by decide +kernel
theorem dX2_enter_44 : decode cX2_enter 44 = .ok (.ldc 124, 2) := by decide +kernel
theorem dX2_enter_46 : decode cX2_enter 46 = .ok (.iand, 1) := by decide +kernel
theorem dX2_enter_47 : decode cX2_enter 47 = .ok (.goto 11, 3) := by decide +kernel
theorem dX2_enter_5 : decode cX2_enter 5 = .ok (.if_icmp .ge 28, 3) := by decide +kernel
theorem dX2_enter_50 : decode cX2_enter 50 = .ok (.aload_n 0, 1) := by decide +kernel
theorem dX2_enter_51 : decode cX2_enter 51 = .ok (.getfield 142, 3) := by decide +kernel
theorem dX2_enter_54 : decode cX2_enter 54 = .ok (.i2l, 1) := by decide +kernel
theorem dX2_enter_55 : decode cX2_enter 55 = .ok (.invokestatic 120, 3) := by decide +kernel
theorem dX2_enter_58 : decode cX2_enter 58 = .ok (.istore_n 2, 1) := by decide +kernel
theorem dX2_enter_59 : decode cX2_enter 59 = .ok (.aload_n 0, 1) := by decide +kernel
theorem dX2_enter_60 : decode cX2_enter 60 = .ok (.getfield 11, 3) := by decide +kernel
theorem dX2_enter_63 : decode cX2_enter 63 = .ok (.iload_n 1, 1) := by decide +kernel
theorem dX2_enter_64 : decode cX2_enter 64 = .ok (.aload_n 0, 1) := by decide +kernel
theorem dX2_enter_65 : decode cX2_enter 65 = .ok (.getfield 87, 3) := by decide +kernel
theorem dX2_enter_68 : decode cX2_enter 68 = .ok (.iconst 2, 1) := by decide +kernel
theorem dX2_enter_69 : decode cX2_enter 69 = .ok (.if_icmp .ne 7, 3) := by decide +kernel
theorem dX2_enter_72 : decode cX2_enter 72 = .ok (.iload_n 2, 1) := by decide +kernel
theorem dX2_enter_73 : decode cX2_enter 73 = .ok (.goto 7, 3) := by decide +kernel
theorem dX2_enter_76 : decode cX2_enter 76 = .ok (.iload_n 2, 1) := by decide +kernel
theorem dX2_enter_77 : decode cX2_enter 77 = .ok (.ldc 124, 2) := by decide +kernel
theorem dX2_enter_79 : decode cX2_enter 79 = .ok (.ixor, 1) := by decide +kernel
theorem dX2_enter_8 : decode cX2_enter 8 = .ok (.aload_n 0, 1) := by decide +kernel
theorem dX2_enter_80 : decode cX2_enter 80 = .ok (.iastore, 1) := by decide +kernel
theorem dX2_enter_81 : decode cX2_enter 81 = .ok (.return_, 1) := by decide +kernel
theorem dX2_enter_9 : decode cX2_enter 9 = .ok (.iload_n 1, 1) := by decide +kernel
set_option maxHeartbeats 4000000 in
set_option maxRecDepth 100000 in
theorem T_X2_enter (l : Launch) (D : va_G) (K : Nat → ClassId) (Z Y : Nat → Nat) (ad : Nat → Nat) (d : dSt) (t : tSt) (hok : okX t) (x1 : Int32) (hx1 : (0 : Int) ≤ x1.toInt ∧ x1.toInt ≤ 7) : tMet l yX2_enter cX2_enter 3 none (rmD 3 0 0) D K Z Y [.ref (ad 4), .int x1] ((WX d) K ad t) (QV D K (fun (u : tSt) => okX u ∧ frA [(4, 3)] [] [22] [] t u) (fun (u : tSt) => (WX d) K ad u)) 0 0 := by
  refine t_met RX2 ⟨rfl, by decide +kernel⟩ (Nat.le_of_ble_eq_true rfl) ?_
  intro p e s m below meth c A ls C hE hZ hr hlocks hA hP hD hS hl
  have hl : lv_has ls 3 [(0, .ref (ad 4)), (1, .int x1)] := hl
  have hokt := hok
  have hfr : frA [(4, 3)] [] [22] [] t t := frA_rf
  have L_58 : ∀ (t1 : tSt) (k58_0 : Int32) (H : Heap) (locs : List Loc) (ls : Array Slot), okX t1 → frA [(4, 3)] [] [22] [] t t1 → (0 : Int) ≤ k58_0.toInt ∧ k58_0.toInt ≤ 2147483647 → (2 : Int) ≤ (t1.1 4 14).toInt ∧ (t1.1 4 14).toInt ≤ 63 → va_P D vwCl ((WX d) K ad t1) H → va_D A ((WX d) K ad t1) → va_S A s.heap H locs → lv_has ls 3 [(0, .ref (ad 4)), (1, .int x1)] → W p l e (rmD 3 0 0) s m [.ref (ad 4), .int x1].toArray below meth c H locs 0 0 (MQ below (QV D K (fun (u : tSt) => okX u ∧ frA [(4, 3)] [] [22] [] t u) (fun (u : tSt) => (WX d) K ad u) A) [.ref (ad 4), .int x1].toArray s 0 0 A) (F0 m 58 ls [.int k58_0]) := by
    intro t1 k58_0 H locs ls hok hfr hk58_0 hf58_14 hP hD hS hl
    refine lv_istore_n (lv' := [(2, .int k58_0), (0, .ref (ad 4)), (1, .int x1)]) C.1 C.2.1 dX2_enter_58 rfl hl (by decide) rfl (fun ls hl => ?_)
    have hl : lv_has ls 3 [(0, .ref (ad 4)), (1, .int x1), (2, .int k58_0)] := lv_sub hl [1, 2, 0] rfl
    refine lv_aload_n C.1 C.2.1 dX2_enter_59 rfl (lv_at hl 0 rfl) ?_
    refine k_get (v := .ref (ad 22)) C hP 4 rfl rfl inlX2 1 (by decide) m_4_16 rfl dX2_enter_60 ?_
    refine lv_iload_n C.1 C.2.1 dX2_enter_63 rfl (lv_at hl 1 rfl) ?_
    refine lv_aload_n C.1 C.2.1 dX2_enter_64 rfl (lv_at hl 0 rfl) ?_
    refine k_get (v := .int (t1.1 4 14)) C hP 4 rfl rfl inlX2 14 (by decide) m_45_19 rfl dX2_enter_65 ?_
    refine lv_iconst (v := 2) C.1 C.2.1 dX2_enter_68 (by decide) ?_
    refine lv_icmp_ne (tgt := 76) C.1 C.2.1 dX2_enter_69 (by decide) (fun c_1 => ?_) (fun c_1 => ?_)
    · replace c_1 : ¬ (t1.1 4 14).toInt = 2 := i_ne c_1
      refine lv_iload_n C.1 C.2.1 dX2_enter_76 rfl (lv_at hl 2 rfl) ?_
      refine lv_ldc (v := 1073741824) C.1 C.2.1 C.2.2.2.1 (C.2.2.2.2.1 _ m_47_11) dX2_enter_77 ?_
      obtain ⟨v_2, e_3⟩ : ∃ z, z = (k58_0 : Int32) ^^^ (1073741824 : Int32) := ⟨_, rfl⟩
      have h_4 : (0 : Int) ≤ v_2.toInt ∧ v_2.toInt ≤ 2147483647 := by rw [e_3]; exact z_xor (k := 31) (by decide) (by show (0 : Int) ≤ k58_0.toInt; omega) (by show k58_0.toInt < (_ : Int); omega) (by show (0 : Int) ≤ 1073741824; omega) (by show 1073741824 < (_ : Int); omega)
      refine k_ixor (v := v_2) C e_3.symm dX2_enter_79 ?_
      refine k_ist (ws' := (WX d) K ad (uB t1 22 (x1 : Int32).toNatClampNeg v_2)) (x' := v_2) C hP hD hS 22 rfl (vp_in_iff.mpr ⟨by omega, by omega⟩) rfl rfl rfl dX2_enter_80 (fun H locs hP hD hS => ?_)
      have hok : okX (uB t1 22 (x1 : Int32).toNatClampNeg v_2) := ⟨hok.1, okB_B hok.2.1 22 _ v_2 (show (-2147483648 : Int) ≤ (v_2 : Int32).toInt ∧ (v_2 : Int32).toInt ≤ 2147483647 from (i_rng _)), trivial⟩
      have hfr : frA [(4, 3)] [] [22] [] t (uB t1 22 (x1 : Int32).toNatClampNeg v_2) := frA_B hfr 22 _ _ rfl
      exact g_vret C hr hlocks hP hD hS (uB t1 22 (x1 : Int32).toNatClampNeg v_2) rfl ⟨hok, hfr⟩ (Nat.le_of_ble_eq_true rfl) (Nat.le_of_ble_eq_true rfl) dX2_enter_81
    · replace c_1 : (t1.1 4 14).toInt = 2 := i_eq c_1
      refine lv_iload_n C.1 C.2.1 dX2_enter_72 rfl (lv_at hl 2 rfl) ?_
      refine lv_goto (tgt := 80) C.1 C.2.1 dX2_enter_73 (by decide) ?_
      refine k_ist (ws' := (WX d) K ad (uB t1 22 (x1 : Int32).toNatClampNeg k58_0)) (x' := k58_0) C hP hD hS 22 rfl (vp_in_iff.mpr ⟨by omega, by omega⟩) rfl rfl rfl dX2_enter_80 (fun H locs hP hD hS => ?_)
      have hok : okX (uB t1 22 (x1 : Int32).toNatClampNeg k58_0) := ⟨hok.1, okB_B hok.2.1 22 _ k58_0 (show (-2147483648 : Int) ≤ (k58_0 : Int32).toInt ∧ (k58_0 : Int32).toInt ≤ 2147483647 from (i_rng _)), trivial⟩
      have hfr : frA [(4, 3)] [] [22] [] t (uB t1 22 (x1 : Int32).toNatClampNeg k58_0) := frA_B hfr 22 _ _ rfl
      exact g_vret C hr hlocks hP hD hS (uB t1 22 (x1 : Int32).toNatClampNeg k58_0) rfl ⟨hok, hfr⟩ (Nat.le_of_ble_eq_true rfl) (Nat.le_of_ble_eq_true rfl) dX2_enter_81
  refine lv_aload_n C.1 C.2.1 dX2_enter_0 rfl (lv_at hl 0 rfl) ?_
  have h_5 : (0 : Int) ≤ (t.1 4 14).toInt ∧ (t.1 4 14).toInt ≤ 63 := hok.1 4 14
  refine k_get (v := .int (t.1 4 14)) C hP 4 rfl rfl inlX2 14 (by decide) m_45_19 rfl dX2_enter_1 ?_
  refine lv_iconst (v := 2) C.1 C.2.1 dX2_enter_4 (by decide) ?_
  refine lv_icmp_ge (tgt := 33) C.1 C.2.1 dX2_enter_5 (by decide) (fun c_6 => ?_) (fun c_6 => ?_)
  · replace c_6 : 2 ≤ (t.1 4 14).toInt := i_le c_6
    refine lv_aload_n C.1 C.2.1 dX2_enter_33 rfl (lv_at hl 0 rfl) ?_
    have h_7 : (-2147483648 : Int) ≤ (t.1 4 15).toInt ∧ (t.1 4 15).toInt ≤ 1073745919 := hok.1 4 15
    refine k_get (v := .int (t.1 4 15)) C hP 4 rfl rfl inlX2 15 (by decide) m_47_12 rfl dX2_enter_34 ?_
    refine lv_if_ne (tgt := 50) C.1 C.2.1 dX2_enter_37 (by decide) (fun c_8 => ?_) (fun c_8 => ?_)
    · replace c_8 : ¬ (t.1 4 15).toInt = 0 := i_ne c_8
      refine lv_aload_n C.1 C.2.1 dX2_enter_50 rfl (lv_at hl 0 rfl) ?_
      refine k_get (v := .int (t.1 4 15)) C hP 4 rfl rfl inlX2 15 (by decide) m_47_12 rfl dX2_enter_51 ?_
      obtain ⟨v_9, e_10⟩ : ∃ z, z = ((t.1 4 15) : Int32).toInt64 := ⟨_, rfl⟩
      have h_11 : v_9.toInt = (t.1 4 15).toInt := by rw [e_10]; exact Jvm.Kit.i64_of_i32 _
      have h_12 := i_rng (t.1 4 15)
      refine lv_i2l (v := v_9) C.1 C.2.1 dX2_enter_54 e_10.symm ?_
      refine g_Si (As := [.long v_9]) (rest := []) C hP hD hS hA (T_X1_wordOf l D K Z Y ad d t hok (v_9)) hE hZ (uwS m_50_15 m_22_11 m_14_2 m_22_12) (hdS 1 (by decide +kernel) rfl) ⟨Nat.le_of_ble_eq_true rfl, Nat.le_of_ble_eq_true rfl⟩ rfl rfl rfl hl.1 (Nat.le_of_ble_eq_true rfl) dX2_enter_55 ⟨Nat.le_of_ble_eq_true rfl, Nat.le_of_ble_eq_true rfl⟩ (fun r_14 t_13 H locs hw hP hD hS => ?_)
      obtain ⟨h_16, h_17⟩ := hw
      exact L_58 t r_14 _ _ _ hok hfr ⟨by omega, (i_rng _).2⟩ (show (2 : Int) ≤ ((t.1 4 14) : Int32).toInt ∧ ((t.1 4 14) : Int32).toInt ≤ 63 from ⟨by omega, by omega⟩) hP hD hS (lv_sub hl [0, 1] rfl)
    · replace c_8 : (t.1 4 15).toInt = 0 := i_eq c_8
      refine lv_aload_n C.1 C.2.1 dX2_enter_40 rfl (lv_at hl 0 rfl) ?_
      refine k_get (v := .int (t.1 4 11)) C hP 4 rfl rfl inlX2 11 (by decide) m_45_17 rfl dX2_enter_41 ?_
      refine lv_ldc (v := 1073741824) C.1 C.2.1 C.2.2.2.1 (C.2.2.2.2.1 _ m_47_11) dX2_enter_44 ?_
      obtain ⟨v_18, e_19⟩ : ∃ z, z = ((t.1 4 11) : Int32) &&& (1073741824 : Int32) := ⟨_, rfl⟩
      have h_20 : (0 : Int) ≤ v_18.toInt ∧ v_18.toInt ≤ 1073741824 := by rw [e_19]; exact z_and _ (k := 1073741824) (by decide) (by decide)
      refine k_iand (v := v_18) C e_19.symm dX2_enter_46 ?_
      refine lv_goto (tgt := 58) C.1 C.2.1 dX2_enter_47 (by decide) ?_
      exact L_58 t v_18 _ _ _ hok hfr ⟨by omega, (i_rng _).2⟩ (show (2 : Int) ≤ ((t.1 4 14) : Int32).toInt ∧ ((t.1 4 14) : Int32).toInt ≤ 63 from ⟨by omega, by omega⟩) hP hD hS (lv_sub hl [0, 1] rfl)
  · replace c_6 : (t.1 4 14).toInt < 2 := i_nle c_6
    refine lv_aload_n C.1 C.2.1 dX2_enter_8 rfl (lv_at hl 0 rfl) ?_
    refine lv_iload_n C.1 C.2.1 dX2_enter_9 rfl (lv_at hl 1 rfl) ?_
    refine lv_aload_n C.1 C.2.1 dX2_enter_10 rfl (lv_at hl 0 rfl) ?_
    refine k_get (v := .int (t.1 4 14)) C hP 4 rfl rfl inlX2 14 (by decide) m_45_19 rfl dX2_enter_11 ?_
    refine lv_if_ne (tgt := 24) C.1 C.2.1 dX2_enter_14 (by decide) (fun c_21 => ?_) (fun c_21 => ?_)
    · replace c_21 : ¬ (t.1 4 14).toInt = 0 := i_ne c_21
      refine lv_aload_n C.1 C.2.1 dX2_enter_24 rfl (lv_at hl 0 rfl) ?_
      have h_22 : (-2147483648 : Int) ≤ (t.1 4 15).toInt ∧ (t.1 4 15).toInt ≤ 1073745919 := hok.1 4 15
      refine k_get (v := .int (t.1 4 15)) C hP 4 rfl rfl inlX2 15 (by decide) m_47_12 rfl dX2_enter_25 ?_
      obtain ⟨v_23, e_24⟩ : ∃ z, z = -((t.1 4 15) : Int32) := ⟨_, rfl⟩
      refine k_ineg (v := v_23) C e_24.symm dX2_enter_28 ?_
      refine g_Vv (As := [.int x1, .int v_23]) (rest := []) C hP hD hS hA (T_X2_add l D K Z Y ad d t hok (x1) (show (0 : Int) ≤ (x1 : Int32).toInt ∧ (x1 : Int32).toInt ≤ 7 from ⟨by omega, by omega⟩) (v_23)) hE hZ (uwV m_50_21 m_50_22 m_50_23 m_1_23 m_51_0) (hdV 2 (by decide +kernel) rfl) ⟨Nat.le_of_ble_eq_true rfl, Nat.le_of_ble_eq_true rfl⟩ rfl rfl (ci := 1) (q0 := 4) rfl rfl rfl hl.1 (Nat.le_of_ble_eq_true rfl) dX2_enter_29 ⟨Nat.le_of_ble_eq_true rfl, Nat.le_of_ble_eq_true rfl⟩ (fun t_25 H locs hw hP hD hS => ?_)
      obtain ⟨hok, f_27⟩ := hw
      have hfr : frA [(4, 3)] [] [22] [] t t_25 := frA_tr hfr f_27 rfl
      have h_28 : (t_25.1 4 14).toInt = (t.1 4 14).toInt := ti_eq (f_27.1 4 14 rfl)
      have h_29 : (t_25.1 4 15).toInt = (t.1 4 15).toInt := ti_eq (f_27.1 4 15 rfl)
      exact g_vret C hr hlocks hP hD hS t_25 rfl ⟨hok, hfr⟩ (Nat.le_of_ble_eq_true rfl) (Nat.le_of_ble_eq_true rfl) dX2_enter_32
    · replace c_21 : (t.1 4 14).toInt = 0 := i_eq c_21
      refine lv_aload_n C.1 C.2.1 dX2_enter_17 rfl (lv_at hl 0 rfl) ?_
      have h_30 : (-2147483648 : Int) ≤ (t.1 4 15).toInt ∧ (t.1 4 15).toInt ≤ 1073745919 := hok.1 4 15
      refine k_get (v := .int (t.1 4 15)) C hP 4 rfl rfl inlX2 15 (by decide) m_47_12 rfl dX2_enter_18 ?_
      refine lv_goto (tgt := 29) C.1 C.2.1 dX2_enter_21 (by decide) ?_
      refine g_Vv (As := [.int x1, .int (t.1 4 15)]) (rest := []) C hP hD hS hA (T_X2_add l D K Z Y ad d t hok (x1) (show (0 : Int) ≤ (x1 : Int32).toInt ∧ (x1 : Int32).toInt ≤ 7 from ⟨by omega, by omega⟩) ((t.1 4 15))) hE hZ (uwV m_50_21 m_50_22 m_50_23 m_1_23 m_51_0) (hdV 2 (by decide +kernel) rfl) ⟨Nat.le_of_ble_eq_true rfl, Nat.le_of_ble_eq_true rfl⟩ rfl rfl (ci := 1) (q0 := 4) rfl rfl rfl hl.1 (Nat.le_of_ble_eq_true rfl) dX2_enter_29 ⟨Nat.le_of_ble_eq_true rfl, Nat.le_of_ble_eq_true rfl⟩ (fun t_31 H locs hw hP hD hS => ?_)
      obtain ⟨hok, f_33⟩ := hw
      have hfr : frA [(4, 3)] [] [22] [] t t_31 := frA_tr hfr f_33 rfl
      have h_34 : (t_31.1 4 14).toInt = (t.1 4 14).toInt := ti_eq (f_33.1 4 14 rfl)
      have h_35 : (t_31.1 4 15).toInt = (t.1 4 15).toInt := ti_eq (f_33.1 4 15 rfl)
      exact g_vret C hr hlocks hP hD hS t_31 rfl ⟨hok, hfr⟩ (Nat.le_of_ble_eq_true rfl) (Nat.le_of_ble_eq_true rfl) dX2_enter_32

theorem dX0_layComing_0 : decode cX0_layComing 0 = .ok (.iconst 0, 1) := by decide +kernel
theorem dX0_layComing_1 : decode cX0_layComing 1 = .ok (.istore_n 1, 1) := by decide +kernel
theorem dX0_layComing_10 : decode cX0_layComing 10 = .ok (.if_icmp .ge 177, 3) := by decide +kernel
theorem dX0_layComing_102 : decode cX0_layComing 102 = .ok (.aload_n 0, 1) := by decide +kernel
theorem dX0_layComing_103 : decode cX0_layComing 103 = .ok (.getfield 32, 3) := by decide +kernel
theorem dX0_layComing_106 : decode cX0_layComing 106 = .ok (.iload_n 2, 1) := by decide +kernel
theorem dX0_layComing_107 : decode cX0_layComing 107 = .ok (.iconst 2, 1) := by decide +kernel
theorem dX0_layComing_108 : decode cX0_layComing 108 = .ok (.iload 4, 2) := by decide +kernel
theorem dX0_layComing_110 : decode cX0_layComing 110 = .ok (.invokevirtual 224, 3) := by decide +kernel
theorem dX0_layComing_113 : decode cX0_layComing 113 = .ok (.aload_n 0, 1) := by decide +kernel
theorem dX0_layComing_114 : decode cX0_layComing 114 = .ok (.getfield 32, 3) := by decide +kernel
theorem dX0_layComing_117 : decode cX0_layComing 117 = .ok (.getfield 260, 3) := by decide +kernel
theorem dX0_layComing_120 : decode cX0_layComing 120 = .ok (.iload_n 1, 1) := by decide +kernel
theorem dX0_layComing_121 : decode cX0_layComing 121 = .ok (.aload_n 0, 1) := by decide +kernel
theorem dX0_layComing_122 : decode cX0_layComing 122 = .ok (.getfield 32, 3) := by decide +kernel
theorem dX0_layComing_125 : decode cX0_layComing 125 = .ok (.getfield 263, 3) := by decide +kernel
theorem dX0_layComing_128 : decode cX0_layComing 128 = .ok (.iload_n 2, 1) := by decide +kernel
theorem dX0_layComing_129 : decode cX0_layComing 129 = .ok (.iaload, 1) := by decide +kernel
theorem dX0_layComing_13 : decode cX0_layComing 13 = .ok (.aload_n 0, 1) := by decide +kernel
theorem dX0_layComing_130 : decode cX0_layComing 130 = .ok (.iastore, 1) := by decide +kernel
theorem dX0_layComing_131 : decode cX0_layComing 131 = .ok (.goto 50, 3) := by decide +kernel
theorem dX0_layComing_134 : decode cX0_layComing 134 = .ok (.iload_n 3, 1) := by decide +kernel
theorem dX0_layComing_135 : decode cX0_layComing 135 = .ok (.ifCond .lt 46, 3) := by decide +kernel
theorem dX0_layComing_138 : decode cX0_layComing 138 = .ok (.iload_n 3, 1) := by decide +kernel
theorem dX0_layComing_139 : decode cX0_layComing 139 = .ok (.bipush 10, 2) := by decide +kernel
theorem dX0_layComing_14 : decode cX0_layComing 14 = .ok (.getfield 32, 3) := by decide +kernel
theorem dX0_layComing_141 : decode cX0_layComing 141 = .ok (.if_icmp .ge 40, 3) := by decide +kernel
theorem dX0_layComing_144 : decode cX0_layComing 144 = .ok (.aload_n 0, 1) := by decide +kernel
theorem dX0_layComing_145 : decode cX0_layComing 145 = .ok (.getfield 22, 3) := by decide +kernel
theorem dX0_layComing_148 : decode cX0_layComing 148 = .ok (.iload_n 3, 1) := by decide +kernel
theorem dX0_layComing_149 : decode cX0_layComing 149 = .ok (.iaload, 1) := by decide +kernel
theorem dX0_layComing_150 : decode cX0_layComing 150 = .ok (.aload_n 0, 1) := by decide +kernel
theorem dX0_layComing_151 : decode cX0_layComing 151 = .ok (.getfield 70, 3) := by decide +kernel
theorem dX0_layComing_154 : decode cX0_layComing 154 = .ok (.if_icmp .ne 8, 3) := by decide +kernel
theorem dX0_layComing_157 : decode cX0_layComing 157 = .ok (.aload_n 0, 1) := by decide +kernel
theorem dX0_layComing_158 : decode cX0_layComing 158 = .ok (.iconst 0, 1) := by decide +kernel
theorem dX0_layComing_159 : decode cX0_layComing 159 = .ok (.invokevirtual 230, 3) := by decide +kernel
theorem dX0_layComing_162 : decode cX0_layComing 162 = .ok (.aload_n 0, 1) := by decide +kernel
theorem dX0_layComing_163 : decode cX0_layComing 163 = .ok (.getfield 32, 3) := by decide +kernel
theorem dX0_layComing_166 : decode cX0_layComing 166 = .ok (.getfield 260, 3) := by decide +kernel
theorem dX0_layComing_169 : decode cX0_layComing 169 = .ok (.iload_n 1, 1) := by decide +kernel
theorem dX0_layComing_17 : decode cX0_layComing 17 = .ok (.getfield 254, 3) := by decide +kernel
theorem dX0_layComing_170 : decode cX0_layComing 170 = .ok (.aload_n 0, 1) := by decide +kernel
theorem dX0_layComing_171 : decode cX0_layComing 171 = .ok (.getfield 22, 3) := by decide +kernel
theorem dX0_layComing_174 : decode cX0_layComing 174 = .ok (.iload_n 3, 1) := by decide +kernel
theorem dX0_layComing_175 : decode cX0_layComing 175 = .ok (.iaload, 1) := by decide +kernel
theorem dX0_layComing_176 : decode cX0_layComing 176 = .ok (.i2l, 1) := by decide +kernel
theorem dX0_layComing_177 : decode cX0_layComing 177 = .ok (.invokestatic 192, 3) := by decide +kernel
theorem dX0_layComing_180 : decode cX0_layComing 180 = .ok (.iastore, 1) := by decide +kernel
theorem dX0_layComing_181 : decode cX0_layComing 181 = .ok (.iinc 1 1, 3) := by decide +kernel
theorem dX0_layComing_184 : decode cX0_layComing 184 = .ok (.goto (-182), 3) := by decide +kernel
theorem dX0_layComing_187 : decode cX0_layComing 187 = .ok (.iconst 0, 1) := by decide +kernel
theorem dX0_layComing_188 : decode cX0_layComing 188 = .ok (.istore_n 1, 1) := by decide +kernel
theorem dX0_layComing_189 : decode cX0_layComing 189 = .ok (.iload_n 1, 1) := by decide +kernel
theorem dX0_layComing_190 : decode cX0_layComing 190 = .ok (.aload_n 0, 1) := by decide +kernel
theorem dX0_layComing_191 : decode cX0_layComing 191 = .ok (.getfield 32, 3) := by decide +kernel
theorem dX0_layComing_194 : decode cX0_layComing 194 = .ok (.getfield 251, 3) := by decide +kernel
theorem dX0_layComing_197 : decode cX0_layComing 197 = .ok (.if_icmp .ge 61, 3) := by decide +kernel
theorem dX0_layComing_2 : decode cX0_layComing 2 = .ok (.iload_n 1, 1) := by decide +kernel
theorem dX0_layComing_20 : decode cX0_layComing 20 = .ok (.iload_n 1, 1) := by decide +kernel
theorem dX0_layComing_200 : decode cX0_layComing 200 = .ok (.aload_n 0, 1) := by decide +kernel
theorem dX0_layComing_201 : decode cX0_layComing 201 = .ok (.getfield 32, 3) := by decide +kernel
theorem dX0_layComing_204 : decode cX0_layComing 204 = .ok (.getfield 267, 3) := by decide +kernel
theorem dX0_layComing_207 : decode cX0_layComing 207 = .ok (.iload_n 1, 1) := by decide +kernel
theorem dX0_layComing_208 : decode cX0_layComing 208 = .ok (.iaload, 1) := by decide +kernel
theorem dX0_layComing_209 : decode cX0_layComing 209 = .ok (.sipush 3999, 3) := by decide +kernel
theorem dX0_layComing_21 : decode cX0_layComing 21 = .ok (.iaload, 1) := by decide +kernel
theorem dX0_layComing_212 : decode cX0_layComing 212 = .ok (.iadd, 1) := by decide +kernel
theorem dX0_layComing_213 : decode cX0_layComing 213 = .ok (.istore_n 2, 1) := by decide +kernel
theorem dX0_layComing_214 : decode cX0_layComing 214 = .ok (.iload_n 2, 1) := by decide +kernel
theorem dX0_layComing_215 : decode cX0_layComing 215 = .ok (.ifCond .lt 37, 3) := by decide +kernel
theorem dX0_layComing_218 : decode cX0_layComing 218 = .ok (.iload_n 2, 1) := by decide +kernel
theorem dX0_layComing_219 : decode cX0_layComing 219 = .ok (.aload_n 0, 1) := by decide +kernel
theorem dX0_layComing_22 : decode cX0_layComing 22 = .ok (.istore_n 2, 1) := by decide +kernel
theorem dX0_layComing_220 : decode cX0_layComing 220 = .ok (.getfield 29, 3) := by decide +kernel
theorem dX0_layComing_223 : decode cX0_layComing 223 = .ok (.arraylength, 1) := by decide +kernel
theorem dX0_layComing_224 : decode cX0_layComing 224 = .ok (.if_icmp .ge 28, 3) := by decide +kernel
theorem dX0_layComing_227 : decode cX0_layComing 227 = .ok (.aload_n 0, 1) := by decide +kernel
theorem dX0_layComing_228 : decode cX0_layComing 228 = .ok (.getfield 29, 3) := by decide +kernel
theorem dX0_layComing_23 : decode cX0_layComing 23 = .ok (.bipush (-10), 2) := by decide +kernel
theorem dX0_layComing_231 : decode cX0_layComing 231 = .ok (.iload_n 2, 1) := by decide +kernel
theorem dX0_layComing_232 : decode cX0_layComing 232 = .ok (.aload_n 0, 1) := by decide +kernel
theorem dX0_layComing_233 : decode cX0_layComing 233 = .ok (.getfield 29, 3) := by decide +kernel
theorem dX0_layComing_236 : decode cX0_layComing 236 = .ok (.iload_n 2, 1) := by decide +kernel
theorem dX0_layComing_237 : decode cX0_layComing 237 = .ok (.iaload, 1) := by decide +kernel
theorem dX0_layComing_238 : decode cX0_layComing 238 = .ok (.iconst 2, 1) := by decide +kernel
theorem dX0_layComing_239 : decode cX0_layComing 239 = .ok (.aload_n 0, 1) := by decide +kernel
theorem dX0_layComing_240 : decode cX0_layComing 240 = .ok (.getfield 32, 3) := by decide +kernel
theorem dX0_layComing_243 : decode cX0_layComing 243 = .ok (.getfield 260, 3) := by decide +kernel
theorem dX0_layComing_246 : decode cX0_layComing 246 = .ok (.iload_n 1, 1) := by decide +kernel
theorem dX0_layComing_247 : decode cX0_layComing 247 = .ok (.iaload, 1) := by decide +kernel
theorem dX0_layComing_248 : decode cX0_layComing 248 = .ok (.invokestatic 270, 3) := by decide +kernel
theorem dX0_layComing_25 : decode cX0_layComing 25 = .ok (.iload_n 2, 1) := by decide +kernel
theorem dX0_layComing_251 : decode cX0_layComing 251 = .ok (.iastore, 1) := by decide +kernel
theorem dX0_layComing_252 : decode cX0_layComing 252 = .ok (.iinc 1 1, 3) := by decide +kernel
theorem dX0_layComing_255 : decode cX0_layComing 255 = .ok (.goto (-66), 3) := by decide +kernel
theorem dX0_layComing_258 : decode cX0_layComing 258 = .ok (.return_, 1) := by decide +kernel
theorem dX0_layComing_26 : decode cX0_layComing 26 = .ok (.isub, 1) := by decide +kernel
theorem dX0_layComing_27 : decode cX0_layComing 27 = .ok (.istore_n 3, 1) := by decide +kernel
theorem dX0_layComing_28 : decode cX0_layComing 28 = .ok (.aload_n 0, 1) := by decide +kernel
theorem dX0_layComing_29 : decode cX0_layComing 29 = .ok (.getfield 70, 3) := by decide +kernel
theorem dX0_layComing_3 : decode cX0_layComing 3 = .ok (.aload_n 0, 1) := by decide +kernel
theorem dX0_layComing_32 : decode cX0_layComing 32 = .ok (.i2l, 1) := by decide +kernel
theorem dX0_layComing_33 : decode cX0_layComing 33 = .ok (.invokestatic 192, 3) := by decide +kernel
theorem dX0_layComing_36 : decode cX0_layComing 36 = .ok (.istore 4, 2) := by decide +kernel
theorem dX0_layComing_38 : decode cX0_layComing 38 = .ok (.iload_n 2, 1) := by decide +kernel
theorem dX0_layComing_39 : decode cX0_layComing 39 = .ok (.iconst (-1), 1) := by decide +kernel
theorem dX0_layComing_4 : decode cX0_layComing 4 = .ok (.getfield 32, 3) := by decide +kernel
theorem dX0_layComing_40 : decode cX0_layComing 40 = .ok (.if_icmp .ne 30, 3) := by decide +kernel
theorem dX0_layComing_43 : decode cX0_layComing 43 = .ok (.aload_n 0, 1) := by decide +kernel
theorem dX0_layComing_44 : decode cX0_layComing 44 = .ok (.aload_n 0, 1) := by decide +kernel
theorem dX0_layComing_45 : decode cX0_layComing 45 = .ok (.getfield 32, 3) := by decide +kernel
theorem dX0_layComing_48 : decode cX0_layComing 48 = .ok (.getfield 260, 3) := by decide +kernel
theorem dX0_layComing_51 : decode cX0_layComing 51 = .ok (.iload_n 1, 1) := by decide +kernel
theorem dX0_layComing_52 : decode cX0_layComing 52 = .ok (.iaload, 1) := by decide +kernel
theorem dX0_layComing_53 : decode cX0_layComing 53 = .ok (.invokevirtual 230, 3) := by decide +kernel
theorem dX0_layComing_56 : decode cX0_layComing 56 = .ok (.aload_n 0, 1) := by decide +kernel
theorem dX0_layComing_57 : decode cX0_layComing 57 = .ok (.getfield 32, 3) := by decide +kernel
theorem dX0_layComing_60 : decode cX0_layComing 60 = .ok (.getfield 260, 3) := by decide +kernel
theorem dX0_layComing_63 : decode cX0_layComing 63 = .ok (.iload_n 1, 1) := by decide +kernel
theorem dX0_layComing_64 : decode cX0_layComing 64 = .ok (.iload 4, 2) := by decide +kernel
theorem dX0_layComing_66 : decode cX0_layComing 66 = .ok (.iastore, 1) := by decide +kernel
theorem dX0_layComing_67 : decode cX0_layComing 67 = .ok (.goto 114, 3) := by decide +kernel
theorem dX0_layComing_7 : decode cX0_layComing 7 = .ok (.getfield 251, 3) := by decide +kernel
theorem dX0_layComing_70 : decode cX0_layComing 70 = .ok (.iload_n 2, 1) := by decide +kernel
theorem dX0_layComing_71 : decode cX0_layComing 71 = .ok (.ifCond .lt 63, 3) := by decide +kernel
theorem dX0_layComing_74 : decode cX0_layComing 74 = .ok (.iload_n 2, 1) := by decide +kernel
theorem dX0_layComing_75 : decode cX0_layComing 75 = .ok (.aload_n 0, 1) := by decide +kernel
theorem dX0_layComing_76 : decode cX0_layComing 76 = .ok (.getfield 32, 3) := by decide +kernel
theorem dX0_layComing_79 : decode cX0_layComing 79 = .ok (.getfield 257, 3) := by decide +kernel
theorem dX0_layComing_82 : decode cX0_layComing 82 = .ok (.if_icmp .ge 52, 3) := by decide +kernel
theorem dX0_layComing_85 : decode cX0_layComing 85 = .ok (.aload_n 0, 1) := by decide +kernel
theorem dX0_layComing_86 : decode cX0_layComing 86 = .ok (.getfield 32, 3) := by decide +kernel
theorem dX0_layComing_89 : decode cX0_layComing 89 = .ok (.iload_n 2, 1) := by decide +kernel
theorem dX0_layComing_90 : decode cX0_layComing 90 = .ok (.invokevirtual 150, 3) := by decide +kernel
theorem dX0_layComing_93 : decode cX0_layComing 93 = .ok (.iconst 1, 1) := by decide +kernel
theorem dX0_layComing_94 : decode cX0_layComing 94 = .ok (.if_icmp .ne 19, 3) := by decide +kernel
theorem dX0_layComing_97 : decode cX0_layComing 97 = .ok (.aload_n 0, 1) := by decide +kernel
theorem dX0_layComing_98 : decode cX0_layComing 98 = .ok (.iconst 0, 1) := by decide +kernel
theorem dX0_layComing_99 : decode cX0_layComing 99 = .ok (.invokevirtual 230, 3) := by decide +kernel
set_option maxHeartbeats 4000000 in
set_option maxRecDepth 100000 in
theorem T_X0_layComing (l : Launch) (D : va_G) (K : Nat → ClassId) (Z Y : Nat → Nat) (ad : Nat → Nat) (d : dSt) (t : tSt) (hok : okX t)  : tMet l yX0_layComing cX0_layComing 5 none (rmD 3 0 0) D K Z Y [.ref (ad 5)] ((WX d) K ad t) (QV D K (fun (u : tSt) => okX u ∧ frA [(5, 9), (5, 16)] [] [10, 42, 43, 50] [25] t u) (fun (u : tSt) => (WX d) K ad u)) 0 0 := by
  refine t_met RX0 ⟨rfl, by decide +kernel⟩ (Nat.le_of_ble_eq_true rfl) ?_
  intro p e s m below meth c A ls C hE hZ hr hlocks hA hP hD hS hl
  have hl : lv_has ls 5 [(0, .ref (ad 5))] := hl
  have hokt := hok
  have hfr : frA [(5, 9), (5, 16)] [] [10, 42, 43, 50] [25] t t := frA_rf
  have h_1 : (0 : Int) ≤ (t.1 23 3).toInt ∧ (t.1 23 3).toInt ≤ 1024 := hok.1 23 3
  have L_189 : ∀ (fuel_189 : Nat) (t1 : tSt) (w189_1 : Int32) (H : Heap) (locs : List Loc) (ls : Array Slot), okX t1 → frA [(5, 9), (5, 16)] [] [10, 42, 43, 50] [25] t t1 → (0 : Int) ≤ w189_1.toInt ∧ w189_1.toInt ≤ 512 → (512 : Int) - w189_1.toInt < (fuel_189 : Int) → va_P D vwCl ((WX d) K ad t1) H → va_D A ((WX d) K ad t1) → va_S A s.heap H locs → lv_has ls 5 [(0, .ref (ad 5)), (1, .int w189_1)] → W p l e (rmD 3 0 0) s m [.ref (ad 5)].toArray below meth c H locs 0 0 (MQ below (QV D K (fun (u : tSt) => okX u ∧ frA [(5, 9), (5, 16)] [] [10, 42, 43, 50] [25] t u) (fun (u : tSt) => (WX d) K ad u) A) [.ref (ad 5)].toArray s 0 0 A) (F0 m 189 ls []) := by
    intro fuel_189
    induction fuel_189 with
    | zero =>
      intro t1 w189_1 H locs ls hok hfr hw189_1 hm189_189 hP hD hS hl
      have h_2 : (t1.1 23 3).toInt = (t.1 23 3).toInt := ti_eq (hfr.1 23 3 rfl)
      have h_3 : (0 : Int) ≤ (t1.1 23 3).toInt ∧ (t1.1 23 3).toInt ≤ 1024 := hok.1 23 3
      exact absurd hm189_189 (by omega)
    | succ fuel_189 ih_189 =>
      intro t1 w189_1 H locs ls hok hfr hw189_1 hm189_189 hP hD hS hl
      have hm189_189 : (512 : Int) - w189_1.toInt < (fuel_189 : Int) + 1 := by omega
      have h_4 : (t1.1 23 3).toInt = (t.1 23 3).toInt := ti_eq (hfr.1 23 3 rfl)
      have h_5 : (0 : Int) ≤ (t1.1 23 3).toInt ∧ (t1.1 23 3).toInt ≤ 1024 := hok.1 23 3
      have L_252 : ∀ (t1 : tSt) (w252_1 : Int32) (w252_2 : Int32) (H : Heap) (locs : List Loc) (ls : Array Slot), okX t1 → frA [(5, 9), (5, 16)] [] [10, 42, 43, 50] [25] t t1 → (0 : Int) ≤ w252_1.toInt ∧ w252_1.toInt ≤ 511 → (-1073737825 : Int) ≤ w252_2.toInt ∧ w252_2.toInt ≤ 7998 → (1 : Int) ≤ (t1.1 23 12).toInt ∧ (t1.1 23 12).toInt ≤ 512 → (512 : Int) - w252_1.toInt < (fuel_189 : Int) + 1 → va_P D vwCl ((WX d) K ad t1) H → va_D A ((WX d) K ad t1) → va_S A s.heap H locs → lv_has ls 5 [(0, .ref (ad 5)), (1, .int w252_1), (2, .int w252_2)] → W p l e (rmD 3 0 0) s m [.ref (ad 5)].toArray below meth c H locs 0 0 (MQ below (QV D K (fun (u : tSt) => okX u ∧ frA [(5, 9), (5, 16)] [] [10, 42, 43, 50] [25] t u) (fun (u : tSt) => (WX d) K ad u) A) [.ref (ad 5)].toArray s 0 0 A) (F0 m 252 ls []) := by
        intro t1 w252_1 w252_2 H locs ls hok hfr hw252_1 hw252_2 hf252_12 hm252_189 hP hD hS hl
        have h_6 : (t1.1 23 3).toInt = (t.1 23 3).toInt := ti_eq (hfr.1 23 3 rfl)
        have h_7 : (0 : Int) ≤ (t1.1 23 3).toInt ∧ (t1.1 23 3).toInt ≤ 1024 := hok.1 23 3
        obtain ⟨v_8, e_9⟩ : ∃ z, z = w252_1 + 1 := ⟨_, rfl⟩
        have h_10 : v_8.toInt = w252_1.toInt + 1 := by rw [e_9]; exact ti_iadd (by show (_ : Int) ≤ w252_1.toInt + 1; omega) (by show w252_1.toInt + 1 < (_ : Int); omega)
        refine lv_iinc (v := v_8) (lv' := [(1, .int v_8), (0, .ref (ad 5)), (2, .int w252_2)]) C.1 C.2.1 dX0_layComing_252 hl (k := 1) rfl e_9.symm (by decide) rfl (fun ls hl => ?_)
        have hl : lv_has ls 5 [(0, .ref (ad 5)), (1, .int v_8), (2, .int w252_2)] := lv_sub hl [1, 0, 2] rfl
        refine lv_goto (tgt := 189) C.1 C.2.1 dX0_layComing_255 (by decide) ?_
        exact ih_189 t1 v_8 _ _ _ hok hfr ⟨by omega, by omega⟩ (show (512 : Int) - v_8.toInt < (fuel_189 : Int) from by omega) hP hD hS (lv_sub hl [0, 1] rfl)
      refine lv_iload_n C.1 C.2.1 dX0_layComing_189 rfl (lv_at hl 1 rfl) ?_
      refine lv_aload_n C.1 C.2.1 dX0_layComing_190 rfl (lv_at hl 0 rfl) ?_
      refine k_get (v := .ref (ad 23)) C hP 5 rfl rfl inlX0 2 (by decide) m_5_19 rfl dX0_layComing_191 ?_
      have h_11 : (0 : Int) ≤ (t1.1 23 12).toInt ∧ (t1.1 23 12).toInt ≤ 512 := hok.1 23 12
      refine k_get (v := .int (t1.1 23 12)) C hP 23 rfl rfl inlX8 12 (by decide) m_27_3 rfl dX0_layComing_194 ?_
      refine lv_icmp_ge (tgt := 258) C.1 C.2.1 dX0_layComing_197 (by decide) (fun c_12 => ?_) (fun c_12 => ?_)
      · replace c_12 : (t1.1 23 12).toInt ≤ w189_1.toInt := i_le c_12
        exact g_vret C hr hlocks hP hD hS t1 rfl ⟨hok, hfr⟩ (Nat.le_of_ble_eq_true rfl) (Nat.le_of_ble_eq_true rfl) dX0_layComing_258
      · replace c_12 : w189_1.toInt < (t1.1 23 12).toInt := i_nle c_12
        refine lv_aload_n C.1 C.2.1 dX0_layComing_200 rfl (lv_at hl 0 rfl) ?_
        refine k_get (v := .ref (ad 23)) C hP 5 rfl rfl inlX0 2 (by decide) m_5_19 rfl dX0_layComing_201 ?_
        refine k_get (v := .ref (ad 48)) C hP 23 rfl rfl inlX8 9 (by decide) m_28_0 rfl dX0_layComing_204 ?_
        refine lv_iload_n C.1 C.2.1 dX0_layComing_207 rfl (lv_at hl 1 rfl) ?_
        obtain ⟨v_13, e_14⟩ : ∃ z, z = (t1.2.2.1 48 (w189_1 : Int32).toNatClampNeg) := ⟨_, rfl⟩
        have h_15 : (-1073741824 : Int) ≤ v_13.toInt ∧ v_13.toInt ≤ 3999 := by rw [e_14]; exact hok.2.1 48 _
        refine k_ild (v := v_13) C hP 48 rfl (vp_in_iff.mpr ⟨by omega, by omega⟩) e_14.symm dX0_layComing_208 ?_
        refine lv_sipush (v := 3999) C.1 C.2.1 dX0_layComing_209 (by decide) ?_
        obtain ⟨v_16, e_17⟩ : ∃ z, z = (v_13 : Int32) + (3999 : Int32) := ⟨_, rfl⟩
        have h_18 : v_16.toInt = v_13.toInt + 3999 := by rw [e_17]; exact ti_iadd (by show (_ : Int) ≤ v_13.toInt + 3999; omega) (by show v_13.toInt + 3999 < (_ : Int); omega)
        refine k_iadd (v := v_16) C e_17.symm dX0_layComing_212 ?_
        refine lv_istore_n (lv' := [(2, .int v_16), (0, .ref (ad 5)), (1, .int w189_1)]) C.1 C.2.1 dX0_layComing_213 rfl hl (by decide) rfl (fun ls hl => ?_)
        have hl : lv_has ls 5 [(0, .ref (ad 5)), (1, .int w189_1), (2, .int v_16)] := lv_sub hl [1, 2, 0] rfl
        refine lv_iload_n C.1 C.2.1 dX0_layComing_214 rfl (lv_at hl 2 rfl) ?_
        refine lv_if_lt (tgt := 252) C.1 C.2.1 dX0_layComing_215 (by decide) (fun c_19 => ?_) (fun c_19 => ?_)
        · replace c_19 : v_16.toInt < 0 := i_lt c_19
          exact L_252 t1 w189_1 v_16 _ _ _ hok hfr ⟨by omega, by omega⟩ ⟨by omega, by omega⟩ (show (1 : Int) ≤ ((t1.1 23 12) : Int32).toInt ∧ ((t1.1 23 12) : Int32).toInt ≤ 512 from ⟨by omega, by omega⟩) (show (512 : Int) - w189_1.toInt < (fuel_189 : Int) + 1 from by omega) hP hD hS (lv_sub hl [0, 1, 2] rfl)
        · replace c_19 : 0 ≤ v_16.toInt := i_nlt c_19
          refine lv_iload_n C.1 C.2.1 dX0_layComing_218 rfl (lv_at hl 2 rfl) ?_
          refine lv_aload_n C.1 C.2.1 dX0_layComing_219 rfl (lv_at hl 0 rfl) ?_
          refine k_get (v := .ref (ad 10)) C hP 5 rfl rfl inlX0 1 (by decide) m_5_18 rfl dX0_layComing_220 ?_
          refine k_len (v := 7999) C hP 10 0 rfl rfl rfl dX0_layComing_223 ?_
          refine lv_icmp_ge (tgt := 252) C.1 C.2.1 dX0_layComing_224 (by decide) (fun c_20 => False.elim (by have c_20 : 7999 ≤ v_16.toInt := i_le c_20; omega)) (fun c_20 => ?_)
          replace c_20 : v_16.toInt < 7999 := i_nle c_20
          refine lv_aload_n C.1 C.2.1 dX0_layComing_227 rfl (lv_at hl 0 rfl) ?_
          refine k_get (v := .ref (ad 10)) C hP 5 rfl rfl inlX0 1 (by decide) m_5_18 rfl dX0_layComing_228 ?_
          refine lv_iload_n C.1 C.2.1 dX0_layComing_231 rfl (lv_at hl 2 rfl) ?_
          refine lv_aload_n C.1 C.2.1 dX0_layComing_232 rfl (lv_at hl 0 rfl) ?_
          refine k_get (v := .ref (ad 10)) C hP 5 rfl rfl inlX0 1 (by decide) m_5_18 rfl dX0_layComing_233 ?_
          refine lv_iload_n C.1 C.2.1 dX0_layComing_236 rfl (lv_at hl 2 rfl) ?_
          obtain ⟨v_21, e_22⟩ : ∃ z, z = (t1.2.2.1 10 (v_16 : Int32).toNatClampNeg) := ⟨_, rfl⟩
          refine k_ild (v := v_21) C hP 10 rfl (vp_in_iff.mpr ⟨by omega, by omega⟩) e_22.symm dX0_layComing_237 ?_
          refine lv_iconst (v := 2) C.1 C.2.1 dX0_layComing_238 (by decide) ?_
          refine lv_aload_n C.1 C.2.1 dX0_layComing_239 rfl (lv_at hl 0 rfl) ?_
          refine k_get (v := .ref (ad 23)) C hP 5 rfl rfl inlX0 2 (by decide) m_5_19 rfl dX0_layComing_240 ?_
          refine k_get (v := .ref (ad 50)) C hP 23 rfl rfl inlX8 11 (by decide) m_27_17 rfl dX0_layComing_243 ?_
          refine lv_iload_n C.1 C.2.1 dX0_layComing_246 rfl (lv_at hl 1 rfl) ?_
          obtain ⟨v_23, e_24⟩ : ∃ z, z = (t1.2.2.1 50 (w189_1 : Int32).toNatClampNeg) := ⟨_, rfl⟩
          refine k_ild (v := v_23) C hP 50 rfl (vp_in_iff.mpr ⟨by omega, by omega⟩) e_24.symm dX0_layComing_247 ?_
          refine g_Si (As := [.int v_21, .int 2, .int v_23]) (rest := [.int v_16, .ref (ad 10)]) C hP hD hS hA (T_X1_stored l D K Z Y ad d t1 hok (v_21) 2 (show (-1073741824 : Int) ≤ (2 : Int32).toInt ∧ (2 : Int32).toInt ≤ 1073741823 from ⟨by decide, by decide⟩) (v_23)) hE hZ (uwS m_28_1 m_24_3 m_14_2 m_24_4) (hdS 3 (by decide +kernel) rfl) ⟨Nat.le_of_ble_eq_true rfl, Nat.le_of_ble_eq_true rfl⟩ rfl rfl rfl hl.1 (Nat.le_of_ble_eq_true rfl) dX0_layComing_248 ⟨Nat.le_of_ble_eq_true rfl, Nat.le_of_ble_eq_true rfl⟩ (fun r_26 t_25 H locs hw hP hD hS => ?_)
          obtain ⟨h_28, h_29⟩ := hw
          refine k_ist (ws' := (WX d) K ad (uB t1 10 (v_16 : Int32).toNatClampNeg r_26)) (x' := r_26) C hP hD hS 10 rfl (vp_in_iff.mpr ⟨by omega, by omega⟩) rfl rfl rfl dX0_layComing_251 (fun H locs hP hD hS => ?_)
          have hok : okX (uB t1 10 (v_16 : Int32).toNatClampNeg r_26) := ⟨hok.1, okB_B hok.2.1 10 _ r_26 (show (-2147483648 : Int) ≤ (r_26 : Int32).toInt ∧ (r_26 : Int32).toInt ≤ 2147483647 from (i_rng _)), trivial⟩
          have hfr : frA [(5, 9), (5, 16)] [] [10, 42, 43, 50] [25] t (uB t1 10 (v_16 : Int32).toNatClampNeg r_26) := frA_B hfr 10 _ _ rfl
          exact L_252 (uB t1 10 (v_16 : Int32).toNatClampNeg r_26) w189_1 v_16 _ _ _ hok hfr ⟨by omega, by omega⟩ ⟨by omega, by omega⟩ (show (1 : Int) ≤ ((t1.1 23 12) : Int32).toInt ∧ ((t1.1 23 12) : Int32).toInt ≤ 512 from ⟨by omega, by omega⟩) (show (512 : Int) - w189_1.toInt < (fuel_189 : Int) + 1 from by omega) hP hD hS (lv_sub hl [0, 1, 2] rfl)
  have L_2 : ∀ (fuel_2 : Nat) (t1 : tSt) (w2_1 : Int32) (H : Heap) (locs : List Loc) (ls : Array Slot), okX t1 → frA [(5, 9), (5, 16)] [] [10, 42, 43, 50] [25] t t1 → (0 : Int) ≤ w2_1.toInt ∧ w2_1.toInt ≤ 512 → (512 : Int) - w2_1.toInt < (fuel_2 : Int) → va_P D vwCl ((WX d) K ad t1) H → va_D A ((WX d) K ad t1) → va_S A s.heap H locs → lv_has ls 5 [(0, .ref (ad 5)), (1, .int w2_1)] → W p l e (rmD 3 0 0) s m [.ref (ad 5)].toArray below meth c H locs 0 0 (MQ below (QV D K (fun (u : tSt) => okX u ∧ frA [(5, 9), (5, 16)] [] [10, 42, 43, 50] [25] t u) (fun (u : tSt) => (WX d) K ad u) A) [.ref (ad 5)].toArray s 0 0 A) (F0 m 2 ls []) := by
    intro fuel_2
    induction fuel_2 with
    | zero =>
      intro t1 w2_1 H locs ls hok hfr hw2_1 hm2_2 hP hD hS hl
      have h_30 : (t1.1 23 3).toInt = (t.1 23 3).toInt := ti_eq (hfr.1 23 3 rfl)
      have h_31 : (0 : Int) ≤ (t1.1 23 3).toInt ∧ (t1.1 23 3).toInt ≤ 1024 := hok.1 23 3
      exact absurd hm2_2 (by omega)
    | succ fuel_2 ih_2 =>
      intro t1 w2_1 H locs ls hok hfr hw2_1 hm2_2 hP hD hS hl
      have hm2_2 : (512 : Int) - w2_1.toInt < (fuel_2 : Int) + 1 := by omega
      have h_32 : (t1.1 23 3).toInt = (t.1 23 3).toInt := ti_eq (hfr.1 23 3 rfl)
      have h_33 : (0 : Int) ≤ (t1.1 23 3).toInt ∧ (t1.1 23 3).toInt ≤ 1024 := hok.1 23 3
      have L_181 : ∀ (t1 : tSt) (w181_1 : Int32) (w181_2 : Int32) (w181_3 : Int32) (w181_4 : Int32) (H : Heap) (locs : List Loc) (ls : Array Slot), okX t1 → frA [(5, 9), (5, 16)] [] [10, 42, 43, 50] [25] t t1 → (0 : Int) ≤ w181_1.toInt ∧ w181_1.toInt ≤ 511 → (-128 : Int) ≤ w181_2.toInt ∧ w181_2.toInt ≤ 2147483647 → (0 : Int) ≤ w181_4.toInt ∧ w181_4.toInt ≤ 2147483647 → (1 : Int) ≤ (t1.1 23 12).toInt ∧ (t1.1 23 12).toInt ≤ 512 → (512 : Int) - w181_1.toInt < (fuel_2 : Int) + 1 → va_P D vwCl ((WX d) K ad t1) H → va_D A ((WX d) K ad t1) → va_S A s.heap H locs → lv_has ls 5 [(0, .ref (ad 5)), (1, .int w181_1), (2, .int w181_2), (3, .int w181_3), (4, .int w181_4)] → W p l e (rmD 3 0 0) s m [.ref (ad 5)].toArray below meth c H locs 0 0 (MQ below (QV D K (fun (u : tSt) => okX u ∧ frA [(5, 9), (5, 16)] [] [10, 42, 43, 50] [25] t u) (fun (u : tSt) => (WX d) K ad u) A) [.ref (ad 5)].toArray s 0 0 A) (F0 m 181 ls []) := by
        intro t1 w181_1 w181_2 w181_3 w181_4 H locs ls hok hfr hw181_1 hw181_2 hw181_4 hf181_12 hm181_2 hP hD hS hl
        have h_34 : (t1.1 23 3).toInt = (t.1 23 3).toInt := ti_eq (hfr.1 23 3 rfl)
        have h_35 : (0 : Int) ≤ (t1.1 23 3).toInt ∧ (t1.1 23 3).toInt ≤ 1024 := hok.1 23 3
        obtain ⟨v_36, e_37⟩ : ∃ z, z = w181_1 + 1 := ⟨_, rfl⟩
        have h_38 : v_36.toInt = w181_1.toInt + 1 := by rw [e_37]; exact ti_iadd (by show (_ : Int) ≤ w181_1.toInt + 1; omega) (by show w181_1.toInt + 1 < (_ : Int); omega)
        refine lv_iinc (v := v_36) (lv' := [(1, .int v_36), (0, .ref (ad 5)), (2, .int w181_2), (3, .int w181_3), (4, .int w181_4)]) C.1 C.2.1 dX0_layComing_181 hl (k := 1) rfl e_37.symm (by decide) rfl (fun ls hl => ?_)
        have hl : lv_has ls 5 [(0, .ref (ad 5)), (1, .int v_36), (2, .int w181_2), (3, .int w181_3), (4, .int w181_4)] := lv_sub hl [1, 0, 2, 3, 4] rfl
        refine lv_goto (tgt := 2) C.1 C.2.1 dX0_layComing_184 (by decide) ?_
        exact ih_2 t1 v_36 _ _ _ hok hfr ⟨by omega, by omega⟩ (show (512 : Int) - v_36.toInt < (fuel_2 : Int) from by omega) hP hD hS (lv_sub hl [0, 1] rfl)
      have L_162 : ∀ (t1 : tSt) (w162_1 : Int32) (w162_2 : Int32) (w162_3 : Int32) (w162_4 : Int32) (H : Heap) (locs : List Loc) (ls : Array Slot), okX t1 → frA [(5, 9), (5, 16)] [] [10, 42, 43, 50] [25] t t1 → (0 : Int) ≤ w162_1.toInt ∧ w162_1.toInt ≤ 511 → (-128 : Int) ≤ w162_2.toInt ∧ w162_2.toInt ≤ 2147483647 → (0 : Int) ≤ w162_3.toInt ∧ w162_3.toInt ≤ 9 → (0 : Int) ≤ w162_4.toInt ∧ w162_4.toInt ≤ 2147483647 → (1 : Int) ≤ (t1.1 23 12).toInt ∧ (t1.1 23 12).toInt ≤ 512 → (512 : Int) - w162_1.toInt < (fuel_2 : Int) + 1 → va_P D vwCl ((WX d) K ad t1) H → va_D A ((WX d) K ad t1) → va_S A s.heap H locs → lv_has ls 5 [(0, .ref (ad 5)), (1, .int w162_1), (2, .int w162_2), (3, .int w162_3), (4, .int w162_4)] → W p l e (rmD 3 0 0) s m [.ref (ad 5)].toArray below meth c H locs 0 0 (MQ below (QV D K (fun (u : tSt) => okX u ∧ frA [(5, 9), (5, 16)] [] [10, 42, 43, 50] [25] t u) (fun (u : tSt) => (WX d) K ad u) A) [.ref (ad 5)].toArray s 0 0 A) (F0 m 162 ls []) := by
        intro t1 w162_1 w162_2 w162_3 w162_4 H locs ls hok hfr hw162_1 hw162_2 hw162_3 hw162_4 hf162_12 hm162_2 hP hD hS hl
        have h_39 : (t1.1 23 3).toInt = (t.1 23 3).toInt := ti_eq (hfr.1 23 3 rfl)
        have h_40 : (0 : Int) ≤ (t1.1 23 3).toInt ∧ (t1.1 23 3).toInt ≤ 1024 := hok.1 23 3
        refine lv_aload_n C.1 C.2.1 dX0_layComing_162 rfl (lv_at hl 0 rfl) ?_
        refine k_get (v := .ref (ad 23)) C hP 5 rfl rfl inlX0 2 (by decide) m_5_19 rfl dX0_layComing_163 ?_
        refine k_get (v := .ref (ad 50)) C hP 23 rfl rfl inlX8 11 (by decide) m_27_17 rfl dX0_layComing_166 ?_
        refine lv_iload_n C.1 C.2.1 dX0_layComing_169 rfl (lv_at hl 1 rfl) ?_
        refine lv_aload_n C.1 C.2.1 dX0_layComing_170 rfl (lv_at hl 0 rfl) ?_
        refine k_get (v := .ref (ad 28)) C hP 5 rfl rfl inlX0 8 (by decide) m_5_16 rfl dX0_layComing_171 ?_
        refine lv_iload_n C.1 C.2.1 dX0_layComing_174 rfl (lv_at hl 3 rfl) ?_
        obtain ⟨v_41, e_42⟩ : ∃ z, z = (t1.2.2.1 28 (w162_3 : Int32).toNatClampNeg) := ⟨_, rfl⟩
        refine k_ild (v := v_41) C hP 28 rfl (vp_in_iff.mpr ⟨by omega, by omega⟩) e_42.symm dX0_layComing_175 ?_
        obtain ⟨v_43, e_44⟩ : ∃ z, z = (v_41 : Int32).toInt64 := ⟨_, rfl⟩
        have h_45 : v_43.toInt = v_41.toInt := by rw [e_44]; exact Jvm.Kit.i64_of_i32 _
        have h_46 := i_rng v_41
        refine lv_i2l (v := v_43) C.1 C.2.1 dX0_layComing_176 e_44.symm ?_
        refine g_Si (As := [.long v_43]) (rest := [.int w162_1, .ref (ad 50)]) C hP hD hS hA (T_X1_wordOf l D K Z Y ad d t1 hok (v_43)) hE hZ (uwS m_25_10 m_22_11 m_14_2 m_22_12) (hdS 1 (by decide +kernel) rfl) ⟨Nat.le_of_ble_eq_true rfl, Nat.le_of_ble_eq_true rfl⟩ rfl rfl rfl hl.1 (Nat.le_of_ble_eq_true rfl) dX0_layComing_177 ⟨Nat.le_of_ble_eq_true rfl, Nat.le_of_ble_eq_true rfl⟩ (fun r_48 t_47 H locs hw hP hD hS => ?_)
        obtain ⟨h_50, h_51⟩ := hw
        refine k_ist (ws' := (WX d) K ad (uB t1 50 (w162_1 : Int32).toNatClampNeg r_48)) (x' := r_48) C hP hD hS 50 rfl (vp_in_iff.mpr ⟨by omega, by omega⟩) rfl rfl rfl dX0_layComing_180 (fun H locs hP hD hS => ?_)
        have hok : okX (uB t1 50 (w162_1 : Int32).toNatClampNeg r_48) := ⟨hok.1, okB_B hok.2.1 50 _ r_48 (show (-2147483648 : Int) ≤ (r_48 : Int32).toInt ∧ (r_48 : Int32).toInt ≤ 2147483647 from (i_rng _)), trivial⟩
        have hfr : frA [(5, 9), (5, 16)] [] [10, 42, 43, 50] [25] t (uB t1 50 (w162_1 : Int32).toNatClampNeg r_48) := frA_B hfr 50 _ _ rfl
        exact L_181 (uB t1 50 (w162_1 : Int32).toNatClampNeg r_48) w162_1 w162_2 w162_3 w162_4 _ _ _ hok hfr ⟨by omega, by omega⟩ ⟨by omega, (i_rng _).2⟩ ⟨by omega, (i_rng _).2⟩ (show (1 : Int) ≤ ((t1.1 23 12) : Int32).toInt ∧ ((t1.1 23 12) : Int32).toInt ≤ 512 from ⟨by omega, by omega⟩) (show (512 : Int) - w162_1.toInt < (fuel_2 : Int) + 1 from by omega) hP hD hS (lv_sub hl [0, 1, 2, 3, 4] rfl)
      have L_134 : ∀ (t1 : tSt) (w134_1 : Int32) (w134_2 : Int32) (w134_3 : Int32) (w134_4 : Int32) (H : Heap) (locs : List Loc) (ls : Array Slot), okX t1 → frA [(5, 9), (5, 16)] [] [10, 42, 43, 50] [25] t t1 → (0 : Int) ≤ w134_1.toInt ∧ w134_1.toInt ≤ 511 → (-128 : Int) ≤ w134_2.toInt ∧ w134_2.toInt ≤ 2147483647 → (0 : Int) ≤ w134_4.toInt ∧ w134_4.toInt ≤ 2147483647 → (1 : Int) ≤ (t1.1 23 12).toInt ∧ (t1.1 23 12).toInt ≤ 512 → (512 : Int) - w134_1.toInt < (fuel_2 : Int) + 1 → va_P D vwCl ((WX d) K ad t1) H → va_D A ((WX d) K ad t1) → va_S A s.heap H locs → lv_has ls 5 [(0, .ref (ad 5)), (1, .int w134_1), (2, .int w134_2), (3, .int w134_3), (4, .int w134_4)] → W p l e (rmD 3 0 0) s m [.ref (ad 5)].toArray below meth c H locs 0 0 (MQ below (QV D K (fun (u : tSt) => okX u ∧ frA [(5, 9), (5, 16)] [] [10, 42, 43, 50] [25] t u) (fun (u : tSt) => (WX d) K ad u) A) [.ref (ad 5)].toArray s 0 0 A) (F0 m 134 ls []) := by
        intro t1 w134_1 w134_2 w134_3 w134_4 H locs ls hok hfr hw134_1 hw134_2 hw134_4 hf134_12 hm134_2 hP hD hS hl
        have h_52 : (t1.1 23 3).toInt = (t.1 23 3).toInt := ti_eq (hfr.1 23 3 rfl)
        have h_53 : (0 : Int) ≤ (t1.1 23 3).toInt ∧ (t1.1 23 3).toInt ≤ 1024 := hok.1 23 3
        refine lv_iload_n C.1 C.2.1 dX0_layComing_134 rfl (lv_at hl 3 rfl) ?_
        refine lv_if_lt (tgt := 181) C.1 C.2.1 dX0_layComing_135 (by decide) (fun c_54 => ?_) (fun c_54 => ?_)
        · replace c_54 : w134_3.toInt < 0 := i_lt c_54
          exact L_181 t1 w134_1 w134_2 w134_3 w134_4 _ _ _ hok hfr ⟨by omega, by omega⟩ ⟨by omega, (i_rng _).2⟩ ⟨by omega, (i_rng _).2⟩ (show (1 : Int) ≤ ((t1.1 23 12) : Int32).toInt ∧ ((t1.1 23 12) : Int32).toInt ≤ 512 from ⟨by omega, by omega⟩) (show (512 : Int) - w134_1.toInt < (fuel_2 : Int) + 1 from by omega) hP hD hS (lv_sub hl [0, 1, 2, 3, 4] rfl)
        · replace c_54 : 0 ≤ w134_3.toInt := i_nlt c_54
          refine lv_iload_n C.1 C.2.1 dX0_layComing_138 rfl (lv_at hl 3 rfl) ?_
          refine lv_bipush (v := 10) C.1 C.2.1 dX0_layComing_139 (by decide) ?_
          refine lv_icmp_ge (tgt := 181) C.1 C.2.1 dX0_layComing_141 (by decide) (fun c_55 => ?_) (fun c_55 => ?_)
          · replace c_55 : 10 ≤ w134_3.toInt := i_le c_55
            exact L_181 t1 w134_1 w134_2 w134_3 w134_4 _ _ _ hok hfr ⟨by omega, by omega⟩ ⟨by omega, (i_rng _).2⟩ ⟨by omega, (i_rng _).2⟩ (show (1 : Int) ≤ ((t1.1 23 12) : Int32).toInt ∧ ((t1.1 23 12) : Int32).toInt ≤ 512 from ⟨by omega, by omega⟩) (show (512 : Int) - w134_1.toInt < (fuel_2 : Int) + 1 from by omega) hP hD hS (lv_sub hl [0, 1, 2, 3, 4] rfl)
          · replace c_55 : w134_3.toInt < 10 := i_nle c_55
            refine lv_aload_n C.1 C.2.1 dX0_layComing_144 rfl (lv_at hl 0 rfl) ?_
            refine k_get (v := .ref (ad 28)) C hP 5 rfl rfl inlX0 8 (by decide) m_5_16 rfl dX0_layComing_145 ?_
            refine lv_iload_n C.1 C.2.1 dX0_layComing_148 rfl (lv_at hl 3 rfl) ?_
            obtain ⟨v_56, e_57⟩ : ∃ z, z = (t1.2.2.1 28 (w134_3 : Int32).toNatClampNeg) := ⟨_, rfl⟩
            refine k_ild (v := v_56) C hP 28 rfl (vp_in_iff.mpr ⟨by omega, by omega⟩) e_57.symm dX0_layComing_149 ?_
            refine lv_aload_n C.1 C.2.1 dX0_layComing_150 rfl (lv_at hl 0 rfl) ?_
            have h_58 : (-1073741824 : Int) ≤ (t1.1 5 9).toInt ∧ (t1.1 5 9).toInt ≤ 1073741824 := hok.1 5 9
            refine k_get (v := .int (t1.1 5 9)) C hP 5 rfl rfl inlX0 9 (by decide) m_12_3 rfl dX0_layComing_151 ?_
            refine lv_icmp_ne (tgt := 162) C.1 C.2.1 dX0_layComing_154 (by decide) (fun c_59 => ?_) (fun c_59 => ?_)
            · replace c_59 : ¬ v_56.toInt = (t1.1 5 9).toInt := i_ne c_59
              exact L_162 t1 w134_1 w134_2 w134_3 w134_4 _ _ _ hok hfr ⟨by omega, by omega⟩ ⟨by omega, (i_rng _).2⟩ ⟨by omega, by omega⟩ ⟨by omega, (i_rng _).2⟩ (show (1 : Int) ≤ ((t1.1 23 12) : Int32).toInt ∧ ((t1.1 23 12) : Int32).toInt ≤ 512 from ⟨by omega, by omega⟩) (show (512 : Int) - w134_1.toInt < (fuel_2 : Int) + 1 from by omega) hP hD hS (lv_sub hl [0, 1, 2, 3, 4] rfl)
            · replace c_59 : v_56.toInt = (t1.1 5 9).toInt := i_eq c_59
              refine lv_aload_n C.1 C.2.1 dX0_layComing_157 rfl (lv_at hl 0 rfl) ?_
              refine lv_iconst (v := 0) C.1 C.2.1 dX0_layComing_158 (by decide) ?_
              refine g_Vv (As := [.int 0]) (rest := []) C hP hD hS hA (T_X0_lay l D K Z Y ad d t1 hok 0) hE hZ (uwV m_26_14 m_26_15 m_26_16 m_2_2 m_26_17) (hdV 1 (by decide +kernel) rfl) ⟨Nat.le_of_ble_eq_true rfl, Nat.le_of_ble_eq_true rfl⟩ rfl rfl (ci := 0) (q0 := 5) rfl rfl rfl hl.1 (Nat.le_of_ble_eq_true rfl) dX0_layComing_159 ⟨Nat.le_of_ble_eq_true rfl, Nat.le_of_ble_eq_true rfl⟩ (fun t_60 H locs hw hP hD hS => ?_)
              obtain ⟨hok, f_62⟩ := hw
              have hfr : frA [(5, 9), (5, 16)] [] [10, 42, 43, 50] [25] t t_60 := frA_tr hfr f_62 rfl
              have h_63 : (t_60.1 23 12).toInt = (t1.1 23 12).toInt := ti_eq (f_62.1 23 12 rfl)
              have h_64 : (t_60.1 23 3).toInt = (t1.1 23 3).toInt := ti_eq (f_62.1 23 3 rfl)
              have h_65 : (0 : Int) ≤ (t_60.1 23 3).toInt ∧ (t_60.1 23 3).toInt ≤ 1024 := hok.1 23 3
              exact L_162 t_60 w134_1 w134_2 w134_3 w134_4 _ _ _ hok hfr ⟨by omega, by omega⟩ ⟨by omega, (i_rng _).2⟩ ⟨by omega, by omega⟩ ⟨by omega, (i_rng _).2⟩ (show (1 : Int) ≤ ((t_60.1 23 12) : Int32).toInt ∧ ((t_60.1 23 12) : Int32).toInt ≤ 512 from ⟨by omega, by omega⟩) (show (512 : Int) - w134_1.toInt < (fuel_2 : Int) + 1 from by omega) hP hD hS (lv_sub hl [0, 1, 2, 3, 4] rfl)
      have L_113 : ∀ (t1 : tSt) (w113_1 : Int32) (w113_2 : Int32) (w113_3 : Int32) (w113_4 : Int32) (H : Heap) (locs : List Loc) (ls : Array Slot), okX t1 → frA [(5, 9), (5, 16)] [] [10, 42, 43, 50] [25] t t1 → (0 : Int) ≤ w113_1.toInt ∧ w113_1.toInt ≤ 511 → (0 : Int) ≤ w113_2.toInt ∧ w113_2.toInt ≤ 1023 → (0 : Int) ≤ w113_4.toInt ∧ w113_4.toInt ≤ 2147483647 → (1 : Int) ≤ (t1.1 23 12).toInt ∧ (t1.1 23 12).toInt ≤ 512 → (1 : Int) ≤ (t1.1 23 3).toInt ∧ (t1.1 23 3).toInt ≤ 1024 → (512 : Int) - w113_1.toInt < (fuel_2 : Int) + 1 → va_P D vwCl ((WX d) K ad t1) H → va_D A ((WX d) K ad t1) → va_S A s.heap H locs → lv_has ls 5 [(0, .ref (ad 5)), (1, .int w113_1), (2, .int w113_2), (3, .int w113_3), (4, .int w113_4)] → W p l e (rmD 3 0 0) s m [.ref (ad 5)].toArray below meth c H locs 0 0 (MQ below (QV D K (fun (u : tSt) => okX u ∧ frA [(5, 9), (5, 16)] [] [10, 42, 43, 50] [25] t u) (fun (u : tSt) => (WX d) K ad u) A) [.ref (ad 5)].toArray s 0 0 A) (F0 m 113 ls []) := by
        intro t1 w113_1 w113_2 w113_3 w113_4 H locs ls hok hfr hw113_1 hw113_2 hw113_4 hf113_12 hf113_3 hm113_2 hP hD hS hl
        have h_66 : (t1.1 23 3).toInt = (t.1 23 3).toInt := ti_eq (hfr.1 23 3 rfl)
        refine lv_aload_n C.1 C.2.1 dX0_layComing_113 rfl (lv_at hl 0 rfl) ?_
        refine k_get (v := .ref (ad 23)) C hP 5 rfl rfl inlX0 2 (by decide) m_5_19 rfl dX0_layComing_114 ?_
        refine k_get (v := .ref (ad 50)) C hP 23 rfl rfl inlX8 11 (by decide) m_27_17 rfl dX0_layComing_117 ?_
        refine lv_iload_n C.1 C.2.1 dX0_layComing_120 rfl (lv_at hl 1 rfl) ?_
        refine lv_aload_n C.1 C.2.1 dX0_layComing_121 rfl (lv_at hl 0 rfl) ?_
        refine k_get (v := .ref (ad 23)) C hP 5 rfl rfl inlX0 2 (by decide) m_5_19 rfl dX0_layComing_122 ?_
        refine k_get (v := .ref (ad 42)) C hP 23 rfl rfl inlX8 1 (by decide) m_27_18 rfl dX0_layComing_125 ?_
        refine lv_iload_n C.1 C.2.1 dX0_layComing_128 rfl (lv_at hl 2 rfl) ?_
        obtain ⟨v_67, e_68⟩ : ∃ z, z = (t1.2.2.1 42 (w113_2 : Int32).toNatClampNeg) := ⟨_, rfl⟩
        refine k_ild (v := v_67) C hP 42 rfl (vp_in_iff.mpr ⟨by omega, by omega⟩) e_68.symm dX0_layComing_129 ?_
        refine k_ist (ws' := (WX d) K ad (uB t1 50 (w113_1 : Int32).toNatClampNeg v_67)) (x' := v_67) C hP hD hS 50 rfl (vp_in_iff.mpr ⟨by omega, by omega⟩) rfl rfl rfl dX0_layComing_130 (fun H locs hP hD hS => ?_)
        have hok : okX (uB t1 50 (w113_1 : Int32).toNatClampNeg v_67) := ⟨hok.1, okB_B hok.2.1 50 _ v_67 (show (-2147483648 : Int) ≤ (v_67 : Int32).toInt ∧ (v_67 : Int32).toInt ≤ 2147483647 from (i_rng _)), trivial⟩
        have hfr : frA [(5, 9), (5, 16)] [] [10, 42, 43, 50] [25] t (uB t1 50 (w113_1 : Int32).toNatClampNeg v_67) := frA_B hfr 50 _ _ rfl
        refine lv_goto (tgt := 181) C.1 C.2.1 dX0_layComing_131 (by decide) ?_
        exact L_181 (uB t1 50 (w113_1 : Int32).toNatClampNeg v_67) w113_1 w113_2 w113_3 w113_4 _ _ _ hok hfr ⟨by omega, by omega⟩ ⟨by omega, (i_rng _).2⟩ ⟨by omega, (i_rng _).2⟩ (show (1 : Int) ≤ ((t1.1 23 12) : Int32).toInt ∧ ((t1.1 23 12) : Int32).toInt ≤ 512 from ⟨by omega, by omega⟩) (show (512 : Int) - w113_1.toInt < (fuel_2 : Int) + 1 from by omega) hP hD hS (lv_sub hl [0, 1, 2, 3, 4] rfl)
      refine lv_iload_n C.1 C.2.1 dX0_layComing_2 rfl (lv_at hl 1 rfl) ?_
      refine lv_aload_n C.1 C.2.1 dX0_layComing_3 rfl (lv_at hl 0 rfl) ?_
      refine k_get (v := .ref (ad 23)) C hP 5 rfl rfl inlX0 2 (by decide) m_5_19 rfl dX0_layComing_4 ?_
      have h_69 : (0 : Int) ≤ (t1.1 23 12).toInt ∧ (t1.1 23 12).toInt ≤ 512 := hok.1 23 12
      refine k_get (v := .int (t1.1 23 12)) C hP 23 rfl rfl inlX8 12 (by decide) m_27_3 rfl dX0_layComing_7 ?_
      refine lv_icmp_ge (tgt := 187) C.1 C.2.1 dX0_layComing_10 (by decide) (fun c_70 => ?_) (fun c_70 => ?_)
      · replace c_70 : (t1.1 23 12).toInt ≤ w2_1.toInt := i_le c_70
        refine lv_iconst (v := 0) C.1 C.2.1 dX0_layComing_187 (by decide) ?_
        refine lv_istore_n (lv' := [(1, .int 0), (0, .ref (ad 5))]) C.1 C.2.1 dX0_layComing_188 rfl hl (by decide) rfl (fun ls hl => ?_)
        have hl : lv_has ls 5 [(0, .ref (ad 5)), (1, .int 0)] := lv_sub hl [1, 0] rfl
        exact L_189 513 t1 0 _ _ _ hok hfr ⟨by decide, by decide⟩ (show (512 : Int) - 0 < ((513 : Nat) : Int) from by omega) hP hD hS (lv_sub hl [0, 1] rfl)
      · replace c_70 : w2_1.toInt < (t1.1 23 12).toInt := i_nle c_70
        refine lv_aload_n C.1 C.2.1 dX0_layComing_13 rfl (lv_at hl 0 rfl) ?_
        refine k_get (v := .ref (ad 23)) C hP 5 rfl rfl inlX0 2 (by decide) m_5_19 rfl dX0_layComing_14 ?_
        refine k_get (v := .ref (ad 49)) C hP 23 rfl rfl inlX8 10 (by decide) m_27_4 rfl dX0_layComing_17 ?_
        refine lv_iload_n C.1 C.2.1 dX0_layComing_20 rfl (lv_at hl 1 rfl) ?_
        obtain ⟨v_71, e_72⟩ : ∃ z, z = (t1.2.2.1 49 (w2_1 : Int32).toNatClampNeg) := ⟨_, rfl⟩
        have h_73 : (-128 : Int) ≤ v_71.toInt ∧ v_71.toInt ≤ 2147483647 := by rw [e_72]; exact hok.2.1 49 _
        refine k_ild (v := v_71) C hP 49 rfl (vp_in_iff.mpr ⟨by omega, by omega⟩) e_72.symm dX0_layComing_21 ?_
        refine lv_istore_n (lv' := [(2, .int v_71), (0, .ref (ad 5)), (1, .int w2_1)]) C.1 C.2.1 dX0_layComing_22 rfl hl (by decide) rfl (fun ls hl => ?_)
        have hl : lv_has ls 5 [(0, .ref (ad 5)), (1, .int w2_1), (2, .int v_71)] := lv_sub hl [1, 2, 0] rfl
        refine lv_bipush (v := (-10)) C.1 C.2.1 dX0_layComing_23 (by decide) ?_
        refine lv_iload_n C.1 C.2.1 dX0_layComing_25 rfl (lv_at hl 2 rfl) ?_
        obtain ⟨v_74, e_75⟩ : ∃ z, z = ((-10) : Int32) - (v_71 : Int32) := ⟨_, rfl⟩
        refine k_isub (v := v_74) C e_75.symm dX0_layComing_26 ?_
        refine lv_istore_n (lv' := [(3, .int v_74), (0, .ref (ad 5)), (1, .int w2_1), (2, .int v_71)]) C.1 C.2.1 dX0_layComing_27 rfl hl (by decide) rfl (fun ls hl => ?_)
        have hl : lv_has ls 5 [(0, .ref (ad 5)), (1, .int w2_1), (2, .int v_71), (3, .int v_74)] := lv_sub hl [1, 2, 3, 0] rfl
        refine lv_aload_n C.1 C.2.1 dX0_layComing_28 rfl (lv_at hl 0 rfl) ?_
        have h_77 : (-1073741824 : Int) ≤ (t1.1 5 9).toInt ∧ (t1.1 5 9).toInt ≤ 1073741824 := hok.1 5 9
        refine k_get (v := .int (t1.1 5 9)) C hP 5 rfl rfl inlX0 9 (by decide) m_12_3 rfl dX0_layComing_29 ?_
        obtain ⟨v_78, e_79⟩ : ∃ z, z = ((t1.1 5 9) : Int32).toInt64 := ⟨_, rfl⟩
        have h_80 : v_78.toInt = (t1.1 5 9).toInt := by rw [e_79]; exact Jvm.Kit.i64_of_i32 _
        refine lv_i2l (v := v_78) C.1 C.2.1 dX0_layComing_32 e_79.symm ?_
        refine g_Si (As := [.long v_78]) (rest := []) C hP hD hS hA (T_X1_wordOf l D K Z Y ad d t1 hok (v_78)) hE hZ (uwS m_25_10 m_22_11 m_14_2 m_22_12) (hdS 1 (by decide +kernel) rfl) ⟨Nat.le_of_ble_eq_true rfl, Nat.le_of_ble_eq_true rfl⟩ rfl rfl rfl hl.1 (Nat.le_of_ble_eq_true rfl) dX0_layComing_33 ⟨Nat.le_of_ble_eq_true rfl, Nat.le_of_ble_eq_true rfl⟩ (fun r_82 t_81 H locs hw hP hD hS => ?_)
        obtain ⟨h_84, h_85⟩ := hw
        refine lv_istore (lv' := [(4, .int r_82), (0, .ref (ad 5)), (1, .int w2_1), (2, .int v_71), (3, .int v_74)]) C.1 C.2.1 dX0_layComing_36 hl (by decide) rfl (fun ls hl => ?_)
        have hl : lv_has ls 5 [(0, .ref (ad 5)), (1, .int w2_1), (2, .int v_71), (3, .int v_74), (4, .int r_82)] := lv_sub hl [1, 2, 3, 4, 0] rfl
        refine lv_iload_n C.1 C.2.1 dX0_layComing_38 rfl (lv_at hl 2 rfl) ?_
        refine lv_iconst (v := (-1)) C.1 C.2.1 dX0_layComing_39 (by decide) ?_
        refine lv_icmp_ne (tgt := 70) C.1 C.2.1 dX0_layComing_40 (by decide) (fun c_86 => ?_) (fun c_86 => ?_)
        · replace c_86 : ¬ v_71.toInt = (-1) := i_ne c_86
          refine lv_iload_n C.1 C.2.1 dX0_layComing_70 rfl (lv_at hl 2 rfl) ?_
          refine lv_if_lt (tgt := 134) C.1 C.2.1 dX0_layComing_71 (by decide) (fun c_87 => ?_) (fun c_87 => ?_)
          · replace c_87 : v_71.toInt < 0 := i_lt c_87
            exact L_134 t1 w2_1 v_71 v_74 r_82 _ _ _ hok hfr ⟨by omega, by omega⟩ ⟨by omega, (i_rng _).2⟩ ⟨by omega, (i_rng _).2⟩ (show (1 : Int) ≤ ((t1.1 23 12) : Int32).toInt ∧ ((t1.1 23 12) : Int32).toInt ≤ 512 from ⟨by omega, by omega⟩) (show (512 : Int) - w2_1.toInt < (fuel_2 : Int) + 1 from by omega) hP hD hS (lv_sub hl [0, 1, 2, 3, 4] rfl)
          · replace c_87 : 0 ≤ v_71.toInt := i_nlt c_87
            refine lv_iload_n C.1 C.2.1 dX0_layComing_74 rfl (lv_at hl 2 rfl) ?_
            refine lv_aload_n C.1 C.2.1 dX0_layComing_75 rfl (lv_at hl 0 rfl) ?_
            refine k_get (v := .ref (ad 23)) C hP 5 rfl rfl inlX0 2 (by decide) m_5_19 rfl dX0_layComing_76 ?_
            refine k_get (v := .int (t1.1 23 3)) C hP 23 rfl rfl inlX8 3 (by decide) m_27_12 rfl dX0_layComing_79 ?_
            refine lv_icmp_ge (tgt := 134) C.1 C.2.1 dX0_layComing_82 (by decide) (fun c_88 => ?_) (fun c_88 => ?_)
            · replace c_88 : (t1.1 23 3).toInt ≤ v_71.toInt := i_le c_88
              exact L_134 t1 w2_1 v_71 v_74 r_82 _ _ _ hok hfr ⟨by omega, by omega⟩ ⟨by omega, (i_rng _).2⟩ ⟨by omega, (i_rng _).2⟩ (show (1 : Int) ≤ ((t1.1 23 12) : Int32).toInt ∧ ((t1.1 23 12) : Int32).toInt ≤ 512 from ⟨by omega, by omega⟩) (show (512 : Int) - w2_1.toInt < (fuel_2 : Int) + 1 from by omega) hP hD hS (lv_sub hl [0, 1, 2, 3, 4] rfl)
            · replace c_88 : v_71.toInt < (t1.1 23 3).toInt := i_nle c_88
              refine lv_aload_n C.1 C.2.1 dX0_layComing_85 rfl (lv_at hl 0 rfl) ?_
              refine k_get (v := .ref (ad 23)) C hP 5 rfl rfl inlX0 2 (by decide) m_5_19 rfl dX0_layComing_86 ?_
              refine lv_iload_n C.1 C.2.1 dX0_layComing_89 rfl (lv_at hl 2 rfl) ?_
              refine g_Vi (As := [.int v_71]) (rest := []) C hP hD hS hA (T_X8_standing l D K Z Y ad d t1 hok (v_71) (show (-128 : Int) ≤ (v_71 : Int32).toInt ∧ (v_71 : Int32).toInt ≤ 2147483647 from ⟨by omega, (i_rng _).2⟩)) hE hZ (uwV m_20_15 m_20_16 m_20_17 m_2_5 m_20_18) (hdV 1 (by decide +kernel) rfl) ⟨Nat.le_of_ble_eq_true rfl, Nat.le_of_ble_eq_true rfl⟩ rfl rfl (ci := 7) (q0 := 23) rfl rfl rfl hl.1 (Nat.le_of_ble_eq_true rfl) dX0_layComing_90 ⟨Nat.le_of_ble_eq_true rfl, Nat.le_of_ble_eq_true rfl⟩ (fun r_90 t_89 H locs hw hP hD hS => ?_)
              obtain ⟨h_92, h_93, p_94⟩ := hw
              replace p_94 : ¬ r_90.toInt = 0 → 0 ≤ v_71.toInt ∧ v_71.toInt < (t1.1 23 3).toInt := p_94
              refine lv_iconst (v := 1) C.1 C.2.1 dX0_layComing_93 (by decide) ?_
              refine lv_icmp_ne (tgt := 113) C.1 C.2.1 dX0_layComing_94 (by decide) (fun c_95 => ?_) (fun c_95 => ?_)
              · replace c_95 : ¬ r_90.toInt = 1 := i_ne c_95
                exact L_113 t1 w2_1 v_71 v_74 r_82 _ _ _ hok hfr ⟨by omega, by omega⟩ ⟨by omega, by omega⟩ ⟨by omega, (i_rng _).2⟩ (show (1 : Int) ≤ ((t1.1 23 12) : Int32).toInt ∧ ((t1.1 23 12) : Int32).toInt ≤ 512 from ⟨by omega, by omega⟩) (show (1 : Int) ≤ ((t1.1 23 3) : Int32).toInt ∧ ((t1.1 23 3) : Int32).toInt ≤ 1024 from ⟨by omega, by omega⟩) (show (512 : Int) - w2_1.toInt < (fuel_2 : Int) + 1 from by omega) hP hD hS (lv_sub hl [0, 1, 2, 3, 4] rfl)
              · replace c_95 : r_90.toInt = 1 := i_eq c_95
                refine lv_aload_n C.1 C.2.1 dX0_layComing_97 rfl (lv_at hl 0 rfl) ?_
                refine lv_iconst (v := 0) C.1 C.2.1 dX0_layComing_98 (by decide) ?_
                refine g_Vv (As := [.int 0]) (rest := []) C hP hD hS hA (T_X0_lay l D K Z Y ad d t1 hok 0) hE hZ (uwV m_26_14 m_26_15 m_26_16 m_2_2 m_26_17) (hdV 1 (by decide +kernel) rfl) ⟨Nat.le_of_ble_eq_true rfl, Nat.le_of_ble_eq_true rfl⟩ rfl rfl (ci := 0) (q0 := 5) rfl rfl rfl hl.1 (Nat.le_of_ble_eq_true rfl) dX0_layComing_99 ⟨Nat.le_of_ble_eq_true rfl, Nat.le_of_ble_eq_true rfl⟩ (fun t_96 H locs hw hP hD hS => ?_)
                obtain ⟨hok, f_98⟩ := hw
                have hfr : frA [(5, 9), (5, 16)] [] [10, 42, 43, 50] [25] t t_96 := frA_tr hfr f_98 rfl
                have h_99 : (t_96.1 23 12).toInt = (t1.1 23 12).toInt := ti_eq (f_98.1 23 12 rfl)
                have h_100 : (t_96.1 23 3).toInt = (t1.1 23 3).toInt := ti_eq (f_98.1 23 3 rfl)
                refine lv_aload_n C.1 C.2.1 dX0_layComing_102 rfl (lv_at hl 0 rfl) ?_
                refine k_get (v := .ref (ad 23)) C hP 5 rfl rfl inlX0 2 (by decide) m_5_19 rfl dX0_layComing_103 ?_
                refine lv_iload_n C.1 C.2.1 dX0_layComing_106 rfl (lv_at hl 2 rfl) ?_
                refine lv_iconst (v := 2) C.1 C.2.1 dX0_layComing_107 (by decide) ?_
                refine lv_iload C.1 C.2.1 dX0_layComing_108 (lv_at hl 4 rfl) ?_
                refine g_Vv (As := [.int v_71, .int 2, .int r_82]) (rest := []) C hP hD hS hA (T_X8_stand l D K Z Y ad d t_96 hok (v_71) (show (-1 : Int) ≤ (v_71 : Int32).toInt ∧ (v_71 : Int32).toInt ≤ 2147483647 from ⟨by omega, (i_rng _).2⟩) 2 (show (0 : Int) ≤ (2 : Int32).toInt ∧ (2 : Int32).toInt ≤ 2 from ⟨by decide, by decide⟩) (r_82)) hE hZ (uwV m_25_20 m_25_21 m_25_22 m_2_5 m_25_23) (hdV 3 (by decide +kernel) rfl) ⟨Nat.le_of_ble_eq_true rfl, Nat.le_of_ble_eq_true rfl⟩ rfl rfl (ci := 7) (q0 := 23) rfl rfl rfl hl.1 (Nat.le_of_ble_eq_true rfl) dX0_layComing_110 ⟨Nat.le_of_ble_eq_true rfl, Nat.le_of_ble_eq_true rfl⟩ (fun t_101 H locs hw hP hD hS => ?_)
                obtain ⟨hok, f_103⟩ := hw
                have hfr : frA [(5, 9), (5, 16)] [] [10, 42, 43, 50] [25] t t_101 := frA_tr hfr f_103 rfl
                have h_104 : (t_101.1 23 12).toInt = (t_96.1 23 12).toInt := ti_eq (f_103.1 23 12 rfl)
                have h_105 : (t_101.1 23 3).toInt = (t_96.1 23 3).toInt := ti_eq (f_103.1 23 3 rfl)
                exact L_113 t_101 w2_1 v_71 v_74 r_82 _ _ _ hok hfr ⟨by omega, by omega⟩ ⟨by omega, by omega⟩ ⟨by omega, (i_rng _).2⟩ (show (1 : Int) ≤ ((t_101.1 23 12) : Int32).toInt ∧ ((t_101.1 23 12) : Int32).toInt ≤ 512 from ⟨by omega, by omega⟩) (show (1 : Int) ≤ ((t_101.1 23 3) : Int32).toInt ∧ ((t_101.1 23 3) : Int32).toInt ≤ 1024 from ⟨by omega, by omega⟩) (show (512 : Int) - w2_1.toInt < (fuel_2 : Int) + 1 from by omega) hP hD hS (lv_sub hl [0, 1, 2, 3, 4] rfl)
        · replace c_86 : v_71.toInt = (-1) := i_eq c_86
          refine lv_aload_n C.1 C.2.1 dX0_layComing_43 rfl (lv_at hl 0 rfl) ?_
          refine lv_aload_n C.1 C.2.1 dX0_layComing_44 rfl (lv_at hl 0 rfl) ?_
          refine k_get (v := .ref (ad 23)) C hP 5 rfl rfl inlX0 2 (by decide) m_5_19 rfl dX0_layComing_45 ?_
          refine k_get (v := .ref (ad 50)) C hP 23 rfl rfl inlX8 11 (by decide) m_27_17 rfl dX0_layComing_48 ?_
          refine lv_iload_n C.1 C.2.1 dX0_layComing_51 rfl (lv_at hl 1 rfl) ?_
          obtain ⟨v_106, e_107⟩ : ∃ z, z = (t1.2.2.1 50 (w2_1 : Int32).toNatClampNeg) := ⟨_, rfl⟩
          refine k_ild (v := v_106) C hP 50 rfl (vp_in_iff.mpr ⟨by omega, by omega⟩) e_107.symm dX0_layComing_52 ?_
          refine g_Vv (As := [.int v_106]) (rest := []) C hP hD hS hA (T_X0_lay l D K Z Y ad d t1 hok (v_106)) hE hZ (uwV m_26_14 m_26_15 m_26_16 m_2_2 m_26_17) (hdV 1 (by decide +kernel) rfl) ⟨Nat.le_of_ble_eq_true rfl, Nat.le_of_ble_eq_true rfl⟩ rfl rfl (ci := 0) (q0 := 5) rfl rfl rfl hl.1 (Nat.le_of_ble_eq_true rfl) dX0_layComing_53 ⟨Nat.le_of_ble_eq_true rfl, Nat.le_of_ble_eq_true rfl⟩ (fun t_108 H locs hw hP hD hS => ?_)
          obtain ⟨hok, f_110⟩ := hw
          have hfr : frA [(5, 9), (5, 16)] [] [10, 42, 43, 50] [25] t t_108 := frA_tr hfr f_110 rfl
          have h_111 : (t_108.1 23 12).toInt = (t1.1 23 12).toInt := ti_eq (f_110.1 23 12 rfl)
          have h_112 : (t_108.1 23 3).toInt = (t1.1 23 3).toInt := ti_eq (f_110.1 23 3 rfl)
          have h_113 : (0 : Int) ≤ (t_108.1 23 3).toInt ∧ (t_108.1 23 3).toInt ≤ 1024 := hok.1 23 3
          refine lv_aload_n C.1 C.2.1 dX0_layComing_56 rfl (lv_at hl 0 rfl) ?_
          refine k_get (v := .ref (ad 23)) C hP 5 rfl rfl inlX0 2 (by decide) m_5_19 rfl dX0_layComing_57 ?_
          refine k_get (v := .ref (ad 50)) C hP 23 rfl rfl inlX8 11 (by decide) m_27_17 rfl dX0_layComing_60 ?_
          refine lv_iload_n C.1 C.2.1 dX0_layComing_63 rfl (lv_at hl 1 rfl) ?_
          refine lv_iload C.1 C.2.1 dX0_layComing_64 (lv_at hl 4 rfl) ?_
          refine k_ist (ws' := (WX d) K ad (uB t_108 50 (w2_1 : Int32).toNatClampNeg r_82)) (x' := r_82) C hP hD hS 50 rfl (vp_in_iff.mpr ⟨by omega, by omega⟩) rfl rfl rfl dX0_layComing_66 (fun H locs hP hD hS => ?_)
          have hok : okX (uB t_108 50 (w2_1 : Int32).toNatClampNeg r_82) := ⟨hok.1, okB_B hok.2.1 50 _ r_82 (show (-2147483648 : Int) ≤ (r_82 : Int32).toInt ∧ (r_82 : Int32).toInt ≤ 2147483647 from (i_rng _)), trivial⟩
          have hfr : frA [(5, 9), (5, 16)] [] [10, 42, 43, 50] [25] t (uB t_108 50 (w2_1 : Int32).toNatClampNeg r_82) := frA_B hfr 50 _ _ rfl
          refine lv_goto (tgt := 181) C.1 C.2.1 dX0_layComing_67 (by decide) ?_
          exact L_181 (uB t_108 50 (w2_1 : Int32).toNatClampNeg r_82) w2_1 v_71 v_74 r_82 _ _ _ hok hfr ⟨by omega, by omega⟩ ⟨by omega, (i_rng _).2⟩ ⟨by omega, (i_rng _).2⟩ (show (1 : Int) ≤ ((t_108.1 23 12) : Int32).toInt ∧ ((t_108.1 23 12) : Int32).toInt ≤ 512 from ⟨by omega, by omega⟩) (show (512 : Int) - w2_1.toInt < (fuel_2 : Int) + 1 from by omega) hP hD hS (lv_sub hl [0, 1, 2, 3, 4] rfl)
  refine lv_iconst (v := 0) C.1 C.2.1 dX0_layComing_0 (by decide) ?_
  refine lv_istore_n (lv' := [(1, .int 0), (0, .ref (ad 5))]) C.1 C.2.1 dX0_layComing_1 rfl hl (by decide) rfl (fun ls hl => ?_)
  have hl : lv_has ls 5 [(0, .ref (ad 5)), (1, .int 0)] := lv_sub hl [1, 0] rfl
  exact L_2 513 t 0 _ _ _ hok hfr ⟨by decide, by decide⟩ (show (512 : Int) - 0 < ((513 : Nat) : Int) from by omega) hP hD hS (lv_sub hl [0, 1] rfl)

theorem dX4_signed_0 : decode cX4_signed 0 = .ok (.aload_n 0, 1) := by decide +kernel
theorem dX4_signed_1 : decode cX4_signed 1 = .ok (.iload_n 1, 1) := by decide +kernel
theorem dX4_signed_11 : decode cX4_signed 11 = .ok (.goto 5, 3) := by decide +kernel
theorem dX4_signed_14 : decode cX4_signed 14 = .ok (.bipush 43, 2) := by decide +kernel
theorem dX4_signed_16 : decode cX4_signed 16 = .ok (.invokevirtual 34, 3) := by decide +kernel
theorem dX4_signed_19 : decode cX4_signed 19 = .ok (.aload_n 0, 1) := by decide +kernel
theorem dX4_signed_2 : decode cX4_signed 2 = .ok (.iload_n 3, 1) := by decide +kernel
theorem dX4_signed_20 : decode cX4_signed 20 = .ok (.iload_n 1, 1) := by decide +kernel
theorem dX4_signed_21 : decode cX4_signed 21 = .ok (.iconst 1, 1) := by decide +kernel
theorem dX4_signed_22 : decode cX4_signed 22 = .ok (.iadd, 1) := by decide +kernel
theorem dX4_signed_23 : decode cX4_signed 23 = .ok (.iload_n 2, 1) := by decide +kernel
theorem dX4_signed_24 : decode cX4_signed 24 = .ok (.iload_n 3, 1) := by decide +kernel
theorem dX4_signed_25 : decode cX4_signed 25 = .ok (.ldc 43, 2) := by decide +kernel
theorem dX4_signed_27 : decode cX4_signed 27 = .ok (.iand, 1) := by decide +kernel
theorem dX4_signed_28 : decode cX4_signed 28 = .ok (.i2l, 1) := by decide +kernel
theorem dX4_signed_29 : decode cX4_signed 29 = .ok (.invokevirtual 44, 3) := by decide +kernel
theorem dX4_signed_3 : decode cX4_signed 3 = .ok (.ldc 42, 2) := by decide +kernel
theorem dX4_signed_32 : decode cX4_signed 32 = .ok (.return_, 1) := by decide +kernel
theorem dX4_signed_5 : decode cX4_signed 5 = .ok (.iand, 1) := by decide +kernel
theorem dX4_signed_6 : decode cX4_signed 6 = .ok (.ifCond .eq 8, 3) := by decide +kernel
theorem dX4_signed_9 : decode cX4_signed 9 = .ok (.bipush 45, 2) := by decide +kernel
set_option maxHeartbeats 4000000 in
set_option maxRecDepth 100000 in
theorem T_X4_signed (l : Launch) (D : va_G) (K : Nat → ClassId) (Z Y : Nat → Nat) (ad : Nat → Nat) (d : dSt) (t : tSt) (hok : okX t) (x1 : Int32) (hx1 : (1 : Int) ≤ x1.toInt ∧ x1.toInt ≤ 63) (x2 : Int32) (hx2 : (4 : Int) ≤ x2.toInt ∧ x2.toInt ≤ 10) (x3 : Int32) : tMet l yX4_signed cX4_signed 4 none (rmD 2 0 0) D K Z Y [.ref (ad 20), .int x1, .int x2, .int x3] ((WX d) K ad t) (QV D K (fun (u : tSt) => okX u ∧ frA [] [] [37] [] t u) (fun (u : tSt) => (WX d) K ad u)) 0 0 := by
  refine t_met RX4 ⟨rfl, by decide +kernel⟩ (Nat.le_of_ble_eq_true rfl) ?_
  intro p e s m below meth c A ls C hE hZ hr hlocks hA hP hD hS hl
  have hl : lv_has ls 4 [(0, .ref (ad 20)), (1, .int x1), (2, .int x2), (3, .int x3)] := hl
  have hokt := hok
  have hfr : frA [] [] [37] [] t t := frA_rf
  have L_16 : ∀ (t1 : tSt) (k16_1 : Int32) (k16_2 : Int32) (H : Heap) (locs : List Loc) (ls : Array Slot), okX t1 → frA [] [] [37] [] t t1 → (1 : Int) ≤ k16_1.toInt ∧ k16_1.toInt ≤ 63 → (43 : Int) ≤ k16_2.toInt ∧ k16_2.toInt ≤ 45 → va_P D vwCl ((WX d) K ad t1) H → va_D A ((WX d) K ad t1) → va_S A s.heap H locs → lv_has ls 4 [(0, .ref (ad 20)), (1, .int x1), (2, .int x2), (3, .int x3)] → W p l e (rmD 2 0 0) s m [.ref (ad 20), .int x1, .int x2, .int x3].toArray below meth c H locs 0 0 (MQ below (QV D K (fun (u : tSt) => okX u ∧ frA [] [] [37] [] t u) (fun (u : tSt) => (WX d) K ad u) A) [.ref (ad 20), .int x1, .int x2, .int x3].toArray s 0 0 A) (F0 m 16 ls [.int k16_2, .int k16_1, .ref (ad 20)]) := by
    intro t1 k16_1 k16_2 H locs ls hok hfr hk16_1 hk16_2 hP hD hS hl
    refine g_Vv (As := [.int k16_1, .int k16_2]) (rest := []) C hP hD hS hA (T_X4_mark l D K Z Y ad d t1 hok (k16_1) (k16_2) (show (-128 : Int) ≤ (k16_2 : Int32).toInt ∧ (k16_2 : Int32).toInt ≤ 255 from ⟨by omega, by omega⟩)) hE hZ (uwV m_40_23 m_41_0 m_41_1 m_3_20 m_41_2) (hdV 2 (by decide +kernel) rfl) ⟨Nat.le_of_ble_eq_true rfl, Nat.le_of_ble_eq_true rfl⟩ rfl rfl (ci := 3) (q0 := 20) rfl rfl rfl hl.1 (Nat.le_of_ble_eq_true rfl) dX4_signed_16 ⟨Nat.le_of_ble_eq_true rfl, Nat.le_of_ble_eq_true rfl⟩ (fun t_1 H locs hw hP hD hS => ?_)
    obtain ⟨hok, f_3⟩ := hw
    have hfr : frA [] [] [37] [] t t_1 := frA_tr hfr f_3 rfl
    refine lv_aload_n C.1 C.2.1 dX4_signed_19 rfl (lv_at hl 0 rfl) ?_
    refine lv_iload_n C.1 C.2.1 dX4_signed_20 rfl (lv_at hl 1 rfl) ?_
    refine lv_iconst (v := 1) C.1 C.2.1 dX4_signed_21 (by decide) ?_
    obtain ⟨v_4, e_5⟩ : ∃ z, z = (x1 : Int32) + (1 : Int32) := ⟨_, rfl⟩
    have h_6 : v_4.toInt = x1.toInt + 1 := by rw [e_5]; exact ti_iadd (by show (_ : Int) ≤ x1.toInt + 1; omega) (by show x1.toInt + 1 < (_ : Int); omega)
    refine k_iadd (v := v_4) C e_5.symm dX4_signed_22 ?_
    refine lv_iload_n C.1 C.2.1 dX4_signed_23 rfl (lv_at hl 2 rfl) ?_
    refine lv_iload_n C.1 C.2.1 dX4_signed_24 rfl (lv_at hl 3 rfl) ?_
    refine lv_ldc (v := 1073741823) C.1 C.2.1 C.2.2.2.1 (C.2.2.2.2.1 _ m_55_13) dX4_signed_25 ?_
    obtain ⟨v_7, e_8⟩ : ∃ z, z = (x3 : Int32) &&& (1073741823 : Int32) := ⟨_, rfl⟩
    have h_9 : v_7.toInt = x3.toInt % 2 ^ 30 := by rw [e_8]; exact Jvm.Kit.i32_mask _ _ (k := 30) (by decide) (by decide)
    refine k_iand (v := v_7) C e_8.symm dX4_signed_27 ?_
    obtain ⟨v_10, e_11⟩ : ∃ z, z = (v_7 : Int32).toInt64 := ⟨_, rfl⟩
    have h_12 : v_10.toInt = v_7.toInt := by rw [e_11]; exact Jvm.Kit.i64_of_i32 _
    refine lv_i2l (v := v_10) C.1 C.2.1 dX4_signed_28 e_11.symm ?_
    refine g_Vv (As := [.int v_4, .int x2, .long v_10]) (rest := []) C hP hD hS hA (T_X4_digits l D K Z Y ad d t_1 hok (v_4) (show (0 : Int) ≤ (v_4 : Int32).toInt ∧ (v_4 : Int32).toInt ≤ 200 from ⟨by omega, by omega⟩) (x2) (show (1 : Int) ≤ (x2 : Int32).toInt ∧ (x2 : Int32).toInt ≤ 10 from ⟨by omega, by omega⟩) (v_10) (show 0 ≤ x2.toInt from by omega)) hE hZ (uwV m_55_14 m_40_19 m_40_20 m_3_20 m_40_21) (hdV 3 (by decide +kernel) rfl) ⟨Nat.le_of_ble_eq_true rfl, Nat.le_of_ble_eq_true rfl⟩ rfl rfl (ci := 3) (q0 := 20) rfl rfl rfl hl.1 (Nat.le_of_ble_eq_true rfl) dX4_signed_29 ⟨Nat.le_of_ble_eq_true rfl, Nat.le_of_ble_eq_true rfl⟩ (fun t_13 H locs hw hP hD hS => ?_)
    obtain ⟨hok, f_15⟩ := hw
    have hfr : frA [] [] [37] [] t t_13 := frA_tr hfr f_15 rfl
    exact g_vret C hr hlocks hP hD hS t_13 rfl ⟨hok, hfr⟩ (Nat.le_of_ble_eq_true rfl) (Nat.le_of_ble_eq_true rfl) dX4_signed_32
  refine lv_aload_n C.1 C.2.1 dX4_signed_0 rfl (lv_at hl 0 rfl) ?_
  refine lv_iload_n C.1 C.2.1 dX4_signed_1 rfl (lv_at hl 1 rfl) ?_
  refine lv_iload_n C.1 C.2.1 dX4_signed_2 rfl (lv_at hl 3 rfl) ?_
  refine lv_ldc (v := 1073741824) C.1 C.2.1 C.2.2.2.1 (C.2.2.2.2.1 _ m_55_12) dX4_signed_3 ?_
  obtain ⟨v_16, e_17⟩ : ∃ z, z = (x3 : Int32) &&& (1073741824 : Int32) := ⟨_, rfl⟩
  have h_18 : (0 : Int) ≤ v_16.toInt ∧ v_16.toInt ≤ 1073741824 := by rw [e_17]; exact z_and _ (k := 1073741824) (by decide) (by decide)
  refine k_iand (v := v_16) C e_17.symm dX4_signed_5 ?_
  refine lv_if_eq (tgt := 14) C.1 C.2.1 dX4_signed_6 (by decide) (fun c_19 => ?_) (fun c_19 => ?_)
  · replace c_19 : v_16.toInt = 0 := i_eq c_19
    refine lv_bipush (v := 43) C.1 C.2.1 dX4_signed_14 (by decide) ?_
    exact L_16 t x1 43 _ _ _ hok hfr ⟨by omega, by omega⟩ ⟨by decide, by decide⟩ hP hD hS (lv_sub hl [0, 1, 2, 3] rfl)
  · replace c_19 : ¬ v_16.toInt = 0 := i_ne c_19
    refine lv_bipush (v := 45) C.1 C.2.1 dX4_signed_9 (by decide) ?_
    refine lv_goto (tgt := 16) C.1 C.2.1 dX4_signed_11 (by decide) ?_
    exact L_16 t x1 45 _ _ _ hok hfr ⟨by omega, by omega⟩ ⟨by decide, by decide⟩ hP hD hS (lv_sub hl [0, 1, 2, 3] rfl)

theorem dX10_firstDone_0 : decode cX10_firstDone 0 = .ok (.iconst (-1), 1) := by decide +kernel
theorem dX10_firstDone_1 : decode cX10_firstDone 1 = .ok (.istore_n 3, 1) := by decide +kernel
theorem dX10_firstDone_12 : decode cX10_firstDone 12 = .ok (.aload_n 0, 1) := by decide +kernel
theorem dX10_firstDone_13 : decode cX10_firstDone 13 = .ok (.getfield 27, 3) := by decide +kernel
theorem dX10_firstDone_16 : decode cX10_firstDone 16 = .ok (.iload 4, 2) := by decide +kernel
theorem dX10_firstDone_18 : decode cX10_firstDone 18 = .ok (.baload, 1) := by decide +kernel
theorem dX10_firstDone_19 : decode cX10_firstDone 19 = .ok (.ifCond .eq 32, 3) := by decide +kernel
theorem dX10_firstDone_2 : decode cX10_firstDone 2 = .ok (.iconst 0, 1) := by decide +kernel
theorem dX10_firstDone_22 : decode cX10_firstDone 22 = .ok (.aload_n 0, 1) := by decide +kernel
theorem dX10_firstDone_23 : decode cX10_firstDone 23 = .ok (.getfield 20, 3) := by decide +kernel
theorem dX10_firstDone_26 : decode cX10_firstDone 26 = .ok (.iload 4, 2) := by decide +kernel
theorem dX10_firstDone_28 : decode cX10_firstDone 28 = .ok (.laload, 1) := by decide +kernel
theorem dX10_firstDone_29 : decode cX10_firstDone 29 = .ok (.lload_n 1, 1) := by decide +kernel
theorem dX10_firstDone_3 : decode cX10_firstDone 3 = .ok (.istore 4, 2) := by decide +kernel
theorem dX10_firstDone_30 : decode cX10_firstDone 30 = .ok (.lcmp, 1) := by decide +kernel
theorem dX10_firstDone_31 : decode cX10_firstDone 31 = .ok (.ifCond .gt 20, 3) := by decide +kernel
theorem dX10_firstDone_34 : decode cX10_firstDone 34 = .ok (.iload_n 3, 1) := by decide +kernel
theorem dX10_firstDone_35 : decode cX10_firstDone 35 = .ok (.ifCond .lt 13, 3) := by decide +kernel
theorem dX10_firstDone_38 : decode cX10_firstDone 38 = .ok (.aload_n 0, 1) := by decide +kernel
theorem dX10_firstDone_39 : decode cX10_firstDone 39 = .ok (.iload 4, 2) := by decide +kernel
theorem dX10_firstDone_41 : decode cX10_firstDone 41 = .ok (.iload_n 3, 1) := by decide +kernel
theorem dX10_firstDone_42 : decode cX10_firstDone 42 = .ok (.invokevirtual 159, 3) := by decide +kernel
theorem dX10_firstDone_45 : decode cX10_firstDone 45 = .ok (.ifCond .eq 6, 3) := by decide +kernel
theorem dX10_firstDone_48 : decode cX10_firstDone 48 = .ok (.iload 4, 2) := by decide +kernel
theorem dX10_firstDone_5 : decode cX10_firstDone 5 = .ok (.iload 4, 2) := by decide +kernel
theorem dX10_firstDone_50 : decode cX10_firstDone 50 = .ok (.istore_n 3, 1) := by decide +kernel
theorem dX10_firstDone_51 : decode cX10_firstDone 51 = .ok (.iinc 4 1, 3) := by decide +kernel
theorem dX10_firstDone_54 : decode cX10_firstDone 54 = .ok (.goto (-49), 3) := by decide +kernel
theorem dX10_firstDone_57 : decode cX10_firstDone 57 = .ok (.iload_n 3, 1) := by decide +kernel
theorem dX10_firstDone_58 : decode cX10_firstDone 58 = .ok (.ireturn, 1) := by decide +kernel
theorem dX10_firstDone_7 : decode cX10_firstDone 7 = .ok (.bipush 16, 2) := by decide +kernel
theorem dX10_firstDone_9 : decode cX10_firstDone 9 = .ok (.if_icmp .gt 48, 3) := by decide +kernel
set_option maxHeartbeats 4000000 in
set_option maxRecDepth 100000 in
theorem T_X10_firstDone (l : Launch) (D : va_G) (K : Nat → ClassId) (Z Y : Nat → Nat) (ad : Nat → Nat) (d : dSt) (t : tSt) (hok : okX t) (x1 : Int64) : tMet l yX10_firstDone cX10_firstDone 5 (some .int) (rmD 1 0 0) D K Z Y [.ref (ad 3), .long x1] ((WX d) K ad t) (QI D K (fun (r : Int32) (u : Unit) => (-1 : Int) ≤ r.toInt ∧ r.toInt ≤ 16) (fun (_ : Unit) => (WX d) K ad t)) 0 0 := by
  refine t_met RX10 ⟨rfl, by decide +kernel⟩ (Nat.le_of_ble_eq_true rfl) ?_
  intro p e s m below meth c A ls C hE hZ hr hlocks hA hP hD hS hl
  have hl : lv_has ls 5 [(0, .ref (ad 3)), (1, .long x1)] := hl
  have L_5 : ∀ (fuel_5 : Nat) (w5_3 : Int32) (w5_4 : Int32) (H : Heap) (locs : List Loc) (ls : Array Slot), (-1 : Int) ≤ w5_3.toInt ∧ w5_3.toInt ≤ 16 → (0 : Int) ≤ w5_4.toInt ∧ w5_4.toInt ≤ 17 → (17 : Int) - w5_4.toInt < (fuel_5 : Int) → va_P D vwCl ((WX d) K ad t) H → va_D A ((WX d) K ad t) → va_S A s.heap H locs → lv_has ls 5 [(0, .ref (ad 3)), (1, .long x1), (3, .int w5_3), (4, .int w5_4)] → W p l e (rmD 1 0 0) s m [.ref (ad 3), .long x1].toArray below meth c H locs 0 0 (MQ below (QI D K (fun (r : Int32) (u : Unit) => (-1 : Int) ≤ r.toInt ∧ r.toInt ≤ 16) (fun (_ : Unit) => (WX d) K ad t) A) [.ref (ad 3), .long x1].toArray s 0 0 A) (F0 m 5 ls []) := by
    intro fuel_5
    induction fuel_5 with
    | zero =>
      intro w5_3 w5_4 H locs ls hw5_3 hw5_4 hm5_5 hP hD hS hl
      exact absurd hm5_5 (by omega)
    | succ fuel_5 ih_5 =>
      intro w5_3 w5_4 H locs ls hw5_3 hw5_4 hm5_5 hP hD hS hl
      have hm5_5 : (17 : Int) - w5_4.toInt < (fuel_5 : Int) + 1 := by omega
      have L_51 : ∀ (w51_3 : Int32) (w51_4 : Int32) (H : Heap) (locs : List Loc) (ls : Array Slot), (-1 : Int) ≤ w51_3.toInt ∧ w51_3.toInt ≤ 16 → (0 : Int) ≤ w51_4.toInt ∧ w51_4.toInt ≤ 16 → (17 : Int) - w51_4.toInt < (fuel_5 : Int) + 1 → va_P D vwCl ((WX d) K ad t) H → va_D A ((WX d) K ad t) → va_S A s.heap H locs → lv_has ls 5 [(0, .ref (ad 3)), (1, .long x1), (3, .int w51_3), (4, .int w51_4)] → W p l e (rmD 1 0 0) s m [.ref (ad 3), .long x1].toArray below meth c H locs 0 0 (MQ below (QI D K (fun (r : Int32) (u : Unit) => (-1 : Int) ≤ r.toInt ∧ r.toInt ≤ 16) (fun (_ : Unit) => (WX d) K ad t) A) [.ref (ad 3), .long x1].toArray s 0 0 A) (F0 m 51 ls []) := by
        intro w51_3 w51_4 H locs ls hw51_3 hw51_4 hm51_5 hP hD hS hl
        obtain ⟨v_1, e_2⟩ : ∃ z, z = w51_4 + 1 := ⟨_, rfl⟩
        have h_3 : v_1.toInt = w51_4.toInt + 1 := by rw [e_2]; exact ti_iadd (by show (_ : Int) ≤ w51_4.toInt + 1; omega) (by show w51_4.toInt + 1 < (_ : Int); omega)
        refine lv_iinc (v := v_1) (lv' := [(4, .int v_1), (0, .ref (ad 3)), (1, .long x1), (3, .int w51_3)]) C.1 C.2.1 dX10_firstDone_51 hl (k := 3) rfl e_2.symm (by decide) rfl (fun ls hl => ?_)
        have hl : lv_has ls 5 [(0, .ref (ad 3)), (1, .long x1), (3, .int w51_3), (4, .int v_1)] := lv_sub hl [1, 2, 3, 0] rfl
        refine lv_goto (tgt := 5) C.1 C.2.1 dX10_firstDone_54 (by decide) ?_
        exact ih_5 w51_3 v_1 _ _ _ ⟨by omega, by omega⟩ ⟨by omega, by omega⟩ (show (17 : Int) - v_1.toInt < (fuel_5 : Int) from by omega) hP hD hS (lv_sub hl [0, 1, 2, 3] rfl)
      have L_48 : ∀ (w48_3 : Int32) (w48_4 : Int32) (H : Heap) (locs : List Loc) (ls : Array Slot), (-1 : Int) ≤ w48_3.toInt ∧ w48_3.toInt ≤ 16 → (0 : Int) ≤ w48_4.toInt ∧ w48_4.toInt ≤ 16 → (17 : Int) - w48_4.toInt < (fuel_5 : Int) + 1 → va_P D vwCl ((WX d) K ad t) H → va_D A ((WX d) K ad t) → va_S A s.heap H locs → lv_has ls 5 [(0, .ref (ad 3)), (1, .long x1), (3, .int w48_3), (4, .int w48_4)] → W p l e (rmD 1 0 0) s m [.ref (ad 3), .long x1].toArray below meth c H locs 0 0 (MQ below (QI D K (fun (r : Int32) (u : Unit) => (-1 : Int) ≤ r.toInt ∧ r.toInt ≤ 16) (fun (_ : Unit) => (WX d) K ad t) A) [.ref (ad 3), .long x1].toArray s 0 0 A) (F0 m 48 ls []) := by
        intro w48_3 w48_4 H locs ls hw48_3 hw48_4 hm48_5 hP hD hS hl
        refine lv_iload C.1 C.2.1 dX10_firstDone_48 (lv_at hl 3 rfl) ?_
        refine lv_istore_n (lv' := [(3, .int w48_4), (0, .ref (ad 3)), (1, .long x1), (4, .int w48_4)]) C.1 C.2.1 dX10_firstDone_50 rfl hl (by decide) rfl (fun ls hl => ?_)
        have hl : lv_has ls 5 [(0, .ref (ad 3)), (1, .long x1), (3, .int w48_4), (4, .int w48_4)] := lv_sub hl [1, 2, 0, 3] rfl
        exact L_51 w48_4 w48_4 _ _ _ ⟨by omega, by omega⟩ ⟨by omega, by omega⟩ (show (17 : Int) - w48_4.toInt < (fuel_5 : Int) + 1 from by omega) hP hD hS (lv_sub hl [0, 1, 2, 3] rfl)
      refine lv_iload C.1 C.2.1 dX10_firstDone_5 (lv_at hl 3 rfl) ?_
      refine lv_bipush (v := 16) C.1 C.2.1 dX10_firstDone_7 (by decide) ?_
      refine lv_icmp_gt (tgt := 57) C.1 C.2.1 dX10_firstDone_9 (by decide) (fun c_4 => ?_) (fun c_4 => ?_)
      · replace c_4 : 16 < w5_4.toInt := i_lt c_4
        refine lv_iload_n C.1 C.2.1 dX10_firstDone_57 rfl (lv_at hl 2 rfl) ?_
        exact g_iret C hr hlocks hP hD hS rfl () rfl ⟨by omega, by omega⟩ (Nat.le_of_ble_eq_true rfl) (Nat.le_of_ble_eq_true rfl) dX10_firstDone_58
      · replace c_4 : w5_4.toInt ≤ 16 := i_nlt c_4
        refine lv_aload_n C.1 C.2.1 dX10_firstDone_12 rfl (lv_at hl 0 rfl) ?_
        refine k_get (v := .ref (ad 15)) C hP 3 rfl rfl inlX10 5 (by decide) m_3_11 rfl dX10_firstDone_13 ?_
        refine lv_iload C.1 C.2.1 dX10_firstDone_16 (lv_at hl 3 rfl) ?_
        obtain ⟨v_5, e_6⟩ : ∃ z, z = (t.2.2.1 15 (w5_4 : Int32).toNatClampNeg) := ⟨_, rfl⟩
        have h_7 : (0 : Int) ≤ v_5.toInt ∧ v_5.toInt ≤ 1 := by rw [e_6]; exact hok.2.1 15 _
        refine k_zld (v := v_5) C hP 15 rfl (vp_in_iff.mpr ⟨by omega, by omega⟩) e_6.symm dX10_firstDone_18 ?_
        refine lv_if_eq (tgt := 51) C.1 C.2.1 dX10_firstDone_19 (by decide) (fun c_8 => ?_) (fun c_8 => ?_)
        · replace c_8 : v_5.toInt = 0 := i_eq c_8
          exact L_51 w5_3 w5_4 _ _ _ ⟨by omega, by omega⟩ ⟨by omega, by omega⟩ (show (17 : Int) - w5_4.toInt < (fuel_5 : Int) + 1 from by omega) hP hD hS (lv_sub hl [0, 1, 2, 3] rfl)
        · replace c_8 : ¬ v_5.toInt = 0 := i_ne c_8
          refine lv_aload_n C.1 C.2.1 dX10_firstDone_22 rfl (lv_at hl 0 rfl) ?_
          refine k_get (v := .ref (ad 13)) C hP 3 rfl rfl inlX10 3 (by decide) m_3_8 rfl dX10_firstDone_23 ?_
          refine lv_iload C.1 C.2.1 dX10_firstDone_26 (lv_at hl 3 rfl) ?_
          refine k_lld (v := (t.2.2.2 13 (w5_4 : Int32).toNatClampNeg)) C hP 13 rfl (vp_in_iff.mpr ⟨by omega, by omega⟩) rfl dX10_firstDone_28 ?_
          refine lv_lload_n C.1 C.2.1 dX10_firstDone_29 rfl (lv_at hl 1 rfl) ?_
          obtain ⟨v_9, e_10⟩ : ∃ z, z = lg_cmp ((t.2.2.2 13 (w5_4 : Int32).toNatClampNeg) : Int64) x1 := ⟨_, rfl⟩
          have h_11 : (-1 : Int) ≤ v_9.toInt ∧ v_9.toInt ≤ 1 := by rw [e_10]; exact cmp_rng _ _
          refine k_lcmp (v := v_9) C e_10.symm dX10_firstDone_30 ?_
          refine lv_if_gt (tgt := 51) C.1 C.2.1 dX10_firstDone_31 (by decide) (fun c_12 => ?_) (fun c_12 => ?_)
          · replace c_12 : 0 < v_9.toInt := i_lt c_12
            exact L_51 w5_3 w5_4 _ _ _ ⟨by omega, by omega⟩ ⟨by omega, by omega⟩ (show (17 : Int) - w5_4.toInt < (fuel_5 : Int) + 1 from by omega) hP hD hS (lv_sub hl [0, 1, 2, 3] rfl)
          · replace c_12 : v_9.toInt ≤ 0 := i_nlt c_12
            refine lv_iload_n C.1 C.2.1 dX10_firstDone_34 rfl (lv_at hl 2 rfl) ?_
            refine lv_if_lt (tgt := 48) C.1 C.2.1 dX10_firstDone_35 (by decide) (fun c_13 => ?_) (fun c_13 => ?_)
            · replace c_13 : w5_3.toInt < 0 := i_lt c_13
              exact L_48 w5_3 w5_4 _ _ _ ⟨by omega, by omega⟩ ⟨by omega, by omega⟩ (show (17 : Int) - w5_4.toInt < (fuel_5 : Int) + 1 from by omega) hP hD hS (lv_sub hl [0, 1, 2, 3] rfl)
            · replace c_13 : 0 ≤ w5_3.toInt := i_nlt c_13
              refine lv_aload_n C.1 C.2.1 dX10_firstDone_38 rfl (lv_at hl 0 rfl) ?_
              refine lv_iload C.1 C.2.1 dX10_firstDone_39 (lv_at hl 3 rfl) ?_
              refine lv_iload_n C.1 C.2.1 dX10_firstDone_41 rfl (lv_at hl 2 rfl) ?_
              refine g_Vi (As := [.int w5_4, .int w5_3]) (rest := []) C hP hD hS hA (T_X10_isAhead l D K Z Y ad d t hok (w5_4) (show (0 : Int) ≤ (w5_4 : Int32).toInt ∧ (w5_4 : Int32).toInt ≤ 16 from ⟨by omega, by omega⟩) (w5_3) (show (0 : Int) ≤ (w5_3 : Int32).toInt ∧ (w5_3 : Int32).toInt ≤ 16 from ⟨by omega, by omega⟩)) hE hZ (uwV m_46_20 m_46_21 m_46_22 m_1_20 m_46_23) (hdV 2 (by decide +kernel) rfl) ⟨Nat.le_of_ble_eq_true rfl, Nat.le_of_ble_eq_true rfl⟩ rfl rfl (ci := 9) (q0 := 3) rfl rfl rfl hl.1 (Nat.le_of_ble_eq_true rfl) dX10_firstDone_42 ⟨Nat.le_of_ble_eq_true rfl, Nat.le_of_ble_eq_true rfl⟩ (fun r_15 t_14 H locs hw hP hD hS => ?_)
              obtain ⟨h_17, h_18⟩ := hw
              refine lv_if_eq (tgt := 51) C.1 C.2.1 dX10_firstDone_45 (by decide) (fun c_19 => ?_) (fun c_19 => ?_)
              · replace c_19 : r_15.toInt = 0 := i_eq c_19
                exact L_51 w5_3 w5_4 _ _ _ ⟨by omega, by omega⟩ ⟨by omega, by omega⟩ (show (17 : Int) - w5_4.toInt < (fuel_5 : Int) + 1 from by omega) hP hD hS (lv_sub hl [0, 1, 2, 3] rfl)
              · replace c_19 : ¬ r_15.toInt = 0 := i_ne c_19
                exact L_48 w5_3 w5_4 _ _ _ ⟨by omega, by omega⟩ ⟨by omega, by omega⟩ (show (17 : Int) - w5_4.toInt < (fuel_5 : Int) + 1 from by omega) hP hD hS (lv_sub hl [0, 1, 2, 3] rfl)
  refine lv_iconst (v := (-1)) C.1 C.2.1 dX10_firstDone_0 (by decide) ?_
  refine lv_istore_n (lv' := [(3, .int (-1)), (0, .ref (ad 3)), (1, .long x1)]) C.1 C.2.1 dX10_firstDone_1 rfl hl (by decide) rfl (fun ls hl => ?_)
  have hl : lv_has ls 5 [(0, .ref (ad 3)), (1, .long x1), (3, .int (-1))] := lv_sub hl [1, 2, 0] rfl
  refine lv_iconst (v := 0) C.1 C.2.1 dX10_firstDone_2 (by decide) ?_
  refine lv_istore (lv' := [(4, .int 0), (0, .ref (ad 3)), (1, .long x1), (3, .int (-1))]) C.1 C.2.1 dX10_firstDone_3 hl (by decide) rfl (fun ls hl => ?_)
  have hl : lv_has ls 5 [(0, .ref (ad 3)), (1, .long x1), (3, .int (-1)), (4, .int 0)] := lv_sub hl [1, 2, 3, 0] rfl
  exact L_5 18 (-1) 0 _ _ _ ⟨by decide, by decide⟩ ⟨by decide, by decide⟩ (show (17 : Int) - 0 < ((18 : Nat) : Int) from by omega) hP hD hS (lv_sub hl [0, 1, 2, 3] rfl)

theorem dX4_name_0 : decode cX4_name 0 = .ok (.iconst 0, 1) := by decide +kernel
theorem dX4_name_1 : decode cX4_name 1 = .ok (.istore 4, 2) := by decide +kernel
theorem dX4_name_10 : decode cX4_name 10 = .ok (.aload_n 0, 1) := by decide +kernel
theorem dX4_name_11 : decode cX4_name 11 = .ok (.iload_n 1, 1) := by decide +kernel
theorem dX4_name_12 : decode cX4_name 12 = .ok (.iload 4, 2) := by decide +kernel
theorem dX4_name_14 : decode cX4_name 14 = .ok (.iadd, 1) := by decide +kernel
theorem dX4_name_15 : decode cX4_name 15 = .ok (.lload_n 2, 1) := by decide +kernel
theorem dX4_name_16 : decode cX4_name 16 = .ok (.bipush 6, 2) := by decide +kernel
theorem dX4_name_18 : decode cX4_name 18 = .ok (.bipush 9, 2) := by decide +kernel
theorem dX4_name_20 : decode cX4_name 20 = .ok (.iload 4, 2) := by decide +kernel
theorem dX4_name_22 : decode cX4_name 22 = .ok (.isub, 1) := by decide +kernel
theorem dX4_name_23 : decode cX4_name 23 = .ok (.imul, 1) := by decide +kernel
theorem dX4_name_24 : decode cX4_name 24 = .ok (.lshr, 1) := by decide +kernel
theorem dX4_name_25 : decode cX4_name 25 = .ok (.ldc2_w 58, 3) := by decide +kernel
theorem dX4_name_28 : decode cX4_name 28 = .ok (.land, 1) := by decide +kernel
theorem dX4_name_29 : decode cX4_name 29 = .ok (.l2i, 1) := by decide +kernel
theorem dX4_name_3 : decode cX4_name 3 = .ok (.iload 4, 2) := by decide +kernel
theorem dX4_name_30 : decode cX4_name 30 = .ok (.invokestatic 60, 3) := by decide +kernel
theorem dX4_name_33 : decode cX4_name 33 = .ok (.invokevirtual 34, 3) := by decide +kernel
theorem dX4_name_36 : decode cX4_name 36 = .ok (.iinc 4 1, 3) := by decide +kernel
theorem dX4_name_39 : decode cX4_name 39 = .ok (.goto (-36), 3) := by decide +kernel
theorem dX4_name_42 : decode cX4_name 42 = .ok (.return_, 1) := by decide +kernel
theorem dX4_name_5 : decode cX4_name 5 = .ok (.bipush 10, 2) := by decide +kernel
theorem dX4_name_7 : decode cX4_name 7 = .ok (.if_icmp .ge 35, 3) := by decide +kernel
set_option maxHeartbeats 4000000 in
set_option maxRecDepth 100000 in
theorem T_X4_name (l : Launch) (D : va_G) (K : Nat → ClassId) (Z Y : Nat → Nat) (ad : Nat → Nat) (d : dSt) (t : tSt) (hok : okX t) (x1 : Int32) (hx1 : (1 : Int) ≤ x1.toInt ∧ x1.toInt ≤ 1) (x2 : Int64) : tMet l yX4_name cX4_name 5 none (rmD 1 0 0) D K Z Y [.ref (ad 20), .int x1, .long x2] ((WX d) K ad t) (QV D K (fun (u : tSt) => okX u ∧ frA [] [] [37] [] t u) (fun (u : tSt) => (WX d) K ad u)) 0 0 := by
  refine t_met RX4 ⟨rfl, by decide +kernel⟩ (Nat.le_of_ble_eq_true rfl) ?_
  intro p e s m below meth c A ls C hE hZ hr hlocks hA hP hD hS hl
  have hl : lv_has ls 5 [(0, .ref (ad 20)), (1, .int x1), (2, .long x2)] := hl
  have hokt := hok
  have hfr : frA [] [] [37] [] t t := frA_rf
  have L_3 : ∀ (fuel_3 : Nat) (t1 : tSt) (w3_4 : Int32) (H : Heap) (locs : List Loc) (ls : Array Slot), okX t1 → frA [] [] [37] [] t t1 → (0 : Int) ≤ w3_4.toInt ∧ w3_4.toInt ≤ 10 → (10 : Int) - w3_4.toInt < (fuel_3 : Int) → va_P D vwCl ((WX d) K ad t1) H → va_D A ((WX d) K ad t1) → va_S A s.heap H locs → lv_has ls 5 [(0, .ref (ad 20)), (1, .int x1), (2, .long x2), (4, .int w3_4)] → W p l e (rmD 1 0 0) s m [.ref (ad 20), .int x1, .long x2].toArray below meth c H locs 0 0 (MQ below (QV D K (fun (u : tSt) => okX u ∧ frA [] [] [37] [] t u) (fun (u : tSt) => (WX d) K ad u) A) [.ref (ad 20), .int x1, .long x2].toArray s 0 0 A) (F0 m 3 ls []) := by
    intro fuel_3
    induction fuel_3 with
    | zero =>
      intro t1 w3_4 H locs ls hok hfr hw3_4 hm3_3 hP hD hS hl
      exact absurd hm3_3 (by omega)
    | succ fuel_3 ih_3 =>
      intro t1 w3_4 H locs ls hok hfr hw3_4 hm3_3 hP hD hS hl
      have hm3_3 : (10 : Int) - w3_4.toInt < (fuel_3 : Int) + 1 := by omega
      refine lv_iload C.1 C.2.1 dX4_name_3 (lv_at hl 3 rfl) ?_
      refine lv_bipush (v := 10) C.1 C.2.1 dX4_name_5 (by decide) ?_
      refine lv_icmp_ge (tgt := 42) C.1 C.2.1 dX4_name_7 (by decide) (fun c_1 => ?_) (fun c_1 => ?_)
      · replace c_1 : 10 ≤ w3_4.toInt := i_le c_1
        exact g_vret C hr hlocks hP hD hS t1 rfl ⟨hok, hfr⟩ (Nat.le_of_ble_eq_true rfl) (Nat.le_of_ble_eq_true rfl) dX4_name_42
      · replace c_1 : w3_4.toInt < 10 := i_nle c_1
        refine lv_aload_n C.1 C.2.1 dX4_name_10 rfl (lv_at hl 0 rfl) ?_
        refine lv_iload_n C.1 C.2.1 dX4_name_11 rfl (lv_at hl 1 rfl) ?_
        refine lv_iload C.1 C.2.1 dX4_name_12 (lv_at hl 3 rfl) ?_
        obtain ⟨v_2, e_3⟩ : ∃ z, z = (x1 : Int32) + (w3_4 : Int32) := ⟨_, rfl⟩
        have h_4 : v_2.toInt = x1.toInt + w3_4.toInt := by rw [e_3]; exact ti_iadd (by show (_ : Int) ≤ x1.toInt + w3_4.toInt; omega) (by show x1.toInt + w3_4.toInt < (_ : Int); omega)
        refine k_iadd (v := v_2) C e_3.symm dX4_name_14 ?_
        refine lv_lload_n C.1 C.2.1 dX4_name_15 rfl (lv_at hl 2 rfl) ?_
        refine lv_bipush (v := 6) C.1 C.2.1 dX4_name_16 (by decide) ?_
        refine lv_bipush (v := 9) C.1 C.2.1 dX4_name_18 (by decide) ?_
        refine lv_iload C.1 C.2.1 dX4_name_20 (lv_at hl 3 rfl) ?_
        obtain ⟨v_5, e_6⟩ : ∃ z, z = (9 : Int32) - (w3_4 : Int32) := ⟨_, rfl⟩
        have h_7 : v_5.toInt = 9 - w3_4.toInt := by rw [e_6]; exact ti_isub (by show (_ : Int) ≤ 9 - w3_4.toInt; omega) (by show 9 - w3_4.toInt < (_ : Int); omega)
        refine k_isub (v := v_5) C e_6.symm dX4_name_22 ?_
        obtain ⟨v_8, e_9⟩ : ∃ z, z = (6 : Int32) * (v_5 : Int32) := ⟨_, rfl⟩
        have h_10 : v_8.toInt = 6 * v_5.toInt := by rw [e_9]; exact ti_mull (k := 6) (by decide) (by omega) (by omega)
        refine k_imul (v := v_8) C e_9.symm dX4_name_23 ?_
        obtain ⟨v_11, e_12⟩ : ∃ z, z = (x2 : Int64) >>> ((v_8 : Int32).toInt64 &&& 63) := ⟨_, rfl⟩
        refine lv_lshr (v := v_11) C.1 C.2.1 dX4_name_24 e_12.symm ?_
        refine lv_ldc2 (v := 63) C.1 C.2.1 C.2.2.2.1 (C.2.2.2.2.1 _ m_69_3) dX4_name_25 ?_
        obtain ⟨v_13, e_14⟩ : ∃ z, z = (v_11 : Int64) &&& 63 := ⟨_, rfl⟩
        have h_15 : v_13.toInt = v_11.toInt % 2 ^ 6 := by rw [e_14]; exact Jvm.Kit.i64_mask _ _ (k := 6) (by decide) (by decide)
        refine lw_land (v := v_13) C.1 C.2.1 dX4_name_28 e_14.symm ?_
        obtain ⟨v_16, e_17⟩ : ∃ z, z = (v_13).toInt32 := ⟨_, rfl⟩
        have h_18 : v_16.toInt = v_13.toInt := by rw [e_17]; exact Jvm.Kit.i32_of_i64 (by show (_ : Int) ≤ v_13.toInt; omega) (by show v_13.toInt < (_ : Int); omega)
        refine lv_l2i (v := v_16) C.1 C.2.1 dX4_name_29 e_17.symm ?_
        refine g_Si (As := [.int v_16]) (rest := [.int v_2, .ref (ad 20)]) C hP hD hS hA (T_X1_letterOf l D K Z Y ad d t1 hok (v_16) (show (0 : Int) ≤ (v_16 : Int32).toInt ∧ (v_16 : Int32).toInt ≤ 63 from ⟨by omega, by omega⟩)) hE hZ (uwS m_69_4 m_69_5 m_14_2 m_69_6) (hdS 1 (by decide +kernel) rfl) ⟨Nat.le_of_ble_eq_true rfl, Nat.le_of_ble_eq_true rfl⟩ rfl rfl rfl hl.1 (Nat.le_of_ble_eq_true rfl) dX4_name_30 ⟨Nat.le_of_ble_eq_true rfl, Nat.le_of_ble_eq_true rfl⟩ (fun r_20 t_19 H locs hw hP hD hS => ?_)
        obtain ⟨h_22, h_23⟩ := hw
        refine g_Vv (As := [.int v_2, .int r_20]) (rest := []) C hP hD hS hA (T_X4_mark l D K Z Y ad d t1 hok (v_2) (r_20) (show (-128 : Int) ≤ (r_20 : Int32).toInt ∧ (r_20 : Int32).toInt ≤ 255 from ⟨by omega, by omega⟩)) hE hZ (uwV m_40_23 m_41_0 m_41_1 m_3_20 m_41_2) (hdV 2 (by decide +kernel) rfl) ⟨Nat.le_of_ble_eq_true rfl, Nat.le_of_ble_eq_true rfl⟩ rfl rfl (ci := 3) (q0 := 20) rfl rfl rfl hl.1 (Nat.le_of_ble_eq_true rfl) dX4_name_33 ⟨Nat.le_of_ble_eq_true rfl, Nat.le_of_ble_eq_true rfl⟩ (fun t_24 H locs hw hP hD hS => ?_)
        obtain ⟨hok, f_26⟩ := hw
        have hfr : frA [] [] [37] [] t t_24 := frA_tr hfr f_26 rfl
        obtain ⟨v_27, e_28⟩ : ∃ z, z = w3_4 + 1 := ⟨_, rfl⟩
        have h_29 : v_27.toInt = w3_4.toInt + 1 := by rw [e_28]; exact ti_iadd (by show (_ : Int) ≤ w3_4.toInt + 1; omega) (by show w3_4.toInt + 1 < (_ : Int); omega)
        refine lv_iinc (v := v_27) (lv' := [(4, .int v_27), (0, .ref (ad 20)), (1, .int x1), (2, .long x2)]) C.1 C.2.1 dX4_name_36 hl (k := 3) rfl e_28.symm (by decide) rfl (fun ls hl => ?_)
        have hl : lv_has ls 5 [(0, .ref (ad 20)), (1, .int x1), (2, .long x2), (4, .int v_27)] := lv_sub hl [1, 2, 3, 0] rfl
        refine lv_goto (tgt := 3) C.1 C.2.1 dX4_name_39 (by decide) ?_
        exact ih_3 t_24 v_27 _ _ _ hok hfr ⟨by omega, by omega⟩ (show (10 : Int) - v_27.toInt < (fuel_3 : Int) from by omega) hP hD hS (lv_sub hl [0, 1, 2, 3] rfl)
  refine lv_iconst (v := 0) C.1 C.2.1 dX4_name_0 (by decide) ?_
  refine lv_istore (lv' := [(4, .int 0), (0, .ref (ad 20)), (1, .int x1), (2, .long x2)]) C.1 C.2.1 dX4_name_1 hl (by decide) rfl (fun ls hl => ?_)
  have hl : lv_has ls 5 [(0, .ref (ad 20)), (1, .int x1), (2, .long x2), (4, .int 0)] := lv_sub hl [1, 2, 3, 0] rfl
  exact L_3 11 t 0 _ _ _ hok hfr ⟨by decide, by decide⟩ (show (10 : Int) - 0 < ((11 : Nat) : Int) from by omega) hP hD hS (lv_sub hl [0, 1, 2, 3] rfl)

theorem dX7_printInstruction_0 : decode cX7_printInstruction 0 = .ok (.aload_n 0, 1) := by decide +kernel
theorem dX7_printInstruction_1 : decode cX7_printInstruction 1 = .ok (.getfield 25, 3) := by decide +kernel
theorem dX7_printInstruction_10 : decode cX7_printInstruction 10 = .ok (.iload_n 2, 1) := by decide +kernel
theorem dX7_printInstruction_11 : decode cX7_printInstruction 11 = .ok (.bipush 18, 2) := by decide +kernel
theorem dX7_printInstruction_13 : decode cX7_printInstruction 13 = .ok (.ishr, 1) := by decide +kernel
theorem dX7_printInstruction_14 : decode cX7_printInstruction 14 = .ok (.sipush 4095, 3) := by decide +kernel
theorem dX7_printInstruction_17 : decode cX7_printInstruction 17 = .ok (.iand, 1) := by decide +kernel
theorem dX7_printInstruction_18 : decode cX7_printInstruction 18 = .ok (.ior, 1) := by decide +kernel
theorem dX7_printInstruction_19 : decode cX7_printInstruction 19 = .ok (.invokevirtual 83, 3) := by decide +kernel
theorem dX7_printInstruction_22 : decode cX7_printInstruction 22 = .ok (.aload_n 0, 1) := by decide +kernel
theorem dX7_printInstruction_23 : decode cX7_printInstruction 23 = .ok (.getfield 25, 3) := by decide +kernel
theorem dX7_printInstruction_26 : decode cX7_printInstruction 26 = .ok (.iload_n 1, 1) := by decide +kernel
theorem dX7_printInstruction_27 : decode cX7_printInstruction 27 = .ok (.bipush 6, 2) := by decide +kernel
theorem dX7_printInstruction_29 : decode cX7_printInstruction 29 = .ok (.iadd, 1) := by decide +kernel
theorem dX7_printInstruction_30 : decode cX7_printInstruction 30 = .ok (.iconst 2, 1) := by decide +kernel
theorem dX7_printInstruction_31 : decode cX7_printInstruction 31 = .ok (.iload_n 2, 1) := by decide +kernel
theorem dX7_printInstruction_32 : decode cX7_printInstruction 32 = .ok (.iconst 3, 1) := by decide +kernel
theorem dX7_printInstruction_33 : decode cX7_printInstruction 33 = .ok (.invokestatic 87, 3) := by decide +kernel
theorem dX7_printInstruction_36 : decode cX7_printInstruction 36 = .ok (.i2l, 1) := by decide +kernel
theorem dX7_printInstruction_37 : decode cX7_printInstruction 37 = .ok (.invokevirtual 42, 3) := by decide +kernel
theorem dX7_printInstruction_4 : decode cX7_printInstruction 4 = .ok (.iload_n 1, 1) := by decide +kernel
theorem dX7_printInstruction_40 : decode cX7_printInstruction 40 = .ok (.aload_n 0, 1) := by decide +kernel
theorem dX7_printInstruction_41 : decode cX7_printInstruction 41 = .ok (.getfield 25, 3) := by decide +kernel
theorem dX7_printInstruction_44 : decode cX7_printInstruction 44 = .ok (.iload_n 1, 1) := by decide +kernel
theorem dX7_printInstruction_45 : decode cX7_printInstruction 45 = .ok (.bipush 9, 2) := by decide +kernel
theorem dX7_printInstruction_47 : decode cX7_printInstruction 47 = .ok (.iadd, 1) := by decide +kernel
theorem dX7_printInstruction_48 : decode cX7_printInstruction 48 = .ok (.iconst 2, 1) := by decide +kernel
theorem dX7_printInstruction_49 : decode cX7_printInstruction 49 = .ok (.iload_n 2, 1) := by decide +kernel
theorem dX7_printInstruction_5 : decode cX7_printInstruction 5 = .ok (.iconst 4, 1) := by decide +kernel
theorem dX7_printInstruction_50 : decode cX7_printInstruction 50 = .ok (.iconst 4, 1) := by decide +kernel
theorem dX7_printInstruction_51 : decode cX7_printInstruction 51 = .ok (.invokestatic 87, 3) := by decide +kernel
theorem dX7_printInstruction_54 : decode cX7_printInstruction 54 = .ok (.i2l, 1) := by decide +kernel
theorem dX7_printInstruction_55 : decode cX7_printInstruction 55 = .ok (.invokevirtual 42, 3) := by decide +kernel
theorem dX7_printInstruction_58 : decode cX7_printInstruction 58 = .ok (.aload_n 0, 1) := by decide +kernel
theorem dX7_printInstruction_59 : decode cX7_printInstruction 59 = .ok (.getfield 25, 3) := by decide +kernel
theorem dX7_printInstruction_6 : decode cX7_printInstruction 6 = .ok (.iload_n 2, 1) := by decide +kernel
theorem dX7_printInstruction_62 : decode cX7_printInstruction 62 = .ok (.iload_n 1, 1) := by decide +kernel
theorem dX7_printInstruction_63 : decode cX7_printInstruction 63 = .ok (.bipush 12, 2) := by decide +kernel
theorem dX7_printInstruction_65 : decode cX7_printInstruction 65 = .ok (.iadd, 1) := by decide +kernel
theorem dX7_printInstruction_66 : decode cX7_printInstruction 66 = .ok (.iconst 2, 1) := by decide +kernel
theorem dX7_printInstruction_67 : decode cX7_printInstruction 67 = .ok (.iload_n 2, 1) := by decide +kernel
theorem dX7_printInstruction_68 : decode cX7_printInstruction 68 = .ok (.iconst 5, 1) := by decide +kernel
theorem dX7_printInstruction_69 : decode cX7_printInstruction 69 = .ok (.invokestatic 87, 3) := by decide +kernel
theorem dX7_printInstruction_7 : decode cX7_printInstruction 7 = .ok (.ldc 73, 2) := by decide +kernel
theorem dX7_printInstruction_72 : decode cX7_printInstruction 72 = .ok (.i2l, 1) := by decide +kernel
theorem dX7_printInstruction_73 : decode cX7_printInstruction 73 = .ok (.invokevirtual 42, 3) := by decide +kernel
theorem dX7_printInstruction_76 : decode cX7_printInstruction 76 = .ok (.return_, 1) := by decide +kernel
theorem dX7_printInstruction_9 : decode cX7_printInstruction 9 = .ok (.iand, 1) := by decide +kernel
set_option maxHeartbeats 4000000 in
set_option maxRecDepth 100000 in
theorem T_X7_printInstruction (l : Launch) (D : va_G) (K : Nat → ClassId) (Z Y : Nat → Nat) (ad : Nat → Nat) (d : dSt) (t : tSt) (hok : okX t) (x1 : Int32) (hx1 : (6 : Int) ≤ x1.toInt ∧ x1.toInt ≤ 7) (x2 : Int32) : tMet l yX7_printInstruction cX7_printInstruction 3 none (rmD 3 0 0) D K Z Y [.ref (ad 6), .int x1, .int x2] ((WX d) K ad t) (QV D K (fun (u : tSt) => okX u ∧ frA [] [] [37] [] t u) (fun (u : tSt) => (WX d) K ad u)) 0 0 := by
  refine t_met RX7 ⟨rfl, by decide +kernel⟩ (Nat.le_of_ble_eq_true rfl) ?_
  intro p e s m below meth c A ls C hE hZ hr hlocks hA hP hD hS hl
  have hl : lv_has ls 3 [(0, .ref (ad 6)), (1, .int x1), (2, .int x2)] := hl
  have hokt := hok
  have hfr : frA [] [] [37] [] t t := frA_rf
  refine lv_aload_n C.1 C.2.1 dX7_printInstruction_0 rfl (lv_at hl 0 rfl) ?_
  refine k_get (v := .ref (ad 20)) C hP 6 rfl rfl inlX7 2 (by decide) m_6_14 rfl dX7_printInstruction_1 ?_
  refine lv_iload_n C.1 C.2.1 dX7_printInstruction_4 rfl (lv_at hl 1 rfl) ?_
  refine lv_iconst (v := 4) C.1 C.2.1 dX7_printInstruction_5 (by decide) ?_
  refine lv_iload_n C.1 C.2.1 dX7_printInstruction_6 rfl (lv_at hl 2 rfl) ?_
  refine lv_ldc (v := 1073741824) C.1 C.2.1 C.2.2.2.1 (C.2.2.2.2.1 _ m_55_19) dX7_printInstruction_7 ?_
  obtain ⟨v_1, e_2⟩ : ∃ z, z = (x2 : Int32) &&& (1073741824 : Int32) := ⟨_, rfl⟩
  have h_3 : (0 : Int) ≤ v_1.toInt ∧ v_1.toInt ≤ 1073741824 := by rw [e_2]; exact z_and _ (k := 1073741824) (by decide) (by decide)
  refine k_iand (v := v_1) C e_2.symm dX7_printInstruction_9 ?_
  refine lv_iload_n C.1 C.2.1 dX7_printInstruction_10 rfl (lv_at hl 2 rfl) ?_
  refine lv_bipush (v := 18) C.1 C.2.1 dX7_printInstruction_11 (by decide) ?_
  obtain ⟨v_4, e_5⟩ : ∃ z, z = (x2 : Int32) >>> ((18 : Int32) &&& 31) := ⟨_, rfl⟩
  have h_6 : v_4.toInt = x2.toInt / 2 ^ 18 := by rw [e_5]; exact Jvm.Kit.i32_shr _ _ (k := 18) (by decide)
  refine k_ishr (v := v_4) C e_5.symm dX7_printInstruction_13 ?_
  refine lv_sipush (v := 4095) C.1 C.2.1 dX7_printInstruction_14 (by decide) ?_
  obtain ⟨v_7, e_8⟩ : ∃ z, z = (v_4 : Int32) &&& (4095 : Int32) := ⟨_, rfl⟩
  have h_9 : v_7.toInt = v_4.toInt % 2 ^ 12 := by rw [e_8]; exact Jvm.Kit.i32_mask _ _ (k := 12) (by decide) (by decide)
  refine k_iand (v := v_7) C e_8.symm dX7_printInstruction_17 ?_
  obtain ⟨v_10, e_11⟩ : ∃ z, z = (v_1 : Int32) ||| (v_7 : Int32) := ⟨_, rfl⟩
  have h_12 : (0 : Int) ≤ v_10.toInt ∧ v_10.toInt ≤ 2147483647 := by rw [e_11]; exact z_or (k := 31) (by decide) (by show (0 : Int) ≤ v_1.toInt; omega) (by show v_1.toInt < (_ : Int); omega) (by show (0 : Int) ≤ v_7.toInt; omega) (by show v_7.toInt < (_ : Int); omega)
  refine k_ior (v := v_10) C e_11.symm dX7_printInstruction_18 ?_
  refine g_Vv (As := [.int x1, .int 4, .int v_10]) (rest := []) C hP hD hS hA (T_X4_signed l D K Z Y ad d t hok (x1) (show (1 : Int) ≤ (x1 : Int32).toInt ∧ (x1 : Int32).toInt ≤ 63 from ⟨by omega, by omega⟩) 4 (show (4 : Int) ≤ (4 : Int32).toInt ∧ (4 : Int32).toInt ≤ 10 from ⟨by decide, by decide⟩) (v_10)) hE hZ (uwV m_55_8 m_55_9 m_55_10 m_3_20 m_55_11) (hdV 3 (by decide +kernel) rfl) ⟨Nat.le_of_ble_eq_true rfl, Nat.le_of_ble_eq_true rfl⟩ rfl rfl (ci := 3) (q0 := 20) rfl rfl rfl hl.1 (Nat.le_of_ble_eq_true rfl) dX7_printInstruction_19 ⟨Nat.le_of_ble_eq_true rfl, Nat.le_of_ble_eq_true rfl⟩ (fun t_13 H locs hw hP hD hS => ?_)
  obtain ⟨hok, f_15⟩ := hw
  have hfr : frA [] [] [37] [] t t_13 := frA_tr hfr f_15 rfl
  refine lv_aload_n C.1 C.2.1 dX7_printInstruction_22 rfl (lv_at hl 0 rfl) ?_
  refine k_get (v := .ref (ad 20)) C hP 6 rfl rfl inlX7 2 (by decide) m_6_14 rfl dX7_printInstruction_23 ?_
  refine lv_iload_n C.1 C.2.1 dX7_printInstruction_26 rfl (lv_at hl 1 rfl) ?_
  refine lv_bipush (v := 6) C.1 C.2.1 dX7_printInstruction_27 (by decide) ?_
  obtain ⟨v_16, e_17⟩ : ∃ z, z = (x1 : Int32) + (6 : Int32) := ⟨_, rfl⟩
  have h_18 : v_16.toInt = x1.toInt + 6 := by rw [e_17]; exact ti_iadd (by show (_ : Int) ≤ x1.toInt + 6; omega) (by show x1.toInt + 6 < (_ : Int); omega)
  refine k_iadd (v := v_16) C e_17.symm dX7_printInstruction_29 ?_
  refine lv_iconst (v := 2) C.1 C.2.1 dX7_printInstruction_30 (by decide) ?_
  refine lv_iload_n C.1 C.2.1 dX7_printInstruction_31 rfl (lv_at hl 2 rfl) ?_
  refine lv_iconst (v := 3) C.1 C.2.1 dX7_printInstruction_32 (by decide) ?_
  refine g_Si (As := [.int x2, .int 3]) (rest := [.int 2, .int v_16, .ref (ad 20)]) C hP hD hS hA (T_X1_byteOf l D K Z Y ad d t_13 hok (x2) 3 (show (1 : Int) ≤ (3 : Int32).toInt ∧ (3 : Int32).toInt ≤ 5 from ⟨by decide, by decide⟩)) hE hZ (uwS m_55_20 m_47_14 m_14_2 m_47_15) (hdS 2 (by decide +kernel) rfl) ⟨Nat.le_of_ble_eq_true rfl, Nat.le_of_ble_eq_true rfl⟩ rfl rfl rfl hl.1 (Nat.le_of_ble_eq_true rfl) dX7_printInstruction_33 ⟨Nat.le_of_ble_eq_true rfl, Nat.le_of_ble_eq_true rfl⟩ (fun r_20 t_19 H locs hw hP hD hS => ?_)
  obtain ⟨h_22, h_23⟩ := hw
  obtain ⟨v_24, e_25⟩ : ∃ z, z = (r_20 : Int32).toInt64 := ⟨_, rfl⟩
  have h_26 : v_24.toInt = r_20.toInt := by rw [e_25]; exact Jvm.Kit.i64_of_i32 _
  refine lv_i2l (v := v_24) C.1 C.2.1 dX7_printInstruction_36 e_25.symm ?_
  have h_27 : (2 : Int32).toInt = 2 := rfl
  refine g_Vv (As := [.int v_16, .int 2, .long v_24]) (rest := []) C hP hD hS hA (T_X4_digits l D K Z Y ad d t_13 hok (v_16) (show (0 : Int) ≤ (v_16 : Int32).toInt ∧ (v_16 : Int32).toInt ≤ 200 from ⟨by omega, by omega⟩) 2 (show (1 : Int) ≤ (2 : Int32).toInt ∧ (2 : Int32).toInt ≤ 10 from ⟨by decide, by decide⟩) (v_24) (show 0 ≤ (2 : Int32).toInt from by omega)) hE hZ (uwV m_40_18 m_40_19 m_40_20 m_3_20 m_40_21) (hdV 3 (by decide +kernel) rfl) ⟨Nat.le_of_ble_eq_true rfl, Nat.le_of_ble_eq_true rfl⟩ rfl rfl (ci := 3) (q0 := 20) rfl rfl rfl hl.1 (Nat.le_of_ble_eq_true rfl) dX7_printInstruction_37 ⟨Nat.le_of_ble_eq_true rfl, Nat.le_of_ble_eq_true rfl⟩ (fun t_28 H locs hw hP hD hS => ?_)
  obtain ⟨hok, f_30⟩ := hw
  have hfr : frA [] [] [37] [] t t_28 := frA_tr hfr f_30 rfl
  refine lv_aload_n C.1 C.2.1 dX7_printInstruction_40 rfl (lv_at hl 0 rfl) ?_
  refine k_get (v := .ref (ad 20)) C hP 6 rfl rfl inlX7 2 (by decide) m_6_14 rfl dX7_printInstruction_41 ?_
  refine lv_iload_n C.1 C.2.1 dX7_printInstruction_44 rfl (lv_at hl 1 rfl) ?_
  refine lv_bipush (v := 9) C.1 C.2.1 dX7_printInstruction_45 (by decide) ?_
  obtain ⟨v_31, e_32⟩ : ∃ z, z = (x1 : Int32) + (9 : Int32) := ⟨_, rfl⟩
  have h_33 : v_31.toInt = x1.toInt + 9 := by rw [e_32]; exact ti_iadd (by show (_ : Int) ≤ x1.toInt + 9; omega) (by show x1.toInt + 9 < (_ : Int); omega)
  refine k_iadd (v := v_31) C e_32.symm dX7_printInstruction_47 ?_
  refine lv_iconst (v := 2) C.1 C.2.1 dX7_printInstruction_48 (by decide) ?_
  refine lv_iload_n C.1 C.2.1 dX7_printInstruction_49 rfl (lv_at hl 2 rfl) ?_
  refine lv_iconst (v := 4) C.1 C.2.1 dX7_printInstruction_50 (by decide) ?_
  refine g_Si (As := [.int x2, .int 4]) (rest := [.int 2, .int v_31, .ref (ad 20)]) C hP hD hS hA (T_X1_byteOf l D K Z Y ad d t_28 hok (x2) 4 (show (1 : Int) ≤ (4 : Int32).toInt ∧ (4 : Int32).toInt ≤ 5 from ⟨by decide, by decide⟩)) hE hZ (uwS m_55_20 m_47_14 m_14_2 m_47_15) (hdS 2 (by decide +kernel) rfl) ⟨Nat.le_of_ble_eq_true rfl, Nat.le_of_ble_eq_true rfl⟩ rfl rfl rfl hl.1 (Nat.le_of_ble_eq_true rfl) dX7_printInstruction_51 ⟨Nat.le_of_ble_eq_true rfl, Nat.le_of_ble_eq_true rfl⟩ (fun r_35 t_34 H locs hw hP hD hS => ?_)
  obtain ⟨h_37, h_38⟩ := hw
  obtain ⟨v_39, e_40⟩ : ∃ z, z = (r_35 : Int32).toInt64 := ⟨_, rfl⟩
  have h_41 : v_39.toInt = r_35.toInt := by rw [e_40]; exact Jvm.Kit.i64_of_i32 _
  refine lv_i2l (v := v_39) C.1 C.2.1 dX7_printInstruction_54 e_40.symm ?_
  refine g_Vv (As := [.int v_31, .int 2, .long v_39]) (rest := []) C hP hD hS hA (T_X4_digits l D K Z Y ad d t_28 hok (v_31) (show (0 : Int) ≤ (v_31 : Int32).toInt ∧ (v_31 : Int32).toInt ≤ 200 from ⟨by omega, by omega⟩) 2 (show (1 : Int) ≤ (2 : Int32).toInt ∧ (2 : Int32).toInt ≤ 10 from ⟨by decide, by decide⟩) (v_39) (show 0 ≤ (2 : Int32).toInt from by omega)) hE hZ (uwV m_40_18 m_40_19 m_40_20 m_3_20 m_40_21) (hdV 3 (by decide +kernel) rfl) ⟨Nat.le_of_ble_eq_true rfl, Nat.le_of_ble_eq_true rfl⟩ rfl rfl (ci := 3) (q0 := 20) rfl rfl rfl hl.1 (Nat.le_of_ble_eq_true rfl) dX7_printInstruction_55 ⟨Nat.le_of_ble_eq_true rfl, Nat.le_of_ble_eq_true rfl⟩ (fun t_42 H locs hw hP hD hS => ?_)
  obtain ⟨hok, f_44⟩ := hw
  have hfr : frA [] [] [37] [] t t_42 := frA_tr hfr f_44 rfl
  refine lv_aload_n C.1 C.2.1 dX7_printInstruction_58 rfl (lv_at hl 0 rfl) ?_
  refine k_get (v := .ref (ad 20)) C hP 6 rfl rfl inlX7 2 (by decide) m_6_14 rfl dX7_printInstruction_59 ?_
  refine lv_iload_n C.1 C.2.1 dX7_printInstruction_62 rfl (lv_at hl 1 rfl) ?_
  refine lv_bipush (v := 12) C.1 C.2.1 dX7_printInstruction_63 (by decide) ?_
  obtain ⟨v_45, e_46⟩ : ∃ z, z = (x1 : Int32) + (12 : Int32) := ⟨_, rfl⟩
  have h_47 : v_45.toInt = x1.toInt + 12 := by rw [e_46]; exact ti_iadd (by show (_ : Int) ≤ x1.toInt + 12; omega) (by show x1.toInt + 12 < (_ : Int); omega)
  refine k_iadd (v := v_45) C e_46.symm dX7_printInstruction_65 ?_
  refine lv_iconst (v := 2) C.1 C.2.1 dX7_printInstruction_66 (by decide) ?_
  refine lv_iload_n C.1 C.2.1 dX7_printInstruction_67 rfl (lv_at hl 2 rfl) ?_
  refine lv_iconst (v := 5) C.1 C.2.1 dX7_printInstruction_68 (by decide) ?_
  refine g_Si (As := [.int x2, .int 5]) (rest := [.int 2, .int v_45, .ref (ad 20)]) C hP hD hS hA (T_X1_byteOf l D K Z Y ad d t_42 hok (x2) 5 (show (1 : Int) ≤ (5 : Int32).toInt ∧ (5 : Int32).toInt ≤ 5 from ⟨by decide, by decide⟩)) hE hZ (uwS m_55_20 m_47_14 m_14_2 m_47_15) (hdS 2 (by decide +kernel) rfl) ⟨Nat.le_of_ble_eq_true rfl, Nat.le_of_ble_eq_true rfl⟩ rfl rfl rfl hl.1 (Nat.le_of_ble_eq_true rfl) dX7_printInstruction_69 ⟨Nat.le_of_ble_eq_true rfl, Nat.le_of_ble_eq_true rfl⟩ (fun r_49 t_48 H locs hw hP hD hS => ?_)
  obtain ⟨h_51, h_52⟩ := hw
  obtain ⟨v_53, e_54⟩ : ∃ z, z = (r_49 : Int32).toInt64 := ⟨_, rfl⟩
  have h_55 : v_53.toInt = r_49.toInt := by rw [e_54]; exact Jvm.Kit.i64_of_i32 _
  refine lv_i2l (v := v_53) C.1 C.2.1 dX7_printInstruction_72 e_54.symm ?_
  refine g_Vv (As := [.int v_45, .int 2, .long v_53]) (rest := []) C hP hD hS hA (T_X4_digits l D K Z Y ad d t_42 hok (v_45) (show (0 : Int) ≤ (v_45 : Int32).toInt ∧ (v_45 : Int32).toInt ≤ 200 from ⟨by omega, by omega⟩) 2 (show (1 : Int) ≤ (2 : Int32).toInt ∧ (2 : Int32).toInt ≤ 10 from ⟨by decide, by decide⟩) (v_53) (show 0 ≤ (2 : Int32).toInt from by omega)) hE hZ (uwV m_40_18 m_40_19 m_40_20 m_3_20 m_40_21) (hdV 3 (by decide +kernel) rfl) ⟨Nat.le_of_ble_eq_true rfl, Nat.le_of_ble_eq_true rfl⟩ rfl rfl (ci := 3) (q0 := 20) rfl rfl rfl hl.1 (Nat.le_of_ble_eq_true rfl) dX7_printInstruction_73 ⟨Nat.le_of_ble_eq_true rfl, Nat.le_of_ble_eq_true rfl⟩ (fun t_56 H locs hw hP hD hS => ?_)
  obtain ⟨hok, f_58⟩ := hw
  have hfr : frA [] [] [37] [] t t_56 := frA_tr hfr f_58 rfl
  exact g_vret C hr hlocks hP hD hS t_56 rfl ⟨hok, hfr⟩ (Nat.le_of_ble_eq_true rfl) (Nat.le_of_ble_eq_true rfl) dX7_printInstruction_76

theorem dX7_punchWord_0 : decode cX7_punchWord 0 = .ok (.iload_n 2, 1) := by decide +kernel
theorem dX7_punchWord_1 : decode cX7_punchWord 1 = .ok (.ldc 72, 2) := by decide +kernel
theorem dX7_punchWord_10 : decode cX7_punchWord 10 = .ok (.bipush 10, 2) := by decide +kernel
theorem dX7_punchWord_12 : decode cX7_punchWord 12 = .ok (.iload_n 3, 1) := by decide +kernel
theorem dX7_punchWord_13 : decode cX7_punchWord 13 = .ok (.i2l, 1) := by decide +kernel
theorem dX7_punchWord_14 : decode cX7_punchWord 14 = .ok (.invokevirtual 42, 3) := by decide +kernel
theorem dX7_punchWord_17 : decode cX7_punchWord 17 = .ok (.iload_n 2, 1) := by decide +kernel
theorem dX7_punchWord_18 : decode cX7_punchWord 18 = .ok (.ldc 73, 2) := by decide +kernel
theorem dX7_punchWord_20 : decode cX7_punchWord 20 = .ok (.iand, 1) := by decide +kernel
theorem dX7_punchWord_21 : decode cX7_punchWord 21 = .ok (.ifCond .eq 35, 3) := by decide +kernel
theorem dX7_punchWord_24 : decode cX7_punchWord 24 = .ok (.iload_n 3, 1) := by decide +kernel
theorem dX7_punchWord_25 : decode cX7_punchWord 25 = .ok (.bipush 10, 2) := by decide +kernel
theorem dX7_punchWord_27 : decode cX7_punchWord 27 = .ok (.irem, 1) := by decide +kernel
theorem dX7_punchWord_28 : decode cX7_punchWord 28 = .ok (.istore 4, 2) := by decide +kernel
theorem dX7_punchWord_3 : decode cX7_punchWord 3 = .ok (.iand, 1) := by decide +kernel
theorem dX7_punchWord_30 : decode cX7_punchWord 30 = .ok (.aload_n 0, 1) := by decide +kernel
theorem dX7_punchWord_31 : decode cX7_punchWord 31 = .ok (.getfield 29, 3) := by decide +kernel
theorem dX7_punchWord_34 : decode cX7_punchWord 34 = .ok (.iload_n 1, 1) := by decide +kernel
theorem dX7_punchWord_35 : decode cX7_punchWord 35 = .ok (.bipush 9, 2) := by decide +kernel
theorem dX7_punchWord_37 : decode cX7_punchWord 37 = .ok (.iadd, 1) := by decide +kernel
theorem dX7_punchWord_38 : decode cX7_punchWord 38 = .ok (.iload 4, 2) := by decide +kernel
theorem dX7_punchWord_4 : decode cX7_punchWord 4 = .ok (.istore_n 3, 1) := by decide +kernel
theorem dX7_punchWord_40 : decode cX7_punchWord 40 = .ok (.ifCond .ne 8, 3) := by decide +kernel
theorem dX7_punchWord_43 : decode cX7_punchWord 43 = .ok (.bipush 126, 2) := by decide +kernel
theorem dX7_punchWord_45 : decode cX7_punchWord 45 = .ok (.goto 8, 3) := by decide +kernel
theorem dX7_punchWord_48 : decode cX7_punchWord 48 = .ok (.bipush 73, 2) := by decide +kernel
theorem dX7_punchWord_5 : decode cX7_punchWord 5 = .ok (.aload_n 0, 1) := by decide +kernel
theorem dX7_punchWord_50 : decode cX7_punchWord 50 = .ok (.iload 4, 2) := by decide +kernel
theorem dX7_punchWord_52 : decode cX7_punchWord 52 = .ok (.iadd, 1) := by decide +kernel
theorem dX7_punchWord_53 : decode cX7_punchWord 53 = .ok (.invokevirtual 74, 3) := by decide +kernel
theorem dX7_punchWord_56 : decode cX7_punchWord 56 = .ok (.return_, 1) := by decide +kernel
theorem dX7_punchWord_6 : decode cX7_punchWord 6 = .ok (.getfield 29, 3) := by decide +kernel
theorem dX7_punchWord_9 : decode cX7_punchWord 9 = .ok (.iload_n 1, 1) := by decide +kernel
set_option maxHeartbeats 4000000 in
set_option maxRecDepth 100000 in
theorem T_X7_punchWord (l : Launch) (D : va_G) (K : Nat → ClassId) (Z Y : Nat → Nat) (ad : Nat → Nat) (d : dSt) (t : tSt) (hok : okX t) (x1 : Int32) (hx1 : (11 : Int) ≤ x1.toInt ∧ x1.toInt ≤ 72) (x2 : Int32) : tMet l yX7_punchWord cX7_punchWord 5 none (rmD 2 0 0) D K Z Y [.ref (ad 6), .int x1, .int x2] ((WX d) K ad t) (QV D K (fun (u : tSt) => okX u ∧ frA [] [] [34] [] t u) (fun (u : tSt) => (WX d) K ad u)) 0 0 := by
  refine t_met RX7 ⟨rfl, by decide +kernel⟩ (Nat.le_of_ble_eq_true rfl) ?_
  intro p e s m below meth c A ls C hE hZ hr hlocks hA hP hD hS hl
  have hl : lv_has ls 5 [(0, .ref (ad 6)), (1, .int x1), (2, .int x2)] := hl
  have hokt := hok
  have hfr : frA [] [] [34] [] t t := frA_rf
  refine lv_iload_n C.1 C.2.1 dX7_punchWord_0 rfl (lv_at hl 2 rfl) ?_
  refine lv_ldc (v := 1073741823) C.1 C.2.1 C.2.2.2.1 (C.2.2.2.2.1 _ m_65_23) dX7_punchWord_1 ?_
  obtain ⟨v_1, e_2⟩ : ∃ z, z = (x2 : Int32) &&& (1073741823 : Int32) := ⟨_, rfl⟩
  have h_3 : v_1.toInt = x2.toInt % 2 ^ 30 := by rw [e_2]; exact Jvm.Kit.i32_mask _ _ (k := 30) (by decide) (by decide)
  refine k_iand (v := v_1) C e_2.symm dX7_punchWord_3 ?_
  refine lv_istore_n (lv' := [(3, .int v_1), (0, .ref (ad 6)), (1, .int x1), (2, .int x2)]) C.1 C.2.1 dX7_punchWord_4 rfl hl (by decide) rfl (fun ls hl => ?_)
  have hl : lv_has ls 5 [(0, .ref (ad 6)), (1, .int x1), (2, .int x2), (3, .int v_1)] := lv_sub hl [1, 2, 3, 0] rfl
  refine lv_aload_n C.1 C.2.1 dX7_punchWord_5 rfl (lv_at hl 0 rfl) ?_
  refine k_get (v := .ref (ad 19)) C hP 6 rfl rfl inlX7 3 (by decide) m_6_16 rfl dX7_punchWord_6 ?_
  refine lv_iload_n C.1 C.2.1 dX7_punchWord_9 rfl (lv_at hl 1 rfl) ?_
  refine lv_bipush (v := 10) C.1 C.2.1 dX7_punchWord_10 (by decide) ?_
  refine lv_iload_n C.1 C.2.1 dX7_punchWord_12 rfl (lv_at hl 3 rfl) ?_
  obtain ⟨v_4, e_5⟩ : ∃ z, z = (v_1 : Int32).toInt64 := ⟨_, rfl⟩
  have h_6 : v_4.toInt = v_1.toInt := by rw [e_5]; exact Jvm.Kit.i64_of_i32 _
  refine lv_i2l (v := v_4) C.1 C.2.1 dX7_punchWord_13 e_5.symm ?_
  have h_7 : (10 : Int32).toInt = 10 := rfl
  refine g_Vv (As := [.int x1, .int 10, .long v_4]) (rest := []) C hP hD hS hA (T_X4_digits_1 l D K Z Y ad d t hok (x1) (show (6 : Int) ≤ (x1 : Int32).toInt ∧ (x1 : Int32).toInt ≤ 72 from ⟨by omega, by omega⟩) 10 (show (1 : Int) ≤ (10 : Int32).toInt ∧ (10 : Int32).toInt ≤ 10 from ⟨by decide, by decide⟩) (v_4) (show (0 : Int) ≤ (v_4 : Int64).toInt ∧ (v_4 : Int64).toInt ≤ 9223372036854775807 from ⟨by omega, by omega⟩) (show 0 ≤ (10 : Int32).toInt from by omega)) hE hZ (uwV m_40_18 m_40_19 m_40_20 m_3_20 m_40_21) (hdV 3 (by decide +kernel) rfl) ⟨Nat.le_of_ble_eq_true rfl, Nat.le_of_ble_eq_true rfl⟩ rfl rfl (ci := 3) (q0 := 19) rfl rfl rfl hl.1 (Nat.le_of_ble_eq_true rfl) dX7_punchWord_14 ⟨Nat.le_of_ble_eq_true rfl, Nat.le_of_ble_eq_true rfl⟩ (fun t_8 H locs hw hP hD hS => ?_)
  obtain ⟨hok, f_10⟩ := hw
  have hfr : frA [] [] [34] [] t t_8 := frA_tr hfr f_10 rfl
  refine lv_iload_n C.1 C.2.1 dX7_punchWord_17 rfl (lv_at hl 2 rfl) ?_
  refine lv_ldc (v := 1073741824) C.1 C.2.1 C.2.2.2.1 (C.2.2.2.2.1 _ m_55_19) dX7_punchWord_18 ?_
  obtain ⟨v_11, e_12⟩ : ∃ z, z = (x2 : Int32) &&& (1073741824 : Int32) := ⟨_, rfl⟩
  have h_13 : (0 : Int) ≤ v_11.toInt ∧ v_11.toInt ≤ 1073741824 := by rw [e_12]; exact z_and _ (k := 1073741824) (by decide) (by decide)
  refine k_iand (v := v_11) C e_12.symm dX7_punchWord_20 ?_
  refine lv_if_eq (tgt := 56) C.1 C.2.1 dX7_punchWord_21 (by decide) (fun c_14 => ?_) (fun c_14 => ?_)
  · replace c_14 : v_11.toInt = 0 := i_eq c_14
    exact g_vret C hr hlocks hP hD hS t_8 rfl ⟨hok, hfr⟩ (Nat.le_of_ble_eq_true rfl) (Nat.le_of_ble_eq_true rfl) dX7_punchWord_56
  · replace c_14 : ¬ v_11.toInt = 0 := i_ne c_14
    refine lv_iload_n C.1 C.2.1 dX7_punchWord_24 rfl (lv_at hl 3 rfl) ?_
    refine lv_bipush (v := 10) C.1 C.2.1 dX7_punchWord_25 (by decide) ?_
    obtain ⟨v_15, e_16⟩ : ∃ z, z = (v_1 : Int32) - (v_1 : Int32) / (10 : Int32) * (10 : Int32) := ⟨_, rfl⟩
    have h_17 : v_15.toInt = v_1.toInt % 10 := by rw [e_16]; exact z_remp (k := 10) (by decide) (by show (0 : Int) ≤ v_1.toInt; omega)
    refine k_irem (v := v_15) C (by decide) e_16.symm dX7_punchWord_27 ?_
    refine lv_istore (lv' := [(4, .int v_15), (0, .ref (ad 6)), (1, .int x1), (2, .int x2), (3, .int v_1)]) C.1 C.2.1 dX7_punchWord_28 hl (by decide) rfl (fun ls hl => ?_)
    have hl : lv_has ls 5 [(0, .ref (ad 6)), (1, .int x1), (2, .int x2), (3, .int v_1), (4, .int v_15)] := lv_sub hl [1, 2, 3, 4, 0] rfl
    refine lv_aload_n C.1 C.2.1 dX7_punchWord_30 rfl (lv_at hl 0 rfl) ?_
    refine k_get (v := .ref (ad 19)) C hP 6 rfl rfl inlX7 3 (by decide) m_6_16 rfl dX7_punchWord_31 ?_
    refine lv_iload_n C.1 C.2.1 dX7_punchWord_34 rfl (lv_at hl 1 rfl) ?_
    refine lv_bipush (v := 9) C.1 C.2.1 dX7_punchWord_35 (by decide) ?_
    obtain ⟨v_18, e_19⟩ : ∃ z, z = (x1 : Int32) + (9 : Int32) := ⟨_, rfl⟩
    have h_20 : v_18.toInt = x1.toInt + 9 := by rw [e_19]; exact ti_iadd (by show (_ : Int) ≤ x1.toInt + 9; omega) (by show x1.toInt + 9 < (_ : Int); omega)
    refine k_iadd (v := v_18) C e_19.symm dX7_punchWord_37 ?_
    refine lv_iload C.1 C.2.1 dX7_punchWord_38 (lv_at hl 4 rfl) ?_
    refine lv_if_ne (tgt := 48) C.1 C.2.1 dX7_punchWord_40 (by decide) (fun c_21 => ?_) (fun c_21 => ?_)
    · replace c_21 : ¬ v_15.toInt = 0 := i_ne c_21
      refine lv_bipush (v := 73) C.1 C.2.1 dX7_punchWord_48 (by decide) ?_
      refine lv_iload C.1 C.2.1 dX7_punchWord_50 (lv_at hl 4 rfl) ?_
      obtain ⟨v_22, e_23⟩ : ∃ z, z = (73 : Int32) + (v_15 : Int32) := ⟨_, rfl⟩
      have h_24 : v_22.toInt = 73 + v_15.toInt := by rw [e_23]; exact ti_iadd (by show (_ : Int) ≤ 73 + v_15.toInt; omega) (by show 73 + v_15.toInt < (_ : Int); omega)
      refine k_iadd (v := v_22) C e_23.symm dX7_punchWord_52 ?_
      refine g_Vv (As := [.int v_18, .int v_22]) (rest := []) C hP hD hS hA (T_X4_mark_1 l D K Z Y ad d t_8 hok (v_18) (show (1 : Int) ≤ (v_18 : Int32).toInt ∧ (v_18 : Int32).toInt ≤ 2147483647 from ⟨by omega, (i_rng _).2⟩) (v_22) (show (0 : Int) ≤ (v_22 : Int32).toInt ∧ (v_22 : Int32).toInt ≤ 255 from ⟨by omega, by omega⟩)) hE hZ (uwV m_56_4 m_41_0 m_41_1 m_3_20 m_41_2) (hdV 2 (by decide +kernel) rfl) ⟨Nat.le_of_ble_eq_true rfl, Nat.le_of_ble_eq_true rfl⟩ rfl rfl (ci := 3) (q0 := 19) rfl rfl rfl hl.1 (Nat.le_of_ble_eq_true rfl) dX7_punchWord_53 ⟨Nat.le_of_ble_eq_true rfl, Nat.le_of_ble_eq_true rfl⟩ (fun t_25 H locs hw hP hD hS => ?_)
      obtain ⟨hok, f_27⟩ := hw
      have hfr : frA [] [] [34] [] t t_25 := frA_tr hfr f_27 rfl
      exact g_vret C hr hlocks hP hD hS t_25 rfl ⟨hok, hfr⟩ (Nat.le_of_ble_eq_true rfl) (Nat.le_of_ble_eq_true rfl) dX7_punchWord_56
    · replace c_21 : v_15.toInt = 0 := i_eq c_21
      refine lv_bipush (v := 126) C.1 C.2.1 dX7_punchWord_43 (by decide) ?_
      refine lv_goto (tgt := 53) C.1 C.2.1 dX7_punchWord_45 (by decide) ?_
      refine g_Vv (As := [.int v_18, .int 126]) (rest := []) C hP hD hS hA (T_X4_mark_1 l D K Z Y ad d t_8 hok (v_18) (show (1 : Int) ≤ (v_18 : Int32).toInt ∧ (v_18 : Int32).toInt ≤ 2147483647 from ⟨by omega, (i_rng _).2⟩) 126 (show (0 : Int) ≤ (126 : Int32).toInt ∧ (126 : Int32).toInt ≤ 255 from ⟨by decide, by decide⟩)) hE hZ (uwV m_56_4 m_41_0 m_41_1 m_3_20 m_41_2) (hdV 2 (by decide +kernel) rfl) ⟨Nat.le_of_ble_eq_true rfl, Nat.le_of_ble_eq_true rfl⟩ rfl rfl (ci := 3) (q0 := 19) rfl rfl rfl hl.1 (Nat.le_of_ble_eq_true rfl) dX7_punchWord_53 ⟨Nat.le_of_ble_eq_true rfl, Nat.le_of_ble_eq_true rfl⟩ (fun t_28 H locs hw hP hD hS => ?_)
      obtain ⟨hok, f_30⟩ := hw
      have hfr : frA [] [] [34] [] t t_28 := frA_tr hfr f_30 rfl
      exact g_vret C hr hlocks hP hD hS t_28 rfl ⟨hok, hfr⟩ (Nat.le_of_ble_eq_true rfl) (Nat.le_of_ble_eq_true rfl) dX7_punchWord_56


set_option maxHeartbeats 4000000 in
set_option maxRecDepth 100000 in
theorem T_X9_digits_1 (l : Launch) (D : va_G) (K : Nat → ClassId) (Z Y : Nat → Nat) (ad : Nat → Nat) (d : dSt) (t : tSt) (hok : okX t) (x1 : Int32) (hx1 : (5 : Int) ≤ x1.toInt ∧ x1.toInt ≤ 72) (x2 : Int32) (hx2 : (1 : Int) ≤ x2.toInt ∧ x2.toInt ≤ 9) (hs0 : 0 ≤ x2.toInt) : tMet l yX9_digits cX9_digits 6 (some .long) (rmD 1 0 0) D K Z Y [.ref (ad 2), .int x1, .int x2] ((WX d) K ad t) (QL D K (fun (r : Int64) (u : Unit) => (x2.toInt ≤ 4 → -1 ≤ r.toInt ∧ r.toInt ≤ 9999)) (fun (_ : Unit) => (WX d) K ad t)) 0 0 := by
  refine t_met RX9 ⟨rfl, by decide +kernel⟩ (Nat.le_of_ble_eq_true rfl) ?_
  intro p e s m below meth c A ls C hE hZ hr hlocks hA hP hD hS hl
  have hl : lv_has ls 6 [(0, .ref (ad 2)), (1, .int x1), (2, .int x2)] := hl
  have L_5 : ∀ (fuel_5 : Nat) (w5_3 : Int64) (w5_5 : Int32) (H : Heap) (locs : List Loc) (ls : Array Slot), (5 : Int) ≤ w5_5.toInt ∧ w5_5.toInt ≤ 81 → (x1.toInt ≤ w5_5.toInt) → (w5_5.toInt ≤ x1.toInt + x2.toInt) → (0 ≤ x2.toInt) → (x2.toInt ≤ 4 → (w5_5.toInt = x1.toInt ∧ w5_3.toInt = 0 ∨ w5_5.toInt = x1.toInt + 1 ∧ 0 ≤ w5_3.toInt ∧ w5_3.toInt ≤ 9 ∨ w5_5.toInt = x1.toInt + 2 ∧ 0 ≤ w5_3.toInt ∧ w5_3.toInt ≤ 99 ∨ w5_5.toInt = x1.toInt + 3 ∧ 0 ≤ w5_3.toInt ∧ w5_3.toInt ≤ 999 ∨ w5_5.toInt = x1.toInt + 4 ∧ 0 ≤ w5_3.toInt ∧ w5_3.toInt ≤ 9999)) → (81 : Int) - w5_5.toInt < (fuel_5 : Int) → va_P D vwCl ((WX d) K ad t) H → va_D A ((WX d) K ad t) → va_S A s.heap H locs → lv_has ls 6 [(0, .ref (ad 2)), (1, .int x1), (2, .int x2), (3, .long w5_3), (5, .int w5_5)] → W p l e (rmD 1 0 0) s m [.ref (ad 2), .int x1, .int x2].toArray below meth c H locs 0 0 (MQ below (QL D K (fun (r : Int64) (u : Unit) => (x2.toInt ≤ 4 → -1 ≤ r.toInt ∧ r.toInt ≤ 9999)) (fun (_ : Unit) => (WX d) K ad t) A) [.ref (ad 2), .int x1, .int x2].toArray s 0 0 A) (F0 m 5 ls []) := by
    intro fuel_5
    induction fuel_5 with
    | zero =>
      intro w5_3 w5_5 H locs ls hw5_5 hi5_0 hi5_1 hi5_2 hi5_3 hm5_5 hP hD hS hl
      exact absurd hm5_5 (by omega)
    | succ fuel_5 ih_5 =>
      intro w5_3 w5_5 H locs ls hw5_5 hi5_0 hi5_1 hi5_2 hi5_3 hm5_5 hP hD hS hl
      have hm5_5 : (81 : Int) - w5_5.toInt < (fuel_5 : Int) + 1 := by omega
      refine lv_iload C.1 C.2.1 dX9_digits_5 (lv_at hl 4 rfl) ?_
      refine lv_iload_n C.1 C.2.1 dX9_digits_7 rfl (lv_at hl 1 rfl) ?_
      refine lv_iload_n C.1 C.2.1 dX9_digits_8 rfl (lv_at hl 2 rfl) ?_
      obtain ⟨v_1, e_2⟩ : ∃ z, z = (x1 : Int32) + (x2 : Int32) := ⟨_, rfl⟩
      have h_3 : v_1.toInt = x1.toInt + x2.toInt := by rw [e_2]; exact ti_iadd (by show (_ : Int) ≤ x1.toInt + x2.toInt; omega) (by show x1.toInt + x2.toInt < (_ : Int); omega)
      refine k_iadd (v := v_1) C e_2.symm dX9_digits_9 ?_
      refine lv_icmp_ge (tgt := 51) C.1 C.2.1 dX9_digits_10 (by decide) (fun c_4 => ?_) (fun c_4 => ?_)
      · replace c_4 : v_1.toInt ≤ w5_5.toInt := i_le c_4
        refine lv_lload_n C.1 C.2.1 dX9_digits_51 rfl (lv_at hl 3 rfl) ?_
        exact g_lret C hr hlocks hP hD hS () rfl (show x2.toInt ≤ 4 → -1 ≤ w5_3.toInt ∧ w5_3.toInt ≤ 9999 from by omega) (Nat.le_of_ble_eq_true rfl) (Nat.le_of_ble_eq_true rfl) dX9_digits_52
      · replace c_4 : w5_5.toInt < v_1.toInt := i_nle c_4
        refine lv_aload_n C.1 C.2.1 dX9_digits_13 rfl (lv_at hl 0 rfl) ?_
        refine lv_iload C.1 C.2.1 dX9_digits_14 (lv_at hl 4 rfl) ?_
        refine g_Vi (As := [.int w5_5]) (rest := []) C hP hD hS hA (T_X9_isDigitAt_1 l D K Z Y ad d t hok (w5_5) (show (5 : Int) ≤ (w5_5 : Int32).toInt ∧ (w5_5 : Int32).toInt ≤ 2147483647 from ⟨by omega, (i_rng _).2⟩)) hE hZ (uwV m_73_10 m_72_12 m_72_13 m_1_17 m_72_14) (hdV 1 (by decide +kernel) rfl) ⟨Nat.le_of_ble_eq_true rfl, Nat.le_of_ble_eq_true rfl⟩ rfl rfl (ci := 8) (q0 := 2) rfl rfl rfl hl.1 (Nat.le_of_ble_eq_true rfl) dX9_digits_16 ⟨Nat.le_of_ble_eq_true rfl, Nat.le_of_ble_eq_true rfl⟩ (fun r_6 t_5 H locs hw hP hD hS => ?_)
        obtain ⟨h_8, h_9, p_10, p_11⟩ := hw
        replace p_10 : r_6.toInt = 1 → 0 ≤ w5_5.toInt ∧ w5_5.toInt < 80 := p_10
        replace p_11 : r_6.toInt = 1 → 48 ≤ (t.2.2.1 9 (w5_5 : Int32).toNatClampNeg).toInt ∧ (t.2.2.1 9 (w5_5 : Int32).toNatClampNeg).toInt ≤ 57 := p_11
        refine lv_if_ne (tgt := 26) C.1 C.2.1 dX9_digits_19 (by decide) (fun c_12 => ?_) (fun c_12 => ?_)
        · replace c_12 : ¬ r_6.toInt = 0 := i_ne c_12
          refine lv_ldc2 (v := 10) C.1 C.2.1 C.2.2.2.1 (C.2.2.2.2.1 _ m_73_8) dX9_digits_26 ?_
          refine lv_lload_n C.1 C.2.1 dX9_digits_29 rfl (lv_at hl 3 rfl) ?_
          obtain ⟨v_13, e_14⟩ : ∃ z, z = (10 : Int64) * (w5_3 : Int64) := ⟨_, rfl⟩
          have hlm : x2.toInt ≤ 4 → v_13.toInt = 10 * w5_3.toInt := fun hq => by rw [e_14]; exact tl_mull (k := 10) (by decide) (by omega) (by omega)
          refine k_lmul (v := v_13) C e_14.symm dX9_digits_30 ?_
          refine lv_aload_n C.1 C.2.1 dX9_digits_31 rfl (lv_at hl 0 rfl) ?_
          refine k_get (v := .ref (ad 9)) C hP 2 rfl rfl inlX9 1 (by decide) m_2_23 rfl dX9_digits_32 ?_
          refine lv_iload C.1 C.2.1 dX9_digits_35 (lv_at hl 4 rfl) ?_
          have h_15 : (-128 : Int) ≤ (t.2.2.1 9 (w5_5 : Int32).toNatClampNeg).toInt ∧ (t.2.2.1 9 (w5_5 : Int32).toNatClampNeg).toInt ≤ 127 := hok.2.1 9 _
          refine k_bld (v := (t.2.2.1 9 (w5_5 : Int32).toNatClampNeg)) C hP 9 rfl (vp_in_iff.mpr ⟨by omega, by omega⟩) rfl dX9_digits_37 ?_
          obtain ⟨v_16, e_17⟩ : ∃ z, z = ((t.2.2.1 9 (w5_5 : Int32).toNatClampNeg) : Int32).toInt64 := ⟨_, rfl⟩
          have h_18 : v_16.toInt = (t.2.2.1 9 (w5_5 : Int32).toNatClampNeg).toInt := by rw [e_17]; exact Jvm.Kit.i64_of_i32 _
          refine lv_i2l (v := v_16) C.1 C.2.1 dX9_digits_38 e_17.symm ?_
          obtain ⟨v_19, e_20⟩ : ∃ z, z = (v_13 : Int64) + (v_16 : Int64) := ⟨_, rfl⟩
          have h_21 : -9223372036854775808 ≤ v_13.toInt + v_16.toInt → v_13.toInt + v_16.toInt < 9223372036854775808 → v_19.toInt = v_13.toInt + v_16.toInt := by rw [e_20]; exact fun h1 h2 => Jvm.Kit.i64_add h1 h2
          refine k_ladd (v := v_19) C e_20.symm dX9_digits_39 ?_
          refine lv_ldc2 (v := 48) C.1 C.2.1 C.2.2.2.1 (C.2.2.2.2.1 _ m_73_9) dX9_digits_40 ?_
          obtain ⟨v_22, e_23⟩ : ∃ z, z = (v_19 : Int64) - (48 : Int64) := ⟨_, rfl⟩
          have h_24 : -9223372036854775808 ≤ v_19.toInt - 48 → v_19.toInt - 48 < 9223372036854775808 → v_22.toInt = v_19.toInt - 48 := by rw [e_23]; exact fun h1 h2 => Jvm.Kit.i64_sub h1 h2
          refine k_lsub (v := v_22) C e_23.symm dX9_digits_43 ?_
          refine lv_lstore_n (lv' := [(3, .long v_22), (0, .ref (ad 2)), (1, .int x1), (2, .int x2), (5, .int w5_5)]) C.1 C.2.1 dX9_digits_44 rfl hl (by decide) rfl (fun ls hl => ?_)
          have hl : lv_has ls 6 [(0, .ref (ad 2)), (1, .int x1), (2, .int x2), (3, .long v_22), (5, .int w5_5)] := lv_sub hl [1, 2, 3, 0, 4] rfl
          obtain ⟨v_25, e_26⟩ : ∃ z, z = w5_5 + 1 := ⟨_, rfl⟩
          have h_27 : v_25.toInt = w5_5.toInt + 1 := by rw [e_26]; exact ti_iadd (by show (_ : Int) ≤ w5_5.toInt + 1; omega) (by show w5_5.toInt + 1 < (_ : Int); omega)
          refine lv_iinc (v := v_25) (lv' := [(5, .int v_25), (0, .ref (ad 2)), (1, .int x1), (2, .int x2), (3, .long v_22)]) C.1 C.2.1 dX9_digits_45 hl (k := 4) rfl e_26.symm (by decide) rfl (fun ls hl => ?_)
          have hl : lv_has ls 6 [(0, .ref (ad 2)), (1, .int x1), (2, .int x2), (3, .long v_22), (5, .int v_25)] := lv_sub hl [1, 2, 3, 4, 0] rfl
          refine lv_goto (tgt := 5) C.1 C.2.1 dX9_digits_48 (by decide) ?_
          exact ih_5 v_22 v_25 _ _ _ ⟨by omega, by omega⟩ (show x1.toInt ≤ v_25.toInt from by omega) (show v_25.toInt ≤ x1.toInt + x2.toInt from by omega) (show 0 ≤ x2.toInt from by omega) (show x2.toInt ≤ 4 → (v_25.toInt = x1.toInt ∧ v_22.toInt = 0 ∨ v_25.toInt = x1.toInt + 1 ∧ 0 ≤ v_22.toInt ∧ v_22.toInt ≤ 9 ∨ v_25.toInt = x1.toInt + 2 ∧ 0 ≤ v_22.toInt ∧ v_22.toInt ≤ 99 ∨ v_25.toInt = x1.toInt + 3 ∧ 0 ≤ v_22.toInt ∧ v_22.toInt ≤ 999 ∨ v_25.toInt = x1.toInt + 4 ∧ 0 ≤ v_22.toInt ∧ v_22.toInt ≤ 9999) from by omega) (show (81 : Int) - v_25.toInt < (fuel_5 : Int) from by omega) hP hD hS (lv_sub hl [0, 1, 2, 3, 4] rfl)
        · replace c_12 : r_6.toInt = 0 := i_eq c_12
          refine lv_ldc2 (v := (-1)) C.1 C.2.1 C.2.2.2.1 (C.2.2.2.2.1 _ m_73_7) dX9_digits_22 ?_
          exact g_lret C hr hlocks hP hD hS () rfl (show x2.toInt ≤ 4 → -1 ≤ (-1) ∧ (-1) ≤ 9999 from by omega) (Nat.le_of_ble_eq_true rfl) (Nat.le_of_ble_eq_true rfl) dX9_digits_25
  refine lv_lconst (v := 0) C.1 C.2.1 dX9_digits_0 (by decide) ?_
  refine lv_lstore_n (lv' := [(3, .long 0), (0, .ref (ad 2)), (1, .int x1), (2, .int x2)]) C.1 C.2.1 dX9_digits_1 rfl hl (by decide) rfl (fun ls hl => ?_)
  have hl : lv_has ls 6 [(0, .ref (ad 2)), (1, .int x1), (2, .int x2), (3, .long 0)] := lv_sub hl [1, 2, 3, 0] rfl
  refine lv_iload_n C.1 C.2.1 dX9_digits_2 rfl (lv_at hl 1 rfl) ?_
  refine lv_istore (lv' := [(5, .int x1), (0, .ref (ad 2)), (1, .int x1), (2, .int x2), (3, .long 0)]) C.1 C.2.1 dX9_digits_3 hl (by decide) rfl (fun ls hl => ?_)
  have hl : lv_has ls 6 [(0, .ref (ad 2)), (1, .int x1), (2, .int x2), (3, .long 0), (5, .int x1)] := lv_sub hl [1, 2, 3, 4, 0] rfl
  exact L_5 77 0 x1 _ _ _ ⟨by omega, by omega⟩ (show x1.toInt ≤ x1.toInt from by omega) (show x1.toInt ≤ x1.toInt + x2.toInt from by omega) (show 0 ≤ x2.toInt from by omega) (show x2.toInt ≤ 4 → (x1.toInt = x1.toInt ∧ 0 = 0 ∨ x1.toInt = x1.toInt + 1 ∧ 0 ≤ 0 ∧ 0 ≤ 9 ∨ x1.toInt = x1.toInt + 2 ∧ 0 ≤ 0 ∧ 0 ≤ 99 ∨ x1.toInt = x1.toInt + 3 ∧ 0 ≤ 0 ∧ 0 ≤ 999 ∨ x1.toInt = x1.toInt + 4 ∧ 0 ≤ 0 ∧ 0 ≤ 9999) from by omega) (show (81 : Int) - x1.toInt < ((77 : Nat) : Int) from by omega) hP hD hS (lv_sub hl [0, 1, 2, 3, 4] rfl)

theorem dX4_operation_0 : decode cX4_operation 0 = .ok (.iload_n 2, 1) := by decide +kernel
theorem dX4_operation_1 : decode cX4_operation 1 = .ok (.iconst 5, 1) := by decide +kernel
theorem dX4_operation_10 : decode cX4_operation 10 = .ok (.invokestatic 52, 3) := by decide +kernel
theorem dX4_operation_13 : decode cX4_operation 13 = .ok (.istore_n 3, 1) := by decide +kernel
theorem dX4_operation_14 : decode cX4_operation 14 = .ok (.iconst 0, 1) := by decide +kernel
theorem dX4_operation_15 : decode cX4_operation 15 = .ok (.istore 4, 2) := by decide +kernel
theorem dX4_operation_17 : decode cX4_operation 17 = .ok (.iload 4, 2) := by decide +kernel
theorem dX4_operation_19 : decode cX4_operation 19 = .ok (.iconst 4, 1) := by decide +kernel
theorem dX4_operation_2 : decode cX4_operation 2 = .ok (.invokestatic 48, 3) := by decide +kernel
theorem dX4_operation_20 : decode cX4_operation 20 = .ok (.if_icmp .ge 42, 3) := by decide +kernel
theorem dX4_operation_23 : decode cX4_operation 23 = .ok (.aload_n 0, 1) := by decide +kernel
theorem dX4_operation_24 : decode cX4_operation 24 = .ok (.iload_n 1, 1) := by decide +kernel
theorem dX4_operation_25 : decode cX4_operation 25 = .ok (.iload 4, 2) := by decide +kernel
theorem dX4_operation_27 : decode cX4_operation 27 = .ok (.iadd, 1) := by decide +kernel
theorem dX4_operation_28 : decode cX4_operation 28 = .ok (.iload_n 3, 1) := by decide +kernel
theorem dX4_operation_29 : decode cX4_operation 29 = .ok (.ifCond .lt 12, 3) := by decide +kernel
theorem dX4_operation_32 : decode cX4_operation 32 = .ok (.iload_n 3, 1) := by decide +kernel
theorem dX4_operation_33 : decode cX4_operation 33 = .ok (.iload 4, 2) := by decide +kernel
theorem dX4_operation_35 : decode cX4_operation 35 = .ok (.invokestatic 55, 3) := by decide +kernel
theorem dX4_operation_38 : decode cX4_operation 38 = .ok (.goto 15, 3) := by decide +kernel
theorem dX4_operation_41 : decode cX4_operation 41 = .ok (.iload 4, 2) := by decide +kernel
theorem dX4_operation_43 : decode cX4_operation 43 = .ok (.ifCond .ne 8, 3) := by decide +kernel
theorem dX4_operation_46 : decode cX4_operation 46 = .ok (.bipush 63, 2) := by decide +kernel
theorem dX4_operation_48 : decode cX4_operation 48 = .ok (.goto 5, 3) := by decide +kernel
theorem dX4_operation_5 : decode cX4_operation 5 = .ok (.iload_n 2, 1) := by decide +kernel
theorem dX4_operation_51 : decode cX4_operation 51 = .ok (.bipush 32, 2) := by decide +kernel
theorem dX4_operation_53 : decode cX4_operation 53 = .ok (.invokevirtual 34, 3) := by decide +kernel
theorem dX4_operation_56 : decode cX4_operation 56 = .ok (.iinc 4 1, 3) := by decide +kernel
theorem dX4_operation_59 : decode cX4_operation 59 = .ok (.goto (-42), 3) := by decide +kernel
theorem dX4_operation_6 : decode cX4_operation 6 = .ok (.iconst 4, 1) := by decide +kernel
theorem dX4_operation_62 : decode cX4_operation 62 = .ok (.return_, 1) := by decide +kernel
theorem dX4_operation_7 : decode cX4_operation 7 = .ok (.invokestatic 48, 3) := by decide +kernel
set_option maxHeartbeats 4000000 in
set_option maxRecDepth 100000 in
theorem T_X4_operation (l : Launch) (D : va_G) (K : Nat → ClassId) (Z Y : Nat → Nat) (ad : Nat → Nat) (d : dSt) (t : tSt) (hok : okX t) (x1 : Int32) (hx1 : (21 : Int) ≤ x1.toInt ∧ x1.toInt ≤ 31) (x2 : Int32) : tMet l yX4_operation cX4_operation 5 none (rmD 6 0 0) D K Z Y [.ref (ad 20), .int x1, .int x2] ((WX d) K ad t) (QV D K (fun (u : tSt) => okX u ∧ frA [] [] [37] [] t u) (fun (u : tSt) => (WX d) K ad u)) 0 0 := by
  refine t_met RX4 ⟨rfl, by decide +kernel⟩ (Nat.le_of_ble_eq_true rfl) ?_
  intro p e s m below meth c A ls C hE hZ hr hlocks hA hP hD hS hl
  have hl : lv_has ls 5 [(0, .ref (ad 20)), (1, .int x1), (2, .int x2)] := hl
  have hokt := hok
  have hfr : frA [] [] [37] [] t t := frA_rf
  have L_17 : ∀ (fuel_17 : Nat) (t1 : tSt) (w17_3 : Int32) (w17_4 : Int32) (H : Heap) (locs : List Loc) (ls : Array Slot), okX t1 → frA [] [] [37] [] t t1 → (-1 : Int) ≤ w17_3.toInt ∧ w17_3.toInt ≤ 255 → (0 : Int) ≤ w17_4.toInt ∧ w17_4.toInt ≤ 4 → (4 : Int) - w17_4.toInt < (fuel_17 : Int) → va_P D vwCl ((WX d) K ad t1) H → va_D A ((WX d) K ad t1) → va_S A s.heap H locs → lv_has ls 5 [(0, .ref (ad 20)), (1, .int x1), (2, .int x2), (3, .int w17_3), (4, .int w17_4)] → W p l e (rmD 6 0 0) s m [.ref (ad 20), .int x1, .int x2].toArray below meth c H locs 0 0 (MQ below (QV D K (fun (u : tSt) => okX u ∧ frA [] [] [37] [] t u) (fun (u : tSt) => (WX d) K ad u) A) [.ref (ad 20), .int x1, .int x2].toArray s 0 0 A) (F0 m 17 ls []) := by
    intro fuel_17
    induction fuel_17 with
    | zero =>
      intro t1 w17_3 w17_4 H locs ls hok hfr hw17_3 hw17_4 hm17_17 hP hD hS hl
      exact absurd hm17_17 (by omega)
    | succ fuel_17 ih_17 =>
      intro t1 w17_3 w17_4 H locs ls hok hfr hw17_3 hw17_4 hm17_17 hP hD hS hl
      have hm17_17 : (4 : Int) - w17_4.toInt < (fuel_17 : Int) + 1 := by omega
      have L_53 : ∀ (t1 : tSt) (w53_3 : Int32) (w53_4 : Int32) (k53_1 : Int32) (k53_2 : Int32) (H : Heap) (locs : List Loc) (ls : Array Slot), okX t1 → frA [] [] [37] [] t t1 → (-1 : Int) ≤ w53_3.toInt ∧ w53_3.toInt ≤ 255 → (0 : Int) ≤ w53_4.toInt ∧ w53_4.toInt ≤ 3 → (21 : Int) ≤ k53_1.toInt ∧ k53_1.toInt ≤ 34 → (0 : Int) ≤ k53_2.toInt ∧ k53_2.toInt ≤ 255 → (4 : Int) - w53_4.toInt < (fuel_17 : Int) + 1 → va_P D vwCl ((WX d) K ad t1) H → va_D A ((WX d) K ad t1) → va_S A s.heap H locs → lv_has ls 5 [(0, .ref (ad 20)), (1, .int x1), (2, .int x2), (3, .int w53_3), (4, .int w53_4)] → W p l e (rmD 6 0 0) s m [.ref (ad 20), .int x1, .int x2].toArray below meth c H locs 0 0 (MQ below (QV D K (fun (u : tSt) => okX u ∧ frA [] [] [37] [] t u) (fun (u : tSt) => (WX d) K ad u) A) [.ref (ad 20), .int x1, .int x2].toArray s 0 0 A) (F0 m 53 ls [.int k53_2, .int k53_1, .ref (ad 20)]) := by
        intro t1 w53_3 w53_4 k53_1 k53_2 H locs ls hok hfr hw53_3 hw53_4 hk53_1 hk53_2 hm53_17 hP hD hS hl
        refine g_Vv (As := [.int k53_1, .int k53_2]) (rest := []) C hP hD hS hA (T_X4_mark l D K Z Y ad d t1 hok (k53_1) (k53_2) (show (-128 : Int) ≤ (k53_2 : Int32).toInt ∧ (k53_2 : Int32).toInt ≤ 255 from ⟨by omega, by omega⟩)) hE hZ (uwV m_40_23 m_41_0 m_41_1 m_3_20 m_41_2) (hdV 2 (by decide +kernel) rfl) ⟨Nat.le_of_ble_eq_true rfl, Nat.le_of_ble_eq_true rfl⟩ rfl rfl (ci := 3) (q0 := 20) rfl rfl rfl hl.1 (Nat.le_of_ble_eq_true rfl) dX4_operation_53 ⟨Nat.le_of_ble_eq_true rfl, Nat.le_of_ble_eq_true rfl⟩ (fun t_1 H locs hw hP hD hS => ?_)
        obtain ⟨hok, f_3⟩ := hw
        have hfr : frA [] [] [37] [] t t_1 := frA_tr hfr f_3 rfl
        obtain ⟨v_4, e_5⟩ : ∃ z, z = w53_4 + 1 := ⟨_, rfl⟩
        have h_6 : v_4.toInt = w53_4.toInt + 1 := by rw [e_5]; exact ti_iadd (by show (_ : Int) ≤ w53_4.toInt + 1; omega) (by show w53_4.toInt + 1 < (_ : Int); omega)
        refine lv_iinc (v := v_4) (lv' := [(4, .int v_4), (0, .ref (ad 20)), (1, .int x1), (2, .int x2), (3, .int w53_3)]) C.1 C.2.1 dX4_operation_56 hl (k := 4) rfl e_5.symm (by decide) rfl (fun ls hl => ?_)
        have hl : lv_has ls 5 [(0, .ref (ad 20)), (1, .int x1), (2, .int x2), (3, .int w53_3), (4, .int v_4)] := lv_sub hl [1, 2, 3, 4, 0] rfl
        refine lv_goto (tgt := 17) C.1 C.2.1 dX4_operation_59 (by decide) ?_
        exact ih_17 t_1 w53_3 v_4 _ _ _ hok hfr ⟨by omega, by omega⟩ ⟨by omega, by omega⟩ (show (4 : Int) - v_4.toInt < (fuel_17 : Int) from by omega) hP hD hS (lv_sub hl [0, 1, 2, 3, 4] rfl)
      refine lv_iload C.1 C.2.1 dX4_operation_17 (lv_at hl 4 rfl) ?_
      refine lv_iconst (v := 4) C.1 C.2.1 dX4_operation_19 (by decide) ?_
      refine lv_icmp_ge (tgt := 62) C.1 C.2.1 dX4_operation_20 (by decide) (fun c_7 => ?_) (fun c_7 => ?_)
      · replace c_7 : 4 ≤ w17_4.toInt := i_le c_7
        exact g_vret C hr hlocks hP hD hS t1 rfl ⟨hok, hfr⟩ (Nat.le_of_ble_eq_true rfl) (Nat.le_of_ble_eq_true rfl) dX4_operation_62
      · replace c_7 : w17_4.toInt < 4 := i_nle c_7
        refine lv_aload_n C.1 C.2.1 dX4_operation_23 rfl (lv_at hl 0 rfl) ?_
        refine lv_iload_n C.1 C.2.1 dX4_operation_24 rfl (lv_at hl 1 rfl) ?_
        refine lv_iload C.1 C.2.1 dX4_operation_25 (lv_at hl 4 rfl) ?_
        obtain ⟨v_8, e_9⟩ : ∃ z, z = (x1 : Int32) + (w17_4 : Int32) := ⟨_, rfl⟩
        have h_10 : v_8.toInt = x1.toInt + w17_4.toInt := by rw [e_9]; exact ti_iadd (by show (_ : Int) ≤ x1.toInt + w17_4.toInt; omega) (by show x1.toInt + w17_4.toInt < (_ : Int); omega)
        refine k_iadd (v := v_8) C e_9.symm dX4_operation_27 ?_
        refine lv_iload_n C.1 C.2.1 dX4_operation_28 rfl (lv_at hl 3 rfl) ?_
        refine lv_if_lt (tgt := 41) C.1 C.2.1 dX4_operation_29 (by decide) (fun c_11 => ?_) (fun c_11 => ?_)
        · replace c_11 : w17_3.toInt < 0 := i_lt c_11
          refine lv_iload C.1 C.2.1 dX4_operation_41 (lv_at hl 4 rfl) ?_
          refine lv_if_ne (tgt := 51) C.1 C.2.1 dX4_operation_43 (by decide) (fun c_12 => ?_) (fun c_12 => ?_)
          · replace c_12 : ¬ w17_4.toInt = 0 := i_ne c_12
            refine lv_bipush (v := 32) C.1 C.2.1 dX4_operation_51 (by decide) ?_
            exact L_53 t1 w17_3 w17_4 v_8 32 _ _ _ hok hfr ⟨by omega, by omega⟩ ⟨by omega, by omega⟩ ⟨by omega, by omega⟩ ⟨by decide, by decide⟩ (show (4 : Int) - w17_4.toInt < (fuel_17 : Int) + 1 from by omega) hP hD hS (lv_sub hl [0, 1, 2, 3, 4] rfl)
          · replace c_12 : w17_4.toInt = 0 := i_eq c_12
            refine lv_bipush (v := 63) C.1 C.2.1 dX4_operation_46 (by decide) ?_
            refine lv_goto (tgt := 53) C.1 C.2.1 dX4_operation_48 (by decide) ?_
            exact L_53 t1 w17_3 w17_4 v_8 63 _ _ _ hok hfr ⟨by omega, by omega⟩ ⟨by omega, by omega⟩ ⟨by omega, by omega⟩ ⟨by decide, by decide⟩ (show (4 : Int) - w17_4.toInt < (fuel_17 : Int) + 1 from by omega) hP hD hS (lv_sub hl [0, 1, 2, 3, 4] rfl)
        · replace c_11 : 0 ≤ w17_3.toInt := i_nlt c_11
          refine lv_iload_n C.1 C.2.1 dX4_operation_32 rfl (lv_at hl 3 rfl) ?_
          refine lv_iload C.1 C.2.1 dX4_operation_33 (lv_at hl 4 rfl) ?_
          refine g_Si (As := [.int w17_3, .int w17_4]) (rest := [.int v_8, .ref (ad 20)]) C hP hD hS hA (T_X1_opLetter l D K Z Y ad d t1 hok (w17_3) (show (0 : Int) ≤ (w17_3 : Int32).toInt ∧ (w17_3 : Int32).toInt ≤ 2147483647 from ⟨by omega, (i_rng _).2⟩) (w17_4) (show (0 : Int) ≤ (w17_4 : Int32).toInt ∧ (w17_4 : Int32).toInt ≤ 3 from ⟨by omega, by omega⟩)) hE hZ (uwS m_56_3 m_20_5 m_14_2 m_20_6) (hdS 2 (by decide +kernel) rfl) ⟨Nat.le_of_ble_eq_true rfl, Nat.le_of_ble_eq_true rfl⟩ rfl rfl rfl hl.1 (Nat.le_of_ble_eq_true rfl) dX4_operation_35 ⟨Nat.le_of_ble_eq_true rfl, Nat.le_of_ble_eq_true rfl⟩ (fun r_14 t_13 H locs hw hP hD hS => ?_)
          obtain ⟨h_16, h_17⟩ := hw
          refine lv_goto (tgt := 53) C.1 C.2.1 dX4_operation_38 (by decide) ?_
          exact L_53 t1 w17_3 w17_4 v_8 r_14 _ _ _ hok hfr ⟨by omega, by omega⟩ ⟨by omega, by omega⟩ ⟨by omega, by omega⟩ ⟨by omega, by omega⟩ (show (4 : Int) - w17_4.toInt < (fuel_17 : Int) + 1 from by omega) hP hD hS (lv_sub hl [0, 1, 2, 3, 4] rfl)
  refine lv_iload_n C.1 C.2.1 dX4_operation_0 rfl (lv_at hl 2 rfl) ?_
  refine lv_iconst (v := 5) C.1 C.2.1 dX4_operation_1 (by decide) ?_
  refine g_Si (As := [.int x2, .int 5]) (rest := []) C hP hD hS hA (T_X1_byteOf l D K Z Y ad d t hok (x2) 5 (show (1 : Int) ≤ (5 : Int32).toInt ∧ (5 : Int32).toInt ≤ 5 from ⟨by decide, by decide⟩)) hE hZ (uwS m_56_1 m_47_14 m_14_2 m_47_15) (hdS 2 (by decide +kernel) rfl) ⟨Nat.le_of_ble_eq_true rfl, Nat.le_of_ble_eq_true rfl⟩ rfl rfl rfl hl.1 (Nat.le_of_ble_eq_true rfl) dX4_operation_2 ⟨Nat.le_of_ble_eq_true rfl, Nat.le_of_ble_eq_true rfl⟩ (fun r_19 t_18 H locs hw hP hD hS => ?_)
  obtain ⟨h_21, h_22⟩ := hw
  refine lv_iload_n C.1 C.2.1 dX4_operation_5 rfl (lv_at hl 2 rfl) ?_
  refine lv_iconst (v := 4) C.1 C.2.1 dX4_operation_6 (by decide) ?_
  refine g_Si (As := [.int x2, .int 4]) (rest := [.int r_19]) C hP hD hS hA (T_X1_byteOf l D K Z Y ad d t hok (x2) 4 (show (1 : Int) ≤ (4 : Int32).toInt ∧ (4 : Int32).toInt ≤ 5 from ⟨by decide, by decide⟩)) hE hZ (uwS m_56_1 m_47_14 m_14_2 m_47_15) (hdS 2 (by decide +kernel) rfl) ⟨Nat.le_of_ble_eq_true rfl, Nat.le_of_ble_eq_true rfl⟩ rfl rfl rfl hl.1 (Nat.le_of_ble_eq_true rfl) dX4_operation_7 ⟨Nat.le_of_ble_eq_true rfl, Nat.le_of_ble_eq_true rfl⟩ (fun r_24 t_23 H locs hw hP hD hS => ?_)
  obtain ⟨h_26, h_27⟩ := hw
  refine g_Si (As := [.int r_19, .int r_24]) (rest := []) C hP hD hS hA (T_X1_opOf l D K Z Y ad d t hok (r_19) (show (0 : Int) ≤ (r_19 : Int32).toInt ∧ (r_19 : Int32).toInt ≤ 63 from ⟨by omega, by omega⟩) (r_24) (show (0 : Int) ≤ (r_24 : Int32).toInt ∧ (r_24 : Int32).toInt ≤ 63 from ⟨by omega, by omega⟩)) hE hZ (uwS m_56_2 m_47_17 m_14_2 m_47_18) (hdS 2 (by decide +kernel) rfl) ⟨Nat.le_of_ble_eq_true rfl, Nat.le_of_ble_eq_true rfl⟩ rfl rfl rfl hl.1 (Nat.le_of_ble_eq_true rfl) dX4_operation_10 ⟨Nat.le_of_ble_eq_true rfl, Nat.le_of_ble_eq_true rfl⟩ (fun r_29 t_28 H locs hw hP hD hS => ?_)
  obtain ⟨h_31, h_32⟩ := hw
  refine lv_istore_n (lv' := [(3, .int r_29), (0, .ref (ad 20)), (1, .int x1), (2, .int x2)]) C.1 C.2.1 dX4_operation_13 rfl hl (by decide) rfl (fun ls hl => ?_)
  have hl : lv_has ls 5 [(0, .ref (ad 20)), (1, .int x1), (2, .int x2), (3, .int r_29)] := lv_sub hl [1, 2, 3, 0] rfl
  refine lv_iconst (v := 0) C.1 C.2.1 dX4_operation_14 (by decide) ?_
  refine lv_istore (lv' := [(4, .int 0), (0, .ref (ad 20)), (1, .int x1), (2, .int x2), (3, .int r_29)]) C.1 C.2.1 dX4_operation_15 hl (by decide) rfl (fun ls hl => ?_)
  have hl : lv_has ls 5 [(0, .ref (ad 20)), (1, .int x1), (2, .int x2), (3, .int r_29), (4, .int 0)] := lv_sub hl [1, 2, 3, 4, 0] rfl
  exact L_17 5 t r_29 0 _ _ _ hok hfr ⟨by omega, by omega⟩ ⟨by decide, by decide⟩ (show (4 : Int) - 0 < ((5 : Nat) : Int) from by omega) hP hD hS (lv_sub hl [0, 1, 2, 3, 4] rfl)
