theorem dX3_again_0 : decode cX3_again 0 = .ok (.aload_n 0, 1) := by decide +kernel
theorem dX3_again_1 : decode cX3_again 1 = .ok (.getfield 29, 3) := by decide +kernel
theorem dX3_again_11 : decode cX3_again 11 = .ok (.ifnonnull 5, 3) := by decide +kernel
theorem dX3_again_14 : decode cX3_again 14 = .ok (.iconst 1, 1) := by decide +kernel
theorem dX3_again_15 : decode cX3_again 15 = .ok (.ireturn, 1) := by decide +kernel
theorem dX3_again_16 : decode cX3_again 16 = .ok (.aload_n 0, 1) := by decide +kernel
theorem dX3_again_17 : decode cX3_again 17 = .ok (.getfield 161, 3) := by decide +kernel
theorem dX3_again_20 : decode cX3_again 20 = .ok (.iconst 0, 1) := by decide +kernel
theorem dX3_again_21 : decode cX3_again 21 = .ok (.aload_n 1, 1) := by decide +kernel
theorem dX3_again_22 : decode cX3_again 22 = .ok (.sipush 3999, 3) := by decide +kernel
theorem dX3_again_25 : decode cX3_again 25 = .ok (.sipush 4000, 3) := by decide +kernel
theorem dX3_again_28 : decode cX3_again 28 = .ok (.invokestatic 164, 3) := by decide +kernel
theorem dX3_again_31 : decode cX3_again 31 = .ok (.aload_n 0, 1) := by decide +kernel
theorem dX3_again_32 : decode cX3_again 32 = .ok (.aload_n 0, 1) := by decide +kernel
theorem dX3_again_33 : decode cX3_again 33 = .ok (.getfield 170, 3) := by decide +kernel
theorem dX3_again_36 : decode cX3_again 36 = .ok (.putfield 149, 3) := by decide +kernel
theorem dX3_again_39 : decode cX3_again 39 = .ok (.iconst 0, 1) := by decide +kernel
theorem dX3_again_4 : decode cX3_again 4 = .ok (.ifCond .eq 10, 3) := by decide +kernel
theorem dX3_again_40 : decode cX3_again 40 = .ok (.ireturn, 1) := by decide +kernel
theorem dX3_again_7 : decode cX3_again 7 = .ok (.aload_n 0, 1) := by decide +kernel
theorem dX3_again_8 : decode cX3_again 8 = .ok (.getfield 161, 3) := by decide +kernel
set_option maxHeartbeats 4000000 in
set_option maxRecDepth 100000 in
theorem T_X3_again (l : Launch) (D : va_G) (K : Nat → ClassId) (Z Y : Nat → Nat) (ad : Nat → Nat) (d : dSt) (t : tSt) (hok : okX t) (hod : okD d)  : tMet l yX3_again cX3_again 2 (some .int) (rmD 1 0 0) D K Z Y [.ref (ad 7), .ref (ad 10)] ((WX d) K ad t) (QI D K (fun (r : Int32) (u : tSt) => okX u ∧ frA [(7, 9)] [] [10] [] t u ∧ (0 : Int) ≤ r.toInt ∧ r.toInt ≤ 1) (fun (u : tSt) => (WX d) K ad u)) 0 0 := by
  refine t_met RX3 ⟨rfl, by decide +kernel⟩ (Nat.le_of_ble_eq_true rfl) ?_
  intro p e s m below meth c A ls C hE hZ hr hlocks hA hP hD hS hl
  have hl : lv_has ls 2 [(0, .ref (ad 7)), (1, .ref (ad 10))] := hl
  have hokt := hok
  have hfr : frA [(7, 9)] [] [10] [] t t := frA_rf
  refine lv_aload_n C.1 C.2.1 dX3_again_0 rfl (lv_at hl 0 rfl) ?_
  have h_1 : (0 : Int) ≤ (t.1 7 15).toInt ∧ (t.1 7 15).toInt ≤ 1 := hok.1 7 15
  refine k_get (v := .int (t.1 7 15)) C hP 7 rfl rfl inlX3 15 (by decide) m_74_9 rfl dX3_again_1 ?_
  refine lv_if_eq (tgt := 14) C.1 C.2.1 dX3_again_4 (by decide) (fun c_2 => ?_) (fun c_2 => ?_)
  · replace c_2 : (t.1 7 15).toInt = 0 := i_eq c_2
    refine lv_iconst (v := 1) C.1 C.2.1 dX3_again_14 (by decide) ?_
    exact g_iret C hr hlocks hP hD hS rfl t rfl ⟨hok, hfr, by decide, by decide⟩ (Nat.le_of_ble_eq_true rfl) (Nat.le_of_ble_eq_true rfl) dX3_again_15
  · replace c_2 : ¬ (t.1 7 15).toInt = 0 := i_ne c_2
    refine lv_aload_n C.1 C.2.1 dX3_again_7 rfl (lv_at hl 0 rfl) ?_
    refine k_get (v := va_rf (d.1 917)) C hP 7 rfl rfl inlX3 13 (by decide) m_76_3 rfl dX3_again_8 ?_
    rcases opt_or (d.1 917) with hd_3 | ⟨a_4, hd_3⟩
    · refine n_ifnonnullN C.1 C.2.1 hd_3 dX3_again_11 ?_
      refine lv_iconst (v := 1) C.1 C.2.1 dX3_again_14 (by decide) ?_
      exact g_iret C hr hlocks hP hD hS rfl t rfl ⟨hok, hfr, by decide, by decide⟩ (Nat.le_of_ble_eq_true rfl) (Nat.le_of_ble_eq_true rfl) dX3_again_15
    · refine n_ifnonnullS (tgt := 16) C.1 C.2.1 hd_3 dX3_again_11 (by decide) ?_
      refine lv_aload_n C.1 C.2.1 dX3_again_16 rfl (lv_at hl 0 rfl) ?_
      refine k_get (v := .ref a_4) C hP 7 rfl rfl inlX3 13 (by decide) m_76_3 (rf_eq hd_3) dX3_again_17 ?_
      refine lv_iconst (v := 0) C.1 C.2.1 dX3_again_20 (by decide) ?_
      refine lv_aload_n C.1 C.2.1 dX3_again_21 rfl (lv_at hl 1 rfl) ?_
      refine lv_sipush (v := 3999) C.1 C.2.1 dX3_again_22 (by decide) ?_
      refine lv_sipush (v := 4000) C.1 C.2.1 dX3_again_25 (by decide) ?_
      obtain ⟨q_5, hq_6, hs_7⟩ := WX_at917 (K := K) (ad := ad) (t := t) (d := d) hd_3
      refine k_copy (ws' := (WX d) K ad (uF t 10 (va_cpy (d.2 917) (t.2.2.1 10) (0 : Int32).toNatClampNeg (3999 : Int32).toNatClampNeg (4000 : Int32).toNatClampNeg))) C hl.1 hP hD hS q_5 10 0 hq_6 rfl rfl rfl (by decide) (by decide) (by decide) rfl rfl rfl (by have hq1 := clamp_eq (x := (0 : Int32)) (by first | decide | omega); have hq2 := clamp_eq (x := (4000 : Int32)) (by first | decide | omega); first | (have hq3 : (0 : Int32).toInt = 0 := rfl; omega) | (have hq3 : (4000 : Int32).toInt = 4000 := rfl; omega) | (have hq3 : (0 : Int32).toInt = 0 := rfl; have hq4 : (4000 : Int32).toInt = 4000 := rfl; omega) | omega) (by have hq1 := clamp_eq (x := (3999 : Int32)) (by first | decide | omega); have hq2 := clamp_eq (x := (4000 : Int32)) (by first | decide | omega); first | (have hq3 : (3999 : Int32).toInt = 3999 := rfl; omega) | (have hq3 : (4000 : Int32).toInt = 4000 := rfl; omega) | (have hq3 : (3999 : Int32).toInt = 3999 := rfl; have hq4 : (4000 : Int32).toInt = 4000 := rfl; omega) | omega) (fun i hi => rfl) m_76_4 m_10_14 m_10_15 m_10_16 (Nat.le_of_ble_eq_true rfl) (Nat.le_of_ble_eq_true rfl) rfl dX3_again_28 (fun H locs hP hD hS => ?_)
      have hok : okX (uF t 10 (va_cpy (d.2 917) (t.2.2.1 10) (0 : Int32).toNatClampNeg (3999 : Int32).toNatClampNeg (4000 : Int32).toNatClampNeg)) := ⟨hok.1, okB_F hok.2.1 10 (fun i => i_rng _), trivial⟩
      have hfr : frA [(7, 9)] [] [10] [] t (uF t 10 (va_cpy (d.2 917) (t.2.2.1 10) (0 : Int32).toNatClampNeg (3999 : Int32).toNatClampNeg (4000 : Int32).toNatClampNeg)) := frA_F hfr 10 _ rfl
      refine lv_aload_n C.1 C.2.1 dX3_again_31 rfl (lv_at hl 0 rfl) ?_
      refine lv_aload_n C.1 C.2.1 dX3_again_32 rfl (lv_at hl 0 rfl) ?_
      have h_8 : (-1073741824 : Int) ≤ (t.1 7 14).toInt ∧ (t.1 7 14).toInt ≤ 2147483647 := hok.1 7 14
      refine k_get (v := .int (t.1 7 14)) C hP 7 rfl rfl inlX3 14 (by decide) m_76_5 rfl dX3_again_33 ?_
      refine k_put (ws' := (WX d) K ad (uI (uF t 10 (va_cpy (d.2 917) (t.2.2.1 10) (0 : Int32).toNatClampNeg (3999 : Int32).toNatClampNeg (4000 : Int32).toNatClampNeg)) 7 9 (t.1 7 14))) (v := .int (t.1 7 14)) C hP hD hS 7 rfl rfl inlX3 tyX3_ok nmX3 9 (by decide) m_75_15 rfl rfl rfl rfl rfl dX3_again_36 (fun H locs hP hD hS => ?_)
      have hok : okX (uI (uF t 10 (va_cpy (d.2 917) (t.2.2.1 10) (0 : Int32).toNatClampNeg (3999 : Int32).toNatClampNeg (4000 : Int32).toNatClampNeg)) 7 9 (t.1 7 14)) := ⟨okI_I hok.1 7 9 (t.1 7 14) (show (-1073741824 : Int) ≤ ((t.1 7 14) : Int32).toInt ∧ ((t.1 7 14) : Int32).toInt ≤ 2147483647 from ⟨by omega, (i_rng _).2⟩), hok.2.1, trivial⟩
      have hfr : frA [(7, 9)] [] [10] [] t (uI (uF t 10 (va_cpy (d.2 917) (t.2.2.1 10) (0 : Int32).toNatClampNeg (3999 : Int32).toNatClampNeg (4000 : Int32).toNatClampNeg)) 7 9 (t.1 7 14)) := frA_I hfr 7 9 _ rfl
      refine lv_iconst (v := 0) C.1 C.2.1 dX3_again_39 (by decide) ?_
      exact g_iret C hr hlocks hP hD hS rfl (uI (uF t 10 (va_cpy (d.2 917) (t.2.2.1 10) (0 : Int32).toNatClampNeg (3999 : Int32).toNatClampNeg (4000 : Int32).toNatClampNeg)) 7 9 (t.1 7 14)) rfl ⟨hok, hfr, by decide, by decide⟩ (Nat.le_of_ble_eq_true rfl) (Nat.le_of_ble_eq_true rfl) dX3_again_40


set_option maxHeartbeats 4000000 in
set_option maxRecDepth 100000 in
theorem T_X4_finish_2 (l : Launch) (D : va_G) (K : Nat → ClassId) (Z Y : Nat → Nat) (ad : Nat → Nat) (d : dSt) (t : tSt) (hok : okX t) (hod : okD d) (x1 : Int32) (hx1 : (120 : Int) ≤ x1.toInt ∧ x1.toInt ≤ 120) (x2 : Int32) (hx2 : (0 : Int) ≤ x2.toInt ∧ x2.toInt ≤ 0) : dMet l yX4_finish cX4_finish 5 none (rmD 1 2000 560000) D K Z Y [.ref (ad 21), .int x1, .int x2] ((WX d) K ad t) (QDV D K ad d (fun (u : tSt) (dd : dSt) => okX u ∧ frA [(21, 3)] [] [38, 39, 40] [] t u ∧ okD dd)) 2000 560000 := by
  refine d_met d RX4 ⟨rfl, by decide +kernel⟩ (Nat.le_of_ble_eq_true rfl) ?_
  intro p e s m below meth c A ls C hE hZ hX hr hlocks hA hP hD hS hl
  have hl : lv_has ls 5 [(0, .ref (ad 21)), (1, .int x1), (2, .int x2)] := hl
  have hle : dLe d d := dLe_rf
  have hdf : dFr s.heap.size d d := dFr_rf
  have hokt := hok
  have hfr : frA [(21, 3)] [] [38, 39, 40] [] t t := frA_rf
  have L_140 : ∀ (t1 : tSt) (d1 : dSt) (w140_3 : Int32) (w140_4 : Int32) (H : Heap) (locs : List Loc) (ls : Array Slot), okX t1 → frA [(21, 3)] [] [38, 39, 40] [] t t1 → okD d1 → dLe d d1 → dFr s.heap.size d d1 → (0 : Int) ≤ w140_3.toInt ∧ w140_3.toInt ≤ 120 → (120 : Int) ≤ w140_4.toInt ∧ w140_4.toInt ≤ 120 → (1 : Int) ≤ (t1.1 21 3).toInt ∧ (t1.1 21 3).toInt ≤ 300 → va_P D vwCl ((WX d1) K ad t1) H → va_D A ((WX d1) K ad t1) → va_S A s.heap H locs → lv_has ls 5 [(0, .ref (ad 21)), (1, .int x1), (2, .int x2), (3, .int w140_3), (4, .int w140_4)] → W p l e (rmD 1 2000 560000) s m [.ref (ad 21), .int x1, .int x2].toArray below meth c H locs (newC d d1) 246800 (MQ below (QDV D K ad d (fun (u : tSt) (dd : dSt) => okX u ∧ frA [(21, 3)] [] [38, 39, 40] [] t u ∧ okD dd) s.heap.size A) [.ref (ad 21), .int x1, .int x2].toArray s 2000 560000 A) (F0 m 140 ls []) := by
    intro t1 d1 w140_3 w140_4 H locs ls hok hfr hod hle hdf hw140_3 hw140_4 hf140_3 hP hD hS hl
    refine lv_aload_n C.1 C.2.1 dX4_finish_140 rfl (lv_at hl 0 rfl) ?_
    refine k_get (v := .ref (ad 40)) C hP 21 rfl rfl inlX4 2 (by decide) m_4_11 rfl dX4_finish_141 ?_
    refine lv_bipush (v := 32) C.1 C.2.1 dX4_finish_144 (by decide) ?_
    refine hz_Sv (W' := fun (_ : Unit) => (WX d1) K ad (fB t1 40 32)) (As := [.ref (ad 40), .int 32]) (rest := []) C hP hD hS hA (TJ_fillB l D K Z Y ((WX d1) K ad t1) 40 (ad 40) 120 (by decide) _ 32 32 rfl rfl) hE hZ (uwS m_41_13 m_41_14 m_11_12 m_41_15) (hdS 2 (by decide +kernel) rfl) ⟨Nat.le_of_ble_eq_true rfl, Nat.le_of_ble_eq_true rfl⟩ rfl rfl rfl hl.1 (Nat.le_of_ble_eq_true rfl) dX4_finish_146 ⟨Nat.le_trans (newC_le _ _) (Nat.le_of_ble_eq_true rfl), (Nat.le_of_ble_eq_true rfl)⟩ (fun u_ H locs hw hP hD hS => ?_)
    have hok : okX (fB t1 40 32) := ⟨hok.1, okB_f hok.2.1 40 32 (show (-128 : Int) ≤ (32 : Int32).toInt ∧ (32 : Int32).toInt ≤ 127 from ⟨by decide, by decide⟩), trivial⟩
    have hfr : frA [(21, 3)] [] [38, 39, 40] [] t (fB t1 40 32) := frA_fB hfr 40 _ rfl
    exact g_Dvret C hr hlocks hP hD hS ⟨hok, hfr, hod⟩ hle hdf (Nat.le_of_ble_eq_true rfl) (Nat.le_of_ble_eq_true rfl) dX4_finish_149
  have L_66 : ∀ (t1 : tSt) (d1 : dSt) (w66_3 : Int32) (w66_4 : Int32) (H : Heap) (locs : List Loc) (ls : Array Slot), okX t1 → frA [(21, 3)] [] [38, 39, 40] [] t t1 → okD d1 → dLe d d1 → dFr s.heap.size d d1 → (0 : Int) ≤ w66_3.toInt ∧ w66_3.toInt ≤ 120 → (120 : Int) ≤ w66_4.toInt ∧ w66_4.toInt ≤ 120 → va_P D vwCl ((WX d1) K ad t1) H → va_D A ((WX d1) K ad t1) → va_S A s.heap H locs → lv_has ls 5 [(0, .ref (ad 21)), (1, .int x1), (2, .int x2), (3, .int w66_3), (4, .int w66_4)] → W p l e (rmD 1 2000 560000) s m [.ref (ad 21), .int x1, .int x2].toArray below meth c H locs (newC d d1) 246800 (MQ below (QDV D K ad d (fun (u : tSt) (dd : dSt) => okX u ∧ frA [(21, 3)] [] [38, 39, 40] [] t u ∧ okD dd) s.heap.size A) [.ref (ad 21), .int x1, .int x2].toArray s 2000 560000 A) (F0 m 66 ls []) := by
    intro t1 d1 w66_3 w66_4 H locs ls hok hfr hod hle hdf hw66_3 hw66_4 hP hD hS hl
    refine lv_aload_n C.1 C.2.1 dX4_finish_66 rfl (lv_at hl 0 rfl) ?_
    have h_1 : (0 : Int) ≤ (t1.1 21 3).toInt ∧ (t1.1 21 3).toInt ≤ 300 := hok.1 21 3
    refine k_get (v := .int (t1.1 21 3)) C hP 21 rfl rfl inlX4 3 (by decide) m_41_11 rfl dX4_finish_67 ?_
    refine lv_sipush (v := 300) C.1 C.2.1 dX4_finish_70 (by decide) ?_
    refine lv_icmp_ge (tgt := 140) C.1 C.2.1 dX4_finish_73 (by decide) (fun c_2 => ?_) (fun c_2 => ?_)
    · replace c_2 : 300 ≤ (t1.1 21 3).toInt := i_le c_2
      exact L_140 t1 d1 w66_3 w66_4 _ _ _ hok hfr hod hle hdf ⟨by omega, by omega⟩ ⟨by omega, by omega⟩ (show (1 : Int) ≤ ((t1.1 21 3) : Int32).toInt ∧ ((t1.1 21 3) : Int32).toInt ≤ 300 from ⟨by omega, by omega⟩) hP hD hS (lv_sub hl [0, 1, 2, 3, 4] rfl)
    · replace c_2 : (t1.1 21 3).toInt < 300 := i_nle c_2
      refine lv_aload_n C.1 C.2.1 dX4_finish_76 rfl (lv_at hl 0 rfl) ?_
      refine k_get (v := .ref (ad 38)) C hP 21 rfl rfl inlX4 0 (by decide) m_4_9 rfl dX4_finish_77 ?_
      refine lv_aload_n C.1 C.2.1 dX4_finish_80 rfl (lv_at hl 0 rfl) ?_
      refine k_get (v := .int (t1.1 21 3)) C hP 21 rfl rfl inlX4 3 (by decide) m_41_11 rfl dX4_finish_81 ?_
      have hn_3 : vp_in ((t1.1 21 3) : Int32) 300 := vp_in_iff.mpr ⟨by omega, by omega⟩
      refine k_ald (w := va_rf (d1.1 (600 + ((t1.1 21 3) : Int32).toNatClampNeg))) C hP 38 4 rfl rfl hn_3 (rf_n hn_3) dX4_finish_84 ?_
      rcases opt_or (d1.1 (600 + ((t1.1 21 3) : Int32).toNatClampNeg)) with hd_4 | ⟨a_5, hd_4⟩
      · refine n_ifnonnullN C.1 C.2.1 hd_4 dX4_finish_85 ?_
        refine lv_aload_n C.1 C.2.1 dX4_finish_88 rfl (lv_at hl 0 rfl) ?_
        refine k_get (v := .ref (ad 38)) C hP 21 rfl rfl inlX4 0 (by decide) m_4_9 rfl dX4_finish_89 ?_
        refine lv_aload_n C.1 C.2.1 dX4_finish_92 rfl (lv_at hl 0 rfl) ?_
        refine k_get (v := .int (t1.1 21 3)) C hP 21 rfl rfl inlX4 3 (by decide) m_41_11 rfl dX4_finish_93 ?_
        refine lv_bipush (v := 120) C.1 C.2.1 dX4_finish_96 (by decide) ?_
        refine k_late600 (d := d) C hP hD hS hA hX hle hdf m_1_14 hn_3 hd_4 ⟨Nat.le_of_ble_eq_true rfl, Nat.le_of_ble_eq_true rfl⟩ dX4_finish_98 dX4_finish_100 (fun q_6 H locs hP hD hS hle hdf => ?_)
        have hnd_7 : (nD d1 (600 + ((t1.1 21 3) : Int32).toNatClampNeg) q_6).1 (600 + ((t1.1 21 3) : Int32).toNatClampNeg) = some q_6 := nD_at
        have hod : okD (nD d1 (600 + ((t1.1 21 3) : Int32).toNatClampNeg) q_6) := okD_n hod
        refine lv_aload_n C.1 C.2.1 dX4_finish_101 rfl (lv_at hl 0 rfl) ?_
        refine k_get (v := .ref (ad 40)) C hP 21 rfl rfl inlX4 2 (by decide) m_4_11 rfl dX4_finish_102 ?_
        refine lv_iconst (v := 0) C.1 C.2.1 dX4_finish_105 (by decide) ?_
        refine lv_aload_n C.1 C.2.1 dX4_finish_106 rfl (lv_at hl 0 rfl) ?_
        refine k_get (v := .ref (ad 38)) C hP 21 rfl rfl inlX4 0 (by decide) m_4_9 rfl dX4_finish_107 ?_
        refine lv_aload_n C.1 C.2.1 dX4_finish_110 rfl (lv_at hl 0 rfl) ?_
        refine k_get (v := .int (t1.1 21 3)) C hP 21 rfl rfl inlX4 3 (by decide) m_41_11 rfl dX4_finish_111 ?_
        have hn_8 : vp_in ((t1.1 21 3) : Int32) 300 := vp_in_iff.mpr ⟨by omega, by omega⟩
        refine k_ald (w := .ref q_6) C hP 38 4 rfl rfl hn_8 (rf_at hn_8 hnd_7) dX4_finish_114 ?_
        refine lv_iconst (v := 0) C.1 C.2.1 dX4_finish_115 (by decide) ?_
        refine lv_iload_n C.1 C.2.1 dX4_finish_116 rfl (lv_at hl 3 rfl) ?_
        obtain ⟨q_9, hq_10, hs_11⟩ := WX_at600 (K := K) (ad := ad) (t := t1) (d := (nD d1 (600 + ((t1.1 21 3) : Int32).toNatClampNeg) q_6)) (vin_lt hn_3) hnd_7
        refine k_copy (ws' := WX (cD (nD d1 (600 + ((t1.1 21 3) : Int32).toNatClampNeg) q_6) (600 + ((t1.1 21 3) : Int32).toNatClampNeg) (va_cpy (t1.2.2.1 40) ((nD d1 (600 + ((t1.1 21 3) : Int32).toNatClampNeg) q_6).2 (600 + ((t1.1 21 3) : Int32).toNatClampNeg)) (0 : Int32).toNatClampNeg (0 : Int32).toNatClampNeg (w66_3 : Int32).toNatClampNeg)) K ad t1) C hl.1 hP hD hS 40 q_9 2 rfl hq_10 rfl rfl (by decide) (by decide) (fun hz => by have hz2 : w66_3.toInt < 0 := i_lt hz; omega) rfl rfl rfl (by have hq1 := clamp_eq (x := (0 : Int32)) (by first | decide | omega); have hq2 := clamp_eq (x := (w66_3 : Int32)) (by first | decide | omega); first | (have hq3 : (0 : Int32).toInt = 0 := rfl; omega) | (have hq3 : (w66_3 : Int32).toInt = 0 := rfl; omega) | (have hq3 : (0 : Int32).toInt = 0 := rfl; have hq4 : (w66_3 : Int32).toInt = 0 := rfl; omega) | omega) (by have hq1 := clamp_eq (x := (0 : Int32)) (by first | decide | omega); have hq2 := clamp_eq (x := (w66_3 : Int32)) (by first | decide | omega); first | (have hq3 : (0 : Int32).toInt = 0 := rfl; omega) | (have hq3 : (w66_3 : Int32).toInt = 0 := rfl; omega) | (have hq3 : (0 : Int32).toInt = 0 := rfl; have hq4 : (w66_3 : Int32).toInt = 0 := rfl; omega) | omega) (fun i hi => fit_b (hok.2.1 40 _)) m_41_12 m_10_14 m_10_15 m_10_16 (Nat.le_of_ble_eq_true rfl) (Nat.le_of_ble_eq_true rfl) (hs_11 _) dX4_finish_117 (fun H locs hP hD hS => ?_)
        rw [show newC d (nD d1 (600 + ((t1.1 21 3) : Int32).toNatClampNeg) q_6) = newC d (cD (nD d1 (600 + ((t1.1 21 3) : Int32).toNatClampNeg) q_6) (600 + ((t1.1 21 3) : Int32).toNatClampNeg) (va_cpy (t1.2.2.1 40) ((nD d1 (600 + ((t1.1 21 3) : Int32).toNatClampNeg) q_6).2 (600 + ((t1.1 21 3) : Int32).toNatClampNeg)) (0 : Int32).toNatClampNeg (0 : Int32).toNatClampNeg (w66_3 : Int32).toNatClampNeg)) from rfl]
        have hle : dLe d (cD (nD d1 (600 + ((t1.1 21 3) : Int32).toNatClampNeg) q_6) (600 + ((t1.1 21 3) : Int32).toNatClampNeg) (va_cpy (t1.2.2.1 40) ((nD d1 (600 + ((t1.1 21 3) : Int32).toNatClampNeg) q_6).2 (600 + ((t1.1 21 3) : Int32).toNatClampNeg)) (0 : Int32).toNatClampNeg (0 : Int32).toNatClampNeg (w66_3 : Int32).toNatClampNeg)) := hle
        have hdf : dFr s.heap.size d (cD (nD d1 (600 + ((t1.1 21 3) : Int32).toNatClampNeg) q_6) (600 + ((t1.1 21 3) : Int32).toNatClampNeg) (va_cpy (t1.2.2.1 40) ((nD d1 (600 + ((t1.1 21 3) : Int32).toNatClampNeg) q_6).2 (600 + ((t1.1 21 3) : Int32).toNatClampNeg)) (0 : Int32).toNatClampNeg (0 : Int32).toNatClampNeg (w66_3 : Int32).toNatClampNeg)) := hdf
        have hod : okD (cD (nD d1 (600 + ((t1.1 21 3) : Int32).toNatClampNeg) q_6) (600 + ((t1.1 21 3) : Int32).toNatClampNeg) (va_cpy (t1.2.2.1 40) ((nD d1 (600 + ((t1.1 21 3) : Int32).toNatClampNeg) q_6).2 (600 + ((t1.1 21 3) : Int32).toNatClampNeg)) (0 : Int32).toNatClampNeg (0 : Int32).toNatClampNeg (w66_3 : Int32).toNatClampNeg)) := okD_c hod (by have hz := vin_lt hn_3; omega)
        refine lv_aload_n C.1 C.2.1 dX4_finish_120 rfl (lv_at hl 0 rfl) ?_
        refine k_get (v := .ref (ad 39)) C hP 21 rfl rfl inlX4 1 (by decide) m_4_10 rfl dX4_finish_121 ?_
        refine lv_aload_n C.1 C.2.1 dX4_finish_124 rfl (lv_at hl 0 rfl) ?_
        refine k_get (v := .int (t1.1 21 3)) C hP 21 rfl rfl inlX4 3 (by decide) m_41_11 rfl dX4_finish_125 ?_
        refine lv_iload_n C.1 C.2.1 dX4_finish_128 rfl (lv_at hl 3 rfl) ?_
        refine k_ist (ws' := (WX (cD (nD d1 (600 + ((t1.1 21 3) : Int32).toNatClampNeg) q_6) (600 + ((t1.1 21 3) : Int32).toNatClampNeg) (va_cpy (t1.2.2.1 40) ((nD d1 (600 + ((t1.1 21 3) : Int32).toNatClampNeg) q_6).2 (600 + ((t1.1 21 3) : Int32).toNatClampNeg)) (0 : Int32).toNatClampNeg (0 : Int32).toNatClampNeg (w66_3 : Int32).toNatClampNeg))) K ad (uB t1 39 ((t1.1 21 3) : Int32).toNatClampNeg w66_3)) (x' := w66_3) C hP hD hS 39 rfl (vp_in_iff.mpr ⟨by omega, by omega⟩) rfl rfl rfl dX4_finish_129 (fun H locs hP hD hS => ?_)
        have hok : okX (uB t1 39 ((t1.1 21 3) : Int32).toNatClampNeg w66_3) := ⟨hok.1, okB_B hok.2.1 39 _ w66_3 (show (0 : Int) ≤ (w66_3 : Int32).toInt ∧ (w66_3 : Int32).toInt ≤ 120 from ⟨by omega, by omega⟩), trivial⟩
        have hfr : frA [(21, 3)] [] [38, 39, 40] [] t (uB t1 39 ((t1.1 21 3) : Int32).toNatClampNeg w66_3) := frA_B hfr 39 _ _ rfl
        refine lv_aload_n C.1 C.2.1 dX4_finish_130 rfl (lv_at hl 0 rfl) ?_
        refine lv_dup C.1 C.2.1 dX4_finish_131 rfl ?_
        refine k_get (v := .int (t1.1 21 3)) C hP 21 rfl rfl inlX4 3 (by decide) m_41_11 rfl dX4_finish_132 ?_
        refine lv_iconst (v := 1) C.1 C.2.1 dX4_finish_135 (by decide) ?_
        obtain ⟨v_12, e_13⟩ : ∃ z, z = ((t1.1 21 3) : Int32) + (1 : Int32) := ⟨_, rfl⟩
        have h_14 : v_12.toInt = (t1.1 21 3).toInt + 1 := by rw [e_13]; exact ti_iadd (by show (_ : Int) ≤ (t1.1 21 3).toInt + 1; omega) (by show (t1.1 21 3).toInt + 1 < (_ : Int); omega)
        refine k_iadd (v := v_12) C e_13.symm dX4_finish_136 ?_
        refine k_put (ws' := (WX (cD (nD d1 (600 + ((t1.1 21 3) : Int32).toNatClampNeg) q_6) (600 + ((t1.1 21 3) : Int32).toNatClampNeg) (va_cpy (t1.2.2.1 40) ((nD d1 (600 + ((t1.1 21 3) : Int32).toNatClampNeg) q_6).2 (600 + ((t1.1 21 3) : Int32).toNatClampNeg)) (0 : Int32).toNatClampNeg (0 : Int32).toNatClampNeg (w66_3 : Int32).toNatClampNeg))) K ad (uI (uB t1 39 ((t1.1 21 3) : Int32).toNatClampNeg w66_3) 21 3 v_12)) (v := .int v_12) C hP hD hS 21 rfl rfl inlX4 tyX4_ok nmX4 3 (by decide) m_41_11 rfl rfl rfl rfl rfl dX4_finish_137 (fun H locs hP hD hS => ?_)
        have hok : okX (uI (uB t1 39 ((t1.1 21 3) : Int32).toNatClampNeg w66_3) 21 3 v_12) := ⟨okI_I hok.1 21 3 v_12 (show (0 : Int) ≤ (v_12 : Int32).toInt ∧ (v_12 : Int32).toInt ≤ 300 from ⟨by omega, by omega⟩), hok.2.1, trivial⟩
        have hfr : frA [(21, 3)] [] [38, 39, 40] [] t (uI (uB t1 39 ((t1.1 21 3) : Int32).toNatClampNeg w66_3) 21 3 v_12) := frA_I hfr 21 3 _ rfl
        exact L_140 (uI (uB t1 39 ((t1.1 21 3) : Int32).toNatClampNeg w66_3) 21 3 v_12) (cD (nD d1 (600 + ((t1.1 21 3) : Int32).toNatClampNeg) q_6) (600 + ((t1.1 21 3) : Int32).toNatClampNeg) (va_cpy (t1.2.2.1 40) ((nD d1 (600 + ((t1.1 21 3) : Int32).toNatClampNeg) q_6).2 (600 + ((t1.1 21 3) : Int32).toNatClampNeg)) (0 : Int32).toNatClampNeg (0 : Int32).toNatClampNeg (w66_3 : Int32).toNatClampNeg)) w66_3 w66_4 _ _ _ hok hfr hod hle hdf ⟨by omega, by omega⟩ ⟨by omega, by omega⟩ (show (1 : Int) ≤ (v_12 : Int32).toInt ∧ (v_12 : Int32).toInt ≤ 300 from ⟨by omega, by omega⟩) hP hD hS (lv_sub hl [0, 1, 2, 3, 4] rfl)
      · refine n_ifnonnullS (tgt := 101) C.1 C.2.1 hd_4 dX4_finish_85 (by decide) ?_
        refine lv_aload_n C.1 C.2.1 dX4_finish_101 rfl (lv_at hl 0 rfl) ?_
        refine k_get (v := .ref (ad 40)) C hP 21 rfl rfl inlX4 2 (by decide) m_4_11 rfl dX4_finish_102 ?_
        refine lv_iconst (v := 0) C.1 C.2.1 dX4_finish_105 (by decide) ?_
        refine lv_aload_n C.1 C.2.1 dX4_finish_106 rfl (lv_at hl 0 rfl) ?_
        refine k_get (v := .ref (ad 38)) C hP 21 rfl rfl inlX4 0 (by decide) m_4_9 rfl dX4_finish_107 ?_
        refine lv_aload_n C.1 C.2.1 dX4_finish_110 rfl (lv_at hl 0 rfl) ?_
        refine k_get (v := .int (t1.1 21 3)) C hP 21 rfl rfl inlX4 3 (by decide) m_41_11 rfl dX4_finish_111 ?_
        have hn_15 : vp_in ((t1.1 21 3) : Int32) 300 := vp_in_iff.mpr ⟨by omega, by omega⟩
        refine k_ald (w := .ref a_5) C hP 38 4 rfl rfl hn_15 (rf_at hn_15 hd_4) dX4_finish_114 ?_
        refine lv_iconst (v := 0) C.1 C.2.1 dX4_finish_115 (by decide) ?_
        refine lv_iload_n C.1 C.2.1 dX4_finish_116 rfl (lv_at hl 3 rfl) ?_
        obtain ⟨q_16, hq_17, hs_18⟩ := WX_at600 (K := K) (ad := ad) (t := t1) (d := d1) (vin_lt hn_3) hd_4
        refine k_copy (ws' := WX (cD d1 (600 + ((t1.1 21 3) : Int32).toNatClampNeg) (va_cpy (t1.2.2.1 40) (d1.2 (600 + ((t1.1 21 3) : Int32).toNatClampNeg)) (0 : Int32).toNatClampNeg (0 : Int32).toNatClampNeg (w66_3 : Int32).toNatClampNeg)) K ad t1) C hl.1 hP hD hS 40 q_16 2 rfl hq_17 rfl rfl (by decide) (by decide) (fun hz => by have hz2 : w66_3.toInt < 0 := i_lt hz; omega) rfl rfl rfl (by have hq1 := clamp_eq (x := (0 : Int32)) (by first | decide | omega); have hq2 := clamp_eq (x := (w66_3 : Int32)) (by first | decide | omega); first | (have hq3 : (0 : Int32).toInt = 0 := rfl; omega) | (have hq3 : (w66_3 : Int32).toInt = 0 := rfl; omega) | (have hq3 : (0 : Int32).toInt = 0 := rfl; have hq4 : (w66_3 : Int32).toInt = 0 := rfl; omega) | omega) (by have hq1 := clamp_eq (x := (0 : Int32)) (by first | decide | omega); have hq2 := clamp_eq (x := (w66_3 : Int32)) (by first | decide | omega); first | (have hq3 : (0 : Int32).toInt = 0 := rfl; omega) | (have hq3 : (w66_3 : Int32).toInt = 0 := rfl; omega) | (have hq3 : (0 : Int32).toInt = 0 := rfl; have hq4 : (w66_3 : Int32).toInt = 0 := rfl; omega) | omega) (fun i hi => fit_b (hok.2.1 40 _)) m_41_12 m_10_14 m_10_15 m_10_16 (Nat.le_of_ble_eq_true rfl) (Nat.le_of_ble_eq_true rfl) (hs_18 _) dX4_finish_117 (fun H locs hP hD hS => ?_)
        rw [show newC d d1 = newC d (cD d1 (600 + ((t1.1 21 3) : Int32).toNatClampNeg) (va_cpy (t1.2.2.1 40) (d1.2 (600 + ((t1.1 21 3) : Int32).toNatClampNeg)) (0 : Int32).toNatClampNeg (0 : Int32).toNatClampNeg (w66_3 : Int32).toNatClampNeg)) from rfl]
        have hle : dLe d (cD d1 (600 + ((t1.1 21 3) : Int32).toNatClampNeg) (va_cpy (t1.2.2.1 40) (d1.2 (600 + ((t1.1 21 3) : Int32).toNatClampNeg)) (0 : Int32).toNatClampNeg (0 : Int32).toNatClampNeg (w66_3 : Int32).toNatClampNeg)) := hle
        have hdf : dFr s.heap.size d (cD d1 (600 + ((t1.1 21 3) : Int32).toNatClampNeg) (va_cpy (t1.2.2.1 40) (d1.2 (600 + ((t1.1 21 3) : Int32).toNatClampNeg)) (0 : Int32).toNatClampNeg (0 : Int32).toNatClampNeg (w66_3 : Int32).toNatClampNeg)) := hdf
        have hod : okD (cD d1 (600 + ((t1.1 21 3) : Int32).toNatClampNeg) (va_cpy (t1.2.2.1 40) (d1.2 (600 + ((t1.1 21 3) : Int32).toNatClampNeg)) (0 : Int32).toNatClampNeg (0 : Int32).toNatClampNeg (w66_3 : Int32).toNatClampNeg)) := okD_c hod (by have hz := vin_lt hn_3; omega)
        refine lv_aload_n C.1 C.2.1 dX4_finish_120 rfl (lv_at hl 0 rfl) ?_
        refine k_get (v := .ref (ad 39)) C hP 21 rfl rfl inlX4 1 (by decide) m_4_10 rfl dX4_finish_121 ?_
        refine lv_aload_n C.1 C.2.1 dX4_finish_124 rfl (lv_at hl 0 rfl) ?_
        refine k_get (v := .int (t1.1 21 3)) C hP 21 rfl rfl inlX4 3 (by decide) m_41_11 rfl dX4_finish_125 ?_
        refine lv_iload_n C.1 C.2.1 dX4_finish_128 rfl (lv_at hl 3 rfl) ?_
        refine k_ist (ws' := (WX (cD d1 (600 + ((t1.1 21 3) : Int32).toNatClampNeg) (va_cpy (t1.2.2.1 40) (d1.2 (600 + ((t1.1 21 3) : Int32).toNatClampNeg)) (0 : Int32).toNatClampNeg (0 : Int32).toNatClampNeg (w66_3 : Int32).toNatClampNeg))) K ad (uB t1 39 ((t1.1 21 3) : Int32).toNatClampNeg w66_3)) (x' := w66_3) C hP hD hS 39 rfl (vp_in_iff.mpr ⟨by omega, by omega⟩) rfl rfl rfl dX4_finish_129 (fun H locs hP hD hS => ?_)
        have hok : okX (uB t1 39 ((t1.1 21 3) : Int32).toNatClampNeg w66_3) := ⟨hok.1, okB_B hok.2.1 39 _ w66_3 (show (0 : Int) ≤ (w66_3 : Int32).toInt ∧ (w66_3 : Int32).toInt ≤ 120 from ⟨by omega, by omega⟩), trivial⟩
        have hfr : frA [(21, 3)] [] [38, 39, 40] [] t (uB t1 39 ((t1.1 21 3) : Int32).toNatClampNeg w66_3) := frA_B hfr 39 _ _ rfl
        refine lv_aload_n C.1 C.2.1 dX4_finish_130 rfl (lv_at hl 0 rfl) ?_
        refine lv_dup C.1 C.2.1 dX4_finish_131 rfl ?_
        refine k_get (v := .int (t1.1 21 3)) C hP 21 rfl rfl inlX4 3 (by decide) m_41_11 rfl dX4_finish_132 ?_
        refine lv_iconst (v := 1) C.1 C.2.1 dX4_finish_135 (by decide) ?_
        obtain ⟨v_19, e_20⟩ : ∃ z, z = ((t1.1 21 3) : Int32) + (1 : Int32) := ⟨_, rfl⟩
        have h_21 : v_19.toInt = (t1.1 21 3).toInt + 1 := by rw [e_20]; exact ti_iadd (by show (_ : Int) ≤ (t1.1 21 3).toInt + 1; omega) (by show (t1.1 21 3).toInt + 1 < (_ : Int); omega)
        refine k_iadd (v := v_19) C e_20.symm dX4_finish_136 ?_
        refine k_put (ws' := (WX (cD d1 (600 + ((t1.1 21 3) : Int32).toNatClampNeg) (va_cpy (t1.2.2.1 40) (d1.2 (600 + ((t1.1 21 3) : Int32).toNatClampNeg)) (0 : Int32).toNatClampNeg (0 : Int32).toNatClampNeg (w66_3 : Int32).toNatClampNeg))) K ad (uI (uB t1 39 ((t1.1 21 3) : Int32).toNatClampNeg w66_3) 21 3 v_19)) (v := .int v_19) C hP hD hS 21 rfl rfl inlX4 tyX4_ok nmX4 3 (by decide) m_41_11 rfl rfl rfl rfl rfl dX4_finish_137 (fun H locs hP hD hS => ?_)
        have hok : okX (uI (uB t1 39 ((t1.1 21 3) : Int32).toNatClampNeg w66_3) 21 3 v_19) := ⟨okI_I hok.1 21 3 v_19 (show (0 : Int) ≤ (v_19 : Int32).toInt ∧ (v_19 : Int32).toInt ≤ 300 from ⟨by omega, by omega⟩), hok.2.1, trivial⟩
        have hfr : frA [(21, 3)] [] [38, 39, 40] [] t (uI (uB t1 39 ((t1.1 21 3) : Int32).toNatClampNeg w66_3) 21 3 v_19) := frA_I hfr 21 3 _ rfl
        exact L_140 (uI (uB t1 39 ((t1.1 21 3) : Int32).toNatClampNeg w66_3) 21 3 v_19) (cD d1 (600 + ((t1.1 21 3) : Int32).toNatClampNeg) (va_cpy (t1.2.2.1 40) (d1.2 (600 + ((t1.1 21 3) : Int32).toNatClampNeg)) (0 : Int32).toNatClampNeg (0 : Int32).toNatClampNeg (w66_3 : Int32).toNatClampNeg)) w66_3 w66_4 _ _ _ hok hfr hod hle hdf ⟨by omega, by omega⟩ ⟨by omega, by omega⟩ (show (1 : Int) ≤ (v_19 : Int32).toInt ∧ (v_19 : Int32).toInt ≤ 300 from ⟨by omega, by omega⟩) hP hD hS (lv_sub hl [0, 1, 2, 3, 4] rfl)
  have L_5 : ∀ (fuel_5 : Nat) (t1 : tSt) (d1 : dSt) (w5_3 : Int32) (w5_4 : Int32) (H : Heap) (locs : List Loc) (ls : Array Slot), okX t1 → frA [(21, 3)] [] [38, 39, 40] [] t t1 → okD d1 → dLe d d1 → dFr s.heap.size d d1 → (0 : Int) ≤ w5_3.toInt ∧ w5_3.toInt ≤ 120 → (0 : Int) ≤ w5_4.toInt ∧ w5_4.toInt ≤ 120 → (120 : Int) - w5_4.toInt < (fuel_5 : Int) → va_P D vwCl ((WX d1) K ad t1) H → va_D A ((WX d1) K ad t1) → va_S A s.heap H locs → lv_has ls 5 [(0, .ref (ad 21)), (1, .int x1), (2, .int x2), (3, .int w5_3), (4, .int w5_4)] → W p l e (rmD 1 2000 560000) s m [.ref (ad 21), .int x1, .int x2].toArray below meth c H locs (newC d d1) 246800 (MQ below (QDV D K ad d (fun (u : tSt) (dd : dSt) => okX u ∧ frA [(21, 3)] [] [38, 39, 40] [] t u ∧ okD dd) s.heap.size A) [.ref (ad 21), .int x1, .int x2].toArray s 2000 560000 A) (F0 m 5 ls []) := by
    intro fuel_5
    induction fuel_5 with
    | zero =>
      intro t1 d1 w5_3 w5_4 H locs ls hok hfr hod hle hdf hw5_3 hw5_4 hm5_5 hP hD hS hl
      exact absurd hm5_5 (by omega)
    | succ fuel_5 ih_5 =>
      intro t1 d1 w5_3 w5_4 H locs ls hok hfr hod hle hdf hw5_3 hw5_4 hm5_5 hP hD hS hl
      have hm5_5 : (120 : Int) - w5_4.toInt < (fuel_5 : Int) + 1 := by omega
      have L_60 : ∀ (t1 : tSt) (d1 : dSt) (w60_3 : Int32) (w60_4 : Int32) (H : Heap) (locs : List Loc) (ls : Array Slot), okX t1 → frA [(21, 3)] [] [38, 39, 40] [] t t1 → okD d1 → dLe d d1 → dFr s.heap.size d d1 → (0 : Int) ≤ w60_3.toInt ∧ w60_3.toInt ≤ 120 → (0 : Int) ≤ w60_4.toInt ∧ w60_4.toInt ≤ 119 → (120 : Int) - w60_4.toInt < (fuel_5 : Int) + 1 → va_P D vwCl ((WX d1) K ad t1) H → va_D A ((WX d1) K ad t1) → va_S A s.heap H locs → lv_has ls 5 [(0, .ref (ad 21)), (1, .int x1), (2, .int x2), (3, .int w60_3), (4, .int w60_4)] → W p l e (rmD 1 2000 560000) s m [.ref (ad 21), .int x1, .int x2].toArray below meth c H locs (newC d d1) 246800 (MQ below (QDV D K ad d (fun (u : tSt) (dd : dSt) => okX u ∧ frA [(21, 3)] [] [38, 39, 40] [] t u ∧ okD dd) s.heap.size A) [.ref (ad 21), .int x1, .int x2].toArray s 2000 560000 A) (F0 m 60 ls []) := by
        intro t1 d1 w60_3 w60_4 H locs ls hok hfr hod hle hdf hw60_3 hw60_4 hm60_5 hP hD hS hl
        obtain ⟨v_22, e_23⟩ : ∃ z, z = w60_4 + 1 := ⟨_, rfl⟩
        have h_24 : v_22.toInt = w60_4.toInt + 1 := by rw [e_23]; exact ti_iadd (by show (_ : Int) ≤ w60_4.toInt + 1; omega) (by show w60_4.toInt + 1 < (_ : Int); omega)
        refine lv_iinc (v := v_22) (lv' := [(4, .int v_22), (0, .ref (ad 21)), (1, .int x1), (2, .int x2), (3, .int w60_3)]) C.1 C.2.1 dX4_finish_60 hl (k := 4) rfl e_23.symm (by decide) rfl (fun ls hl => ?_)
        have hl : lv_has ls 5 [(0, .ref (ad 21)), (1, .int x1), (2, .int x2), (3, .int w60_3), (4, .int v_22)] := lv_sub hl [1, 2, 3, 4, 0] rfl
        refine lv_goto (tgt := 5) C.1 C.2.1 dX4_finish_63 (by decide) ?_
        exact ih_5 t1 d1 w60_3 v_22 _ _ _ hok hfr hod hle hdf ⟨by omega, by omega⟩ ⟨by omega, by omega⟩ (show (120 : Int) - v_22.toInt < (fuel_5 : Int) from by omega) hP hD hS (lv_sub hl [0, 1, 2, 3, 4] rfl)
      refine lv_iload C.1 C.2.1 dX4_finish_5 (lv_at hl 4 rfl) ?_
      refine lv_bipush (v := 120) C.1 C.2.1 dX4_finish_7 (by decide) ?_
      refine lv_icmp_ge (tgt := 66) C.1 C.2.1 dX4_finish_9 (by decide) (fun c_25 => ?_) (fun c_25 => ?_)
      · replace c_25 : 120 ≤ w5_4.toInt := i_le c_25
        exact L_66 t1 d1 w5_3 w5_4 _ _ _ hok hfr hod hle hdf ⟨by omega, by omega⟩ ⟨by omega, by omega⟩ hP hD hS (lv_sub hl [0, 1, 2, 3, 4] rfl)
      · replace c_25 : w5_4.toInt < 120 := i_nle c_25
        refine lv_iload C.1 C.2.1 dX4_finish_12 (lv_at hl 4 rfl) ?_
        refine lv_iload_n C.1 C.2.1 dX4_finish_14 rfl (lv_at hl 1 rfl) ?_
        refine lv_icmp_ge (tgt := 66) C.1 C.2.1 dX4_finish_15 (by decide) (fun c_26 => False.elim (by have c_26 : x1.toInt ≤ w5_4.toInt := i_le c_26; omega)) (fun c_26 => ?_)
        replace c_26 : w5_4.toInt < x1.toInt := i_nle c_26
        refine lv_iload_n C.1 C.2.1 dX4_finish_18 rfl (lv_at hl 2 rfl) ?_
        refine lv_if_eq (tgt := 43) C.1 C.2.1 dX4_finish_19 (by decide) (fun c_27 => ?_) (fun c_27 => False.elim (by have c_27 : ¬ x2.toInt = 0 := i_ne c_27; omega))
        replace c_27 : x2.toInt = 0 := i_eq c_27
        refine lv_aload_n C.1 C.2.1 dX4_finish_43 rfl (lv_at hl 0 rfl) ?_
        refine k_get (v := .ref (ad 40)) C hP 21 rfl rfl inlX4 2 (by decide) m_4_11 rfl dX4_finish_44 ?_
        refine lv_iload C.1 C.2.1 dX4_finish_47 (lv_at hl 4 rfl) ?_
        obtain ⟨v_28, e_29⟩ : ∃ z, z = (t1.2.2.1 40 (w5_4 : Int32).toNatClampNeg) := ⟨_, rfl⟩
        have h_30 : (-128 : Int) ≤ v_28.toInt ∧ v_28.toInt ≤ 127 := by rw [e_29]; exact hok.2.1 40 _
        refine k_bld (v := v_28) C hP 40 rfl (vp_in_iff.mpr ⟨by omega, by omega⟩) e_29.symm dX4_finish_49 ?_
        refine lv_bipush (v := 32) C.1 C.2.1 dX4_finish_50 (by decide) ?_
        refine lv_icmp_eq (tgt := 60) C.1 C.2.1 dX4_finish_52 (by decide) (fun c_31 => ?_) (fun c_31 => ?_)
        · replace c_31 : v_28.toInt = 32 := i_eq c_31
          exact L_60 t1 d1 w5_3 w5_4 _ _ _ hok hfr hod hle hdf ⟨by omega, by omega⟩ ⟨by omega, by omega⟩ (show (120 : Int) - w5_4.toInt < (fuel_5 : Int) + 1 from by omega) hP hD hS (lv_sub hl [0, 1, 2, 3, 4] rfl)
        · replace c_31 : ¬ v_28.toInt = 32 := i_ne c_31
          refine lv_iload C.1 C.2.1 dX4_finish_55 (lv_at hl 4 rfl) ?_
          refine lv_iconst (v := 1) C.1 C.2.1 dX4_finish_57 (by decide) ?_
          obtain ⟨v_32, e_33⟩ : ∃ z, z = (w5_4 : Int32) + (1 : Int32) := ⟨_, rfl⟩
          have h_34 : v_32.toInt = w5_4.toInt + 1 := by rw [e_33]; exact ti_iadd (by show (_ : Int) ≤ w5_4.toInt + 1; omega) (by show w5_4.toInt + 1 < (_ : Int); omega)
          refine k_iadd (v := v_32) C e_33.symm dX4_finish_58 ?_
          refine lv_istore_n (lv' := [(3, .int v_32), (0, .ref (ad 21)), (1, .int x1), (2, .int x2), (4, .int w5_4)]) C.1 C.2.1 dX4_finish_59 rfl hl (by decide) rfl (fun ls hl => ?_)
          have hl : lv_has ls 5 [(0, .ref (ad 21)), (1, .int x1), (2, .int x2), (3, .int v_32), (4, .int w5_4)] := lv_sub hl [1, 2, 3, 0, 4] rfl
          exact L_60 t1 d1 v_32 w5_4 _ _ _ hok hfr hod hle hdf ⟨by omega, by omega⟩ ⟨by omega, by omega⟩ (show (120 : Int) - w5_4.toInt < (fuel_5 : Int) + 1 from by omega) hP hD hS (lv_sub hl [0, 1, 2, 3, 4] rfl)
  refine lv_iconst (v := 0) C.1 C.2.1 dX4_finish_0 (by decide) ?_
  refine lv_istore_n (lv' := [(3, .int 0), (0, .ref (ad 21)), (1, .int x1), (2, .int x2)]) C.1 C.2.1 dX4_finish_1 rfl hl (by decide) rfl (fun ls hl => ?_)
  have hl : lv_has ls 5 [(0, .ref (ad 21)), (1, .int x1), (2, .int x2), (3, .int 0)] := lv_sub hl [1, 2, 3, 0] rfl
  refine lv_iconst (v := 0) C.1 C.2.1 dX4_finish_2 (by decide) ?_
  refine lv_istore (lv' := [(4, .int 0), (0, .ref (ad 21)), (1, .int x1), (2, .int x2), (3, .int 0)]) C.1 C.2.1 dX4_finish_3 hl (by decide) rfl (fun ls hl => ?_)
  have hl : lv_has ls 5 [(0, .ref (ad 21)), (1, .int x1), (2, .int x2), (3, .int 0), (4, .int 0)] := lv_sub hl [1, 2, 3, 4, 0] rfl
  exact L_5 121 t d 0 0 _ _ _ hok hfr hod hle hdf ⟨by decide, by decide⟩ ⟨by decide, by decide⟩ (show (120 : Int) - 0 < ((121 : Nat) : Int) from by omega) hP hD hS (lv_sub hl [0, 1, 2, 3, 4] rfl)

theorem dX3_keep_0 : decode cX3_keep 0 = .ok (.aload_n 0, 1) := by decide +kernel
theorem dX3_keep_1 : decode cX3_keep 1 = .ok (.getfield 161, 3) := by decide +kernel
theorem dX3_keep_11 : decode cX3_keep 11 = .ok (.newarray .int, 2) := by decide +kernel
theorem dX3_keep_13 : decode cX3_keep 13 = .ok (.putfield 161, 3) := by decide +kernel
theorem dX3_keep_16 : decode cX3_keep 16 = .ok (.aload_n 1, 1) := by decide +kernel
theorem dX3_keep_17 : decode cX3_keep 17 = .ok (.sipush 3999, 3) := by decide +kernel
theorem dX3_keep_20 : decode cX3_keep 20 = .ok (.aload_n 0, 1) := by decide +kernel
theorem dX3_keep_21 : decode cX3_keep 21 = .ok (.getfield 161, 3) := by decide +kernel
theorem dX3_keep_24 : decode cX3_keep 24 = .ok (.iconst 0, 1) := by decide +kernel
theorem dX3_keep_25 : decode cX3_keep 25 = .ok (.sipush 4000, 3) := by decide +kernel
theorem dX3_keep_28 : decode cX3_keep 28 = .ok (.invokestatic 164, 3) := by decide +kernel
theorem dX3_keep_31 : decode cX3_keep 31 = .ok (.aload_n 0, 1) := by decide +kernel
theorem dX3_keep_32 : decode cX3_keep 32 = .ok (.aload_n 0, 1) := by decide +kernel
theorem dX3_keep_33 : decode cX3_keep 33 = .ok (.getfield 149, 3) := by decide +kernel
theorem dX3_keep_36 : decode cX3_keep 36 = .ok (.putfield 170, 3) := by decide +kernel
theorem dX3_keep_39 : decode cX3_keep 39 = .ok (.aload_n 0, 1) := by decide +kernel
theorem dX3_keep_4 : decode cX3_keep 4 = .ok (.ifnonnull 12, 3) := by decide +kernel
theorem dX3_keep_40 : decode cX3_keep 40 = .ok (.iconst 1, 1) := by decide +kernel
theorem dX3_keep_41 : decode cX3_keep 41 = .ok (.putfield 29, 3) := by decide +kernel
theorem dX3_keep_44 : decode cX3_keep 44 = .ok (.return_, 1) := by decide +kernel
theorem dX3_keep_7 : decode cX3_keep 7 = .ok (.aload_n 0, 1) := by decide +kernel
theorem dX3_keep_8 : decode cX3_keep 8 = .ok (.sipush 4000, 3) := by decide +kernel
set_option maxHeartbeats 4000000 in
set_option maxRecDepth 100000 in
theorem T_X3_keep (l : Launch) (D : va_G) (K : Nat → ClassId) (Z Y : Nat → Nat) (ad : Nat → Nat) (d : dSt) (t : tSt) (hok : okX t) (hod : okD d)  : dMet l yX3_keep cX3_keep 2 none (rmD 1 2000 560000) D K Z Y [.ref (ad 7), .ref (ad 10)] ((WX d) K ad t) (QDV D K ad d (fun (u : tSt) (dd : dSt) => okX u ∧ frA [(7, 14), (7, 15)] [] [] [] t u ∧ okD dd)) 2000 560000 := by
  refine d_met d RX3 ⟨rfl, by decide +kernel⟩ (Nat.le_of_ble_eq_true rfl) ?_
  intro p e s m below meth c A ls C hE hZ hX hr hlocks hA hP hD hS hl
  have hl : lv_has ls 2 [(0, .ref (ad 7)), (1, .ref (ad 10))] := hl
  have hle : dLe d d := dLe_rf
  have hdf : dFr s.heap.size d d := dFr_rf
  have hokt := hok
  have hfr : frA [(7, 14), (7, 15)] [] [] [] t t := frA_rf
  refine lv_aload_n C.1 C.2.1 dX3_keep_0 rfl (lv_at hl 0 rfl) ?_
  refine k_get (v := va_rf (d.1 917)) C hP 7 rfl rfl inlX3 13 (by decide) m_76_3 rfl dX3_keep_1 ?_
  rcases opt_or (d.1 917) with hd_1 | ⟨a_2, hd_1⟩
  · refine n_ifnonnullN C.1 C.2.1 hd_1 dX3_keep_4 ?_
    refine lv_aload_n C.1 C.2.1 dX3_keep_7 rfl (lv_at hl 0 rfl) ?_
    refine lv_sipush (v := 4000) C.1 C.2.1 dX3_keep_8 (by decide) ?_
    refine k_late917 (d := d) C hP hD hS hA hle hdf m_1_13 m_76_3 hd_1 ⟨Nat.le_of_ble_eq_true rfl, Nat.le_of_ble_eq_true rfl⟩ dX3_keep_11 dX3_keep_13 (fun q_3 H locs hP hD hS hle hdf => ?_)
    have hnd_4 : (nD d 917 q_3).1 917 = some q_3 := nD_at
    have hod : okD (nD d 917 q_3) := okD_n hod
    refine lv_aload_n C.1 C.2.1 dX3_keep_16 rfl (lv_at hl 1 rfl) ?_
    refine lv_sipush (v := 3999) C.1 C.2.1 dX3_keep_17 (by decide) ?_
    refine lv_aload_n C.1 C.2.1 dX3_keep_20 rfl (lv_at hl 0 rfl) ?_
    refine k_get (v := .ref q_3) C hP 7 rfl rfl inlX3 13 (by decide) m_76_3 (rf_eq hnd_4) dX3_keep_21 ?_
    refine lv_iconst (v := 0) C.1 C.2.1 dX3_keep_24 (by decide) ?_
    refine lv_sipush (v := 4000) C.1 C.2.1 dX3_keep_25 (by decide) ?_
    obtain ⟨q_5, hq_6, hs_7⟩ := WX_at917 (K := K) (ad := ad) (t := t) (d := (nD d 917 q_3)) hnd_4
    refine k_copy (ws' := WX (cD (nD d 917 q_3) 917 (va_cpy (t.2.2.1 10) ((nD d 917 q_3).2 917) (3999 : Int32).toNatClampNeg (0 : Int32).toNatClampNeg (4000 : Int32).toNatClampNeg)) K ad t) C hl.1 hP hD hS 10 q_5 0 rfl hq_6 rfl rfl (by decide) (by decide) (by decide) rfl rfl rfl (by have hq1 := clamp_eq (x := (3999 : Int32)) (by first | decide | omega); have hq2 := clamp_eq (x := (4000 : Int32)) (by first | decide | omega); first | (have hq3 : (3999 : Int32).toInt = 3999 := rfl; omega) | (have hq3 : (4000 : Int32).toInt = 4000 := rfl; omega) | (have hq3 : (3999 : Int32).toInt = 3999 := rfl; have hq4 : (4000 : Int32).toInt = 4000 := rfl; omega) | omega) (by have hq1 := clamp_eq (x := (0 : Int32)) (by first | decide | omega); have hq2 := clamp_eq (x := (4000 : Int32)) (by first | decide | omega); first | (have hq3 : (0 : Int32).toInt = 0 := rfl; omega) | (have hq3 : (4000 : Int32).toInt = 4000 := rfl; omega) | (have hq3 : (0 : Int32).toInt = 0 := rfl; have hq4 : (4000 : Int32).toInt = 4000 := rfl; omega) | omega) (fun i hi => rfl) m_76_4 m_10_14 m_10_15 m_10_16 (Nat.le_of_ble_eq_true rfl) (Nat.le_of_ble_eq_true rfl) (hs_7 _) dX3_keep_28 (fun H locs hP hD hS => ?_)
    rw [show newC d (nD d 917 q_3) = newC d (cD (nD d 917 q_3) 917 (va_cpy (t.2.2.1 10) ((nD d 917 q_3).2 917) (3999 : Int32).toNatClampNeg (0 : Int32).toNatClampNeg (4000 : Int32).toNatClampNeg)) from rfl]
    have hle : dLe d (cD (nD d 917 q_3) 917 (va_cpy (t.2.2.1 10) ((nD d 917 q_3).2 917) (3999 : Int32).toNatClampNeg (0 : Int32).toNatClampNeg (4000 : Int32).toNatClampNeg)) := hle
    have hdf : dFr s.heap.size d (cD (nD d 917 q_3) 917 (va_cpy (t.2.2.1 10) ((nD d 917 q_3).2 917) (3999 : Int32).toNatClampNeg (0 : Int32).toNatClampNeg (4000 : Int32).toNatClampNeg)) := hdf
    have hod : okD (cD (nD d 917 q_3) 917 (va_cpy (t.2.2.1 10) ((nD d 917 q_3).2 917) (3999 : Int32).toNatClampNeg (0 : Int32).toNatClampNeg (4000 : Int32).toNatClampNeg)) := okD_c hod (by first | decide | omega)
    refine lv_aload_n C.1 C.2.1 dX3_keep_31 rfl (lv_at hl 0 rfl) ?_
    refine lv_aload_n C.1 C.2.1 dX3_keep_32 rfl (lv_at hl 0 rfl) ?_
    have h_8 : (-1073741824 : Int) ≤ (t.1 7 9).toInt ∧ (t.1 7 9).toInt ≤ 2147483647 := hok.1 7 9
    refine k_get (v := .int (t.1 7 9)) C hP 7 rfl rfl inlX3 9 (by decide) m_75_15 rfl dX3_keep_33 ?_
    refine k_put (ws' := (WX (cD (nD d 917 q_3) 917 (va_cpy (t.2.2.1 10) ((nD d 917 q_3).2 917) (3999 : Int32).toNatClampNeg (0 : Int32).toNatClampNeg (4000 : Int32).toNatClampNeg))) K ad (uI t 7 14 (t.1 7 9))) (v := .int (t.1 7 9)) C hP hD hS 7 rfl rfl inlX3 tyX3_ok nmX3 14 (by decide) m_76_5 rfl rfl rfl rfl rfl dX3_keep_36 (fun H locs hP hD hS => ?_)
    have hok : okX (uI t 7 14 (t.1 7 9)) := ⟨okI_I hok.1 7 14 (t.1 7 9) (show (-1073741824 : Int) ≤ ((t.1 7 9) : Int32).toInt ∧ ((t.1 7 9) : Int32).toInt ≤ 2147483647 from ⟨by omega, (i_rng _).2⟩), hok.2.1, trivial⟩
    have hfr : frA [(7, 14), (7, 15)] [] [] [] t (uI t 7 14 (t.1 7 9)) := frA_I hfr 7 14 _ rfl
    refine lv_aload_n C.1 C.2.1 dX3_keep_39 rfl (lv_at hl 0 rfl) ?_
    refine lv_iconst (v := 1) C.1 C.2.1 dX3_keep_40 (by decide) ?_
    refine k_put (ws' := (WX (cD (nD d 917 q_3) 917 (va_cpy (t.2.2.1 10) ((nD d 917 q_3).2 917) (3999 : Int32).toNatClampNeg (0 : Int32).toNatClampNeg (4000 : Int32).toNatClampNeg))) K ad (uI (uI t 7 14 (t.1 7 9)) 7 15 1)) (v := .int 1) C hP hD hS 7 rfl rfl inlX3 tyX3_ok nmX3 15 (by decide) m_74_9 rfl (by decide) (by decide) rfl rfl dX3_keep_41 (fun H locs hP hD hS => ?_)
    have hok : okX (uI (uI t 7 14 (t.1 7 9)) 7 15 1) := ⟨okI_I hok.1 7 15 1 (show (0 : Int) ≤ (1 : Int32).toInt ∧ (1 : Int32).toInt ≤ 1 from ⟨by decide, by decide⟩), hok.2.1, trivial⟩
    have hfr : frA [(7, 14), (7, 15)] [] [] [] t (uI (uI t 7 14 (t.1 7 9)) 7 15 1) := frA_I hfr 7 15 _ rfl
    exact g_Dvret C hr hlocks hP hD hS ⟨hok, hfr, hod⟩ hle hdf (Nat.le_of_ble_eq_true rfl) (Nat.le_of_ble_eq_true rfl) dX3_keep_44
  · refine n_ifnonnullS (tgt := 16) C.1 C.2.1 hd_1 dX3_keep_4 (by decide) ?_
    refine lv_aload_n C.1 C.2.1 dX3_keep_16 rfl (lv_at hl 1 rfl) ?_
    refine lv_sipush (v := 3999) C.1 C.2.1 dX3_keep_17 (by decide) ?_
    refine lv_aload_n C.1 C.2.1 dX3_keep_20 rfl (lv_at hl 0 rfl) ?_
    refine k_get (v := .ref a_2) C hP 7 rfl rfl inlX3 13 (by decide) m_76_3 (rf_eq hd_1) dX3_keep_21 ?_
    refine lv_iconst (v := 0) C.1 C.2.1 dX3_keep_24 (by decide) ?_
    refine lv_sipush (v := 4000) C.1 C.2.1 dX3_keep_25 (by decide) ?_
    obtain ⟨q_9, hq_10, hs_11⟩ := WX_at917 (K := K) (ad := ad) (t := t) (d := d) hd_1
    refine k_copy (ws' := WX (cD d 917 (va_cpy (t.2.2.1 10) (d.2 917) (3999 : Int32).toNatClampNeg (0 : Int32).toNatClampNeg (4000 : Int32).toNatClampNeg)) K ad t) C hl.1 hP hD hS 10 q_9 0 rfl hq_10 rfl rfl (by decide) (by decide) (by decide) rfl rfl rfl (by have hq1 := clamp_eq (x := (3999 : Int32)) (by first | decide | omega); have hq2 := clamp_eq (x := (4000 : Int32)) (by first | decide | omega); first | (have hq3 : (3999 : Int32).toInt = 3999 := rfl; omega) | (have hq3 : (4000 : Int32).toInt = 4000 := rfl; omega) | (have hq3 : (3999 : Int32).toInt = 3999 := rfl; have hq4 : (4000 : Int32).toInt = 4000 := rfl; omega) | omega) (by have hq1 := clamp_eq (x := (0 : Int32)) (by first | decide | omega); have hq2 := clamp_eq (x := (4000 : Int32)) (by first | decide | omega); first | (have hq3 : (0 : Int32).toInt = 0 := rfl; omega) | (have hq3 : (4000 : Int32).toInt = 4000 := rfl; omega) | (have hq3 : (0 : Int32).toInt = 0 := rfl; have hq4 : (4000 : Int32).toInt = 4000 := rfl; omega) | omega) (fun i hi => rfl) m_76_4 m_10_14 m_10_15 m_10_16 (Nat.le_of_ble_eq_true rfl) (Nat.le_of_ble_eq_true rfl) (hs_11 _) dX3_keep_28 (fun H locs hP hD hS => ?_)
    rw [show newC d d = newC d (cD d 917 (va_cpy (t.2.2.1 10) (d.2 917) (3999 : Int32).toNatClampNeg (0 : Int32).toNatClampNeg (4000 : Int32).toNatClampNeg)) from rfl]
    have hle : dLe d (cD d 917 (va_cpy (t.2.2.1 10) (d.2 917) (3999 : Int32).toNatClampNeg (0 : Int32).toNatClampNeg (4000 : Int32).toNatClampNeg)) := hle
    have hdf : dFr s.heap.size d (cD d 917 (va_cpy (t.2.2.1 10) (d.2 917) (3999 : Int32).toNatClampNeg (0 : Int32).toNatClampNeg (4000 : Int32).toNatClampNeg)) := hdf
    have hod : okD (cD d 917 (va_cpy (t.2.2.1 10) (d.2 917) (3999 : Int32).toNatClampNeg (0 : Int32).toNatClampNeg (4000 : Int32).toNatClampNeg)) := okD_c hod (by first | decide | omega)
    refine lv_aload_n C.1 C.2.1 dX3_keep_31 rfl (lv_at hl 0 rfl) ?_
    refine lv_aload_n C.1 C.2.1 dX3_keep_32 rfl (lv_at hl 0 rfl) ?_
    have h_12 : (-1073741824 : Int) ≤ (t.1 7 9).toInt ∧ (t.1 7 9).toInt ≤ 2147483647 := hok.1 7 9
    refine k_get (v := .int (t.1 7 9)) C hP 7 rfl rfl inlX3 9 (by decide) m_75_15 rfl dX3_keep_33 ?_
    refine k_put (ws' := (WX (cD d 917 (va_cpy (t.2.2.1 10) (d.2 917) (3999 : Int32).toNatClampNeg (0 : Int32).toNatClampNeg (4000 : Int32).toNatClampNeg))) K ad (uI t 7 14 (t.1 7 9))) (v := .int (t.1 7 9)) C hP hD hS 7 rfl rfl inlX3 tyX3_ok nmX3 14 (by decide) m_76_5 rfl rfl rfl rfl rfl dX3_keep_36 (fun H locs hP hD hS => ?_)
    have hok : okX (uI t 7 14 (t.1 7 9)) := ⟨okI_I hok.1 7 14 (t.1 7 9) (show (-1073741824 : Int) ≤ ((t.1 7 9) : Int32).toInt ∧ ((t.1 7 9) : Int32).toInt ≤ 2147483647 from ⟨by omega, (i_rng _).2⟩), hok.2.1, trivial⟩
    have hfr : frA [(7, 14), (7, 15)] [] [] [] t (uI t 7 14 (t.1 7 9)) := frA_I hfr 7 14 _ rfl
    refine lv_aload_n C.1 C.2.1 dX3_keep_39 rfl (lv_at hl 0 rfl) ?_
    refine lv_iconst (v := 1) C.1 C.2.1 dX3_keep_40 (by decide) ?_
    refine k_put (ws' := (WX (cD d 917 (va_cpy (t.2.2.1 10) (d.2 917) (3999 : Int32).toNatClampNeg (0 : Int32).toNatClampNeg (4000 : Int32).toNatClampNeg))) K ad (uI (uI t 7 14 (t.1 7 9)) 7 15 1)) (v := .int 1) C hP hD hS 7 rfl rfl inlX3 tyX3_ok nmX3 15 (by decide) m_74_9 rfl (by decide) (by decide) rfl rfl dX3_keep_41 (fun H locs hP hD hS => ?_)
    have hok : okX (uI (uI t 7 14 (t.1 7 9)) 7 15 1) := ⟨okI_I hok.1 7 15 1 (show (0 : Int) ≤ (1 : Int32).toInt ∧ (1 : Int32).toInt ≤ 1 from ⟨by decide, by decide⟩), hok.2.1, trivial⟩
    have hfr : frA [(7, 14), (7, 15)] [] [] [] t (uI (uI t 7 14 (t.1 7 9)) 7 15 1) := frA_I hfr 7 15 _ rfl
    exact g_Dvret C hr hlocks hP hD hS ⟨hok, hfr, hod⟩ hle hdf (Nat.le_of_ble_eq_true rfl) (Nat.le_of_ble_eq_true rfl) dX3_keep_44

theorem dX7_printSummary_0 : decode cX7_printSummary 0 = .ok (.iconst 0, 1) := by decide +kernel
theorem dX7_printSummary_1 : decode cX7_printSummary 1 = .ok (.istore_n 2, 1) := by decide +kernel
theorem dX7_printSummary_102 : decode cX7_printSummary 102 = .ok (.aload_n 0, 1) := by decide +kernel
theorem dX7_printSummary_103 : decode cX7_printSummary 103 = .ok (.getfield 25, 3) := by decide +kernel
theorem dX7_printSummary_106 : decode cX7_printSummary 106 = .ok (.iload_n 3, 1) := by decide +kernel
theorem dX7_printSummary_107 : decode cX7_printSummary 107 = .ok (.aload 6, 2) := by decide +kernel
theorem dX7_printSummary_109 : decode cX7_printSummary 109 = .ok (.invokevirtual 207, 3) := by decide +kernel
theorem dX7_printSummary_112 : decode cX7_printSummary 112 = .ok (.iadd, 1) := by decide +kernel
theorem dX7_printSummary_113 : decode cX7_printSummary 113 = .ok (.iconst 1, 1) := by decide +kernel
theorem dX7_printSummary_114 : decode cX7_printSummary 114 = .ok (.iadd, 1) := by decide +kernel
theorem dX7_printSummary_115 : decode cX7_printSummary 115 = .ok (.iconst 4, 1) := by decide +kernel
theorem dX7_printSummary_116 : decode cX7_printSummary 116 = .ok (.iload 5, 2) := by decide +kernel
theorem dX7_printSummary_118 : decode cX7_printSummary 118 = .ok (.i2l, 1) := by decide +kernel
theorem dX7_printSummary_119 : decode cX7_printSummary 119 = .ok (.invokevirtual 42, 3) := by decide +kernel
theorem dX7_printSummary_12 : decode cX7_printSummary 12 = .ok (.aload_n 0, 1) := by decide +kernel
theorem dX7_printSummary_122 : decode cX7_printSummary 122 = .ok (.iload_n 3, 1) := by decide +kernel
theorem dX7_printSummary_123 : decode cX7_printSummary 123 = .ok (.aload 6, 2) := by decide +kernel
theorem dX7_printSummary_125 : decode cX7_printSummary 125 = .ok (.invokevirtual 207, 3) := by decide +kernel
theorem dX7_printSummary_128 : decode cX7_printSummary 128 = .ok (.bipush 6, 2) := by decide +kernel
theorem dX7_printSummary_13 : decode cX7_printSummary 13 = .ok (.getfield 25, 3) := by decide +kernel
theorem dX7_printSummary_130 : decode cX7_printSummary 130 = .ok (.iadd, 1) := by decide +kernel
theorem dX7_printSummary_131 : decode cX7_printSummary 131 = .ok (.iadd, 1) := by decide +kernel
theorem dX7_printSummary_132 : decode cX7_printSummary 132 = .ok (.istore_n 3, 1) := by decide +kernel
theorem dX7_printSummary_133 : decode cX7_printSummary 133 = .ok (.iinc 4 1, 3) := by decide +kernel
theorem dX7_printSummary_136 : decode cX7_printSummary 136 = .ok (.goto (-103), 3) := by decide +kernel
theorem dX7_printSummary_139 : decode cX7_printSummary 139 = .ok (.aload_n 0, 1) := by decide +kernel
theorem dX7_printSummary_140 : decode cX7_printSummary 140 = .ok (.getfield 25, 3) := by decide +kernel
theorem dX7_printSummary_143 : decode cX7_printSummary 143 = .ok (.iload_n 3, 1) := by decide +kernel
theorem dX7_printSummary_144 : decode cX7_printSummary 144 = .ok (.bipush 10, 2) := by decide +kernel
theorem dX7_printSummary_146 : decode cX7_printSummary 146 = .ok (.iload_n 2, 1) := by decide +kernel
theorem dX7_printSummary_147 : decode cX7_printSummary 147 = .ok (.i2l, 1) := by decide +kernel
theorem dX7_printSummary_148 : decode cX7_printSummary 148 = .ok (.invokevirtual 42, 3) := by decide +kernel
theorem dX7_printSummary_151 : decode cX7_printSummary 151 = .ok (.aload_n 0, 1) := by decide +kernel
theorem dX7_printSummary_152 : decode cX7_printSummary 152 = .ok (.getfield 25, 3) := by decide +kernel
theorem dX7_printSummary_155 : decode cX7_printSummary 155 = .ok (.bipush 120, 2) := by decide +kernel
theorem dX7_printSummary_157 : decode cX7_printSummary 157 = .ok (.iconst 0, 1) := by decide +kernel
theorem dX7_printSummary_158 : decode cX7_printSummary 158 = .ok (.invokevirtual 56, 3) := by decide +kernel
theorem dX7_printSummary_16 : decode cX7_printSummary 16 = .ok (.bipush 6, 2) := by decide +kernel
theorem dX7_printSummary_161 : decode cX7_printSummary 161 = .ok (.iload_n 2, 1) := by decide +kernel
theorem dX7_printSummary_162 : decode cX7_printSummary 162 = .ok (.ireturn, 1) := by decide +kernel
theorem dX7_printSummary_18 : decode cX7_printSummary 18 = .ok (.iconst 4, 1) := by decide +kernel
theorem dX7_printSummary_19 : decode cX7_printSummary 19 = .ok (.aload_n 1, 1) := by decide +kernel
theorem dX7_printSummary_2 : decode cX7_printSummary 2 = .ok (.aload_n 0, 1) := by decide +kernel
theorem dX7_printSummary_20 : decode cX7_printSummary 20 = .ok (.getfield 180, 3) := by decide +kernel
theorem dX7_printSummary_23 : decode cX7_printSummary 23 = .ok (.i2l, 1) := by decide +kernel
theorem dX7_printSummary_24 : decode cX7_printSummary 24 = .ok (.invokevirtual 42, 3) := by decide +kernel
theorem dX7_printSummary_27 : decode cX7_printSummary 27 = .ok (.bipush 11, 2) := by decide +kernel
theorem dX7_printSummary_29 : decode cX7_printSummary 29 = .ok (.istore_n 3, 1) := by decide +kernel
theorem dX7_printSummary_3 : decode cX7_printSummary 3 = .ok (.getfield 25, 3) := by decide +kernel
theorem dX7_printSummary_30 : decode cX7_printSummary 30 = .ok (.iconst 0, 1) := by decide +kernel
theorem dX7_printSummary_31 : decode cX7_printSummary 31 = .ok (.istore 4, 2) := by decide +kernel
theorem dX7_printSummary_33 : decode cX7_printSummary 33 = .ok (.iload 4, 2) := by decide +kernel
theorem dX7_printSummary_35 : decode cX7_printSummary 35 = .ok (.iconst 4, 1) := by decide +kernel
theorem dX7_printSummary_36 : decode cX7_printSummary 36 = .ok (.if_icmp .gt 103, 3) := by decide +kernel
theorem dX7_printSummary_39 : decode cX7_printSummary 39 = .ok (.iconst 0, 1) := by decide +kernel
theorem dX7_printSummary_40 : decode cX7_printSummary 40 = .ok (.istore 5, 2) := by decide +kernel
theorem dX7_printSummary_42 : decode cX7_printSummary 42 = .ok (.iconst 0, 1) := by decide +kernel
theorem dX7_printSummary_43 : decode cX7_printSummary 43 = .ok (.istore 6, 2) := by decide +kernel
theorem dX7_printSummary_45 : decode cX7_printSummary 45 = .ok (.iload 6, 2) := by decide +kernel
theorem dX7_printSummary_47 : decode cX7_printSummary 47 = .ok (.aload_n 1, 1) := by decide +kernel
theorem dX7_printSummary_48 : decode cX7_printSummary 48 = .ok (.getfield 180, 3) := by decide +kernel
theorem dX7_printSummary_51 : decode cX7_printSummary 51 = .ok (.if_icmp .ge 34, 3) := by decide +kernel
theorem dX7_printSummary_54 : decode cX7_printSummary 54 = .ok (.aload_n 1, 1) := by decide +kernel
theorem dX7_printSummary_55 : decode cX7_printSummary 55 = .ok (.iload 6, 2) := by decide +kernel
theorem dX7_printSummary_57 : decode cX7_printSummary 57 = .ok (.iconst 0, 1) := by decide +kernel
theorem dX7_printSummary_58 : decode cX7_printSummary 58 = .ok (.invokevirtual 185, 3) := by decide +kernel
theorem dX7_printSummary_6 : decode cX7_printSummary 6 = .ok (.iconst 1, 1) := by decide +kernel
theorem dX7_printSummary_61 : decode cX7_printSummary 61 = .ok (.iload 4, 2) := by decide +kernel
theorem dX7_printSummary_63 : decode cX7_printSummary 63 = .ok (.if_icmp .ne 16, 3) := by decide +kernel
theorem dX7_printSummary_66 : decode cX7_printSummary 66 = .ok (.iinc 5 1, 3) := by decide +kernel
theorem dX7_printSummary_69 : decode cX7_printSummary 69 = .ok (.iload_n 2, 1) := by decide +kernel
theorem dX7_printSummary_7 : decode cX7_printSummary 7 = .ok (.ldc 205, 2) := by decide +kernel
theorem dX7_printSummary_70 : decode cX7_printSummary 70 = .ok (.aload_n 1, 1) := by decide +kernel
theorem dX7_printSummary_71 : decode cX7_printSummary 71 = .ok (.iload 6, 2) := by decide +kernel
theorem dX7_printSummary_73 : decode cX7_printSummary 73 = .ok (.iconst 3, 1) := by decide +kernel
theorem dX7_printSummary_74 : decode cX7_printSummary 74 = .ok (.invokevirtual 185, 3) := by decide +kernel
theorem dX7_printSummary_77 : decode cX7_printSummary 77 = .ok (.iadd, 1) := by decide +kernel
theorem dX7_printSummary_78 : decode cX7_printSummary 78 = .ok (.istore_n 2, 1) := by decide +kernel
theorem dX7_printSummary_79 : decode cX7_printSummary 79 = .ok (.iinc 6 1, 3) := by decide +kernel
theorem dX7_printSummary_82 : decode cX7_printSummary 82 = .ok (.goto (-37), 3) := by decide +kernel
theorem dX7_printSummary_85 : decode cX7_printSummary 85 = .ok (.iload 4, 2) := by decide +kernel
theorem dX7_printSummary_87 : decode cX7_printSummary 87 = .ok (.invokestatic 188, 3) := by decide +kernel
theorem dX7_printSummary_9 : decode cX7_printSummary 9 = .ok (.invokevirtual 192, 3) := by decide +kernel
theorem dX7_printSummary_90 : decode cX7_printSummary 90 = .ok (.astore 6, 2) := by decide +kernel
theorem dX7_printSummary_92 : decode cX7_printSummary 92 = .ok (.aload_n 0, 1) := by decide +kernel
theorem dX7_printSummary_93 : decode cX7_printSummary 93 = .ok (.getfield 25, 3) := by decide +kernel
theorem dX7_printSummary_96 : decode cX7_printSummary 96 = .ok (.iload_n 3, 1) := by decide +kernel
theorem dX7_printSummary_97 : decode cX7_printSummary 97 = .ok (.aload 6, 2) := by decide +kernel
theorem dX7_printSummary_99 : decode cX7_printSummary 99 = .ok (.invokevirtual 192, 3) := by decide +kernel
set_option maxHeartbeats 4000000 in
set_option maxRecDepth 100000 in
theorem T_X7_printSummary (l : Launch) (D : va_G) (K : Nat → ClassId) (Z Y : Nat → Nat) (ad : Nat → Nat) (d : dSt) (t : tSt) (hok : okX t) (hod : okD d)  : dMet l yX7_printSummary cX7_printSummary 7 (some .int) (rmD 5 6000 1680000) D K Z Y [.ref (ad 6), .ref (ad 7)] ((WX d) K ad t) (QDI D K ad d (fun (r : Int32) (u : tSt) (dd : dSt) => okX u ∧ frA [(20, 3)] [] [35, 36, 37] [] t u ∧ okD dd ∧ (-2147483648 : Int) ≤ r.toInt ∧ r.toInt ≤ 2147483647)) 6000 1680000 := by
  refine d_met d RX7 ⟨rfl, by decide +kernel⟩ (Nat.le_of_ble_eq_true rfl) ?_
  intro p e s m below meth c A ls C hE hZ hX hr hlocks hA hP hD hS hl
  have hl : lv_has ls 7 [(0, .ref (ad 6)), (1, .ref (ad 7))] := hl
  have hle : dLe d d := dLe_rf
  have hdf : dFr s.heap.size d d := dFr_rf
  have hokt := hok
  have hfr : frA [(20, 3)] [] [35, 36, 37] [] t t := frA_rf
  have L_33 : ∀ (fuel_33 : Nat) (t1 : tSt) (d1 : dSt) (w33_2 : Int32) (w33_3 : Int32) (w33_4 : Int32) (H : Heap) (locs : List Loc) (ls : Array Slot), okX t1 → frA [(20, 3)] [] [35, 36, 37] [] t t1 → okD d1 → dLe d d1 → dFr s.heap.size d d1 → (0 : Int) ≤ w33_4.toInt ∧ w33_4.toInt ≤ 5 → (11 ≤ w33_3.toInt) → (w33_3.toInt ≤ 11 + 11 * w33_4.toInt) → (5 : Int) - w33_4.toInt < (fuel_33 : Int) → va_P D vwCl ((WX d1) K ad t1) H → va_D A ((WX d1) K ad t1) → va_S A s.heap H locs → lv_has ls 7 [(0, .ref (ad 6)), (1, .ref (ad 7)), (2, .int w33_2), (3, .int w33_3), (4, .int w33_4)] → W p l e (rmD 5 6000 1680000) s m [.ref (ad 6), .ref (ad 7)].toArray below meth c H locs (newC d d1) 246800 (MQ below (QDI D K ad d (fun (r : Int32) (u : tSt) (dd : dSt) => okX u ∧ frA [(20, 3)] [] [35, 36, 37] [] t u ∧ okD dd ∧ (-2147483648 : Int) ≤ r.toInt ∧ r.toInt ≤ 2147483647) s.heap.size A) [.ref (ad 6), .ref (ad 7)].toArray s 6000 1680000 A) (F0 m 33 ls []) := by
    intro fuel_33
    induction fuel_33 with
    | zero =>
      intro t1 d1 w33_2 w33_3 w33_4 H locs ls hok hfr hod hle hdf hw33_4 hi33_0 hi33_1 hm33_33 hP hD hS hl
      exact absurd hm33_33 (by omega)
    | succ fuel_33 ih_33 =>
      intro t1 d1 w33_2 w33_3 w33_4 H locs ls hok hfr hod hle hdf hw33_4 hi33_0 hi33_1 hm33_33 hP hD hS hl
      have hm33_33 : (5 : Int) - w33_4.toInt < (fuel_33 : Int) + 1 := by omega
      have L_45 : ∀ (fuel_45 : Nat) (t1 : tSt) (d1 : dSt) (w45_2 : Int32) (w45_3 : Int32) (w45_4 : Int32) (w45_5 : Int32) (w45_6 : Int32) (H : Heap) (locs : List Loc) (ls : Array Slot), okX t1 → frA [(20, 3)] [] [35, 36, 37] [] t t1 → okD d1 → dLe d d1 → dFr s.heap.size d d1 → (0 : Int) ≤ w45_4.toInt ∧ w45_4.toInt ≤ 4 → (0 : Int) ≤ w45_6.toInt ∧ w45_6.toInt ≤ 512 → (11 ≤ w45_3.toInt) → (w45_3.toInt ≤ 11 + 11 * w45_4.toInt) → (5 : Int) - w45_4.toInt < (fuel_33 : Int) + 1 → (512 : Int) - w45_6.toInt < (fuel_45 : Int) → va_P D vwCl ((WX d1) K ad t1) H → va_D A ((WX d1) K ad t1) → va_S A s.heap H locs → lv_has ls 7 [(0, .ref (ad 6)), (1, .ref (ad 7)), (2, .int w45_2), (3, .int w45_3), (4, .int w45_4), (5, .int w45_5), (6, .int w45_6)] → W p l e (rmD 5 6000 1680000) s m [.ref (ad 6), .ref (ad 7)].toArray below meth c H locs (newC d d1) 246800 (MQ below (QDI D K ad d (fun (r : Int32) (u : tSt) (dd : dSt) => okX u ∧ frA [(20, 3)] [] [35, 36, 37] [] t u ∧ okD dd ∧ (-2147483648 : Int) ≤ r.toInt ∧ r.toInt ≤ 2147483647) s.heap.size A) [.ref (ad 6), .ref (ad 7)].toArray s 6000 1680000 A) (F0 m 45 ls []) := by
        intro fuel_45
        induction fuel_45 with
        | zero =>
          intro t1 d1 w45_2 w45_3 w45_4 w45_5 w45_6 H locs ls hok hfr hod hle hdf hw45_4 hw45_6 hi45_0 hi45_1 hm45_33 hm45_45 hP hD hS hl
          exact absurd hm45_45 (by omega)
        | succ fuel_45 ih_45 =>
          intro t1 d1 w45_2 w45_3 w45_4 w45_5 w45_6 H locs ls hok hfr hod hle hdf hw45_4 hw45_6 hi45_0 hi45_1 hm45_33 hm45_45 hP hD hS hl
          have hm45_45 : (512 : Int) - w45_6.toInt < (fuel_45 : Int) + 1 := by omega
          have L_79 : ∀ (t1 : tSt) (d1 : dSt) (w79_2 : Int32) (w79_3 : Int32) (w79_4 : Int32) (w79_5 : Int32) (w79_6 : Int32) (H : Heap) (locs : List Loc) (ls : Array Slot), okX t1 → frA [(20, 3)] [] [35, 36, 37] [] t t1 → okD d1 → dLe d d1 → dFr s.heap.size d d1 → (0 : Int) ≤ w79_4.toInt ∧ w79_4.toInt ≤ 4 → (0 : Int) ≤ w79_6.toInt ∧ w79_6.toInt ≤ 511 → (1 : Int) ≤ (t1.1 7 12).toInt ∧ (t1.1 7 12).toInt ≤ 512 → (11 ≤ w79_3.toInt) → (w79_3.toInt ≤ 11 + 11 * w79_4.toInt) → (5 : Int) - w79_4.toInt < (fuel_33 : Int) + 1 → (512 : Int) - w79_6.toInt < (fuel_45 : Int) + 1 → va_P D vwCl ((WX d1) K ad t1) H → va_D A ((WX d1) K ad t1) → va_S A s.heap H locs → lv_has ls 7 [(0, .ref (ad 6)), (1, .ref (ad 7)), (2, .int w79_2), (3, .int w79_3), (4, .int w79_4), (5, .int w79_5), (6, .int w79_6)] → W p l e (rmD 5 6000 1680000) s m [.ref (ad 6), .ref (ad 7)].toArray below meth c H locs (newC d d1) 246800 (MQ below (QDI D K ad d (fun (r : Int32) (u : tSt) (dd : dSt) => okX u ∧ frA [(20, 3)] [] [35, 36, 37] [] t u ∧ okD dd ∧ (-2147483648 : Int) ≤ r.toInt ∧ r.toInt ≤ 2147483647) s.heap.size A) [.ref (ad 6), .ref (ad 7)].toArray s 6000 1680000 A) (F0 m 79 ls []) := by
            intro t1 d1 w79_2 w79_3 w79_4 w79_5 w79_6 H locs ls hok hfr hod hle hdf hw79_4 hw79_6 hf79_12 hi79_0 hi79_1 hm79_33 hm79_45 hP hD hS hl
            obtain ⟨v_1, e_2⟩ : ∃ z, z = w79_6 + 1 := ⟨_, rfl⟩
            have h_3 : v_1.toInt = w79_6.toInt + 1 := by rw [e_2]; exact ti_iadd (by show (_ : Int) ≤ w79_6.toInt + 1; omega) (by show w79_6.toInt + 1 < (_ : Int); omega)
            refine lv_iinc (v := v_1) (lv' := [(6, .int v_1), (0, .ref (ad 6)), (1, .ref (ad 7)), (2, .int w79_2), (3, .int w79_3), (4, .int w79_4), (5, .int w79_5)]) C.1 C.2.1 dX7_printSummary_79 hl (k := 6) rfl e_2.symm (by decide) rfl (fun ls hl => ?_)
            have hl : lv_has ls 7 [(0, .ref (ad 6)), (1, .ref (ad 7)), (2, .int w79_2), (3, .int w79_3), (4, .int w79_4), (5, .int w79_5), (6, .int v_1)] := lv_sub hl [1, 2, 3, 4, 5, 6, 0] rfl
            refine lv_goto (tgt := 45) C.1 C.2.1 dX7_printSummary_82 (by decide) ?_
            exact ih_45 t1 d1 w79_2 w79_3 w79_4 w79_5 v_1 _ _ _ hok hfr hod hle hdf ⟨by omega, by omega⟩ ⟨by omega, by omega⟩ (show 11 ≤ w79_3.toInt from by omega) (show w79_3.toInt ≤ 11 + 11 * w79_4.toInt from by omega) (show (5 : Int) - w79_4.toInt < (fuel_33 : Int) + 1 from by omega) (show (512 : Int) - v_1.toInt < (fuel_45 : Int) from by omega) hP hD hS (lv_sub hl [0, 1, 2, 3, 4, 5, 6] rfl)
          refine lv_iload C.1 C.2.1 dX7_printSummary_45 (lv_at hl 6 rfl) ?_
          refine lv_aload_n C.1 C.2.1 dX7_printSummary_47 rfl (lv_at hl 1 rfl) ?_
          have h_4 : (0 : Int) ≤ (t1.1 7 12).toInt ∧ (t1.1 7 12).toInt ≤ 512 := hok.1 7 12
          refine k_get (v := .int (t1.1 7 12)) C hP 7 rfl rfl inlX3 12 (by decide) m_77_15 rfl dX7_printSummary_48 ?_
          refine lv_icmp_ge (tgt := 85) C.1 C.2.1 dX7_printSummary_51 (by decide) (fun c_5 => ?_) (fun c_5 => ?_)
          · replace c_5 : (t1.1 7 12).toInt ≤ w45_6.toInt := i_le c_5
            refine lv_iload C.1 C.2.1 dX7_printSummary_85 (lv_at hl 4 rfl) ?_
            refine hz_Sr (As := [.int w45_4]) (rest := []) C hP hD hS hA (T_X7_endOf l D K Z Y ad d1 t1 hok (w45_4)) hE hZ (uwS m_77_21 m_77_22 m_2_13 m_77_23) (hdS 1 (by decide +kernel) rfl) ⟨Nat.le_of_ble_eq_true rfl, Nat.le_of_ble_eq_true rfl⟩ rfl rfl rfl hl.1 (Nat.le_of_ble_eq_true rfl) dX7_printSummary_87 ⟨Nat.le_trans (newC_le _ _) (Nat.le_of_ble_eq_true rfl), (Nat.le_of_ble_eq_true rfl)⟩ (fun t_6 H locs hw hP hD hS => ?_)
            have ht_6 := hw
            refine lv_astore (lv' := [(6, .ref (Z t_6)), (0, .ref (ad 6)), (1, .ref (ad 7)), (2, .int w45_2), (3, .int w45_3), (4, .int w45_4), (5, .int w45_5)]) C.1 C.2.1 dX7_printSummary_90 hl (by decide) rfl (fun ls hl => ?_)
            have hl : lv_has ls 7 [(0, .ref (ad 6)), (1, .ref (ad 7)), (2, .int w45_2), (3, .int w45_3), (4, .int w45_4), (5, .int w45_5), (6, .ref (Z t_6))] := lv_sub hl [1, 2, 3, 4, 5, 6, 0] rfl
            refine lv_aload_n C.1 C.2.1 dX7_printSummary_92 rfl (lv_at hl 0 rfl) ?_
            refine k_get (v := .ref (ad 20)) C hP 6 rfl rfl inlX7 2 (by decide) m_6_14 rfl dX7_printSummary_93 ?_
            refine lv_iload_n C.1 C.2.1 dX7_printSummary_96 rfl (lv_at hl 3 rfl) ?_
            refine lv_aload C.1 C.2.1 dX7_printSummary_97 (lv_at hl 6 rfl) ?_
            refine hz_Vv (As := [.int w45_3, .ref (Z t_6)]) (rest := []) C hP hD hS hA (T_X4_text l D K Z Y ad d1 t1 hok (w45_3) (t_6) ht_6) hE hZ (uwV m_78_0 m_78_1 m_78_2 m_3_20 m_78_3) (hdV 2 (by decide +kernel) rfl) ⟨Nat.le_of_ble_eq_true rfl, Nat.le_of_ble_eq_true rfl⟩ rfl rfl (ci := 3) (q0 := 20) rfl rfl rfl hl.1 (Nat.le_of_ble_eq_true rfl) dX7_printSummary_99 ⟨Nat.le_trans (newC_le _ _) (Nat.le_of_ble_eq_true rfl), (Nat.le_of_ble_eq_true rfl)⟩ (fun t_9 H locs hw hP hD hS => ?_)
            obtain ⟨hok, f_11⟩ := hw
            have hfr : frA [(20, 3)] [] [35, 36, 37] [] t t_9 := frA_tr hfr f_11 rfl
            have h_12 : (t_9.1 7 12).toInt = (t1.1 7 12).toInt := ti_eq (f_11.1 7 12 rfl)
            refine lv_aload_n C.1 C.2.1 dX7_printSummary_102 rfl (lv_at hl 0 rfl) ?_
            refine k_get (v := .ref (ad 20)) C hP 6 rfl rfl inlX7 2 (by decide) m_6_14 rfl dX7_printSummary_103 ?_
            refine lv_iload_n C.1 C.2.1 dX7_printSummary_106 rfl (lv_at hl 3 rfl) ?_
            refine lv_aload C.1 C.2.1 dX7_printSummary_107 (lv_at hl 6 rfl) ?_
            refine hz_Ti (As := []) (rest := [.int w45_3, .ref (ad 20)]) C hP hD hS hA (TJ_length l D K Z Y ((WX d1) K ad t_9) t_6 (sS_lt ht_6)) hE hZ (uwV m_83_1 m_14_22 m_14_23 m_14_8 m_15_0) (hdV 0 (by decide +kernel) rfl) ⟨Nat.le_of_ble_eq_true rfl, Nat.le_of_ble_eq_true rfl⟩ rfl rfl (i0 := t_6) (sS_lt ht_6) rfl rfl hl.1 (Nat.le_of_ble_eq_true rfl) dX7_printSummary_109 ⟨Nat.le_trans (newC_le _ _) (Nat.le_of_ble_eq_true rfl), (Nat.le_of_ble_eq_true rfl)⟩ (fun r_13 u_r_13 H locs hw hP hD hS => ?_)
            have h_14 : r_13.toInt = sL t_6 := hw
            have h_15 := sS_len ht_6
            obtain ⟨v_16, e_17⟩ : ∃ z, z = (w45_3 : Int32) + (r_13 : Int32) := ⟨_, rfl⟩
            have h_19 := i_rng w45_3
            have h_18 : v_16.toInt = w45_3.toInt + r_13.toInt := by rw [e_17]; exact ti_iadd (by show (_ : Int) ≤ w45_3.toInt + r_13.toInt; omega) (by show w45_3.toInt + r_13.toInt < (_ : Int); omega)
            refine k_iadd (v := v_16) C e_17.symm dX7_printSummary_112 ?_
            refine lv_iconst (v := 1) C.1 C.2.1 dX7_printSummary_113 (by decide) ?_
            obtain ⟨v_20, e_21⟩ : ∃ z, z = (v_16 : Int32) + (1 : Int32) := ⟨_, rfl⟩
            have h_22 : v_20.toInt = v_16.toInt + 1 := by rw [e_21]; exact ti_iadd (by show (_ : Int) ≤ v_16.toInt + 1; omega) (by show v_16.toInt + 1 < (_ : Int); omega)
            refine k_iadd (v := v_20) C e_21.symm dX7_printSummary_114 ?_
            refine lv_iconst (v := 4) C.1 C.2.1 dX7_printSummary_115 (by decide) ?_
            refine lv_iload C.1 C.2.1 dX7_printSummary_116 (lv_at hl 5 rfl) ?_
            obtain ⟨v_23, e_24⟩ : ∃ z, z = (w45_5 : Int32).toInt64 := ⟨_, rfl⟩
            have h_25 : v_23.toInt = w45_5.toInt := by rw [e_24]; exact Jvm.Kit.i64_of_i32 _
            have h_26 := i_rng w45_5
            refine lv_i2l (v := v_23) C.1 C.2.1 dX7_printSummary_118 e_24.symm ?_
            have h_27 : (4 : Int32).toInt = 4 := rfl
            refine hz_Vv (As := [.int v_20, .int 4, .long v_23]) (rest := []) C hP hD hS hA (T_X4_digits l D K Z Y ad d1 t_9 hok (v_20) (show (0 : Int) ≤ (v_20 : Int32).toInt ∧ (v_20 : Int32).toInt ≤ 200 from ⟨by omega, by omega⟩) 4 (show (1 : Int) ≤ (4 : Int32).toInt ∧ (4 : Int32).toInt ≤ 10 from ⟨by decide, by decide⟩) (v_23) (show 0 ≤ (4 : Int32).toInt from by omega)) hE hZ (uwV m_40_18 m_40_19 m_40_20 m_3_20 m_40_21) (hdV 3 (by decide +kernel) rfl) ⟨Nat.le_of_ble_eq_true rfl, Nat.le_of_ble_eq_true rfl⟩ rfl rfl (ci := 3) (q0 := 20) rfl rfl rfl hl.1 (Nat.le_of_ble_eq_true rfl) dX7_printSummary_119 ⟨Nat.le_trans (newC_le _ _) (Nat.le_of_ble_eq_true rfl), (Nat.le_of_ble_eq_true rfl)⟩ (fun t_28 H locs hw hP hD hS => ?_)
            obtain ⟨hok, f_30⟩ := hw
            have hfr : frA [(20, 3)] [] [35, 36, 37] [] t t_28 := frA_tr hfr f_30 rfl
            have h_31 : (t_28.1 7 12).toInt = (t_9.1 7 12).toInt := ti_eq (f_30.1 7 12 rfl)
            refine lv_iload_n C.1 C.2.1 dX7_printSummary_122 rfl (lv_at hl 3 rfl) ?_
            refine lv_aload C.1 C.2.1 dX7_printSummary_123 (lv_at hl 6 rfl) ?_
            refine hz_Ti (As := []) (rest := [.int w45_3]) C hP hD hS hA (TJ_length l D K Z Y ((WX d1) K ad t_28) t_6 (sS_lt ht_6)) hE hZ (uwV m_83_1 m_14_22 m_14_23 m_14_8 m_15_0) (hdV 0 (by decide +kernel) rfl) ⟨Nat.le_of_ble_eq_true rfl, Nat.le_of_ble_eq_true rfl⟩ rfl rfl (i0 := t_6) (sS_lt ht_6) rfl rfl hl.1 (Nat.le_of_ble_eq_true rfl) dX7_printSummary_125 ⟨Nat.le_trans (newC_le _ _) (Nat.le_of_ble_eq_true rfl), (Nat.le_of_ble_eq_true rfl)⟩ (fun r_32 u_r_32 H locs hw hP hD hS => ?_)
            have h_33 : r_32.toInt = sL t_6 := hw
            have h_34 := sS_len ht_6
            refine lv_bipush (v := 6) C.1 C.2.1 dX7_printSummary_128 (by decide) ?_
            obtain ⟨v_35, e_36⟩ : ∃ z, z = (r_32 : Int32) + (6 : Int32) := ⟨_, rfl⟩
            have h_37 : v_35.toInt = r_32.toInt + 6 := by rw [e_36]; exact ti_iadd (by show (_ : Int) ≤ r_32.toInt + 6; omega) (by show r_32.toInt + 6 < (_ : Int); omega)
            refine k_iadd (v := v_35) C e_36.symm dX7_printSummary_130 ?_
            obtain ⟨v_38, e_39⟩ : ∃ z, z = (w45_3 : Int32) + (v_35 : Int32) := ⟨_, rfl⟩
            have h_41 := i_rng w45_3
            have h_40 : v_38.toInt = w45_3.toInt + v_35.toInt := by rw [e_39]; exact ti_iadd (by show (_ : Int) ≤ w45_3.toInt + v_35.toInt; omega) (by show w45_3.toInt + v_35.toInt < (_ : Int); omega)
            refine k_iadd (v := v_38) C e_39.symm dX7_printSummary_131 ?_
            refine lv_istore_n (lv' := [(3, .int v_38), (0, .ref (ad 6)), (1, .ref (ad 7)), (2, .int w45_2), (4, .int w45_4), (5, .int w45_5), (6, .ref (Z t_6))]) C.1 C.2.1 dX7_printSummary_132 rfl hl (by decide) rfl (fun ls hl => ?_)
            have hl : lv_has ls 7 [(0, .ref (ad 6)), (1, .ref (ad 7)), (2, .int w45_2), (3, .int v_38), (4, .int w45_4), (5, .int w45_5), (6, .ref (Z t_6))] := lv_sub hl [1, 2, 3, 0, 4, 5, 6] rfl
            obtain ⟨v_42, e_43⟩ : ∃ z, z = w45_4 + 1 := ⟨_, rfl⟩
            have h_44 : v_42.toInt = w45_4.toInt + 1 := by rw [e_43]; exact ti_iadd (by show (_ : Int) ≤ w45_4.toInt + 1; omega) (by show w45_4.toInt + 1 < (_ : Int); omega)
            refine lv_iinc (v := v_42) (lv' := [(4, .int v_42), (0, .ref (ad 6)), (1, .ref (ad 7)), (2, .int w45_2), (3, .int v_38), (5, .int w45_5), (6, .ref (Z t_6))]) C.1 C.2.1 dX7_printSummary_133 hl (k := 4) rfl e_43.symm (by decide) rfl (fun ls hl => ?_)
            have hl : lv_has ls 7 [(0, .ref (ad 6)), (1, .ref (ad 7)), (2, .int w45_2), (3, .int v_38), (4, .int v_42), (5, .int w45_5), (6, .ref (Z t_6))] := lv_sub hl [1, 2, 3, 4, 0, 5, 6] rfl
            refine lv_goto (tgt := 33) C.1 C.2.1 dX7_printSummary_136 (by decide) ?_
            exact ih_33 t_28 d1 w45_2 v_38 v_42 _ _ _ hok hfr hod hle hdf ⟨by omega, by omega⟩ (show 11 ≤ v_38.toInt from by omega) (show v_38.toInt ≤ 11 + 11 * v_42.toInt from by omega) (show (5 : Int) - v_42.toInt < (fuel_33 : Int) from by omega) hP hD hS (lv_sub hl [0, 1, 2, 3, 4] rfl)
          · replace c_5 : w45_6.toInt < (t1.1 7 12).toInt := i_nle c_5
            refine lv_aload_n C.1 C.2.1 dX7_printSummary_54 rfl (lv_at hl 1 rfl) ?_
            refine lv_iload C.1 C.2.1 dX7_printSummary_55 (lv_at hl 6 rfl) ?_
            refine lv_iconst (v := 0) C.1 C.2.1 dX7_printSummary_57 (by decide) ?_
            refine hz_Vi (As := [.int w45_6, .int 0]) (rest := []) C hP hD hS hA (T_X3_entry l D K Z Y ad d1 t1 hok (w45_6) 0) hE hZ (uwV m_77_17 m_77_18 m_77_19 m_2_17 m_77_20) (hdV 2 (by decide +kernel) rfl) ⟨Nat.le_of_ble_eq_true rfl, Nat.le_of_ble_eq_true rfl⟩ rfl rfl (ci := 2) (q0 := 7) rfl rfl rfl hl.1 (Nat.le_of_ble_eq_true rfl) dX7_printSummary_58 ⟨Nat.le_trans (newC_le _ _) (Nat.le_of_ble_eq_true rfl), (Nat.le_of_ble_eq_true rfl)⟩ (fun r_46 t_45 H locs hw hP hD hS => ?_)
            obtain ⟨h_48, h_49⟩ := hw
            refine lv_iload C.1 C.2.1 dX7_printSummary_61 (lv_at hl 4 rfl) ?_
            refine lv_icmp_ne (tgt := 79) C.1 C.2.1 dX7_printSummary_63 (by decide) (fun c_50 => ?_) (fun c_50 => ?_)
            · replace c_50 : ¬ r_46.toInt = w45_4.toInt := i_ne c_50
              exact L_79 t1 d1 w45_2 w45_3 w45_4 w45_5 w45_6 _ _ _ hok hfr hod hle hdf ⟨by omega, by omega⟩ ⟨by omega, by omega⟩ (show (1 : Int) ≤ ((t1.1 7 12) : Int32).toInt ∧ ((t1.1 7 12) : Int32).toInt ≤ 512 from ⟨by omega, by omega⟩) (show 11 ≤ w45_3.toInt from by omega) (show w45_3.toInt ≤ 11 + 11 * w45_4.toInt from by omega) (show (5 : Int) - w45_4.toInt < (fuel_33 : Int) + 1 from by omega) (show (512 : Int) - w45_6.toInt < (fuel_45 : Int) + 1 from by omega) hP hD hS (lv_sub hl [0, 1, 2, 3, 4, 5, 6] rfl)
            · replace c_50 : r_46.toInt = w45_4.toInt := i_eq c_50
              obtain ⟨v_51, e_52⟩ : ∃ z, z = w45_5 + 1 := ⟨_, rfl⟩
              refine lv_iinc (v := v_51) (lv' := [(5, .int v_51), (0, .ref (ad 6)), (1, .ref (ad 7)), (2, .int w45_2), (3, .int w45_3), (4, .int w45_4), (6, .int w45_6)]) C.1 C.2.1 dX7_printSummary_66 hl (k := 5) rfl e_52.symm (by decide) rfl (fun ls hl => ?_)
              have hl : lv_has ls 7 [(0, .ref (ad 6)), (1, .ref (ad 7)), (2, .int w45_2), (3, .int w45_3), (4, .int w45_4), (5, .int v_51), (6, .int w45_6)] := lv_sub hl [1, 2, 3, 4, 5, 0, 6] rfl
              refine lv_iload_n C.1 C.2.1 dX7_printSummary_69 rfl (lv_at hl 2 rfl) ?_
              refine lv_aload_n C.1 C.2.1 dX7_printSummary_70 rfl (lv_at hl 1 rfl) ?_
              refine lv_iload C.1 C.2.1 dX7_printSummary_71 (lv_at hl 6 rfl) ?_
              refine lv_iconst (v := 3) C.1 C.2.1 dX7_printSummary_73 (by decide) ?_
              refine hz_Vi (As := [.int w45_6, .int 3]) (rest := [.int w45_2]) C hP hD hS hA (T_X3_entry l D K Z Y ad d1 t1 hok (w45_6) 3) hE hZ (uwV m_77_17 m_77_18 m_77_19 m_2_17 m_77_20) (hdV 2 (by decide +kernel) rfl) ⟨Nat.le_of_ble_eq_true rfl, Nat.le_of_ble_eq_true rfl⟩ rfl rfl (ci := 2) (q0 := 7) rfl rfl rfl hl.1 (Nat.le_of_ble_eq_true rfl) dX7_printSummary_74 ⟨Nat.le_trans (newC_le _ _) (Nat.le_of_ble_eq_true rfl), (Nat.le_of_ble_eq_true rfl)⟩ (fun r_54 t_53 H locs hw hP hD hS => ?_)
              obtain ⟨h_56, h_57⟩ := hw
              obtain ⟨v_58, e_59⟩ : ∃ z, z = (w45_2 : Int32) + (r_54 : Int32) := ⟨_, rfl⟩
              refine k_iadd (v := v_58) C e_59.symm dX7_printSummary_77 ?_
              refine lv_istore_n (lv' := [(2, .int v_58), (0, .ref (ad 6)), (1, .ref (ad 7)), (3, .int w45_3), (4, .int w45_4), (5, .int v_51), (6, .int w45_6)]) C.1 C.2.1 dX7_printSummary_78 rfl hl (by decide) rfl (fun ls hl => ?_)
              have hl : lv_has ls 7 [(0, .ref (ad 6)), (1, .ref (ad 7)), (2, .int v_58), (3, .int w45_3), (4, .int w45_4), (5, .int v_51), (6, .int w45_6)] := lv_sub hl [1, 2, 0, 3, 4, 5, 6] rfl
              exact L_79 t1 d1 v_58 w45_3 w45_4 v_51 w45_6 _ _ _ hok hfr hod hle hdf ⟨by omega, by omega⟩ ⟨by omega, by omega⟩ (show (1 : Int) ≤ ((t1.1 7 12) : Int32).toInt ∧ ((t1.1 7 12) : Int32).toInt ≤ 512 from ⟨by omega, by omega⟩) (show 11 ≤ w45_3.toInt from by omega) (show w45_3.toInt ≤ 11 + 11 * w45_4.toInt from by omega) (show (5 : Int) - w45_4.toInt < (fuel_33 : Int) + 1 from by omega) (show (512 : Int) - w45_6.toInt < (fuel_45 : Int) + 1 from by omega) hP hD hS (lv_sub hl [0, 1, 2, 3, 4, 5, 6] rfl)
      refine lv_iload C.1 C.2.1 dX7_printSummary_33 (lv_at hl 4 rfl) ?_
      refine lv_iconst (v := 4) C.1 C.2.1 dX7_printSummary_35 (by decide) ?_
      refine lv_icmp_gt (tgt := 139) C.1 C.2.1 dX7_printSummary_36 (by decide) (fun c_61 => ?_) (fun c_61 => ?_)
      · replace c_61 : 4 < w33_4.toInt := i_lt c_61
        refine lv_aload_n C.1 C.2.1 dX7_printSummary_139 rfl (lv_at hl 0 rfl) ?_
        refine k_get (v := .ref (ad 20)) C hP 6 rfl rfl inlX7 2 (by decide) m_6_14 rfl dX7_printSummary_140 ?_
        refine lv_iload_n C.1 C.2.1 dX7_printSummary_143 rfl (lv_at hl 3 rfl) ?_
        refine lv_bipush (v := 10) C.1 C.2.1 dX7_printSummary_144 (by decide) ?_
        refine lv_iload_n C.1 C.2.1 dX7_printSummary_146 rfl (lv_at hl 2 rfl) ?_
        obtain ⟨v_62, e_63⟩ : ∃ z, z = (w33_2 : Int32).toInt64 := ⟨_, rfl⟩
        have h_64 : v_62.toInt = w33_2.toInt := by rw [e_63]; exact Jvm.Kit.i64_of_i32 _
        have h_65 := i_rng w33_2
        refine lv_i2l (v := v_62) C.1 C.2.1 dX7_printSummary_147 e_63.symm ?_
        have h_66 : (10 : Int32).toInt = 10 := rfl
        refine hz_Vv (As := [.int w33_3, .int 10, .long v_62]) (rest := []) C hP hD hS hA (T_X4_digits l D K Z Y ad d1 t1 hok (w33_3) (show (0 : Int) ≤ (w33_3 : Int32).toInt ∧ (w33_3 : Int32).toInt ≤ 200 from ⟨by omega, by omega⟩) 10 (show (1 : Int) ≤ (10 : Int32).toInt ∧ (10 : Int32).toInt ≤ 10 from ⟨by decide, by decide⟩) (v_62) (show 0 ≤ (10 : Int32).toInt from by omega)) hE hZ (uwV m_40_18 m_40_19 m_40_20 m_3_20 m_40_21) (hdV 3 (by decide +kernel) rfl) ⟨Nat.le_of_ble_eq_true rfl, Nat.le_of_ble_eq_true rfl⟩ rfl rfl (ci := 3) (q0 := 20) rfl rfl rfl hl.1 (Nat.le_of_ble_eq_true rfl) dX7_printSummary_148 ⟨Nat.le_trans (newC_le _ _) (Nat.le_of_ble_eq_true rfl), (Nat.le_of_ble_eq_true rfl)⟩ (fun t_67 H locs hw hP hD hS => ?_)
        obtain ⟨hok, f_69⟩ := hw
        have hfr : frA [(20, 3)] [] [35, 36, 37] [] t t_67 := frA_tr hfr f_69 rfl
        refine lv_aload_n C.1 C.2.1 dX7_printSummary_151 rfl (lv_at hl 0 rfl) ?_
        refine k_get (v := .ref (ad 20)) C hP 6 rfl rfl inlX7 2 (by decide) m_6_14 rfl dX7_printSummary_152 ?_
        refine lv_bipush (v := 120) C.1 C.2.1 dX7_printSummary_155 (by decide) ?_
        refine lv_iconst (v := 0) C.1 C.2.1 dX7_printSummary_157 (by decide) ?_
        refine g_DVv (As := [.int 120, .int 0]) (rest := []) C hP hD hS hA (T_X4_finish l D K Z Y ad d1 t_67 hok hod 120 (show (72 : Int) ≤ (120 : Int32).toInt ∧ (120 : Int32).toInt ≤ 120 from ⟨by decide, by decide⟩) 0 (show (0 : Int) ≤ (0 : Int32).toInt ∧ (0 : Int32).toInt ≤ 1 from ⟨by decide, by decide⟩)) hE hZ hX hle hdf (uwV m_41_7 m_41_8 m_41_9 m_3_20 m_41_10) (hdV 2 (by decide +kernel) rfl) ⟨Nat.le_of_ble_eq_true rfl, Nat.le_of_ble_eq_true rfl⟩ rfl rfl (ci := 3) (q0 := 20) rfl rfl rfl hl.1 (Nat.le_of_ble_eq_true rfl) dX7_printSummary_158 ⟨Nat.le_of_ble_eq_true rfl, Nat.le_of_ble_eq_true rfl⟩ (fun t_70 d_72 H locs hw hP hD hS hln hle hdf => ?_)
        obtain ⟨hok, f_73, hod⟩ := hw
        have hfr : frA [(20, 3)] [] [35, 36, 37] [] t t_70 := frA_tr hfr f_73 rfl
        refine lv_iload_n C.1 C.2.1 dX7_printSummary_161 rfl (lv_at hl 2 rfl) ?_
        exact g_Diret C hr hlocks hP hD hS rfl ⟨hok, hfr, hod, (i_rng _).1, (i_rng _).2⟩ hle hdf (Nat.le_of_ble_eq_true rfl) (Nat.le_of_ble_eq_true rfl) dX7_printSummary_162
      · replace c_61 : w33_4.toInt ≤ 4 := i_nlt c_61
        refine lv_iconst (v := 0) C.1 C.2.1 dX7_printSummary_39 (by decide) ?_
        refine lv_istore (lv' := [(5, .int 0), (0, .ref (ad 6)), (1, .ref (ad 7)), (2, .int w33_2), (3, .int w33_3), (4, .int w33_4)]) C.1 C.2.1 dX7_printSummary_40 hl (by decide) rfl (fun ls hl => ?_)
        have hl : lv_has ls 7 [(0, .ref (ad 6)), (1, .ref (ad 7)), (2, .int w33_2), (3, .int w33_3), (4, .int w33_4), (5, .int 0)] := lv_sub hl [1, 2, 3, 4, 5, 0] rfl
        refine lv_iconst (v := 0) C.1 C.2.1 dX7_printSummary_42 (by decide) ?_
        refine lv_istore (lv' := [(6, .int 0), (0, .ref (ad 6)), (1, .ref (ad 7)), (2, .int w33_2), (3, .int w33_3), (4, .int w33_4), (5, .int 0)]) C.1 C.2.1 dX7_printSummary_43 hl (by decide) rfl (fun ls hl => ?_)
        have hl : lv_has ls 7 [(0, .ref (ad 6)), (1, .ref (ad 7)), (2, .int w33_2), (3, .int w33_3), (4, .int w33_4), (5, .int 0), (6, .int 0)] := lv_sub hl [1, 2, 3, 4, 5, 6, 0] rfl
        exact L_45 513 t1 d1 w33_2 w33_3 w33_4 0 0 _ _ _ hok hfr hod hle hdf ⟨by omega, by omega⟩ ⟨by decide, by decide⟩ (show 11 ≤ w33_3.toInt from by omega) (show w33_3.toInt ≤ 11 + 11 * w33_4.toInt from by omega) (show (5 : Int) - w33_4.toInt < (fuel_33 : Int) + 1 from by omega) (show (512 : Int) - 0 < ((513 : Nat) : Int) from by omega) hP hD hS (lv_sub hl [0, 1, 2, 3, 4, 5, 6] rfl)
  refine lv_iconst (v := 0) C.1 C.2.1 dX7_printSummary_0 (by decide) ?_
  refine lv_istore_n (lv' := [(2, .int 0), (0, .ref (ad 6)), (1, .ref (ad 7))]) C.1 C.2.1 dX7_printSummary_1 rfl hl (by decide) rfl (fun ls hl => ?_)
  have hl : lv_has ls 7 [(0, .ref (ad 6)), (1, .ref (ad 7)), (2, .int 0)] := lv_sub hl [1, 2, 0] rfl
  refine lv_aload_n C.1 C.2.1 dX7_printSummary_2 rfl (lv_at hl 0 rfl) ?_
  refine k_get (v := .ref (ad 20)) C hP 6 rfl rfl inlX7 2 (by decide) m_6_14 rfl dX7_printSummary_3 ?_
  refine lv_iconst (v := 1) C.1 C.2.1 dX7_printSummary_6 (by decide) ?_
  refine va_ldcS C.1 C.2.1 C.2.2.2.1 (hE.2 22 (by decide)) dX7_printSummary_7 ?_
  refine hz_Vv (As := [.int 1, .ref (Z 22)]) (rest := []) C hP hD hS hA (T_X4_text l D K Z Y ad d t hok 1 (22) (show sS 22 from ⟨by decide, by decide, by decide⟩)) hE hZ (uwV m_78_0 m_78_1 m_78_2 m_3_20 m_78_3) (hdV 2 (by decide +kernel) rfl) ⟨Nat.le_of_ble_eq_true rfl, Nat.le_of_ble_eq_true rfl⟩ rfl rfl (ci := 3) (q0 := 20) rfl rfl rfl hl.1 (Nat.le_of_ble_eq_true rfl) dX7_printSummary_9 ⟨Nat.le_trans (newC_le _ _) (Nat.le_of_ble_eq_true rfl), (Nat.le_of_ble_eq_true rfl)⟩ (fun t_74 H locs hw hP hD hS => ?_)
  obtain ⟨hok, f_76⟩ := hw
  have hfr : frA [(20, 3)] [] [35, 36, 37] [] t t_74 := frA_tr hfr f_76 rfl
  refine lv_aload_n C.1 C.2.1 dX7_printSummary_12 rfl (lv_at hl 0 rfl) ?_
  refine k_get (v := .ref (ad 20)) C hP 6 rfl rfl inlX7 2 (by decide) m_6_14 rfl dX7_printSummary_13 ?_
  refine lv_bipush (v := 6) C.1 C.2.1 dX7_printSummary_16 (by decide) ?_
  refine lv_iconst (v := 4) C.1 C.2.1 dX7_printSummary_18 (by decide) ?_
  refine lv_aload_n C.1 C.2.1 dX7_printSummary_19 rfl (lv_at hl 1 rfl) ?_
  have h_77 : (0 : Int) ≤ (t_74.1 7 12).toInt ∧ (t_74.1 7 12).toInt ≤ 512 := hok.1 7 12
  refine k_get (v := .int (t_74.1 7 12)) C hP 7 rfl rfl inlX3 12 (by decide) m_77_15 rfl dX7_printSummary_20 ?_
  obtain ⟨v_78, e_79⟩ : ∃ z, z = ((t_74.1 7 12) : Int32).toInt64 := ⟨_, rfl⟩
  have h_80 : v_78.toInt = (t_74.1 7 12).toInt := by rw [e_79]; exact Jvm.Kit.i64_of_i32 _
  refine lv_i2l (v := v_78) C.1 C.2.1 dX7_printSummary_23 e_79.symm ?_
  have h_81 : (4 : Int32).toInt = 4 := rfl
  refine hz_Vv (As := [.int 6, .int 4, .long v_78]) (rest := []) C hP hD hS hA (T_X4_digits l D K Z Y ad d t_74 hok 6 (show (0 : Int) ≤ (6 : Int32).toInt ∧ (6 : Int32).toInt ≤ 200 from ⟨by decide, by decide⟩) 4 (show (1 : Int) ≤ (4 : Int32).toInt ∧ (4 : Int32).toInt ≤ 10 from ⟨by decide, by decide⟩) (v_78) (show 0 ≤ (4 : Int32).toInt from by omega)) hE hZ (uwV m_40_18 m_40_19 m_40_20 m_3_20 m_40_21) (hdV 3 (by decide +kernel) rfl) ⟨Nat.le_of_ble_eq_true rfl, Nat.le_of_ble_eq_true rfl⟩ rfl rfl (ci := 3) (q0 := 20) rfl rfl rfl hl.1 (Nat.le_of_ble_eq_true rfl) dX7_printSummary_24 ⟨Nat.le_trans (newC_le _ _) (Nat.le_of_ble_eq_true rfl), (Nat.le_of_ble_eq_true rfl)⟩ (fun t_82 H locs hw hP hD hS => ?_)
  obtain ⟨hok, f_84⟩ := hw
  have hfr : frA [(20, 3)] [] [35, 36, 37] [] t t_82 := frA_tr hfr f_84 rfl
  have h_85 : (t_82.1 7 12).toInt = (t_74.1 7 12).toInt := ti_eq (f_84.1 7 12 rfl)
  refine lv_bipush (v := 11) C.1 C.2.1 dX7_printSummary_27 (by decide) ?_
  refine lv_istore_n (lv' := [(3, .int 11), (0, .ref (ad 6)), (1, .ref (ad 7)), (2, .int 0)]) C.1 C.2.1 dX7_printSummary_29 rfl hl (by decide) rfl (fun ls hl => ?_)
  have hl : lv_has ls 7 [(0, .ref (ad 6)), (1, .ref (ad 7)), (2, .int 0), (3, .int 11)] := lv_sub hl [1, 2, 3, 0] rfl
  refine lv_iconst (v := 0) C.1 C.2.1 dX7_printSummary_30 (by decide) ?_
  refine lv_istore (lv' := [(4, .int 0), (0, .ref (ad 6)), (1, .ref (ad 7)), (2, .int 0), (3, .int 11)]) C.1 C.2.1 dX7_printSummary_31 hl (by decide) rfl (fun ls hl => ?_)
  have hl : lv_has ls 7 [(0, .ref (ad 6)), (1, .ref (ad 7)), (2, .int 0), (3, .int 11), (4, .int 0)] := lv_sub hl [1, 2, 3, 4, 0] rfl
  exact L_33 6 t_82 d 0 11 0 _ _ _ hok hfr hod hle hdf ⟨by decide, by decide⟩ (show 11 ≤ 11 from by omega) (show 11 ≤ 11 + 11 * 0 from by omega) (show (5 : Int) - 0 < ((6 : Nat) : Int) from by omega) hP hD hS (lv_sub hl [0, 1, 2, 3, 4] rfl)

theorem dX7_printJob_0 : decode cX7_printJob 0 = .ok (.aload_n 1, 1) := by decide +kernel
theorem dX7_printJob_1 : decode cX7_printJob 1 = .ok (.getfield 180, 3) := by decide +kernel
theorem dX7_printJob_11 : decode cX7_printJob 11 = .ok (.iconst 1, 1) := by decide +kernel
theorem dX7_printJob_12 : decode cX7_printJob 12 = .ok (.aload_n 1, 1) := by decide +kernel
theorem dX7_printJob_13 : decode cX7_printJob 13 = .ok (.getfield 183, 3) := by decide +kernel
theorem dX7_printJob_16 : decode cX7_printJob 16 = .ok (.invokevirtual 120, 3) := by decide +kernel
theorem dX7_printJob_19 : decode cX7_printJob 19 = .ok (.aload_n 0, 1) := by decide +kernel
theorem dX7_printJob_20 : decode cX7_printJob 20 = .ok (.getfield 25, 3) := by decide +kernel
theorem dX7_printJob_23 : decode cX7_printJob 23 = .ok (.bipush 16, 2) := by decide +kernel
theorem dX7_printJob_25 : decode cX7_printJob 25 = .ok (.aload_n 1, 1) := by decide +kernel
theorem dX7_printJob_26 : decode cX7_printJob 26 = .ok (.iload_n 2, 1) := by decide +kernel
theorem dX7_printJob_27 : decode cX7_printJob 27 = .ok (.iconst 0, 1) := by decide +kernel
theorem dX7_printJob_28 : decode cX7_printJob 28 = .ok (.invokevirtual 185, 3) := by decide +kernel
theorem dX7_printJob_31 : decode cX7_printJob 31 = .ok (.invokestatic 188, 3) := by decide +kernel
theorem dX7_printJob_34 : decode cX7_printJob 34 = .ok (.invokevirtual 192, 3) := by decide +kernel
theorem dX7_printJob_37 : decode cX7_printJob 37 = .ok (.aload_n 0, 1) := by decide +kernel
theorem dX7_printJob_38 : decode cX7_printJob 38 = .ok (.getfield 25, 3) := by decide +kernel
theorem dX7_printJob_4 : decode cX7_printJob 4 = .ok (.iconst 1, 1) := by decide +kernel
theorem dX7_printJob_41 : decode cX7_printJob 41 = .ok (.bipush 22, 2) := by decide +kernel
theorem dX7_printJob_43 : decode cX7_printJob 43 = .ok (.iconst 4, 1) := by decide +kernel
theorem dX7_printJob_44 : decode cX7_printJob 44 = .ok (.aload_n 1, 1) := by decide +kernel
theorem dX7_printJob_45 : decode cX7_printJob 45 = .ok (.iload_n 2, 1) := by decide +kernel
theorem dX7_printJob_46 : decode cX7_printJob 46 = .ok (.iconst 1, 1) := by decide +kernel
theorem dX7_printJob_47 : decode cX7_printJob 47 = .ok (.invokevirtual 185, 3) := by decide +kernel
theorem dX7_printJob_5 : decode cX7_printJob 5 = .ok (.isub, 1) := by decide +kernel
theorem dX7_printJob_50 : decode cX7_printJob 50 = .ok (.i2l, 1) := by decide +kernel
theorem dX7_printJob_51 : decode cX7_printJob 51 = .ok (.invokevirtual 42, 3) := by decide +kernel
theorem dX7_printJob_54 : decode cX7_printJob 54 = .ok (.aload_n 0, 1) := by decide +kernel
theorem dX7_printJob_55 : decode cX7_printJob 55 = .ok (.getfield 25, 3) := by decide +kernel
theorem dX7_printJob_58 : decode cX7_printJob 58 = .ok (.bipush 27, 2) := by decide +kernel
theorem dX7_printJob_6 : decode cX7_printJob 6 = .ok (.istore_n 2, 1) := by decide +kernel
theorem dX7_printJob_60 : decode cX7_printJob 60 = .ok (.iconst 4, 1) := by decide +kernel
theorem dX7_printJob_61 : decode cX7_printJob 61 = .ok (.aload_n 1, 1) := by decide +kernel
theorem dX7_printJob_62 : decode cX7_printJob 62 = .ok (.iload_n 2, 1) := by decide +kernel
theorem dX7_printJob_63 : decode cX7_printJob 63 = .ok (.iconst 2, 1) := by decide +kernel
theorem dX7_printJob_64 : decode cX7_printJob 64 = .ok (.invokevirtual 185, 3) := by decide +kernel
theorem dX7_printJob_67 : decode cX7_printJob 67 = .ok (.i2l, 1) := by decide +kernel
theorem dX7_printJob_68 : decode cX7_printJob 68 = .ok (.invokevirtual 42, 3) := by decide +kernel
theorem dX7_printJob_7 : decode cX7_printJob 7 = .ok (.aload_n 0, 1) := by decide +kernel
theorem dX7_printJob_71 : decode cX7_printJob 71 = .ok (.aload_n 0, 1) := by decide +kernel
theorem dX7_printJob_72 : decode cX7_printJob 72 = .ok (.getfield 25, 3) := by decide +kernel
theorem dX7_printJob_75 : decode cX7_printJob 75 = .ok (.bipush 36, 2) := by decide +kernel
theorem dX7_printJob_77 : decode cX7_printJob 77 = .ok (.iconst 5, 1) := by decide +kernel
theorem dX7_printJob_78 : decode cX7_printJob 78 = .ok (.aload_n 1, 1) := by decide +kernel
theorem dX7_printJob_79 : decode cX7_printJob 79 = .ok (.iload_n 2, 1) := by decide +kernel
theorem dX7_printJob_8 : decode cX7_printJob 8 = .ok (.getfield 25, 3) := by decide +kernel
theorem dX7_printJob_80 : decode cX7_printJob 80 = .ok (.iconst 3, 1) := by decide +kernel
theorem dX7_printJob_81 : decode cX7_printJob 81 = .ok (.invokevirtual 185, 3) := by decide +kernel
theorem dX7_printJob_84 : decode cX7_printJob 84 = .ok (.i2l, 1) := by decide +kernel
theorem dX7_printJob_85 : decode cX7_printJob 85 = .ok (.invokevirtual 42, 3) := by decide +kernel
theorem dX7_printJob_88 : decode cX7_printJob 88 = .ok (.aload_n 0, 1) := by decide +kernel
theorem dX7_printJob_89 : decode cX7_printJob 89 = .ok (.getfield 25, 3) := by decide +kernel
theorem dX7_printJob_92 : decode cX7_printJob 92 = .ok (.bipush 120, 2) := by decide +kernel
theorem dX7_printJob_94 : decode cX7_printJob 94 = .ok (.iconst 0, 1) := by decide +kernel
theorem dX7_printJob_95 : decode cX7_printJob 95 = .ok (.invokevirtual 56, 3) := by decide +kernel
theorem dX7_printJob_98 : decode cX7_printJob 98 = .ok (.return_, 1) := by decide +kernel
set_option maxHeartbeats 4000000 in
set_option maxRecDepth 100000 in
theorem T_X7_printJob (l : Launch) (D : va_G) (K : Nat → ClassId) (Z Y : Nat → Nat) (ad : Nat → Nat) (d : dSt) (t : tSt) (hok : okX t) (hod : okD d)  : dMet l yX7_printJob cX7_printJob 3 none (rmD 5 6000 1680000) D K Z Y [.ref (ad 6), .ref (ad 7)] ((WX d) K ad t) (QDV D K ad d (fun (u : tSt) (dd : dSt) => okX u ∧ frA [(20, 3)] [] [35, 36, 37] [] t u ∧ okD dd)) 6000 1680000 := by
  refine d_met d RX7 ⟨rfl, by decide +kernel⟩ (Nat.le_of_ble_eq_true rfl) ?_
  intro p e s m below meth c A ls C hE hZ hX hr hlocks hA hP hD hS hl
  have hl : lv_has ls 3 [(0, .ref (ad 6)), (1, .ref (ad 7))] := hl
  have hle : dLe d d := dLe_rf
  have hdf : dFr s.heap.size d d := dFr_rf
  have hokt := hok
  have hfr : frA [(20, 3)] [] [35, 36, 37] [] t t := frA_rf
  refine lv_aload_n C.1 C.2.1 dX7_printJob_0 rfl (lv_at hl 1 rfl) ?_
  have h_1 : (0 : Int) ≤ (t.1 7 12).toInt ∧ (t.1 7 12).toInt ≤ 512 := hok.1 7 12
  refine k_get (v := .int (t.1 7 12)) C hP 7 rfl rfl inlX3 12 (by decide) m_77_15 rfl dX7_printJob_1 ?_
  refine lv_iconst (v := 1) C.1 C.2.1 dX7_printJob_4 (by decide) ?_
  obtain ⟨v_2, e_3⟩ : ∃ z, z = ((t.1 7 12) : Int32) - (1 : Int32) := ⟨_, rfl⟩
  have h_4 : v_2.toInt = (t.1 7 12).toInt - 1 := by rw [e_3]; exact ti_isub (by show (_ : Int) ≤ (t.1 7 12).toInt - 1; omega) (by show (t.1 7 12).toInt - 1 < (_ : Int); omega)
  refine k_isub (v := v_2) C e_3.symm dX7_printJob_5 ?_
  refine lv_istore_n (lv' := [(2, .int v_2), (0, .ref (ad 6)), (1, .ref (ad 7))]) C.1 C.2.1 dX7_printJob_6 rfl hl (by decide) rfl (fun ls hl => ?_)
  have hl : lv_has ls 3 [(0, .ref (ad 6)), (1, .ref (ad 7)), (2, .int v_2)] := lv_sub hl [1, 2, 0] rfl
  refine lv_aload_n C.1 C.2.1 dX7_printJob_7 rfl (lv_at hl 0 rfl) ?_
  refine k_get (v := .ref (ad 20)) C hP 6 rfl rfl inlX7 2 (by decide) m_6_14 rfl dX7_printJob_8 ?_
  refine lv_iconst (v := 1) C.1 C.2.1 dX7_printJob_11 (by decide) ?_
  refine lv_aload_n C.1 C.2.1 dX7_printJob_12 rfl (lv_at hl 1 rfl) ?_
  refine k_get (v := .ref (ad 30)) C hP 7 rfl rfl inlX3 1 (by decide) m_77_16 rfl dX7_printJob_13 ?_
  refine hz_Vv (As := [.int 1, .ref (ad 30)]) (rest := []) C hP hD hS hA (T_X4_copy_1 l D K Z Y ad d t hok 1 (show (1 : Int) ≤ (1 : Int32).toInt ∧ (1 : Int32).toInt ≤ 1 from ⟨by decide, by decide⟩)) hE hZ (uwV m_41_3 m_41_4 m_41_5 m_3_20 m_41_6) (hdV 2 (by decide +kernel) rfl) ⟨Nat.le_of_ble_eq_true rfl, Nat.le_of_ble_eq_true rfl⟩ rfl rfl (ci := 3) (q0 := 20) rfl rfl rfl hl.1 (Nat.le_of_ble_eq_true rfl) dX7_printJob_16 ⟨Nat.le_trans (newC_le _ _) (Nat.le_of_ble_eq_true rfl), (Nat.le_of_ble_eq_true rfl)⟩ (fun t_5 H locs hw hP hD hS => ?_)
  obtain ⟨hok, f_7⟩ := hw
  have hfr : frA [(20, 3)] [] [35, 36, 37] [] t t_5 := frA_tr hfr f_7 rfl
  have h_8 : (t_5.1 7 12).toInt = (t.1 7 12).toInt := ti_eq (f_7.1 7 12 rfl)
  refine lv_aload_n C.1 C.2.1 dX7_printJob_19 rfl (lv_at hl 0 rfl) ?_
  refine k_get (v := .ref (ad 20)) C hP 6 rfl rfl inlX7 2 (by decide) m_6_14 rfl dX7_printJob_20 ?_
  refine lv_bipush (v := 16) C.1 C.2.1 dX7_printJob_23 (by decide) ?_
  refine lv_aload_n C.1 C.2.1 dX7_printJob_25 rfl (lv_at hl 1 rfl) ?_
  refine lv_iload_n C.1 C.2.1 dX7_printJob_26 rfl (lv_at hl 2 rfl) ?_
  refine lv_iconst (v := 0) C.1 C.2.1 dX7_printJob_27 (by decide) ?_
  refine hz_Vi (As := [.int v_2, .int 0]) (rest := [.int 16, .ref (ad 20)]) C hP hD hS hA (T_X3_entry l D K Z Y ad d t_5 hok (v_2) 0) hE hZ (uwV m_77_17 m_77_18 m_77_19 m_2_17 m_77_20) (hdV 2 (by decide +kernel) rfl) ⟨Nat.le_of_ble_eq_true rfl, Nat.le_of_ble_eq_true rfl⟩ rfl rfl (ci := 2) (q0 := 7) rfl rfl rfl hl.1 (Nat.le_of_ble_eq_true rfl) dX7_printJob_28 ⟨Nat.le_trans (newC_le _ _) (Nat.le_of_ble_eq_true rfl), (Nat.le_of_ble_eq_true rfl)⟩ (fun r_10 t_9 H locs hw hP hD hS => ?_)
  obtain ⟨h_12, h_13⟩ := hw
  refine hz_Sr (As := [.int r_10]) (rest := [.int 16, .ref (ad 20)]) C hP hD hS hA (T_X7_endOf l D K Z Y ad d t_5 hok (r_10)) hE hZ (uwS m_77_21 m_77_22 m_2_13 m_77_23) (hdS 1 (by decide +kernel) rfl) ⟨Nat.le_of_ble_eq_true rfl, Nat.le_of_ble_eq_true rfl⟩ rfl rfl rfl hl.1 (Nat.le_of_ble_eq_true rfl) dX7_printJob_31 ⟨Nat.le_trans (newC_le _ _) (Nat.le_of_ble_eq_true rfl), (Nat.le_of_ble_eq_true rfl)⟩ (fun t_14 H locs hw hP hD hS => ?_)
  have ht_14 := hw
  refine hz_Vv (As := [.int 16, .ref (Z t_14)]) (rest := []) C hP hD hS hA (T_X4_text l D K Z Y ad d t_5 hok 16 (t_14) ht_14) hE hZ (uwV m_78_0 m_78_1 m_78_2 m_3_20 m_78_3) (hdV 2 (by decide +kernel) rfl) ⟨Nat.le_of_ble_eq_true rfl, Nat.le_of_ble_eq_true rfl⟩ rfl rfl (ci := 3) (q0 := 20) rfl rfl rfl hl.1 (Nat.le_of_ble_eq_true rfl) dX7_printJob_34 ⟨Nat.le_trans (newC_le _ _) (Nat.le_of_ble_eq_true rfl), (Nat.le_of_ble_eq_true rfl)⟩ (fun t_17 H locs hw hP hD hS => ?_)
  obtain ⟨hok, f_19⟩ := hw
  have hfr : frA [(20, 3)] [] [35, 36, 37] [] t t_17 := frA_tr hfr f_19 rfl
  have h_20 : (t_17.1 7 12).toInt = (t_5.1 7 12).toInt := ti_eq (f_19.1 7 12 rfl)
  refine lv_aload_n C.1 C.2.1 dX7_printJob_37 rfl (lv_at hl 0 rfl) ?_
  refine k_get (v := .ref (ad 20)) C hP 6 rfl rfl inlX7 2 (by decide) m_6_14 rfl dX7_printJob_38 ?_
  refine lv_bipush (v := 22) C.1 C.2.1 dX7_printJob_41 (by decide) ?_
  refine lv_iconst (v := 4) C.1 C.2.1 dX7_printJob_43 (by decide) ?_
  refine lv_aload_n C.1 C.2.1 dX7_printJob_44 rfl (lv_at hl 1 rfl) ?_
  refine lv_iload_n C.1 C.2.1 dX7_printJob_45 rfl (lv_at hl 2 rfl) ?_
  refine lv_iconst (v := 1) C.1 C.2.1 dX7_printJob_46 (by decide) ?_
  refine hz_Vi (As := [.int v_2, .int 1]) (rest := [.int 4, .int 22, .ref (ad 20)]) C hP hD hS hA (T_X3_entry l D K Z Y ad d t_17 hok (v_2) 1) hE hZ (uwV m_77_17 m_77_18 m_77_19 m_2_17 m_77_20) (hdV 2 (by decide +kernel) rfl) ⟨Nat.le_of_ble_eq_true rfl, Nat.le_of_ble_eq_true rfl⟩ rfl rfl (ci := 2) (q0 := 7) rfl rfl rfl hl.1 (Nat.le_of_ble_eq_true rfl) dX7_printJob_47 ⟨Nat.le_trans (newC_le _ _) (Nat.le_of_ble_eq_true rfl), (Nat.le_of_ble_eq_true rfl)⟩ (fun r_22 t_21 H locs hw hP hD hS => ?_)
  obtain ⟨h_24, h_25⟩ := hw
  obtain ⟨v_26, e_27⟩ : ∃ z, z = (r_22 : Int32).toInt64 := ⟨_, rfl⟩
  have h_28 : v_26.toInt = r_22.toInt := by rw [e_27]; exact Jvm.Kit.i64_of_i32 _
  have h_29 := i_rng r_22
  refine lv_i2l (v := v_26) C.1 C.2.1 dX7_printJob_50 e_27.symm ?_
  have h_30 : (4 : Int32).toInt = 4 := rfl
  refine hz_Vv (As := [.int 22, .int 4, .long v_26]) (rest := []) C hP hD hS hA (T_X4_digits l D K Z Y ad d t_17 hok 22 (show (0 : Int) ≤ (22 : Int32).toInt ∧ (22 : Int32).toInt ≤ 200 from ⟨by decide, by decide⟩) 4 (show (1 : Int) ≤ (4 : Int32).toInt ∧ (4 : Int32).toInt ≤ 10 from ⟨by decide, by decide⟩) (v_26) (show 0 ≤ (4 : Int32).toInt from by omega)) hE hZ (uwV m_40_18 m_40_19 m_40_20 m_3_20 m_40_21) (hdV 3 (by decide +kernel) rfl) ⟨Nat.le_of_ble_eq_true rfl, Nat.le_of_ble_eq_true rfl⟩ rfl rfl (ci := 3) (q0 := 20) rfl rfl rfl hl.1 (Nat.le_of_ble_eq_true rfl) dX7_printJob_51 ⟨Nat.le_trans (newC_le _ _) (Nat.le_of_ble_eq_true rfl), (Nat.le_of_ble_eq_true rfl)⟩ (fun t_31 H locs hw hP hD hS => ?_)
  obtain ⟨hok, f_33⟩ := hw
  have hfr : frA [(20, 3)] [] [35, 36, 37] [] t t_31 := frA_tr hfr f_33 rfl
  have h_34 : (t_31.1 7 12).toInt = (t_17.1 7 12).toInt := ti_eq (f_33.1 7 12 rfl)
  refine lv_aload_n C.1 C.2.1 dX7_printJob_54 rfl (lv_at hl 0 rfl) ?_
  refine k_get (v := .ref (ad 20)) C hP 6 rfl rfl inlX7 2 (by decide) m_6_14 rfl dX7_printJob_55 ?_
  refine lv_bipush (v := 27) C.1 C.2.1 dX7_printJob_58 (by decide) ?_
  refine lv_iconst (v := 4) C.1 C.2.1 dX7_printJob_60 (by decide) ?_
  refine lv_aload_n C.1 C.2.1 dX7_printJob_61 rfl (lv_at hl 1 rfl) ?_
  refine lv_iload_n C.1 C.2.1 dX7_printJob_62 rfl (lv_at hl 2 rfl) ?_
  refine lv_iconst (v := 2) C.1 C.2.1 dX7_printJob_63 (by decide) ?_
  refine hz_Vi (As := [.int v_2, .int 2]) (rest := [.int 4, .int 27, .ref (ad 20)]) C hP hD hS hA (T_X3_entry l D K Z Y ad d t_31 hok (v_2) 2) hE hZ (uwV m_77_17 m_77_18 m_77_19 m_2_17 m_77_20) (hdV 2 (by decide +kernel) rfl) ⟨Nat.le_of_ble_eq_true rfl, Nat.le_of_ble_eq_true rfl⟩ rfl rfl (ci := 2) (q0 := 7) rfl rfl rfl hl.1 (Nat.le_of_ble_eq_true rfl) dX7_printJob_64 ⟨Nat.le_trans (newC_le _ _) (Nat.le_of_ble_eq_true rfl), (Nat.le_of_ble_eq_true rfl)⟩ (fun r_36 t_35 H locs hw hP hD hS => ?_)
  obtain ⟨h_38, h_39⟩ := hw
  obtain ⟨v_40, e_41⟩ : ∃ z, z = (r_36 : Int32).toInt64 := ⟨_, rfl⟩
  have h_42 : v_40.toInt = r_36.toInt := by rw [e_41]; exact Jvm.Kit.i64_of_i32 _
  have h_43 := i_rng r_36
  refine lv_i2l (v := v_40) C.1 C.2.1 dX7_printJob_67 e_41.symm ?_
  refine hz_Vv (As := [.int 27, .int 4, .long v_40]) (rest := []) C hP hD hS hA (T_X4_digits l D K Z Y ad d t_31 hok 27 (show (0 : Int) ≤ (27 : Int32).toInt ∧ (27 : Int32).toInt ≤ 200 from ⟨by decide, by decide⟩) 4 (show (1 : Int) ≤ (4 : Int32).toInt ∧ (4 : Int32).toInt ≤ 10 from ⟨by decide, by decide⟩) (v_40) (show 0 ≤ (4 : Int32).toInt from by omega)) hE hZ (uwV m_40_18 m_40_19 m_40_20 m_3_20 m_40_21) (hdV 3 (by decide +kernel) rfl) ⟨Nat.le_of_ble_eq_true rfl, Nat.le_of_ble_eq_true rfl⟩ rfl rfl (ci := 3) (q0 := 20) rfl rfl rfl hl.1 (Nat.le_of_ble_eq_true rfl) dX7_printJob_68 ⟨Nat.le_trans (newC_le _ _) (Nat.le_of_ble_eq_true rfl), (Nat.le_of_ble_eq_true rfl)⟩ (fun t_44 H locs hw hP hD hS => ?_)
  obtain ⟨hok, f_46⟩ := hw
  have hfr : frA [(20, 3)] [] [35, 36, 37] [] t t_44 := frA_tr hfr f_46 rfl
  have h_47 : (t_44.1 7 12).toInt = (t_31.1 7 12).toInt := ti_eq (f_46.1 7 12 rfl)
  refine lv_aload_n C.1 C.2.1 dX7_printJob_71 rfl (lv_at hl 0 rfl) ?_
  refine k_get (v := .ref (ad 20)) C hP 6 rfl rfl inlX7 2 (by decide) m_6_14 rfl dX7_printJob_72 ?_
  refine lv_bipush (v := 36) C.1 C.2.1 dX7_printJob_75 (by decide) ?_
  refine lv_iconst (v := 5) C.1 C.2.1 dX7_printJob_77 (by decide) ?_
  refine lv_aload_n C.1 C.2.1 dX7_printJob_78 rfl (lv_at hl 1 rfl) ?_
  refine lv_iload_n C.1 C.2.1 dX7_printJob_79 rfl (lv_at hl 2 rfl) ?_
  refine lv_iconst (v := 3) C.1 C.2.1 dX7_printJob_80 (by decide) ?_
  refine hz_Vi (As := [.int v_2, .int 3]) (rest := [.int 5, .int 36, .ref (ad 20)]) C hP hD hS hA (T_X3_entry l D K Z Y ad d t_44 hok (v_2) 3) hE hZ (uwV m_77_17 m_77_18 m_77_19 m_2_17 m_77_20) (hdV 2 (by decide +kernel) rfl) ⟨Nat.le_of_ble_eq_true rfl, Nat.le_of_ble_eq_true rfl⟩ rfl rfl (ci := 2) (q0 := 7) rfl rfl rfl hl.1 (Nat.le_of_ble_eq_true rfl) dX7_printJob_81 ⟨Nat.le_trans (newC_le _ _) (Nat.le_of_ble_eq_true rfl), (Nat.le_of_ble_eq_true rfl)⟩ (fun r_49 t_48 H locs hw hP hD hS => ?_)
  obtain ⟨h_51, h_52⟩ := hw
  obtain ⟨v_53, e_54⟩ : ∃ z, z = (r_49 : Int32).toInt64 := ⟨_, rfl⟩
  have h_55 : v_53.toInt = r_49.toInt := by rw [e_54]; exact Jvm.Kit.i64_of_i32 _
  have h_56 := i_rng r_49
  refine lv_i2l (v := v_53) C.1 C.2.1 dX7_printJob_84 e_54.symm ?_
  have h_57 : (5 : Int32).toInt = 5 := rfl
  refine hz_Vv (As := [.int 36, .int 5, .long v_53]) (rest := []) C hP hD hS hA (T_X4_digits l D K Z Y ad d t_44 hok 36 (show (0 : Int) ≤ (36 : Int32).toInt ∧ (36 : Int32).toInt ≤ 200 from ⟨by decide, by decide⟩) 5 (show (1 : Int) ≤ (5 : Int32).toInt ∧ (5 : Int32).toInt ≤ 10 from ⟨by decide, by decide⟩) (v_53) (show 0 ≤ (5 : Int32).toInt from by omega)) hE hZ (uwV m_40_18 m_40_19 m_40_20 m_3_20 m_40_21) (hdV 3 (by decide +kernel) rfl) ⟨Nat.le_of_ble_eq_true rfl, Nat.le_of_ble_eq_true rfl⟩ rfl rfl (ci := 3) (q0 := 20) rfl rfl rfl hl.1 (Nat.le_of_ble_eq_true rfl) dX7_printJob_85 ⟨Nat.le_trans (newC_le _ _) (Nat.le_of_ble_eq_true rfl), (Nat.le_of_ble_eq_true rfl)⟩ (fun t_58 H locs hw hP hD hS => ?_)
  obtain ⟨hok, f_60⟩ := hw
  have hfr : frA [(20, 3)] [] [35, 36, 37] [] t t_58 := frA_tr hfr f_60 rfl
  have h_61 : (t_58.1 7 12).toInt = (t_44.1 7 12).toInt := ti_eq (f_60.1 7 12 rfl)
  refine lv_aload_n C.1 C.2.1 dX7_printJob_88 rfl (lv_at hl 0 rfl) ?_
  refine k_get (v := .ref (ad 20)) C hP 6 rfl rfl inlX7 2 (by decide) m_6_14 rfl dX7_printJob_89 ?_
  refine lv_bipush (v := 120) C.1 C.2.1 dX7_printJob_92 (by decide) ?_
  refine lv_iconst (v := 0) C.1 C.2.1 dX7_printJob_94 (by decide) ?_
  refine g_DVv (As := [.int 120, .int 0]) (rest := []) C hP hD hS hA (T_X4_finish l D K Z Y ad d t_58 hok hod 120 (show (72 : Int) ≤ (120 : Int32).toInt ∧ (120 : Int32).toInt ≤ 120 from ⟨by decide, by decide⟩) 0 (show (0 : Int) ≤ (0 : Int32).toInt ∧ (0 : Int32).toInt ≤ 1 from ⟨by decide, by decide⟩)) hE hZ hX hle hdf (uwV m_41_7 m_41_8 m_41_9 m_3_20 m_41_10) (hdV 2 (by decide +kernel) rfl) ⟨Nat.le_of_ble_eq_true rfl, Nat.le_of_ble_eq_true rfl⟩ rfl rfl (ci := 3) (q0 := 20) rfl rfl rfl hl.1 (Nat.le_of_ble_eq_true rfl) dX7_printJob_95 ⟨Nat.le_of_ble_eq_true rfl, Nat.le_of_ble_eq_true rfl⟩ (fun t_62 d_64 H locs hw hP hD hS hln hle hdf => ?_)
  obtain ⟨hok, f_65, hod⟩ := hw
  have hfr : frA [(20, 3)] [] [35, 36, 37] [] t t_62 := frA_tr hfr f_65 rfl
  have h_66 : (t_62.1 7 12).toInt = (t_58.1 7 12).toInt := ti_eq (f_65.1 7 12 rfl)
  exact g_Dvret C hr hlocks hP hD hS ⟨hok, hfr, hod⟩ hle hdf (Nat.le_of_ble_eq_true rfl) (Nat.le_of_ble_eq_true rfl) dX7_printJob_98

theorem dX7_printDump_0 : decode cX7_printDump 0 = .ok (.iconst 0, 1) := by decide +kernel
theorem dX7_printDump_1 : decode cX7_printDump 1 = .ok (.istore_n 1, 1) := by decide +kernel
theorem dX7_printDump_102 : decode cX7_printDump 102 = .ok (.if_icmp .gt 98, 3) := by decide +kernel
theorem dX7_printDump_105 : decode cX7_printDump 105 = .ok (.aload_n 0, 1) := by decide +kernel
theorem dX7_printDump_106 : decode cX7_printDump 106 = .ok (.iload_n 1, 1) := by decide +kernel
theorem dX7_printDump_107 : decode cX7_printDump 107 = .ok (.invokevirtual 48, 3) := by decide +kernel
theorem dX7_printDump_110 : decode cX7_printDump 110 = .ok (.aload_n 0, 1) := by decide +kernel
theorem dX7_printDump_111 : decode cX7_printDump 111 = .ok (.iload_n 1, 1) := by decide +kernel
theorem dX7_printDump_112 : decode cX7_printDump 112 = .ok (.iconst 1, 1) := by decide +kernel
theorem dX7_printDump_113 : decode cX7_printDump 113 = .ok (.iadd, 1) := by decide +kernel
theorem dX7_printDump_114 : decode cX7_printDump 114 = .ok (.invokevirtual 48, 3) := by decide +kernel
theorem dX7_printDump_117 : decode cX7_printDump 117 = .ok (.ior, 1) := by decide +kernel
theorem dX7_printDump_118 : decode cX7_printDump 118 = .ok (.aload_n 0, 1) := by decide +kernel
theorem dX7_printDump_119 : decode cX7_printDump 119 = .ok (.iload_n 1, 1) := by decide +kernel
theorem dX7_printDump_12 : decode cX7_printDump 12 = .ok (.iconst 1, 1) := by decide +kernel
theorem dX7_printDump_120 : decode cX7_printDump 120 = .ok (.iconst 2, 1) := by decide +kernel
theorem dX7_printDump_121 : decode cX7_printDump 121 = .ok (.iadd, 1) := by decide +kernel
theorem dX7_printDump_122 : decode cX7_printDump 122 = .ok (.invokevirtual 48, 3) := by decide +kernel
theorem dX7_printDump_125 : decode cX7_printDump 125 = .ok (.ior, 1) := by decide +kernel
theorem dX7_printDump_126 : decode cX7_printDump 126 = .ok (.aload_n 0, 1) := by decide +kernel
theorem dX7_printDump_127 : decode cX7_printDump 127 = .ok (.iload_n 1, 1) := by decide +kernel
theorem dX7_printDump_128 : decode cX7_printDump 128 = .ok (.iconst 3, 1) := by decide +kernel
theorem dX7_printDump_129 : decode cX7_printDump 129 = .ok (.iadd, 1) := by decide +kernel
theorem dX7_printDump_13 : decode cX7_printDump 13 = .ok (.iload_n 1, 1) := by decide +kernel
theorem dX7_printDump_130 : decode cX7_printDump 130 = .ok (.invokevirtual 48, 3) := by decide +kernel
theorem dX7_printDump_133 : decode cX7_printDump 133 = .ok (.ior, 1) := by decide +kernel
theorem dX7_printDump_134 : decode cX7_printDump 134 = .ok (.ifCond .eq 60, 3) := by decide +kernel
theorem dX7_printDump_137 : decode cX7_printDump 137 = .ok (.aload_n 0, 1) := by decide +kernel
theorem dX7_printDump_138 : decode cX7_printDump 138 = .ok (.getfield 25, 3) := by decide +kernel
theorem dX7_printDump_14 : decode cX7_printDump 14 = .ok (.ifCond .ne 8, 3) := by decide +kernel
theorem dX7_printDump_141 : decode cX7_printDump 141 = .ok (.iconst 2, 1) := by decide +kernel
theorem dX7_printDump_142 : decode cX7_printDump 142 = .ok (.iconst 4, 1) := by decide +kernel
theorem dX7_printDump_143 : decode cX7_printDump 143 = .ok (.iload_n 1, 1) := by decide +kernel
theorem dX7_printDump_144 : decode cX7_printDump 144 = .ok (.i2l, 1) := by decide +kernel
theorem dX7_printDump_145 : decode cX7_printDump 145 = .ok (.invokevirtual 42, 3) := by decide +kernel
theorem dX7_printDump_148 : decode cX7_printDump 148 = .ok (.iconst 0, 1) := by decide +kernel
theorem dX7_printDump_149 : decode cX7_printDump 149 = .ok (.istore_n 2, 1) := by decide +kernel
theorem dX7_printDump_150 : decode cX7_printDump 150 = .ok (.iload_n 2, 1) := by decide +kernel
theorem dX7_printDump_151 : decode cX7_printDump 151 = .ok (.iconst 4, 1) := by decide +kernel
theorem dX7_printDump_152 : decode cX7_printDump 152 = .ok (.if_icmp .ge 32, 3) := by decide +kernel
theorem dX7_printDump_155 : decode cX7_printDump 155 = .ok (.aload_n 0, 1) := by decide +kernel
theorem dX7_printDump_156 : decode cX7_printDump 156 = .ok (.getfield 25, 3) := by decide +kernel
theorem dX7_printDump_159 : decode cX7_printDump 159 = .ok (.bipush 10, 2) := by decide +kernel
theorem dX7_printDump_161 : decode cX7_printDump 161 = .ok (.bipush 15, 2) := by decide +kernel
theorem dX7_printDump_163 : decode cX7_printDump 163 = .ok (.iload_n 2, 1) := by decide +kernel
theorem dX7_printDump_164 : decode cX7_printDump 164 = .ok (.imul, 1) := by decide +kernel
theorem dX7_printDump_165 : decode cX7_printDump 165 = .ok (.iadd, 1) := by decide +kernel
theorem dX7_printDump_166 : decode cX7_printDump 166 = .ok (.bipush 10, 2) := by decide +kernel
theorem dX7_printDump_168 : decode cX7_printDump 168 = .ok (.aload_n 0, 1) := by decide +kernel
theorem dX7_printDump_169 : decode cX7_printDump 169 = .ok (.iload_n 1, 1) := by decide +kernel
theorem dX7_printDump_17 : decode cX7_printDump 17 = .ok (.bipush 65, 2) := by decide +kernel
theorem dX7_printDump_170 : decode cX7_printDump 170 = .ok (.iload_n 2, 1) := by decide +kernel
theorem dX7_printDump_171 : decode cX7_printDump 171 = .ok (.iadd, 1) := by decide +kernel
theorem dX7_printDump_172 : decode cX7_printDump 172 = .ok (.invokevirtual 48, 3) := by decide +kernel
theorem dX7_printDump_175 : decode cX7_printDump 175 = .ok (.invokevirtual 83, 3) := by decide +kernel
theorem dX7_printDump_178 : decode cX7_printDump 178 = .ok (.iinc 2 1, 3) := by decide +kernel
theorem dX7_printDump_181 : decode cX7_printDump 181 = .ok (.goto (-31), 3) := by decide +kernel
theorem dX7_printDump_184 : decode cX7_printDump 184 = .ok (.aload_n 0, 1) := by decide +kernel
theorem dX7_printDump_185 : decode cX7_printDump 185 = .ok (.getfield 25, 3) := by decide +kernel
theorem dX7_printDump_188 : decode cX7_printDump 188 = .ok (.bipush 120, 2) := by decide +kernel
theorem dX7_printDump_19 : decode cX7_printDump 19 = .ok (.goto 16, 3) := by decide +kernel
theorem dX7_printDump_190 : decode cX7_printDump 190 = .ok (.iconst 0, 1) := by decide +kernel
theorem dX7_printDump_191 : decode cX7_printDump 191 = .ok (.invokevirtual 56, 3) := by decide +kernel
theorem dX7_printDump_194 : decode cX7_printDump 194 = .ok (.iinc 1 4, 3) := by decide +kernel
theorem dX7_printDump_197 : decode cX7_printDump 197 = .ok (.goto (-99), 3) := by decide +kernel
theorem dX7_printDump_2 : decode cX7_printDump 2 = .ok (.iload_n 1, 1) := by decide +kernel
theorem dX7_printDump_200 : decode cX7_printDump 200 = .ok (.return_, 1) := by decide +kernel
theorem dX7_printDump_22 : decode cX7_printDump 22 = .ok (.iload_n 1, 1) := by decide +kernel
theorem dX7_printDump_23 : decode cX7_printDump 23 = .ok (.bipush 7, 2) := by decide +kernel
theorem dX7_printDump_25 : decode cX7_printDump 25 = .ok (.if_icmp .ne 8, 3) := by decide +kernel
theorem dX7_printDump_28 : decode cX7_printDump 28 = .ok (.bipush 88, 2) := by decide +kernel
theorem dX7_printDump_3 : decode cX7_printDump 3 = .ok (.bipush 7, 2) := by decide +kernel
theorem dX7_printDump_30 : decode cX7_printDump 30 = .ok (.goto 5, 3) := by decide +kernel
theorem dX7_printDump_33 : decode cX7_printDump 33 = .ok (.bipush 73, 2) := by decide +kernel
theorem dX7_printDump_35 : decode cX7_printDump 35 = .ok (.invokevirtual 74, 3) := by decide +kernel
theorem dX7_printDump_38 : decode cX7_printDump 38 = .ok (.iload_n 1, 1) := by decide +kernel
theorem dX7_printDump_39 : decode cX7_printDump 39 = .ok (.iconst 1, 1) := by decide +kernel
theorem dX7_printDump_40 : decode cX7_printDump 40 = .ok (.if_icmp .lt 20, 3) := by decide +kernel
theorem dX7_printDump_43 : decode cX7_printDump 43 = .ok (.iload_n 1, 1) := by decide +kernel
theorem dX7_printDump_44 : decode cX7_printDump 44 = .ok (.bipush 6, 2) := by decide +kernel
theorem dX7_printDump_46 : decode cX7_printDump 46 = .ok (.if_icmp .gt 14, 3) := by decide +kernel
theorem dX7_printDump_49 : decode cX7_printDump 49 = .ok (.aload_n 0, 1) := by decide +kernel
theorem dX7_printDump_5 : decode cX7_printDump 5 = .ok (.if_icmp .gt 91, 3) := by decide +kernel
theorem dX7_printDump_50 : decode cX7_printDump 50 = .ok (.getfield 25, 3) := by decide +kernel
theorem dX7_printDump_53 : decode cX7_printDump 53 = .ok (.iconst 2, 1) := by decide +kernel
theorem dX7_printDump_54 : decode cX7_printDump 54 = .ok (.iconst 1, 1) := by decide +kernel
theorem dX7_printDump_55 : decode cX7_printDump 55 = .ok (.iload_n 1, 1) := by decide +kernel
theorem dX7_printDump_56 : decode cX7_printDump 56 = .ok (.i2l, 1) := by decide +kernel
theorem dX7_printDump_57 : decode cX7_printDump 57 = .ok (.invokevirtual 42, 3) := by decide +kernel
theorem dX7_printDump_60 : decode cX7_printDump 60 = .ok (.aload_n 0, 1) := by decide +kernel
theorem dX7_printDump_61 : decode cX7_printDump 61 = .ok (.getfield 25, 3) := by decide +kernel
theorem dX7_printDump_64 : decode cX7_printDump 64 = .ok (.bipush 10, 2) := by decide +kernel
theorem dX7_printDump_66 : decode cX7_printDump 66 = .ok (.bipush 10, 2) := by decide +kernel
theorem dX7_printDump_68 : decode cX7_printDump 68 = .ok (.aload_n 0, 1) := by decide +kernel
theorem dX7_printDump_69 : decode cX7_printDump 69 = .ok (.getfield 9, 3) := by decide +kernel
theorem dX7_printDump_72 : decode cX7_printDump 72 = .ok (.getfield 166, 3) := by decide +kernel
theorem dX7_printDump_75 : decode cX7_printDump 75 = .ok (.iload_n 1, 1) := by decide +kernel
theorem dX7_printDump_76 : decode cX7_printDump 76 = .ok (.iaload, 1) := by decide +kernel
theorem dX7_printDump_77 : decode cX7_printDump 77 = .ok (.invokevirtual 83, 3) := by decide +kernel
theorem dX7_printDump_8 : decode cX7_printDump 8 = .ok (.aload_n 0, 1) := by decide +kernel
theorem dX7_printDump_80 : decode cX7_printDump 80 = .ok (.aload_n 0, 1) := by decide +kernel
theorem dX7_printDump_81 : decode cX7_printDump 81 = .ok (.getfield 25, 3) := by decide +kernel
theorem dX7_printDump_84 : decode cX7_printDump 84 = .ok (.bipush 120, 2) := by decide +kernel
theorem dX7_printDump_86 : decode cX7_printDump 86 = .ok (.iconst 0, 1) := by decide +kernel
theorem dX7_printDump_87 : decode cX7_printDump 87 = .ok (.invokevirtual 56, 3) := by decide +kernel
theorem dX7_printDump_9 : decode cX7_printDump 9 = .ok (.getfield 25, 3) := by decide +kernel
theorem dX7_printDump_90 : decode cX7_printDump 90 = .ok (.iinc 1 1, 3) := by decide +kernel
theorem dX7_printDump_93 : decode cX7_printDump 93 = .ok (.goto (-91), 3) := by decide +kernel
theorem dX7_printDump_96 : decode cX7_printDump 96 = .ok (.iconst 0, 1) := by decide +kernel
theorem dX7_printDump_97 : decode cX7_printDump 97 = .ok (.istore_n 1, 1) := by decide +kernel
theorem dX7_printDump_98 : decode cX7_printDump 98 = .ok (.iload_n 1, 1) := by decide +kernel
theorem dX7_printDump_99 : decode cX7_printDump 99 = .ok (.sipush 3999, 3) := by decide +kernel
set_option maxHeartbeats 4000000 in
set_option maxRecDepth 100000 in
theorem T_X7_printDump (l : Launch) (D : va_G) (K : Nat → ClassId) (Z Y : Nat → Nat) (ad : Nat → Nat) (d : dSt) (t : tSt) (hok : okX t) (hod : okD d)  : dMet l yX7_printDump cX7_printDump 3 none (rmD 3 4000 1120000) D K Z Y [.ref (ad 6)] ((WX d) K ad t) (QDV D K ad d (fun (u : tSt) (dd : dSt) => okX u ∧ frA [(20, 3)] [] [35, 36, 37] [] t u ∧ okD dd)) 4000 1120000 := by
  refine d_met d RX7 ⟨rfl, by decide +kernel⟩ (Nat.le_of_ble_eq_true rfl) ?_
  intro p e s m below meth c A ls C hE hZ hX hr hlocks hA hP hD hS hl
  have hl : lv_has ls 3 [(0, .ref (ad 6))] := hl
  have hle : dLe d d := dLe_rf
  have hdf : dFr s.heap.size d d := dFr_rf
  have hokt := hok
  have hfr : frA [(20, 3)] [] [35, 36, 37] [] t t := frA_rf
  have L_98 : ∀ (fuel_98 : Nat) (t1 : tSt) (d1 : dSt) (w98_1 : Int32) (H : Heap) (locs : List Loc) (ls : Array Slot), okX t1 → frA [(20, 3)] [] [35, 36, 37] [] t t1 → okD d1 → dLe d d1 → dFr s.heap.size d d1 → (0 : Int) ≤ w98_1.toInt ∧ w98_1.toInt ≤ 4095 → (4095 : Int) - w98_1.toInt < (fuel_98 : Int) → va_P D vwCl ((WX d1) K ad t1) H → va_D A ((WX d1) K ad t1) → va_S A s.heap H locs → lv_has ls 3 [(0, .ref (ad 6)), (1, .int w98_1)] → W p l e (rmD 3 4000 1120000) s m [.ref (ad 6)].toArray below meth c H locs (newC d d1) 246800 (MQ below (QDV D K ad d (fun (u : tSt) (dd : dSt) => okX u ∧ frA [(20, 3)] [] [35, 36, 37] [] t u ∧ okD dd) s.heap.size A) [.ref (ad 6)].toArray s 4000 1120000 A) (F0 m 98 ls []) := by
    intro fuel_98
    induction fuel_98 with
    | zero =>
      intro t1 d1 w98_1 H locs ls hok hfr hod hle hdf hw98_1 hm98_98 hP hD hS hl
      exact absurd hm98_98 (by omega)
    | succ fuel_98 ih_98 =>
      intro t1 d1 w98_1 H locs ls hok hfr hod hle hdf hw98_1 hm98_98 hP hD hS hl
      have hm98_98 : (4095 : Int) - w98_1.toInt < (fuel_98 : Int) + 1 := by omega
      have L_194 : ∀ (t1 : tSt) (d1 : dSt) (w194_1 : Int32) (H : Heap) (locs : List Loc) (ls : Array Slot), okX t1 → frA [(20, 3)] [] [35, 36, 37] [] t t1 → okD d1 → dLe d d1 → dFr s.heap.size d d1 → (0 : Int) ≤ w194_1.toInt ∧ w194_1.toInt ≤ 3999 → (4095 : Int) - w194_1.toInt < (fuel_98 : Int) + 1 → va_P D vwCl ((WX d1) K ad t1) H → va_D A ((WX d1) K ad t1) → va_S A s.heap H locs → lv_has ls 3 [(0, .ref (ad 6)), (1, .int w194_1)] → W p l e (rmD 3 4000 1120000) s m [.ref (ad 6)].toArray below meth c H locs (newC d d1) 246800 (MQ below (QDV D K ad d (fun (u : tSt) (dd : dSt) => okX u ∧ frA [(20, 3)] [] [35, 36, 37] [] t u ∧ okD dd) s.heap.size A) [.ref (ad 6)].toArray s 4000 1120000 A) (F0 m 194 ls []) := by
        intro t1 d1 w194_1 H locs ls hok hfr hod hle hdf hw194_1 hm194_98 hP hD hS hl
        obtain ⟨v_1, e_2⟩ : ∃ z, z = w194_1 + 4 := ⟨_, rfl⟩
        have h_3 : v_1.toInt = w194_1.toInt + 4 := by rw [e_2]; exact ti_iadd (by show (_ : Int) ≤ w194_1.toInt + 4; omega) (by show w194_1.toInt + 4 < (_ : Int); omega)
        refine lv_iinc (v := v_1) (lv' := [(1, .int v_1), (0, .ref (ad 6))]) C.1 C.2.1 dX7_printDump_194 hl (k := 1) rfl e_2.symm (by decide) rfl (fun ls hl => ?_)
        have hl : lv_has ls 3 [(0, .ref (ad 6)), (1, .int v_1)] := lv_sub hl [1, 0] rfl
        refine lv_goto (tgt := 98) C.1 C.2.1 dX7_printDump_197 (by decide) ?_
        exact ih_98 t1 d1 v_1 _ _ _ hok hfr hod hle hdf ⟨by omega, by omega⟩ (show (4095 : Int) - v_1.toInt < (fuel_98 : Int) from by omega) hP hD hS (lv_sub hl [0, 1] rfl)
      have L_150 : ∀ (fuel_150 : Nat) (t1 : tSt) (d1 : dSt) (w150_1 : Int32) (w150_2 : Int32) (H : Heap) (locs : List Loc) (ls : Array Slot), okX t1 → frA [(20, 3)] [] [35, 36, 37] [] t t1 → okD d1 → dLe d d1 → dFr s.heap.size d d1 → (0 : Int) ≤ w150_1.toInt ∧ w150_1.toInt ≤ 3999 → (0 : Int) ≤ w150_2.toInt ∧ w150_2.toInt ≤ 4 → (4095 : Int) - w150_1.toInt < (fuel_98 : Int) + 1 → (4 : Int) - w150_2.toInt < (fuel_150 : Int) → va_P D vwCl ((WX d1) K ad t1) H → va_D A ((WX d1) K ad t1) → va_S A s.heap H locs → lv_has ls 3 [(0, .ref (ad 6)), (1, .int w150_1), (2, .int w150_2)] → W p l e (rmD 3 4000 1120000) s m [.ref (ad 6)].toArray below meth c H locs (newC d d1) 246800 (MQ below (QDV D K ad d (fun (u : tSt) (dd : dSt) => okX u ∧ frA [(20, 3)] [] [35, 36, 37] [] t u ∧ okD dd) s.heap.size A) [.ref (ad 6)].toArray s 4000 1120000 A) (F0 m 150 ls []) := by
        intro fuel_150
        induction fuel_150 with
        | zero =>
          intro t1 d1 w150_1 w150_2 H locs ls hok hfr hod hle hdf hw150_1 hw150_2 hm150_98 hm150_150 hP hD hS hl
          exact absurd hm150_150 (by omega)
        | succ fuel_150 ih_150 =>
          intro t1 d1 w150_1 w150_2 H locs ls hok hfr hod hle hdf hw150_1 hw150_2 hm150_98 hm150_150 hP hD hS hl
          have hm150_150 : (4 : Int) - w150_2.toInt < (fuel_150 : Int) + 1 := by omega
          refine lv_iload_n C.1 C.2.1 dX7_printDump_150 rfl (lv_at hl 2 rfl) ?_
          refine lv_iconst (v := 4) C.1 C.2.1 dX7_printDump_151 (by decide) ?_
          refine lv_icmp_ge (tgt := 184) C.1 C.2.1 dX7_printDump_152 (by decide) (fun c_4 => ?_) (fun c_4 => ?_)
          · replace c_4 : 4 ≤ w150_2.toInt := i_le c_4
            refine lv_aload_n C.1 C.2.1 dX7_printDump_184 rfl (lv_at hl 0 rfl) ?_
            refine k_get (v := .ref (ad 20)) C hP 6 rfl rfl inlX7 2 (by decide) m_6_14 rfl dX7_printDump_185 ?_
            refine lv_bipush (v := 120) C.1 C.2.1 dX7_printDump_188 (by decide) ?_
            refine lv_iconst (v := 0) C.1 C.2.1 dX7_printDump_190 (by decide) ?_
            refine g_DVv (As := [.int 120, .int 0]) (rest := []) C hP hD hS hA (T_X4_finish l D K Z Y ad d1 t1 hok hod 120 (show (72 : Int) ≤ (120 : Int32).toInt ∧ (120 : Int32).toInt ≤ 120 from ⟨by decide, by decide⟩) 0 (show (0 : Int) ≤ (0 : Int32).toInt ∧ (0 : Int32).toInt ≤ 1 from ⟨by decide, by decide⟩)) hE hZ hX hle hdf (uwV m_41_7 m_41_8 m_41_9 m_3_20 m_41_10) (hdV 2 (by decide +kernel) rfl) ⟨Nat.le_of_ble_eq_true rfl, Nat.le_of_ble_eq_true rfl⟩ rfl rfl (ci := 3) (q0 := 20) rfl rfl rfl hl.1 (Nat.le_of_ble_eq_true rfl) dX7_printDump_191 ⟨Nat.le_of_ble_eq_true rfl, Nat.le_of_ble_eq_true rfl⟩ (fun t_5 d_7 H locs hw hP hD hS hln hle hdf => ?_)
            obtain ⟨hok, f_8, hod⟩ := hw
            have hfr : frA [(20, 3)] [] [35, 36, 37] [] t t_5 := frA_tr hfr f_8 rfl
            exact L_194 t_5 d_7 w150_1 _ _ _ hok hfr hod hle hdf ⟨by omega, by omega⟩ (show (4095 : Int) - w150_1.toInt < (fuel_98 : Int) + 1 from by omega) hP hD hS (lv_sub hl [0, 1] rfl)
          · replace c_4 : w150_2.toInt < 4 := i_nle c_4
            refine lv_aload_n C.1 C.2.1 dX7_printDump_155 rfl (lv_at hl 0 rfl) ?_
            refine k_get (v := .ref (ad 20)) C hP 6 rfl rfl inlX7 2 (by decide) m_6_14 rfl dX7_printDump_156 ?_
            refine lv_bipush (v := 10) C.1 C.2.1 dX7_printDump_159 (by decide) ?_
            refine lv_bipush (v := 15) C.1 C.2.1 dX7_printDump_161 (by decide) ?_
            refine lv_iload_n C.1 C.2.1 dX7_printDump_163 rfl (lv_at hl 2 rfl) ?_
            obtain ⟨v_9, e_10⟩ : ∃ z, z = (15 : Int32) * (w150_2 : Int32) := ⟨_, rfl⟩
            have h_11 : v_9.toInt = 15 * w150_2.toInt := by rw [e_10]; exact ti_mull (k := 15) (by decide) (by omega) (by omega)
            refine k_imul (v := v_9) C e_10.symm dX7_printDump_164 ?_
            obtain ⟨v_12, e_13⟩ : ∃ z, z = (10 : Int32) + (v_9 : Int32) := ⟨_, rfl⟩
            have h_14 : v_12.toInt = 10 + v_9.toInt := by rw [e_13]; exact ti_iadd (by show (_ : Int) ≤ 10 + v_9.toInt; omega) (by show 10 + v_9.toInt < (_ : Int); omega)
            refine k_iadd (v := v_12) C e_13.symm dX7_printDump_165 ?_
            refine lv_bipush (v := 10) C.1 C.2.1 dX7_printDump_166 (by decide) ?_
            refine lv_aload_n C.1 C.2.1 dX7_printDump_168 rfl (lv_at hl 0 rfl) ?_
            refine lv_iload_n C.1 C.2.1 dX7_printDump_169 rfl (lv_at hl 1 rfl) ?_
            refine lv_iload_n C.1 C.2.1 dX7_printDump_170 rfl (lv_at hl 2 rfl) ?_
            obtain ⟨v_15, e_16⟩ : ∃ z, z = (w150_1 : Int32) + (w150_2 : Int32) := ⟨_, rfl⟩
            have h_17 : v_15.toInt = w150_1.toInt + w150_2.toInt := by rw [e_16]; exact ti_iadd (by show (_ : Int) ≤ w150_1.toInt + w150_2.toInt; omega) (by show w150_1.toInt + w150_2.toInt < (_ : Int); omega)
            refine k_iadd (v := v_15) C e_16.symm dX7_printDump_171 ?_
            refine hz_Vi (As := [.int v_15]) (rest := [.int 10, .int v_12, .ref (ad 20)]) C hP hD hS hA (T_X7_wordAt l D K Z Y ad d1 t1 hok (v_15) (show (-1073741824 : Int) ≤ (v_15 : Int32).toInt ∧ (v_15 : Int32).toInt ≤ 2147483647 from ⟨by omega, (i_rng _).2⟩)) hE hZ (uwV m_65_14 m_65_15 m_65_16 m_2_13 m_65_17) (hdV 1 (by decide +kernel) rfl) ⟨Nat.le_of_ble_eq_true rfl, Nat.le_of_ble_eq_true rfl⟩ rfl rfl (ci := 6) (q0 := 6) rfl rfl rfl hl.1 (Nat.le_of_ble_eq_true rfl) dX7_printDump_172 ⟨Nat.le_trans (newC_le _ _) (Nat.le_of_ble_eq_true rfl), (Nat.le_of_ble_eq_true rfl)⟩ (fun r_19 t_18 H locs hw hP hD hS => ?_)
            obtain ⟨h_21, h_22⟩ := hw
            refine hz_Vv (As := [.int v_12, .int 10, .int r_19]) (rest := []) C hP hD hS hA (T_X4_signed l D K Z Y ad d1 t1 hok (v_12) (show (1 : Int) ≤ (v_12 : Int32).toInt ∧ (v_12 : Int32).toInt ≤ 63 from ⟨by omega, by omega⟩) 10 (show (4 : Int) ≤ (10 : Int32).toInt ∧ (10 : Int32).toInt ≤ 10 from ⟨by decide, by decide⟩) (r_19)) hE hZ (uwV m_55_8 m_55_9 m_55_10 m_3_20 m_55_11) (hdV 3 (by decide +kernel) rfl) ⟨Nat.le_of_ble_eq_true rfl, Nat.le_of_ble_eq_true rfl⟩ rfl rfl (ci := 3) (q0 := 20) rfl rfl rfl hl.1 (Nat.le_of_ble_eq_true rfl) dX7_printDump_175 ⟨Nat.le_trans (newC_le _ _) (Nat.le_of_ble_eq_true rfl), (Nat.le_of_ble_eq_true rfl)⟩ (fun t_23 H locs hw hP hD hS => ?_)
            obtain ⟨hok, f_25⟩ := hw
            have hfr : frA [(20, 3)] [] [35, 36, 37] [] t t_23 := frA_tr hfr f_25 rfl
            obtain ⟨v_26, e_27⟩ : ∃ z, z = w150_2 + 1 := ⟨_, rfl⟩
            have h_28 : v_26.toInt = w150_2.toInt + 1 := by rw [e_27]; exact ti_iadd (by show (_ : Int) ≤ w150_2.toInt + 1; omega) (by show w150_2.toInt + 1 < (_ : Int); omega)
            refine lv_iinc (v := v_26) (lv' := [(2, .int v_26), (0, .ref (ad 6)), (1, .int w150_1)]) C.1 C.2.1 dX7_printDump_178 hl (k := 2) rfl e_27.symm (by decide) rfl (fun ls hl => ?_)
            have hl : lv_has ls 3 [(0, .ref (ad 6)), (1, .int w150_1), (2, .int v_26)] := lv_sub hl [1, 2, 0] rfl
            refine lv_goto (tgt := 150) C.1 C.2.1 dX7_printDump_181 (by decide) ?_
            exact ih_150 t_23 d1 w150_1 v_26 _ _ _ hok hfr hod hle hdf ⟨by omega, by omega⟩ ⟨by omega, by omega⟩ (show (4095 : Int) - w150_1.toInt < (fuel_98 : Int) + 1 from by omega) (show (4 : Int) - v_26.toInt < (fuel_150 : Int) from by omega) hP hD hS (lv_sub hl [0, 1, 2] rfl)
      refine lv_iload_n C.1 C.2.1 dX7_printDump_98 rfl (lv_at hl 1 rfl) ?_
      refine lv_sipush (v := 3999) C.1 C.2.1 dX7_printDump_99 (by decide) ?_
      refine lv_icmp_gt (tgt := 200) C.1 C.2.1 dX7_printDump_102 (by decide) (fun c_29 => ?_) (fun c_29 => ?_)
      · replace c_29 : 3999 < w98_1.toInt := i_lt c_29
        exact g_Dvret C hr hlocks hP hD hS ⟨hok, hfr, hod⟩ hle hdf (Nat.le_of_ble_eq_true rfl) (Nat.le_of_ble_eq_true rfl) dX7_printDump_200
      · replace c_29 : w98_1.toInt ≤ 3999 := i_nlt c_29
        refine lv_aload_n C.1 C.2.1 dX7_printDump_105 rfl (lv_at hl 0 rfl) ?_
        refine lv_iload_n C.1 C.2.1 dX7_printDump_106 rfl (lv_at hl 1 rfl) ?_
        refine hz_Vi (As := [.int w98_1]) (rest := []) C hP hD hS hA (T_X7_wordAt l D K Z Y ad d1 t1 hok (w98_1) (show (-1073741824 : Int) ≤ (w98_1 : Int32).toInt ∧ (w98_1 : Int32).toInt ≤ 2147483647 from ⟨by omega, (i_rng _).2⟩)) hE hZ (uwV m_65_14 m_65_15 m_65_16 m_2_13 m_65_17) (hdV 1 (by decide +kernel) rfl) ⟨Nat.le_of_ble_eq_true rfl, Nat.le_of_ble_eq_true rfl⟩ rfl rfl (ci := 6) (q0 := 6) rfl rfl rfl hl.1 (Nat.le_of_ble_eq_true rfl) dX7_printDump_107 ⟨Nat.le_trans (newC_le _ _) (Nat.le_of_ble_eq_true rfl), (Nat.le_of_ble_eq_true rfl)⟩ (fun r_31 t_30 H locs hw hP hD hS => ?_)
        obtain ⟨h_33, h_34⟩ := hw
        refine lv_aload_n C.1 C.2.1 dX7_printDump_110 rfl (lv_at hl 0 rfl) ?_
        refine lv_iload_n C.1 C.2.1 dX7_printDump_111 rfl (lv_at hl 1 rfl) ?_
        refine lv_iconst (v := 1) C.1 C.2.1 dX7_printDump_112 (by decide) ?_
        obtain ⟨v_35, e_36⟩ : ∃ z, z = (w98_1 : Int32) + (1 : Int32) := ⟨_, rfl⟩
        have h_37 : v_35.toInt = w98_1.toInt + 1 := by rw [e_36]; exact ti_iadd (by show (_ : Int) ≤ w98_1.toInt + 1; omega) (by show w98_1.toInt + 1 < (_ : Int); omega)
        refine k_iadd (v := v_35) C e_36.symm dX7_printDump_113 ?_
        refine hz_Vi (As := [.int v_35]) (rest := [.int r_31]) C hP hD hS hA (T_X7_wordAt l D K Z Y ad d1 t1 hok (v_35) (show (-1073741824 : Int) ≤ (v_35 : Int32).toInt ∧ (v_35 : Int32).toInt ≤ 2147483647 from ⟨by omega, (i_rng _).2⟩)) hE hZ (uwV m_65_14 m_65_15 m_65_16 m_2_13 m_65_17) (hdV 1 (by decide +kernel) rfl) ⟨Nat.le_of_ble_eq_true rfl, Nat.le_of_ble_eq_true rfl⟩ rfl rfl (ci := 6) (q0 := 6) rfl rfl rfl hl.1 (Nat.le_of_ble_eq_true rfl) dX7_printDump_114 ⟨Nat.le_trans (newC_le _ _) (Nat.le_of_ble_eq_true rfl), (Nat.le_of_ble_eq_true rfl)⟩ (fun r_39 t_38 H locs hw hP hD hS => ?_)
        obtain ⟨h_41, h_42⟩ := hw
        obtain ⟨v_43, e_44⟩ : ∃ z, z = (r_31 : Int32) ||| (r_39 : Int32) := ⟨_, rfl⟩
        refine k_ior (v := v_43) C e_44.symm dX7_printDump_117 ?_
        refine lv_aload_n C.1 C.2.1 dX7_printDump_118 rfl (lv_at hl 0 rfl) ?_
        refine lv_iload_n C.1 C.2.1 dX7_printDump_119 rfl (lv_at hl 1 rfl) ?_
        refine lv_iconst (v := 2) C.1 C.2.1 dX7_printDump_120 (by decide) ?_
        obtain ⟨v_46, e_47⟩ : ∃ z, z = (w98_1 : Int32) + (2 : Int32) := ⟨_, rfl⟩
        have h_48 : v_46.toInt = w98_1.toInt + 2 := by rw [e_47]; exact ti_iadd (by show (_ : Int) ≤ w98_1.toInt + 2; omega) (by show w98_1.toInt + 2 < (_ : Int); omega)
        refine k_iadd (v := v_46) C e_47.symm dX7_printDump_121 ?_
        refine hz_Vi (As := [.int v_46]) (rest := [.int v_43]) C hP hD hS hA (T_X7_wordAt l D K Z Y ad d1 t1 hok (v_46) (show (-1073741824 : Int) ≤ (v_46 : Int32).toInt ∧ (v_46 : Int32).toInt ≤ 2147483647 from ⟨by omega, (i_rng _).2⟩)) hE hZ (uwV m_65_14 m_65_15 m_65_16 m_2_13 m_65_17) (hdV 1 (by decide +kernel) rfl) ⟨Nat.le_of_ble_eq_true rfl, Nat.le_of_ble_eq_true rfl⟩ rfl rfl (ci := 6) (q0 := 6) rfl rfl rfl hl.1 (Nat.le_of_ble_eq_true rfl) dX7_printDump_122 ⟨Nat.le_trans (newC_le _ _) (Nat.le_of_ble_eq_true rfl), (Nat.le_of_ble_eq_true rfl)⟩ (fun r_50 t_49 H locs hw hP hD hS => ?_)
        obtain ⟨h_52, h_53⟩ := hw
        obtain ⟨v_54, e_55⟩ : ∃ z, z = (v_43 : Int32) ||| (r_50 : Int32) := ⟨_, rfl⟩
        refine k_ior (v := v_54) C e_55.symm dX7_printDump_125 ?_
        refine lv_aload_n C.1 C.2.1 dX7_printDump_126 rfl (lv_at hl 0 rfl) ?_
        refine lv_iload_n C.1 C.2.1 dX7_printDump_127 rfl (lv_at hl 1 rfl) ?_
        refine lv_iconst (v := 3) C.1 C.2.1 dX7_printDump_128 (by decide) ?_
        obtain ⟨v_57, e_58⟩ : ∃ z, z = (w98_1 : Int32) + (3 : Int32) := ⟨_, rfl⟩
        have h_59 : v_57.toInt = w98_1.toInt + 3 := by rw [e_58]; exact ti_iadd (by show (_ : Int) ≤ w98_1.toInt + 3; omega) (by show w98_1.toInt + 3 < (_ : Int); omega)
        refine k_iadd (v := v_57) C e_58.symm dX7_printDump_129 ?_
        refine hz_Vi (As := [.int v_57]) (rest := [.int v_54]) C hP hD hS hA (T_X7_wordAt l D K Z Y ad d1 t1 hok (v_57) (show (-1073741824 : Int) ≤ (v_57 : Int32).toInt ∧ (v_57 : Int32).toInt ≤ 2147483647 from ⟨by omega, (i_rng _).2⟩)) hE hZ (uwV m_65_14 m_65_15 m_65_16 m_2_13 m_65_17) (hdV 1 (by decide +kernel) rfl) ⟨Nat.le_of_ble_eq_true rfl, Nat.le_of_ble_eq_true rfl⟩ rfl rfl (ci := 6) (q0 := 6) rfl rfl rfl hl.1 (Nat.le_of_ble_eq_true rfl) dX7_printDump_130 ⟨Nat.le_trans (newC_le _ _) (Nat.le_of_ble_eq_true rfl), (Nat.le_of_ble_eq_true rfl)⟩ (fun r_61 t_60 H locs hw hP hD hS => ?_)
        obtain ⟨h_63, h_64⟩ := hw
        obtain ⟨v_65, e_66⟩ : ∃ z, z = (v_54 : Int32) ||| (r_61 : Int32) := ⟨_, rfl⟩
        refine k_ior (v := v_65) C e_66.symm dX7_printDump_133 ?_
        refine lv_if_eq (tgt := 194) C.1 C.2.1 dX7_printDump_134 (by decide) (fun c_68 => ?_) (fun c_68 => ?_)
        · replace c_68 : v_65.toInt = 0 := i_eq c_68
          exact L_194 t1 d1 w98_1 _ _ _ hok hfr hod hle hdf ⟨by omega, by omega⟩ (show (4095 : Int) - w98_1.toInt < (fuel_98 : Int) + 1 from by omega) hP hD hS (lv_sub hl [0, 1] rfl)
        · replace c_68 : ¬ v_65.toInt = 0 := i_ne c_68
          refine lv_aload_n C.1 C.2.1 dX7_printDump_137 rfl (lv_at hl 0 rfl) ?_
          refine k_get (v := .ref (ad 20)) C hP 6 rfl rfl inlX7 2 (by decide) m_6_14 rfl dX7_printDump_138 ?_
          refine lv_iconst (v := 2) C.1 C.2.1 dX7_printDump_141 (by decide) ?_
          refine lv_iconst (v := 4) C.1 C.2.1 dX7_printDump_142 (by decide) ?_
          refine lv_iload_n C.1 C.2.1 dX7_printDump_143 rfl (lv_at hl 1 rfl) ?_
          obtain ⟨v_69, e_70⟩ : ∃ z, z = (w98_1 : Int32).toInt64 := ⟨_, rfl⟩
          have h_71 : v_69.toInt = w98_1.toInt := by rw [e_70]; exact Jvm.Kit.i64_of_i32 _
          refine lv_i2l (v := v_69) C.1 C.2.1 dX7_printDump_144 e_70.symm ?_
          have h_72 : (4 : Int32).toInt = 4 := rfl
          refine hz_Vv (As := [.int 2, .int 4, .long v_69]) (rest := []) C hP hD hS hA (T_X4_digits l D K Z Y ad d1 t1 hok 2 (show (0 : Int) ≤ (2 : Int32).toInt ∧ (2 : Int32).toInt ≤ 200 from ⟨by decide, by decide⟩) 4 (show (1 : Int) ≤ (4 : Int32).toInt ∧ (4 : Int32).toInt ≤ 10 from ⟨by decide, by decide⟩) (v_69) (show 0 ≤ (4 : Int32).toInt from by omega)) hE hZ (uwV m_40_18 m_40_19 m_40_20 m_3_20 m_40_21) (hdV 3 (by decide +kernel) rfl) ⟨Nat.le_of_ble_eq_true rfl, Nat.le_of_ble_eq_true rfl⟩ rfl rfl (ci := 3) (q0 := 20) rfl rfl rfl hl.1 (Nat.le_of_ble_eq_true rfl) dX7_printDump_145 ⟨Nat.le_trans (newC_le _ _) (Nat.le_of_ble_eq_true rfl), (Nat.le_of_ble_eq_true rfl)⟩ (fun t_73 H locs hw hP hD hS => ?_)
          obtain ⟨hok, f_75⟩ := hw
          have hfr : frA [(20, 3)] [] [35, 36, 37] [] t t_73 := frA_tr hfr f_75 rfl
          refine lv_iconst (v := 0) C.1 C.2.1 dX7_printDump_148 (by decide) ?_
          refine lv_istore_n (lv' := [(2, .int 0), (0, .ref (ad 6)), (1, .int w98_1)]) C.1 C.2.1 dX7_printDump_149 rfl hl (by decide) rfl (fun ls hl => ?_)
          have hl : lv_has ls 3 [(0, .ref (ad 6)), (1, .int w98_1), (2, .int 0)] := lv_sub hl [1, 2, 0] rfl
          exact L_150 5 t_73 d1 w98_1 0 _ _ _ hok hfr hod hle hdf ⟨by omega, by omega⟩ ⟨by decide, by decide⟩ (show (4095 : Int) - w98_1.toInt < (fuel_98 : Int) + 1 from by omega) (show (4 : Int) - 0 < ((5 : Nat) : Int) from by omega) hP hD hS (lv_sub hl [0, 1, 2] rfl)
  have L_2 : ∀ (fuel_2 : Nat) (t1 : tSt) (d1 : dSt) (w2_1 : Int32) (H : Heap) (locs : List Loc) (ls : Array Slot), okX t1 → frA [(20, 3)] [] [35, 36, 37] [] t t1 → okD d1 → dLe d d1 → dFr s.heap.size d d1 → (0 : Int) ≤ w2_1.toInt ∧ w2_1.toInt ≤ 8 → (8 : Int) - w2_1.toInt < (fuel_2 : Int) → va_P D vwCl ((WX d1) K ad t1) H → va_D A ((WX d1) K ad t1) → va_S A s.heap H locs → lv_has ls 3 [(0, .ref (ad 6)), (1, .int w2_1)] → W p l e (rmD 3 4000 1120000) s m [.ref (ad 6)].toArray below meth c H locs (newC d d1) 246800 (MQ below (QDV D K ad d (fun (u : tSt) (dd : dSt) => okX u ∧ frA [(20, 3)] [] [35, 36, 37] [] t u ∧ okD dd) s.heap.size A) [.ref (ad 6)].toArray s 4000 1120000 A) (F0 m 2 ls []) := by
    intro fuel_2
    induction fuel_2 with
    | zero =>
      intro t1 d1 w2_1 H locs ls hok hfr hod hle hdf hw2_1 hm2_2 hP hD hS hl
      exact absurd hm2_2 (by omega)
    | succ fuel_2 ih_2 =>
      intro t1 d1 w2_1 H locs ls hok hfr hod hle hdf hw2_1 hm2_2 hP hD hS hl
      have hm2_2 : (8 : Int) - w2_1.toInt < (fuel_2 : Int) + 1 := by omega
      have L_60 : ∀ (t1 : tSt) (d1 : dSt) (w60_1 : Int32) (H : Heap) (locs : List Loc) (ls : Array Slot), okX t1 → frA [(20, 3)] [] [35, 36, 37] [] t t1 → okD d1 → dLe d d1 → dFr s.heap.size d d1 → (0 : Int) ≤ w60_1.toInt ∧ w60_1.toInt ≤ 7 → (8 : Int) - w60_1.toInt < (fuel_2 : Int) + 1 → va_P D vwCl ((WX d1) K ad t1) H → va_D A ((WX d1) K ad t1) → va_S A s.heap H locs → lv_has ls 3 [(0, .ref (ad 6)), (1, .int w60_1)] → W p l e (rmD 3 4000 1120000) s m [.ref (ad 6)].toArray below meth c H locs (newC d d1) 246800 (MQ below (QDV D K ad d (fun (u : tSt) (dd : dSt) => okX u ∧ frA [(20, 3)] [] [35, 36, 37] [] t u ∧ okD dd) s.heap.size A) [.ref (ad 6)].toArray s 4000 1120000 A) (F0 m 60 ls []) := by
        intro t1 d1 w60_1 H locs ls hok hfr hod hle hdf hw60_1 hm60_2 hP hD hS hl
        refine lv_aload_n C.1 C.2.1 dX7_printDump_60 rfl (lv_at hl 0 rfl) ?_
        refine k_get (v := .ref (ad 20)) C hP 6 rfl rfl inlX7 2 (by decide) m_6_14 rfl dX7_printDump_61 ?_
        refine lv_bipush (v := 10) C.1 C.2.1 dX7_printDump_64 (by decide) ?_
        refine lv_bipush (v := 10) C.1 C.2.1 dX7_printDump_66 (by decide) ?_
        refine lv_aload_n C.1 C.2.1 dX7_printDump_68 rfl (lv_at hl 0 rfl) ?_
        refine k_get (v := .ref (ad 4)) C hP 6 rfl rfl inlX7 0 (by decide) m_6_11 rfl dX7_printDump_69 ?_
        refine k_get (v := .ref (ad 22)) C hP 4 rfl rfl inlX2 1 (by decide) m_55_3 rfl dX7_printDump_72 ?_
        refine lv_iload_n C.1 C.2.1 dX7_printDump_75 rfl (lv_at hl 1 rfl) ?_
        obtain ⟨v_76, e_77⟩ : ∃ z, z = (t1.2.2.1 22 (w60_1 : Int32).toNatClampNeg) := ⟨_, rfl⟩
        refine k_ild (v := v_76) C hP 22 rfl (vp_in_iff.mpr ⟨by omega, by omega⟩) e_77.symm dX7_printDump_76 ?_
        refine hz_Vv (As := [.int 10, .int 10, .int v_76]) (rest := []) C hP hD hS hA (T_X4_signed l D K Z Y ad d1 t1 hok 10 (show (1 : Int) ≤ (10 : Int32).toInt ∧ (10 : Int32).toInt ≤ 63 from ⟨by decide, by decide⟩) 10 (show (4 : Int) ≤ (10 : Int32).toInt ∧ (10 : Int32).toInt ≤ 10 from ⟨by decide, by decide⟩) (v_76)) hE hZ (uwV m_55_8 m_55_9 m_55_10 m_3_20 m_55_11) (hdV 3 (by decide +kernel) rfl) ⟨Nat.le_of_ble_eq_true rfl, Nat.le_of_ble_eq_true rfl⟩ rfl rfl (ci := 3) (q0 := 20) rfl rfl rfl hl.1 (Nat.le_of_ble_eq_true rfl) dX7_printDump_77 ⟨Nat.le_trans (newC_le _ _) (Nat.le_of_ble_eq_true rfl), (Nat.le_of_ble_eq_true rfl)⟩ (fun t_78 H locs hw hP hD hS => ?_)
        obtain ⟨hok, f_80⟩ := hw
        have hfr : frA [(20, 3)] [] [35, 36, 37] [] t t_78 := frA_tr hfr f_80 rfl
        refine lv_aload_n C.1 C.2.1 dX7_printDump_80 rfl (lv_at hl 0 rfl) ?_
        refine k_get (v := .ref (ad 20)) C hP 6 rfl rfl inlX7 2 (by decide) m_6_14 rfl dX7_printDump_81 ?_
        refine lv_bipush (v := 120) C.1 C.2.1 dX7_printDump_84 (by decide) ?_
        refine lv_iconst (v := 0) C.1 C.2.1 dX7_printDump_86 (by decide) ?_
        refine g_DVv (As := [.int 120, .int 0]) (rest := []) C hP hD hS hA (T_X4_finish l D K Z Y ad d1 t_78 hok hod 120 (show (72 : Int) ≤ (120 : Int32).toInt ∧ (120 : Int32).toInt ≤ 120 from ⟨by decide, by decide⟩) 0 (show (0 : Int) ≤ (0 : Int32).toInt ∧ (0 : Int32).toInt ≤ 1 from ⟨by decide, by decide⟩)) hE hZ hX hle hdf (uwV m_41_7 m_41_8 m_41_9 m_3_20 m_41_10) (hdV 2 (by decide +kernel) rfl) ⟨Nat.le_of_ble_eq_true rfl, Nat.le_of_ble_eq_true rfl⟩ rfl rfl (ci := 3) (q0 := 20) rfl rfl rfl hl.1 (Nat.le_of_ble_eq_true rfl) dX7_printDump_87 ⟨Nat.le_of_ble_eq_true rfl, Nat.le_of_ble_eq_true rfl⟩ (fun t_81 d_83 H locs hw hP hD hS hln hle hdf => ?_)
        obtain ⟨hok, f_84, hod⟩ := hw
        have hfr : frA [(20, 3)] [] [35, 36, 37] [] t t_81 := frA_tr hfr f_84 rfl
        obtain ⟨v_85, e_86⟩ : ∃ z, z = w60_1 + 1 := ⟨_, rfl⟩
        have h_87 : v_85.toInt = w60_1.toInt + 1 := by rw [e_86]; exact ti_iadd (by show (_ : Int) ≤ w60_1.toInt + 1; omega) (by show w60_1.toInt + 1 < (_ : Int); omega)
        refine lv_iinc (v := v_85) (lv' := [(1, .int v_85), (0, .ref (ad 6))]) C.1 C.2.1 dX7_printDump_90 hl (k := 1) rfl e_86.symm (by decide) rfl (fun ls hl => ?_)
        have hl : lv_has ls 3 [(0, .ref (ad 6)), (1, .int v_85)] := lv_sub hl [1, 0] rfl
        refine lv_goto (tgt := 2) C.1 C.2.1 dX7_printDump_93 (by decide) ?_
        exact ih_2 t_81 d_83 v_85 _ _ _ hok hfr hod hle hdf ⟨by omega, by omega⟩ (show (8 : Int) - v_85.toInt < (fuel_2 : Int) from by omega) hP hD hS (lv_sub hl [0, 1] rfl)
      have L_35 : ∀ (t1 : tSt) (d1 : dSt) (w35_1 : Int32) (k35_1 : Int32) (k35_2 : Int32) (H : Heap) (locs : List Loc) (ls : Array Slot), okX t1 → frA [(20, 3)] [] [35, 36, 37] [] t t1 → okD d1 → dLe d d1 → dFr s.heap.size d d1 → (0 : Int) ≤ w35_1.toInt ∧ w35_1.toInt ≤ 7 → (1 : Int) ≤ k35_1.toInt ∧ k35_1.toInt ≤ 1 → (65 : Int) ≤ k35_2.toInt ∧ k35_2.toInt ≤ 88 → (8 : Int) - w35_1.toInt < (fuel_2 : Int) + 1 → va_P D vwCl ((WX d1) K ad t1) H → va_D A ((WX d1) K ad t1) → va_S A s.heap H locs → lv_has ls 3 [(0, .ref (ad 6)), (1, .int w35_1)] → W p l e (rmD 3 4000 1120000) s m [.ref (ad 6)].toArray below meth c H locs (newC d d1) 246800 (MQ below (QDV D K ad d (fun (u : tSt) (dd : dSt) => okX u ∧ frA [(20, 3)] [] [35, 36, 37] [] t u ∧ okD dd) s.heap.size A) [.ref (ad 6)].toArray s 4000 1120000 A) (F0 m 35 ls [.int k35_2, .int k35_1, .ref (ad 20)]) := by
        intro t1 d1 w35_1 k35_1 k35_2 H locs ls hok hfr hod hle hdf hw35_1 hk35_1 hk35_2 hm35_2 hP hD hS hl
        refine hz_Vv (As := [.int k35_1, .int k35_2]) (rest := []) C hP hD hS hA (T_X4_mark l D K Z Y ad d1 t1 hok (k35_1) (k35_2) (show (-128 : Int) ≤ (k35_2 : Int32).toInt ∧ (k35_2 : Int32).toInt ≤ 255 from ⟨by omega, by omega⟩)) hE hZ (uwV m_56_4 m_41_0 m_41_1 m_3_20 m_41_2) (hdV 2 (by decide +kernel) rfl) ⟨Nat.le_of_ble_eq_true rfl, Nat.le_of_ble_eq_true rfl⟩ rfl rfl (ci := 3) (q0 := 20) rfl rfl rfl hl.1 (Nat.le_of_ble_eq_true rfl) dX7_printDump_35 ⟨Nat.le_trans (newC_le _ _) (Nat.le_of_ble_eq_true rfl), (Nat.le_of_ble_eq_true rfl)⟩ (fun t_88 H locs hw hP hD hS => ?_)
        obtain ⟨hok, f_90⟩ := hw
        have hfr : frA [(20, 3)] [] [35, 36, 37] [] t t_88 := frA_tr hfr f_90 rfl
        refine lv_iload_n C.1 C.2.1 dX7_printDump_38 rfl (lv_at hl 1 rfl) ?_
        refine lv_iconst (v := 1) C.1 C.2.1 dX7_printDump_39 (by decide) ?_
        refine lv_icmp_lt (tgt := 60) C.1 C.2.1 dX7_printDump_40 (by decide) (fun c_91 => ?_) (fun c_91 => ?_)
        · replace c_91 : w35_1.toInt < 1 := i_lt c_91
          exact L_60 t_88 d1 w35_1 _ _ _ hok hfr hod hle hdf ⟨by omega, by omega⟩ (show (8 : Int) - w35_1.toInt < (fuel_2 : Int) + 1 from by omega) hP hD hS (lv_sub hl [0, 1] rfl)
        · replace c_91 : 1 ≤ w35_1.toInt := i_nlt c_91
          refine lv_iload_n C.1 C.2.1 dX7_printDump_43 rfl (lv_at hl 1 rfl) ?_
          refine lv_bipush (v := 6) C.1 C.2.1 dX7_printDump_44 (by decide) ?_
          refine lv_icmp_gt (tgt := 60) C.1 C.2.1 dX7_printDump_46 (by decide) (fun c_92 => ?_) (fun c_92 => ?_)
          · replace c_92 : 6 < w35_1.toInt := i_lt c_92
            exact L_60 t_88 d1 w35_1 _ _ _ hok hfr hod hle hdf ⟨by omega, by omega⟩ (show (8 : Int) - w35_1.toInt < (fuel_2 : Int) + 1 from by omega) hP hD hS (lv_sub hl [0, 1] rfl)
          · replace c_92 : w35_1.toInt ≤ 6 := i_nlt c_92
            refine lv_aload_n C.1 C.2.1 dX7_printDump_49 rfl (lv_at hl 0 rfl) ?_
            refine k_get (v := .ref (ad 20)) C hP 6 rfl rfl inlX7 2 (by decide) m_6_14 rfl dX7_printDump_50 ?_
            refine lv_iconst (v := 2) C.1 C.2.1 dX7_printDump_53 (by decide) ?_
            refine lv_iconst (v := 1) C.1 C.2.1 dX7_printDump_54 (by decide) ?_
            refine lv_iload_n C.1 C.2.1 dX7_printDump_55 rfl (lv_at hl 1 rfl) ?_
            obtain ⟨v_93, e_94⟩ : ∃ z, z = (w35_1 : Int32).toInt64 := ⟨_, rfl⟩
            have h_95 : v_93.toInt = w35_1.toInt := by rw [e_94]; exact Jvm.Kit.i64_of_i32 _
            refine lv_i2l (v := v_93) C.1 C.2.1 dX7_printDump_56 e_94.symm ?_
            have h_96 : (1 : Int32).toInt = 1 := rfl
            refine hz_Vv (As := [.int 2, .int 1, .long v_93]) (rest := []) C hP hD hS hA (T_X4_digits l D K Z Y ad d1 t_88 hok 2 (show (0 : Int) ≤ (2 : Int32).toInt ∧ (2 : Int32).toInt ≤ 200 from ⟨by decide, by decide⟩) 1 (show (1 : Int) ≤ (1 : Int32).toInt ∧ (1 : Int32).toInt ≤ 10 from ⟨by decide, by decide⟩) (v_93) (show 0 ≤ (1 : Int32).toInt from by omega)) hE hZ (uwV m_40_18 m_40_19 m_40_20 m_3_20 m_40_21) (hdV 3 (by decide +kernel) rfl) ⟨Nat.le_of_ble_eq_true rfl, Nat.le_of_ble_eq_true rfl⟩ rfl rfl (ci := 3) (q0 := 20) rfl rfl rfl hl.1 (Nat.le_of_ble_eq_true rfl) dX7_printDump_57 ⟨Nat.le_trans (newC_le _ _) (Nat.le_of_ble_eq_true rfl), (Nat.le_of_ble_eq_true rfl)⟩ (fun t_97 H locs hw hP hD hS => ?_)
            obtain ⟨hok, f_99⟩ := hw
            have hfr : frA [(20, 3)] [] [35, 36, 37] [] t t_97 := frA_tr hfr f_99 rfl
            exact L_60 t_97 d1 w35_1 _ _ _ hok hfr hod hle hdf ⟨by omega, by omega⟩ (show (8 : Int) - w35_1.toInt < (fuel_2 : Int) + 1 from by omega) hP hD hS (lv_sub hl [0, 1] rfl)
      refine lv_iload_n C.1 C.2.1 dX7_printDump_2 rfl (lv_at hl 1 rfl) ?_
      refine lv_bipush (v := 7) C.1 C.2.1 dX7_printDump_3 (by decide) ?_
      refine lv_icmp_gt (tgt := 96) C.1 C.2.1 dX7_printDump_5 (by decide) (fun c_100 => ?_) (fun c_100 => ?_)
      · replace c_100 : 7 < w2_1.toInt := i_lt c_100
        refine lv_iconst (v := 0) C.1 C.2.1 dX7_printDump_96 (by decide) ?_
        refine lv_istore_n (lv' := [(1, .int 0), (0, .ref (ad 6))]) C.1 C.2.1 dX7_printDump_97 rfl hl (by decide) rfl (fun ls hl => ?_)
        have hl : lv_has ls 3 [(0, .ref (ad 6)), (1, .int 0)] := lv_sub hl [1, 0] rfl
        exact L_98 4096 t1 d1 0 _ _ _ hok hfr hod hle hdf ⟨by decide, by decide⟩ (show (4095 : Int) - 0 < ((4096 : Nat) : Int) from by omega) hP hD hS (lv_sub hl [0, 1] rfl)
      · replace c_100 : w2_1.toInt ≤ 7 := i_nlt c_100
        refine lv_aload_n C.1 C.2.1 dX7_printDump_8 rfl (lv_at hl 0 rfl) ?_
        refine k_get (v := .ref (ad 20)) C hP 6 rfl rfl inlX7 2 (by decide) m_6_14 rfl dX7_printDump_9 ?_
        refine lv_iconst (v := 1) C.1 C.2.1 dX7_printDump_12 (by decide) ?_
        refine lv_iload_n C.1 C.2.1 dX7_printDump_13 rfl (lv_at hl 1 rfl) ?_
        refine lv_if_ne (tgt := 22) C.1 C.2.1 dX7_printDump_14 (by decide) (fun c_101 => ?_) (fun c_101 => ?_)
        · replace c_101 : ¬ w2_1.toInt = 0 := i_ne c_101
          refine lv_iload_n C.1 C.2.1 dX7_printDump_22 rfl (lv_at hl 1 rfl) ?_
          refine lv_bipush (v := 7) C.1 C.2.1 dX7_printDump_23 (by decide) ?_
          refine lv_icmp_ne (tgt := 33) C.1 C.2.1 dX7_printDump_25 (by decide) (fun c_102 => ?_) (fun c_102 => ?_)
          · replace c_102 : ¬ w2_1.toInt = 7 := i_ne c_102
            refine lv_bipush (v := 73) C.1 C.2.1 dX7_printDump_33 (by decide) ?_
            exact L_35 t1 d1 w2_1 1 73 _ _ _ hok hfr hod hle hdf ⟨by omega, by omega⟩ ⟨by decide, by decide⟩ ⟨by decide, by decide⟩ (show (8 : Int) - w2_1.toInt < (fuel_2 : Int) + 1 from by omega) hP hD hS (lv_sub hl [0, 1] rfl)
          · replace c_102 : w2_1.toInt = 7 := i_eq c_102
            refine lv_bipush (v := 88) C.1 C.2.1 dX7_printDump_28 (by decide) ?_
            refine lv_goto (tgt := 35) C.1 C.2.1 dX7_printDump_30 (by decide) ?_
            exact L_35 t1 d1 w2_1 1 88 _ _ _ hok hfr hod hle hdf ⟨by omega, by omega⟩ ⟨by decide, by decide⟩ ⟨by decide, by decide⟩ (show (8 : Int) - w2_1.toInt < (fuel_2 : Int) + 1 from by omega) hP hD hS (lv_sub hl [0, 1] rfl)
        · replace c_101 : w2_1.toInt = 0 := i_eq c_101
          refine lv_bipush (v := 65) C.1 C.2.1 dX7_printDump_17 (by decide) ?_
          refine lv_goto (tgt := 35) C.1 C.2.1 dX7_printDump_19 (by decide) ?_
          exact L_35 t1 d1 w2_1 1 65 _ _ _ hok hfr hod hle hdf ⟨by omega, by omega⟩ ⟨by decide, by decide⟩ ⟨by decide, by decide⟩ (show (8 : Int) - w2_1.toInt < (fuel_2 : Int) + 1 from by omega) hP hD hS (lv_sub hl [0, 1] rfl)
  refine lv_iconst (v := 0) C.1 C.2.1 dX7_printDump_0 (by decide) ?_
  refine lv_istore_n (lv' := [(1, .int 0), (0, .ref (ad 6))]) C.1 C.2.1 dX7_printDump_1 rfl hl (by decide) rfl (fun ls hl => ?_)
  have hl : lv_has ls 3 [(0, .ref (ad 6)), (1, .int 0)] := lv_sub hl [1, 0] rfl
  exact L_2 9 t d 0 _ _ _ hok hfr hod hle hdf ⟨by decide, by decide⟩ (show (8 : Int) - 0 < ((9 : Nat) : Int) from by omega) hP hD hS (lv_sub hl [0, 1] rfl)

theorem dX11_cards_0 : decode cX11_cards 0 = .ok (.aload_n 0, 1) := by decide +kernel
theorem dX11_cards_1 : decode cX11_cards 1 = .ok (.invokevirtual 78, 3) := by decide +kernel
theorem dX11_cards_101 : decode cX11_cards 101 = .ok (.iinc 4 1, 3) := by decide +kernel
theorem dX11_cards_104 : decode cX11_cards 104 = .ok (.goto (-29), 3) := by decide +kernel
theorem dX11_cards_107 : decode cX11_cards 107 = .ok (.iload_n 3, 1) := by decide +kernel
theorem dX11_cards_108 : decode cX11_cards 108 = .ok (.ireturn, 1) := by decide +kernel
theorem dX11_cards_12 : decode cX11_cards 12 = .ok (.astore_n 2, 1) := by decide +kernel
theorem dX11_cards_13 : decode cX11_cards 13 = .ok (.aload_n 0, 1) := by decide +kernel
theorem dX11_cards_14 : decode cX11_cards 14 = .ok (.getfield 40, 3) := by decide +kernel
theorem dX11_cards_17 : decode cX11_cards 17 = .ok (.getfield 127, 3) := by decide +kernel
theorem dX11_cards_20 : decode cX11_cards 20 = .ok (.getfield 131, 3) := by decide +kernel
theorem dX11_cards_23 : decode cX11_cards 23 = .ok (.istore_n 3, 1) := by decide +kernel
theorem dX11_cards_24 : decode cX11_cards 24 = .ok (.aload_n 2, 1) := by decide +kernel
theorem dX11_cards_25 : decode cX11_cards 25 = .ok (.iconst 0, 1) := by decide +kernel
theorem dX11_cards_26 : decode cX11_cards 26 = .ok (.iload_n 1, 1) := by decide +kernel
theorem dX11_cards_27 : decode cX11_cards 27 = .ok (.invokevirtual 136, 3) := by decide +kernel
theorem dX11_cards_30 : decode cX11_cards 30 = .ok (.iconst 0, 1) := by decide +kernel
theorem dX11_cards_31 : decode cX11_cards 31 = .ok (.istore 4, 2) := by decide +kernel
theorem dX11_cards_33 : decode cX11_cards 33 = .ok (.iload 4, 2) := by decide +kernel
theorem dX11_cards_35 : decode cX11_cards 35 = .ok (.sipush 8192, 3) := by decide +kernel
theorem dX11_cards_38 : decode cX11_cards 38 = .ok (.if_icmp .ge 19, 3) := by decide +kernel
theorem dX11_cards_4 : decode cX11_cards 4 = .ok (.istore_n 1, 1) := by decide +kernel
theorem dX11_cards_41 : decode cX11_cards 41 = .ok (.aload_n 2, 1) := by decide +kernel
theorem dX11_cards_42 : decode cX11_cards 42 = .ok (.invokevirtual 139, 3) := by decide +kernel
theorem dX11_cards_45 : decode cX11_cards 45 = .ok (.ifCond .eq 12, 3) := by decide +kernel
theorem dX11_cards_48 : decode cX11_cards 48 = .ok (.iinc 3 1, 3) := by decide +kernel
theorem dX11_cards_5 : decode cX11_cards 5 = .ok (.aload_n 0, 1) := by decide +kernel
theorem dX11_cards_51 : decode cX11_cards 51 = .ok (.iinc 4 1, 3) := by decide +kernel
theorem dX11_cards_54 : decode cX11_cards 54 = .ok (.goto (-21), 3) := by decide +kernel
theorem dX11_cards_57 : decode cX11_cards 57 = .ok (.iload_n 3, 1) := by decide +kernel
theorem dX11_cards_58 : decode cX11_cards 58 = .ok (.sipush 400, 3) := by decide +kernel
theorem dX11_cards_6 : decode cX11_cards 6 = .ok (.getfield 66, 3) := by decide +kernel
theorem dX11_cards_61 : decode cX11_cards 61 = .ok (.if_icmp .le 5, 3) := by decide +kernel
theorem dX11_cards_64 : decode cX11_cards 64 = .ok (.iconst (-1), 1) := by decide +kernel
theorem dX11_cards_65 : decode cX11_cards 65 = .ok (.ireturn, 1) := by decide +kernel
theorem dX11_cards_66 : decode cX11_cards 66 = .ok (.aload_n 2, 1) := by decide +kernel
theorem dX11_cards_67 : decode cX11_cards 67 = .ok (.iconst 0, 1) := by decide +kernel
theorem dX11_cards_68 : decode cX11_cards 68 = .ok (.iload_n 1, 1) := by decide +kernel
theorem dX11_cards_69 : decode cX11_cards 69 = .ok (.invokevirtual 136, 3) := by decide +kernel
theorem dX11_cards_72 : decode cX11_cards 72 = .ok (.iconst 0, 1) := by decide +kernel
theorem dX11_cards_73 : decode cX11_cards 73 = .ok (.istore 4, 2) := by decide +kernel
theorem dX11_cards_75 : decode cX11_cards 75 = .ok (.iload 4, 2) := by decide +kernel
theorem dX11_cards_77 : decode cX11_cards 77 = .ok (.sipush 8192, 3) := by decide +kernel
theorem dX11_cards_80 : decode cX11_cards 80 = .ok (.if_icmp .ge 27, 3) := by decide +kernel
theorem dX11_cards_83 : decode cX11_cards 83 = .ok (.aload_n 2, 1) := by decide +kernel
theorem dX11_cards_84 : decode cX11_cards 84 = .ok (.invokevirtual 139, 3) := by decide +kernel
theorem dX11_cards_87 : decode cX11_cards 87 = .ok (.ifCond .eq 20, 3) := by decide +kernel
theorem dX11_cards_9 : decode cX11_cards 9 = .ok (.getfield 124, 3) := by decide +kernel
theorem dX11_cards_90 : decode cX11_cards 90 = .ok (.aload_n 0, 1) := by decide +kernel
theorem dX11_cards_91 : decode cX11_cards 91 = .ok (.getfield 40, 3) := by decide +kernel
theorem dX11_cards_94 : decode cX11_cards 94 = .ok (.getfield 127, 3) := by decide +kernel
theorem dX11_cards_97 : decode cX11_cards 97 = .ok (.aload_n 2, 1) := by decide +kernel
theorem dX11_cards_98 : decode cX11_cards 98 = .ok (.invokevirtual 143, 3) := by decide +kernel
set_option maxHeartbeats 4000000 in
set_option maxRecDepth 100000 in
theorem T_X11_cards (l : Launch) (D : va_G) (K : Nat → ClassId) (Z Y : Nat → Nat) (ad : Nat → Nat) (d : dSt) (t : tSt) (hok : okX t) (hod : okD d) (hs0 : (t.1 18 2).toInt + (t.1 0 1).toInt ≤ 2680) : dMet l yX11_cards cX11_cards 5 (some .int) (rmD 7 8000 2240000) D K Z Y [.ref (ad 0)] ((WX d) K ad t) (QDI D K ad d (fun (r : Int32) (u : tSt) (dd : dSt) => okX u ∧ frA [(0, 1), (18, 2), (18, 3), (29, 2), (29, 3), (29, 4), (29, 5), (29, 6), (29, 7)] [] [51] [] t u ∧ okD dd ∧ (-2147483648 : Int) ≤ r.toInt ∧ r.toInt ≤ 400 ∧ ((u.1 18 2).toInt ≤ (t.1 18 2).toInt + (t.1 0 1).toInt + 1) ∧ ((u.1 0 1).toInt = 0))) 8000 2240000 := by
  refine d_met d RX11 ⟨rfl, by decide +kernel⟩ (Nat.le_of_ble_eq_true rfl) ?_
  intro p e s m below meth c A ls C hE hZ hX hr hlocks hA hP hD hS hl
  have hl : lv_has ls 5 [(0, .ref (ad 0))] := hl
  have hle : dLe d d := dLe_rf
  have hdf : dFr s.heap.size d d := dFr_rf
  have hokt := hok
  have hfr : frA [(0, 1), (18, 2), (18, 3), (29, 2), (29, 3), (29, 4), (29, 5), (29, 6), (29, 7)] [] [51] [] t t := frA_rf
  have h_1 : (0 : Int) ≤ (t.1 0 1).toInt ∧ (t.1 0 1).toInt ≤ 1280 := hok.1 0 1
  have h_2 : (0 : Int) ≤ (t.1 18 2).toInt ∧ (t.1 18 2).toInt ≤ 2700 := hok.1 18 2
  have h_3 : (0 : Int) ≤ (t.1 29 2).toInt ∧ (t.1 29 2).toInt ≤ 1280 := hok.1 29 2
  have h_4 : (0 : Int) ≤ (t.1 29 3).toInt ∧ (t.1 29 3).toInt ≤ 80 := hok.1 29 3
  have h_5 : (0 : Int) ≤ (t.1 29 4).toInt ∧ (t.1 29 4).toInt ≤ 1281 := hok.1 29 4
  have h_6 : (0 : Int) ≤ (t.1 29 7).toInt ∧ (t.1 29 7).toInt ≤ 1280 := hok.1 29 7
  have L_75 : ∀ (fuel_75 : Nat) (t1 : tSt) (d1 : dSt) (w75_1 : Int32) (w75_3 : Int32) (w75_4 : Int32) (H : Heap) (locs : List Loc) (ls : Array Slot), okX t1 → frA [(0, 1), (18, 2), (18, 3), (29, 2), (29, 3), (29, 4), (29, 5), (29, 6), (29, 7)] [] [51] [] t t1 → okD d1 → dLe d d1 → dFr s.heap.size d d1 → (0 : Int) ≤ w75_1.toInt ∧ w75_1.toInt ≤ 3999 → (-2147483648 : Int) ≤ w75_3.toInt ∧ w75_3.toInt ≤ 400 → (0 : Int) ≤ w75_4.toInt ∧ w75_4.toInt ≤ 8192 → ((t1.1 0 1).toInt = 0) → ((t1.1 18 2).toInt ≤ (t.1 18 2).toInt + (t1.1 29 4).toInt) → ((t1.1 29 7).toInt = (t.1 0 1).toInt) → ((t1.1 29 4).toInt ≤ (t.1 0 1).toInt + 1) → (8192 : Int) - w75_4.toInt < (fuel_75 : Int) → va_P D vwCl ((WX d1) K ad t1) H → va_D A ((WX d1) K ad t1) → va_S A s.heap H locs → lv_has ls 5 [(0, .ref (ad 0)), (1, .int w75_1), (2, .ref (ad 29)), (3, .int w75_3), (4, .int w75_4)] → W p l e (rmD 7 8000 2240000) s m [.ref (ad 0)].toArray below meth c H locs (newC d d1) 246800 (MQ below (QDI D K ad d (fun (r : Int32) (u : tSt) (dd : dSt) => okX u ∧ frA [(0, 1), (18, 2), (18, 3), (29, 2), (29, 3), (29, 4), (29, 5), (29, 6), (29, 7)] [] [51] [] t u ∧ okD dd ∧ (-2147483648 : Int) ≤ r.toInt ∧ r.toInt ≤ 400 ∧ ((u.1 18 2).toInt ≤ (t.1 18 2).toInt + (t.1 0 1).toInt + 1) ∧ ((u.1 0 1).toInt = 0)) s.heap.size A) [.ref (ad 0)].toArray s 8000 2240000 A) (F0 m 75 ls []) := by
    intro fuel_75
    induction fuel_75 with
    | zero =>
      intro t1 d1 w75_1 w75_3 w75_4 H locs ls hok hfr hod hle hdf hw75_1 hw75_3 hw75_4 hi75_0 hi75_1 hi75_2 hi75_3 hm75_75 hP hD hS hl
      have h_7 : (0 : Int) ≤ (t1.1 0 1).toInt ∧ (t1.1 0 1).toInt ≤ 1280 := hok.1 0 1
      have h_8 : (0 : Int) ≤ (t1.1 18 2).toInt ∧ (t1.1 18 2).toInt ≤ 2700 := hok.1 18 2
      have h_9 : (0 : Int) ≤ (t1.1 29 2).toInt ∧ (t1.1 29 2).toInt ≤ 1280 := hok.1 29 2
      have h_10 : (0 : Int) ≤ (t1.1 29 3).toInt ∧ (t1.1 29 3).toInt ≤ 80 := hok.1 29 3
      have h_11 : (0 : Int) ≤ (t1.1 29 4).toInt ∧ (t1.1 29 4).toInt ≤ 1281 := hok.1 29 4
      have h_12 : (0 : Int) ≤ (t1.1 29 7).toInt ∧ (t1.1 29 7).toInt ≤ 1280 := hok.1 29 7
      exact absurd hm75_75 (by omega)
    | succ fuel_75 ih_75 =>
      intro t1 d1 w75_1 w75_3 w75_4 H locs ls hok hfr hod hle hdf hw75_1 hw75_3 hw75_4 hi75_0 hi75_1 hi75_2 hi75_3 hm75_75 hP hD hS hl
      have hm75_75 : (8192 : Int) - w75_4.toInt < (fuel_75 : Int) + 1 := by omega
      have h_13 : (0 : Int) ≤ (t1.1 0 1).toInt ∧ (t1.1 0 1).toInt ≤ 1280 := hok.1 0 1
      have h_14 : (0 : Int) ≤ (t1.1 18 2).toInt ∧ (t1.1 18 2).toInt ≤ 2700 := hok.1 18 2
      have h_15 : (0 : Int) ≤ (t1.1 29 2).toInt ∧ (t1.1 29 2).toInt ≤ 1280 := hok.1 29 2
      have h_16 : (0 : Int) ≤ (t1.1 29 3).toInt ∧ (t1.1 29 3).toInt ≤ 80 := hok.1 29 3
      have h_17 : (0 : Int) ≤ (t1.1 29 4).toInt ∧ (t1.1 29 4).toInt ≤ 1281 := hok.1 29 4
      have h_18 : (0 : Int) ≤ (t1.1 29 7).toInt ∧ (t1.1 29 7).toInt ≤ 1280 := hok.1 29 7
      refine lv_iload C.1 C.2.1 dX11_cards_75 (lv_at hl 4 rfl) ?_
      refine lv_sipush (v := 8192) C.1 C.2.1 dX11_cards_77 (by decide) ?_
      refine lv_icmp_ge (tgt := 107) C.1 C.2.1 dX11_cards_80 (by decide) (fun c_19 => ?_) (fun c_19 => ?_)
      · replace c_19 : 8192 ≤ w75_4.toInt := i_le c_19
        refine lv_iload_n C.1 C.2.1 dX11_cards_107 rfl (lv_at hl 3 rfl) ?_
        exact g_Diret C hr hlocks hP hD hS rfl ⟨hok, hfr, hod, by omega, by omega, (show (t1.1 18 2).toInt ≤ (t.1 18 2).toInt + (t.1 0 1).toInt + 1 from by omega), (show (t1.1 0 1).toInt = 0 from by omega)⟩ hle hdf (Nat.le_of_ble_eq_true rfl) (Nat.le_of_ble_eq_true rfl) dX11_cards_108
      · replace c_19 : w75_4.toInt < 8192 := i_nle c_19
        refine lv_aload_n C.1 C.2.1 dX11_cards_83 rfl (lv_at hl 2 rfl) ?_
        refine hz_Vi (As := []) (rest := []) C hP hD hS hA (T_X9_advance l D K Z Y ad d1 t1 hok ) hE hZ (uwV m_43_19 m_13_19 m_13_20 m_1_17 m_13_21) (hdV 0 (by decide +kernel) rfl) ⟨Nat.le_of_ble_eq_true rfl, Nat.le_of_ble_eq_true rfl⟩ rfl rfl (ci := 8) (q0 := 29) rfl rfl rfl hl.1 (Nat.le_of_ble_eq_true rfl) dX11_cards_84 ⟨Nat.le_trans (newC_le _ _) (Nat.le_of_ble_eq_true rfl), (Nat.le_of_ble_eq_true rfl)⟩ (fun r_21 t_20 H locs hw hP hD hS => ?_)
        obtain ⟨hok, f_22, h_23, h_24, p_25, p_26⟩ := hw
        have hfr : frA [(0, 1), (18, 2), (18, 3), (29, 2), (29, 3), (29, 4), (29, 5), (29, 6), (29, 7)] [] [51] [] t t_20 := frA_tr hfr f_22 rfl
        have h_27 : (t_20.1 0 1).toInt = (t1.1 0 1).toInt := ti_eq (f_22.1 0 1 rfl)
        have h_28 : (t_20.1 18 2).toInt = (t1.1 18 2).toInt := ti_eq (f_22.1 18 2 rfl)
        have h_29 : (t_20.1 29 7).toInt = (t1.1 29 7).toInt := ti_eq (f_22.1 29 7 rfl)
        have h_30 : (0 : Int) ≤ (t_20.1 0 1).toInt ∧ (t_20.1 0 1).toInt ≤ 1280 := hok.1 0 1
        have h_31 : (0 : Int) ≤ (t_20.1 18 2).toInt ∧ (t_20.1 18 2).toInt ≤ 2700 := hok.1 18 2
        have h_32 : (0 : Int) ≤ (t_20.1 29 2).toInt ∧ (t_20.1 29 2).toInt ≤ 1280 := hok.1 29 2
        have h_33 : (0 : Int) ≤ (t_20.1 29 3).toInt ∧ (t_20.1 29 3).toInt ≤ 80 := hok.1 29 3
        have h_34 : (0 : Int) ≤ (t_20.1 29 4).toInt ∧ (t_20.1 29 4).toInt ≤ 1281 := hok.1 29 4
        have h_35 : (0 : Int) ≤ (t_20.1 29 7).toInt ∧ (t_20.1 29 7).toInt ≤ 1280 := hok.1 29 7
        replace p_25 : r_21.toInt = 1 → (t_20.1 29 2).toInt + (t_20.1 29 3).toInt ≤ 1280 := p_25
        replace p_26 : r_21.toInt = 1 → (t1.1 29 4).toInt + (t_20.1 29 3).toInt + 1 ≤ (t_20.1 29 4).toInt ∧ (t_20.1 29 4).toInt ≤ (t1.1 29 7).toInt + 1 := p_26
        refine lv_if_eq (tgt := 107) C.1 C.2.1 dX11_cards_87 (by decide) (fun c_36 => ?_) (fun c_36 => ?_)
        · replace c_36 : r_21.toInt = 0 := i_eq c_36
          refine lv_iload_n C.1 C.2.1 dX11_cards_107 rfl (lv_at hl 3 rfl) ?_
          exact g_Diret C hr hlocks hP hD hS rfl ⟨hok, hfr, hod, by omega, by omega, (show (t_20.1 18 2).toInt ≤ (t.1 18 2).toInt + (t.1 0 1).toInt + 1 from by omega), (show (t_20.1 0 1).toInt = 0 from by omega)⟩ hle hdf (Nat.le_of_ble_eq_true rfl) (Nat.le_of_ble_eq_true rfl) dX11_cards_108
        · replace c_36 : ¬ r_21.toInt = 0 := i_ne c_36
          refine lv_aload_n C.1 C.2.1 dX11_cards_90 rfl (lv_at hl 0 rfl) ?_
          refine k_get (v := .ref (ad 3)) C hP 0 rfl rfl inlX11 3 (by decide) m_2_8 rfl dX11_cards_91 ?_
          refine k_get (v := .ref (ad 18)) C hP 3 rfl rfl inlX10 9 (by decide) m_43_16 rfl dX11_cards_94 ?_
          refine lv_aload_n C.1 C.2.1 dX11_cards_97 rfl (lv_at hl 2 rfl) ?_
          refine g_DVv (As := [.ref (ad 29)]) (rest := []) C hP hD hS hA (T_X6_add l D K Z Y ad d1 t_20 hok hod (show (t_20.1 18 2).toInt + (t_20.1 29 3).toInt ≤ 2690 from by omega) (show (t_20.1 29 2).toInt + (t_20.1 29 3).toInt ≤ 1280 from by omega)) hE hZ hX hle hdf (uwV m_43_20 m_43_21 m_43_22 m_3_16 m_43_23) (hdV 1 (by decide +kernel) rfl) ⟨Nat.le_of_ble_eq_true rfl, Nat.le_of_ble_eq_true rfl⟩ rfl rfl (ci := 5) (q0 := 18) rfl rfl rfl hl.1 (Nat.le_of_ble_eq_true rfl) dX11_cards_98 ⟨Nat.le_of_ble_eq_true rfl, Nat.le_of_ble_eq_true rfl⟩ (fun t_37 d_39 H locs hw hP hD hS hln hle hdf => ?_)
          obtain ⟨hok, f_40, hod, p_41⟩ := hw
          have hfr : frA [(0, 1), (18, 2), (18, 3), (29, 2), (29, 3), (29, 4), (29, 5), (29, 6), (29, 7)] [] [51] [] t t_37 := frA_tr hfr f_40 rfl
          have h_42 : (t_37.1 0 1).toInt = (t_20.1 0 1).toInt := ti_eq (f_40.1 0 1 rfl)
          have h_43 : (t_37.1 29 2).toInt = (t_20.1 29 2).toInt := ti_eq (f_40.1 29 2 rfl)
          have h_44 : (t_37.1 29 3).toInt = (t_20.1 29 3).toInt := ti_eq (f_40.1 29 3 rfl)
          have h_45 : (t_37.1 29 4).toInt = (t_20.1 29 4).toInt := ti_eq (f_40.1 29 4 rfl)
          have h_46 : (t_37.1 29 7).toInt = (t_20.1 29 7).toInt := ti_eq (f_40.1 29 7 rfl)
          have h_47 : (0 : Int) ≤ (t_37.1 0 1).toInt ∧ (t_37.1 0 1).toInt ≤ 1280 := hok.1 0 1
          have h_48 : (0 : Int) ≤ (t_37.1 18 2).toInt ∧ (t_37.1 18 2).toInt ≤ 2700 := hok.1 18 2
          have h_49 : (0 : Int) ≤ (t_37.1 29 2).toInt ∧ (t_37.1 29 2).toInt ≤ 1280 := hok.1 29 2
          have h_50 : (0 : Int) ≤ (t_37.1 29 3).toInt ∧ (t_37.1 29 3).toInt ≤ 80 := hok.1 29 3
          have h_51 : (0 : Int) ≤ (t_37.1 29 4).toInt ∧ (t_37.1 29 4).toInt ≤ 1281 := hok.1 29 4
          have h_52 : (0 : Int) ≤ (t_37.1 29 7).toInt ∧ (t_37.1 29 7).toInt ≤ 1280 := hok.1 29 7
          replace p_41 : (t_37.1 18 2).toInt ≤ (t_20.1 18 2).toInt + (t_20.1 29 3).toInt + 1 := p_41
          obtain ⟨v_53, e_54⟩ : ∃ z, z = w75_4 + 1 := ⟨_, rfl⟩
          have h_55 : v_53.toInt = w75_4.toInt + 1 := by rw [e_54]; exact ti_iadd (by show (_ : Int) ≤ w75_4.toInt + 1; omega) (by show w75_4.toInt + 1 < (_ : Int); omega)
          refine lv_iinc (v := v_53) (lv' := [(4, .int v_53), (0, .ref (ad 0)), (1, .int w75_1), (2, .ref (ad 29)), (3, .int w75_3)]) C.1 C.2.1 dX11_cards_101 hl (k := 4) rfl e_54.symm (by decide) rfl (fun ls hl => ?_)
          have hl : lv_has ls 5 [(0, .ref (ad 0)), (1, .int w75_1), (2, .ref (ad 29)), (3, .int w75_3), (4, .int v_53)] := lv_sub hl [1, 2, 3, 4, 0] rfl
          refine lv_goto (tgt := 75) C.1 C.2.1 dX11_cards_104 (by decide) ?_
          exact ih_75 t_37 d_39 w75_1 w75_3 v_53 _ _ _ hok hfr hod hle hdf ⟨by omega, by omega⟩ ⟨(i_rng _).1, by omega⟩ ⟨by omega, by omega⟩ (show (t_37.1 0 1).toInt = 0 from by omega) (show (t_37.1 18 2).toInt ≤ (t.1 18 2).toInt + (t_37.1 29 4).toInt from by omega) (show (t_37.1 29 7).toInt = (t.1 0 1).toInt from by omega) (show (t_37.1 29 4).toInt ≤ (t.1 0 1).toInt + 1 from by omega) (show (8192 : Int) - v_53.toInt < (fuel_75 : Int) from by omega) hP hD hS (lv_sub hl [0, 1, 2, 3, 4] rfl)
  have L_57 : ∀ (t1 : tSt) (d1 : dSt) (w57_1 : Int32) (w57_3 : Int32) (w57_4 : Int32) (H : Heap) (locs : List Loc) (ls : Array Slot), okX t1 → frA [(0, 1), (18, 2), (18, 3), (29, 2), (29, 3), (29, 4), (29, 5), (29, 6), (29, 7)] [] [51] [] t t1 → okD d1 → dLe d d1 → dFr s.heap.size d d1 → (0 : Int) ≤ w57_1.toInt ∧ w57_1.toInt ≤ 3999 → (0 : Int) ≤ w57_4.toInt ∧ w57_4.toInt ≤ 8192 → ((t1.1 0 1).toInt = 0) → ((t1.1 18 2).toInt = (t.1 18 2).toInt) → (w57_1.toInt = (t.1 0 1).toInt) → va_P D vwCl ((WX d1) K ad t1) H → va_D A ((WX d1) K ad t1) → va_S A s.heap H locs → lv_has ls 5 [(0, .ref (ad 0)), (1, .int w57_1), (2, .ref (ad 29)), (3, .int w57_3), (4, .int w57_4)] → W p l e (rmD 7 8000 2240000) s m [.ref (ad 0)].toArray below meth c H locs (newC d d1) 246800 (MQ below (QDI D K ad d (fun (r : Int32) (u : tSt) (dd : dSt) => okX u ∧ frA [(0, 1), (18, 2), (18, 3), (29, 2), (29, 3), (29, 4), (29, 5), (29, 6), (29, 7)] [] [51] [] t u ∧ okD dd ∧ (-2147483648 : Int) ≤ r.toInt ∧ r.toInt ≤ 400 ∧ ((u.1 18 2).toInt ≤ (t.1 18 2).toInt + (t.1 0 1).toInt + 1) ∧ ((u.1 0 1).toInt = 0)) s.heap.size A) [.ref (ad 0)].toArray s 8000 2240000 A) (F0 m 57 ls []) := by
    intro t1 d1 w57_1 w57_3 w57_4 H locs ls hok hfr hod hle hdf hw57_1 hw57_4 hi57_0 hi57_1 hi57_2 hP hD hS hl
    have h_56 : (0 : Int) ≤ (t1.1 0 1).toInt ∧ (t1.1 0 1).toInt ≤ 1280 := hok.1 0 1
    have h_57 : (0 : Int) ≤ (t1.1 18 2).toInt ∧ (t1.1 18 2).toInt ≤ 2700 := hok.1 18 2
    have h_58 : (0 : Int) ≤ (t1.1 29 2).toInt ∧ (t1.1 29 2).toInt ≤ 1280 := hok.1 29 2
    have h_59 : (0 : Int) ≤ (t1.1 29 3).toInt ∧ (t1.1 29 3).toInt ≤ 80 := hok.1 29 3
    have h_60 : (0 : Int) ≤ (t1.1 29 4).toInt ∧ (t1.1 29 4).toInt ≤ 1281 := hok.1 29 4
    have h_61 : (0 : Int) ≤ (t1.1 29 7).toInt ∧ (t1.1 29 7).toInt ≤ 1280 := hok.1 29 7
    refine lv_iload_n C.1 C.2.1 dX11_cards_57 rfl (lv_at hl 3 rfl) ?_
    refine lv_sipush (v := 400) C.1 C.2.1 dX11_cards_58 (by decide) ?_
    refine lv_icmp_le (tgt := 66) C.1 C.2.1 dX11_cards_61 (by decide) (fun c_62 => ?_) (fun c_62 => ?_)
    · replace c_62 : w57_3.toInt ≤ 400 := i_le c_62
      refine lv_aload_n C.1 C.2.1 dX11_cards_66 rfl (lv_at hl 2 rfl) ?_
      refine lv_iconst (v := 0) C.1 C.2.1 dX11_cards_67 (by decide) ?_
      refine lv_iload_n C.1 C.2.1 dX11_cards_68 rfl (lv_at hl 1 rfl) ?_
      have h_63 : (0 : Int32).toInt = 0 := rfl
      refine hz_Vv (As := [.int 0, .int w57_1]) (rest := []) C hP hD hS hA (T_X9_open l D K Z Y ad d1 t1 hok 0 (show (0 : Int) ≤ (0 : Int32).toInt ∧ (0 : Int32).toInt ≤ 0 from ⟨by decide, by decide⟩) (w57_1) (show (0 : Int) ≤ (w57_1 : Int32).toInt ∧ (w57_1 : Int32).toInt ≤ 1280 from ⟨by omega, by omega⟩)) hE hZ (uwV m_43_18 m_12_10 m_12_11 m_1_17 m_12_12) (hdV 2 (by decide +kernel) rfl) ⟨Nat.le_of_ble_eq_true rfl, Nat.le_of_ble_eq_true rfl⟩ rfl rfl (ci := 8) (q0 := 29) rfl rfl rfl hl.1 (Nat.le_of_ble_eq_true rfl) dX11_cards_69 ⟨Nat.le_trans (newC_le _ _) (Nat.le_of_ble_eq_true rfl), (Nat.le_of_ble_eq_true rfl)⟩ (fun t_64 H locs hw hP hD hS => ?_)
      obtain ⟨hok, f_66, p_67, p_68⟩ := hw
      have hfr : frA [(0, 1), (18, 2), (18, 3), (29, 2), (29, 3), (29, 4), (29, 5), (29, 6), (29, 7)] [] [51] [] t t_64 := frA_tr hfr f_66 rfl
      have h_69 : (t_64.1 0 1).toInt = (t1.1 0 1).toInt := ti_eq (f_66.1 0 1 rfl)
      have h_70 : (t_64.1 18 2).toInt = (t1.1 18 2).toInt := ti_eq (f_66.1 18 2 rfl)
      have h_71 : (t_64.1 29 2).toInt = (t1.1 29 2).toInt := ti_eq (f_66.1 29 2 rfl)
      have h_72 : (t_64.1 29 3).toInt = (t1.1 29 3).toInt := ti_eq (f_66.1 29 3 rfl)
      have h_73 : (0 : Int) ≤ (t_64.1 0 1).toInt ∧ (t_64.1 0 1).toInt ≤ 1280 := hok.1 0 1
      have h_74 : (0 : Int) ≤ (t_64.1 18 2).toInt ∧ (t_64.1 18 2).toInt ≤ 2700 := hok.1 18 2
      have h_75 : (0 : Int) ≤ (t_64.1 29 2).toInt ∧ (t_64.1 29 2).toInt ≤ 1280 := hok.1 29 2
      have h_76 : (0 : Int) ≤ (t_64.1 29 3).toInt ∧ (t_64.1 29 3).toInt ≤ 80 := hok.1 29 3
      have h_77 : (0 : Int) ≤ (t_64.1 29 4).toInt ∧ (t_64.1 29 4).toInt ≤ 1281 := hok.1 29 4
      have h_78 : (0 : Int) ≤ (t_64.1 29 7).toInt ∧ (t_64.1 29 7).toInt ≤ 1280 := hok.1 29 7
      replace p_67 : (t_64.1 29 4).toInt = (0 : Int32).toInt := p_67
      replace p_68 : (t_64.1 29 7).toInt = w57_1.toInt := p_68
      refine lv_iconst (v := 0) C.1 C.2.1 dX11_cards_72 (by decide) ?_
      refine lv_istore (lv' := [(4, .int 0), (0, .ref (ad 0)), (1, .int w57_1), (2, .ref (ad 29)), (3, .int w57_3)]) C.1 C.2.1 dX11_cards_73 hl (by decide) rfl (fun ls hl => ?_)
      have hl : lv_has ls 5 [(0, .ref (ad 0)), (1, .int w57_1), (2, .ref (ad 29)), (3, .int w57_3), (4, .int 0)] := lv_sub hl [1, 2, 3, 4, 0] rfl
      exact L_75 8193 t_64 d1 w57_1 w57_3 0 _ _ _ hok hfr hod hle hdf ⟨by omega, by omega⟩ ⟨(i_rng _).1, by omega⟩ ⟨by decide, by decide⟩ (show (t_64.1 0 1).toInt = 0 from by omega) (show (t_64.1 18 2).toInt ≤ (t.1 18 2).toInt + (t_64.1 29 4).toInt from by omega) (show (t_64.1 29 7).toInt = (t.1 0 1).toInt from by omega) (show (t_64.1 29 4).toInt ≤ (t.1 0 1).toInt + 1 from by omega) (show (8192 : Int) - 0 < ((8193 : Nat) : Int) from by omega) hP hD hS (lv_sub hl [0, 1, 2, 3, 4] rfl)
    · replace c_62 : 400 < w57_3.toInt := i_nle c_62
      refine lv_iconst (v := (-1)) C.1 C.2.1 dX11_cards_64 (by decide) ?_
      exact g_Diret C hr hlocks hP hD hS rfl ⟨hok, hfr, hod, by decide, by decide, (show (t1.1 18 2).toInt ≤ (t.1 18 2).toInt + (t.1 0 1).toInt + 1 from by omega), (show (t1.1 0 1).toInt = 0 from by omega)⟩ hle hdf (Nat.le_of_ble_eq_true rfl) (Nat.le_of_ble_eq_true rfl) dX11_cards_65
  have L_33 : ∀ (fuel_33 : Nat) (t1 : tSt) (d1 : dSt) (w33_1 : Int32) (w33_3 : Int32) (w33_4 : Int32) (H : Heap) (locs : List Loc) (ls : Array Slot), okX t1 → frA [(0, 1), (18, 2), (18, 3), (29, 2), (29, 3), (29, 4), (29, 5), (29, 6), (29, 7)] [] [51] [] t t1 → okD d1 → dLe d d1 → dFr s.heap.size d d1 → (0 : Int) ≤ w33_1.toInt ∧ w33_1.toInt ≤ 3999 → (0 : Int) ≤ w33_4.toInt ∧ w33_4.toInt ≤ 8192 → ((t1.1 0 1).toInt = 0) → ((t1.1 18 2).toInt = (t.1 18 2).toInt) → (w33_1.toInt = (t.1 0 1).toInt) → (8192 : Int) - w33_4.toInt < (fuel_33 : Int) → va_P D vwCl ((WX d1) K ad t1) H → va_D A ((WX d1) K ad t1) → va_S A s.heap H locs → lv_has ls 5 [(0, .ref (ad 0)), (1, .int w33_1), (2, .ref (ad 29)), (3, .int w33_3), (4, .int w33_4)] → W p l e (rmD 7 8000 2240000) s m [.ref (ad 0)].toArray below meth c H locs (newC d d1) 246800 (MQ below (QDI D K ad d (fun (r : Int32) (u : tSt) (dd : dSt) => okX u ∧ frA [(0, 1), (18, 2), (18, 3), (29, 2), (29, 3), (29, 4), (29, 5), (29, 6), (29, 7)] [] [51] [] t u ∧ okD dd ∧ (-2147483648 : Int) ≤ r.toInt ∧ r.toInt ≤ 400 ∧ ((u.1 18 2).toInt ≤ (t.1 18 2).toInt + (t.1 0 1).toInt + 1) ∧ ((u.1 0 1).toInt = 0)) s.heap.size A) [.ref (ad 0)].toArray s 8000 2240000 A) (F0 m 33 ls []) := by
    intro fuel_33
    induction fuel_33 with
    | zero =>
      intro t1 d1 w33_1 w33_3 w33_4 H locs ls hok hfr hod hle hdf hw33_1 hw33_4 hi33_0 hi33_1 hi33_2 hm33_33 hP hD hS hl
      have h_79 : (0 : Int) ≤ (t1.1 0 1).toInt ∧ (t1.1 0 1).toInt ≤ 1280 := hok.1 0 1
      have h_80 : (0 : Int) ≤ (t1.1 18 2).toInt ∧ (t1.1 18 2).toInt ≤ 2700 := hok.1 18 2
      have h_81 : (0 : Int) ≤ (t1.1 29 2).toInt ∧ (t1.1 29 2).toInt ≤ 1280 := hok.1 29 2
      have h_82 : (0 : Int) ≤ (t1.1 29 3).toInt ∧ (t1.1 29 3).toInt ≤ 80 := hok.1 29 3
      have h_83 : (0 : Int) ≤ (t1.1 29 4).toInt ∧ (t1.1 29 4).toInt ≤ 1281 := hok.1 29 4
      have h_84 : (0 : Int) ≤ (t1.1 29 7).toInt ∧ (t1.1 29 7).toInt ≤ 1280 := hok.1 29 7
      exact absurd hm33_33 (by omega)
    | succ fuel_33 ih_33 =>
      intro t1 d1 w33_1 w33_3 w33_4 H locs ls hok hfr hod hle hdf hw33_1 hw33_4 hi33_0 hi33_1 hi33_2 hm33_33 hP hD hS hl
      have hm33_33 : (8192 : Int) - w33_4.toInt < (fuel_33 : Int) + 1 := by omega
      have h_85 : (0 : Int) ≤ (t1.1 0 1).toInt ∧ (t1.1 0 1).toInt ≤ 1280 := hok.1 0 1
      have h_86 : (0 : Int) ≤ (t1.1 18 2).toInt ∧ (t1.1 18 2).toInt ≤ 2700 := hok.1 18 2
      have h_87 : (0 : Int) ≤ (t1.1 29 2).toInt ∧ (t1.1 29 2).toInt ≤ 1280 := hok.1 29 2
      have h_88 : (0 : Int) ≤ (t1.1 29 3).toInt ∧ (t1.1 29 3).toInt ≤ 80 := hok.1 29 3
      have h_89 : (0 : Int) ≤ (t1.1 29 4).toInt ∧ (t1.1 29 4).toInt ≤ 1281 := hok.1 29 4
      have h_90 : (0 : Int) ≤ (t1.1 29 7).toInt ∧ (t1.1 29 7).toInt ≤ 1280 := hok.1 29 7
      refine lv_iload C.1 C.2.1 dX11_cards_33 (lv_at hl 4 rfl) ?_
      refine lv_sipush (v := 8192) C.1 C.2.1 dX11_cards_35 (by decide) ?_
      refine lv_icmp_ge (tgt := 57) C.1 C.2.1 dX11_cards_38 (by decide) (fun c_91 => ?_) (fun c_91 => ?_)
      · replace c_91 : 8192 ≤ w33_4.toInt := i_le c_91
        exact L_57 t1 d1 w33_1 w33_3 w33_4 _ _ _ hok hfr hod hle hdf ⟨by omega, by omega⟩ ⟨by omega, by omega⟩ (show (t1.1 0 1).toInt = 0 from by omega) (show (t1.1 18 2).toInt = (t.1 18 2).toInt from by omega) (show w33_1.toInt = (t.1 0 1).toInt from by omega) hP hD hS (lv_sub hl [0, 1, 2, 3, 4] rfl)
      · replace c_91 : w33_4.toInt < 8192 := i_nle c_91
        refine lv_aload_n C.1 C.2.1 dX11_cards_41 rfl (lv_at hl 2 rfl) ?_
        refine hz_Vi (As := []) (rest := []) C hP hD hS hA (T_X9_advance l D K Z Y ad d1 t1 hok ) hE hZ (uwV m_43_19 m_13_19 m_13_20 m_1_17 m_13_21) (hdV 0 (by decide +kernel) rfl) ⟨Nat.le_of_ble_eq_true rfl, Nat.le_of_ble_eq_true rfl⟩ rfl rfl (ci := 8) (q0 := 29) rfl rfl rfl hl.1 (Nat.le_of_ble_eq_true rfl) dX11_cards_42 ⟨Nat.le_trans (newC_le _ _) (Nat.le_of_ble_eq_true rfl), (Nat.le_of_ble_eq_true rfl)⟩ (fun r_93 t_92 H locs hw hP hD hS => ?_)
        obtain ⟨hok, f_94, h_95, h_96, p_97, p_98⟩ := hw
        have hfr : frA [(0, 1), (18, 2), (18, 3), (29, 2), (29, 3), (29, 4), (29, 5), (29, 6), (29, 7)] [] [51] [] t t_92 := frA_tr hfr f_94 rfl
        have h_99 : (t_92.1 0 1).toInt = (t1.1 0 1).toInt := ti_eq (f_94.1 0 1 rfl)
        have h_100 : (t_92.1 18 2).toInt = (t1.1 18 2).toInt := ti_eq (f_94.1 18 2 rfl)
        have h_101 : (t_92.1 29 7).toInt = (t1.1 29 7).toInt := ti_eq (f_94.1 29 7 rfl)
        have h_102 : (0 : Int) ≤ (t_92.1 0 1).toInt ∧ (t_92.1 0 1).toInt ≤ 1280 := hok.1 0 1
        have h_103 : (0 : Int) ≤ (t_92.1 18 2).toInt ∧ (t_92.1 18 2).toInt ≤ 2700 := hok.1 18 2
        have h_104 : (0 : Int) ≤ (t_92.1 29 2).toInt ∧ (t_92.1 29 2).toInt ≤ 1280 := hok.1 29 2
        have h_105 : (0 : Int) ≤ (t_92.1 29 3).toInt ∧ (t_92.1 29 3).toInt ≤ 80 := hok.1 29 3
        have h_106 : (0 : Int) ≤ (t_92.1 29 4).toInt ∧ (t_92.1 29 4).toInt ≤ 1281 := hok.1 29 4
        have h_107 : (0 : Int) ≤ (t_92.1 29 7).toInt ∧ (t_92.1 29 7).toInt ≤ 1280 := hok.1 29 7
        replace p_97 : r_93.toInt = 1 → (t_92.1 29 2).toInt + (t_92.1 29 3).toInt ≤ 1280 := p_97
        replace p_98 : r_93.toInt = 1 → (t1.1 29 4).toInt + (t_92.1 29 3).toInt + 1 ≤ (t_92.1 29 4).toInt ∧ (t_92.1 29 4).toInt ≤ (t1.1 29 7).toInt + 1 := p_98
        refine lv_if_eq (tgt := 57) C.1 C.2.1 dX11_cards_45 (by decide) (fun c_108 => ?_) (fun c_108 => ?_)
        · replace c_108 : r_93.toInt = 0 := i_eq c_108
          exact L_57 t_92 d1 w33_1 w33_3 w33_4 _ _ _ hok hfr hod hle hdf ⟨by omega, by omega⟩ ⟨by omega, by omega⟩ (show (t_92.1 0 1).toInt = 0 from by omega) (show (t_92.1 18 2).toInt = (t.1 18 2).toInt from by omega) (show w33_1.toInt = (t.1 0 1).toInt from by omega) hP hD hS (lv_sub hl [0, 1, 2, 3, 4] rfl)
        · replace c_108 : ¬ r_93.toInt = 0 := i_ne c_108
          obtain ⟨v_109, e_110⟩ : ∃ z, z = w33_3 + 1 := ⟨_, rfl⟩
          refine lv_iinc (v := v_109) (lv' := [(3, .int v_109), (0, .ref (ad 0)), (1, .int w33_1), (2, .ref (ad 29)), (4, .int w33_4)]) C.1 C.2.1 dX11_cards_48 hl (k := 3) rfl e_110.symm (by decide) rfl (fun ls hl => ?_)
          have hl : lv_has ls 5 [(0, .ref (ad 0)), (1, .int w33_1), (2, .ref (ad 29)), (3, .int v_109), (4, .int w33_4)] := lv_sub hl [1, 2, 3, 0, 4] rfl
          obtain ⟨v_111, e_112⟩ : ∃ z, z = w33_4 + 1 := ⟨_, rfl⟩
          have h_113 : v_111.toInt = w33_4.toInt + 1 := by rw [e_112]; exact ti_iadd (by show (_ : Int) ≤ w33_4.toInt + 1; omega) (by show w33_4.toInt + 1 < (_ : Int); omega)
          refine lv_iinc (v := v_111) (lv' := [(4, .int v_111), (0, .ref (ad 0)), (1, .int w33_1), (2, .ref (ad 29)), (3, .int v_109)]) C.1 C.2.1 dX11_cards_51 hl (k := 4) rfl e_112.symm (by decide) rfl (fun ls hl => ?_)
          have hl : lv_has ls 5 [(0, .ref (ad 0)), (1, .int w33_1), (2, .ref (ad 29)), (3, .int v_109), (4, .int v_111)] := lv_sub hl [1, 2, 3, 4, 0] rfl
          refine lv_goto (tgt := 33) C.1 C.2.1 dX11_cards_54 (by decide) ?_
          exact ih_33 t_92 d1 w33_1 v_109 v_111 _ _ _ hok hfr hod hle hdf ⟨by omega, by omega⟩ ⟨by omega, by omega⟩ (show (t_92.1 0 1).toInt = 0 from by omega) (show (t_92.1 18 2).toInt = (t.1 18 2).toInt from by omega) (show w33_1.toInt = (t.1 0 1).toInt from by omega) (show (8192 : Int) - v_111.toInt < (fuel_33 : Int) from by omega) hP hD hS (lv_sub hl [0, 1, 2, 3, 4] rfl)
  refine lv_aload_n C.1 C.2.1 dX11_cards_0 rfl (lv_at hl 0 rfl) ?_
  refine hz_Vi (As := []) (rest := []) C hP hD hS hA (T_X11_useUpTape l D K Z Y ad d t hok ) hE hZ (uwV m_10_20 m_10_21 m_10_22 m_1_2 m_10_23) (hdV 0 (by decide +kernel) rfl) ⟨Nat.le_of_ble_eq_true rfl, Nat.le_of_ble_eq_true rfl⟩ rfl rfl (ci := 10) (q0 := 0) rfl rfl rfl hl.1 (Nat.le_of_ble_eq_true rfl) dX11_cards_1 ⟨Nat.le_trans (newC_le _ _) (Nat.le_of_ble_eq_true rfl), (Nat.le_of_ble_eq_true rfl)⟩ (fun r_115 t_114 H locs hw hP hD hS => ?_)
  obtain ⟨hok, f_116, h_117, h_118, p_119, p_120⟩ := hw
  have hfr : frA [(0, 1), (18, 2), (18, 3), (29, 2), (29, 3), (29, 4), (29, 5), (29, 6), (29, 7)] [] [51] [] t t_114 := frA_tr hfr f_116 rfl
  have h_121 : (t_114.1 18 2).toInt = (t.1 18 2).toInt := ti_eq (f_116.1 18 2 rfl)
  have h_122 : (t_114.1 29 2).toInt = (t.1 29 2).toInt := ti_eq (f_116.1 29 2 rfl)
  have h_123 : (t_114.1 29 3).toInt = (t.1 29 3).toInt := ti_eq (f_116.1 29 3 rfl)
  have h_124 : (t_114.1 29 4).toInt = (t.1 29 4).toInt := ti_eq (f_116.1 29 4 rfl)
  have h_125 : (t_114.1 29 7).toInt = (t.1 29 7).toInt := ti_eq (f_116.1 29 7 rfl)
  have h_126 : (0 : Int) ≤ (t_114.1 0 1).toInt ∧ (t_114.1 0 1).toInt ≤ 1280 := hok.1 0 1
  have h_127 : (0 : Int) ≤ (t_114.1 18 2).toInt ∧ (t_114.1 18 2).toInt ≤ 2700 := hok.1 18 2
  have h_128 : (0 : Int) ≤ (t_114.1 29 2).toInt ∧ (t_114.1 29 2).toInt ≤ 1280 := hok.1 29 2
  have h_129 : (0 : Int) ≤ (t_114.1 29 3).toInt ∧ (t_114.1 29 3).toInt ≤ 80 := hok.1 29 3
  have h_130 : (0 : Int) ≤ (t_114.1 29 4).toInt ∧ (t_114.1 29 4).toInt ≤ 1281 := hok.1 29 4
  have h_131 : (0 : Int) ≤ (t_114.1 29 7).toInt ∧ (t_114.1 29 7).toInt ≤ 1280 := hok.1 29 7
  replace p_119 : r_115.toInt = (t.1 0 1).toInt := p_119
  replace p_120 : (t_114.1 0 1).toInt = 0 := p_120
  refine lv_istore_n (lv' := [(1, .int r_115), (0, .ref (ad 0))]) C.1 C.2.1 dX11_cards_4 rfl hl (by decide) rfl (fun ls hl => ?_)
  have hl : lv_has ls 5 [(0, .ref (ad 0)), (1, .int r_115)] := lv_sub hl [1, 0] rfl
  refine lv_aload_n C.1 C.2.1 dX11_cards_5 rfl (lv_at hl 0 rfl) ?_
  refine k_get (v := .ref (ad 7)) C hP 0 rfl rfl inlX11 7 (by decide) m_2_18 rfl dX11_cards_6 ?_
  refine k_get (v := .ref (ad 29)) C hP 7 rfl rfl inlX3 0 (by decide) m_43_15 rfl dX11_cards_9 ?_
  refine lv_astore_n (lv' := [(2, .ref (ad 29)), (0, .ref (ad 0)), (1, .int r_115)]) C.1 C.2.1 dX11_cards_12 rfl hl (by decide) rfl (fun ls hl => ?_)
  have hl : lv_has ls 5 [(0, .ref (ad 0)), (1, .int r_115), (2, .ref (ad 29))] := lv_sub hl [1, 2, 0] rfl
  refine lv_aload_n C.1 C.2.1 dX11_cards_13 rfl (lv_at hl 0 rfl) ?_
  refine k_get (v := .ref (ad 3)) C hP 0 rfl rfl inlX11 3 (by decide) m_2_8 rfl dX11_cards_14 ?_
  refine k_get (v := .ref (ad 18)) C hP 3 rfl rfl inlX10 9 (by decide) m_43_16 rfl dX11_cards_17 ?_
  refine k_get (v := .int (t_114.1 18 3)) C hP 18 rfl rfl inlX6 3 (by decide) m_43_17 rfl dX11_cards_20 ?_
  refine lv_istore_n (lv' := [(3, .int (t_114.1 18 3)), (0, .ref (ad 0)), (1, .int r_115), (2, .ref (ad 29))]) C.1 C.2.1 dX11_cards_23 rfl hl (by decide) rfl (fun ls hl => ?_)
  have hl : lv_has ls 5 [(0, .ref (ad 0)), (1, .int r_115), (2, .ref (ad 29)), (3, .int (t_114.1 18 3))] := lv_sub hl [1, 2, 3, 0] rfl
  refine lv_aload_n C.1 C.2.1 dX11_cards_24 rfl (lv_at hl 2 rfl) ?_
  refine lv_iconst (v := 0) C.1 C.2.1 dX11_cards_25 (by decide) ?_
  refine lv_iload_n C.1 C.2.1 dX11_cards_26 rfl (lv_at hl 1 rfl) ?_
  have h_132 : (0 : Int32).toInt = 0 := rfl
  refine hz_Vv (As := [.int 0, .int r_115]) (rest := []) C hP hD hS hA (T_X9_open l D K Z Y ad d t_114 hok 0 (show (0 : Int) ≤ (0 : Int32).toInt ∧ (0 : Int32).toInt ≤ 0 from ⟨by decide, by decide⟩) (r_115) (show (0 : Int) ≤ (r_115 : Int32).toInt ∧ (r_115 : Int32).toInt ≤ 1280 from ⟨by omega, by omega⟩)) hE hZ (uwV m_43_18 m_12_10 m_12_11 m_1_17 m_12_12) (hdV 2 (by decide +kernel) rfl) ⟨Nat.le_of_ble_eq_true rfl, Nat.le_of_ble_eq_true rfl⟩ rfl rfl (ci := 8) (q0 := 29) rfl rfl rfl hl.1 (Nat.le_of_ble_eq_true rfl) dX11_cards_27 ⟨Nat.le_trans (newC_le _ _) (Nat.le_of_ble_eq_true rfl), (Nat.le_of_ble_eq_true rfl)⟩ (fun t_133 H locs hw hP hD hS => ?_)
  obtain ⟨hok, f_135, p_136, p_137⟩ := hw
  have hfr : frA [(0, 1), (18, 2), (18, 3), (29, 2), (29, 3), (29, 4), (29, 5), (29, 6), (29, 7)] [] [51] [] t t_133 := frA_tr hfr f_135 rfl
  have h_138 : (t_133.1 18 3).toInt = (t_114.1 18 3).toInt := ti_eq (f_135.1 18 3 rfl)
  have h_139 : (t_133.1 0 1).toInt = (t_114.1 0 1).toInt := ti_eq (f_135.1 0 1 rfl)
  have h_140 : (t_133.1 18 2).toInt = (t_114.1 18 2).toInt := ti_eq (f_135.1 18 2 rfl)
  have h_141 : (t_133.1 29 2).toInt = (t_114.1 29 2).toInt := ti_eq (f_135.1 29 2 rfl)
  have h_142 : (t_133.1 29 3).toInt = (t_114.1 29 3).toInt := ti_eq (f_135.1 29 3 rfl)
  have h_143 : (0 : Int) ≤ (t_133.1 0 1).toInt ∧ (t_133.1 0 1).toInt ≤ 1280 := hok.1 0 1
  have h_144 : (0 : Int) ≤ (t_133.1 18 2).toInt ∧ (t_133.1 18 2).toInt ≤ 2700 := hok.1 18 2
  have h_145 : (0 : Int) ≤ (t_133.1 29 2).toInt ∧ (t_133.1 29 2).toInt ≤ 1280 := hok.1 29 2
  have h_146 : (0 : Int) ≤ (t_133.1 29 3).toInt ∧ (t_133.1 29 3).toInt ≤ 80 := hok.1 29 3
  have h_147 : (0 : Int) ≤ (t_133.1 29 4).toInt ∧ (t_133.1 29 4).toInt ≤ 1281 := hok.1 29 4
  have h_148 : (0 : Int) ≤ (t_133.1 29 7).toInt ∧ (t_133.1 29 7).toInt ≤ 1280 := hok.1 29 7
  replace p_136 : (t_133.1 29 4).toInt = (0 : Int32).toInt := p_136
  replace p_137 : (t_133.1 29 7).toInt = r_115.toInt := p_137
  refine lv_iconst (v := 0) C.1 C.2.1 dX11_cards_30 (by decide) ?_
  refine lv_istore (lv' := [(4, .int 0), (0, .ref (ad 0)), (1, .int r_115), (2, .ref (ad 29)), (3, .int (t_114.1 18 3))]) C.1 C.2.1 dX11_cards_31 hl (by decide) rfl (fun ls hl => ?_)
  have hl : lv_has ls 5 [(0, .ref (ad 0)), (1, .int r_115), (2, .ref (ad 29)), (3, .int (t_114.1 18 3)), (4, .int 0)] := lv_sub hl [1, 2, 3, 4, 0] rfl
  exact L_33 8193 t_133 d r_115 (t_114.1 18 3) 0 _ _ _ hok hfr hod hle hdf ⟨by omega, by omega⟩ ⟨by decide, by decide⟩ (show (t_133.1 0 1).toInt = 0 from by omega) (show (t_133.1 18 2).toInt = (t.1 18 2).toInt from by omega) (show r_115.toInt = (t.1 0 1).toInt from by omega) (show (8192 : Int) - 0 < ((8193 : Nat) : Int) from by omega) hP hD hS (lv_sub hl [0, 1, 2, 3, 4] rfl)

theorem dX11_go_0 : decode cX11_go 0 = .ok (.aload_n 0, 1) := by decide +kernel
theorem dX11_go_1 : decode cX11_go 1 = .ok (.getfield 40, 3) := by decide +kernel
theorem dX11_go_11 : decode cX11_go 11 = .ok (.ifCond .ne 5, 3) := by decide +kernel
theorem dX11_go_14 : decode cX11_go 14 = .ok (.iconst 0, 1) := by decide +kernel
theorem dX11_go_15 : decode cX11_go 15 = .ok (.ireturn, 1) := by decide +kernel
theorem dX11_go_16 : decode cX11_go 16 = .ok (.aload_n 0, 1) := by decide +kernel
theorem dX11_go_17 : decode cX11_go 17 = .ok (.getfield 44, 3) := by decide +kernel
theorem dX11_go_20 : decode cX11_go 20 = .ok (.invokevirtual 91, 3) := by decide +kernel
theorem dX11_go_23 : decode cX11_go 23 = .ok (.aload_n 0, 1) := by decide +kernel
theorem dX11_go_24 : decode cX11_go 24 = .ok (.getfield 48, 3) := by decide +kernel
theorem dX11_go_27 : decode cX11_go 27 = .ok (.iconst 0, 1) := by decide +kernel
theorem dX11_go_28 : decode cX11_go 28 = .ok (.putfield 153, 3) := by decide +kernel
theorem dX11_go_31 : decode cX11_go 31 = .ok (.aload_n 0, 1) := by decide +kernel
theorem dX11_go_32 : decode cX11_go 32 = .ok (.getfield 40, 3) := by decide +kernel
theorem dX11_go_35 : decode cX11_go 35 = .ok (.getfield 127, 3) := by decide +kernel
theorem dX11_go_38 : decode cX11_go 38 = .ok (.aload_n 0, 1) := by decide +kernel
theorem dX11_go_39 : decode cX11_go 39 = .ok (.getfield 44, 3) := by decide +kernel
theorem dX11_go_4 : decode cX11_go 4 = .ok (.getfield 127, 3) := by decide +kernel
theorem dX11_go_42 : decode cX11_go 42 = .ok (.getfield 157, 3) := by decide +kernel
theorem dX11_go_45 : decode cX11_go 45 = .ok (.sipush 3999, 3) := by decide +kernel
theorem dX11_go_48 : decode cX11_go 48 = .ok (.invokevirtual 161, 3) := by decide +kernel
theorem dX11_go_51 : decode cX11_go 51 = .ok (.aload_n 0, 1) := by decide +kernel
theorem dX11_go_52 : decode cX11_go 52 = .ok (.getfield 44, 3) := by decide +kernel
theorem dX11_go_55 : decode cX11_go 55 = .ok (.iconst 0, 1) := by decide +kernel
theorem dX11_go_56 : decode cX11_go 56 = .ok (.invokevirtual 110, 3) := by decide +kernel
theorem dX11_go_59 : decode cX11_go 59 = .ok (.iconst 1, 1) := by decide +kernel
theorem dX11_go_60 : decode cX11_go 60 = .ok (.ireturn, 1) := by decide +kernel
theorem dX11_go_7 : decode cX11_go 7 = .ok (.iconst 0, 1) := by decide +kernel
theorem dX11_go_8 : decode cX11_go 8 = .ok (.invokevirtual 149, 3) := by decide +kernel
set_option maxHeartbeats 4000000 in
set_option maxRecDepth 100000 in
theorem T_X11_go (l : Launch) (D : va_G) (K : Nat → ClassId) (Z Y : Nat → Nat) (ad : Nat → Nat) (d : dSt) (t : tSt) (hok : okX t) (hod : okD d)  : tMet l yX11_go cX11_go 1 (some .boolean) (rmD 7 0 0) D K Z Y [.ref (ad 0)] ((WX d) K ad t) (QI D K (fun (r : Int32) (u : tSt) => okX u ∧ frA [(3, 8), (4, 3), (4, 4), (4, 5), (4, 8), (4, 9), (4, 10), (5, 19), (18, 1), (18, 3)] [(4, 6), (4, 7)] [10, 15, 22] [13] t u ∧ (0 : Int) ≤ r.toInt ∧ r.toInt ≤ 1) (fun (u : tSt) => (WX d) K ad u)) 0 0 := by
  refine t_met RX11 ⟨rfl, by decide +kernel⟩ (Nat.le_of_ble_eq_true rfl) ?_
  intro p e s m below meth c A ls C hE hZ hr hlocks hA hP hD hS hl
  have hl : lv_has ls 1 [(0, .ref (ad 0))] := hl
  have hokt := hok
  have hfr : frA [(3, 8), (4, 3), (4, 4), (4, 5), (4, 8), (4, 9), (4, 10), (5, 19), (18, 1), (18, 3)] [(4, 6), (4, 7)] [10, 15, 22] [13] t t := frA_rf
  have h_1 : (0 : Int) ≤ (t.1 18 1).toInt ∧ (t.1 18 1).toInt ≤ 2701 := hok.1 18 1
  have h_2 : (0 : Int) ≤ (t.1 18 2).toInt ∧ (t.1 18 2).toInt ≤ 2700 := hok.1 18 2
  refine lv_aload_n C.1 C.2.1 dX11_go_0 rfl (lv_at hl 0 rfl) ?_
  refine k_get (v := .ref (ad 3)) C hP 0 rfl rfl inlX11 3 (by decide) m_2_8 rfl dX11_go_1 ?_
  refine k_get (v := .ref (ad 18)) C hP 3 rfl rfl inlX10 9 (by decide) m_43_16 rfl dX11_go_4 ?_
  refine lv_iconst (v := 0) C.1 C.2.1 dX11_go_7 (by decide) ?_
  refine g_Vi (As := [.int 0]) (rest := []) C hP hD hS hA (T_X6_hasCard l D K Z Y ad d t hok hod 0 (show (0 : Int) ≤ (0 : Int32).toInt ∧ (0 : Int32).toInt ≤ 1 from ⟨by decide, by decide⟩)) hE hZ (uwV m_64_18 m_49_20 m_49_21 m_3_16 m_49_22) (hdV 1 (by decide +kernel) rfl) ⟨Nat.le_of_ble_eq_true rfl, Nat.le_of_ble_eq_true rfl⟩ rfl rfl (ci := 5) (q0 := 18) rfl rfl rfl hl.1 (Nat.le_of_ble_eq_true rfl) dX11_go_8 ⟨Nat.le_of_ble_eq_true rfl, Nat.le_of_ble_eq_true rfl⟩ (fun r_4 t_3 H locs hw hP hD hS => ?_)
  obtain ⟨h_6, h_7, p_8, p_9⟩ := hw
  replace p_8 : r_4.toInt = 1 → ∃ a, d.1 916 = some a := p_8
  replace p_9 : r_4.toInt = 1 → (t.1 18 1).toInt < (t.1 18 2).toInt := p_9
  refine lv_if_ne (tgt := 16) C.1 C.2.1 dX11_go_11 (by decide) (fun c_10 => ?_) (fun c_10 => ?_)
  · replace c_10 : ¬ r_4.toInt = 0 := i_ne c_10
    refine lv_aload_n C.1 C.2.1 dX11_go_16 rfl (lv_at hl 0 rfl) ?_
    refine k_get (v := .ref (ad 4)) C hP 0 rfl rfl inlX11 4 (by decide) m_2_9 rfl dX11_go_17 ?_
    refine g_Vv (As := []) (rest := []) C hP hD hS hA (T_X2_clear l D K Z Y ad d t hok ) hE hZ (uwV m_11_0 m_11_1 m_11_2 m_1_23 m_11_3) (hdV 0 (by decide +kernel) rfl) ⟨Nat.le_of_ble_eq_true rfl, Nat.le_of_ble_eq_true rfl⟩ rfl rfl (ci := 1) (q0 := 4) rfl rfl rfl hl.1 (Nat.le_of_ble_eq_true rfl) dX11_go_20 ⟨Nat.le_of_ble_eq_true rfl, Nat.le_of_ble_eq_true rfl⟩ (fun t_11 H locs hw hP hD hS => ?_)
    obtain ⟨hok, f_13⟩ := hw
    have hfr : frA [(3, 8), (4, 3), (4, 4), (4, 5), (4, 8), (4, 9), (4, 10), (5, 19), (18, 1), (18, 3)] [(4, 6), (4, 7)] [10, 15, 22] [13] t t_11 := frA_tr hfr f_13 rfl
    have h_14 : (t_11.1 18 1).toInt = (t.1 18 1).toInt := ti_eq (f_13.1 18 1 rfl)
    have h_15 : (t_11.1 18 2).toInt = (t.1 18 2).toInt := ti_eq (f_13.1 18 2 rfl)
    have h_16 : (0 : Int) ≤ (t_11.1 18 1).toInt ∧ (t_11.1 18 1).toInt ≤ 2701 := hok.1 18 1
    have h_17 : (0 : Int) ≤ (t_11.1 18 2).toInt ∧ (t_11.1 18 2).toInt ≤ 2700 := hok.1 18 2
    refine lv_aload_n C.1 C.2.1 dX11_go_23 rfl (lv_at hl 0 rfl) ?_
    refine k_get (v := .ref (ad 5)) C hP 0 rfl rfl inlX11 5 (by decide) m_2_10 rfl dX11_go_24 ?_
    refine lv_iconst (v := 0) C.1 C.2.1 dX11_go_27 (by decide) ?_
    refine k_put (ws' := (WX d) K ad (uI t_11 5 19 0)) (v := .int 0) C hP hD hS 5 rfl rfl inlX0 tyX0_ok nmX0 19 (by decide) m_64_16 rfl (by decide) (by decide) rfl rfl dX11_go_28 (fun H locs hP hD hS => ?_)
    have hok : okX (uI t_11 5 19 0) := ⟨okI_I hok.1 5 19 0 (show (0 : Int) ≤ (0 : Int32).toInt ∧ (0 : Int32).toInt ≤ 1 from ⟨by decide, by decide⟩), hok.2.1, trivial⟩
    have hfr : frA [(3, 8), (4, 3), (4, 4), (4, 5), (4, 8), (4, 9), (4, 10), (5, 19), (18, 1), (18, 3)] [(4, 6), (4, 7)] [10, 15, 22] [13] t (uI t_11 5 19 0) := frA_I hfr 5 19 _ rfl
    refine lv_aload_n C.1 C.2.1 dX11_go_31 rfl (lv_at hl 0 rfl) ?_
    refine k_get (v := .ref (ad 3)) C hP 0 rfl rfl inlX11 3 (by decide) m_2_8 rfl dX11_go_32 ?_
    refine k_get (v := .ref (ad 18)) C hP 3 rfl rfl inlX10 9 (by decide) m_43_16 rfl dX11_go_35 ?_
    refine lv_aload_n C.1 C.2.1 dX11_go_38 rfl (lv_at hl 0 rfl) ?_
    refine k_get (v := .ref (ad 4)) C hP 0 rfl rfl inlX11 4 (by decide) m_2_9 rfl dX11_go_39 ?_
    refine k_get (v := .ref (ad 10)) C hP 4 rfl rfl inlX2 0 (by decide) m_64_17 rfl dX11_go_42 ?_
    refine lv_sipush (v := 3999) C.1 C.2.1 dX11_go_45 (by decide) ?_
    refine g_Vv (As := [.ref (ad 10), .int 3999]) (rest := []) C hP hD hS hA (T_X6_take l D K Z Y ad d (uI t_11 5 19 0) hok hod 3999 (show (3999 : Int) ≤ (3999 : Int32).toInt ∧ (3999 : Int32).toInt ≤ 3999 from ⟨by decide, by decide⟩)) hE hZ (uwV m_64_19 m_52_20 m_52_21 m_3_16 m_52_22) (hdV 2 (by decide +kernel) rfl) ⟨Nat.le_of_ble_eq_true rfl, Nat.le_of_ble_eq_true rfl⟩ rfl rfl (ci := 5) (q0 := 18) rfl rfl rfl hl.1 (Nat.le_of_ble_eq_true rfl) dX11_go_48 ⟨Nat.le_of_ble_eq_true rfl, Nat.le_of_ble_eq_true rfl⟩ (fun t_18 H locs hw hP hD hS => ?_)
    obtain ⟨hok, f_20⟩ := hw
    have hfr : frA [(3, 8), (4, 3), (4, 4), (4, 5), (4, 8), (4, 9), (4, 10), (5, 19), (18, 1), (18, 3)] [(4, 6), (4, 7)] [10, 15, 22] [13] t t_18 := frA_tr hfr f_20 rfl
    have h_21 : (t_18.1 5 19).toInt = 0 := by rw [show (t_18.1 5 19) = (0 : Int32) from f_20.1 5 19 rfl]; rfl
    have h_22 : (t_18.1 18 2).toInt = (t_11.1 18 2).toInt := ti_eq (f_20.1 18 2 rfl)
    have h_23 : (0 : Int) ≤ (t_18.1 18 1).toInt ∧ (t_18.1 18 1).toInt ≤ 2701 := hok.1 18 1
    have h_24 : (0 : Int) ≤ (t_18.1 18 2).toInt ∧ (t_18.1 18 2).toInt ≤ 2700 := hok.1 18 2
    refine lv_aload_n C.1 C.2.1 dX11_go_51 rfl (lv_at hl 0 rfl) ?_
    refine k_get (v := .ref (ad 4)) C hP 0 rfl rfl inlX11 4 (by decide) m_2_9 rfl dX11_go_52 ?_
    refine lv_iconst (v := 0) C.1 C.2.1 dX11_go_55 (by decide) ?_
    refine g_Vv (As := [.int 0]) (rest := []) C hP hD hS hA (T_X2_start l D K Z Y ad d t_18 hok 0 (show (-1073741824 : Int) ≤ (0 : Int32).toInt ∧ (0 : Int32).toInt ≤ 2147483647 from ⟨by decide, by decide⟩)) hE hZ (uwV m_28_12 m_28_13 m_28_14 m_1_23 m_28_15) (hdV 1 (by decide +kernel) rfl) ⟨Nat.le_of_ble_eq_true rfl, Nat.le_of_ble_eq_true rfl⟩ rfl rfl (ci := 1) (q0 := 4) rfl rfl rfl hl.1 (Nat.le_of_ble_eq_true rfl) dX11_go_56 ⟨Nat.le_of_ble_eq_true rfl, Nat.le_of_ble_eq_true rfl⟩ (fun t_25 H locs hw hP hD hS => ?_)
    obtain ⟨hok, f_27⟩ := hw
    have hfr : frA [(3, 8), (4, 3), (4, 4), (4, 5), (4, 8), (4, 9), (4, 10), (5, 19), (18, 1), (18, 3)] [(4, 6), (4, 7)] [10, 15, 22] [13] t t_25 := frA_tr hfr f_27 rfl
    have h_28 : (t_25.1 5 19).toInt = (t_18.1 5 19).toInt := ti_eq (f_27.1 5 19 rfl)
    have h_29 : (t_25.1 18 1).toInt = (t_18.1 18 1).toInt := ti_eq (f_27.1 18 1 rfl)
    have h_30 : (t_25.1 18 2).toInt = (t_18.1 18 2).toInt := ti_eq (f_27.1 18 2 rfl)
    have h_31 : (0 : Int) ≤ (t_25.1 18 1).toInt ∧ (t_25.1 18 1).toInt ≤ 2701 := hok.1 18 1
    have h_32 : (0 : Int) ≤ (t_25.1 18 2).toInt ∧ (t_25.1 18 2).toInt ≤ 2700 := hok.1 18 2
    refine lv_iconst (v := 1) C.1 C.2.1 dX11_go_59 (by decide) ?_
    exact g_iret C hr hlocks hP hD hS (by decide) t_25 rfl ⟨hok, hfr, by decide, by decide⟩ (Nat.le_of_ble_eq_true rfl) (Nat.le_of_ble_eq_true rfl) dX11_go_60
  · replace c_10 : r_4.toInt = 0 := i_eq c_10
    refine lv_iconst (v := 0) C.1 C.2.1 dX11_go_14 (by decide) ?_
    exact g_iret C hr hlocks hP hD hS (by decide) t rfl ⟨hok, hfr, by decide, by decide⟩ (Nat.le_of_ble_eq_true rfl) (Nat.le_of_ble_eq_true rfl) dX11_go_15

theorem dX11_mount_0 : decode cX11_mount 0 = .ok (.aload_n 0, 1) := by decide +kernel
theorem dX11_mount_1 : decode cX11_mount 1 = .ok (.invokevirtual 78, 3) := by decide +kernel
theorem dX11_mount_10 : decode cX11_mount 10 = .ok (.istore 4, 2) := by decide +kernel
theorem dX11_mount_100 : decode cX11_mount 100 = .ok (.ireturn, 1) := by decide +kernel
theorem dX11_mount_12 : decode cX11_mount 12 = .ok (.iload 4, 2) := by decide +kernel
theorem dX11_mount_14 : decode cX11_mount 14 = .ok (.bipush 100, 2) := by decide +kernel
theorem dX11_mount_16 : decode cX11_mount 16 = .ok (.iadd, 1) := by decide +kernel
theorem dX11_mount_17 : decode cX11_mount 17 = .ok (.iconst 1, 1) := by decide +kernel
theorem dX11_mount_18 : decode cX11_mount 18 = .ok (.isub, 1) := by decide +kernel
theorem dX11_mount_19 : decode cX11_mount 19 = .ok (.bipush 100, 2) := by decide +kernel
theorem dX11_mount_21 : decode cX11_mount 21 = .ok (.idiv, 1) := by decide +kernel
theorem dX11_mount_22 : decode cX11_mount 22 = .ok (.istore 5, 2) := by decide +kernel
theorem dX11_mount_24 : decode cX11_mount 24 = .ok (.iload_n 1, 1) := by decide +kernel
theorem dX11_mount_25 : decode cX11_mount 25 = .ok (.ifCond .lt 28, 3) := by decide +kernel
theorem dX11_mount_28 : decode cX11_mount 28 = .ok (.iload_n 1, 1) := by decide +kernel
theorem dX11_mount_29 : decode cX11_mount 29 = .ok (.bipush 16, 2) := by decide +kernel
theorem dX11_mount_31 : decode cX11_mount 31 = .ok (.if_icmp .ge 22, 3) := by decide +kernel
theorem dX11_mount_34 : decode cX11_mount 34 = .ok (.iload_n 2, 1) := by decide +kernel
theorem dX11_mount_35 : decode cX11_mount 35 = .ok (.ifCond .lt 18, 3) := by decide +kernel
theorem dX11_mount_38 : decode cX11_mount 38 = .ok (.iload_n 2, 1) := by decide +kernel
theorem dX11_mount_39 : decode cX11_mount 39 = .ok (.bipush 64, 2) := by decide +kernel
theorem dX11_mount_4 : decode cX11_mount 4 = .ok (.istore_n 3, 1) := by decide +kernel
theorem dX11_mount_41 : decode cX11_mount 41 = .ok (.if_icmp .ge 12, 3) := by decide +kernel
theorem dX11_mount_44 : decode cX11_mount 44 = .ok (.iload_n 2, 1) := by decide +kernel
theorem dX11_mount_45 : decode cX11_mount 45 = .ok (.iload 5, 2) := by decide +kernel
theorem dX11_mount_47 : decode cX11_mount 47 = .ok (.iadd, 1) := by decide +kernel
theorem dX11_mount_48 : decode cX11_mount 48 = .ok (.bipush 64, 2) := by decide +kernel
theorem dX11_mount_5 : decode cX11_mount 5 = .ok (.iload_n 3, 1) := by decide +kernel
theorem dX11_mount_50 : decode cX11_mount 50 = .ok (.if_icmp .le 5, 3) := by decide +kernel
theorem dX11_mount_53 : decode cX11_mount 53 = .ok (.iconst (-1), 1) := by decide +kernel
theorem dX11_mount_54 : decode cX11_mount 54 = .ok (.ireturn, 1) := by decide +kernel
theorem dX11_mount_55 : decode cX11_mount 55 = .ok (.iconst 0, 1) := by decide +kernel
theorem dX11_mount_56 : decode cX11_mount 56 = .ok (.istore 6, 2) := by decide +kernel
theorem dX11_mount_58 : decode cX11_mount 58 = .ok (.iload 6, 2) := by decide +kernel
theorem dX11_mount_6 : decode cX11_mount 6 = .ok (.iconst 4, 1) := by decide +kernel
theorem dX11_mount_60 : decode cX11_mount 60 = .ok (.iload 5, 2) := by decide +kernel
theorem dX11_mount_62 : decode cX11_mount 62 = .ok (.bipush 100, 2) := by decide +kernel
theorem dX11_mount_64 : decode cX11_mount 64 = .ok (.imul, 1) := by decide +kernel
theorem dX11_mount_65 : decode cX11_mount 65 = .ok (.if_icmp .ge 33, 3) := by decide +kernel
theorem dX11_mount_68 : decode cX11_mount 68 = .ok (.aload_n 0, 1) := by decide +kernel
theorem dX11_mount_69 : decode cX11_mount 69 = .ok (.getfield 40, 3) := by decide +kernel
theorem dX11_mount_7 : decode cX11_mount 7 = .ok (.iadd, 1) := by decide +kernel
theorem dX11_mount_72 : decode cX11_mount 72 = .ok (.iload_n 1, 1) := by decide +kernel
theorem dX11_mount_73 : decode cX11_mount 73 = .ok (.iload_n 2, 1) := by decide +kernel
theorem dX11_mount_74 : decode cX11_mount 74 = .ok (.bipush 100, 2) := by decide +kernel
theorem dX11_mount_76 : decode cX11_mount 76 = .ok (.imul, 1) := by decide +kernel
theorem dX11_mount_77 : decode cX11_mount 77 = .ok (.iload 6, 2) := by decide +kernel
theorem dX11_mount_79 : decode cX11_mount 79 = .ok (.iadd, 1) := by decide +kernel
theorem dX11_mount_8 : decode cX11_mount 8 = .ok (.iconst 5, 1) := by decide +kernel
theorem dX11_mount_80 : decode cX11_mount 80 = .ok (.aload_n 0, 1) := by decide +kernel
theorem dX11_mount_81 : decode cX11_mount 81 = .ok (.iconst 5, 1) := by decide +kernel
theorem dX11_mount_82 : decode cX11_mount 82 = .ok (.iload 6, 2) := by decide +kernel
theorem dX11_mount_84 : decode cX11_mount 84 = .ok (.imul, 1) := by decide +kernel
theorem dX11_mount_85 : decode cX11_mount 85 = .ok (.iload_n 3, 1) := by decide +kernel
theorem dX11_mount_86 : decode cX11_mount 86 = .ok (.invokevirtual 178, 3) := by decide +kernel
theorem dX11_mount_89 : decode cX11_mount 89 = .ok (.invokevirtual 181, 3) := by decide +kernel
theorem dX11_mount_9 : decode cX11_mount 9 = .ok (.idiv, 1) := by decide +kernel
theorem dX11_mount_92 : decode cX11_mount 92 = .ok (.iinc 6 1, 3) := by decide +kernel
theorem dX11_mount_95 : decode cX11_mount 95 = .ok (.goto (-37), 3) := by decide +kernel
theorem dX11_mount_98 : decode cX11_mount 98 = .ok (.iload 5, 2) := by decide +kernel
set_option maxHeartbeats 4000000 in
set_option maxRecDepth 100000 in
theorem T_X11_mount (l : Launch) (D : va_G) (K : Nat → ClassId) (Z Y : Nat → Nat) (ad : Nat → Nat) (d : dSt) (t : tSt) (hok : okX t) (hod : okD d) (x1 : Int32) (x2 : Int32) : dMet l yX11_mount cX11_mount 7 (some .int) (rmD 7 8000 2240000) D K Z Y [.ref (ad 0), .int x1, .int x2] ((WX d) K ad t) (QDI D K ad d (fun (r : Int32) (u : tSt) (dd : dSt) => okX u ∧ frA [(0, 1)] [] [11] [] t u ∧ okD dd ∧ (-1 : Int) ≤ r.toInt ∧ r.toInt ≤ 8 ∧ ((u.1 0 1).toInt = 0))) 8000 2240000 := by
  refine d_met d RX11 ⟨rfl, by decide +kernel⟩ (Nat.le_of_ble_eq_true rfl) ?_
  intro p e s m below meth c A ls C hE hZ hX hr hlocks hA hP hD hS hl
  have hl : lv_has ls 7 [(0, .ref (ad 0)), (1, .int x1), (2, .int x2)] := hl
  have hle : dLe d d := dLe_rf
  have hdf : dFr s.heap.size d d := dFr_rf
  have hokt := hok
  have hfr : frA [(0, 1)] [] [11] [] t t := frA_rf
  have h_1 : (0 : Int) ≤ (t.1 0 1).toInt ∧ (t.1 0 1).toInt ≤ 1280 := hok.1 0 1
  have L_58 : ∀ (fuel_58 : Nat) (t1 : tSt) (d1 : dSt) (w58_3 : Int32) (w58_4 : Int32) (w58_5 : Int32) (w58_6 : Int32) (H : Heap) (locs : List Loc) (ls : Array Slot), okX t1 → frA [(0, 1)] [] [11] [] t t1 → okD d1 → dLe d d1 → dFr s.heap.size d d1 → (0 : Int) ≤ x1.toInt ∧ x1.toInt ≤ 15 → (0 : Int) ≤ x2.toInt ∧ x2.toInt ≤ 63 → (0 : Int) ≤ w58_3.toInt ∧ w58_3.toInt ≤ 3999 → (0 : Int) ≤ w58_4.toInt ∧ w58_4.toInt ≤ 800 → (0 : Int) ≤ w58_5.toInt ∧ w58_5.toInt ≤ 8 → (0 : Int) ≤ w58_6.toInt ∧ w58_6.toInt ≤ 999 → ((t1.1 0 1).toInt = 0) → (w58_3.toInt ≤ 1280) → (999 : Int) - w58_6.toInt < (fuel_58 : Int) → va_P D vwCl ((WX d1) K ad t1) H → va_D A ((WX d1) K ad t1) → va_S A s.heap H locs → lv_has ls 7 [(0, .ref (ad 0)), (1, .int x1), (2, .int x2), (3, .int w58_3), (4, .int w58_4), (5, .int w58_5), (6, .int w58_6)] → W p l e (rmD 7 8000 2240000) s m [.ref (ad 0), .int x1, .int x2].toArray below meth c H locs (newC d d1) 246800 (MQ below (QDI D K ad d (fun (r : Int32) (u : tSt) (dd : dSt) => okX u ∧ frA [(0, 1)] [] [11] [] t u ∧ okD dd ∧ (-1 : Int) ≤ r.toInt ∧ r.toInt ≤ 8 ∧ ((u.1 0 1).toInt = 0)) s.heap.size A) [.ref (ad 0), .int x1, .int x2].toArray s 8000 2240000 A) (F0 m 58 ls []) := by
    intro fuel_58
    induction fuel_58 with
    | zero =>
      intro t1 d1 w58_3 w58_4 w58_5 w58_6 H locs ls hok hfr hod hle hdf hx58_1 hx58_2 hw58_3 hw58_4 hw58_5 hw58_6 hi58_0 hi58_1 hm58_58 hP hD hS hl
      have h_2 : (0 : Int) ≤ (t1.1 0 1).toInt ∧ (t1.1 0 1).toInt ≤ 1280 := hok.1 0 1
      exact absurd hm58_58 (by omega)
    | succ fuel_58 ih_58 =>
      intro t1 d1 w58_3 w58_4 w58_5 w58_6 H locs ls hok hfr hod hle hdf hx58_1 hx58_2 hw58_3 hw58_4 hw58_5 hw58_6 hi58_0 hi58_1 hm58_58 hP hD hS hl
      have hm58_58 : (999 : Int) - w58_6.toInt < (fuel_58 : Int) + 1 := by omega
      have h_3 : (0 : Int) ≤ (t1.1 0 1).toInt ∧ (t1.1 0 1).toInt ≤ 1280 := hok.1 0 1
      refine lv_iload C.1 C.2.1 dX11_mount_58 (lv_at hl 6 rfl) ?_
      refine lv_iload C.1 C.2.1 dX11_mount_60 (lv_at hl 5 rfl) ?_
      refine lv_bipush (v := 100) C.1 C.2.1 dX11_mount_62 (by decide) ?_
      obtain ⟨v_4, e_5⟩ : ∃ z, z = (w58_5 : Int32) * (100 : Int32) := ⟨_, rfl⟩
      have h_6 : v_4.toInt = w58_5.toInt * 100 := by rw [e_5]; exact ti_mulr (k := 100) (by decide) (by omega) (by omega)
      refine k_imul (v := v_4) C e_5.symm dX11_mount_64 ?_
      refine lv_icmp_ge (tgt := 98) C.1 C.2.1 dX11_mount_65 (by decide) (fun c_7 => ?_) (fun c_7 => ?_)
      · replace c_7 : v_4.toInt ≤ w58_6.toInt := i_le c_7
        refine lv_iload C.1 C.2.1 dX11_mount_98 (lv_at hl 5 rfl) ?_
        exact g_Diret C hr hlocks hP hD hS rfl ⟨hok, hfr, hod, by omega, by omega, (show (t1.1 0 1).toInt = 0 from by omega)⟩ hle hdf (Nat.le_of_ble_eq_true rfl) (Nat.le_of_ble_eq_true rfl) dX11_mount_100
      · replace c_7 : w58_6.toInt < v_4.toInt := i_nle c_7
        refine lv_aload_n C.1 C.2.1 dX11_mount_68 rfl (lv_at hl 0 rfl) ?_
        refine k_get (v := .ref (ad 3)) C hP 0 rfl rfl inlX11 3 (by decide) m_2_8 rfl dX11_mount_69 ?_
        refine lv_iload_n C.1 C.2.1 dX11_mount_72 rfl (lv_at hl 1 rfl) ?_
        refine lv_iload_n C.1 C.2.1 dX11_mount_73 rfl (lv_at hl 2 rfl) ?_
        refine lv_bipush (v := 100) C.1 C.2.1 dX11_mount_74 (by decide) ?_
        obtain ⟨v_8, e_9⟩ : ∃ z, z = (x2 : Int32) * (100 : Int32) := ⟨_, rfl⟩
        have h_10 : v_8.toInt = x2.toInt * 100 := by rw [e_9]; exact ti_mulr (k := 100) (by decide) (by omega) (by omega)
        refine k_imul (v := v_8) C e_9.symm dX11_mount_76 ?_
        refine lv_iload C.1 C.2.1 dX11_mount_77 (lv_at hl 6 rfl) ?_
        obtain ⟨v_11, e_12⟩ : ∃ z, z = (v_8 : Int32) + (w58_6 : Int32) := ⟨_, rfl⟩
        have h_13 : v_11.toInt = v_8.toInt + w58_6.toInt := by rw [e_12]; exact ti_iadd (by show (_ : Int) ≤ v_8.toInt + w58_6.toInt; omega) (by show v_8.toInt + w58_6.toInt < (_ : Int); omega)
        refine k_iadd (v := v_11) C e_12.symm dX11_mount_79 ?_
        refine lv_aload_n C.1 C.2.1 dX11_mount_80 rfl (lv_at hl 0 rfl) ?_
        refine lv_iconst (v := 5) C.1 C.2.1 dX11_mount_81 (by decide) ?_
        refine lv_iload C.1 C.2.1 dX11_mount_82 (lv_at hl 6 rfl) ?_
        obtain ⟨v_14, e_15⟩ : ∃ z, z = (5 : Int32) * (w58_6 : Int32) := ⟨_, rfl⟩
        have h_16 : v_14.toInt = 5 * w58_6.toInt := by rw [e_15]; exact ti_mull (k := 5) (by decide) (by omega) (by omega)
        refine k_imul (v := v_14) C e_15.symm dX11_mount_84 ?_
        refine lv_iload_n C.1 C.2.1 dX11_mount_85 rfl (lv_at hl 3 rfl) ?_
        refine hz_Vi (As := [.int v_14, .int w58_3]) (rest := [.int v_11, .int x1, .ref (ad 3)]) C hP hD hS hA (T_X11_tapeWord l D K Z Y ad d1 t1 hok (v_14) (show (0 : Int) ≤ (v_14 : Int32).toInt ∧ (v_14 : Int32).toInt ≤ 40000 from ⟨by omega, by omega⟩) (w58_3) (show (0 : Int) ≤ (w58_3 : Int32).toInt ∧ (w58_3 : Int32).toInt ≤ 1280 from ⟨by omega, by omega⟩)) hE hZ (uwV m_70_20 m_70_21 m_70_22 m_1_2 m_70_23) (hdV 2 (by decide +kernel) rfl) ⟨Nat.le_of_ble_eq_true rfl, Nat.le_of_ble_eq_true rfl⟩ rfl rfl (ci := 10) (q0 := 0) rfl rfl rfl hl.1 (Nat.le_of_ble_eq_true rfl) dX11_mount_86 ⟨Nat.le_trans (newC_le _ _) (Nat.le_of_ble_eq_true rfl), (Nat.le_of_ble_eq_true rfl)⟩ (fun r_18 t_17 H locs hw hP hD hS => ?_)
        obtain ⟨h_20, h_21⟩ := hw
        refine g_DVv (As := [.int x1, .int v_11, .int r_18]) (rest := []) C hP hD hS hA (T_X10_store l D K Z Y ad d1 t1 hok hod (x1) (show (0 : Int) ≤ (x1 : Int32).toInt ∧ (x1 : Int32).toInt ≤ 15 from ⟨by omega, by omega⟩) (v_11) (r_18)) hE hZ hX hle hdf (uwV m_71_1 m_53_18 m_53_19 m_1_20 m_53_20) (hdV 3 (by decide +kernel) rfl) ⟨Nat.le_of_ble_eq_true rfl, Nat.le_of_ble_eq_true rfl⟩ rfl rfl (ci := 9) (q0 := 3) rfl rfl rfl hl.1 (Nat.le_of_ble_eq_true rfl) dX11_mount_89 ⟨Nat.le_of_ble_eq_true rfl, Nat.le_of_ble_eq_true rfl⟩ (fun t_22 d_24 H locs hw hP hD hS hln hle hdf => ?_)
        obtain ⟨hok, f_25, hod⟩ := hw
        have hfr : frA [(0, 1)] [] [11] [] t t_22 := frA_tr hfr f_25 rfl
        have h_26 : (t_22.1 0 1).toInt = (t1.1 0 1).toInt := ti_eq (f_25.1 0 1 rfl)
        have h_27 : (0 : Int) ≤ (t_22.1 0 1).toInt ∧ (t_22.1 0 1).toInt ≤ 1280 := hok.1 0 1
        obtain ⟨v_28, e_29⟩ : ∃ z, z = w58_6 + 1 := ⟨_, rfl⟩
        have h_30 : v_28.toInt = w58_6.toInt + 1 := by rw [e_29]; exact ti_iadd (by show (_ : Int) ≤ w58_6.toInt + 1; omega) (by show w58_6.toInt + 1 < (_ : Int); omega)
        refine lv_iinc (v := v_28) (lv' := [(6, .int v_28), (0, .ref (ad 0)), (1, .int x1), (2, .int x2), (3, .int w58_3), (4, .int w58_4), (5, .int w58_5)]) C.1 C.2.1 dX11_mount_92 hl (k := 6) rfl e_29.symm (by decide) rfl (fun ls hl => ?_)
        have hl : lv_has ls 7 [(0, .ref (ad 0)), (1, .int x1), (2, .int x2), (3, .int w58_3), (4, .int w58_4), (5, .int w58_5), (6, .int v_28)] := lv_sub hl [1, 2, 3, 4, 5, 6, 0] rfl
        refine lv_goto (tgt := 58) C.1 C.2.1 dX11_mount_95 (by decide) ?_
        exact ih_58 t_22 d_24 w58_3 w58_4 w58_5 v_28 _ _ _ hok hfr hod hle hdf ⟨by omega, by omega⟩ ⟨by omega, by omega⟩ ⟨by omega, by omega⟩ ⟨by omega, by omega⟩ ⟨by omega, by omega⟩ ⟨by omega, by omega⟩ (show (t_22.1 0 1).toInt = 0 from by omega) (show w58_3.toInt ≤ 1280 from by omega) (show (999 : Int) - v_28.toInt < (fuel_58 : Int) from by omega) hP hD hS (lv_sub hl [0, 1, 2, 3, 4, 5, 6] rfl)
  refine lv_aload_n C.1 C.2.1 dX11_mount_0 rfl (lv_at hl 0 rfl) ?_
  refine hz_Vi (As := []) (rest := []) C hP hD hS hA (T_X11_useUpTape l D K Z Y ad d t hok ) hE hZ (uwV m_10_20 m_10_21 m_10_22 m_1_2 m_10_23) (hdV 0 (by decide +kernel) rfl) ⟨Nat.le_of_ble_eq_true rfl, Nat.le_of_ble_eq_true rfl⟩ rfl rfl (ci := 10) (q0 := 0) rfl rfl rfl hl.1 (Nat.le_of_ble_eq_true rfl) dX11_mount_1 ⟨Nat.le_trans (newC_le _ _) (Nat.le_of_ble_eq_true rfl), (Nat.le_of_ble_eq_true rfl)⟩ (fun r_32 t_31 H locs hw hP hD hS => ?_)
  obtain ⟨hok, f_33, h_34, h_35, p_36, p_37⟩ := hw
  have hfr : frA [(0, 1)] [] [11] [] t t_31 := frA_tr hfr f_33 rfl
  have h_38 : (0 : Int) ≤ (t_31.1 0 1).toInt ∧ (t_31.1 0 1).toInt ≤ 1280 := hok.1 0 1
  replace p_36 : r_32.toInt = (t.1 0 1).toInt := p_36
  replace p_37 : (t_31.1 0 1).toInt = 0 := p_37
  refine lv_istore_n (lv' := [(3, .int r_32), (0, .ref (ad 0)), (1, .int x1), (2, .int x2)]) C.1 C.2.1 dX11_mount_4 rfl hl (by decide) rfl (fun ls hl => ?_)
  have hl : lv_has ls 7 [(0, .ref (ad 0)), (1, .int x1), (2, .int x2), (3, .int r_32)] := lv_sub hl [1, 2, 3, 0] rfl
  refine lv_iload_n C.1 C.2.1 dX11_mount_5 rfl (lv_at hl 3 rfl) ?_
  refine lv_iconst (v := 4) C.1 C.2.1 dX11_mount_6 (by decide) ?_
  obtain ⟨v_39, e_40⟩ : ∃ z, z = (r_32 : Int32) + (4 : Int32) := ⟨_, rfl⟩
  have h_41 : v_39.toInt = r_32.toInt + 4 := by rw [e_40]; exact ti_iadd (by show (_ : Int) ≤ r_32.toInt + 4; omega) (by show r_32.toInt + 4 < (_ : Int); omega)
  refine k_iadd (v := v_39) C e_40.symm dX11_mount_7 ?_
  refine lv_iconst (v := 5) C.1 C.2.1 dX11_mount_8 (by decide) ?_
  obtain ⟨v_42, e_43⟩ : ∃ z, z = (v_39 : Int32) / (5 : Int32) := ⟨_, rfl⟩
  have h_44 : v_42.toInt = v_39.toInt / 5 := by rw [e_43]; exact z_divp (k := 5) (by decide) (by decide) (by show (0 : Int) ≤ v_39.toInt; omega)
  refine k_idiv (v := v_42) C (by decide) e_43.symm dX11_mount_9 ?_
  refine lv_istore (lv' := [(4, .int v_42), (0, .ref (ad 0)), (1, .int x1), (2, .int x2), (3, .int r_32)]) C.1 C.2.1 dX11_mount_10 hl (by decide) rfl (fun ls hl => ?_)
  have hl : lv_has ls 7 [(0, .ref (ad 0)), (1, .int x1), (2, .int x2), (3, .int r_32), (4, .int v_42)] := lv_sub hl [1, 2, 3, 4, 0] rfl
  refine lv_iload C.1 C.2.1 dX11_mount_12 (lv_at hl 4 rfl) ?_
  refine lv_bipush (v := 100) C.1 C.2.1 dX11_mount_14 (by decide) ?_
  obtain ⟨v_45, e_46⟩ : ∃ z, z = (v_42 : Int32) + (100 : Int32) := ⟨_, rfl⟩
  have h_47 : v_45.toInt = v_42.toInt + 100 := by rw [e_46]; exact ti_iadd (by show (_ : Int) ≤ v_42.toInt + 100; omega) (by show v_42.toInt + 100 < (_ : Int); omega)
  refine k_iadd (v := v_45) C e_46.symm dX11_mount_16 ?_
  refine lv_iconst (v := 1) C.1 C.2.1 dX11_mount_17 (by decide) ?_
  obtain ⟨v_48, e_49⟩ : ∃ z, z = (v_45 : Int32) - (1 : Int32) := ⟨_, rfl⟩
  have h_50 : v_48.toInt = v_45.toInt - 1 := by rw [e_49]; exact ti_isub (by show (_ : Int) ≤ v_45.toInt - 1; omega) (by show v_45.toInt - 1 < (_ : Int); omega)
  refine k_isub (v := v_48) C e_49.symm dX11_mount_18 ?_
  refine lv_bipush (v := 100) C.1 C.2.1 dX11_mount_19 (by decide) ?_
  obtain ⟨v_51, e_52⟩ : ∃ z, z = (v_48 : Int32) / (100 : Int32) := ⟨_, rfl⟩
  have h_53 : v_51.toInt = v_48.toInt / 100 := by rw [e_52]; exact z_divp (k := 100) (by decide) (by decide) (by show (0 : Int) ≤ v_48.toInt; omega)
  refine k_idiv (v := v_51) C (by decide) e_52.symm dX11_mount_21 ?_
  refine lv_istore (lv' := [(5, .int v_51), (0, .ref (ad 0)), (1, .int x1), (2, .int x2), (3, .int r_32), (4, .int v_42)]) C.1 C.2.1 dX11_mount_22 hl (by decide) rfl (fun ls hl => ?_)
  have hl : lv_has ls 7 [(0, .ref (ad 0)), (1, .int x1), (2, .int x2), (3, .int r_32), (4, .int v_42), (5, .int v_51)] := lv_sub hl [1, 2, 3, 4, 5, 0] rfl
  refine lv_iload_n C.1 C.2.1 dX11_mount_24 rfl (lv_at hl 1 rfl) ?_
  refine lv_if_lt (tgt := 53) C.1 C.2.1 dX11_mount_25 (by decide) (fun c_54 => ?_) (fun c_54 => ?_)
  · replace c_54 : x1.toInt < 0 := i_lt c_54
    refine lv_iconst (v := (-1)) C.1 C.2.1 dX11_mount_53 (by decide) ?_
    exact g_Diret C hr hlocks hP hD hS rfl ⟨hok, hfr, hod, by decide, by decide, (show (t_31.1 0 1).toInt = 0 from by omega)⟩ hle hdf (Nat.le_of_ble_eq_true rfl) (Nat.le_of_ble_eq_true rfl) dX11_mount_54
  · replace c_54 : 0 ≤ x1.toInt := i_nlt c_54
    refine lv_iload_n C.1 C.2.1 dX11_mount_28 rfl (lv_at hl 1 rfl) ?_
    refine lv_bipush (v := 16) C.1 C.2.1 dX11_mount_29 (by decide) ?_
    refine lv_icmp_ge (tgt := 53) C.1 C.2.1 dX11_mount_31 (by decide) (fun c_55 => ?_) (fun c_55 => ?_)
    · replace c_55 : 16 ≤ x1.toInt := i_le c_55
      refine lv_iconst (v := (-1)) C.1 C.2.1 dX11_mount_53 (by decide) ?_
      exact g_Diret C hr hlocks hP hD hS rfl ⟨hok, hfr, hod, by decide, by decide, (show (t_31.1 0 1).toInt = 0 from by omega)⟩ hle hdf (Nat.le_of_ble_eq_true rfl) (Nat.le_of_ble_eq_true rfl) dX11_mount_54
    · replace c_55 : x1.toInt < 16 := i_nle c_55
      refine lv_iload_n C.1 C.2.1 dX11_mount_34 rfl (lv_at hl 2 rfl) ?_
      refine lv_if_lt (tgt := 53) C.1 C.2.1 dX11_mount_35 (by decide) (fun c_56 => ?_) (fun c_56 => ?_)
      · replace c_56 : x2.toInt < 0 := i_lt c_56
        refine lv_iconst (v := (-1)) C.1 C.2.1 dX11_mount_53 (by decide) ?_
        exact g_Diret C hr hlocks hP hD hS rfl ⟨hok, hfr, hod, by decide, by decide, (show (t_31.1 0 1).toInt = 0 from by omega)⟩ hle hdf (Nat.le_of_ble_eq_true rfl) (Nat.le_of_ble_eq_true rfl) dX11_mount_54
      · replace c_56 : 0 ≤ x2.toInt := i_nlt c_56
        refine lv_iload_n C.1 C.2.1 dX11_mount_38 rfl (lv_at hl 2 rfl) ?_
        refine lv_bipush (v := 64) C.1 C.2.1 dX11_mount_39 (by decide) ?_
        refine lv_icmp_ge (tgt := 53) C.1 C.2.1 dX11_mount_41 (by decide) (fun c_57 => ?_) (fun c_57 => ?_)
        · replace c_57 : 64 ≤ x2.toInt := i_le c_57
          refine lv_iconst (v := (-1)) C.1 C.2.1 dX11_mount_53 (by decide) ?_
          exact g_Diret C hr hlocks hP hD hS rfl ⟨hok, hfr, hod, by decide, by decide, (show (t_31.1 0 1).toInt = 0 from by omega)⟩ hle hdf (Nat.le_of_ble_eq_true rfl) (Nat.le_of_ble_eq_true rfl) dX11_mount_54
        · replace c_57 : x2.toInt < 64 := i_nle c_57
          refine lv_iload_n C.1 C.2.1 dX11_mount_44 rfl (lv_at hl 2 rfl) ?_
          refine lv_iload C.1 C.2.1 dX11_mount_45 (lv_at hl 5 rfl) ?_
          obtain ⟨v_58, e_59⟩ : ∃ z, z = (x2 : Int32) + (v_51 : Int32) := ⟨_, rfl⟩
          have h_60 : v_58.toInt = x2.toInt + v_51.toInt := by rw [e_59]; exact ti_iadd (by show (_ : Int) ≤ x2.toInt + v_51.toInt; omega) (by show x2.toInt + v_51.toInt < (_ : Int); omega)
          refine k_iadd (v := v_58) C e_59.symm dX11_mount_47 ?_
          refine lv_bipush (v := 64) C.1 C.2.1 dX11_mount_48 (by decide) ?_
          refine lv_icmp_le (tgt := 55) C.1 C.2.1 dX11_mount_50 (by decide) (fun c_61 => ?_) (fun c_61 => ?_)
          · replace c_61 : v_58.toInt ≤ 64 := i_le c_61
            refine lv_iconst (v := 0) C.1 C.2.1 dX11_mount_55 (by decide) ?_
            refine lv_istore (lv' := [(6, .int 0), (0, .ref (ad 0)), (1, .int x1), (2, .int x2), (3, .int r_32), (4, .int v_42), (5, .int v_51)]) C.1 C.2.1 dX11_mount_56 hl (by decide) rfl (fun ls hl => ?_)
            have hl : lv_has ls 7 [(0, .ref (ad 0)), (1, .int x1), (2, .int x2), (3, .int r_32), (4, .int v_42), (5, .int v_51), (6, .int 0)] := lv_sub hl [1, 2, 3, 4, 5, 6, 0] rfl
            exact L_58 1000 t_31 d r_32 v_42 v_51 0 _ _ _ hok hfr hod hle hdf ⟨by omega, by omega⟩ ⟨by omega, by omega⟩ ⟨by omega, by omega⟩ ⟨by omega, by omega⟩ ⟨by omega, by omega⟩ ⟨by decide, by decide⟩ (show (t_31.1 0 1).toInt = 0 from by omega) (show r_32.toInt ≤ 1280 from by omega) (show (999 : Int) - 0 < ((1000 : Nat) : Int) from by omega) hP hD hS (lv_sub hl [0, 1, 2, 3, 4, 5, 6] rfl)
          · replace c_61 : 64 < v_58.toInt := i_nle c_61
            refine lv_iconst (v := (-1)) C.1 C.2.1 dX11_mount_53 (by decide) ?_
            exact g_Diret C hr hlocks hP hD hS rfl ⟨hok, hfr, hod, by decide, by decide, (show (t_31.1 0 1).toInt = 0 from by omega)⟩ hle hdf (Nat.le_of_ble_eq_true rfl) (Nat.le_of_ble_eq_true rfl) dX11_mount_54

theorem dX11_summary_0 : decode cX11_summary 0 = .ok (.aload_n 0, 1) := by decide +kernel
theorem dX11_summary_1 : decode cX11_summary 1 = .ok (.getfield 66, 3) := by decide +kernel
theorem dX11_summary_10 : decode cX11_summary 10 = .ok (.iconst (-1), 1) := by decide +kernel
theorem dX11_summary_11 : decode cX11_summary 11 = .ok (.goto 14, 3) := by decide +kernel
theorem dX11_summary_14 : decode cX11_summary 14 = .ok (.aload_n 0, 1) := by decide +kernel
theorem dX11_summary_15 : decode cX11_summary 15 = .ok (.getfield 57, 3) := by decide +kernel
theorem dX11_summary_18 : decode cX11_summary 18 = .ok (.aload_n 0, 1) := by decide +kernel
theorem dX11_summary_19 : decode cX11_summary 19 = .ok (.getfield 66, 3) := by decide +kernel
theorem dX11_summary_22 : decode cX11_summary 22 = .ok (.invokevirtual 216, 3) := by decide +kernel
theorem dX11_summary_25 : decode cX11_summary 25 = .ok (.ireturn, 1) := by decide +kernel
theorem dX11_summary_4 : decode cX11_summary 4 = .ok (.getfield 213, 3) := by decide +kernel
theorem dX11_summary_7 : decode cX11_summary 7 = .ok (.ifCond .ne 7, 3) := by decide +kernel
set_option maxHeartbeats 4000000 in
set_option maxRecDepth 100000 in
theorem T_X11_summary (l : Launch) (D : va_G) (K : Nat → ClassId) (Z Y : Nat → Nat) (ad : Nat → Nat) (d : dSt) (t : tSt) (hok : okX t) (hod : okD d)  : dMet l yX11_summary cX11_summary 1 (some .int) (rmD 6 7000 1960000) D K Z Y [.ref (ad 0)] ((WX d) K ad t) (QDI D K ad d (fun (r : Int32) (u : tSt) (dd : dSt) => okX u ∧ frA [(20, 3)] [] [35, 36, 37] [] t u ∧ okD dd ∧ (-2147483648 : Int) ≤ r.toInt ∧ r.toInt ≤ 2147483647)) 7000 1960000 := by
  refine d_met d RX11 ⟨rfl, by decide +kernel⟩ (Nat.le_of_ble_eq_true rfl) ?_
  intro p e s m below meth c A ls C hE hZ hX hr hlocks hA hP hD hS hl
  have hl : lv_has ls 1 [(0, .ref (ad 0))] := hl
  have hle : dLe d d := dLe_rf
  have hdf : dFr s.heap.size d d := dFr_rf
  have hokt := hok
  have hfr : frA [(20, 3)] [] [35, 36, 37] [] t t := frA_rf
  refine lv_aload_n C.1 C.2.1 dX11_summary_0 rfl (lv_at hl 0 rfl) ?_
  refine k_get (v := .ref (ad 7)) C hP 0 rfl rfl inlX11 7 (by decide) m_2_18 rfl dX11_summary_1 ?_
  have h_1 : (0 : Int) ≤ (t.1 7 12).toInt ∧ (t.1 7 12).toInt ≤ 512 := hok.1 7 12
  refine k_get (v := .int (t.1 7 12)) C hP 7 rfl rfl inlX3 12 (by decide) m_82_20 rfl dX11_summary_4 ?_
  refine lv_if_ne (tgt := 14) C.1 C.2.1 dX11_summary_7 (by decide) (fun c_2 => ?_) (fun c_2 => ?_)
  · replace c_2 : ¬ (t.1 7 12).toInt = 0 := i_ne c_2
    refine lv_aload_n C.1 C.2.1 dX11_summary_14 rfl (lv_at hl 0 rfl) ?_
    refine k_get (v := .ref (ad 6)) C hP 0 rfl rfl inlX11 6 (by decide) m_2_14 rfl dX11_summary_15 ?_
    refine lv_aload_n C.1 C.2.1 dX11_summary_18 rfl (lv_at hl 0 rfl) ?_
    refine k_get (v := .ref (ad 7)) C hP 0 rfl rfl inlX11 7 (by decide) m_2_18 rfl dX11_summary_19 ?_
    refine g_DVi (As := [.ref (ad 7)]) (rest := []) C hP hD hS hA (T_X7_printSummary l D K Z Y ad d t hok hod ) hE hZ hX hle hdf (uwV m_82_21 m_82_22 m_82_23 m_2_13 m_83_0) (hdV 1 (by decide +kernel) rfl) ⟨Nat.le_of_ble_eq_true rfl, Nat.le_of_ble_eq_true rfl⟩ rfl rfl (ci := 6) (q0 := 6) rfl rfl rfl hl.1 (Nat.le_of_ble_eq_true rfl) dX11_summary_22 ⟨Nat.le_of_ble_eq_true rfl, Nat.le_of_ble_eq_true rfl⟩ (fun r_4 t_3 d_5 H locs hw hP hD hS hln hle hdf => ?_)
    obtain ⟨hok, f_6, hod, h_7, h_8⟩ := hw
    have hfr : frA [(20, 3)] [] [35, 36, 37] [] t t_3 := frA_tr hfr f_6 rfl
    have h_9 : (t_3.1 7 12).toInt = (t.1 7 12).toInt := ti_eq (f_6.1 7 12 rfl)
    exact g_Diret C hr hlocks hP hD hS rfl ⟨hok, hfr, hod, (i_rng _).1, (i_rng _).2⟩ hle hdf (Nat.le_of_ble_eq_true rfl) (Nat.le_of_ble_eq_true rfl) dX11_summary_25
  · replace c_2 : (t.1 7 12).toInt = 0 := i_eq c_2
    refine lv_iconst (v := (-1)) C.1 C.2.1 dX11_summary_10 (by decide) ?_
    refine lv_goto (tgt := 25) C.1 C.2.1 dX11_summary_11 (by decide) ?_
    exact g_Diret C hr hlocks hP hD hS rfl ⟨hok, hfr, hod, (i_rng _).1, (i_rng _).2⟩ hle hdf (Nat.le_of_ble_eq_true rfl) (Nat.le_of_ble_eq_true rfl) dX11_summary_25

theorem dX11_letter_0 : decode cX11_letter 0 = .ok (.iload_n 1, 1) := by decide +kernel
theorem dX11_letter_1 : decode cX11_letter 1 = .ok (.bipush 17, 2) := by decide +kernel
theorem dX11_letter_12 : decode cX11_letter 12 = .ok (.aload_n 0, 1) := by decide +kernel
theorem dX11_letter_13 : decode cX11_letter 13 = .ok (.getfield 40, 3) := by decide +kernel
theorem dX11_letter_16 : decode cX11_letter 16 = .ok (.iload_n 1, 1) := by decide +kernel
theorem dX11_letter_17 : decode cX11_letter 17 = .ok (.invokevirtual 269, 3) := by decide +kernel
theorem dX11_letter_20 : decode cX11_letter 20 = .ok (.iload_n 2, 1) := by decide +kernel
theorem dX11_letter_21 : decode cX11_letter 21 = .ok (.iload_n 3, 1) := by decide +kernel
theorem dX11_letter_22 : decode cX11_letter 22 = .ok (.invokevirtual 276, 3) := by decide +kernel
theorem dX11_letter_25 : decode cX11_letter 25 = .ok (.goto 4, 3) := by decide +kernel
theorem dX11_letter_28 : decode cX11_letter 28 = .ok (.iconst (-1), 1) := by decide +kernel
theorem dX11_letter_29 : decode cX11_letter 29 = .ok (.ireturn, 1) := by decide +kernel
theorem dX11_letter_3 : decode cX11_letter 3 = .ok (.if_icmp .lt 25, 3) := by decide +kernel
theorem dX11_letter_6 : decode cX11_letter 6 = .ok (.iload_n 1, 1) := by decide +kernel
theorem dX11_letter_7 : decode cX11_letter 7 = .ok (.bipush 19, 2) := by decide +kernel
theorem dX11_letter_9 : decode cX11_letter 9 = .ok (.if_icmp .gt 19, 3) := by decide +kernel
set_option maxHeartbeats 4000000 in
set_option maxRecDepth 100000 in
theorem T_X11_letter (l : Launch) (D : va_G) (K : Nat → ClassId) (Z Y : Nat → Nat) (ad : Nat → Nat) (d : dSt) (t : tSt) (hok : okX t) (hod : okD d) (x1 : Int32) (x2 : Int32) (x3 : Int32) : tMet l yX11_letter cX11_letter 4 (some .int) (rmD 1 0 0) D K Z Y [.ref (ad 0), .int x1, .int x2, .int x3] ((WX d) K ad t) (QI D K (fun (r : Int32) (u : Unit) => (-1 : Int) ≤ r.toInt ∧ r.toInt ≤ 255) (fun (_ : Unit) => (WX d) K ad t)) 0 0 := by
  refine t_met RX11 ⟨rfl, by decide +kernel⟩ (Nat.le_of_ble_eq_true rfl) ?_
  intro p e s m below meth c A ls C hE hZ hr hlocks hA hP hD hS hl
  have hl : lv_has ls 4 [(0, .ref (ad 0)), (1, .int x1), (2, .int x2), (3, .int x3)] := hl
  refine lv_iload_n C.1 C.2.1 dX11_letter_0 rfl (lv_at hl 1 rfl) ?_
  refine lv_bipush (v := 17) C.1 C.2.1 dX11_letter_1 (by decide) ?_
  refine lv_icmp_lt (tgt := 28) C.1 C.2.1 dX11_letter_3 (by decide) (fun c_1 => ?_) (fun c_1 => ?_)
  · replace c_1 : x1.toInt < 17 := i_lt c_1
    refine lv_iconst (v := (-1)) C.1 C.2.1 dX11_letter_28 (by decide) ?_
    exact g_iret C hr hlocks hP hD hS rfl () rfl ⟨by decide, by decide⟩ (Nat.le_of_ble_eq_true rfl) (Nat.le_of_ble_eq_true rfl) dX11_letter_29
  · replace c_1 : 17 ≤ x1.toInt := i_nlt c_1
    refine lv_iload_n C.1 C.2.1 dX11_letter_6 rfl (lv_at hl 1 rfl) ?_
    refine lv_bipush (v := 19) C.1 C.2.1 dX11_letter_7 (by decide) ?_
    refine lv_icmp_gt (tgt := 28) C.1 C.2.1 dX11_letter_9 (by decide) (fun c_2 => ?_) (fun c_2 => ?_)
    · replace c_2 : 19 < x1.toInt := i_lt c_2
      refine lv_iconst (v := (-1)) C.1 C.2.1 dX11_letter_28 (by decide) ?_
      exact g_iret C hr hlocks hP hD hS rfl () rfl ⟨by decide, by decide⟩ (Nat.le_of_ble_eq_true rfl) (Nat.le_of_ble_eq_true rfl) dX11_letter_29
    · replace c_2 : x1.toInt ≤ 19 := i_nlt c_2
      refine lv_aload_n C.1 C.2.1 dX11_letter_12 rfl (lv_at hl 0 rfl) ?_
      refine k_get (v := .ref (ad 3)) C hP 0 rfl rfl inlX11 3 (by decide) m_2_8 rfl dX11_letter_13 ?_
      refine lv_iload_n C.1 C.2.1 dX11_letter_16 rfl (lv_at hl 1 rfl) ?_
      refine g_Vr (As := [.int x1]) (rest := []) C hP hD hS hA (T_X10_paper l D K Z Y ad d t hok (x1) (show (16 : Int) ≤ (x1 : Int32).toInt ∧ (x1 : Int32).toInt ≤ 19 from ⟨by omega, by omega⟩)) hE hZ (uwV m_86_17 m_53_22 m_53_23 m_1_20 m_54_0) (hdV 1 (by decide +kernel) rfl) ⟨Nat.le_of_ble_eq_true rfl, Nat.le_of_ble_eq_true rfl⟩ rfl rfl (ci := 9) (q0 := 3) rfl rfl rfl hl.1 (Nat.le_of_ble_eq_true rfl) dX11_letter_17 ⟨Nat.le_of_ble_eq_true rfl, Nat.le_of_ble_eq_true rfl⟩ (fun t_3 H locs hw hP hD hS => ?_)
      rcases hw with rfl | rfl | rfl
      · refine lv_iload_n C.1 C.2.1 dX11_letter_20 rfl (lv_at hl 2 rfl) ?_
        refine lv_iload_n C.1 C.2.1 dX11_letter_21 rfl (lv_at hl 3 rfl) ?_
        refine g_Vi (As := [.int x2, .int x3]) (rest := []) C hP hD hS hA (T_X4_letterAt l D K Z Y ad d t hok hod (x2) (x3)) hE hZ (uwV m_87_2 m_87_3 m_87_4 m_3_20 m_87_5) (hdV 2 (by decide +kernel) rfl) ⟨Nat.le_of_ble_eq_true rfl, Nat.le_of_ble_eq_true rfl⟩ rfl rfl (ci := 3) (q0 := 19) rfl rfl rfl hl.1 (Nat.le_of_ble_eq_true rfl) dX11_letter_22 ⟨Nat.le_of_ble_eq_true rfl, Nat.le_of_ble_eq_true rfl⟩ (fun r_7 t_6 H locs hw hP hD hS => ?_)
        obtain ⟨h_9, h_10⟩ := hw
        refine lv_goto (tgt := 29) C.1 C.2.1 dX11_letter_25 (by decide) ?_
        exact g_iret C hr hlocks hP hD hS rfl () rfl ⟨by omega, by omega⟩ (Nat.le_of_ble_eq_true rfl) (Nat.le_of_ble_eq_true rfl) dX11_letter_29
      · refine lv_iload_n C.1 C.2.1 dX11_letter_20 rfl (lv_at hl 2 rfl) ?_
        refine lv_iload_n C.1 C.2.1 dX11_letter_21 rfl (lv_at hl 3 rfl) ?_
        refine g_Vi (As := [.int x2, .int x3]) (rest := []) C hP hD hS hA (T_X4_letterAt_1 l D K Z Y ad d t hok hod (x2) (x3)) hE hZ (uwV m_87_2 m_87_3 m_87_4 m_3_20 m_87_5) (hdV 2 (by decide +kernel) rfl) ⟨Nat.le_of_ble_eq_true rfl, Nat.le_of_ble_eq_true rfl⟩ rfl rfl (ci := 3) (q0 := 20) rfl rfl rfl hl.1 (Nat.le_of_ble_eq_true rfl) dX11_letter_22 ⟨Nat.le_of_ble_eq_true rfl, Nat.le_of_ble_eq_true rfl⟩ (fun r_12 t_11 H locs hw hP hD hS => ?_)
        obtain ⟨h_14, h_15⟩ := hw
        refine lv_goto (tgt := 29) C.1 C.2.1 dX11_letter_25 (by decide) ?_
        exact g_iret C hr hlocks hP hD hS rfl () rfl ⟨by omega, by omega⟩ (Nat.le_of_ble_eq_true rfl) (Nat.le_of_ble_eq_true rfl) dX11_letter_29
      · refine lv_iload_n C.1 C.2.1 dX11_letter_20 rfl (lv_at hl 2 rfl) ?_
        refine lv_iload_n C.1 C.2.1 dX11_letter_21 rfl (lv_at hl 3 rfl) ?_
        refine g_Vi (As := [.int x2, .int x3]) (rest := []) C hP hD hS hA (T_X4_letterAt_2 l D K Z Y ad d t hok hod (x2) (x3)) hE hZ (uwV m_87_2 m_87_3 m_87_4 m_3_20 m_87_5) (hdV 2 (by decide +kernel) rfl) ⟨Nat.le_of_ble_eq_true rfl, Nat.le_of_ble_eq_true rfl⟩ rfl rfl (ci := 3) (q0 := 21) rfl rfl rfl hl.1 (Nat.le_of_ble_eq_true rfl) dX11_letter_22 ⟨Nat.le_of_ble_eq_true rfl, Nat.le_of_ble_eq_true rfl⟩ (fun r_17 t_16 H locs hw hP hD hS => ?_)
        obtain ⟨h_19, h_20⟩ := hw
        refine lv_goto (tgt := 29) C.1 C.2.1 dX11_letter_25 (by decide) ?_
        exact g_iret C hr hlocks hP hD hS rfl () rfl ⟨by omega, by omega⟩ (Nat.le_of_ble_eq_true rfl) (Nat.le_of_ble_eq_true rfl) dX11_letter_29

theorem dX11_block_0 : decode cX11_block 0 = .ok (.iload_n 1, 1) := by decide +kernel
theorem dX11_block_1 : decode cX11_block 1 = .ok (.ifCond .lt 33, 3) := by decide +kernel
theorem dX11_block_10 : decode cX11_block 10 = .ok (.iload_n 2, 1) := by decide +kernel
theorem dX11_block_11 : decode cX11_block 11 = .ok (.ifCond .lt 23, 3) := by decide +kernel
theorem dX11_block_14 : decode cX11_block 14 = .ok (.iload_n 2, 1) := by decide +kernel
theorem dX11_block_15 : decode cX11_block 15 = .ok (.bipush 64, 2) := by decide +kernel
theorem dX11_block_17 : decode cX11_block 17 = .ok (.if_icmp .ge 17, 3) := by decide +kernel
theorem dX11_block_20 : decode cX11_block 20 = .ok (.iload_n 3, 1) := by decide +kernel
theorem dX11_block_21 : decode cX11_block 21 = .ok (.ifCond .lt 13, 3) := by decide +kernel
theorem dX11_block_24 : decode cX11_block 24 = .ok (.iload_n 3, 1) := by decide +kernel
theorem dX11_block_25 : decode cX11_block 25 = .ok (.bipush 100, 2) := by decide +kernel
theorem dX11_block_27 : decode cX11_block 27 = .ok (.if_icmp .ge 7, 3) := by decide +kernel
theorem dX11_block_30 : decode cX11_block 30 = .ok (.iconst 1, 1) := by decide +kernel
theorem dX11_block_31 : decode cX11_block 31 = .ok (.goto 4, 3) := by decide +kernel
theorem dX11_block_34 : decode cX11_block 34 = .ok (.iconst 0, 1) := by decide +kernel
theorem dX11_block_35 : decode cX11_block 35 = .ok (.istore 4, 2) := by decide +kernel
theorem dX11_block_37 : decode cX11_block 37 = .ok (.iload 4, 2) := by decide +kernel
theorem dX11_block_39 : decode cX11_block 39 = .ok (.ifCond .ne 11, 3) := by decide +kernel
theorem dX11_block_4 : decode cX11_block 4 = .ok (.iload_n 1, 1) := by decide +kernel
theorem dX11_block_42 : decode cX11_block 42 = .ok (.new 223, 3) := by decide +kernel
theorem dX11_block_45 : decode cX11_block 45 = .ok (.dup, 1) := by decide +kernel
theorem dX11_block_46 : decode cX11_block 46 = .ok (.invokespecial 225, 3) := by decide +kernel
theorem dX11_block_49 : decode cX11_block 49 = .ok (.athrow, 1) := by decide +kernel
theorem dX11_block_5 : decode cX11_block 5 = .ok (.bipush 16, 2) := by decide +kernel
theorem dX11_block_50 : decode cX11_block 50 = .ok (.aload_n 0, 1) := by decide +kernel
theorem dX11_block_51 : decode cX11_block 51 = .ok (.getfield 40, 3) := by decide +kernel
theorem dX11_block_54 : decode cX11_block 54 = .ok (.iload_n 1, 1) := by decide +kernel
theorem dX11_block_55 : decode cX11_block 55 = .ok (.iload_n 2, 1) := by decide +kernel
theorem dX11_block_56 : decode cX11_block 56 = .ok (.bipush 100, 2) := by decide +kernel
theorem dX11_block_58 : decode cX11_block 58 = .ok (.imul, 1) := by decide +kernel
theorem dX11_block_59 : decode cX11_block 59 = .ok (.iload_n 3, 1) := by decide +kernel
theorem dX11_block_60 : decode cX11_block 60 = .ok (.iadd, 1) := by decide +kernel
theorem dX11_block_61 : decode cX11_block 61 = .ok (.invokevirtual 279, 3) := by decide +kernel
theorem dX11_block_64 : decode cX11_block 64 = .ok (.invokestatic 238, 3) := by decide +kernel
theorem dX11_block_67 : decode cX11_block 67 = .ok (.ireturn, 1) := by decide +kernel
theorem dX11_block_7 : decode cX11_block 7 = .ok (.if_icmp .ge 27, 3) := by decide +kernel
set_option maxHeartbeats 4000000 in
set_option maxRecDepth 100000 in
theorem T_X11_block (l : Launch) (htr : l.stackTraces = false) (D : va_G) (K : Nat → ClassId) (Z Y : Nat → Nat) (ad : Nat → Nat) (d : dSt) (t : tSt) (hok : okX t) (hod : okD d) (x1 : Int32) (x2 : Int32) (x3 : Int32) : txMet l yX11_block cX11_block 5 (some .int) (rmD 6 1 6) D K Z Y [.ref (ad 0), .int x1, .int x2, .int x3] ((WX d) K ad t) (QI D K (fun (r : Int32) (u : Unit) => (-2147483648 : Int) ≤ r.toInt ∧ r.toInt ≤ 1073741823) (fun (_ : Unit) => (WX d) K ad t)) (XCt D K (fun (u : Unit) => True) (fun (_ : Unit) => (WX d) K ad t)) 1 6 := by
  refine tx_met RX11 ⟨rfl, by decide +kernel⟩ (Nat.le_of_ble_eq_true rfl) ?_
  intro p e s m below meth c A ls C hE hZ ht hr hlocks hA hP hD hS hl
  have hl : lv_has ls 5 [(0, .ref (ad 0)), (1, .int x1), (2, .int x2), (3, .int x3)] := hl
  have L_35 : ∀ (k35_0 : Int32) (H : Heap) (locs : List Loc) (ls : Array Slot), (0 : Int) ≤ k35_0.toInt ∧ k35_0.toInt ≤ 1 → va_P D vwCl ((WX d) K ad t) H → va_D A ((WX d) K ad t) → va_S A s.heap H locs → lv_has ls 5 [(0, .ref (ad 0)), (1, .int x1), (2, .int x2), (3, .int x3)] → W p l e (rmD 6 1 6) s m [.ref (ad 0), .int x1, .int x2, .int x3].toArray below meth c H locs 0 0 (vx_MQ below (QI D K (fun (r : Int32) (u : Unit) => (-2147483648 : Int) ≤ r.toInt ∧ r.toInt ≤ 1073741823) (fun (_ : Unit) => (WX d) K ad t) A) (XCt D K (fun (u : Unit) => True) (fun (_ : Unit) => (WX d) K ad t) A) [.ref (ad 0), .int x1, .int x2, .int x3].toArray s 1 6 A) (F0 m 35 ls [.int k35_0]) := by
    intro k35_0 H locs ls hk35_0 hP hD hS hl
    refine lv_istore (lv' := [(4, .int k35_0), (0, .ref (ad 0)), (1, .int x1), (2, .int x2), (3, .int x3)]) C.1 C.2.1 dX11_block_35 hl (by decide) rfl (fun ls hl => ?_)
    have hl : lv_has ls 5 [(0, .ref (ad 0)), (1, .int x1), (2, .int x2), (3, .int x3), (4, .int k35_0)] := lv_sub hl [1, 2, 3, 4, 0] rfl
    refine lv_iload C.1 C.2.1 dX11_block_37 (lv_at hl 4 rfl) ?_
    refine lv_if_ne (tgt := 50) C.1 C.2.1 dX11_block_39 (by decide) (fun c_1 => ?_) (fun c_1 => ?_)
    · replace c_1 : ¬ k35_0.toInt = 0 := i_ne c_1
      refine lv_aload_n C.1 C.2.1 dX11_block_50 rfl (lv_at hl 0 rfl) ?_
      refine k_get (v := .ref (ad 3)) C hP 0 rfl rfl inlX11 3 (by decide) m_2_8 rfl dX11_block_51 ?_
      refine lv_iload_n C.1 C.2.1 dX11_block_54 rfl (lv_at hl 1 rfl) ?_
      refine lv_iload_n C.1 C.2.1 dX11_block_55 rfl (lv_at hl 2 rfl) ?_
      refine lv_bipush (v := 100) C.1 C.2.1 dX11_block_56 (by decide) ?_
      obtain ⟨v_2, e_3⟩ : ∃ z, z = (x2 : Int32) * (100 : Int32) := ⟨_, rfl⟩
      refine k_imul (v := v_2) C e_3.symm dX11_block_58 ?_
      refine lv_iload_n C.1 C.2.1 dX11_block_59 rfl (lv_at hl 3 rfl) ?_
      obtain ⟨v_5, e_6⟩ : ∃ z, z = (v_2 : Int32) + (x3 : Int32) := ⟨_, rfl⟩
      refine k_iadd (v := v_5) C e_6.symm dX11_block_60 ?_
      refine g_Vi (As := [.int x1, .int v_5]) (rest := []) C hP hD hS hA (T_X10_stored l D K Z Y ad d t hok hod (x1) (v_5)) hE hZ (uwV m_87_17 m_53_6 m_53_7 m_1_20 m_53_8) (hdV 2 (by decide +kernel) rfl) ⟨Nat.le_of_ble_eq_true rfl, Nat.le_of_ble_eq_true rfl⟩ rfl rfl (ci := 9) (q0 := 3) rfl rfl rfl hl.1 (Nat.le_of_ble_eq_true rfl) dX11_block_61 ⟨Nat.le_of_ble_eq_true rfl, Nat.le_of_ble_eq_true rfl⟩ (fun r_9 t_8 H locs hw hP hD hS => ?_)
      obtain ⟨h_11, h_12⟩ := hw
      refine g_Si (As := [.int r_9]) (rest := []) C hP hD hS hA (T_X1_shown l D K Z Y ad d t hok (r_9)) hE hZ (uwS m_84_4 m_84_5 m_14_2 m_84_6) (hdS 1 (by decide +kernel) rfl) ⟨Nat.le_of_ble_eq_true rfl, Nat.le_of_ble_eq_true rfl⟩ rfl rfl rfl hl.1 (Nat.le_of_ble_eq_true rfl) dX11_block_64 ⟨Nat.le_of_ble_eq_true rfl, Nat.le_of_ble_eq_true rfl⟩ (fun r_14 t_13 H locs hw hP hD hS => ?_)
      obtain ⟨h_16, h_17⟩ := hw
      exact vx_ret <| g_iret C hr hlocks hP hD hS rfl () rfl ⟨by omega, by omega⟩ (Nat.le_of_ble_eq_true rfl) (Nat.le_of_ble_eq_true rfl) dX11_block_67
    · replace c_1 : k35_0.toInt = 0 := i_eq c_1
      exact tx_throw C htr hE hZ ht hlocks hP hD hS hl.1 () rfl trivial m_83_23 m_84_0 dX11_block_42 dX11_block_45 dX11_block_46 dX11_block_49 (by decide) (by decide) (Nat.le_of_ble_eq_true rfl) (Nat.le_of_ble_eq_true rfl) (Nat.le_of_ble_eq_true rfl) (Nat.le_of_ble_eq_true rfl)
  have L_34 : ∀  (H : Heap) (locs : List Loc) (ls : Array Slot), va_P D vwCl ((WX d) K ad t) H → va_D A ((WX d) K ad t) → va_S A s.heap H locs → lv_has ls 5 [(0, .ref (ad 0)), (1, .int x1), (2, .int x2), (3, .int x3)] → W p l e (rmD 6 1 6) s m [.ref (ad 0), .int x1, .int x2, .int x3].toArray below meth c H locs 0 0 (vx_MQ below (QI D K (fun (r : Int32) (u : Unit) => (-2147483648 : Int) ≤ r.toInt ∧ r.toInt ≤ 1073741823) (fun (_ : Unit) => (WX d) K ad t) A) (XCt D K (fun (u : Unit) => True) (fun (_ : Unit) => (WX d) K ad t) A) [.ref (ad 0), .int x1, .int x2, .int x3].toArray s 1 6 A) (F0 m 34 ls []) := by
    intro  H locs ls  hP hD hS hl
    refine lv_iconst (v := 0) C.1 C.2.1 dX11_block_34 (by decide) ?_
    exact L_35 0 _ _ _ ⟨by decide, by decide⟩ hP hD hS (lv_sub hl [0, 1, 2, 3] rfl)
  refine lv_iload_n C.1 C.2.1 dX11_block_0 rfl (lv_at hl 1 rfl) ?_
  refine lv_if_lt (tgt := 34) C.1 C.2.1 dX11_block_1 (by decide) (fun c_18 => ?_) (fun c_18 => ?_)
  · replace c_18 : x1.toInt < 0 := i_lt c_18
    exact L_34  _ _ _  hP hD hS (lv_sub hl [0, 1, 2, 3] rfl)
  · replace c_18 : 0 ≤ x1.toInt := i_nlt c_18
    refine lv_iload_n C.1 C.2.1 dX11_block_4 rfl (lv_at hl 1 rfl) ?_
    refine lv_bipush (v := 16) C.1 C.2.1 dX11_block_5 (by decide) ?_
    refine lv_icmp_ge (tgt := 34) C.1 C.2.1 dX11_block_7 (by decide) (fun c_19 => ?_) (fun c_19 => ?_)
    · replace c_19 : 16 ≤ x1.toInt := i_le c_19
      exact L_34  _ _ _  hP hD hS (lv_sub hl [0, 1, 2, 3] rfl)
    · replace c_19 : x1.toInt < 16 := i_nle c_19
      refine lv_iload_n C.1 C.2.1 dX11_block_10 rfl (lv_at hl 2 rfl) ?_
      refine lv_if_lt (tgt := 34) C.1 C.2.1 dX11_block_11 (by decide) (fun c_20 => ?_) (fun c_20 => ?_)
      · replace c_20 : x2.toInt < 0 := i_lt c_20
        exact L_34  _ _ _  hP hD hS (lv_sub hl [0, 1, 2, 3] rfl)
      · replace c_20 : 0 ≤ x2.toInt := i_nlt c_20
        refine lv_iload_n C.1 C.2.1 dX11_block_14 rfl (lv_at hl 2 rfl) ?_
        refine lv_bipush (v := 64) C.1 C.2.1 dX11_block_15 (by decide) ?_
        refine lv_icmp_ge (tgt := 34) C.1 C.2.1 dX11_block_17 (by decide) (fun c_21 => ?_) (fun c_21 => ?_)
        · replace c_21 : 64 ≤ x2.toInt := i_le c_21
          exact L_34  _ _ _  hP hD hS (lv_sub hl [0, 1, 2, 3] rfl)
        · replace c_21 : x2.toInt < 64 := i_nle c_21
          refine lv_iload_n C.1 C.2.1 dX11_block_20 rfl (lv_at hl 3 rfl) ?_
          refine lv_if_lt (tgt := 34) C.1 C.2.1 dX11_block_21 (by decide) (fun c_22 => ?_) (fun c_22 => ?_)
          · replace c_22 : x3.toInt < 0 := i_lt c_22
            exact L_34  _ _ _  hP hD hS (lv_sub hl [0, 1, 2, 3] rfl)
          · replace c_22 : 0 ≤ x3.toInt := i_nlt c_22
            refine lv_iload_n C.1 C.2.1 dX11_block_24 rfl (lv_at hl 3 rfl) ?_
            refine lv_bipush (v := 100) C.1 C.2.1 dX11_block_25 (by decide) ?_
            refine lv_icmp_ge (tgt := 34) C.1 C.2.1 dX11_block_27 (by decide) (fun c_23 => ?_) (fun c_23 => ?_)
            · replace c_23 : 100 ≤ x3.toInt := i_le c_23
              exact L_34  _ _ _  hP hD hS (lv_sub hl [0, 1, 2, 3] rfl)
            · replace c_23 : x3.toInt < 100 := i_nle c_23
              refine lv_iconst (v := 1) C.1 C.2.1 dX11_block_30 (by decide) ?_
              refine lv_goto (tgt := 35) C.1 C.2.1 dX11_block_31 (by decide) ?_
              exact L_35 1 _ _ _ ⟨by decide, by decide⟩ hP hD hS (lv_sub hl [0, 1, 2, 3] rfl)

theorem dX7_printWrongs_0 : decode cX7_printWrongs 0 = .ok (.iconst 0, 1) := by decide +kernel
theorem dX7_printWrongs_1 : decode cX7_printWrongs 1 = .ok (.istore_n 3, 1) := by decide +kernel
theorem dX7_printWrongs_10 : decode cX7_printWrongs 10 = .ok (.sipush 8193, 3) := by decide +kernel
theorem dX7_printWrongs_100 : decode cX7_printWrongs 100 = .ok (.getfield 116, 3) := by decide +kernel
theorem dX7_printWrongs_103 : decode cX7_printWrongs 103 = .ok (.invokevirtual 120, 3) := by decide +kernel
theorem dX7_printWrongs_106 : decode cX7_printWrongs 106 = .ok (.aload_n 0, 1) := by decide +kernel
theorem dX7_printWrongs_107 : decode cX7_printWrongs 107 = .ok (.getfield 25, 3) := by decide +kernel
theorem dX7_printWrongs_110 : decode cX7_printWrongs 110 = .ok (.iload_n 1, 1) := by decide +kernel
theorem dX7_printWrongs_111 : decode cX7_printWrongs 111 = .ok (.iload_n 2, 1) := by decide +kernel
theorem dX7_printWrongs_112 : decode cX7_printWrongs 112 = .ok (.invokevirtual 56, 3) := by decide +kernel
theorem dX7_printWrongs_115 : decode cX7_printWrongs 115 = .ok (.iinc 3 1, 3) := by decide +kernel
theorem dX7_printWrongs_118 : decode cX7_printWrongs 118 = .ok (.iinc 5 1, 3) := by decide +kernel
theorem dX7_printWrongs_121 : decode cX7_printWrongs 121 = .ok (.goto (-113), 3) := by decide +kernel
theorem dX7_printWrongs_124 : decode cX7_printWrongs 124 = .ok (.aload_n 0, 1) := by decide +kernel
theorem dX7_printWrongs_125 : decode cX7_printWrongs 125 = .ok (.getfield 15, 3) := by decide +kernel
theorem dX7_printWrongs_128 : decode cX7_printWrongs 128 = .ok (.iload 4, 2) := by decide +kernel
theorem dX7_printWrongs_13 : decode cX7_printWrongs 13 = .ok (.if_icmp .gt 111, 3) := by decide +kernel
theorem dX7_printWrongs_130 : decode cX7_printWrongs 130 = .ok (.putfield 157, 3) := by decide +kernel
theorem dX7_printWrongs_133 : decode cX7_printWrongs 133 = .ok (.iload_n 3, 1) := by decide +kernel
theorem dX7_printWrongs_134 : decode cX7_printWrongs 134 = .ok (.ireturn, 1) := by decide +kernel
theorem dX7_printWrongs_16 : decode cX7_printWrongs 16 = .ok (.aload_n 0, 1) := by decide +kernel
theorem dX7_printWrongs_17 : decode cX7_printWrongs 17 = .ok (.getfield 15, 3) := by decide +kernel
theorem dX7_printWrongs_2 : decode cX7_printWrongs 2 = .ok (.iconst 0, 1) := by decide +kernel
theorem dX7_printWrongs_20 : decode cX7_printWrongs 20 = .ok (.invokevirtual 153, 3) := by decide +kernel
theorem dX7_printWrongs_23 : decode cX7_printWrongs 23 = .ok (.istore 6, 2) := by decide +kernel
theorem dX7_printWrongs_25 : decode cX7_printWrongs 25 = .ok (.iload 6, 2) := by decide +kernel
theorem dX7_printWrongs_27 : decode cX7_printWrongs 27 = .ok (.ifCond .ne 6, 3) := by decide +kernel
theorem dX7_printWrongs_3 : decode cX7_printWrongs 3 = .ok (.istore 4, 2) := by decide +kernel
theorem dX7_printWrongs_30 : decode cX7_printWrongs 30 = .ok (.goto 94, 3) := by decide +kernel
theorem dX7_printWrongs_33 : decode cX7_printWrongs 33 = .ok (.iload 4, 2) := by decide +kernel
theorem dX7_printWrongs_35 : decode cX7_printWrongs 35 = .ok (.ifCond .ne 8, 3) := by decide +kernel
theorem dX7_printWrongs_38 : decode cX7_printWrongs 38 = .ok (.iload 6, 2) := by decide +kernel
theorem dX7_printWrongs_40 : decode cX7_printWrongs 40 = .ok (.goto 5, 3) := by decide +kernel
theorem dX7_printWrongs_43 : decode cX7_printWrongs 43 = .ok (.iload 4, 2) := by decide +kernel
theorem dX7_printWrongs_45 : decode cX7_printWrongs 45 = .ok (.istore 4, 2) := by decide +kernel
theorem dX7_printWrongs_47 : decode cX7_printWrongs 47 = .ok (.aload_n 0, 1) := by decide +kernel
theorem dX7_printWrongs_48 : decode cX7_printWrongs 48 = .ok (.getfield 25, 3) := by decide +kernel
theorem dX7_printWrongs_5 : decode cX7_printWrongs 5 = .ok (.iconst 0, 1) := by decide +kernel
theorem dX7_printWrongs_51 : decode cX7_printWrongs 51 = .ok (.iconst 1, 1) := by decide +kernel
theorem dX7_printWrongs_52 : decode cX7_printWrongs 52 = .ok (.iconst 4, 1) := by decide +kernel
theorem dX7_printWrongs_53 : decode cX7_printWrongs 53 = .ok (.aload_n 0, 1) := by decide +kernel
theorem dX7_printWrongs_54 : decode cX7_printWrongs 54 = .ok (.getfield 15, 3) := by decide +kernel
theorem dX7_printWrongs_57 : decode cX7_printWrongs 57 = .ok (.getfield 90, 3) := by decide +kernel
theorem dX7_printWrongs_6 : decode cX7_printWrongs 6 = .ok (.istore 5, 2) := by decide +kernel
theorem dX7_printWrongs_60 : decode cX7_printWrongs 60 = .ok (.getfield 106, 3) := by decide +kernel
theorem dX7_printWrongs_63 : decode cX7_printWrongs 63 = .ok (.i2l, 1) := by decide +kernel
theorem dX7_printWrongs_64 : decode cX7_printWrongs 64 = .ok (.invokevirtual 42, 3) := by decide +kernel
theorem dX7_printWrongs_67 : decode cX7_printWrongs 67 = .ok (.aload_n 0, 1) := by decide +kernel
theorem dX7_printWrongs_68 : decode cX7_printWrongs 68 = .ok (.getfield 25, 3) := by decide +kernel
theorem dX7_printWrongs_71 : decode cX7_printWrongs 71 = .ok (.bipush 6, 2) := by decide +kernel
theorem dX7_printWrongs_73 : decode cX7_printWrongs 73 = .ok (.iconst 1, 1) := by decide +kernel
theorem dX7_printWrongs_74 : decode cX7_printWrongs 74 = .ok (.iload 6, 2) := by decide +kernel
theorem dX7_printWrongs_76 : decode cX7_printWrongs 76 = .ok (.i2l, 1) := by decide +kernel
theorem dX7_printWrongs_77 : decode cX7_printWrongs 77 = .ok (.invokevirtual 42, 3) := by decide +kernel
theorem dX7_printWrongs_8 : decode cX7_printWrongs 8 = .ok (.iload 5, 2) := by decide +kernel
theorem dX7_printWrongs_80 : decode cX7_printWrongs 80 = .ok (.iload 6, 2) := by decide +kernel
theorem dX7_printWrongs_82 : decode cX7_printWrongs 82 = .ok (.bipush 7, 2) := by decide +kernel
theorem dX7_printWrongs_84 : decode cX7_printWrongs 84 = .ok (.if_icmp .eq 22, 3) := by decide +kernel
theorem dX7_printWrongs_87 : decode cX7_printWrongs 87 = .ok (.aload_n 0, 1) := by decide +kernel
theorem dX7_printWrongs_88 : decode cX7_printWrongs 88 = .ok (.getfield 25, 3) := by decide +kernel
theorem dX7_printWrongs_91 : decode cX7_printWrongs 91 = .ok (.bipush 8, 2) := by decide +kernel
theorem dX7_printWrongs_93 : decode cX7_printWrongs 93 = .ok (.aload_n 0, 1) := by decide +kernel
theorem dX7_printWrongs_94 : decode cX7_printWrongs 94 = .ok (.getfield 15, 3) := by decide +kernel
theorem dX7_printWrongs_97 : decode cX7_printWrongs 97 = .ok (.getfield 90, 3) := by decide +kernel
set_option maxHeartbeats 4000000 in
set_option maxRecDepth 100000 in
theorem T_X7_printWrongs (l : Launch) (D : va_G) (K : Nat → ClassId) (Z Y : Nat → Nat) (ad : Nat → Nat) (d : dSt) (t : tSt) (hok : okX t) (hod : okD d) (x1 : Int32) (hx1 : (72 : Int) ≤ x1.toInt ∧ x1.toInt ≤ 120) (x2 : Int32) (hx2 : (0 : Int) ≤ x2.toInt ∧ x2.toInt ≤ 1) : dMet l yX7_printWrongs cX7_printWrongs 7 (some .int) (rmD 9 10000 2800000) D K Z Y [.ref (ad 6), .int x1, .int x2] ((WX d) K ad t) (QDI D K ad d (fun (r : Int32) (u : tSt) (dd : dSt) => okX u ∧ frA [(2, 2), (2, 3), (2, 4), (2, 5), (5, 7), (5, 9), (5, 11), (5, 12), (5, 14), (5, 15), (5, 16), (5, 17), (5, 18), (20, 3), (23, 3), (23, 6), (23, 12), (24, 2), (24, 3), (24, 4), (24, 5), (24, 6), (24, 8)] [(5, 13), (24, 7), (24, 9)] [9, 10, 26, 27, 28, 35, 36, 37, 42, 43, 44, 45, 46, 47, 48, 49, 50] [25, 41] t u ∧ okD dd ∧ (-2147483648 : Int) ≤ r.toInt ∧ r.toInt ≤ 2147483647)) 10000 2800000 := by
  refine d_met d RX7 ⟨rfl, by decide +kernel⟩ (Nat.le_of_ble_eq_true rfl) ?_
  intro p e s m below meth c A ls C hE hZ hX hr hlocks hA hP hD hS hl
  have hl : lv_has ls 7 [(0, .ref (ad 6)), (1, .int x1), (2, .int x2)] := hl
  have hle : dLe d d := dLe_rf
  have hdf : dFr s.heap.size d d := dFr_rf
  have hokt := hok
  have hfr : frA [(2, 2), (2, 3), (2, 4), (2, 5), (5, 7), (5, 9), (5, 11), (5, 12), (5, 14), (5, 15), (5, 16), (5, 17), (5, 18), (20, 3), (23, 3), (23, 6), (23, 12), (24, 2), (24, 3), (24, 4), (24, 5), (24, 6), (24, 8)] [(5, 13), (24, 7), (24, 9)] [9, 10, 26, 27, 28, 35, 36, 37, 42, 43, 44, 45, 46, 47, 48, 49, 50] [25, 41] t t := frA_rf
  have L_124 : ∀ (t1 : tSt) (d1 : dSt) (w124_3 : Int32) (w124_4 : Int32) (w124_5 : Int32) (H : Heap) (locs : List Loc) (ls : Array Slot), okX t1 → frA [(2, 2), (2, 3), (2, 4), (2, 5), (5, 7), (5, 9), (5, 11), (5, 12), (5, 14), (5, 15), (5, 16), (5, 17), (5, 18), (20, 3), (23, 3), (23, 6), (23, 12), (24, 2), (24, 3), (24, 4), (24, 5), (24, 6), (24, 8)] [(5, 13), (24, 7), (24, 9)] [9, 10, 26, 27, 28, 35, 36, 37, 42, 43, 44, 45, 46, 47, 48, 49, 50] [25, 41] t t1 → okD d1 → dLe d d1 → dFr s.heap.size d d1 → (0 : Int) ≤ w124_4.toInt ∧ w124_4.toInt ≤ 8 → (0 : Int) ≤ w124_5.toInt ∧ w124_5.toInt ≤ 32399 → va_P D vwCl ((WX d1) K ad t1) H → va_D A ((WX d1) K ad t1) → va_S A s.heap H locs → lv_has ls 7 [(0, .ref (ad 6)), (1, .int x1), (2, .int x2), (3, .int w124_3), (4, .int w124_4), (5, .int w124_5)] → W p l e (rmD 9 10000 2800000) s m [.ref (ad 6), .int x1, .int x2].toArray below meth c H locs (newC d d1) 246800 (MQ below (QDI D K ad d (fun (r : Int32) (u : tSt) (dd : dSt) => okX u ∧ frA [(2, 2), (2, 3), (2, 4), (2, 5), (5, 7), (5, 9), (5, 11), (5, 12), (5, 14), (5, 15), (5, 16), (5, 17), (5, 18), (20, 3), (23, 3), (23, 6), (23, 12), (24, 2), (24, 3), (24, 4), (24, 5), (24, 6), (24, 8)] [(5, 13), (24, 7), (24, 9)] [9, 10, 26, 27, 28, 35, 36, 37, 42, 43, 44, 45, 46, 47, 48, 49, 50] [25, 41] t u ∧ okD dd ∧ (-2147483648 : Int) ≤ r.toInt ∧ r.toInt ≤ 2147483647) s.heap.size A) [.ref (ad 6), .int x1, .int x2].toArray s 10000 2800000 A) (F0 m 124 ls []) := by
    intro t1 d1 w124_3 w124_4 w124_5 H locs ls hok hfr hod hle hdf hw124_4 hw124_5 hP hD hS hl
    refine lv_aload_n C.1 C.2.1 dX7_printWrongs_124 rfl (lv_at hl 0 rfl) ?_
    refine k_get (v := .ref (ad 5)) C hP 6 rfl rfl inlX7 1 (by decide) m_6_12 rfl dX7_printWrongs_125 ?_
    refine lv_iload C.1 C.2.1 dX7_printWrongs_128 (lv_at hl 4 rfl) ?_
    refine k_put (ws' := (WX d1) K ad (uI t1 5 18 w124_4)) (v := .int w124_4) C hP hD hS 5 rfl rfl inlX0 tyX0_ok nmX0 18 (by decide) m_40_16 rfl rfl rfl rfl rfl dX7_printWrongs_130 (fun H locs hP hD hS => ?_)
    have hok : okX (uI t1 5 18 w124_4) := ⟨okI_I hok.1 5 18 w124_4 (show (0 : Int) ≤ (w124_4 : Int32).toInt ∧ (w124_4 : Int32).toInt ≤ 8 from ⟨by omega, by omega⟩), hok.2.1, trivial⟩
    have hfr : frA [(2, 2), (2, 3), (2, 4), (2, 5), (5, 7), (5, 9), (5, 11), (5, 12), (5, 14), (5, 15), (5, 16), (5, 17), (5, 18), (20, 3), (23, 3), (23, 6), (23, 12), (24, 2), (24, 3), (24, 4), (24, 5), (24, 6), (24, 8)] [(5, 13), (24, 7), (24, 9)] [9, 10, 26, 27, 28, 35, 36, 37, 42, 43, 44, 45, 46, 47, 48, 49, 50] [25, 41] t (uI t1 5 18 w124_4) := frA_I hfr 5 18 _ rfl
    refine lv_iload_n C.1 C.2.1 dX7_printWrongs_133 rfl (lv_at hl 3 rfl) ?_
    exact g_Diret C hr hlocks hP hD hS rfl ⟨hok, hfr, hod, (i_rng _).1, (i_rng _).2⟩ hle hdf (Nat.le_of_ble_eq_true rfl) (Nat.le_of_ble_eq_true rfl) dX7_printWrongs_134
  have L_8 : ∀ (fuel_8 : Nat) (t1 : tSt) (d1 : dSt) (w8_3 : Int32) (w8_4 : Int32) (w8_5 : Int32) (H : Heap) (locs : List Loc) (ls : Array Slot), okX t1 → frA [(2, 2), (2, 3), (2, 4), (2, 5), (5, 7), (5, 9), (5, 11), (5, 12), (5, 14), (5, 15), (5, 16), (5, 17), (5, 18), (20, 3), (23, 3), (23, 6), (23, 12), (24, 2), (24, 3), (24, 4), (24, 5), (24, 6), (24, 8)] [(5, 13), (24, 7), (24, 9)] [9, 10, 26, 27, 28, 35, 36, 37, 42, 43, 44, 45, 46, 47, 48, 49, 50] [25, 41] t t1 → okD d1 → dLe d d1 → dFr s.heap.size d d1 → (0 : Int) ≤ w8_4.toInt ∧ w8_4.toInt ≤ 8 → (0 : Int) ≤ w8_5.toInt ∧ w8_5.toInt ≤ 32399 → (32399 : Int) - w8_5.toInt < (fuel_8 : Int) → va_P D vwCl ((WX d1) K ad t1) H → va_D A ((WX d1) K ad t1) → va_S A s.heap H locs → lv_has ls 7 [(0, .ref (ad 6)), (1, .int x1), (2, .int x2), (3, .int w8_3), (4, .int w8_4), (5, .int w8_5)] → W p l e (rmD 9 10000 2800000) s m [.ref (ad 6), .int x1, .int x2].toArray below meth c H locs (newC d d1) 246800 (MQ below (QDI D K ad d (fun (r : Int32) (u : tSt) (dd : dSt) => okX u ∧ frA [(2, 2), (2, 3), (2, 4), (2, 5), (5, 7), (5, 9), (5, 11), (5, 12), (5, 14), (5, 15), (5, 16), (5, 17), (5, 18), (20, 3), (23, 3), (23, 6), (23, 12), (24, 2), (24, 3), (24, 4), (24, 5), (24, 6), (24, 8)] [(5, 13), (24, 7), (24, 9)] [9, 10, 26, 27, 28, 35, 36, 37, 42, 43, 44, 45, 46, 47, 48, 49, 50] [25, 41] t u ∧ okD dd ∧ (-2147483648 : Int) ≤ r.toInt ∧ r.toInt ≤ 2147483647) s.heap.size A) [.ref (ad 6), .int x1, .int x2].toArray s 10000 2800000 A) (F0 m 8 ls []) := by
    intro fuel_8
    induction fuel_8 with
    | zero =>
      intro t1 d1 w8_3 w8_4 w8_5 H locs ls hok hfr hod hle hdf hw8_4 hw8_5 hm8_8 hP hD hS hl
      exact absurd hm8_8 (by omega)
    | succ fuel_8 ih_8 =>
      intro t1 d1 w8_3 w8_4 w8_5 H locs ls hok hfr hod hle hdf hw8_4 hw8_5 hm8_8 hP hD hS hl
      have hm8_8 : (32399 : Int) - w8_5.toInt < (fuel_8 : Int) + 1 := by omega
      have L_106 : ∀ (t1 : tSt) (d1 : dSt) (w106_3 : Int32) (w106_4 : Int32) (w106_5 : Int32) (w106_6 : Int32) (H : Heap) (locs : List Loc) (ls : Array Slot), okX t1 → frA [(2, 2), (2, 3), (2, 4), (2, 5), (5, 7), (5, 9), (5, 11), (5, 12), (5, 14), (5, 15), (5, 16), (5, 17), (5, 18), (20, 3), (23, 3), (23, 6), (23, 12), (24, 2), (24, 3), (24, 4), (24, 5), (24, 6), (24, 8)] [(5, 13), (24, 7), (24, 9)] [9, 10, 26, 27, 28, 35, 36, 37, 42, 43, 44, 45, 46, 47, 48, 49, 50] [25, 41] t t1 → okD d1 → dLe d d1 → dFr s.heap.size d d1 → (1 : Int) ≤ w106_4.toInt ∧ w106_4.toInt ≤ 8 → (0 : Int) ≤ w106_5.toInt ∧ w106_5.toInt ≤ 8193 → (1 : Int) ≤ w106_6.toInt ∧ w106_6.toInt ≤ 8 → (32399 : Int) - w106_5.toInt < (fuel_8 : Int) + 1 → va_P D vwCl ((WX d1) K ad t1) H → va_D A ((WX d1) K ad t1) → va_S A s.heap H locs → lv_has ls 7 [(0, .ref (ad 6)), (1, .int x1), (2, .int x2), (3, .int w106_3), (4, .int w106_4), (5, .int w106_5), (6, .int w106_6)] → W p l e (rmD 9 10000 2800000) s m [.ref (ad 6), .int x1, .int x2].toArray below meth c H locs (newC d d1) 246800 (MQ below (QDI D K ad d (fun (r : Int32) (u : tSt) (dd : dSt) => okX u ∧ frA [(2, 2), (2, 3), (2, 4), (2, 5), (5, 7), (5, 9), (5, 11), (5, 12), (5, 14), (5, 15), (5, 16), (5, 17), (5, 18), (20, 3), (23, 3), (23, 6), (23, 12), (24, 2), (24, 3), (24, 4), (24, 5), (24, 6), (24, 8)] [(5, 13), (24, 7), (24, 9)] [9, 10, 26, 27, 28, 35, 36, 37, 42, 43, 44, 45, 46, 47, 48, 49, 50] [25, 41] t u ∧ okD dd ∧ (-2147483648 : Int) ≤ r.toInt ∧ r.toInt ≤ 2147483647) s.heap.size A) [.ref (ad 6), .int x1, .int x2].toArray s 10000 2800000 A) (F0 m 106 ls []) := by
        intro t1 d1 w106_3 w106_4 w106_5 w106_6 H locs ls hok hfr hod hle hdf hw106_4 hw106_5 hw106_6 hm106_8 hP hD hS hl
        refine lv_aload_n C.1 C.2.1 dX7_printWrongs_106 rfl (lv_at hl 0 rfl) ?_
        refine k_get (v := .ref (ad 20)) C hP 6 rfl rfl inlX7 2 (by decide) m_6_14 rfl dX7_printWrongs_107 ?_
        refine lv_iload_n C.1 C.2.1 dX7_printWrongs_110 rfl (lv_at hl 1 rfl) ?_
        refine lv_iload_n C.1 C.2.1 dX7_printWrongs_111 rfl (lv_at hl 2 rfl) ?_
        refine g_DVv (As := [.int x1, .int x2]) (rest := []) C hP hD hS hA (T_X4_finish l D K Z Y ad d1 t1 hok hod (x1) (show (72 : Int) ≤ (x1 : Int32).toInt ∧ (x1 : Int32).toInt ≤ 120 from ⟨by omega, by omega⟩) (x2) (show (0 : Int) ≤ (x2 : Int32).toInt ∧ (x2 : Int32).toInt ≤ 1 from ⟨by omega, by omega⟩)) hE hZ hX hle hdf (uwV m_41_7 m_41_8 m_41_9 m_3_20 m_41_10) (hdV 2 (by decide +kernel) rfl) ⟨Nat.le_of_ble_eq_true rfl, Nat.le_of_ble_eq_true rfl⟩ rfl rfl (ci := 3) (q0 := 20) rfl rfl rfl hl.1 (Nat.le_of_ble_eq_true rfl) dX7_printWrongs_112 ⟨Nat.le_of_ble_eq_true rfl, Nat.le_of_ble_eq_true rfl⟩ (fun t_1 d_3 H locs hw hP hD hS hln hle hdf => ?_)
        obtain ⟨hok, f_4, hod⟩ := hw
        have hfr : frA [(2, 2), (2, 3), (2, 4), (2, 5), (5, 7), (5, 9), (5, 11), (5, 12), (5, 14), (5, 15), (5, 16), (5, 17), (5, 18), (20, 3), (23, 3), (23, 6), (23, 12), (24, 2), (24, 3), (24, 4), (24, 5), (24, 6), (24, 8)] [(5, 13), (24, 7), (24, 9)] [9, 10, 26, 27, 28, 35, 36, 37, 42, 43, 44, 45, 46, 47, 48, 49, 50] [25, 41] t t_1 := frA_tr hfr f_4 rfl
        obtain ⟨v_5, e_6⟩ : ∃ z, z = w106_3 + 1 := ⟨_, rfl⟩
        refine lv_iinc (v := v_5) (lv' := [(3, .int v_5), (0, .ref (ad 6)), (1, .int x1), (2, .int x2), (4, .int w106_4), (5, .int w106_5), (6, .int w106_6)]) C.1 C.2.1 dX7_printWrongs_115 hl (k := 3) rfl e_6.symm (by decide) rfl (fun ls hl => ?_)
        have hl : lv_has ls 7 [(0, .ref (ad 6)), (1, .int x1), (2, .int x2), (3, .int v_5), (4, .int w106_4), (5, .int w106_5), (6, .int w106_6)] := lv_sub hl [1, 2, 3, 0, 4, 5, 6] rfl
        obtain ⟨v_7, e_8⟩ : ∃ z, z = w106_5 + 1 := ⟨_, rfl⟩
        have h_9 : v_7.toInt = w106_5.toInt + 1 := by rw [e_8]; exact ti_iadd (by show (_ : Int) ≤ w106_5.toInt + 1; omega) (by show w106_5.toInt + 1 < (_ : Int); omega)
        refine lv_iinc (v := v_7) (lv' := [(5, .int v_7), (0, .ref (ad 6)), (1, .int x1), (2, .int x2), (3, .int v_5), (4, .int w106_4), (6, .int w106_6)]) C.1 C.2.1 dX7_printWrongs_118 hl (k := 5) rfl e_8.symm (by decide) rfl (fun ls hl => ?_)
        have hl : lv_has ls 7 [(0, .ref (ad 6)), (1, .int x1), (2, .int x2), (3, .int v_5), (4, .int w106_4), (5, .int v_7), (6, .int w106_6)] := lv_sub hl [1, 2, 3, 4, 5, 0, 6] rfl
        refine lv_goto (tgt := 8) C.1 C.2.1 dX7_printWrongs_121 (by decide) ?_
        exact ih_8 t_1 d_3 v_5 w106_4 v_7 _ _ _ hok hfr hod hle hdf ⟨by omega, by omega⟩ ⟨by omega, by omega⟩ (show (32399 : Int) - v_7.toInt < (fuel_8 : Int) from by omega) hP hD hS (lv_sub hl [0, 1, 2, 3, 4, 5] rfl)
      have L_45 : ∀ (t1 : tSt) (d1 : dSt) (w45_3 : Int32) (w45_4 : Int32) (w45_5 : Int32) (w45_6 : Int32) (k45_0 : Int32) (H : Heap) (locs : List Loc) (ls : Array Slot), okX t1 → frA [(2, 2), (2, 3), (2, 4), (2, 5), (5, 7), (5, 9), (5, 11), (5, 12), (5, 14), (5, 15), (5, 16), (5, 17), (5, 18), (20, 3), (23, 3), (23, 6), (23, 12), (24, 2), (24, 3), (24, 4), (24, 5), (24, 6), (24, 8)] [(5, 13), (24, 7), (24, 9)] [9, 10, 26, 27, 28, 35, 36, 37, 42, 43, 44, 45, 46, 47, 48, 49, 50] [25, 41] t t1 → okD d1 → dLe d d1 → dFr s.heap.size d d1 → (0 : Int) ≤ w45_4.toInt ∧ w45_4.toInt ≤ 8 → (0 : Int) ≤ w45_5.toInt ∧ w45_5.toInt ≤ 8193 → (1 : Int) ≤ w45_6.toInt ∧ w45_6.toInt ≤ 8 → (1 : Int) ≤ k45_0.toInt ∧ k45_0.toInt ≤ 8 → (32399 : Int) - w45_5.toInt < (fuel_8 : Int) + 1 → va_P D vwCl ((WX d1) K ad t1) H → va_D A ((WX d1) K ad t1) → va_S A s.heap H locs → lv_has ls 7 [(0, .ref (ad 6)), (1, .int x1), (2, .int x2), (3, .int w45_3), (4, .int w45_4), (5, .int w45_5), (6, .int w45_6)] → W p l e (rmD 9 10000 2800000) s m [.ref (ad 6), .int x1, .int x2].toArray below meth c H locs (newC d d1) 246800 (MQ below (QDI D K ad d (fun (r : Int32) (u : tSt) (dd : dSt) => okX u ∧ frA [(2, 2), (2, 3), (2, 4), (2, 5), (5, 7), (5, 9), (5, 11), (5, 12), (5, 14), (5, 15), (5, 16), (5, 17), (5, 18), (20, 3), (23, 3), (23, 6), (23, 12), (24, 2), (24, 3), (24, 4), (24, 5), (24, 6), (24, 8)] [(5, 13), (24, 7), (24, 9)] [9, 10, 26, 27, 28, 35, 36, 37, 42, 43, 44, 45, 46, 47, 48, 49, 50] [25, 41] t u ∧ okD dd ∧ (-2147483648 : Int) ≤ r.toInt ∧ r.toInt ≤ 2147483647) s.heap.size A) [.ref (ad 6), .int x1, .int x2].toArray s 10000 2800000 A) (F0 m 45 ls [.int k45_0]) := by
        intro t1 d1 w45_3 w45_4 w45_5 w45_6 k45_0 H locs ls hok hfr hod hle hdf hw45_4 hw45_5 hw45_6 hk45_0 hm45_8 hP hD hS hl
        refine lv_istore (lv' := [(4, .int k45_0), (0, .ref (ad 6)), (1, .int x1), (2, .int x2), (3, .int w45_3), (5, .int w45_5), (6, .int w45_6)]) C.1 C.2.1 dX7_printWrongs_45 hl (by decide) rfl (fun ls hl => ?_)
        have hl : lv_has ls 7 [(0, .ref (ad 6)), (1, .int x1), (2, .int x2), (3, .int w45_3), (4, .int k45_0), (5, .int w45_5), (6, .int w45_6)] := lv_sub hl [1, 2, 3, 4, 0, 5, 6] rfl
        refine lv_aload_n C.1 C.2.1 dX7_printWrongs_47 rfl (lv_at hl 0 rfl) ?_
        refine k_get (v := .ref (ad 20)) C hP 6 rfl rfl inlX7 2 (by decide) m_6_14 rfl dX7_printWrongs_48 ?_
        refine lv_iconst (v := 1) C.1 C.2.1 dX7_printWrongs_51 (by decide) ?_
        refine lv_iconst (v := 4) C.1 C.2.1 dX7_printWrongs_52 (by decide) ?_
        refine lv_aload_n C.1 C.2.1 dX7_printWrongs_53 rfl (lv_at hl 0 rfl) ?_
        refine k_get (v := .ref (ad 5)) C hP 6 rfl rfl inlX7 1 (by decide) m_6_12 rfl dX7_printWrongs_54 ?_
        refine k_get (v := .ref (ad 2)) C hP 5 rfl rfl inlX0 0 (by decide) m_40_13 rfl dX7_printWrongs_57 ?_
        refine k_get (v := .int (t1.1 2 5)) C hP 2 rfl rfl inlX9 5 (by decide) m_40_14 rfl dX7_printWrongs_60 ?_
        obtain ⟨v_10, e_11⟩ : ∃ z, z = ((t1.1 2 5) : Int32).toInt64 := ⟨_, rfl⟩
        have h_12 : v_10.toInt = (t1.1 2 5).toInt := by rw [e_11]; exact Jvm.Kit.i64_of_i32 _
        have h_13 := i_rng (t1.1 2 5)
        refine lv_i2l (v := v_10) C.1 C.2.1 dX7_printWrongs_63 e_11.symm ?_
        have h_14 : (4 : Int32).toInt = 4 := rfl
        refine hz_Vv (As := [.int 1, .int 4, .long v_10]) (rest := []) C hP hD hS hA (T_X4_digits l D K Z Y ad d1 t1 hok 1 (show (0 : Int) ≤ (1 : Int32).toInt ∧ (1 : Int32).toInt ≤ 200 from ⟨by decide, by decide⟩) 4 (show (1 : Int) ≤ (4 : Int32).toInt ∧ (4 : Int32).toInt ≤ 10 from ⟨by decide, by decide⟩) (v_10) (show 0 ≤ (4 : Int32).toInt from by omega)) hE hZ (uwV m_40_18 m_40_19 m_40_20 m_3_20 m_40_21) (hdV 3 (by decide +kernel) rfl) ⟨Nat.le_of_ble_eq_true rfl, Nat.le_of_ble_eq_true rfl⟩ rfl rfl (ci := 3) (q0 := 20) rfl rfl rfl hl.1 (Nat.le_of_ble_eq_true rfl) dX7_printWrongs_64 ⟨Nat.le_trans (newC_le _ _) (Nat.le_of_ble_eq_true rfl), (Nat.le_of_ble_eq_true rfl)⟩ (fun t_15 H locs hw hP hD hS => ?_)
        obtain ⟨hok, f_17⟩ := hw
        have hfr : frA [(2, 2), (2, 3), (2, 4), (2, 5), (5, 7), (5, 9), (5, 11), (5, 12), (5, 14), (5, 15), (5, 16), (5, 17), (5, 18), (20, 3), (23, 3), (23, 6), (23, 12), (24, 2), (24, 3), (24, 4), (24, 5), (24, 6), (24, 8)] [(5, 13), (24, 7), (24, 9)] [9, 10, 26, 27, 28, 35, 36, 37, 42, 43, 44, 45, 46, 47, 48, 49, 50] [25, 41] t t_15 := frA_tr hfr f_17 rfl
        have h_18 : (t_15.1 2 5).toInt = (t1.1 2 5).toInt := ti_eq (f_17.1 2 5 rfl)
        refine lv_aload_n C.1 C.2.1 dX7_printWrongs_67 rfl (lv_at hl 0 rfl) ?_
        refine k_get (v := .ref (ad 20)) C hP 6 rfl rfl inlX7 2 (by decide) m_6_14 rfl dX7_printWrongs_68 ?_
        refine lv_bipush (v := 6) C.1 C.2.1 dX7_printWrongs_71 (by decide) ?_
        refine lv_iconst (v := 1) C.1 C.2.1 dX7_printWrongs_73 (by decide) ?_
        refine lv_iload C.1 C.2.1 dX7_printWrongs_74 (lv_at hl 6 rfl) ?_
        obtain ⟨v_19, e_20⟩ : ∃ z, z = (w45_6 : Int32).toInt64 := ⟨_, rfl⟩
        have h_21 : v_19.toInt = w45_6.toInt := by rw [e_20]; exact Jvm.Kit.i64_of_i32 _
        refine lv_i2l (v := v_19) C.1 C.2.1 dX7_printWrongs_76 e_20.symm ?_
        have h_22 : (1 : Int32).toInt = 1 := rfl
        refine hz_Vv (As := [.int 6, .int 1, .long v_19]) (rest := []) C hP hD hS hA (T_X4_digits l D K Z Y ad d1 t_15 hok 6 (show (0 : Int) ≤ (6 : Int32).toInt ∧ (6 : Int32).toInt ≤ 200 from ⟨by decide, by decide⟩) 1 (show (1 : Int) ≤ (1 : Int32).toInt ∧ (1 : Int32).toInt ≤ 10 from ⟨by decide, by decide⟩) (v_19) (show 0 ≤ (1 : Int32).toInt from by omega)) hE hZ (uwV m_40_18 m_40_19 m_40_20 m_3_20 m_40_21) (hdV 3 (by decide +kernel) rfl) ⟨Nat.le_of_ble_eq_true rfl, Nat.le_of_ble_eq_true rfl⟩ rfl rfl (ci := 3) (q0 := 20) rfl rfl rfl hl.1 (Nat.le_of_ble_eq_true rfl) dX7_printWrongs_77 ⟨Nat.le_trans (newC_le _ _) (Nat.le_of_ble_eq_true rfl), (Nat.le_of_ble_eq_true rfl)⟩ (fun t_23 H locs hw hP hD hS => ?_)
        obtain ⟨hok, f_25⟩ := hw
        have hfr : frA [(2, 2), (2, 3), (2, 4), (2, 5), (5, 7), (5, 9), (5, 11), (5, 12), (5, 14), (5, 15), (5, 16), (5, 17), (5, 18), (20, 3), (23, 3), (23, 6), (23, 12), (24, 2), (24, 3), (24, 4), (24, 5), (24, 6), (24, 8)] [(5, 13), (24, 7), (24, 9)] [9, 10, 26, 27, 28, 35, 36, 37, 42, 43, 44, 45, 46, 47, 48, 49, 50] [25, 41] t t_23 := frA_tr hfr f_25 rfl
        have h_26 : (t_23.1 2 5).toInt = (t_15.1 2 5).toInt := ti_eq (f_25.1 2 5 rfl)
        refine lv_iload C.1 C.2.1 dX7_printWrongs_80 (lv_at hl 6 rfl) ?_
        refine lv_bipush (v := 7) C.1 C.2.1 dX7_printWrongs_82 (by decide) ?_
        refine lv_icmp_eq (tgt := 106) C.1 C.2.1 dX7_printWrongs_84 (by decide) (fun c_27 => ?_) (fun c_27 => ?_)
        · replace c_27 : w45_6.toInt = 7 := i_eq c_27
          exact L_106 t_23 d1 w45_3 k45_0 w45_5 w45_6 _ _ _ hok hfr hod hle hdf ⟨by omega, by omega⟩ ⟨by omega, by omega⟩ ⟨by omega, by omega⟩ (show (32399 : Int) - w45_5.toInt < (fuel_8 : Int) + 1 from by omega) hP hD hS (lv_sub hl [0, 1, 2, 3, 4, 5, 6] rfl)
        · replace c_27 : ¬ w45_6.toInt = 7 := i_ne c_27
          refine lv_aload_n C.1 C.2.1 dX7_printWrongs_87 rfl (lv_at hl 0 rfl) ?_
          refine k_get (v := .ref (ad 20)) C hP 6 rfl rfl inlX7 2 (by decide) m_6_14 rfl dX7_printWrongs_88 ?_
          refine lv_bipush (v := 8) C.1 C.2.1 dX7_printWrongs_91 (by decide) ?_
          refine lv_aload_n C.1 C.2.1 dX7_printWrongs_93 rfl (lv_at hl 0 rfl) ?_
          refine k_get (v := .ref (ad 5)) C hP 6 rfl rfl inlX7 1 (by decide) m_6_12 rfl dX7_printWrongs_94 ?_
          refine k_get (v := .ref (ad 2)) C hP 5 rfl rfl inlX0 0 (by decide) m_40_13 rfl dX7_printWrongs_97 ?_
          refine k_get (v := .ref (ad 9)) C hP 2 rfl rfl inlX9 1 (by decide) m_40_15 rfl dX7_printWrongs_100 ?_
          refine hz_Vv (As := [.int 8, .ref (ad 9)]) (rest := []) C hP hD hS hA (T_X4_copy l D K Z Y ad d1 t_23 hok 8 (show (8 : Int) ≤ (8 : Int32).toInt ∧ (8 : Int32).toInt ≤ 31 from ⟨by decide, by decide⟩)) hE hZ (uwV m_41_3 m_41_4 m_41_5 m_3_20 m_41_6) (hdV 2 (by decide +kernel) rfl) ⟨Nat.le_of_ble_eq_true rfl, Nat.le_of_ble_eq_true rfl⟩ rfl rfl (ci := 3) (q0 := 20) rfl rfl rfl hl.1 (Nat.le_of_ble_eq_true rfl) dX7_printWrongs_103 ⟨Nat.le_trans (newC_le _ _) (Nat.le_of_ble_eq_true rfl), (Nat.le_of_ble_eq_true rfl)⟩ (fun t_28 H locs hw hP hD hS => ?_)
          obtain ⟨hok, f_30⟩ := hw
          have hfr : frA [(2, 2), (2, 3), (2, 4), (2, 5), (5, 7), (5, 9), (5, 11), (5, 12), (5, 14), (5, 15), (5, 16), (5, 17), (5, 18), (20, 3), (23, 3), (23, 6), (23, 12), (24, 2), (24, 3), (24, 4), (24, 5), (24, 6), (24, 8)] [(5, 13), (24, 7), (24, 9)] [9, 10, 26, 27, 28, 35, 36, 37, 42, 43, 44, 45, 46, 47, 48, 49, 50] [25, 41] t t_28 := frA_tr hfr f_30 rfl
          have h_31 : (t_28.1 2 5).toInt = (t_23.1 2 5).toInt := ti_eq (f_30.1 2 5 rfl)
          exact L_106 t_28 d1 w45_3 k45_0 w45_5 w45_6 _ _ _ hok hfr hod hle hdf ⟨by omega, by omega⟩ ⟨by omega, by omega⟩ ⟨by omega, by omega⟩ (show (32399 : Int) - w45_5.toInt < (fuel_8 : Int) + 1 from by omega) hP hD hS (lv_sub hl [0, 1, 2, 3, 4, 5, 6] rfl)
      refine lv_iload C.1 C.2.1 dX7_printWrongs_8 (lv_at hl 5 rfl) ?_
      refine lv_sipush (v := 8193) C.1 C.2.1 dX7_printWrongs_10 (by decide) ?_
      refine lv_icmp_gt (tgt := 124) C.1 C.2.1 dX7_printWrongs_13 (by decide) (fun c_32 => ?_) (fun c_32 => ?_)
      · replace c_32 : 8193 < w8_5.toInt := i_lt c_32
        exact L_124 t1 d1 w8_3 w8_4 w8_5 _ _ _ hok hfr hod hle hdf ⟨by omega, by omega⟩ ⟨by omega, by omega⟩ hP hD hS (lv_sub hl [0, 1, 2, 3, 4, 5] rfl)
      · replace c_32 : w8_5.toInt ≤ 8193 := i_nlt c_32
        refine lv_aload_n C.1 C.2.1 dX7_printWrongs_16 rfl (lv_at hl 0 rfl) ?_
        refine k_get (v := .ref (ad 5)) C hP 6 rfl rfl inlX7 1 (by decide) m_6_12 rfl dX7_printWrongs_17 ?_
        refine hz_Vi (As := []) (rest := []) C hP hD hS hA (T_X0_nextWrong l D K Z Y ad d1 t1 hok ) hE hZ (uwV m_40_17 m_13_13 m_13_14 m_2_2 m_13_15) (hdV 0 (by decide +kernel) rfl) ⟨Nat.le_of_ble_eq_true rfl, Nat.le_of_ble_eq_true rfl⟩ rfl rfl (ci := 0) (q0 := 5) rfl rfl rfl hl.1 (Nat.le_of_ble_eq_true rfl) dX7_printWrongs_20 ⟨Nat.le_trans (newC_le _ _) (Nat.le_of_ble_eq_true rfl), (Nat.le_of_ble_eq_true rfl)⟩ (fun r_34 t_33 H locs hw hP hD hS => ?_)
        obtain ⟨hok, f_35, h_36, h_37⟩ := hw
        have hfr : frA [(2, 2), (2, 3), (2, 4), (2, 5), (5, 7), (5, 9), (5, 11), (5, 12), (5, 14), (5, 15), (5, 16), (5, 17), (5, 18), (20, 3), (23, 3), (23, 6), (23, 12), (24, 2), (24, 3), (24, 4), (24, 5), (24, 6), (24, 8)] [(5, 13), (24, 7), (24, 9)] [9, 10, 26, 27, 28, 35, 36, 37, 42, 43, 44, 45, 46, 47, 48, 49, 50] [25, 41] t t_33 := frA_tr hfr f_35 rfl
        refine lv_istore (lv' := [(6, .int r_34), (0, .ref (ad 6)), (1, .int x1), (2, .int x2), (3, .int w8_3), (4, .int w8_4), (5, .int w8_5)]) C.1 C.2.1 dX7_printWrongs_23 hl (by decide) rfl (fun ls hl => ?_)
        have hl : lv_has ls 7 [(0, .ref (ad 6)), (1, .int x1), (2, .int x2), (3, .int w8_3), (4, .int w8_4), (5, .int w8_5), (6, .int r_34)] := lv_sub hl [1, 2, 3, 4, 5, 6, 0] rfl
        refine lv_iload C.1 C.2.1 dX7_printWrongs_25 (lv_at hl 6 rfl) ?_
        refine lv_if_ne (tgt := 33) C.1 C.2.1 dX7_printWrongs_27 (by decide) (fun c_38 => ?_) (fun c_38 => ?_)
        · replace c_38 : ¬ r_34.toInt = 0 := i_ne c_38
          refine lv_iload C.1 C.2.1 dX7_printWrongs_33 (lv_at hl 4 rfl) ?_
          refine lv_if_ne (tgt := 43) C.1 C.2.1 dX7_printWrongs_35 (by decide) (fun c_39 => ?_) (fun c_39 => ?_)
          · replace c_39 : ¬ w8_4.toInt = 0 := i_ne c_39
            refine lv_iload C.1 C.2.1 dX7_printWrongs_43 (lv_at hl 4 rfl) ?_
            exact L_45 t_33 d1 w8_3 w8_4 w8_5 r_34 w8_4 _ _ _ hok hfr hod hle hdf ⟨by omega, by omega⟩ ⟨by omega, by omega⟩ ⟨by omega, by omega⟩ ⟨by omega, by omega⟩ (show (32399 : Int) - w8_5.toInt < (fuel_8 : Int) + 1 from by omega) hP hD hS (lv_sub hl [0, 1, 2, 3, 4, 5, 6] rfl)
          · replace c_39 : w8_4.toInt = 0 := i_eq c_39
            refine lv_iload C.1 C.2.1 dX7_printWrongs_38 (lv_at hl 6 rfl) ?_
            refine lv_goto (tgt := 45) C.1 C.2.1 dX7_printWrongs_40 (by decide) ?_
            exact L_45 t_33 d1 w8_3 w8_4 w8_5 r_34 r_34 _ _ _ hok hfr hod hle hdf ⟨by omega, by omega⟩ ⟨by omega, by omega⟩ ⟨by omega, by omega⟩ ⟨by omega, by omega⟩ (show (32399 : Int) - w8_5.toInt < (fuel_8 : Int) + 1 from by omega) hP hD hS (lv_sub hl [0, 1, 2, 3, 4, 5, 6] rfl)
        · replace c_38 : r_34.toInt = 0 := i_eq c_38
          refine lv_goto (tgt := 124) C.1 C.2.1 dX7_printWrongs_30 (by decide) ?_
          exact L_124 t_33 d1 w8_3 w8_4 w8_5 _ _ _ hok hfr hod hle hdf ⟨by omega, by omega⟩ ⟨by omega, by omega⟩ hP hD hS (lv_sub hl [0, 1, 2, 3, 4, 5] rfl)
  refine lv_iconst (v := 0) C.1 C.2.1 dX7_printWrongs_0 (by decide) ?_
  refine lv_istore_n (lv' := [(3, .int 0), (0, .ref (ad 6)), (1, .int x1), (2, .int x2)]) C.1 C.2.1 dX7_printWrongs_1 rfl hl (by decide) rfl (fun ls hl => ?_)
  have hl : lv_has ls 7 [(0, .ref (ad 6)), (1, .int x1), (2, .int x2), (3, .int 0)] := lv_sub hl [1, 2, 3, 0] rfl
  refine lv_iconst (v := 0) C.1 C.2.1 dX7_printWrongs_2 (by decide) ?_
  refine lv_istore (lv' := [(4, .int 0), (0, .ref (ad 6)), (1, .int x1), (2, .int x2), (3, .int 0)]) C.1 C.2.1 dX7_printWrongs_3 hl (by decide) rfl (fun ls hl => ?_)
  have hl : lv_has ls 7 [(0, .ref (ad 6)), (1, .int x1), (2, .int x2), (3, .int 0), (4, .int 0)] := lv_sub hl [1, 2, 3, 4, 0] rfl
  refine lv_iconst (v := 0) C.1 C.2.1 dX7_printWrongs_5 (by decide) ?_
  refine lv_istore (lv' := [(5, .int 0), (0, .ref (ad 6)), (1, .int x1), (2, .int x2), (3, .int 0), (4, .int 0)]) C.1 C.2.1 dX7_printWrongs_6 hl (by decide) rfl (fun ls hl => ?_)
  have hl : lv_has ls 7 [(0, .ref (ad 6)), (1, .int x1), (2, .int x2), (3, .int 0), (4, .int 0), (5, .int 0)] := lv_sub hl [1, 2, 3, 4, 5, 0] rfl
  exact L_8 32400 t d 0 0 0 _ _ _ hok hfr hod hle hdf ⟨by decide, by decide⟩ ⟨by decide, by decide⟩ (show (32399 : Int) - 0 < ((32400 : Nat) : Int) from by omega) hP hD hS (lv_sub hl [0, 1, 2, 3, 4, 5] rfl)

theorem dX7_punchCards_0 : decode cX7_punchCards 0 = .ok (.iconst 0, 1) := by decide +kernel
theorem dX7_punchCards_1 : decode cX7_punchCards 1 = .ok (.istore_n 1, 1) := by decide +kernel
theorem dX7_punchCards_10 : decode cX7_punchCards 10 = .ok (.if_icmp .gt 105, 3) := by decide +kernel
theorem dX7_punchCards_100 : decode cX7_punchCards 100 = .ok (.iconst 0, 1) := by decide +kernel
theorem dX7_punchCards_101 : decode cX7_punchCards 101 = .ok (.invokevirtual 56, 3) := by decide +kernel
theorem dX7_punchCards_104 : decode cX7_punchCards 104 = .ok (.iinc 1 1, 3) := by decide +kernel
theorem dX7_punchCards_107 : decode cX7_punchCards 107 = .ok (.iconst 0, 1) := by decide +kernel
theorem dX7_punchCards_108 : decode cX7_punchCards 108 = .ok (.istore_n 2, 1) := by decide +kernel
theorem dX7_punchCards_109 : decode cX7_punchCards 109 = .ok (.iinc 3 1, 3) := by decide +kernel
theorem dX7_punchCards_112 : decode cX7_punchCards 112 = .ok (.goto (-106), 3) := by decide +kernel
theorem dX7_punchCards_115 : decode cX7_punchCards 115 = .ok (.aload_n 0, 1) := by decide +kernel
theorem dX7_punchCards_116 : decode cX7_punchCards 116 = .ok (.getfield 29, 3) := by decide +kernel
theorem dX7_punchCards_119 : decode cX7_punchCards 119 = .ok (.bipush 6, 2) := by decide +kernel
theorem dX7_punchCards_121 : decode cX7_punchCards 121 = .ok (.iconst 1, 1) := by decide +kernel
theorem dX7_punchCards_122 : decode cX7_punchCards 122 = .ok (.lconst 0, 1) := by decide +kernel
theorem dX7_punchCards_123 : decode cX7_punchCards 123 = .ok (.invokevirtual 42, 3) := by decide +kernel
theorem dX7_punchCards_126 : decode cX7_punchCards 126 = .ok (.aload_n 0, 1) := by decide +kernel
theorem dX7_punchCards_127 : decode cX7_punchCards 127 = .ok (.getfield 29, 3) := by decide +kernel
theorem dX7_punchCards_13 : decode cX7_punchCards 13 = .ok (.aload_n 0, 1) := by decide +kernel
theorem dX7_punchCards_130 : decode cX7_punchCards 130 = .ok (.bipush 7, 2) := by decide +kernel
theorem dX7_punchCards_132 : decode cX7_punchCards 132 = .ok (.iconst 4, 1) := by decide +kernel
theorem dX7_punchCards_133 : decode cX7_punchCards 133 = .ok (.aload_n 0, 1) := by decide +kernel
theorem dX7_punchCards_134 : decode cX7_punchCards 134 = .ok (.getfield 15, 3) := by decide +kernel
theorem dX7_punchCards_137 : decode cX7_punchCards 137 = .ok (.getfield 60, 3) := by decide +kernel
theorem dX7_punchCards_14 : decode cX7_punchCards 14 = .ok (.getfield 15, 3) := by decide +kernel
theorem dX7_punchCards_140 : decode cX7_punchCards 140 = .ok (.iconst 0, 1) := by decide +kernel
theorem dX7_punchCards_141 : decode cX7_punchCards 141 = .ok (.invokestatic 64, 3) := by decide +kernel
theorem dX7_punchCards_144 : decode cX7_punchCards 144 = .ok (.i2l, 1) := by decide +kernel
theorem dX7_punchCards_145 : decode cX7_punchCards 145 = .ok (.invokevirtual 42, 3) := by decide +kernel
theorem dX7_punchCards_148 : decode cX7_punchCards 148 = .ok (.aload_n 0, 1) := by decide +kernel
theorem dX7_punchCards_149 : decode cX7_punchCards 149 = .ok (.getfield 29, 3) := by decide +kernel
theorem dX7_punchCards_152 : decode cX7_punchCards 152 = .ok (.bipush 120, 2) := by decide +kernel
theorem dX7_punchCards_154 : decode cX7_punchCards 154 = .ok (.iconst 0, 1) := by decide +kernel
theorem dX7_punchCards_155 : decode cX7_punchCards 155 = .ok (.invokevirtual 56, 3) := by decide +kernel
theorem dX7_punchCards_158 : decode cX7_punchCards 158 = .ok (.iload_n 1, 1) := by decide +kernel
theorem dX7_punchCards_159 : decode cX7_punchCards 159 = .ok (.iconst 1, 1) := by decide +kernel
theorem dX7_punchCards_160 : decode cX7_punchCards 160 = .ok (.iadd, 1) := by decide +kernel
theorem dX7_punchCards_161 : decode cX7_punchCards 161 = .ok (.ireturn, 1) := by decide +kernel
theorem dX7_punchCards_17 : decode cX7_punchCards 17 = .ok (.iload_n 3, 1) := by decide +kernel
theorem dX7_punchCards_18 : decode cX7_punchCards 18 = .ok (.invokevirtual 36, 3) := by decide +kernel
theorem dX7_punchCards_2 : decode cX7_punchCards 2 = .ok (.iconst 0, 1) := by decide +kernel
theorem dX7_punchCards_21 : decode cX7_punchCards 21 = .ok (.ifCond .eq 38, 3) := by decide +kernel
theorem dX7_punchCards_24 : decode cX7_punchCards 24 = .ok (.iload_n 2, 1) := by decide +kernel
theorem dX7_punchCards_25 : decode cX7_punchCards 25 = .ok (.ifCond .ne 15, 3) := by decide +kernel
theorem dX7_punchCards_28 : decode cX7_punchCards 28 = .ok (.aload_n 0, 1) := by decide +kernel
theorem dX7_punchCards_29 : decode cX7_punchCards 29 = .ok (.getfield 29, 3) := by decide +kernel
theorem dX7_punchCards_3 : decode cX7_punchCards 3 = .ok (.istore_n 2, 1) := by decide +kernel
theorem dX7_punchCards_32 : decode cX7_punchCards 32 = .ok (.bipush 7, 2) := by decide +kernel
theorem dX7_punchCards_34 : decode cX7_punchCards 34 = .ok (.iconst 4, 1) := by decide +kernel
theorem dX7_punchCards_35 : decode cX7_punchCards 35 = .ok (.iload_n 3, 1) := by decide +kernel
theorem dX7_punchCards_36 : decode cX7_punchCards 36 = .ok (.i2l, 1) := by decide +kernel
theorem dX7_punchCards_37 : decode cX7_punchCards 37 = .ok (.invokevirtual 42, 3) := by decide +kernel
theorem dX7_punchCards_4 : decode cX7_punchCards 4 = .ok (.iconst 0, 1) := by decide +kernel
theorem dX7_punchCards_40 : decode cX7_punchCards 40 = .ok (.aload_n 0, 1) := by decide +kernel
theorem dX7_punchCards_41 : decode cX7_punchCards 41 = .ok (.bipush 11, 2) := by decide +kernel
theorem dX7_punchCards_43 : decode cX7_punchCards 43 = .ok (.bipush 10, 2) := by decide +kernel
theorem dX7_punchCards_45 : decode cX7_punchCards 45 = .ok (.iload_n 2, 1) := by decide +kernel
theorem dX7_punchCards_46 : decode cX7_punchCards 46 = .ok (.imul, 1) := by decide +kernel
theorem dX7_punchCards_47 : decode cX7_punchCards 47 = .ok (.iadd, 1) := by decide +kernel
theorem dX7_punchCards_48 : decode cX7_punchCards 48 = .ok (.aload_n 0, 1) := by decide +kernel
theorem dX7_punchCards_49 : decode cX7_punchCards 49 = .ok (.iload_n 3, 1) := by decide +kernel
theorem dX7_punchCards_5 : decode cX7_punchCards 5 = .ok (.istore_n 3, 1) := by decide +kernel
theorem dX7_punchCards_50 : decode cX7_punchCards 50 = .ok (.invokevirtual 48, 3) := by decide +kernel
theorem dX7_punchCards_53 : decode cX7_punchCards 53 = .ok (.invokevirtual 52, 3) := by decide +kernel
theorem dX7_punchCards_56 : decode cX7_punchCards 56 = .ok (.iinc 2 1, 3) := by decide +kernel
theorem dX7_punchCards_59 : decode cX7_punchCards 59 = .ok (.iload_n 2, 1) := by decide +kernel
theorem dX7_punchCards_6 : decode cX7_punchCards 6 = .ok (.iload_n 3, 1) := by decide +kernel
theorem dX7_punchCards_60 : decode cX7_punchCards 60 = .ok (.bipush 7, 2) := by decide +kernel
theorem dX7_punchCards_62 : decode cX7_punchCards 62 = .ok (.if_icmp .eq 20, 3) := by decide +kernel
theorem dX7_punchCards_65 : decode cX7_punchCards 65 = .ok (.iload_n 2, 1) := by decide +kernel
theorem dX7_punchCards_66 : decode cX7_punchCards 66 = .ok (.ifCond .le 43, 3) := by decide +kernel
theorem dX7_punchCards_69 : decode cX7_punchCards 69 = .ok (.aload_n 0, 1) := by decide +kernel
theorem dX7_punchCards_7 : decode cX7_punchCards 7 = .ok (.sipush 3999, 3) := by decide +kernel
theorem dX7_punchCards_70 : decode cX7_punchCards 70 = .ok (.getfield 15, 3) := by decide +kernel
theorem dX7_punchCards_73 : decode cX7_punchCards 73 = .ok (.iload_n 3, 1) := by decide +kernel
theorem dX7_punchCards_74 : decode cX7_punchCards 74 = .ok (.iconst 1, 1) := by decide +kernel
theorem dX7_punchCards_75 : decode cX7_punchCards 75 = .ok (.iadd, 1) := by decide +kernel
theorem dX7_punchCards_76 : decode cX7_punchCards 76 = .ok (.invokevirtual 36, 3) := by decide +kernel
theorem dX7_punchCards_79 : decode cX7_punchCards 79 = .ok (.ifCond .ne 30, 3) := by decide +kernel
theorem dX7_punchCards_82 : decode cX7_punchCards 82 = .ok (.aload_n 0, 1) := by decide +kernel
theorem dX7_punchCards_83 : decode cX7_punchCards 83 = .ok (.getfield 29, 3) := by decide +kernel
theorem dX7_punchCards_86 : decode cX7_punchCards 86 = .ok (.bipush 6, 2) := by decide +kernel
theorem dX7_punchCards_88 : decode cX7_punchCards 88 = .ok (.iconst 1, 1) := by decide +kernel
theorem dX7_punchCards_89 : decode cX7_punchCards 89 = .ok (.iload_n 2, 1) := by decide +kernel
theorem dX7_punchCards_90 : decode cX7_punchCards 90 = .ok (.i2l, 1) := by decide +kernel
theorem dX7_punchCards_91 : decode cX7_punchCards 91 = .ok (.invokevirtual 42, 3) := by decide +kernel
theorem dX7_punchCards_94 : decode cX7_punchCards 94 = .ok (.aload_n 0, 1) := by decide +kernel
theorem dX7_punchCards_95 : decode cX7_punchCards 95 = .ok (.getfield 29, 3) := by decide +kernel
theorem dX7_punchCards_98 : decode cX7_punchCards 98 = .ok (.bipush 120, 2) := by decide +kernel
set_option maxHeartbeats 4000000 in
set_option maxRecDepth 100000 in
theorem T_X7_punchCards (l : Launch) (D : va_G) (K : Nat → ClassId) (Z Y : Nat → Nat) (ad : Nat → Nat) (d : dSt) (t : tSt) (hok : okX t) (hod : okD d)  : dMet l yX7_punchCards cX7_punchCards 4 (some .int) (rmD 3 4000 1120000) D K Z Y [.ref (ad 6)] ((WX d) K ad t) (QDI D K ad d (fun (r : Int32) (u : tSt) (dd : dSt) => okX u ∧ frA [(19, 3)] [] [32, 33, 34] [] t u ∧ okD dd ∧ (-2147483648 : Int) ≤ r.toInt ∧ r.toInt ≤ 2147483647)) 4000 1120000 := by
  refine d_met d RX7 ⟨rfl, by decide +kernel⟩ (Nat.le_of_ble_eq_true rfl) ?_
  intro p e s m below meth c A ls C hE hZ hX hr hlocks hA hP hD hS hl
  have hl : lv_has ls 4 [(0, .ref (ad 6))] := hl
  have hle : dLe d d := dLe_rf
  have hdf : dFr s.heap.size d d := dFr_rf
  have hokt := hok
  have hfr : frA [(19, 3)] [] [32, 33, 34] [] t t := frA_rf
  have L_6 : ∀ (fuel_6 : Nat) (t1 : tSt) (d1 : dSt) (w6_1 : Int32) (w6_2 : Int32) (w6_3 : Int32) (H : Heap) (locs : List Loc) (ls : Array Slot), okX t1 → frA [(19, 3)] [] [32, 33, 34] [] t t1 → okD d1 → dLe d d1 → dFr s.heap.size d d1 → (0 : Int) ≤ w6_2.toInt ∧ w6_2.toInt ≤ 6 → (0 : Int) ≤ w6_3.toInt ∧ w6_3.toInt ≤ 4000 → (4000 : Int) - w6_3.toInt < (fuel_6 : Int) → va_P D vwCl ((WX d1) K ad t1) H → va_D A ((WX d1) K ad t1) → va_S A s.heap H locs → lv_has ls 4 [(0, .ref (ad 6)), (1, .int w6_1), (2, .int w6_2), (3, .int w6_3)] → W p l e (rmD 3 4000 1120000) s m [.ref (ad 6)].toArray below meth c H locs (newC d d1) 246800 (MQ below (QDI D K ad d (fun (r : Int32) (u : tSt) (dd : dSt) => okX u ∧ frA [(19, 3)] [] [32, 33, 34] [] t u ∧ okD dd ∧ (-2147483648 : Int) ≤ r.toInt ∧ r.toInt ≤ 2147483647) s.heap.size A) [.ref (ad 6)].toArray s 4000 1120000 A) (F0 m 6 ls []) := by
    intro fuel_6
    induction fuel_6 with
    | zero =>
      intro t1 d1 w6_1 w6_2 w6_3 H locs ls hok hfr hod hle hdf hw6_2 hw6_3 hm6_6 hP hD hS hl
      exact absurd hm6_6 (by omega)
    | succ fuel_6 ih_6 =>
      intro t1 d1 w6_1 w6_2 w6_3 H locs ls hok hfr hod hle hdf hw6_2 hw6_3 hm6_6 hP hD hS hl
      have hm6_6 : (4000 : Int) - w6_3.toInt < (fuel_6 : Int) + 1 := by omega
      have L_109 : ∀ (t1 : tSt) (d1 : dSt) (w109_1 : Int32) (w109_2 : Int32) (w109_3 : Int32) (H : Heap) (locs : List Loc) (ls : Array Slot), okX t1 → frA [(19, 3)] [] [32, 33, 34] [] t t1 → okD d1 → dLe d d1 → dFr s.heap.size d d1 → (0 : Int) ≤ w109_2.toInt ∧ w109_2.toInt ≤ 6 → (0 : Int) ≤ w109_3.toInt ∧ w109_3.toInt ≤ 3999 → (4000 : Int) - w109_3.toInt < (fuel_6 : Int) + 1 → va_P D vwCl ((WX d1) K ad t1) H → va_D A ((WX d1) K ad t1) → va_S A s.heap H locs → lv_has ls 4 [(0, .ref (ad 6)), (1, .int w109_1), (2, .int w109_2), (3, .int w109_3)] → W p l e (rmD 3 4000 1120000) s m [.ref (ad 6)].toArray below meth c H locs (newC d d1) 246800 (MQ below (QDI D K ad d (fun (r : Int32) (u : tSt) (dd : dSt) => okX u ∧ frA [(19, 3)] [] [32, 33, 34] [] t u ∧ okD dd ∧ (-2147483648 : Int) ≤ r.toInt ∧ r.toInt ≤ 2147483647) s.heap.size A) [.ref (ad 6)].toArray s 4000 1120000 A) (F0 m 109 ls []) := by
        intro t1 d1 w109_1 w109_2 w109_3 H locs ls hok hfr hod hle hdf hw109_2 hw109_3 hm109_6 hP hD hS hl
        obtain ⟨v_1, e_2⟩ : ∃ z, z = w109_3 + 1 := ⟨_, rfl⟩
        have h_3 : v_1.toInt = w109_3.toInt + 1 := by rw [e_2]; exact ti_iadd (by show (_ : Int) ≤ w109_3.toInt + 1; omega) (by show w109_3.toInt + 1 < (_ : Int); omega)
        refine lv_iinc (v := v_1) (lv' := [(3, .int v_1), (0, .ref (ad 6)), (1, .int w109_1), (2, .int w109_2)]) C.1 C.2.1 dX7_punchCards_109 hl (k := 3) rfl e_2.symm (by decide) rfl (fun ls hl => ?_)
        have hl : lv_has ls 4 [(0, .ref (ad 6)), (1, .int w109_1), (2, .int w109_2), (3, .int v_1)] := lv_sub hl [1, 2, 3, 0] rfl
        refine lv_goto (tgt := 6) C.1 C.2.1 dX7_punchCards_112 (by decide) ?_
        exact ih_6 t1 d1 w109_1 w109_2 v_1 _ _ _ hok hfr hod hle hdf ⟨by omega, by omega⟩ ⟨by omega, by omega⟩ (show (4000 : Int) - v_1.toInt < (fuel_6 : Int) from by omega) hP hD hS (lv_sub hl [0, 1, 2, 3] rfl)
      have L_82 : ∀ (t1 : tSt) (d1 : dSt) (w82_1 : Int32) (w82_2 : Int32) (w82_3 : Int32) (H : Heap) (locs : List Loc) (ls : Array Slot), okX t1 → frA [(19, 3)] [] [32, 33, 34] [] t t1 → okD d1 → dLe d d1 → dFr s.heap.size d d1 → (1 : Int) ≤ w82_2.toInt ∧ w82_2.toInt ≤ 7 → (0 : Int) ≤ w82_3.toInt ∧ w82_3.toInt ≤ 3999 → (4000 : Int) - w82_3.toInt < (fuel_6 : Int) + 1 → va_P D vwCl ((WX d1) K ad t1) H → va_D A ((WX d1) K ad t1) → va_S A s.heap H locs → lv_has ls 4 [(0, .ref (ad 6)), (1, .int w82_1), (2, .int w82_2), (3, .int w82_3)] → W p l e (rmD 3 4000 1120000) s m [.ref (ad 6)].toArray below meth c H locs (newC d d1) 246800 (MQ below (QDI D K ad d (fun (r : Int32) (u : tSt) (dd : dSt) => okX u ∧ frA [(19, 3)] [] [32, 33, 34] [] t u ∧ okD dd ∧ (-2147483648 : Int) ≤ r.toInt ∧ r.toInt ≤ 2147483647) s.heap.size A) [.ref (ad 6)].toArray s 4000 1120000 A) (F0 m 82 ls []) := by
        intro t1 d1 w82_1 w82_2 w82_3 H locs ls hok hfr hod hle hdf hw82_2 hw82_3 hm82_6 hP hD hS hl
        refine lv_aload_n C.1 C.2.1 dX7_punchCards_82 rfl (lv_at hl 0 rfl) ?_
        refine k_get (v := .ref (ad 19)) C hP 6 rfl rfl inlX7 3 (by decide) m_6_16 rfl dX7_punchCards_83 ?_
        refine lv_bipush (v := 6) C.1 C.2.1 dX7_punchCards_86 (by decide) ?_
        refine lv_iconst (v := 1) C.1 C.2.1 dX7_punchCards_88 (by decide) ?_
        refine lv_iload_n C.1 C.2.1 dX7_punchCards_89 rfl (lv_at hl 2 rfl) ?_
        obtain ⟨v_4, e_5⟩ : ∃ z, z = (w82_2 : Int32).toInt64 := ⟨_, rfl⟩
        have h_6 : v_4.toInt = w82_2.toInt := by rw [e_5]; exact Jvm.Kit.i64_of_i32 _
        refine lv_i2l (v := v_4) C.1 C.2.1 dX7_punchCards_90 e_5.symm ?_
        have h_7 : (1 : Int32).toInt = 1 := rfl
        refine hz_Vv (As := [.int 6, .int 1, .long v_4]) (rest := []) C hP hD hS hA (T_X4_digits_1 l D K Z Y ad d1 t1 hok 6 (show (6 : Int) ≤ (6 : Int32).toInt ∧ (6 : Int32).toInt ≤ 72 from ⟨by decide, by decide⟩) 1 (show (1 : Int) ≤ (1 : Int32).toInt ∧ (1 : Int32).toInt ≤ 10 from ⟨by decide, by decide⟩) (v_4) (show (0 : Int) ≤ (v_4 : Int64).toInt ∧ (v_4 : Int64).toInt ≤ 9223372036854775807 from ⟨by omega, by omega⟩) (show 0 ≤ (1 : Int32).toInt from by omega)) hE hZ (uwV m_40_18 m_40_19 m_40_20 m_3_20 m_40_21) (hdV 3 (by decide +kernel) rfl) ⟨Nat.le_of_ble_eq_true rfl, Nat.le_of_ble_eq_true rfl⟩ rfl rfl (ci := 3) (q0 := 19) rfl rfl rfl hl.1 (Nat.le_of_ble_eq_true rfl) dX7_punchCards_91 ⟨Nat.le_trans (newC_le _ _) (Nat.le_of_ble_eq_true rfl), (Nat.le_of_ble_eq_true rfl)⟩ (fun t_8 H locs hw hP hD hS => ?_)
        obtain ⟨hok, f_10⟩ := hw
        have hfr : frA [(19, 3)] [] [32, 33, 34] [] t t_8 := frA_tr hfr f_10 rfl
        refine lv_aload_n C.1 C.2.1 dX7_punchCards_94 rfl (lv_at hl 0 rfl) ?_
        refine k_get (v := .ref (ad 19)) C hP 6 rfl rfl inlX7 3 (by decide) m_6_16 rfl dX7_punchCards_95 ?_
        refine lv_bipush (v := 120) C.1 C.2.1 dX7_punchCards_98 (by decide) ?_
        refine lv_iconst (v := 0) C.1 C.2.1 dX7_punchCards_100 (by decide) ?_
        refine g_DVv (As := [.int 120, .int 0]) (rest := []) C hP hD hS hA (T_X4_finish_1 l D K Z Y ad d1 t_8 hok hod 120 (show (120 : Int) ≤ (120 : Int32).toInt ∧ (120 : Int32).toInt ≤ 120 from ⟨by decide, by decide⟩) 0 (show (0 : Int) ≤ (0 : Int32).toInt ∧ (0 : Int32).toInt ≤ 0 from ⟨by decide, by decide⟩)) hE hZ hX hle hdf (uwV m_41_7 m_41_8 m_41_9 m_3_20 m_41_10) (hdV 2 (by decide +kernel) rfl) ⟨Nat.le_of_ble_eq_true rfl, Nat.le_of_ble_eq_true rfl⟩ rfl rfl (ci := 3) (q0 := 19) rfl rfl rfl hl.1 (Nat.le_of_ble_eq_true rfl) dX7_punchCards_101 ⟨Nat.le_of_ble_eq_true rfl, Nat.le_of_ble_eq_true rfl⟩ (fun t_11 d_13 H locs hw hP hD hS hln hle hdf => ?_)
        obtain ⟨hok, f_14, hod⟩ := hw
        have hfr : frA [(19, 3)] [] [32, 33, 34] [] t t_11 := frA_tr hfr f_14 rfl
        obtain ⟨v_15, e_16⟩ : ∃ z, z = w82_1 + 1 := ⟨_, rfl⟩
        refine lv_iinc (v := v_15) (lv' := [(1, .int v_15), (0, .ref (ad 6)), (2, .int w82_2), (3, .int w82_3)]) C.1 C.2.1 dX7_punchCards_104 hl (k := 1) rfl e_16.symm (by decide) rfl (fun ls hl => ?_)
        have hl : lv_has ls 4 [(0, .ref (ad 6)), (1, .int v_15), (2, .int w82_2), (3, .int w82_3)] := lv_sub hl [1, 0, 2, 3] rfl
        refine lv_iconst (v := 0) C.1 C.2.1 dX7_punchCards_107 (by decide) ?_
        refine lv_istore_n (lv' := [(2, .int 0), (0, .ref (ad 6)), (1, .int v_15), (3, .int w82_3)]) C.1 C.2.1 dX7_punchCards_108 rfl hl (by decide) rfl (fun ls hl => ?_)
        have hl : lv_has ls 4 [(0, .ref (ad 6)), (1, .int v_15), (2, .int 0), (3, .int w82_3)] := lv_sub hl [1, 2, 0, 3] rfl
        exact L_109 t_11 d_13 v_15 0 w82_3 _ _ _ hok hfr hod hle hdf ⟨by decide, by decide⟩ ⟨by omega, by omega⟩ (show (4000 : Int) - w82_3.toInt < (fuel_6 : Int) + 1 from by omega) hP hD hS (lv_sub hl [0, 1, 2, 3] rfl)
      have L_59 : ∀ (t1 : tSt) (d1 : dSt) (w59_1 : Int32) (w59_2 : Int32) (w59_3 : Int32) (H : Heap) (locs : List Loc) (ls : Array Slot), okX t1 → frA [(19, 3)] [] [32, 33, 34] [] t t1 → okD d1 → dLe d d1 → dFr s.heap.size d d1 → (0 : Int) ≤ w59_2.toInt ∧ w59_2.toInt ≤ 7 → (0 : Int) ≤ w59_3.toInt ∧ w59_3.toInt ≤ 3999 → (4000 : Int) - w59_3.toInt < (fuel_6 : Int) + 1 → va_P D vwCl ((WX d1) K ad t1) H → va_D A ((WX d1) K ad t1) → va_S A s.heap H locs → lv_has ls 4 [(0, .ref (ad 6)), (1, .int w59_1), (2, .int w59_2), (3, .int w59_3)] → W p l e (rmD 3 4000 1120000) s m [.ref (ad 6)].toArray below meth c H locs (newC d d1) 246800 (MQ below (QDI D K ad d (fun (r : Int32) (u : tSt) (dd : dSt) => okX u ∧ frA [(19, 3)] [] [32, 33, 34] [] t u ∧ okD dd ∧ (-2147483648 : Int) ≤ r.toInt ∧ r.toInt ≤ 2147483647) s.heap.size A) [.ref (ad 6)].toArray s 4000 1120000 A) (F0 m 59 ls []) := by
        intro t1 d1 w59_1 w59_2 w59_3 H locs ls hok hfr hod hle hdf hw59_2 hw59_3 hm59_6 hP hD hS hl
        refine lv_iload_n C.1 C.2.1 dX7_punchCards_59 rfl (lv_at hl 2 rfl) ?_
        refine lv_bipush (v := 7) C.1 C.2.1 dX7_punchCards_60 (by decide) ?_
        refine lv_icmp_eq (tgt := 82) C.1 C.2.1 dX7_punchCards_62 (by decide) (fun c_17 => ?_) (fun c_17 => ?_)
        · replace c_17 : w59_2.toInt = 7 := i_eq c_17
          exact L_82 t1 d1 w59_1 w59_2 w59_3 _ _ _ hok hfr hod hle hdf ⟨by omega, by omega⟩ ⟨by omega, by omega⟩ (show (4000 : Int) - w59_3.toInt < (fuel_6 : Int) + 1 from by omega) hP hD hS (lv_sub hl [0, 1, 2, 3] rfl)
        · replace c_17 : ¬ w59_2.toInt = 7 := i_ne c_17
          refine lv_iload_n C.1 C.2.1 dX7_punchCards_65 rfl (lv_at hl 2 rfl) ?_
          refine lv_if_le (tgt := 109) C.1 C.2.1 dX7_punchCards_66 (by decide) (fun c_18 => ?_) (fun c_18 => ?_)
          · replace c_18 : w59_2.toInt ≤ 0 := i_le c_18
            exact L_109 t1 d1 w59_1 w59_2 w59_3 _ _ _ hok hfr hod hle hdf ⟨by omega, by omega⟩ ⟨by omega, by omega⟩ (show (4000 : Int) - w59_3.toInt < (fuel_6 : Int) + 1 from by omega) hP hD hS (lv_sub hl [0, 1, 2, 3] rfl)
          · replace c_18 : 0 < w59_2.toInt := i_nle c_18
            refine lv_aload_n C.1 C.2.1 dX7_punchCards_69 rfl (lv_at hl 0 rfl) ?_
            refine k_get (v := .ref (ad 5)) C hP 6 rfl rfl inlX7 1 (by decide) m_6_12 rfl dX7_punchCards_70 ?_
            refine lv_iload_n C.1 C.2.1 dX7_punchCards_73 rfl (lv_at hl 3 rfl) ?_
            refine lv_iconst (v := 1) C.1 C.2.1 dX7_punchCards_74 (by decide) ?_
            obtain ⟨v_19, e_20⟩ : ∃ z, z = (w59_3 : Int32) + (1 : Int32) := ⟨_, rfl⟩
            have h_21 : v_19.toInt = w59_3.toInt + 1 := by rw [e_20]; exact ti_iadd (by show (_ : Int) ≤ w59_3.toInt + 1; omega) (by show w59_3.toInt + 1 < (_ : Int); omega)
            refine k_iadd (v := v_19) C e_20.symm dX7_punchCards_75 ?_
            refine hz_Vi (As := [.int v_19]) (rest := []) C hP hD hS hA (T_X0_isTouched l D K Z Y ad d1 t1 hok (v_19) (show (0 : Int) ≤ (v_19 : Int32).toInt ∧ (v_19 : Int32).toInt ≤ 2147483647 from ⟨by omega, (i_rng _).2⟩)) hE hZ (uwV m_65_10 m_65_11 m_65_12 m_2_2 m_65_13) (hdV 1 (by decide +kernel) rfl) ⟨Nat.le_of_ble_eq_true rfl, Nat.le_of_ble_eq_true rfl⟩ rfl rfl (ci := 0) (q0 := 5) rfl rfl rfl hl.1 (Nat.le_of_ble_eq_true rfl) dX7_punchCards_76 ⟨Nat.le_trans (newC_le _ _) (Nat.le_of_ble_eq_true rfl), (Nat.le_of_ble_eq_true rfl)⟩ (fun r_23 t_22 H locs hw hP hD hS => ?_)
            obtain ⟨h_25, h_26⟩ := hw
            refine lv_if_ne (tgt := 109) C.1 C.2.1 dX7_punchCards_79 (by decide) (fun c_27 => ?_) (fun c_27 => ?_)
            · replace c_27 : ¬ r_23.toInt = 0 := i_ne c_27
              exact L_109 t1 d1 w59_1 w59_2 w59_3 _ _ _ hok hfr hod hle hdf ⟨by omega, by omega⟩ ⟨by omega, by omega⟩ (show (4000 : Int) - w59_3.toInt < (fuel_6 : Int) + 1 from by omega) hP hD hS (lv_sub hl [0, 1, 2, 3] rfl)
            · replace c_27 : r_23.toInt = 0 := i_eq c_27
              exact L_82 t1 d1 w59_1 w59_2 w59_3 _ _ _ hok hfr hod hle hdf ⟨by omega, by omega⟩ ⟨by omega, by omega⟩ (show (4000 : Int) - w59_3.toInt < (fuel_6 : Int) + 1 from by omega) hP hD hS (lv_sub hl [0, 1, 2, 3] rfl)
      have L_40 : ∀ (t1 : tSt) (d1 : dSt) (w40_1 : Int32) (w40_2 : Int32) (w40_3 : Int32) (H : Heap) (locs : List Loc) (ls : Array Slot), okX t1 → frA [(19, 3)] [] [32, 33, 34] [] t t1 → okD d1 → dLe d d1 → dFr s.heap.size d d1 → (0 : Int) ≤ w40_2.toInt ∧ w40_2.toInt ≤ 6 → (0 : Int) ≤ w40_3.toInt ∧ w40_3.toInt ≤ 3999 → (4000 : Int) - w40_3.toInt < (fuel_6 : Int) + 1 → va_P D vwCl ((WX d1) K ad t1) H → va_D A ((WX d1) K ad t1) → va_S A s.heap H locs → lv_has ls 4 [(0, .ref (ad 6)), (1, .int w40_1), (2, .int w40_2), (3, .int w40_3)] → W p l e (rmD 3 4000 1120000) s m [.ref (ad 6)].toArray below meth c H locs (newC d d1) 246800 (MQ below (QDI D K ad d (fun (r : Int32) (u : tSt) (dd : dSt) => okX u ∧ frA [(19, 3)] [] [32, 33, 34] [] t u ∧ okD dd ∧ (-2147483648 : Int) ≤ r.toInt ∧ r.toInt ≤ 2147483647) s.heap.size A) [.ref (ad 6)].toArray s 4000 1120000 A) (F0 m 40 ls []) := by
        intro t1 d1 w40_1 w40_2 w40_3 H locs ls hok hfr hod hle hdf hw40_2 hw40_3 hm40_6 hP hD hS hl
        refine lv_aload_n C.1 C.2.1 dX7_punchCards_40 rfl (lv_at hl 0 rfl) ?_
        refine lv_bipush (v := 11) C.1 C.2.1 dX7_punchCards_41 (by decide) ?_
        refine lv_bipush (v := 10) C.1 C.2.1 dX7_punchCards_43 (by decide) ?_
        refine lv_iload_n C.1 C.2.1 dX7_punchCards_45 rfl (lv_at hl 2 rfl) ?_
        obtain ⟨v_28, e_29⟩ : ∃ z, z = (10 : Int32) * (w40_2 : Int32) := ⟨_, rfl⟩
        have h_30 : v_28.toInt = 10 * w40_2.toInt := by rw [e_29]; exact ti_mull (k := 10) (by decide) (by omega) (by omega)
        refine k_imul (v := v_28) C e_29.symm dX7_punchCards_46 ?_
        obtain ⟨v_31, e_32⟩ : ∃ z, z = (11 : Int32) + (v_28 : Int32) := ⟨_, rfl⟩
        have h_33 : v_31.toInt = 11 + v_28.toInt := by rw [e_32]; exact ti_iadd (by show (_ : Int) ≤ 11 + v_28.toInt; omega) (by show 11 + v_28.toInt < (_ : Int); omega)
        refine k_iadd (v := v_31) C e_32.symm dX7_punchCards_47 ?_
        refine lv_aload_n C.1 C.2.1 dX7_punchCards_48 rfl (lv_at hl 0 rfl) ?_
        refine lv_iload_n C.1 C.2.1 dX7_punchCards_49 rfl (lv_at hl 3 rfl) ?_
        refine hz_Vi (As := [.int w40_3]) (rest := [.int v_31, .ref (ad 6)]) C hP hD hS hA (T_X7_wordAt l D K Z Y ad d1 t1 hok (w40_3) (show (-1073741824 : Int) ≤ (w40_3 : Int32).toInt ∧ (w40_3 : Int32).toInt ≤ 2147483647 from ⟨by omega, (i_rng _).2⟩)) hE hZ (uwV m_65_14 m_65_15 m_65_16 m_2_13 m_65_17) (hdV 1 (by decide +kernel) rfl) ⟨Nat.le_of_ble_eq_true rfl, Nat.le_of_ble_eq_true rfl⟩ rfl rfl (ci := 6) (q0 := 6) rfl rfl rfl hl.1 (Nat.le_of_ble_eq_true rfl) dX7_punchCards_50 ⟨Nat.le_trans (newC_le _ _) (Nat.le_of_ble_eq_true rfl), (Nat.le_of_ble_eq_true rfl)⟩ (fun r_35 t_34 H locs hw hP hD hS => ?_)
        obtain ⟨h_37, h_38⟩ := hw
        refine hz_Vv (As := [.int v_31, .int r_35]) (rest := []) C hP hD hS hA (T_X7_punchWord l D K Z Y ad d1 t1 hok (v_31) (show (11 : Int) ≤ (v_31 : Int32).toInt ∧ (v_31 : Int32).toInt ≤ 72 from ⟨by omega, by omega⟩) (r_35)) hE hZ (uwV m_65_19 m_65_20 m_65_21 m_2_13 m_65_22) (hdV 2 (by decide +kernel) rfl) ⟨Nat.le_of_ble_eq_true rfl, Nat.le_of_ble_eq_true rfl⟩ rfl rfl (ci := 6) (q0 := 6) rfl rfl rfl hl.1 (Nat.le_of_ble_eq_true rfl) dX7_punchCards_53 ⟨Nat.le_trans (newC_le _ _) (Nat.le_of_ble_eq_true rfl), (Nat.le_of_ble_eq_true rfl)⟩ (fun t_39 H locs hw hP hD hS => ?_)
        obtain ⟨hok, f_41⟩ := hw
        have hfr : frA [(19, 3)] [] [32, 33, 34] [] t t_39 := frA_tr hfr f_41 rfl
        obtain ⟨v_42, e_43⟩ : ∃ z, z = w40_2 + 1 := ⟨_, rfl⟩
        have h_44 : v_42.toInt = w40_2.toInt + 1 := by rw [e_43]; exact ti_iadd (by show (_ : Int) ≤ w40_2.toInt + 1; omega) (by show w40_2.toInt + 1 < (_ : Int); omega)
        refine lv_iinc (v := v_42) (lv' := [(2, .int v_42), (0, .ref (ad 6)), (1, .int w40_1), (3, .int w40_3)]) C.1 C.2.1 dX7_punchCards_56 hl (k := 2) rfl e_43.symm (by decide) rfl (fun ls hl => ?_)
        have hl : lv_has ls 4 [(0, .ref (ad 6)), (1, .int w40_1), (2, .int v_42), (3, .int w40_3)] := lv_sub hl [1, 2, 0, 3] rfl
        exact L_59 t_39 d1 w40_1 v_42 w40_3 _ _ _ hok hfr hod hle hdf ⟨by omega, by omega⟩ ⟨by omega, by omega⟩ (show (4000 : Int) - w40_3.toInt < (fuel_6 : Int) + 1 from by omega) hP hD hS (lv_sub hl [0, 1, 2, 3] rfl)
      refine lv_iload_n C.1 C.2.1 dX7_punchCards_6 rfl (lv_at hl 3 rfl) ?_
      refine lv_sipush (v := 3999) C.1 C.2.1 dX7_punchCards_7 (by decide) ?_
      refine lv_icmp_gt (tgt := 115) C.1 C.2.1 dX7_punchCards_10 (by decide) (fun c_45 => ?_) (fun c_45 => ?_)
      · replace c_45 : 3999 < w6_3.toInt := i_lt c_45
        refine lv_aload_n C.1 C.2.1 dX7_punchCards_115 rfl (lv_at hl 0 rfl) ?_
        refine k_get (v := .ref (ad 19)) C hP 6 rfl rfl inlX7 3 (by decide) m_6_16 rfl dX7_punchCards_116 ?_
        refine lv_bipush (v := 6) C.1 C.2.1 dX7_punchCards_119 (by decide) ?_
        refine lv_iconst (v := 1) C.1 C.2.1 dX7_punchCards_121 (by decide) ?_
        refine lv_lconst (v := 0) C.1 C.2.1 dX7_punchCards_122 (by decide) ?_
        have h_46 : (1 : Int32).toInt = 1 := rfl
        refine hz_Vv (As := [.int 6, .int 1, .long 0]) (rest := []) C hP hD hS hA (T_X4_digits_1 l D K Z Y ad d1 t1 hok 6 (show (6 : Int) ≤ (6 : Int32).toInt ∧ (6 : Int32).toInt ≤ 72 from ⟨by decide, by decide⟩) 1 (show (1 : Int) ≤ (1 : Int32).toInt ∧ (1 : Int32).toInt ≤ 10 from ⟨by decide, by decide⟩) 0 (show (0 : Int) ≤ (0 : Int64).toInt ∧ (0 : Int64).toInt ≤ 9223372036854775807 from ⟨by decide, by decide⟩) (show 0 ≤ (1 : Int32).toInt from by omega)) hE hZ (uwV m_40_18 m_40_19 m_40_20 m_3_20 m_40_21) (hdV 3 (by decide +kernel) rfl) ⟨Nat.le_of_ble_eq_true rfl, Nat.le_of_ble_eq_true rfl⟩ rfl rfl (ci := 3) (q0 := 19) rfl rfl rfl hl.1 (Nat.le_of_ble_eq_true rfl) dX7_punchCards_123 ⟨Nat.le_trans (newC_le _ _) (Nat.le_of_ble_eq_true rfl), (Nat.le_of_ble_eq_true rfl)⟩ (fun t_47 H locs hw hP hD hS => ?_)
        obtain ⟨hok, f_49⟩ := hw
        have hfr : frA [(19, 3)] [] [32, 33, 34] [] t t_47 := frA_tr hfr f_49 rfl
        refine lv_aload_n C.1 C.2.1 dX7_punchCards_126 rfl (lv_at hl 0 rfl) ?_
        refine k_get (v := .ref (ad 19)) C hP 6 rfl rfl inlX7 3 (by decide) m_6_16 rfl dX7_punchCards_127 ?_
        refine lv_bipush (v := 7) C.1 C.2.1 dX7_punchCards_130 (by decide) ?_
        refine lv_iconst (v := 4) C.1 C.2.1 dX7_punchCards_132 (by decide) ?_
        refine lv_aload_n C.1 C.2.1 dX7_punchCards_133 rfl (lv_at hl 0 rfl) ?_
        refine k_get (v := .ref (ad 5)) C hP 6 rfl rfl inlX7 1 (by decide) m_6_12 rfl dX7_punchCards_134 ?_
        have h_50 : (-1073741824 : Int) ≤ (t_47.1 5 17).toInt ∧ (t_47.1 5 17).toInt ≤ 1073741823 := hok.1 5 17
        refine k_get (v := .int (t_47.1 5 17)) C hP 5 rfl rfl inlX0 17 (by decide) m_65_8 rfl dX7_punchCards_137 ?_
        refine lv_iconst (v := 0) C.1 C.2.1 dX7_punchCards_140 (by decide) ?_
        obtain ⟨v_52, e_51⟩ : ∃ z, z = if ((t_47.1 5 17) : Int32) < (0 : Int32) then (0 : Int32) else ((t_47.1 5 17) : Int32) := ⟨_, rfl⟩
        have h_53 : (0 : Int32).toInt = 0 := rfl
        have h_54 := mx_r e_51
        refine k_mmax (v := v_52) C hl.1 m_65_9 m_12_14 m_12_15 m_12_16 (Nat.le_of_ble_eq_true rfl) (Nat.le_of_ble_eq_true rfl) (Nat.le_trans (newC_le _ _) (Nat.le_of_ble_eq_true rfl)) (Nat.le_of_ble_eq_true rfl) e_51.symm dX7_punchCards_141 ?_
        obtain ⟨v_55, e_56⟩ : ∃ z, z = (v_52 : Int32).toInt64 := ⟨_, rfl⟩
        have h_57 : v_55.toInt = v_52.toInt := by rw [e_56]; exact Jvm.Kit.i64_of_i32 _
        refine lv_i2l (v := v_55) C.1 C.2.1 dX7_punchCards_144 e_56.symm ?_
        have h_58 : (4 : Int32).toInt = 4 := rfl
        refine hz_Vv (As := [.int 7, .int 4, .long v_55]) (rest := []) C hP hD hS hA (T_X4_digits_1 l D K Z Y ad d1 t_47 hok 7 (show (6 : Int) ≤ (7 : Int32).toInt ∧ (7 : Int32).toInt ≤ 72 from ⟨by decide, by decide⟩) 4 (show (1 : Int) ≤ (4 : Int32).toInt ∧ (4 : Int32).toInt ≤ 10 from ⟨by decide, by decide⟩) (v_55) (show (0 : Int) ≤ (v_55 : Int64).toInt ∧ (v_55 : Int64).toInt ≤ 9223372036854775807 from ⟨by omega, by omega⟩) (show 0 ≤ (4 : Int32).toInt from by omega)) hE hZ (uwV m_40_18 m_40_19 m_40_20 m_3_20 m_40_21) (hdV 3 (by decide +kernel) rfl) ⟨Nat.le_of_ble_eq_true rfl, Nat.le_of_ble_eq_true rfl⟩ rfl rfl (ci := 3) (q0 := 19) rfl rfl rfl hl.1 (Nat.le_of_ble_eq_true rfl) dX7_punchCards_145 ⟨Nat.le_trans (newC_le _ _) (Nat.le_of_ble_eq_true rfl), (Nat.le_of_ble_eq_true rfl)⟩ (fun t_59 H locs hw hP hD hS => ?_)
        obtain ⟨hok, f_61⟩ := hw
        have hfr : frA [(19, 3)] [] [32, 33, 34] [] t t_59 := frA_tr hfr f_61 rfl
        have h_62 : (t_59.1 5 17).toInt = (t_47.1 5 17).toInt := ti_eq (f_61.1 5 17 rfl)
        refine lv_aload_n C.1 C.2.1 dX7_punchCards_148 rfl (lv_at hl 0 rfl) ?_
        refine k_get (v := .ref (ad 19)) C hP 6 rfl rfl inlX7 3 (by decide) m_6_16 rfl dX7_punchCards_149 ?_
        refine lv_bipush (v := 120) C.1 C.2.1 dX7_punchCards_152 (by decide) ?_
        refine lv_iconst (v := 0) C.1 C.2.1 dX7_punchCards_154 (by decide) ?_
        refine g_DVv (As := [.int 120, .int 0]) (rest := []) C hP hD hS hA (T_X4_finish_1 l D K Z Y ad d1 t_59 hok hod 120 (show (120 : Int) ≤ (120 : Int32).toInt ∧ (120 : Int32).toInt ≤ 120 from ⟨by decide, by decide⟩) 0 (show (0 : Int) ≤ (0 : Int32).toInt ∧ (0 : Int32).toInt ≤ 0 from ⟨by decide, by decide⟩)) hE hZ hX hle hdf (uwV m_41_7 m_41_8 m_41_9 m_3_20 m_41_10) (hdV 2 (by decide +kernel) rfl) ⟨Nat.le_of_ble_eq_true rfl, Nat.le_of_ble_eq_true rfl⟩ rfl rfl (ci := 3) (q0 := 19) rfl rfl rfl hl.1 (Nat.le_of_ble_eq_true rfl) dX7_punchCards_155 ⟨Nat.le_of_ble_eq_true rfl, Nat.le_of_ble_eq_true rfl⟩ (fun t_63 d_65 H locs hw hP hD hS hln hle hdf => ?_)
        obtain ⟨hok, f_66, hod⟩ := hw
        have hfr : frA [(19, 3)] [] [32, 33, 34] [] t t_63 := frA_tr hfr f_66 rfl
        have h_67 : (t_63.1 5 17).toInt = (t_59.1 5 17).toInt := ti_eq (f_66.1 5 17 rfl)
        refine lv_iload_n C.1 C.2.1 dX7_punchCards_158 rfl (lv_at hl 1 rfl) ?_
        refine lv_iconst (v := 1) C.1 C.2.1 dX7_punchCards_159 (by decide) ?_
        obtain ⟨v_68, e_69⟩ : ∃ z, z = (w6_1 : Int32) + (1 : Int32) := ⟨_, rfl⟩
        refine k_iadd (v := v_68) C e_69.symm dX7_punchCards_160 ?_
        exact g_Diret C hr hlocks hP hD hS rfl ⟨hok, hfr, hod, (i_rng _).1, (i_rng _).2⟩ hle hdf (Nat.le_of_ble_eq_true rfl) (Nat.le_of_ble_eq_true rfl) dX7_punchCards_161
      · replace c_45 : w6_3.toInt ≤ 3999 := i_nlt c_45
        refine lv_aload_n C.1 C.2.1 dX7_punchCards_13 rfl (lv_at hl 0 rfl) ?_
        refine k_get (v := .ref (ad 5)) C hP 6 rfl rfl inlX7 1 (by decide) m_6_12 rfl dX7_punchCards_14 ?_
        refine lv_iload_n C.1 C.2.1 dX7_punchCards_17 rfl (lv_at hl 3 rfl) ?_
        refine hz_Vi (As := [.int w6_3]) (rest := []) C hP hD hS hA (T_X0_isTouched l D K Z Y ad d1 t1 hok (w6_3) (show (0 : Int) ≤ (w6_3 : Int32).toInt ∧ (w6_3 : Int32).toInt ≤ 2147483647 from ⟨by omega, (i_rng _).2⟩)) hE hZ (uwV m_65_10 m_65_11 m_65_12 m_2_2 m_65_13) (hdV 1 (by decide +kernel) rfl) ⟨Nat.le_of_ble_eq_true rfl, Nat.le_of_ble_eq_true rfl⟩ rfl rfl (ci := 0) (q0 := 5) rfl rfl rfl hl.1 (Nat.le_of_ble_eq_true rfl) dX7_punchCards_18 ⟨Nat.le_trans (newC_le _ _) (Nat.le_of_ble_eq_true rfl), (Nat.le_of_ble_eq_true rfl)⟩ (fun r_72 t_71 H locs hw hP hD hS => ?_)
        obtain ⟨h_74, h_75⟩ := hw
        refine lv_if_eq (tgt := 59) C.1 C.2.1 dX7_punchCards_21 (by decide) (fun c_76 => ?_) (fun c_76 => ?_)
        · replace c_76 : r_72.toInt = 0 := i_eq c_76
          exact L_59 t1 d1 w6_1 w6_2 w6_3 _ _ _ hok hfr hod hle hdf ⟨by omega, by omega⟩ ⟨by omega, by omega⟩ (show (4000 : Int) - w6_3.toInt < (fuel_6 : Int) + 1 from by omega) hP hD hS (lv_sub hl [0, 1, 2, 3] rfl)
        · replace c_76 : ¬ r_72.toInt = 0 := i_ne c_76
          refine lv_iload_n C.1 C.2.1 dX7_punchCards_24 rfl (lv_at hl 2 rfl) ?_
          refine lv_if_ne (tgt := 40) C.1 C.2.1 dX7_punchCards_25 (by decide) (fun c_77 => ?_) (fun c_77 => ?_)
          · replace c_77 : ¬ w6_2.toInt = 0 := i_ne c_77
            exact L_40 t1 d1 w6_1 w6_2 w6_3 _ _ _ hok hfr hod hle hdf ⟨by omega, by omega⟩ ⟨by omega, by omega⟩ (show (4000 : Int) - w6_3.toInt < (fuel_6 : Int) + 1 from by omega) hP hD hS (lv_sub hl [0, 1, 2, 3] rfl)
          · replace c_77 : w6_2.toInt = 0 := i_eq c_77
            refine lv_aload_n C.1 C.2.1 dX7_punchCards_28 rfl (lv_at hl 0 rfl) ?_
            refine k_get (v := .ref (ad 19)) C hP 6 rfl rfl inlX7 3 (by decide) m_6_16 rfl dX7_punchCards_29 ?_
            refine lv_bipush (v := 7) C.1 C.2.1 dX7_punchCards_32 (by decide) ?_
            refine lv_iconst (v := 4) C.1 C.2.1 dX7_punchCards_34 (by decide) ?_
            refine lv_iload_n C.1 C.2.1 dX7_punchCards_35 rfl (lv_at hl 3 rfl) ?_
            obtain ⟨v_78, e_79⟩ : ∃ z, z = (w6_3 : Int32).toInt64 := ⟨_, rfl⟩
            have h_80 : v_78.toInt = w6_3.toInt := by rw [e_79]; exact Jvm.Kit.i64_of_i32 _
            refine lv_i2l (v := v_78) C.1 C.2.1 dX7_punchCards_36 e_79.symm ?_
            have h_81 : (4 : Int32).toInt = 4 := rfl
            refine hz_Vv (As := [.int 7, .int 4, .long v_78]) (rest := []) C hP hD hS hA (T_X4_digits_1 l D K Z Y ad d1 t1 hok 7 (show (6 : Int) ≤ (7 : Int32).toInt ∧ (7 : Int32).toInt ≤ 72 from ⟨by decide, by decide⟩) 4 (show (1 : Int) ≤ (4 : Int32).toInt ∧ (4 : Int32).toInt ≤ 10 from ⟨by decide, by decide⟩) (v_78) (show (0 : Int) ≤ (v_78 : Int64).toInt ∧ (v_78 : Int64).toInt ≤ 9223372036854775807 from ⟨by omega, by omega⟩) (show 0 ≤ (4 : Int32).toInt from by omega)) hE hZ (uwV m_40_18 m_40_19 m_40_20 m_3_20 m_40_21) (hdV 3 (by decide +kernel) rfl) ⟨Nat.le_of_ble_eq_true rfl, Nat.le_of_ble_eq_true rfl⟩ rfl rfl (ci := 3) (q0 := 19) rfl rfl rfl hl.1 (Nat.le_of_ble_eq_true rfl) dX7_punchCards_37 ⟨Nat.le_trans (newC_le _ _) (Nat.le_of_ble_eq_true rfl), (Nat.le_of_ble_eq_true rfl)⟩ (fun t_82 H locs hw hP hD hS => ?_)
            obtain ⟨hok, f_84⟩ := hw
            have hfr : frA [(19, 3)] [] [32, 33, 34] [] t t_82 := frA_tr hfr f_84 rfl
            exact L_40 t_82 d1 w6_1 w6_2 w6_3 _ _ _ hok hfr hod hle hdf ⟨by omega, by omega⟩ ⟨by omega, by omega⟩ (show (4000 : Int) - w6_3.toInt < (fuel_6 : Int) + 1 from by omega) hP hD hS (lv_sub hl [0, 1, 2, 3] rfl)
  refine lv_iconst (v := 0) C.1 C.2.1 dX7_punchCards_0 (by decide) ?_
  refine lv_istore_n (lv' := [(1, .int 0), (0, .ref (ad 6))]) C.1 C.2.1 dX7_punchCards_1 rfl hl (by decide) rfl (fun ls hl => ?_)
  have hl : lv_has ls 4 [(0, .ref (ad 6)), (1, .int 0)] := lv_sub hl [1, 0] rfl
  refine lv_iconst (v := 0) C.1 C.2.1 dX7_punchCards_2 (by decide) ?_
  refine lv_istore_n (lv' := [(2, .int 0), (0, .ref (ad 6)), (1, .int 0)]) C.1 C.2.1 dX7_punchCards_3 rfl hl (by decide) rfl (fun ls hl => ?_)
  have hl : lv_has ls 4 [(0, .ref (ad 6)), (1, .int 0), (2, .int 0)] := lv_sub hl [1, 2, 0] rfl
  refine lv_iconst (v := 0) C.1 C.2.1 dX7_punchCards_4 (by decide) ?_
  refine lv_istore_n (lv' := [(3, .int 0), (0, .ref (ad 6)), (1, .int 0), (2, .int 0)]) C.1 C.2.1 dX7_punchCards_5 rfl hl (by decide) rfl (fun ls hl => ?_)
  have hl : lv_has ls 4 [(0, .ref (ad 6)), (1, .int 0), (2, .int 0), (3, .int 0)] := lv_sub hl [1, 2, 3, 0] rfl
  exact L_6 4001 t d 0 0 0 _ _ _ hok hfr hod hle hdf ⟨by decide, by decide⟩ ⟨by decide, by decide⟩ (show (4000 : Int) - 0 < ((4001 : Nat) : Int) from by omega) hP hD hS (lv_sub hl [0, 1, 2, 3] rfl)

theorem dX7_printWords_0 : decode cX7_printWords 0 = .ok (.iconst 0, 1) := by decide +kernel
theorem dX7_printWords_1 : decode cX7_printWords 1 = .ok (.istore_n 3, 1) := by decide +kernel
theorem dX7_printWords_10 : decode cX7_printWords 10 = .ok (.if_icmp .gt 72, 3) := by decide +kernel
theorem dX7_printWords_13 : decode cX7_printWords 13 = .ok (.aload_n 0, 1) := by decide +kernel
theorem dX7_printWords_14 : decode cX7_printWords 14 = .ok (.getfield 15, 3) := by decide +kernel
theorem dX7_printWords_17 : decode cX7_printWords 17 = .ok (.iload 4, 2) := by decide +kernel
theorem dX7_printWords_19 : decode cX7_printWords 19 = .ok (.invokevirtual 36, 3) := by decide +kernel
theorem dX7_printWords_2 : decode cX7_printWords 2 = .ok (.iconst 0, 1) := by decide +kernel
theorem dX7_printWords_22 : decode cX7_printWords 22 = .ok (.ifCond .eq 54, 3) := by decide +kernel
theorem dX7_printWords_25 : decode cX7_printWords 25 = .ok (.aload_n 0, 1) := by decide +kernel
theorem dX7_printWords_26 : decode cX7_printWords 26 = .ok (.getfield 25, 3) := by decide +kernel
theorem dX7_printWords_29 : decode cX7_printWords 29 = .ok (.iconst 1, 1) := by decide +kernel
theorem dX7_printWords_3 : decode cX7_printWords 3 = .ok (.istore 4, 2) := by decide +kernel
theorem dX7_printWords_30 : decode cX7_printWords 30 = .ok (.iconst 4, 1) := by decide +kernel
theorem dX7_printWords_31 : decode cX7_printWords 31 = .ok (.iload 4, 2) := by decide +kernel
theorem dX7_printWords_33 : decode cX7_printWords 33 = .ok (.i2l, 1) := by decide +kernel
theorem dX7_printWords_34 : decode cX7_printWords 34 = .ok (.invokevirtual 42, 3) := by decide +kernel
theorem dX7_printWords_37 : decode cX7_printWords 37 = .ok (.aload_n 0, 1) := by decide +kernel
theorem dX7_printWords_38 : decode cX7_printWords 38 = .ok (.bipush 6, 2) := by decide +kernel
theorem dX7_printWords_40 : decode cX7_printWords 40 = .ok (.aload_n 0, 1) := by decide +kernel
theorem dX7_printWords_41 : decode cX7_printWords 41 = .ok (.iload 4, 2) := by decide +kernel
theorem dX7_printWords_43 : decode cX7_printWords 43 = .ok (.invokevirtual 48, 3) := by decide +kernel
theorem dX7_printWords_46 : decode cX7_printWords 46 = .ok (.invokevirtual 77, 3) := by decide +kernel
theorem dX7_printWords_49 : decode cX7_printWords 49 = .ok (.aload_n 0, 1) := by decide +kernel
theorem dX7_printWords_5 : decode cX7_printWords 5 = .ok (.iload 4, 2) := by decide +kernel
theorem dX7_printWords_50 : decode cX7_printWords 50 = .ok (.getfield 25, 3) := by decide +kernel
theorem dX7_printWords_53 : decode cX7_printWords 53 = .ok (.bipush 21, 2) := by decide +kernel
theorem dX7_printWords_55 : decode cX7_printWords 55 = .ok (.aload_n 0, 1) := by decide +kernel
theorem dX7_printWords_56 : decode cX7_printWords 56 = .ok (.iload 4, 2) := by decide +kernel
theorem dX7_printWords_58 : decode cX7_printWords 58 = .ok (.invokevirtual 48, 3) := by decide +kernel
theorem dX7_printWords_61 : decode cX7_printWords 61 = .ok (.invokevirtual 80, 3) := by decide +kernel
theorem dX7_printWords_64 : decode cX7_printWords 64 = .ok (.aload_n 0, 1) := by decide +kernel
theorem dX7_printWords_65 : decode cX7_printWords 65 = .ok (.getfield 25, 3) := by decide +kernel
theorem dX7_printWords_68 : decode cX7_printWords 68 = .ok (.iload_n 1, 1) := by decide +kernel
theorem dX7_printWords_69 : decode cX7_printWords 69 = .ok (.iload_n 2, 1) := by decide +kernel
theorem dX7_printWords_7 : decode cX7_printWords 7 = .ok (.sipush 3999, 3) := by decide +kernel
theorem dX7_printWords_70 : decode cX7_printWords 70 = .ok (.invokevirtual 56, 3) := by decide +kernel
theorem dX7_printWords_73 : decode cX7_printWords 73 = .ok (.iinc 3 1, 3) := by decide +kernel
theorem dX7_printWords_76 : decode cX7_printWords 76 = .ok (.iinc 4 1, 3) := by decide +kernel
theorem dX7_printWords_79 : decode cX7_printWords 79 = .ok (.goto (-74), 3) := by decide +kernel
theorem dX7_printWords_82 : decode cX7_printWords 82 = .ok (.iload_n 3, 1) := by decide +kernel
theorem dX7_printWords_83 : decode cX7_printWords 83 = .ok (.ireturn, 1) := by decide +kernel
set_option maxHeartbeats 4000000 in
set_option maxRecDepth 100000 in
theorem T_X7_printWords (l : Launch) (D : va_G) (K : Nat → ClassId) (Z Y : Nat → Nat) (ad : Nat → Nat) (d : dSt) (t : tSt) (hok : okX t) (hod : okD d) (x1 : Int32) (hx1 : (72 : Int) ≤ x1.toInt ∧ x1.toInt ≤ 120) (x2 : Int32) (hx2 : (0 : Int) ≤ x2.toInt ∧ x2.toInt ≤ 1) : dMet l yX7_printWords cX7_printWords 5 (some .int) (rmD 7 8000 2240000) D K Z Y [.ref (ad 6), .int x1, .int x2] ((WX d) K ad t) (QDI D K ad d (fun (r : Int32) (u : tSt) (dd : dSt) => okX u ∧ frA [(20, 3)] [] [35, 36, 37] [] t u ∧ okD dd ∧ (-2147483648 : Int) ≤ r.toInt ∧ r.toInt ≤ 2147483647)) 8000 2240000 := by
  refine d_met d RX7 ⟨rfl, by decide +kernel⟩ (Nat.le_of_ble_eq_true rfl) ?_
  intro p e s m below meth c A ls C hE hZ hX hr hlocks hA hP hD hS hl
  have hl : lv_has ls 5 [(0, .ref (ad 6)), (1, .int x1), (2, .int x2)] := hl
  have hle : dLe d d := dLe_rf
  have hdf : dFr s.heap.size d d := dFr_rf
  have hokt := hok
  have hfr : frA [(20, 3)] [] [35, 36, 37] [] t t := frA_rf
  have L_5 : ∀ (fuel_5 : Nat) (t1 : tSt) (d1 : dSt) (w5_3 : Int32) (w5_4 : Int32) (H : Heap) (locs : List Loc) (ls : Array Slot), okX t1 → frA [(20, 3)] [] [35, 36, 37] [] t t1 → okD d1 → dLe d d1 → dFr s.heap.size d d1 → (0 : Int) ≤ w5_4.toInt ∧ w5_4.toInt ≤ 4000 → (4000 : Int) - w5_4.toInt < (fuel_5 : Int) → va_P D vwCl ((WX d1) K ad t1) H → va_D A ((WX d1) K ad t1) → va_S A s.heap H locs → lv_has ls 5 [(0, .ref (ad 6)), (1, .int x1), (2, .int x2), (3, .int w5_3), (4, .int w5_4)] → W p l e (rmD 7 8000 2240000) s m [.ref (ad 6), .int x1, .int x2].toArray below meth c H locs (newC d d1) 246800 (MQ below (QDI D K ad d (fun (r : Int32) (u : tSt) (dd : dSt) => okX u ∧ frA [(20, 3)] [] [35, 36, 37] [] t u ∧ okD dd ∧ (-2147483648 : Int) ≤ r.toInt ∧ r.toInt ≤ 2147483647) s.heap.size A) [.ref (ad 6), .int x1, .int x2].toArray s 8000 2240000 A) (F0 m 5 ls []) := by
    intro fuel_5
    induction fuel_5 with
    | zero =>
      intro t1 d1 w5_3 w5_4 H locs ls hok hfr hod hle hdf hw5_4 hm5_5 hP hD hS hl
      exact absurd hm5_5 (by omega)
    | succ fuel_5 ih_5 =>
      intro t1 d1 w5_3 w5_4 H locs ls hok hfr hod hle hdf hw5_4 hm5_5 hP hD hS hl
      have hm5_5 : (4000 : Int) - w5_4.toInt < (fuel_5 : Int) + 1 := by omega
      have L_76 : ∀ (t1 : tSt) (d1 : dSt) (w76_3 : Int32) (w76_4 : Int32) (H : Heap) (locs : List Loc) (ls : Array Slot), okX t1 → frA [(20, 3)] [] [35, 36, 37] [] t t1 → okD d1 → dLe d d1 → dFr s.heap.size d d1 → (0 : Int) ≤ w76_4.toInt ∧ w76_4.toInt ≤ 3999 → (4000 : Int) - w76_4.toInt < (fuel_5 : Int) + 1 → va_P D vwCl ((WX d1) K ad t1) H → va_D A ((WX d1) K ad t1) → va_S A s.heap H locs → lv_has ls 5 [(0, .ref (ad 6)), (1, .int x1), (2, .int x2), (3, .int w76_3), (4, .int w76_4)] → W p l e (rmD 7 8000 2240000) s m [.ref (ad 6), .int x1, .int x2].toArray below meth c H locs (newC d d1) 246800 (MQ below (QDI D K ad d (fun (r : Int32) (u : tSt) (dd : dSt) => okX u ∧ frA [(20, 3)] [] [35, 36, 37] [] t u ∧ okD dd ∧ (-2147483648 : Int) ≤ r.toInt ∧ r.toInt ≤ 2147483647) s.heap.size A) [.ref (ad 6), .int x1, .int x2].toArray s 8000 2240000 A) (F0 m 76 ls []) := by
        intro t1 d1 w76_3 w76_4 H locs ls hok hfr hod hle hdf hw76_4 hm76_5 hP hD hS hl
        obtain ⟨v_1, e_2⟩ : ∃ z, z = w76_4 + 1 := ⟨_, rfl⟩
        have h_3 : v_1.toInt = w76_4.toInt + 1 := by rw [e_2]; exact ti_iadd (by show (_ : Int) ≤ w76_4.toInt + 1; omega) (by show w76_4.toInt + 1 < (_ : Int); omega)
        refine lv_iinc (v := v_1) (lv' := [(4, .int v_1), (0, .ref (ad 6)), (1, .int x1), (2, .int x2), (3, .int w76_3)]) C.1 C.2.1 dX7_printWords_76 hl (k := 4) rfl e_2.symm (by decide) rfl (fun ls hl => ?_)
        have hl : lv_has ls 5 [(0, .ref (ad 6)), (1, .int x1), (2, .int x2), (3, .int w76_3), (4, .int v_1)] := lv_sub hl [1, 2, 3, 4, 0] rfl
        refine lv_goto (tgt := 5) C.1 C.2.1 dX7_printWords_79 (by decide) ?_
        exact ih_5 t1 d1 w76_3 v_1 _ _ _ hok hfr hod hle hdf ⟨by omega, by omega⟩ (show (4000 : Int) - v_1.toInt < (fuel_5 : Int) from by omega) hP hD hS (lv_sub hl [0, 1, 2, 3, 4] rfl)
      refine lv_iload C.1 C.2.1 dX7_printWords_5 (lv_at hl 4 rfl) ?_
      refine lv_sipush (v := 3999) C.1 C.2.1 dX7_printWords_7 (by decide) ?_
      refine lv_icmp_gt (tgt := 82) C.1 C.2.1 dX7_printWords_10 (by decide) (fun c_4 => ?_) (fun c_4 => ?_)
      · replace c_4 : 3999 < w5_4.toInt := i_lt c_4
        refine lv_iload_n C.1 C.2.1 dX7_printWords_82 rfl (lv_at hl 3 rfl) ?_
        exact g_Diret C hr hlocks hP hD hS rfl ⟨hok, hfr, hod, (i_rng _).1, (i_rng _).2⟩ hle hdf (Nat.le_of_ble_eq_true rfl) (Nat.le_of_ble_eq_true rfl) dX7_printWords_83
      · replace c_4 : w5_4.toInt ≤ 3999 := i_nlt c_4
        refine lv_aload_n C.1 C.2.1 dX7_printWords_13 rfl (lv_at hl 0 rfl) ?_
        refine k_get (v := .ref (ad 5)) C hP 6 rfl rfl inlX7 1 (by decide) m_6_12 rfl dX7_printWords_14 ?_
        refine lv_iload C.1 C.2.1 dX7_printWords_17 (lv_at hl 4 rfl) ?_
        refine hz_Vi (As := [.int w5_4]) (rest := []) C hP hD hS hA (T_X0_isTouched l D K Z Y ad d1 t1 hok (w5_4) (show (0 : Int) ≤ (w5_4 : Int32).toInt ∧ (w5_4 : Int32).toInt ≤ 2147483647 from ⟨by omega, (i_rng _).2⟩)) hE hZ (uwV m_65_10 m_65_11 m_65_12 m_2_2 m_65_13) (hdV 1 (by decide +kernel) rfl) ⟨Nat.le_of_ble_eq_true rfl, Nat.le_of_ble_eq_true rfl⟩ rfl rfl (ci := 0) (q0 := 5) rfl rfl rfl hl.1 (Nat.le_of_ble_eq_true rfl) dX7_printWords_19 ⟨Nat.le_trans (newC_le _ _) (Nat.le_of_ble_eq_true rfl), (Nat.le_of_ble_eq_true rfl)⟩ (fun r_6 t_5 H locs hw hP hD hS => ?_)
        obtain ⟨h_8, h_9⟩ := hw
        refine lv_if_eq (tgt := 76) C.1 C.2.1 dX7_printWords_22 (by decide) (fun c_10 => ?_) (fun c_10 => ?_)
        · replace c_10 : r_6.toInt = 0 := i_eq c_10
          exact L_76 t1 d1 w5_3 w5_4 _ _ _ hok hfr hod hle hdf ⟨by omega, by omega⟩ (show (4000 : Int) - w5_4.toInt < (fuel_5 : Int) + 1 from by omega) hP hD hS (lv_sub hl [0, 1, 2, 3, 4] rfl)
        · replace c_10 : ¬ r_6.toInt = 0 := i_ne c_10
          refine lv_aload_n C.1 C.2.1 dX7_printWords_25 rfl (lv_at hl 0 rfl) ?_
          refine k_get (v := .ref (ad 20)) C hP 6 rfl rfl inlX7 2 (by decide) m_6_14 rfl dX7_printWords_26 ?_
          refine lv_iconst (v := 1) C.1 C.2.1 dX7_printWords_29 (by decide) ?_
          refine lv_iconst (v := 4) C.1 C.2.1 dX7_printWords_30 (by decide) ?_
          refine lv_iload C.1 C.2.1 dX7_printWords_31 (lv_at hl 4 rfl) ?_
          obtain ⟨v_11, e_12⟩ : ∃ z, z = (w5_4 : Int32).toInt64 := ⟨_, rfl⟩
          have h_13 : v_11.toInt = w5_4.toInt := by rw [e_12]; exact Jvm.Kit.i64_of_i32 _
          refine lv_i2l (v := v_11) C.1 C.2.1 dX7_printWords_33 e_12.symm ?_
          have h_14 : (4 : Int32).toInt = 4 := rfl
          refine hz_Vv (As := [.int 1, .int 4, .long v_11]) (rest := []) C hP hD hS hA (T_X4_digits l D K Z Y ad d1 t1 hok 1 (show (0 : Int) ≤ (1 : Int32).toInt ∧ (1 : Int32).toInt ≤ 200 from ⟨by decide, by decide⟩) 4 (show (1 : Int) ≤ (4 : Int32).toInt ∧ (4 : Int32).toInt ≤ 10 from ⟨by decide, by decide⟩) (v_11) (show 0 ≤ (4 : Int32).toInt from by omega)) hE hZ (uwV m_40_18 m_40_19 m_40_20 m_3_20 m_40_21) (hdV 3 (by decide +kernel) rfl) ⟨Nat.le_of_ble_eq_true rfl, Nat.le_of_ble_eq_true rfl⟩ rfl rfl (ci := 3) (q0 := 20) rfl rfl rfl hl.1 (Nat.le_of_ble_eq_true rfl) dX7_printWords_34 ⟨Nat.le_trans (newC_le _ _) (Nat.le_of_ble_eq_true rfl), (Nat.le_of_ble_eq_true rfl)⟩ (fun t_15 H locs hw hP hD hS => ?_)
          obtain ⟨hok, f_17⟩ := hw
          have hfr : frA [(20, 3)] [] [35, 36, 37] [] t t_15 := frA_tr hfr f_17 rfl
          refine lv_aload_n C.1 C.2.1 dX7_printWords_37 rfl (lv_at hl 0 rfl) ?_
          refine lv_bipush (v := 6) C.1 C.2.1 dX7_printWords_38 (by decide) ?_
          refine lv_aload_n C.1 C.2.1 dX7_printWords_40 rfl (lv_at hl 0 rfl) ?_
          refine lv_iload C.1 C.2.1 dX7_printWords_41 (lv_at hl 4 rfl) ?_
          refine hz_Vi (As := [.int w5_4]) (rest := [.int 6, .ref (ad 6)]) C hP hD hS hA (T_X7_wordAt l D K Z Y ad d1 t_15 hok (w5_4) (show (-1073741824 : Int) ≤ (w5_4 : Int32).toInt ∧ (w5_4 : Int32).toInt ≤ 2147483647 from ⟨by omega, (i_rng _).2⟩)) hE hZ (uwV m_65_14 m_65_15 m_65_16 m_2_13 m_65_17) (hdV 1 (by decide +kernel) rfl) ⟨Nat.le_of_ble_eq_true rfl, Nat.le_of_ble_eq_true rfl⟩ rfl rfl (ci := 6) (q0 := 6) rfl rfl rfl hl.1 (Nat.le_of_ble_eq_true rfl) dX7_printWords_43 ⟨Nat.le_trans (newC_le _ _) (Nat.le_of_ble_eq_true rfl), (Nat.le_of_ble_eq_true rfl)⟩ (fun r_19 t_18 H locs hw hP hD hS => ?_)
          obtain ⟨h_21, h_22⟩ := hw
          refine hz_Vv (As := [.int 6, .int r_19]) (rest := []) C hP hD hS hA (T_X7_printInstruction l D K Z Y ad d1 t_15 hok 6 (show (6 : Int) ≤ (6 : Int32).toInt ∧ (6 : Int32).toInt ≤ 7 from ⟨by decide, by decide⟩) (r_19)) hE hZ (uwV m_55_15 m_55_16 m_55_17 m_2_13 m_55_18) (hdV 2 (by decide +kernel) rfl) ⟨Nat.le_of_ble_eq_true rfl, Nat.le_of_ble_eq_true rfl⟩ rfl rfl (ci := 6) (q0 := 6) rfl rfl rfl hl.1 (Nat.le_of_ble_eq_true rfl) dX7_printWords_46 ⟨Nat.le_trans (newC_le _ _) (Nat.le_of_ble_eq_true rfl), (Nat.le_of_ble_eq_true rfl)⟩ (fun t_23 H locs hw hP hD hS => ?_)
          obtain ⟨hok, f_25⟩ := hw
          have hfr : frA [(20, 3)] [] [35, 36, 37] [] t t_23 := frA_tr hfr f_25 rfl
          refine lv_aload_n C.1 C.2.1 dX7_printWords_49 rfl (lv_at hl 0 rfl) ?_
          refine k_get (v := .ref (ad 20)) C hP 6 rfl rfl inlX7 2 (by decide) m_6_14 rfl dX7_printWords_50 ?_
          refine lv_bipush (v := 21) C.1 C.2.1 dX7_printWords_53 (by decide) ?_
          refine lv_aload_n C.1 C.2.1 dX7_printWords_55 rfl (lv_at hl 0 rfl) ?_
          refine lv_iload C.1 C.2.1 dX7_printWords_56 (lv_at hl 4 rfl) ?_
          refine hz_Vi (As := [.int w5_4]) (rest := [.int 21, .ref (ad 20)]) C hP hD hS hA (T_X7_wordAt l D K Z Y ad d1 t_23 hok (w5_4) (show (-1073741824 : Int) ≤ (w5_4 : Int32).toInt ∧ (w5_4 : Int32).toInt ≤ 2147483647 from ⟨by omega, (i_rng _).2⟩)) hE hZ (uwV m_65_14 m_65_15 m_65_16 m_2_13 m_65_17) (hdV 1 (by decide +kernel) rfl) ⟨Nat.le_of_ble_eq_true rfl, Nat.le_of_ble_eq_true rfl⟩ rfl rfl (ci := 6) (q0 := 6) rfl rfl rfl hl.1 (Nat.le_of_ble_eq_true rfl) dX7_printWords_58 ⟨Nat.le_trans (newC_le _ _) (Nat.le_of_ble_eq_true rfl), (Nat.le_of_ble_eq_true rfl)⟩ (fun r_27 t_26 H locs hw hP hD hS => ?_)
          obtain ⟨h_29, h_30⟩ := hw
          refine hz_Vv (As := [.int 21, .int r_27]) (rest := []) C hP hD hS hA (T_X4_operation l D K Z Y ad d1 t_23 hok 21 (show (21 : Int) ≤ (21 : Int32).toInt ∧ (21 : Int32).toInt ≤ 31 from ⟨by decide, by decide⟩) (r_27)) hE hZ (uwV m_55_21 m_55_22 m_55_23 m_3_20 m_56_0) (hdV 2 (by decide +kernel) rfl) ⟨Nat.le_of_ble_eq_true rfl, Nat.le_of_ble_eq_true rfl⟩ rfl rfl (ci := 3) (q0 := 20) rfl rfl rfl hl.1 (Nat.le_of_ble_eq_true rfl) dX7_printWords_61 ⟨Nat.le_trans (newC_le _ _) (Nat.le_of_ble_eq_true rfl), (Nat.le_of_ble_eq_true rfl)⟩ (fun t_31 H locs hw hP hD hS => ?_)
          obtain ⟨hok, f_33⟩ := hw
          have hfr : frA [(20, 3)] [] [35, 36, 37] [] t t_31 := frA_tr hfr f_33 rfl
          refine lv_aload_n C.1 C.2.1 dX7_printWords_64 rfl (lv_at hl 0 rfl) ?_
          refine k_get (v := .ref (ad 20)) C hP 6 rfl rfl inlX7 2 (by decide) m_6_14 rfl dX7_printWords_65 ?_
          refine lv_iload_n C.1 C.2.1 dX7_printWords_68 rfl (lv_at hl 1 rfl) ?_
          refine lv_iload_n C.1 C.2.1 dX7_printWords_69 rfl (lv_at hl 2 rfl) ?_
          refine g_DVv (As := [.int x1, .int x2]) (rest := []) C hP hD hS hA (T_X4_finish l D K Z Y ad d1 t_31 hok hod (x1) (show (72 : Int) ≤ (x1 : Int32).toInt ∧ (x1 : Int32).toInt ≤ 120 from ⟨by omega, by omega⟩) (x2) (show (0 : Int) ≤ (x2 : Int32).toInt ∧ (x2 : Int32).toInt ≤ 1 from ⟨by omega, by omega⟩)) hE hZ hX hle hdf (uwV m_41_7 m_41_8 m_41_9 m_3_20 m_41_10) (hdV 2 (by decide +kernel) rfl) ⟨Nat.le_of_ble_eq_true rfl, Nat.le_of_ble_eq_true rfl⟩ rfl rfl (ci := 3) (q0 := 20) rfl rfl rfl hl.1 (Nat.le_of_ble_eq_true rfl) dX7_printWords_70 ⟨Nat.le_of_ble_eq_true rfl, Nat.le_of_ble_eq_true rfl⟩ (fun t_34 d_36 H locs hw hP hD hS hln hle hdf => ?_)
          obtain ⟨hok, f_37, hod⟩ := hw
          have hfr : frA [(20, 3)] [] [35, 36, 37] [] t t_34 := frA_tr hfr f_37 rfl
          obtain ⟨v_38, e_39⟩ : ∃ z, z = w5_3 + 1 := ⟨_, rfl⟩
          refine lv_iinc (v := v_38) (lv' := [(3, .int v_38), (0, .ref (ad 6)), (1, .int x1), (2, .int x2), (4, .int w5_4)]) C.1 C.2.1 dX7_printWords_73 hl (k := 3) rfl e_39.symm (by decide) rfl (fun ls hl => ?_)
          have hl : lv_has ls 5 [(0, .ref (ad 6)), (1, .int x1), (2, .int x2), (3, .int v_38), (4, .int w5_4)] := lv_sub hl [1, 2, 3, 0, 4] rfl
          exact L_76 t_34 d_36 v_38 w5_4 _ _ _ hok hfr hod hle hdf ⟨by omega, by omega⟩ (show (4000 : Int) - w5_4.toInt < (fuel_5 : Int) + 1 from by omega) hP hD hS (lv_sub hl [0, 1, 2, 3, 4] rfl)
  refine lv_iconst (v := 0) C.1 C.2.1 dX7_printWords_0 (by decide) ?_
  refine lv_istore_n (lv' := [(3, .int 0), (0, .ref (ad 6)), (1, .int x1), (2, .int x2)]) C.1 C.2.1 dX7_printWords_1 rfl hl (by decide) rfl (fun ls hl => ?_)
  have hl : lv_has ls 5 [(0, .ref (ad 6)), (1, .int x1), (2, .int x2), (3, .int 0)] := lv_sub hl [1, 2, 3, 0] rfl
  refine lv_iconst (v := 0) C.1 C.2.1 dX7_printWords_2 (by decide) ?_
  refine lv_istore (lv' := [(4, .int 0), (0, .ref (ad 6)), (1, .int x1), (2, .int x2), (3, .int 0)]) C.1 C.2.1 dX7_printWords_3 hl (by decide) rfl (fun ls hl => ?_)
  have hl : lv_has ls 5 [(0, .ref (ad 6)), (1, .int x1), (2, .int x2), (3, .int 0), (4, .int 0)] := lv_sub hl [1, 2, 3, 4, 0] rfl
  exact L_5 4001 t d 0 0 _ _ _ hok hfr hod hle hdf ⟨by decide, by decide⟩ (show (4000 : Int) - 0 < ((4001 : Nat) : Int) from by omega) hP hD hS (lv_sub hl [0, 1, 2, 3, 4] rfl)

theorem dX7_printLines_0 : decode cX7_printLines 0 = .ok (.aload_n 0, 1) := by decide +kernel
theorem dX7_printLines_1 : decode cX7_printLines 1 = .ok (.getfield 15, 3) := by decide +kernel
theorem dX7_printLines_102 : decode cX7_printLines 102 = .ok (.aload_n 0, 1) := by decide +kernel
theorem dX7_printLines_103 : decode cX7_printLines 103 = .ok (.getfield 25, 3) := by decide +kernel
theorem dX7_printLines_106 : decode cX7_printLines 106 = .ok (.bipush 24, 2) := by decide +kernel
theorem dX7_printLines_108 : decode cX7_printLines 108 = .ok (.aload_n 1, 1) := by decide +kernel
theorem dX7_printLines_109 : decode cX7_printLines 109 = .ok (.getfield 116, 3) := by decide +kernel
theorem dX7_printLines_112 : decode cX7_printLines 112 = .ok (.invokevirtual 120, 3) := by decide +kernel
theorem dX7_printLines_115 : decode cX7_printLines 115 = .ok (.aload_n 0, 1) := by decide +kernel
theorem dX7_printLines_116 : decode cX7_printLines 116 = .ok (.getfield 25, 3) := by decide +kernel
theorem dX7_printLines_119 : decode cX7_printLines 119 = .ok (.bipush 120, 2) := by decide +kernel
theorem dX7_printLines_12 : decode cX7_printLines 12 = .ok (.iconst 0, 1) := by decide +kernel
theorem dX7_printLines_121 : decode cX7_printLines 121 = .ok (.iconst 0, 1) := by decide +kernel
theorem dX7_printLines_122 : decode cX7_printLines 122 = .ok (.invokevirtual 56, 3) := by decide +kernel
theorem dX7_printLines_125 : decode cX7_printLines 125 = .ok (.iinc 2 1, 3) := by decide +kernel
theorem dX7_printLines_128 : decode cX7_printLines 128 = .ok (.iinc 3 1, 3) := by decide +kernel
theorem dX7_printLines_13 : decode cX7_printLines 13 = .ok (.istore_n 2, 1) := by decide +kernel
theorem dX7_printLines_131 : decode cX7_printLines 131 = .ok (.goto (-115), 3) := by decide +kernel
theorem dX7_printLines_134 : decode cX7_printLines 134 = .ok (.iload_n 2, 1) := by decide +kernel
theorem dX7_printLines_135 : decode cX7_printLines 135 = .ok (.ireturn, 1) := by decide +kernel
theorem dX7_printLines_14 : decode cX7_printLines 14 = .ok (.iconst 0, 1) := by decide +kernel
theorem dX7_printLines_15 : decode cX7_printLines 15 = .ok (.istore_n 3, 1) := by decide +kernel
theorem dX7_printLines_16 : decode cX7_printLines 16 = .ok (.iload_n 3, 1) := by decide +kernel
theorem dX7_printLines_17 : decode cX7_printLines 17 = .ok (.aload_n 0, 1) := by decide +kernel
theorem dX7_printLines_18 : decode cX7_printLines 18 = .ok (.getfield 15, 3) := by decide +kernel
theorem dX7_printLines_21 : decode cX7_printLines 21 = .ok (.getfield 99, 3) := by decide +kernel
theorem dX7_printLines_24 : decode cX7_printLines 24 = .ok (.if_icmp .ge 110, 3) := by decide +kernel
theorem dX7_printLines_27 : decode cX7_printLines 27 = .ok (.aload_n 1, 1) := by decide +kernel
theorem dX7_printLines_28 : decode cX7_printLines 28 = .ok (.invokevirtual 102, 3) := by decide +kernel
theorem dX7_printLines_31 : decode cX7_printLines 31 = .ok (.ifCond .eq 103, 3) := by decide +kernel
theorem dX7_printLines_34 : decode cX7_printLines 34 = .ok (.aload_n 0, 1) := by decide +kernel
theorem dX7_printLines_35 : decode cX7_printLines 35 = .ok (.getfield 15, 3) := by decide +kernel
theorem dX7_printLines_38 : decode cX7_printLines 38 = .ok (.aload_n 1, 1) := by decide +kernel
theorem dX7_printLines_39 : decode cX7_printLines 39 = .ok (.getfield 106, 3) := by decide +kernel
theorem dX7_printLines_4 : decode cX7_printLines 4 = .ok (.getfield 90, 3) := by decide +kernel
theorem dX7_printLines_42 : decode cX7_printLines 42 = .ok (.invokevirtual 109, 3) := by decide +kernel
theorem dX7_printLines_45 : decode cX7_printLines 45 = .ok (.istore 4, 2) := by decide +kernel
theorem dX7_printLines_47 : decode cX7_printLines 47 = .ok (.aload_n 0, 1) := by decide +kernel
theorem dX7_printLines_48 : decode cX7_printLines 48 = .ok (.getfield 25, 3) := by decide +kernel
theorem dX7_printLines_51 : decode cX7_printLines 51 = .ok (.iconst 1, 1) := by decide +kernel
theorem dX7_printLines_52 : decode cX7_printLines 52 = .ok (.iconst 4, 1) := by decide +kernel
theorem dX7_printLines_53 : decode cX7_printLines 53 = .ok (.aload_n 1, 1) := by decide +kernel
theorem dX7_printLines_54 : decode cX7_printLines 54 = .ok (.getfield 106, 3) := by decide +kernel
theorem dX7_printLines_57 : decode cX7_printLines 57 = .ok (.i2l, 1) := by decide +kernel
theorem dX7_printLines_58 : decode cX7_printLines 58 = .ok (.invokevirtual 42, 3) := by decide +kernel
theorem dX7_printLines_61 : decode cX7_printLines 61 = .ok (.iload 4, 2) := by decide +kernel
theorem dX7_printLines_63 : decode cX7_printLines 63 = .ok (.sipush 3999, 3) := by decide +kernel
theorem dX7_printLines_66 : decode cX7_printLines 66 = .ok (.if_icmp .gt 36, 3) := by decide +kernel
theorem dX7_printLines_69 : decode cX7_printLines 69 = .ok (.aload_n 0, 1) := by decide +kernel
theorem dX7_printLines_7 : decode cX7_printLines 7 = .ok (.astore_n 1, 1) := by decide +kernel
theorem dX7_printLines_70 : decode cX7_printLines 70 = .ok (.getfield 25, 3) := by decide +kernel
theorem dX7_printLines_73 : decode cX7_printLines 73 = .ok (.bipush 6, 2) := by decide +kernel
theorem dX7_printLines_75 : decode cX7_printLines 75 = .ok (.iconst 4, 1) := by decide +kernel
theorem dX7_printLines_76 : decode cX7_printLines 76 = .ok (.iload 4, 2) := by decide +kernel
theorem dX7_printLines_78 : decode cX7_printLines 78 = .ok (.i2l, 1) := by decide +kernel
theorem dX7_printLines_79 : decode cX7_printLines 79 = .ok (.invokestatic 112, 3) := by decide +kernel
theorem dX7_printLines_8 : decode cX7_printLines 8 = .ok (.aload_n 1, 1) := by decide +kernel
theorem dX7_printLines_82 : decode cX7_printLines 82 = .ok (.invokevirtual 83, 3) := by decide +kernel
theorem dX7_printLines_85 : decode cX7_printLines 85 = .ok (.aload_n 0, 1) := by decide +kernel
theorem dX7_printLines_86 : decode cX7_printLines 86 = .ok (.getfield 25, 3) := by decide +kernel
theorem dX7_printLines_89 : decode cX7_printLines 89 = .ok (.bipush 12, 2) := by decide +kernel
theorem dX7_printLines_9 : decode cX7_printLines 9 = .ok (.invokevirtual 94, 3) := by decide +kernel
theorem dX7_printLines_91 : decode cX7_printLines 91 = .ok (.bipush 10, 2) := by decide +kernel
theorem dX7_printLines_93 : decode cX7_printLines 93 = .ok (.aload_n 0, 1) := by decide +kernel
theorem dX7_printLines_94 : decode cX7_printLines 94 = .ok (.iload 4, 2) := by decide +kernel
theorem dX7_printLines_96 : decode cX7_printLines 96 = .ok (.invokevirtual 48, 3) := by decide +kernel
theorem dX7_printLines_99 : decode cX7_printLines 99 = .ok (.invokevirtual 83, 3) := by decide +kernel
set_option maxHeartbeats 4000000 in
set_option maxRecDepth 100000 in
theorem T_X7_printLines (l : Launch) (D : va_G) (K : Nat → ClassId) (Z Y : Nat → Nat) (ad : Nat → Nat) (d : dSt) (t : tSt) (hok : okX t) (hod : okD d)  : dMet l yX7_printLines cX7_printLines 5 (some .int) (rmD 7 8000 2240000) D K Z Y [.ref (ad 6)] ((WX d) K ad t) (QDI D K ad d (fun (r : Int32) (u : tSt) (dd : dSt) => okX u ∧ frA [(2, 2), (2, 3), (2, 4), (2, 5), (20, 3)] [] [9, 35, 36, 37] [] t u ∧ okD dd ∧ (-2147483648 : Int) ≤ r.toInt ∧ r.toInt ≤ 2147483647)) 8000 2240000 := by
  refine d_met d RX7 ⟨rfl, by decide +kernel⟩ (Nat.le_of_ble_eq_true rfl) ?_
  intro p e s m below meth c A ls C hE hZ hX hr hlocks hA hP hD hS hl
  have hl : lv_has ls 5 [(0, .ref (ad 6))] := hl
  have hle : dLe d d := dLe_rf
  have hdf : dFr s.heap.size d d := dFr_rf
  have hokt := hok
  have hfr : frA [(2, 2), (2, 3), (2, 4), (2, 5), (20, 3)] [] [9, 35, 36, 37] [] t t := frA_rf
  have h_1 : (0 : Int) ≤ (t.1 2 2).toInt ∧ (t.1 2 2).toInt ≤ 1280 := hok.1 2 2
  have h_2 : (0 : Int) ≤ (t.1 2 3).toInt ∧ (t.1 2 3).toInt ≤ 80 := hok.1 2 3
  have h_3 : (0 : Int) ≤ (t.1 2 4).toInt ∧ (t.1 2 4).toInt ≤ 1281 := hok.1 2 4
  have h_4 : (0 : Int) ≤ (t.1 2 6).toInt ∧ (t.1 2 6).toInt ≤ 1281 := hok.1 2 6
  have h_5 : (0 : Int) ≤ (t.1 2 7).toInt ∧ (t.1 2 7).toInt ≤ 1280 := hok.1 2 7
  have L_16 : ∀ (fuel_16 : Nat) (t1 : tSt) (d1 : dSt) (w16_2 : Int32) (w16_3 : Int32) (H : Heap) (locs : List Loc) (ls : Array Slot), okX t1 → frA [(2, 2), (2, 3), (2, 4), (2, 5), (20, 3)] [] [9, 35, 36, 37] [] t t1 → okD d1 → dLe d d1 → dFr s.heap.size d d1 → (0 : Int) ≤ w16_3.toInt ∧ w16_3.toInt ≤ 2147483647 → (w16_3.toInt ≤ (t1.1 2 4).toInt) → (1282 - (t1.1 2 4).toInt) < (fuel_16 : Int) → va_P D vwCl ((WX d1) K ad t1) H → va_D A ((WX d1) K ad t1) → va_S A s.heap H locs → lv_has ls 5 [(0, .ref (ad 6)), (1, .ref (ad 2)), (2, .int w16_2), (3, .int w16_3)] → W p l e (rmD 7 8000 2240000) s m [.ref (ad 6)].toArray below meth c H locs (newC d d1) 246800 (MQ below (QDI D K ad d (fun (r : Int32) (u : tSt) (dd : dSt) => okX u ∧ frA [(2, 2), (2, 3), (2, 4), (2, 5), (20, 3)] [] [9, 35, 36, 37] [] t u ∧ okD dd ∧ (-2147483648 : Int) ≤ r.toInt ∧ r.toInt ≤ 2147483647) s.heap.size A) [.ref (ad 6)].toArray s 8000 2240000 A) (F0 m 16 ls []) := by
    intro fuel_16
    induction fuel_16 with
    | zero =>
      intro t1 d1 w16_2 w16_3 H locs ls hok hfr hod hle hdf hw16_3 hi16_0 hm16_16 hP hD hS hl
      have h_6 : (t1.1 2 6).toInt = (t.1 2 6).toInt := ti_eq (hfr.1 2 6 rfl)
      have h_7 : (t1.1 2 7).toInt = (t.1 2 7).toInt := ti_eq (hfr.1 2 7 rfl)
      have h_8 : (0 : Int) ≤ (t1.1 2 2).toInt ∧ (t1.1 2 2).toInt ≤ 1280 := hok.1 2 2
      have h_9 : (0 : Int) ≤ (t1.1 2 3).toInt ∧ (t1.1 2 3).toInt ≤ 80 := hok.1 2 3
      have h_10 : (0 : Int) ≤ (t1.1 2 4).toInt ∧ (t1.1 2 4).toInt ≤ 1281 := hok.1 2 4
      have h_11 : (0 : Int) ≤ (t1.1 2 6).toInt ∧ (t1.1 2 6).toInt ≤ 1281 := hok.1 2 6
      have h_12 : (0 : Int) ≤ (t1.1 2 7).toInt ∧ (t1.1 2 7).toInt ≤ 1280 := hok.1 2 7
      exact absurd hm16_16 (by omega)
    | succ fuel_16 ih_16 =>
      intro t1 d1 w16_2 w16_3 H locs ls hok hfr hod hle hdf hw16_3 hi16_0 hm16_16 hP hD hS hl
      have hm16_16 : (1282 - (t1.1 2 4).toInt) < (fuel_16 : Int) + 1 := by omega
      have h_13 : (t1.1 2 6).toInt = (t.1 2 6).toInt := ti_eq (hfr.1 2 6 rfl)
      have h_14 : (t1.1 2 7).toInt = (t.1 2 7).toInt := ti_eq (hfr.1 2 7 rfl)
      have h_15 : (0 : Int) ≤ (t1.1 2 2).toInt ∧ (t1.1 2 2).toInt ≤ 1280 := hok.1 2 2
      have h_16 : (0 : Int) ≤ (t1.1 2 3).toInt ∧ (t1.1 2 3).toInt ≤ 80 := hok.1 2 3
      have h_17 : (0 : Int) ≤ (t1.1 2 4).toInt ∧ (t1.1 2 4).toInt ≤ 1281 := hok.1 2 4
      have h_18 : (0 : Int) ≤ (t1.1 2 6).toInt ∧ (t1.1 2 6).toInt ≤ 1281 := hok.1 2 6
      have h_19 : (0 : Int) ≤ (t1.1 2 7).toInt ∧ (t1.1 2 7).toInt ≤ 1280 := hok.1 2 7
      refine lv_iload_n C.1 C.2.1 dX7_printLines_16 rfl (lv_at hl 3 rfl) ?_
      refine lv_aload_n C.1 C.2.1 dX7_printLines_17 rfl (lv_at hl 0 rfl) ?_
      refine k_get (v := .ref (ad 5)) C hP 6 rfl rfl inlX7 1 (by decide) m_6_12 rfl dX7_printLines_18 ?_
      refine k_get (v := .int (t1.1 5 15)) C hP 5 rfl rfl inlX0 15 (by decide) m_67_20 rfl dX7_printLines_21 ?_
      refine lv_icmp_ge (tgt := 134) C.1 C.2.1 dX7_printLines_24 (by decide) (fun c_20 => ?_) (fun c_20 => ?_)
      · replace c_20 : (t1.1 5 15).toInt ≤ w16_3.toInt := i_le c_20
        refine lv_iload_n C.1 C.2.1 dX7_printLines_134 rfl (lv_at hl 2 rfl) ?_
        exact g_Diret C hr hlocks hP hD hS rfl ⟨hok, hfr, hod, (i_rng _).1, (i_rng _).2⟩ hle hdf (Nat.le_of_ble_eq_true rfl) (Nat.le_of_ble_eq_true rfl) dX7_printLines_135
      · replace c_20 : w16_3.toInt < (t1.1 5 15).toInt := i_nle c_20
        refine lv_aload_n C.1 C.2.1 dX7_printLines_27 rfl (lv_at hl 1 rfl) ?_
        refine hz_Vi (As := []) (rest := []) C hP hD hS hA (T_X9_advance_1 l D K Z Y ad d1 t1 hok ) hE hZ (uwV m_67_22 m_13_19 m_13_20 m_1_17 m_13_21) (hdV 0 (by decide +kernel) rfl) ⟨Nat.le_of_ble_eq_true rfl, Nat.le_of_ble_eq_true rfl⟩ rfl rfl (ci := 8) (q0 := 2) rfl rfl rfl hl.1 (Nat.le_of_ble_eq_true rfl) dX7_printLines_28 ⟨Nat.le_trans (newC_le _ _) (Nat.le_of_ble_eq_true rfl), (Nat.le_of_ble_eq_true rfl)⟩ (fun r_22 t_21 H locs hw hP hD hS => ?_)
        obtain ⟨hok, f_23, h_24, h_25, p_26, p_27⟩ := hw
        have hfr : frA [(2, 2), (2, 3), (2, 4), (2, 5), (20, 3)] [] [9, 35, 36, 37] [] t t_21 := frA_tr hfr f_23 rfl
        have h_28 : (t_21.1 5 15).toInt = (t1.1 5 15).toInt := ti_eq (f_23.1 5 15 rfl)
        have h_29 : (t_21.1 2 6).toInt = (t1.1 2 6).toInt := ti_eq (f_23.1 2 6 rfl)
        have h_30 : (t_21.1 2 7).toInt = (t1.1 2 7).toInt := ti_eq (f_23.1 2 7 rfl)
        have h_31 : (0 : Int) ≤ (t_21.1 2 2).toInt ∧ (t_21.1 2 2).toInt ≤ 1280 := hok.1 2 2
        have h_32 : (0 : Int) ≤ (t_21.1 2 3).toInt ∧ (t_21.1 2 3).toInt ≤ 80 := hok.1 2 3
        have h_33 : (0 : Int) ≤ (t_21.1 2 4).toInt ∧ (t_21.1 2 4).toInt ≤ 1281 := hok.1 2 4
        have h_34 : (0 : Int) ≤ (t_21.1 2 6).toInt ∧ (t_21.1 2 6).toInt ≤ 1281 := hok.1 2 6
        have h_35 : (0 : Int) ≤ (t_21.1 2 7).toInt ∧ (t_21.1 2 7).toInt ≤ 1280 := hok.1 2 7
        replace p_26 : r_22.toInt = 1 → (t_21.1 2 2).toInt + (t_21.1 2 3).toInt ≤ 1280 := p_26
        replace p_27 : r_22.toInt = 1 → (t1.1 2 4).toInt + (t_21.1 2 3).toInt + 1 ≤ (t_21.1 2 4).toInt ∧ (t_21.1 2 4).toInt ≤ (t1.1 2 7).toInt + 1 := p_27
        refine lv_if_eq (tgt := 134) C.1 C.2.1 dX7_printLines_31 (by decide) (fun c_36 => ?_) (fun c_36 => ?_)
        · replace c_36 : r_22.toInt = 0 := i_eq c_36
          refine lv_iload_n C.1 C.2.1 dX7_printLines_134 rfl (lv_at hl 2 rfl) ?_
          exact g_Diret C hr hlocks hP hD hS rfl ⟨hok, hfr, hod, (i_rng _).1, (i_rng _).2⟩ hle hdf (Nat.le_of_ble_eq_true rfl) (Nat.le_of_ble_eq_true rfl) dX7_printLines_135
        · replace c_36 : ¬ r_22.toInt = 0 := i_ne c_36
          refine lv_aload_n C.1 C.2.1 dX7_printLines_34 rfl (lv_at hl 0 rfl) ?_
          refine k_get (v := .ref (ad 5)) C hP 6 rfl rfl inlX7 1 (by decide) m_6_12 rfl dX7_printLines_35 ?_
          refine lv_aload_n C.1 C.2.1 dX7_printLines_38 rfl (lv_at hl 1 rfl) ?_
          refine k_get (v := .int (t_21.1 2 5)) C hP 2 rfl rfl inlX9 5 (by decide) m_40_14 rfl dX7_printLines_39 ?_
          refine hz_Vi (As := [.int (t_21.1 2 5)]) (rest := []) C hP hD hS hA (T_X0_putOf l D K Z Y ad d1 t_21 hok ((t_21.1 2 5))) hE hZ (uwV m_67_23 m_68_0 m_68_1 m_2_2 m_68_2) (hdV 1 (by decide +kernel) rfl) ⟨Nat.le_of_ble_eq_true rfl, Nat.le_of_ble_eq_true rfl⟩ rfl rfl (ci := 0) (q0 := 5) rfl rfl rfl hl.1 (Nat.le_of_ble_eq_true rfl) dX7_printLines_42 ⟨Nat.le_trans (newC_le _ _) (Nat.le_of_ble_eq_true rfl), (Nat.le_of_ble_eq_true rfl)⟩ (fun r_38 t_37 H locs hw hP hD hS => ?_)
          obtain ⟨h_40, h_41⟩ := hw
          refine lv_istore (lv' := [(4, .int r_38), (0, .ref (ad 6)), (1, .ref (ad 2)), (2, .int w16_2), (3, .int w16_3)]) C.1 C.2.1 dX7_printLines_45 hl (by decide) rfl (fun ls hl => ?_)
          have hl : lv_has ls 5 [(0, .ref (ad 6)), (1, .ref (ad 2)), (2, .int w16_2), (3, .int w16_3), (4, .int r_38)] := lv_sub hl [1, 2, 3, 4, 0] rfl
          refine lv_aload_n C.1 C.2.1 dX7_printLines_47 rfl (lv_at hl 0 rfl) ?_
          refine k_get (v := .ref (ad 20)) C hP 6 rfl rfl inlX7 2 (by decide) m_6_14 rfl dX7_printLines_48 ?_
          refine lv_iconst (v := 1) C.1 C.2.1 dX7_printLines_51 (by decide) ?_
          refine lv_iconst (v := 4) C.1 C.2.1 dX7_printLines_52 (by decide) ?_
          refine lv_aload_n C.1 C.2.1 dX7_printLines_53 rfl (lv_at hl 1 rfl) ?_
          refine k_get (v := .int (t_21.1 2 5)) C hP 2 rfl rfl inlX9 5 (by decide) m_40_14 rfl dX7_printLines_54 ?_
          obtain ⟨v_42, e_43⟩ : ∃ z, z = ((t_21.1 2 5) : Int32).toInt64 := ⟨_, rfl⟩
          have h_44 : v_42.toInt = (t_21.1 2 5).toInt := by rw [e_43]; exact Jvm.Kit.i64_of_i32 _
          have h_45 := i_rng (t_21.1 2 5)
          refine lv_i2l (v := v_42) C.1 C.2.1 dX7_printLines_57 e_43.symm ?_
          have h_46 : (4 : Int32).toInt = 4 := rfl
          refine hz_Vv (As := [.int 1, .int 4, .long v_42]) (rest := []) C hP hD hS hA (T_X4_digits l D K Z Y ad d1 t_21 hok 1 (show (0 : Int) ≤ (1 : Int32).toInt ∧ (1 : Int32).toInt ≤ 200 from ⟨by decide, by decide⟩) 4 (show (1 : Int) ≤ (4 : Int32).toInt ∧ (4 : Int32).toInt ≤ 10 from ⟨by decide, by decide⟩) (v_42) (show 0 ≤ (4 : Int32).toInt from by omega)) hE hZ (uwV m_40_18 m_40_19 m_40_20 m_3_20 m_40_21) (hdV 3 (by decide +kernel) rfl) ⟨Nat.le_of_ble_eq_true rfl, Nat.le_of_ble_eq_true rfl⟩ rfl rfl (ci := 3) (q0 := 20) rfl rfl rfl hl.1 (Nat.le_of_ble_eq_true rfl) dX7_printLines_58 ⟨Nat.le_trans (newC_le _ _) (Nat.le_of_ble_eq_true rfl), (Nat.le_of_ble_eq_true rfl)⟩ (fun t_47 H locs hw hP hD hS => ?_)
          obtain ⟨hok, f_49⟩ := hw
          have hfr : frA [(2, 2), (2, 3), (2, 4), (2, 5), (20, 3)] [] [9, 35, 36, 37] [] t t_47 := frA_tr hfr f_49 rfl
          have h_50 : (t_47.1 5 15).toInt = (t_21.1 5 15).toInt := ti_eq (f_49.1 5 15 rfl)
          have h_51 : (t_47.1 2 5).toInt = (t_21.1 2 5).toInt := ti_eq (f_49.1 2 5 rfl)
          have h_52 : (t_47.1 2 2).toInt = (t_21.1 2 2).toInt := ti_eq (f_49.1 2 2 rfl)
          have h_53 : (t_47.1 2 3).toInt = (t_21.1 2 3).toInt := ti_eq (f_49.1 2 3 rfl)
          have h_54 : (t_47.1 2 4).toInt = (t_21.1 2 4).toInt := ti_eq (f_49.1 2 4 rfl)
          have h_55 : (t_47.1 2 6).toInt = (t_21.1 2 6).toInt := ti_eq (f_49.1 2 6 rfl)
          have h_56 : (t_47.1 2 7).toInt = (t_21.1 2 7).toInt := ti_eq (f_49.1 2 7 rfl)
          have h_57 : (0 : Int) ≤ (t_47.1 2 2).toInt ∧ (t_47.1 2 2).toInt ≤ 1280 := hok.1 2 2
          have h_58 : (0 : Int) ≤ (t_47.1 2 3).toInt ∧ (t_47.1 2 3).toInt ≤ 80 := hok.1 2 3
          have h_59 : (0 : Int) ≤ (t_47.1 2 4).toInt ∧ (t_47.1 2 4).toInt ≤ 1281 := hok.1 2 4
          have h_60 : (0 : Int) ≤ (t_47.1 2 6).toInt ∧ (t_47.1 2 6).toInt ≤ 1281 := hok.1 2 6
          have h_61 : (0 : Int) ≤ (t_47.1 2 7).toInt ∧ (t_47.1 2 7).toInt ≤ 1280 := hok.1 2 7
          refine lv_iload C.1 C.2.1 dX7_printLines_61 (lv_at hl 4 rfl) ?_
          refine lv_sipush (v := 3999) C.1 C.2.1 dX7_printLines_63 (by decide) ?_
          refine lv_icmp_gt (tgt := 102) C.1 C.2.1 dX7_printLines_66 (by decide) (fun c_62 => ?_) (fun c_62 => ?_)
          · replace c_62 : 3999 < r_38.toInt := i_lt c_62
            refine lv_aload_n C.1 C.2.1 dX7_printLines_102 rfl (lv_at hl 0 rfl) ?_
            refine k_get (v := .ref (ad 20)) C hP 6 rfl rfl inlX7 2 (by decide) m_6_14 rfl dX7_printLines_103 ?_
            refine lv_bipush (v := 24) C.1 C.2.1 dX7_printLines_106 (by decide) ?_
            refine lv_aload_n C.1 C.2.1 dX7_printLines_108 rfl (lv_at hl 1 rfl) ?_
            refine k_get (v := .ref (ad 9)) C hP 2 rfl rfl inlX9 1 (by decide) m_40_15 rfl dX7_printLines_109 ?_
            refine hz_Vv (As := [.int 24, .ref (ad 9)]) (rest := []) C hP hD hS hA (T_X4_copy l D K Z Y ad d1 t_47 hok 24 (show (8 : Int) ≤ (24 : Int32).toInt ∧ (24 : Int32).toInt ≤ 31 from ⟨by decide, by decide⟩)) hE hZ (uwV m_41_3 m_41_4 m_41_5 m_3_20 m_41_6) (hdV 2 (by decide +kernel) rfl) ⟨Nat.le_of_ble_eq_true rfl, Nat.le_of_ble_eq_true rfl⟩ rfl rfl (ci := 3) (q0 := 20) rfl rfl rfl hl.1 (Nat.le_of_ble_eq_true rfl) dX7_printLines_112 ⟨Nat.le_trans (newC_le _ _) (Nat.le_of_ble_eq_true rfl), (Nat.le_of_ble_eq_true rfl)⟩ (fun t_63 H locs hw hP hD hS => ?_)
            obtain ⟨hok, f_65⟩ := hw
            have hfr : frA [(2, 2), (2, 3), (2, 4), (2, 5), (20, 3)] [] [9, 35, 36, 37] [] t t_63 := frA_tr hfr f_65 rfl
            have h_66 : (t_63.1 5 15).toInt = (t_47.1 5 15).toInt := ti_eq (f_65.1 5 15 rfl)
            have h_67 : (t_63.1 2 5).toInt = (t_47.1 2 5).toInt := ti_eq (f_65.1 2 5 rfl)
            have h_68 : (t_63.1 2 2).toInt = (t_47.1 2 2).toInt := ti_eq (f_65.1 2 2 rfl)
            have h_69 : (t_63.1 2 3).toInt = (t_47.1 2 3).toInt := ti_eq (f_65.1 2 3 rfl)
            have h_70 : (t_63.1 2 4).toInt = (t_47.1 2 4).toInt := ti_eq (f_65.1 2 4 rfl)
            have h_71 : (t_63.1 2 6).toInt = (t_47.1 2 6).toInt := ti_eq (f_65.1 2 6 rfl)
            have h_72 : (t_63.1 2 7).toInt = (t_47.1 2 7).toInt := ti_eq (f_65.1 2 7 rfl)
            have h_73 : (0 : Int) ≤ (t_63.1 2 2).toInt ∧ (t_63.1 2 2).toInt ≤ 1280 := hok.1 2 2
            have h_74 : (0 : Int) ≤ (t_63.1 2 3).toInt ∧ (t_63.1 2 3).toInt ≤ 80 := hok.1 2 3
            have h_75 : (0 : Int) ≤ (t_63.1 2 4).toInt ∧ (t_63.1 2 4).toInt ≤ 1281 := hok.1 2 4
            have h_76 : (0 : Int) ≤ (t_63.1 2 6).toInt ∧ (t_63.1 2 6).toInt ≤ 1281 := hok.1 2 6
            have h_77 : (0 : Int) ≤ (t_63.1 2 7).toInt ∧ (t_63.1 2 7).toInt ≤ 1280 := hok.1 2 7
            refine lv_aload_n C.1 C.2.1 dX7_printLines_115 rfl (lv_at hl 0 rfl) ?_
            refine k_get (v := .ref (ad 20)) C hP 6 rfl rfl inlX7 2 (by decide) m_6_14 rfl dX7_printLines_116 ?_
            refine lv_bipush (v := 120) C.1 C.2.1 dX7_printLines_119 (by decide) ?_
            refine lv_iconst (v := 0) C.1 C.2.1 dX7_printLines_121 (by decide) ?_
            refine g_DVv (As := [.int 120, .int 0]) (rest := []) C hP hD hS hA (T_X4_finish l D K Z Y ad d1 t_63 hok hod 120 (show (72 : Int) ≤ (120 : Int32).toInt ∧ (120 : Int32).toInt ≤ 120 from ⟨by decide, by decide⟩) 0 (show (0 : Int) ≤ (0 : Int32).toInt ∧ (0 : Int32).toInt ≤ 1 from ⟨by decide, by decide⟩)) hE hZ hX hle hdf (uwV m_41_7 m_41_8 m_41_9 m_3_20 m_41_10) (hdV 2 (by decide +kernel) rfl) ⟨Nat.le_of_ble_eq_true rfl, Nat.le_of_ble_eq_true rfl⟩ rfl rfl (ci := 3) (q0 := 20) rfl rfl rfl hl.1 (Nat.le_of_ble_eq_true rfl) dX7_printLines_122 ⟨Nat.le_of_ble_eq_true rfl, Nat.le_of_ble_eq_true rfl⟩ (fun t_78 d_80 H locs hw hP hD hS hln hle hdf => ?_)
            obtain ⟨hok, f_81, hod⟩ := hw
            have hfr : frA [(2, 2), (2, 3), (2, 4), (2, 5), (20, 3)] [] [9, 35, 36, 37] [] t t_78 := frA_tr hfr f_81 rfl
            have h_82 : (t_78.1 5 15).toInt = (t_63.1 5 15).toInt := ti_eq (f_81.1 5 15 rfl)
            have h_83 : (t_78.1 2 5).toInt = (t_63.1 2 5).toInt := ti_eq (f_81.1 2 5 rfl)
            have h_84 : (t_78.1 2 2).toInt = (t_63.1 2 2).toInt := ti_eq (f_81.1 2 2 rfl)
            have h_85 : (t_78.1 2 3).toInt = (t_63.1 2 3).toInt := ti_eq (f_81.1 2 3 rfl)
            have h_86 : (t_78.1 2 4).toInt = (t_63.1 2 4).toInt := ti_eq (f_81.1 2 4 rfl)
            have h_87 : (t_78.1 2 6).toInt = (t_63.1 2 6).toInt := ti_eq (f_81.1 2 6 rfl)
            have h_88 : (t_78.1 2 7).toInt = (t_63.1 2 7).toInt := ti_eq (f_81.1 2 7 rfl)
            have h_89 : (0 : Int) ≤ (t_78.1 2 2).toInt ∧ (t_78.1 2 2).toInt ≤ 1280 := hok.1 2 2
            have h_90 : (0 : Int) ≤ (t_78.1 2 3).toInt ∧ (t_78.1 2 3).toInt ≤ 80 := hok.1 2 3
            have h_91 : (0 : Int) ≤ (t_78.1 2 4).toInt ∧ (t_78.1 2 4).toInt ≤ 1281 := hok.1 2 4
            have h_92 : (0 : Int) ≤ (t_78.1 2 6).toInt ∧ (t_78.1 2 6).toInt ≤ 1281 := hok.1 2 6
            have h_93 : (0 : Int) ≤ (t_78.1 2 7).toInt ∧ (t_78.1 2 7).toInt ≤ 1280 := hok.1 2 7
            obtain ⟨v_94, e_95⟩ : ∃ z, z = w16_2 + 1 := ⟨_, rfl⟩
            refine lv_iinc (v := v_94) (lv' := [(2, .int v_94), (0, .ref (ad 6)), (1, .ref (ad 2)), (3, .int w16_3), (4, .int r_38)]) C.1 C.2.1 dX7_printLines_125 hl (k := 2) rfl e_95.symm (by decide) rfl (fun ls hl => ?_)
            have hl : lv_has ls 5 [(0, .ref (ad 6)), (1, .ref (ad 2)), (2, .int v_94), (3, .int w16_3), (4, .int r_38)] := lv_sub hl [1, 2, 0, 3, 4] rfl
            obtain ⟨v_96, e_97⟩ : ∃ z, z = w16_3 + 1 := ⟨_, rfl⟩
            have h_98 : v_96.toInt = w16_3.toInt + 1 := by rw [e_97]; exact ti_iadd (by show (_ : Int) ≤ w16_3.toInt + 1; omega) (by show w16_3.toInt + 1 < (_ : Int); omega)
            refine lv_iinc (v := v_96) (lv' := [(3, .int v_96), (0, .ref (ad 6)), (1, .ref (ad 2)), (2, .int v_94), (4, .int r_38)]) C.1 C.2.1 dX7_printLines_128 hl (k := 3) rfl e_97.symm (by decide) rfl (fun ls hl => ?_)
            have hl : lv_has ls 5 [(0, .ref (ad 6)), (1, .ref (ad 2)), (2, .int v_94), (3, .int v_96), (4, .int r_38)] := lv_sub hl [1, 2, 3, 0, 4] rfl
            refine lv_goto (tgt := 16) C.1 C.2.1 dX7_printLines_131 (by decide) ?_
            exact ih_16 t_78 d_80 v_94 v_96 _ _ _ hok hfr hod hle hdf ⟨by omega, (i_rng _).2⟩ (show v_96.toInt ≤ (t_78.1 2 4).toInt from by omega) (show (1282 - (t_78.1 2 4).toInt) < (fuel_16 : Int) from by omega) hP hD hS (lv_sub hl [0, 1, 2, 3] rfl)
          · replace c_62 : r_38.toInt ≤ 3999 := i_nlt c_62
            refine lv_aload_n C.1 C.2.1 dX7_printLines_69 rfl (lv_at hl 0 rfl) ?_
            refine k_get (v := .ref (ad 20)) C hP 6 rfl rfl inlX7 2 (by decide) m_6_14 rfl dX7_printLines_70 ?_
            refine lv_bipush (v := 6) C.1 C.2.1 dX7_printLines_73 (by decide) ?_
            refine lv_iconst (v := 4) C.1 C.2.1 dX7_printLines_75 (by decide) ?_
            refine lv_iload C.1 C.2.1 dX7_printLines_76 (lv_at hl 4 rfl) ?_
            obtain ⟨v_99, e_100⟩ : ∃ z, z = (r_38 : Int32).toInt64 := ⟨_, rfl⟩
            have h_101 : v_99.toInt = r_38.toInt := by rw [e_100]; exact Jvm.Kit.i64_of_i32 _
            refine lv_i2l (v := v_99) C.1 C.2.1 dX7_printLines_78 e_100.symm ?_
            refine hz_Si (As := [.long v_99]) (rest := [.int 4, .int 6, .ref (ad 20)]) C hP hD hS hA (T_X1_wordOf l D K Z Y ad d1 t_47 hok (v_99)) hE hZ (uwS m_55_7 m_22_11 m_14_2 m_22_12) (hdS 1 (by decide +kernel) rfl) ⟨Nat.le_of_ble_eq_true rfl, Nat.le_of_ble_eq_true rfl⟩ rfl rfl rfl hl.1 (Nat.le_of_ble_eq_true rfl) dX7_printLines_79 ⟨Nat.le_trans (newC_le _ _) (Nat.le_of_ble_eq_true rfl), (Nat.le_of_ble_eq_true rfl)⟩ (fun r_103 t_102 H locs hw hP hD hS => ?_)
            obtain ⟨h_105, h_106⟩ := hw
            refine hz_Vv (As := [.int 6, .int 4, .int r_103]) (rest := []) C hP hD hS hA (T_X4_signed l D K Z Y ad d1 t_47 hok 6 (show (1 : Int) ≤ (6 : Int32).toInt ∧ (6 : Int32).toInt ≤ 63 from ⟨by decide, by decide⟩) 4 (show (4 : Int) ≤ (4 : Int32).toInt ∧ (4 : Int32).toInt ≤ 10 from ⟨by decide, by decide⟩) (r_103)) hE hZ (uwV m_55_8 m_55_9 m_55_10 m_3_20 m_55_11) (hdV 3 (by decide +kernel) rfl) ⟨Nat.le_of_ble_eq_true rfl, Nat.le_of_ble_eq_true rfl⟩ rfl rfl (ci := 3) (q0 := 20) rfl rfl rfl hl.1 (Nat.le_of_ble_eq_true rfl) dX7_printLines_82 ⟨Nat.le_trans (newC_le _ _) (Nat.le_of_ble_eq_true rfl), (Nat.le_of_ble_eq_true rfl)⟩ (fun t_107 H locs hw hP hD hS => ?_)
            obtain ⟨hok, f_109⟩ := hw
            have hfr : frA [(2, 2), (2, 3), (2, 4), (2, 5), (20, 3)] [] [9, 35, 36, 37] [] t t_107 := frA_tr hfr f_109 rfl
            have h_110 : (t_107.1 5 15).toInt = (t_47.1 5 15).toInt := ti_eq (f_109.1 5 15 rfl)
            have h_111 : (t_107.1 2 5).toInt = (t_47.1 2 5).toInt := ti_eq (f_109.1 2 5 rfl)
            have h_112 : (t_107.1 2 2).toInt = (t_47.1 2 2).toInt := ti_eq (f_109.1 2 2 rfl)
            have h_113 : (t_107.1 2 3).toInt = (t_47.1 2 3).toInt := ti_eq (f_109.1 2 3 rfl)
            have h_114 : (t_107.1 2 4).toInt = (t_47.1 2 4).toInt := ti_eq (f_109.1 2 4 rfl)
            have h_115 : (t_107.1 2 6).toInt = (t_47.1 2 6).toInt := ti_eq (f_109.1 2 6 rfl)
            have h_116 : (t_107.1 2 7).toInt = (t_47.1 2 7).toInt := ti_eq (f_109.1 2 7 rfl)
            have h_117 : (0 : Int) ≤ (t_107.1 2 2).toInt ∧ (t_107.1 2 2).toInt ≤ 1280 := hok.1 2 2
            have h_118 : (0 : Int) ≤ (t_107.1 2 3).toInt ∧ (t_107.1 2 3).toInt ≤ 80 := hok.1 2 3
            have h_119 : (0 : Int) ≤ (t_107.1 2 4).toInt ∧ (t_107.1 2 4).toInt ≤ 1281 := hok.1 2 4
            have h_120 : (0 : Int) ≤ (t_107.1 2 6).toInt ∧ (t_107.1 2 6).toInt ≤ 1281 := hok.1 2 6
            have h_121 : (0 : Int) ≤ (t_107.1 2 7).toInt ∧ (t_107.1 2 7).toInt ≤ 1280 := hok.1 2 7
            refine lv_aload_n C.1 C.2.1 dX7_printLines_85 rfl (lv_at hl 0 rfl) ?_
            refine k_get (v := .ref (ad 20)) C hP 6 rfl rfl inlX7 2 (by decide) m_6_14 rfl dX7_printLines_86 ?_
            refine lv_bipush (v := 12) C.1 C.2.1 dX7_printLines_89 (by decide) ?_
            refine lv_bipush (v := 10) C.1 C.2.1 dX7_printLines_91 (by decide) ?_
            refine lv_aload_n C.1 C.2.1 dX7_printLines_93 rfl (lv_at hl 0 rfl) ?_
            refine lv_iload C.1 C.2.1 dX7_printLines_94 (lv_at hl 4 rfl) ?_
            refine hz_Vi (As := [.int r_38]) (rest := [.int 10, .int 12, .ref (ad 20)]) C hP hD hS hA (T_X7_wordAt l D K Z Y ad d1 t_107 hok (r_38) (show (-1073741824 : Int) ≤ (r_38 : Int32).toInt ∧ (r_38 : Int32).toInt ≤ 2147483647 from ⟨by omega, (i_rng _).2⟩)) hE hZ (uwV m_65_14 m_65_15 m_65_16 m_2_13 m_65_17) (hdV 1 (by decide +kernel) rfl) ⟨Nat.le_of_ble_eq_true rfl, Nat.le_of_ble_eq_true rfl⟩ rfl rfl (ci := 6) (q0 := 6) rfl rfl rfl hl.1 (Nat.le_of_ble_eq_true rfl) dX7_printLines_96 ⟨Nat.le_trans (newC_le _ _) (Nat.le_of_ble_eq_true rfl), (Nat.le_of_ble_eq_true rfl)⟩ (fun r_123 t_122 H locs hw hP hD hS => ?_)
            obtain ⟨h_125, h_126⟩ := hw
            refine hz_Vv (As := [.int 12, .int 10, .int r_123]) (rest := []) C hP hD hS hA (T_X4_signed l D K Z Y ad d1 t_107 hok 12 (show (1 : Int) ≤ (12 : Int32).toInt ∧ (12 : Int32).toInt ≤ 63 from ⟨by decide, by decide⟩) 10 (show (4 : Int) ≤ (10 : Int32).toInt ∧ (10 : Int32).toInt ≤ 10 from ⟨by decide, by decide⟩) (r_123)) hE hZ (uwV m_55_8 m_55_9 m_55_10 m_3_20 m_55_11) (hdV 3 (by decide +kernel) rfl) ⟨Nat.le_of_ble_eq_true rfl, Nat.le_of_ble_eq_true rfl⟩ rfl rfl (ci := 3) (q0 := 20) rfl rfl rfl hl.1 (Nat.le_of_ble_eq_true rfl) dX7_printLines_99 ⟨Nat.le_trans (newC_le _ _) (Nat.le_of_ble_eq_true rfl), (Nat.le_of_ble_eq_true rfl)⟩ (fun t_127 H locs hw hP hD hS => ?_)
            obtain ⟨hok, f_129⟩ := hw
            have hfr : frA [(2, 2), (2, 3), (2, 4), (2, 5), (20, 3)] [] [9, 35, 36, 37] [] t t_127 := frA_tr hfr f_129 rfl
            have h_130 : (t_127.1 5 15).toInt = (t_107.1 5 15).toInt := ti_eq (f_129.1 5 15 rfl)
            have h_131 : (t_127.1 2 5).toInt = (t_107.1 2 5).toInt := ti_eq (f_129.1 2 5 rfl)
            have h_132 : (t_127.1 2 2).toInt = (t_107.1 2 2).toInt := ti_eq (f_129.1 2 2 rfl)
            have h_133 : (t_127.1 2 3).toInt = (t_107.1 2 3).toInt := ti_eq (f_129.1 2 3 rfl)
            have h_134 : (t_127.1 2 4).toInt = (t_107.1 2 4).toInt := ti_eq (f_129.1 2 4 rfl)
            have h_135 : (t_127.1 2 6).toInt = (t_107.1 2 6).toInt := ti_eq (f_129.1 2 6 rfl)
            have h_136 : (t_127.1 2 7).toInt = (t_107.1 2 7).toInt := ti_eq (f_129.1 2 7 rfl)
            have h_137 : (0 : Int) ≤ (t_127.1 2 2).toInt ∧ (t_127.1 2 2).toInt ≤ 1280 := hok.1 2 2
            have h_138 : (0 : Int) ≤ (t_127.1 2 3).toInt ∧ (t_127.1 2 3).toInt ≤ 80 := hok.1 2 3
            have h_139 : (0 : Int) ≤ (t_127.1 2 4).toInt ∧ (t_127.1 2 4).toInt ≤ 1281 := hok.1 2 4
            have h_140 : (0 : Int) ≤ (t_127.1 2 6).toInt ∧ (t_127.1 2 6).toInt ≤ 1281 := hok.1 2 6
            have h_141 : (0 : Int) ≤ (t_127.1 2 7).toInt ∧ (t_127.1 2 7).toInt ≤ 1280 := hok.1 2 7
            refine lv_aload_n C.1 C.2.1 dX7_printLines_102 rfl (lv_at hl 0 rfl) ?_
            refine k_get (v := .ref (ad 20)) C hP 6 rfl rfl inlX7 2 (by decide) m_6_14 rfl dX7_printLines_103 ?_
            refine lv_bipush (v := 24) C.1 C.2.1 dX7_printLines_106 (by decide) ?_
            refine lv_aload_n C.1 C.2.1 dX7_printLines_108 rfl (lv_at hl 1 rfl) ?_
            refine k_get (v := .ref (ad 9)) C hP 2 rfl rfl inlX9 1 (by decide) m_40_15 rfl dX7_printLines_109 ?_
            refine hz_Vv (As := [.int 24, .ref (ad 9)]) (rest := []) C hP hD hS hA (T_X4_copy l D K Z Y ad d1 t_127 hok 24 (show (8 : Int) ≤ (24 : Int32).toInt ∧ (24 : Int32).toInt ≤ 31 from ⟨by decide, by decide⟩)) hE hZ (uwV m_41_3 m_41_4 m_41_5 m_3_20 m_41_6) (hdV 2 (by decide +kernel) rfl) ⟨Nat.le_of_ble_eq_true rfl, Nat.le_of_ble_eq_true rfl⟩ rfl rfl (ci := 3) (q0 := 20) rfl rfl rfl hl.1 (Nat.le_of_ble_eq_true rfl) dX7_printLines_112 ⟨Nat.le_trans (newC_le _ _) (Nat.le_of_ble_eq_true rfl), (Nat.le_of_ble_eq_true rfl)⟩ (fun t_142 H locs hw hP hD hS => ?_)
            obtain ⟨hok, f_144⟩ := hw
            have hfr : frA [(2, 2), (2, 3), (2, 4), (2, 5), (20, 3)] [] [9, 35, 36, 37] [] t t_142 := frA_tr hfr f_144 rfl
            have h_145 : (t_142.1 5 15).toInt = (t_127.1 5 15).toInt := ti_eq (f_144.1 5 15 rfl)
            have h_146 : (t_142.1 2 5).toInt = (t_127.1 2 5).toInt := ti_eq (f_144.1 2 5 rfl)
            have h_147 : (t_142.1 2 2).toInt = (t_127.1 2 2).toInt := ti_eq (f_144.1 2 2 rfl)
            have h_148 : (t_142.1 2 3).toInt = (t_127.1 2 3).toInt := ti_eq (f_144.1 2 3 rfl)
            have h_149 : (t_142.1 2 4).toInt = (t_127.1 2 4).toInt := ti_eq (f_144.1 2 4 rfl)
            have h_150 : (t_142.1 2 6).toInt = (t_127.1 2 6).toInt := ti_eq (f_144.1 2 6 rfl)
            have h_151 : (t_142.1 2 7).toInt = (t_127.1 2 7).toInt := ti_eq (f_144.1 2 7 rfl)
            have h_152 : (0 : Int) ≤ (t_142.1 2 2).toInt ∧ (t_142.1 2 2).toInt ≤ 1280 := hok.1 2 2
            have h_153 : (0 : Int) ≤ (t_142.1 2 3).toInt ∧ (t_142.1 2 3).toInt ≤ 80 := hok.1 2 3
            have h_154 : (0 : Int) ≤ (t_142.1 2 4).toInt ∧ (t_142.1 2 4).toInt ≤ 1281 := hok.1 2 4
            have h_155 : (0 : Int) ≤ (t_142.1 2 6).toInt ∧ (t_142.1 2 6).toInt ≤ 1281 := hok.1 2 6
            have h_156 : (0 : Int) ≤ (t_142.1 2 7).toInt ∧ (t_142.1 2 7).toInt ≤ 1280 := hok.1 2 7
            refine lv_aload_n C.1 C.2.1 dX7_printLines_115 rfl (lv_at hl 0 rfl) ?_
            refine k_get (v := .ref (ad 20)) C hP 6 rfl rfl inlX7 2 (by decide) m_6_14 rfl dX7_printLines_116 ?_
            refine lv_bipush (v := 120) C.1 C.2.1 dX7_printLines_119 (by decide) ?_
            refine lv_iconst (v := 0) C.1 C.2.1 dX7_printLines_121 (by decide) ?_
            refine g_DVv (As := [.int 120, .int 0]) (rest := []) C hP hD hS hA (T_X4_finish l D K Z Y ad d1 t_142 hok hod 120 (show (72 : Int) ≤ (120 : Int32).toInt ∧ (120 : Int32).toInt ≤ 120 from ⟨by decide, by decide⟩) 0 (show (0 : Int) ≤ (0 : Int32).toInt ∧ (0 : Int32).toInt ≤ 1 from ⟨by decide, by decide⟩)) hE hZ hX hle hdf (uwV m_41_7 m_41_8 m_41_9 m_3_20 m_41_10) (hdV 2 (by decide +kernel) rfl) ⟨Nat.le_of_ble_eq_true rfl, Nat.le_of_ble_eq_true rfl⟩ rfl rfl (ci := 3) (q0 := 20) rfl rfl rfl hl.1 (Nat.le_of_ble_eq_true rfl) dX7_printLines_122 ⟨Nat.le_of_ble_eq_true rfl, Nat.le_of_ble_eq_true rfl⟩ (fun t_157 d_159 H locs hw hP hD hS hln hle hdf => ?_)
            obtain ⟨hok, f_160, hod⟩ := hw
            have hfr : frA [(2, 2), (2, 3), (2, 4), (2, 5), (20, 3)] [] [9, 35, 36, 37] [] t t_157 := frA_tr hfr f_160 rfl
            have h_161 : (t_157.1 5 15).toInt = (t_142.1 5 15).toInt := ti_eq (f_160.1 5 15 rfl)
            have h_162 : (t_157.1 2 5).toInt = (t_142.1 2 5).toInt := ti_eq (f_160.1 2 5 rfl)
            have h_163 : (t_157.1 2 2).toInt = (t_142.1 2 2).toInt := ti_eq (f_160.1 2 2 rfl)
            have h_164 : (t_157.1 2 3).toInt = (t_142.1 2 3).toInt := ti_eq (f_160.1 2 3 rfl)
            have h_165 : (t_157.1 2 4).toInt = (t_142.1 2 4).toInt := ti_eq (f_160.1 2 4 rfl)
            have h_166 : (t_157.1 2 6).toInt = (t_142.1 2 6).toInt := ti_eq (f_160.1 2 6 rfl)
            have h_167 : (t_157.1 2 7).toInt = (t_142.1 2 7).toInt := ti_eq (f_160.1 2 7 rfl)
            have h_168 : (0 : Int) ≤ (t_157.1 2 2).toInt ∧ (t_157.1 2 2).toInt ≤ 1280 := hok.1 2 2
            have h_169 : (0 : Int) ≤ (t_157.1 2 3).toInt ∧ (t_157.1 2 3).toInt ≤ 80 := hok.1 2 3
            have h_170 : (0 : Int) ≤ (t_157.1 2 4).toInt ∧ (t_157.1 2 4).toInt ≤ 1281 := hok.1 2 4
            have h_171 : (0 : Int) ≤ (t_157.1 2 6).toInt ∧ (t_157.1 2 6).toInt ≤ 1281 := hok.1 2 6
            have h_172 : (0 : Int) ≤ (t_157.1 2 7).toInt ∧ (t_157.1 2 7).toInt ≤ 1280 := hok.1 2 7
            obtain ⟨v_173, e_174⟩ : ∃ z, z = w16_2 + 1 := ⟨_, rfl⟩
            refine lv_iinc (v := v_173) (lv' := [(2, .int v_173), (0, .ref (ad 6)), (1, .ref (ad 2)), (3, .int w16_3), (4, .int r_38)]) C.1 C.2.1 dX7_printLines_125 hl (k := 2) rfl e_174.symm (by decide) rfl (fun ls hl => ?_)
            have hl : lv_has ls 5 [(0, .ref (ad 6)), (1, .ref (ad 2)), (2, .int v_173), (3, .int w16_3), (4, .int r_38)] := lv_sub hl [1, 2, 0, 3, 4] rfl
            obtain ⟨v_175, e_176⟩ : ∃ z, z = w16_3 + 1 := ⟨_, rfl⟩
            have h_177 : v_175.toInt = w16_3.toInt + 1 := by rw [e_176]; exact ti_iadd (by show (_ : Int) ≤ w16_3.toInt + 1; omega) (by show w16_3.toInt + 1 < (_ : Int); omega)
            refine lv_iinc (v := v_175) (lv' := [(3, .int v_175), (0, .ref (ad 6)), (1, .ref (ad 2)), (2, .int v_173), (4, .int r_38)]) C.1 C.2.1 dX7_printLines_128 hl (k := 3) rfl e_176.symm (by decide) rfl (fun ls hl => ?_)
            have hl : lv_has ls 5 [(0, .ref (ad 6)), (1, .ref (ad 2)), (2, .int v_173), (3, .int v_175), (4, .int r_38)] := lv_sub hl [1, 2, 3, 0, 4] rfl
            refine lv_goto (tgt := 16) C.1 C.2.1 dX7_printLines_131 (by decide) ?_
            exact ih_16 t_157 d_159 v_173 v_175 _ _ _ hok hfr hod hle hdf ⟨by omega, (i_rng _).2⟩ (show v_175.toInt ≤ (t_157.1 2 4).toInt from by omega) (show (1282 - (t_157.1 2 4).toInt) < (fuel_16 : Int) from by omega) hP hD hS (lv_sub hl [0, 1, 2, 3] rfl)
  refine lv_aload_n C.1 C.2.1 dX7_printLines_0 rfl (lv_at hl 0 rfl) ?_
  refine k_get (v := .ref (ad 5)) C hP 6 rfl rfl inlX7 1 (by decide) m_6_12 rfl dX7_printLines_1 ?_
  refine k_get (v := .ref (ad 2)) C hP 5 rfl rfl inlX0 0 (by decide) m_40_13 rfl dX7_printLines_4 ?_
  refine lv_astore_n (lv' := [(1, .ref (ad 2)), (0, .ref (ad 6))]) C.1 C.2.1 dX7_printLines_7 rfl hl (by decide) rfl (fun ls hl => ?_)
  have hl : lv_has ls 5 [(0, .ref (ad 6)), (1, .ref (ad 2))] := lv_sub hl [1, 0] rfl
  refine lv_aload_n C.1 C.2.1 dX7_printLines_8 rfl (lv_at hl 1 rfl) ?_
  refine hz_Vv (As := []) (rest := []) C hP hD hS hA (T_X9_reopen_1 l D K Z Y ad d t hok ) hE hZ (uwV m_67_21 m_12_23 m_13_0 m_1_17 m_13_1) (hdV 0 (by decide +kernel) rfl) ⟨Nat.le_of_ble_eq_true rfl, Nat.le_of_ble_eq_true rfl⟩ rfl rfl (ci := 8) (q0 := 2) rfl rfl rfl hl.1 (Nat.le_of_ble_eq_true rfl) dX7_printLines_9 ⟨Nat.le_trans (newC_le _ _) (Nat.le_of_ble_eq_true rfl), (Nat.le_of_ble_eq_true rfl)⟩ (fun t_178 H locs hw hP hD hS => ?_)
  obtain ⟨hok, f_180, p_181⟩ := hw
  have hfr : frA [(2, 2), (2, 3), (2, 4), (2, 5), (20, 3)] [] [9, 35, 36, 37] [] t t_178 := frA_tr hfr f_180 rfl
  have h_182 : (t_178.1 2 2).toInt = (t.1 2 2).toInt := ti_eq (f_180.1 2 2 rfl)
  have h_183 : (t_178.1 2 3).toInt = (t.1 2 3).toInt := ti_eq (f_180.1 2 3 rfl)
  have h_184 : (t_178.1 2 6).toInt = (t.1 2 6).toInt := ti_eq (f_180.1 2 6 rfl)
  have h_185 : (t_178.1 2 7).toInt = (t.1 2 7).toInt := ti_eq (f_180.1 2 7 rfl)
  have h_186 : (0 : Int) ≤ (t_178.1 2 2).toInt ∧ (t_178.1 2 2).toInt ≤ 1280 := hok.1 2 2
  have h_187 : (0 : Int) ≤ (t_178.1 2 3).toInt ∧ (t_178.1 2 3).toInt ≤ 80 := hok.1 2 3
  have h_188 : (0 : Int) ≤ (t_178.1 2 4).toInt ∧ (t_178.1 2 4).toInt ≤ 1281 := hok.1 2 4
  have h_189 : (0 : Int) ≤ (t_178.1 2 6).toInt ∧ (t_178.1 2 6).toInt ≤ 1281 := hok.1 2 6
  have h_190 : (0 : Int) ≤ (t_178.1 2 7).toInt ∧ (t_178.1 2 7).toInt ≤ 1280 := hok.1 2 7
  replace p_181 : (t_178.1 2 4).toInt = (t.1 2 6).toInt := p_181
  refine lv_iconst (v := 0) C.1 C.2.1 dX7_printLines_12 (by decide) ?_
  refine lv_istore_n (lv' := [(2, .int 0), (0, .ref (ad 6)), (1, .ref (ad 2))]) C.1 C.2.1 dX7_printLines_13 rfl hl (by decide) rfl (fun ls hl => ?_)
  have hl : lv_has ls 5 [(0, .ref (ad 6)), (1, .ref (ad 2)), (2, .int 0)] := lv_sub hl [1, 2, 0] rfl
  refine lv_iconst (v := 0) C.1 C.2.1 dX7_printLines_14 (by decide) ?_
  refine lv_istore_n (lv' := [(3, .int 0), (0, .ref (ad 6)), (1, .ref (ad 2)), (2, .int 0)]) C.1 C.2.1 dX7_printLines_15 rfl hl (by decide) rfl (fun ls hl => ?_)
  have hl : lv_has ls 5 [(0, .ref (ad 6)), (1, .ref (ad 2)), (2, .int 0), (3, .int 0)] := lv_sub hl [1, 2, 3, 0] rfl
  exact L_16 1400 t_178 d 0 0 _ _ _ hok hfr hod hle hdf ⟨by decide, by decide⟩ (show 0 ≤ (t_178.1 2 4).toInt from by omega) (show (1282 - (t_178.1 2 4).toInt) < ((1400 : Nat) : Int) from by omega) hP hD hS (lv_sub hl [0, 1, 2, 3] rfl)
