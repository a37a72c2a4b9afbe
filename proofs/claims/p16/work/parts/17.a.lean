theorem dX6_hasCard_0 : decode cX6_hasCard 0 = .ok (.aload_n 0, 1) := by decide +kernel
theorem dX6_hasCard_1 : decode cX6_hasCard 1 = .ok (.getfield 18, 3) := by decide +kernel
theorem dX6_hasCard_11 : decode cX6_hasCard 11 = .ok (.ifnull 36, 3) := by decide +kernel
theorem dX6_hasCard_14 : decode cX6_hasCard 14 = .ok (.aload_n 0, 1) := by decide +kernel
theorem dX6_hasCard_15 : decode cX6_hasCard 15 = .ok (.getfield 11, 3) := by decide +kernel
theorem dX6_hasCard_18 : decode cX6_hasCard 18 = .ok (.aload_n 0, 1) := by decide +kernel
theorem dX6_hasCard_19 : decode cX6_hasCard 19 = .ok (.getfield 15, 3) := by decide +kernel
theorem dX6_hasCard_22 : decode cX6_hasCard 22 = .ok (.if_icmp .ge 25, 3) := by decide +kernel
theorem dX6_hasCard_25 : decode cX6_hasCard 25 = .ok (.iload_n 1, 1) := by decide +kernel
theorem dX6_hasCard_26 : decode cX6_hasCard 26 = .ok (.ifCond .eq 17, 3) := by decide +kernel
theorem dX6_hasCard_29 : decode cX6_hasCard 29 = .ok (.aload_n 0, 1) := by decide +kernel
theorem dX6_hasCard_30 : decode cX6_hasCard 30 = .ok (.getfield 21, 3) := by decide +kernel
theorem dX6_hasCard_33 : decode cX6_hasCard 33 = .ok (.aload_n 0, 1) := by decide +kernel
theorem dX6_hasCard_34 : decode cX6_hasCard 34 = .ok (.getfield 11, 3) := by decide +kernel
theorem dX6_hasCard_37 : decode cX6_hasCard 37 = .ok (.baload, 1) := by decide +kernel
theorem dX6_hasCard_38 : decode cX6_hasCard 38 = .ok (.bipush 42, 2) := by decide +kernel
theorem dX6_hasCard_4 : decode cX6_hasCard 4 = .ok (.ifCond .le 43, 3) := by decide +kernel
theorem dX6_hasCard_40 : decode cX6_hasCard 40 = .ok (.if_icmp .eq 7, 3) := by decide +kernel
theorem dX6_hasCard_43 : decode cX6_hasCard 43 = .ok (.iconst 1, 1) := by decide +kernel
theorem dX6_hasCard_44 : decode cX6_hasCard 44 = .ok (.goto 4, 3) := by decide +kernel
theorem dX6_hasCard_47 : decode cX6_hasCard 47 = .ok (.iconst 0, 1) := by decide +kernel
theorem dX6_hasCard_48 : decode cX6_hasCard 48 = .ok (.ireturn, 1) := by decide +kernel
theorem dX6_hasCard_7 : decode cX6_hasCard 7 = .ok (.aload_n 0, 1) := by decide +kernel
theorem dX6_hasCard_8 : decode cX6_hasCard 8 = .ok (.getfield 21, 3) := by decide +kernel
set_option maxHeartbeats 4000000 in
set_option maxRecDepth 100000 in
theorem T_X6_hasCard (l : Launch) (D : va_G) (K : Nat → ClassId) (Z Y : Nat → Nat) (ad : Nat → Nat) (d : dSt) (t : tSt) (hok : okX t) (hod : okD d) (x1 : Int32) (hx1 : (0 : Int) ≤ x1.toInt ∧ x1.toInt ≤ 1) : tMet l yX6_hasCard cX6_hasCard 2 (some .boolean) (rmD 0 0 0) D K Z Y [.ref (ad 18), .int x1] ((WX d) K ad t) (QI D K (fun (r : Int32) (u : Unit) => (0 : Int) ≤ r.toInt ∧ r.toInt ≤ 1 ∧ (r.toInt = 1 → ∃ a, d.1 916 = some a) ∧ (r.toInt = 1 → (t.1 18 1).toInt < (t.1 18 2).toInt)) (fun (_ : Unit) => (WX d) K ad t)) 0 0 := by
  refine t_met RX6 ⟨rfl, by decide +kernel⟩ (Nat.le_of_ble_eq_true rfl) ?_
  intro p e s m below meth c A ls C hE hZ hr hlocks hA hP hD hS hl
  have hl : lv_has ls 2 [(0, .ref (ad 18)), (1, .int x1)] := hl
  have h_1 : (0 : Int) ≤ (t.1 18 1).toInt ∧ (t.1 18 1).toInt ≤ 2701 := hok.1 18 1
  have h_2 : (0 : Int) ≤ (t.1 18 2).toInt ∧ (t.1 18 2).toInt ≤ 2700 := hok.1 18 2
  refine lv_aload_n C.1 C.2.1 dX6_hasCard_0 rfl (lv_at hl 0 rfl) ?_
  refine k_get (v := .int (t.1 18 3)) C hP 18 rfl rfl inlX6 3 (by decide) m_44_7 rfl dX6_hasCard_1 ?_
  refine lv_if_le (tgt := 47) C.1 C.2.1 dX6_hasCard_4 (by decide) (fun c_3 => ?_) (fun c_3 => ?_)
  · replace c_3 : (t.1 18 3).toInt ≤ 0 := i_le c_3
    refine lv_iconst (v := 0) C.1 C.2.1 dX6_hasCard_47 (by decide) ?_
    exact g_iret C hr hlocks hP hD hS (by decide) () rfl ⟨by decide, by decide, (show 0 = 1 → ∃ a, d.1 916 = some a from by intro hz; first | (exact absurd hz (by decide)) | (exact ⟨_, trivial⟩)), (show 0 = 1 → (t.1 18 1).toInt < (t.1 18 2).toInt from by omega)⟩ (Nat.le_of_ble_eq_true rfl) (Nat.le_of_ble_eq_true rfl) dX6_hasCard_48
  · replace c_3 : 0 < (t.1 18 3).toInt := i_nle c_3
    refine lv_aload_n C.1 C.2.1 dX6_hasCard_7 rfl (lv_at hl 0 rfl) ?_
    refine k_get (v := va_rf (d.1 916)) C hP 18 rfl rfl inlX6 0 (by decide) m_44_0 rfl dX6_hasCard_8 ?_
    rcases opt_or (d.1 916) with hd_4 | ⟨a_5, hd_4⟩
    · refine n_ifnullN (tgt := 47) C.1 C.2.1 hd_4 dX6_hasCard_11 (by decide) ?_
      refine lv_iconst (v := 0) C.1 C.2.1 dX6_hasCard_47 (by decide) ?_
      exact g_iret C hr hlocks hP hD hS (by decide) () rfl ⟨by decide, by decide, (show 0 = 1 → ∃ a, d.1 916 = some a from by intro hz; first | (exact absurd hz (by decide)) | (exact ⟨_, trivial⟩)), (show 0 = 1 → (t.1 18 1).toInt < (t.1 18 2).toInt from by omega)⟩ (Nat.le_of_ble_eq_true rfl) (Nat.le_of_ble_eq_true rfl) dX6_hasCard_48
    · refine n_ifnullS C.1 C.2.1 hd_4 dX6_hasCard_11 ?_
      refine lv_aload_n C.1 C.2.1 dX6_hasCard_14 rfl (lv_at hl 0 rfl) ?_
      refine k_get (v := .int (t.1 18 1)) C hP 18 rfl rfl inlX6 1 (by decide) m_44_3 rfl dX6_hasCard_15 ?_
      refine lv_aload_n C.1 C.2.1 dX6_hasCard_18 rfl (lv_at hl 0 rfl) ?_
      refine k_get (v := .int (t.1 18 2)) C hP 18 rfl rfl inlX6 2 (by decide) m_44_1 rfl dX6_hasCard_19 ?_
      refine lv_icmp_ge (tgt := 47) C.1 C.2.1 dX6_hasCard_22 (by decide) (fun c_6 => ?_) (fun c_6 => ?_)
      · replace c_6 : (t.1 18 2).toInt ≤ (t.1 18 1).toInt := i_le c_6
        refine lv_iconst (v := 0) C.1 C.2.1 dX6_hasCard_47 (by decide) ?_
        exact g_iret C hr hlocks hP hD hS (by decide) () rfl ⟨by decide, by decide, (show 0 = 1 → ∃ a, d.1 916 = some a from by intro hz; first | (exact absurd hz (by decide)) | (exact ⟨_, hd_4⟩)), (show 0 = 1 → (t.1 18 1).toInt < (t.1 18 2).toInt from by omega)⟩ (Nat.le_of_ble_eq_true rfl) (Nat.le_of_ble_eq_true rfl) dX6_hasCard_48
      · replace c_6 : (t.1 18 1).toInt < (t.1 18 2).toInt := i_nle c_6
        refine lv_iload_n C.1 C.2.1 dX6_hasCard_25 rfl (lv_at hl 1 rfl) ?_
        refine lv_if_eq (tgt := 43) C.1 C.2.1 dX6_hasCard_26 (by decide) (fun c_7 => ?_) (fun c_7 => ?_)
        · replace c_7 : x1.toInt = 0 := i_eq c_7
          refine lv_iconst (v := 1) C.1 C.2.1 dX6_hasCard_43 (by decide) ?_
          refine lv_goto (tgt := 48) C.1 C.2.1 dX6_hasCard_44 (by decide) ?_
          exact g_iret C hr hlocks hP hD hS (by decide) () rfl ⟨by decide, by decide, (show 1 = 1 → ∃ a, d.1 916 = some a from by intro hz; first | (exact absurd hz (by decide)) | (exact ⟨_, hd_4⟩)), (show 1 = 1 → (t.1 18 1).toInt < (t.1 18 2).toInt from by omega)⟩ (Nat.le_of_ble_eq_true rfl) (Nat.le_of_ble_eq_true rfl) dX6_hasCard_48
        · replace c_7 : ¬ x1.toInt = 0 := i_ne c_7
          refine lv_aload_n C.1 C.2.1 dX6_hasCard_29 rfl (lv_at hl 0 rfl) ?_
          refine k_get (v := .ref a_5) C hP 18 rfl rfl inlX6 0 (by decide) m_44_0 (rf_eq hd_4) dX6_hasCard_30 ?_
          refine lv_aload_n C.1 C.2.1 dX6_hasCard_33 rfl (lv_at hl 0 rfl) ?_
          refine k_get (v := .int (t.1 18 1)) C hP 18 rfl rfl inlX6 1 (by decide) m_44_3 rfl dX6_hasCard_34 ?_
          obtain ⟨q_8, hq_9, hs_10⟩ := WX_at916 (K := K) (ad := ad) (t := t) (d := d) hd_4
          obtain ⟨v_11, e_12⟩ : ∃ z, z = d.2 916 ((t.1 18 1) : Int32).toNatClampNeg := ⟨_, rfl⟩
          have h_13 : (-128 : Int) ≤ v_11.toInt ∧ v_11.toInt ≤ 127 := by rw [e_12]; exact hod _
          refine k_bld (v := v_11) C hP q_8 hq_9 (vp_in_iff.mpr ⟨by omega, by omega⟩) e_12.symm dX6_hasCard_37 ?_
          refine lv_bipush (v := 42) C.1 C.2.1 dX6_hasCard_38 (by decide) ?_
          refine lv_icmp_eq (tgt := 47) C.1 C.2.1 dX6_hasCard_40 (by decide) (fun c_14 => ?_) (fun c_14 => ?_)
          · replace c_14 : v_11.toInt = 42 := i_eq c_14
            refine lv_iconst (v := 0) C.1 C.2.1 dX6_hasCard_47 (by decide) ?_
            exact g_iret C hr hlocks hP hD hS (by decide) () rfl ⟨by decide, by decide, (show 0 = 1 → ∃ a, d.1 916 = some a from by intro hz; first | (exact absurd hz (by decide)) | (exact ⟨_, hd_4⟩)), (show 0 = 1 → (t.1 18 1).toInt < (t.1 18 2).toInt from by omega)⟩ (Nat.le_of_ble_eq_true rfl) (Nat.le_of_ble_eq_true rfl) dX6_hasCard_48
          · replace c_14 : ¬ v_11.toInt = 42 := i_ne c_14
            refine lv_iconst (v := 1) C.1 C.2.1 dX6_hasCard_43 (by decide) ?_
            refine lv_goto (tgt := 48) C.1 C.2.1 dX6_hasCard_44 (by decide) ?_
            exact g_iret C hr hlocks hP hD hS (by decide) () rfl ⟨by decide, by decide, (show 1 = 1 → ∃ a, d.1 916 = some a from by intro hz; first | (exact absurd hz (by decide)) | (exact ⟨_, hd_4⟩)), (show 1 = 1 → (t.1 18 1).toInt < (t.1 18 2).toInt from by omega)⟩ (Nat.le_of_ble_eq_true rfl) (Nat.le_of_ble_eq_true rfl) dX6_hasCard_48

theorem dX10_stored_0 : decode cX10_stored 0 = .ok (.iload_n 1, 1) := by decide +kernel
theorem dX10_stored_1 : decode cX10_stored 1 = .ok (.ifCond .lt 33, 3) := by decide +kernel
theorem dX10_stored_10 : decode cX10_stored 10 = .ok (.iload_n 2, 1) := by decide +kernel
theorem dX10_stored_11 : decode cX10_stored 11 = .ok (.ifCond .lt 23, 3) := by decide +kernel
theorem dX10_stored_14 : decode cX10_stored 14 = .ok (.iload_n 2, 1) := by decide +kernel
theorem dX10_stored_15 : decode cX10_stored 15 = .ok (.sipush 6400, 3) := by decide +kernel
theorem dX10_stored_18 : decode cX10_stored 18 = .ok (.if_icmp .ge 16, 3) := by decide +kernel
theorem dX10_stored_21 : decode cX10_stored 21 = .ok (.aload_n 0, 1) := by decide +kernel
theorem dX10_stored_22 : decode cX10_stored 22 = .ok (.getfield 11, 3) := by decide +kernel
theorem dX10_stored_25 : decode cX10_stored 25 = .ok (.iload_n 1, 1) := by decide +kernel
theorem dX10_stored_26 : decode cX10_stored 26 = .ok (.aaload, 1) := by decide +kernel
theorem dX10_stored_27 : decode cX10_stored 27 = .ok (.ifnull 7, 3) := by decide +kernel
theorem dX10_stored_30 : decode cX10_stored 30 = .ok (.iconst 1, 1) := by decide +kernel
theorem dX10_stored_31 : decode cX10_stored 31 = .ok (.goto 4, 3) := by decide +kernel
theorem dX10_stored_34 : decode cX10_stored 34 = .ok (.iconst 0, 1) := by decide +kernel
theorem dX10_stored_35 : decode cX10_stored 35 = .ok (.istore_n 3, 1) := by decide +kernel
theorem dX10_stored_36 : decode cX10_stored 36 = .ok (.iload_n 3, 1) := by decide +kernel
theorem dX10_stored_37 : decode cX10_stored 37 = .ok (.ifCond .eq 14, 3) := by decide +kernel
theorem dX10_stored_4 : decode cX10_stored 4 = .ok (.iload_n 1, 1) := by decide +kernel
theorem dX10_stored_40 : decode cX10_stored 40 = .ok (.aload_n 0, 1) := by decide +kernel
theorem dX10_stored_41 : decode cX10_stored 41 = .ok (.getfield 11, 3) := by decide +kernel
theorem dX10_stored_44 : decode cX10_stored 44 = .ok (.iload_n 1, 1) := by decide +kernel
theorem dX10_stored_45 : decode cX10_stored 45 = .ok (.aaload, 1) := by decide +kernel
theorem dX10_stored_46 : decode cX10_stored 46 = .ok (.iload_n 2, 1) := by decide +kernel
theorem dX10_stored_47 : decode cX10_stored 47 = .ok (.iaload, 1) := by decide +kernel
theorem dX10_stored_48 : decode cX10_stored 48 = .ok (.goto 4, 3) := by decide +kernel
theorem dX10_stored_5 : decode cX10_stored 5 = .ok (.bipush 16, 2) := by decide +kernel
theorem dX10_stored_51 : decode cX10_stored 51 = .ok (.iconst 0, 1) := by decide +kernel
theorem dX10_stored_52 : decode cX10_stored 52 = .ok (.ireturn, 1) := by decide +kernel
theorem dX10_stored_7 : decode cX10_stored 7 = .ok (.if_icmp .ge 27, 3) := by decide +kernel
set_option maxHeartbeats 4000000 in
set_option maxRecDepth 100000 in
theorem T_X10_stored (l : Launch) (D : va_G) (K : Nat → ClassId) (Z Y : Nat → Nat) (ad : Nat → Nat) (d : dSt) (t : tSt) (hok : okX t) (hod : okD d) (x1 : Int32) (x2 : Int32) : tMet l yX10_stored cX10_stored 4 (some .int) (rmD 0 0 0) D K Z Y [.ref (ad 3), .int x1, .int x2] ((WX d) K ad t) (QI D K (fun (r : Int32) (u : Unit) => (-2147483648 : Int) ≤ r.toInt ∧ r.toInt ≤ 2147483647) (fun (_ : Unit) => (WX d) K ad t)) 0 0 := by
  refine t_met RX10 ⟨rfl, by decide +kernel⟩ (Nat.le_of_ble_eq_true rfl) ?_
  intro p e s m below meth c A ls C hE hZ hr hlocks hA hP hD hS hl
  have hl : lv_has ls 4 [(0, .ref (ad 3)), (1, .int x1), (2, .int x2)] := hl
  refine lv_iload_n C.1 C.2.1 dX10_stored_0 rfl (lv_at hl 1 rfl) ?_
  refine lv_if_lt (tgt := 34) C.1 C.2.1 dX10_stored_1 (by decide) (fun c_1 => ?_) (fun c_1 => ?_)
  · replace c_1 : x1.toInt < 0 := i_lt c_1
    refine lv_iconst (v := 0) C.1 C.2.1 dX10_stored_34 (by decide) ?_
    refine lv_istore_n (lv' := [(3, .int 0), (0, .ref (ad 3)), (1, .int x1), (2, .int x2)]) C.1 C.2.1 dX10_stored_35 rfl hl (by decide) rfl (fun ls hl => ?_)
    have hl : lv_has ls 4 [(0, .ref (ad 3)), (1, .int x1), (2, .int x2), (3, .int 0)] := lv_sub hl [1, 2, 3, 0] rfl
    refine lv_iload_n C.1 C.2.1 dX10_stored_36 rfl (lv_at hl 3 rfl) ?_
    refine lv_if_eq (tgt := 51) C.1 C.2.1 dX10_stored_37 (by decide) (fun _ => ?_) (fun h => absurd (by decide) h)
    refine lv_iconst (v := 0) C.1 C.2.1 dX10_stored_51 (by decide) ?_
    exact g_iret C hr hlocks hP hD hS rfl () rfl ⟨(i_rng _).1, (i_rng _).2⟩ (Nat.le_of_ble_eq_true rfl) (Nat.le_of_ble_eq_true rfl) dX10_stored_52
  · replace c_1 : 0 ≤ x1.toInt := i_nlt c_1
    refine lv_iload_n C.1 C.2.1 dX10_stored_4 rfl (lv_at hl 1 rfl) ?_
    refine lv_bipush (v := 16) C.1 C.2.1 dX10_stored_5 (by decide) ?_
    refine lv_icmp_ge (tgt := 34) C.1 C.2.1 dX10_stored_7 (by decide) (fun c_2 => ?_) (fun c_2 => ?_)
    · replace c_2 : 16 ≤ x1.toInt := i_le c_2
      refine lv_iconst (v := 0) C.1 C.2.1 dX10_stored_34 (by decide) ?_
      refine lv_istore_n (lv' := [(3, .int 0), (0, .ref (ad 3)), (1, .int x1), (2, .int x2)]) C.1 C.2.1 dX10_stored_35 rfl hl (by decide) rfl (fun ls hl => ?_)
      have hl : lv_has ls 4 [(0, .ref (ad 3)), (1, .int x1), (2, .int x2), (3, .int 0)] := lv_sub hl [1, 2, 3, 0] rfl
      refine lv_iload_n C.1 C.2.1 dX10_stored_36 rfl (lv_at hl 3 rfl) ?_
      refine lv_if_eq (tgt := 51) C.1 C.2.1 dX10_stored_37 (by decide) (fun _ => ?_) (fun h => absurd (by decide) h)
      refine lv_iconst (v := 0) C.1 C.2.1 dX10_stored_51 (by decide) ?_
      exact g_iret C hr hlocks hP hD hS rfl () rfl ⟨(i_rng _).1, (i_rng _).2⟩ (Nat.le_of_ble_eq_true rfl) (Nat.le_of_ble_eq_true rfl) dX10_stored_52
    · replace c_2 : x1.toInt < 16 := i_nle c_2
      refine lv_iload_n C.1 C.2.1 dX10_stored_10 rfl (lv_at hl 2 rfl) ?_
      refine lv_if_lt (tgt := 34) C.1 C.2.1 dX10_stored_11 (by decide) (fun c_3 => ?_) (fun c_3 => ?_)
      · replace c_3 : x2.toInt < 0 := i_lt c_3
        refine lv_iconst (v := 0) C.1 C.2.1 dX10_stored_34 (by decide) ?_
        refine lv_istore_n (lv' := [(3, .int 0), (0, .ref (ad 3)), (1, .int x1), (2, .int x2)]) C.1 C.2.1 dX10_stored_35 rfl hl (by decide) rfl (fun ls hl => ?_)
        have hl : lv_has ls 4 [(0, .ref (ad 3)), (1, .int x1), (2, .int x2), (3, .int 0)] := lv_sub hl [1, 2, 3, 0] rfl
        refine lv_iload_n C.1 C.2.1 dX10_stored_36 rfl (lv_at hl 3 rfl) ?_
        refine lv_if_eq (tgt := 51) C.1 C.2.1 dX10_stored_37 (by decide) (fun _ => ?_) (fun h => absurd (by decide) h)
        refine lv_iconst (v := 0) C.1 C.2.1 dX10_stored_51 (by decide) ?_
        exact g_iret C hr hlocks hP hD hS rfl () rfl ⟨(i_rng _).1, (i_rng _).2⟩ (Nat.le_of_ble_eq_true rfl) (Nat.le_of_ble_eq_true rfl) dX10_stored_52
      · replace c_3 : 0 ≤ x2.toInt := i_nlt c_3
        refine lv_iload_n C.1 C.2.1 dX10_stored_14 rfl (lv_at hl 2 rfl) ?_
        refine lv_sipush (v := 6400) C.1 C.2.1 dX10_stored_15 (by decide) ?_
        refine lv_icmp_ge (tgt := 34) C.1 C.2.1 dX10_stored_18 (by decide) (fun c_4 => ?_) (fun c_4 => ?_)
        · replace c_4 : 6400 ≤ x2.toInt := i_le c_4
          refine lv_iconst (v := 0) C.1 C.2.1 dX10_stored_34 (by decide) ?_
          refine lv_istore_n (lv' := [(3, .int 0), (0, .ref (ad 3)), (1, .int x1), (2, .int x2)]) C.1 C.2.1 dX10_stored_35 rfl hl (by decide) rfl (fun ls hl => ?_)
          have hl : lv_has ls 4 [(0, .ref (ad 3)), (1, .int x1), (2, .int x2), (3, .int 0)] := lv_sub hl [1, 2, 3, 0] rfl
          refine lv_iload_n C.1 C.2.1 dX10_stored_36 rfl (lv_at hl 3 rfl) ?_
          refine lv_if_eq (tgt := 51) C.1 C.2.1 dX10_stored_37 (by decide) (fun _ => ?_) (fun h => absurd (by decide) h)
          refine lv_iconst (v := 0) C.1 C.2.1 dX10_stored_51 (by decide) ?_
          exact g_iret C hr hlocks hP hD hS rfl () rfl ⟨(i_rng _).1, (i_rng _).2⟩ (Nat.le_of_ble_eq_true rfl) (Nat.le_of_ble_eq_true rfl) dX10_stored_52
        · replace c_4 : x2.toInt < 6400 := i_nle c_4
          refine lv_aload_n C.1 C.2.1 dX10_stored_21 rfl (lv_at hl 0 rfl) ?_
          refine k_get (v := .ref (ad 11)) C hP 3 rfl rfl inlX10 1 (by decide) m_3_6 rfl dX10_stored_22 ?_
          refine lv_iload_n C.1 C.2.1 dX10_stored_25 rfl (lv_at hl 1 rfl) ?_
          have hn_5 : vp_in (x1 : Int32) 16 := vp_in_iff.mpr ⟨by omega, by omega⟩
          refine k_ald (w := va_rf (d.1 (900 + (x1 : Int32).toNatClampNeg))) C hP 11 5 rfl rfl hn_5 (rf_n hn_5) dX10_stored_26 ?_
          rcases opt_or (d.1 (900 + (x1 : Int32).toNatClampNeg)) with hd_6 | ⟨a_7, hd_6⟩
          · refine n_ifnullN (tgt := 34) C.1 C.2.1 hd_6 dX10_stored_27 (by decide) ?_
            refine lv_iconst (v := 0) C.1 C.2.1 dX10_stored_34 (by decide) ?_
            refine lv_istore_n (lv' := [(3, .int 0), (0, .ref (ad 3)), (1, .int x1), (2, .int x2)]) C.1 C.2.1 dX10_stored_35 rfl hl (by decide) rfl (fun ls hl => ?_)
            have hl : lv_has ls 4 [(0, .ref (ad 3)), (1, .int x1), (2, .int x2), (3, .int 0)] := lv_sub hl [1, 2, 3, 0] rfl
            refine lv_iload_n C.1 C.2.1 dX10_stored_36 rfl (lv_at hl 3 rfl) ?_
            refine lv_if_eq (tgt := 51) C.1 C.2.1 dX10_stored_37 (by decide) (fun _ => ?_) (fun h => absurd (by decide) h)
            refine lv_iconst (v := 0) C.1 C.2.1 dX10_stored_51 (by decide) ?_
            exact g_iret C hr hlocks hP hD hS rfl () rfl ⟨(i_rng _).1, (i_rng _).2⟩ (Nat.le_of_ble_eq_true rfl) (Nat.le_of_ble_eq_true rfl) dX10_stored_52
          · refine n_ifnullS C.1 C.2.1 hd_6 dX10_stored_27 ?_
            refine lv_iconst (v := 1) C.1 C.2.1 dX10_stored_30 (by decide) ?_
            refine lv_goto (tgt := 35) C.1 C.2.1 dX10_stored_31 (by decide) ?_
            refine lv_istore_n (lv' := [(3, .int 1), (0, .ref (ad 3)), (1, .int x1), (2, .int x2)]) C.1 C.2.1 dX10_stored_35 rfl hl (by decide) rfl (fun ls hl => ?_)
            have hl : lv_has ls 4 [(0, .ref (ad 3)), (1, .int x1), (2, .int x2), (3, .int 1)] := lv_sub hl [1, 2, 3, 0] rfl
            refine lv_iload_n C.1 C.2.1 dX10_stored_36 rfl (lv_at hl 3 rfl) ?_
            refine lv_if_eq (tgt := 51) C.1 C.2.1 dX10_stored_37 (by decide) (fun h => absurd h (by decide)) (fun _ => ?_)
            refine lv_aload_n C.1 C.2.1 dX10_stored_40 rfl (lv_at hl 0 rfl) ?_
            refine k_get (v := .ref (ad 11)) C hP 3 rfl rfl inlX10 1 (by decide) m_3_6 rfl dX10_stored_41 ?_
            refine lv_iload_n C.1 C.2.1 dX10_stored_44 rfl (lv_at hl 1 rfl) ?_
            have hn_8 : vp_in (x1 : Int32) 16 := vp_in_iff.mpr ⟨by omega, by omega⟩
            refine k_ald (w := .ref a_7) C hP 11 5 rfl rfl hn_8 (rf_at hn_8 hd_6) dX10_stored_45 ?_
            refine lv_iload_n C.1 C.2.1 dX10_stored_46 rfl (lv_at hl 2 rfl) ?_
            obtain ⟨q_9, hq_10, hs_11⟩ := WX_at900 (K := K) (ad := ad) (t := t) (d := d) (vin_lt hn_5) hd_6
            obtain ⟨v_12, e_13⟩ : ∃ z, z = d.2 (900 + (x1 : Int32).toNatClampNeg) (x2 : Int32).toNatClampNeg := ⟨_, rfl⟩
            refine k_ild (v := v_12) C hP q_9 hq_10 (vp_in_iff.mpr ⟨by omega, by omega⟩) e_13.symm dX10_stored_47 ?_
            refine lv_goto (tgt := 52) C.1 C.2.1 dX10_stored_48 (by decide) ?_
            exact g_iret C hr hlocks hP hD hS rfl () rfl ⟨(i_rng _).1, (i_rng _).2⟩ (Nat.le_of_ble_eq_true rfl) (Nat.le_of_ble_eq_true rfl) dX10_stored_52

theorem dX4_letterAt_0 : decode cX4_letterAt 0 = .ok (.iload_n 1, 1) := by decide +kernel
theorem dX4_letterAt_1 : decode cX4_letterAt 1 = .ok (.ifCond .lt 34, 3) := by decide +kernel
theorem dX4_letterAt_12 : decode cX4_letterAt 12 = .ok (.iload_n 2, 1) := by decide +kernel
theorem dX4_letterAt_13 : decode cX4_letterAt 13 = .ok (.ifCond .lt 22, 3) := by decide +kernel
theorem dX4_letterAt_16 : decode cX4_letterAt 16 = .ok (.iload_n 2, 1) := by decide +kernel
theorem dX4_letterAt_17 : decode cX4_letterAt 17 = .ok (.aload_n 0, 1) := by decide +kernel
theorem dX4_letterAt_18 : decode cX4_letterAt 18 = .ok (.getfield 17, 3) := by decide +kernel
theorem dX4_letterAt_21 : decode cX4_letterAt 21 = .ok (.iload_n 1, 1) := by decide +kernel
theorem dX4_letterAt_22 : decode cX4_letterAt 22 = .ok (.iaload, 1) := by decide +kernel
theorem dX4_letterAt_23 : decode cX4_letterAt 23 = .ok (.if_icmp .ge 12, 3) := by decide +kernel
theorem dX4_letterAt_26 : decode cX4_letterAt 26 = .ok (.aload_n 0, 1) := by decide +kernel
theorem dX4_letterAt_27 : decode cX4_letterAt 27 = .ok (.getfield 13, 3) := by decide +kernel
theorem dX4_letterAt_30 : decode cX4_letterAt 30 = .ok (.iload_n 1, 1) := by decide +kernel
theorem dX4_letterAt_31 : decode cX4_letterAt 31 = .ok (.aaload, 1) := by decide +kernel
theorem dX4_letterAt_32 : decode cX4_letterAt 32 = .ok (.ifnonnull 5, 3) := by decide +kernel
theorem dX4_letterAt_35 : decode cX4_letterAt 35 = .ok (.iconst (-1), 1) := by decide +kernel
theorem dX4_letterAt_36 : decode cX4_letterAt 36 = .ok (.ireturn, 1) := by decide +kernel
theorem dX4_letterAt_37 : decode cX4_letterAt 37 = .ok (.aload_n 0, 1) := by decide +kernel
theorem dX4_letterAt_38 : decode cX4_letterAt 38 = .ok (.getfield 13, 3) := by decide +kernel
theorem dX4_letterAt_4 : decode cX4_letterAt 4 = .ok (.iload_n 1, 1) := by decide +kernel
theorem dX4_letterAt_41 : decode cX4_letterAt 41 = .ok (.iload_n 1, 1) := by decide +kernel
theorem dX4_letterAt_42 : decode cX4_letterAt 42 = .ok (.aaload, 1) := by decide +kernel
theorem dX4_letterAt_43 : decode cX4_letterAt 43 = .ok (.iload_n 2, 1) := by decide +kernel
theorem dX4_letterAt_44 : decode cX4_letterAt 44 = .ok (.baload, 1) := by decide +kernel
theorem dX4_letterAt_45 : decode cX4_letterAt 45 = .ok (.sipush 255, 3) := by decide +kernel
theorem dX4_letterAt_48 : decode cX4_letterAt 48 = .ok (.iand, 1) := by decide +kernel
theorem dX4_letterAt_49 : decode cX4_letterAt 49 = .ok (.ireturn, 1) := by decide +kernel
theorem dX4_letterAt_5 : decode cX4_letterAt 5 = .ok (.aload_n 0, 1) := by decide +kernel
theorem dX4_letterAt_6 : decode cX4_letterAt 6 = .ok (.getfield 64, 3) := by decide +kernel
theorem dX4_letterAt_9 : decode cX4_letterAt 9 = .ok (.if_icmp .ge 26, 3) := by decide +kernel
set_option maxHeartbeats 4000000 in
set_option maxRecDepth 100000 in
theorem T_X4_letterAt (l : Launch) (D : va_G) (K : Nat → ClassId) (Z Y : Nat → Nat) (ad : Nat → Nat) (d : dSt) (t : tSt) (hok : okX t) (hod : okD d) (x1 : Int32) (x2 : Int32) : tMet l yX4_letterAt cX4_letterAt 3 (some .int) (rmD 0 0 0) D K Z Y [.ref (ad 19), .int x1, .int x2] ((WX d) K ad t) (QI D K (fun (r : Int32) (u : Unit) => (-1 : Int) ≤ r.toInt ∧ r.toInt ≤ 255) (fun (_ : Unit) => (WX d) K ad t)) 0 0 := by
  refine t_met RX4 ⟨rfl, by decide +kernel⟩ (Nat.le_of_ble_eq_true rfl) ?_
  intro p e s m below meth c A ls C hE hZ hr hlocks hA hP hD hS hl
  have hl : lv_has ls 3 [(0, .ref (ad 19)), (1, .int x1), (2, .int x2)] := hl
  refine lv_iload_n C.1 C.2.1 dX4_letterAt_0 rfl (lv_at hl 1 rfl) ?_
  refine lv_if_lt (tgt := 35) C.1 C.2.1 dX4_letterAt_1 (by decide) (fun c_1 => ?_) (fun c_1 => ?_)
  · replace c_1 : x1.toInt < 0 := i_lt c_1
    refine lv_iconst (v := (-1)) C.1 C.2.1 dX4_letterAt_35 (by decide) ?_
    exact g_iret C hr hlocks hP hD hS rfl () rfl ⟨by decide, by decide⟩ (Nat.le_of_ble_eq_true rfl) (Nat.le_of_ble_eq_true rfl) dX4_letterAt_36
  · replace c_1 : 0 ≤ x1.toInt := i_nlt c_1
    refine lv_iload_n C.1 C.2.1 dX4_letterAt_4 rfl (lv_at hl 1 rfl) ?_
    refine lv_aload_n C.1 C.2.1 dX4_letterAt_5 rfl (lv_at hl 0 rfl) ?_
    have h_2 : (0 : Int) ≤ (t.1 19 3).toInt ∧ (t.1 19 3).toInt ≤ 300 := hok.1 19 3
    refine k_get (v := .int (t.1 19 3)) C hP 19 rfl rfl inlX4 3 (by decide) m_41_11 rfl dX4_letterAt_6 ?_
    refine lv_icmp_ge (tgt := 35) C.1 C.2.1 dX4_letterAt_9 (by decide) (fun c_3 => ?_) (fun c_3 => ?_)
    · replace c_3 : (t.1 19 3).toInt ≤ x1.toInt := i_le c_3
      refine lv_iconst (v := (-1)) C.1 C.2.1 dX4_letterAt_35 (by decide) ?_
      exact g_iret C hr hlocks hP hD hS rfl () rfl ⟨by decide, by decide⟩ (Nat.le_of_ble_eq_true rfl) (Nat.le_of_ble_eq_true rfl) dX4_letterAt_36
    · replace c_3 : x1.toInt < (t.1 19 3).toInt := i_nle c_3
      refine lv_iload_n C.1 C.2.1 dX4_letterAt_12 rfl (lv_at hl 2 rfl) ?_
      refine lv_if_lt (tgt := 35) C.1 C.2.1 dX4_letterAt_13 (by decide) (fun c_4 => ?_) (fun c_4 => ?_)
      · replace c_4 : x2.toInt < 0 := i_lt c_4
        refine lv_iconst (v := (-1)) C.1 C.2.1 dX4_letterAt_35 (by decide) ?_
        exact g_iret C hr hlocks hP hD hS rfl () rfl ⟨by decide, by decide⟩ (Nat.le_of_ble_eq_true rfl) (Nat.le_of_ble_eq_true rfl) dX4_letterAt_36
      · replace c_4 : 0 ≤ x2.toInt := i_nlt c_4
        refine lv_iload_n C.1 C.2.1 dX4_letterAt_16 rfl (lv_at hl 2 rfl) ?_
        refine lv_aload_n C.1 C.2.1 dX4_letterAt_17 rfl (lv_at hl 0 rfl) ?_
        refine k_get (v := .ref (ad 33)) C hP 19 rfl rfl inlX4 1 (by decide) m_4_10 rfl dX4_letterAt_18 ?_
        refine lv_iload_n C.1 C.2.1 dX4_letterAt_21 rfl (lv_at hl 1 rfl) ?_
        obtain ⟨v_5, e_6⟩ : ∃ z, z = (t.2.2.1 33 (x1 : Int32).toNatClampNeg) := ⟨_, rfl⟩
        have h_7 : (0 : Int) ≤ v_5.toInt ∧ v_5.toInt ≤ 120 := by rw [e_6]; exact hok.2.1 33 _
        refine k_ild (v := v_5) C hP 33 rfl (vp_in_iff.mpr ⟨by omega, by omega⟩) e_6.symm dX4_letterAt_22 ?_
        refine lv_icmp_ge (tgt := 35) C.1 C.2.1 dX4_letterAt_23 (by decide) (fun c_8 => ?_) (fun c_8 => ?_)
        · replace c_8 : v_5.toInt ≤ x2.toInt := i_le c_8
          refine lv_iconst (v := (-1)) C.1 C.2.1 dX4_letterAt_35 (by decide) ?_
          exact g_iret C hr hlocks hP hD hS rfl () rfl ⟨by decide, by decide⟩ (Nat.le_of_ble_eq_true rfl) (Nat.le_of_ble_eq_true rfl) dX4_letterAt_36
        · replace c_8 : x2.toInt < v_5.toInt := i_nle c_8
          refine lv_aload_n C.1 C.2.1 dX4_letterAt_26 rfl (lv_at hl 0 rfl) ?_
          refine k_get (v := .ref (ad 32)) C hP 19 rfl rfl inlX4 0 (by decide) m_4_9 rfl dX4_letterAt_27 ?_
          refine lv_iload_n C.1 C.2.1 dX4_letterAt_30 rfl (lv_at hl 1 rfl) ?_
          have hn_9 : vp_in (x1 : Int32) 300 := vp_in_iff.mpr ⟨by omega, by omega⟩
          refine k_ald (w := va_rf (d.1 (0 + (x1 : Int32).toNatClampNeg))) C hP 32 4 rfl rfl hn_9 (rf_n hn_9) dX4_letterAt_31 ?_
          rcases opt_or (d.1 (0 + (x1 : Int32).toNatClampNeg)) with hd_10 | ⟨a_11, hd_10⟩
          · refine n_ifnonnullN C.1 C.2.1 hd_10 dX4_letterAt_32 ?_
            refine lv_iconst (v := (-1)) C.1 C.2.1 dX4_letterAt_35 (by decide) ?_
            exact g_iret C hr hlocks hP hD hS rfl () rfl ⟨by decide, by decide⟩ (Nat.le_of_ble_eq_true rfl) (Nat.le_of_ble_eq_true rfl) dX4_letterAt_36
          · refine n_ifnonnullS (tgt := 37) C.1 C.2.1 hd_10 dX4_letterAt_32 (by decide) ?_
            refine lv_aload_n C.1 C.2.1 dX4_letterAt_37 rfl (lv_at hl 0 rfl) ?_
            refine k_get (v := .ref (ad 32)) C hP 19 rfl rfl inlX4 0 (by decide) m_4_9 rfl dX4_letterAt_38 ?_
            refine lv_iload_n C.1 C.2.1 dX4_letterAt_41 rfl (lv_at hl 1 rfl) ?_
            have hn_12 : vp_in (x1 : Int32) 300 := vp_in_iff.mpr ⟨by omega, by omega⟩
            refine k_ald (w := .ref a_11) C hP 32 4 rfl rfl hn_12 (rf_at hn_12 hd_10) dX4_letterAt_42 ?_
            refine lv_iload_n C.1 C.2.1 dX4_letterAt_43 rfl (lv_at hl 2 rfl) ?_
            obtain ⟨q_13, hq_14, hs_15⟩ := WX_at0 (K := K) (ad := ad) (t := t) (d := d) (vin_lt hn_9) hd_10
            obtain ⟨v_16, e_17⟩ : ∃ z, z = d.2 (0 + (x1 : Int32).toNatClampNeg) (x2 : Int32).toNatClampNeg := ⟨_, rfl⟩
            refine k_bld (v := v_16) C hP q_13 hq_14 (vp_in_iff.mpr ⟨by omega, by omega⟩) e_17.symm dX4_letterAt_44 ?_
            refine lv_sipush (v := 255) C.1 C.2.1 dX4_letterAt_45 (by decide) ?_
            obtain ⟨v_18, e_19⟩ : ∃ z, z = (v_16 : Int32) &&& (255 : Int32) := ⟨_, rfl⟩
            have h_20 : v_18.toInt = v_16.toInt % 2 ^ 8 := by rw [e_19]; exact Jvm.Kit.i32_mask _ _ (k := 8) (by decide) (by decide)
            refine k_iand (v := v_18) C e_19.symm dX4_letterAt_48 ?_
            exact g_iret C hr hlocks hP hD hS rfl () rfl ⟨by omega, by omega⟩ (Nat.le_of_ble_eq_true rfl) (Nat.le_of_ble_eq_true rfl) dX4_letterAt_49


set_option maxHeartbeats 4000000 in
set_option maxRecDepth 100000 in
theorem T_X4_letterAt_1 (l : Launch) (D : va_G) (K : Nat → ClassId) (Z Y : Nat → Nat) (ad : Nat → Nat) (d : dSt) (t : tSt) (hok : okX t) (hod : okD d) (x1 : Int32) (x2 : Int32) : tMet l yX4_letterAt cX4_letterAt 3 (some .int) (rmD 0 0 0) D K Z Y [.ref (ad 20), .int x1, .int x2] ((WX d) K ad t) (QI D K (fun (r : Int32) (u : Unit) => (-1 : Int) ≤ r.toInt ∧ r.toInt ≤ 255) (fun (_ : Unit) => (WX d) K ad t)) 0 0 := by
  refine t_met RX4 ⟨rfl, by decide +kernel⟩ (Nat.le_of_ble_eq_true rfl) ?_
  intro p e s m below meth c A ls C hE hZ hr hlocks hA hP hD hS hl
  have hl : lv_has ls 3 [(0, .ref (ad 20)), (1, .int x1), (2, .int x2)] := hl
  refine lv_iload_n C.1 C.2.1 dX4_letterAt_0 rfl (lv_at hl 1 rfl) ?_
  refine lv_if_lt (tgt := 35) C.1 C.2.1 dX4_letterAt_1 (by decide) (fun c_1 => ?_) (fun c_1 => ?_)
  · replace c_1 : x1.toInt < 0 := i_lt c_1
    refine lv_iconst (v := (-1)) C.1 C.2.1 dX4_letterAt_35 (by decide) ?_
    exact g_iret C hr hlocks hP hD hS rfl () rfl ⟨by decide, by decide⟩ (Nat.le_of_ble_eq_true rfl) (Nat.le_of_ble_eq_true rfl) dX4_letterAt_36
  · replace c_1 : 0 ≤ x1.toInt := i_nlt c_1
    refine lv_iload_n C.1 C.2.1 dX4_letterAt_4 rfl (lv_at hl 1 rfl) ?_
    refine lv_aload_n C.1 C.2.1 dX4_letterAt_5 rfl (lv_at hl 0 rfl) ?_
    have h_2 : (0 : Int) ≤ (t.1 20 3).toInt ∧ (t.1 20 3).toInt ≤ 300 := hok.1 20 3
    refine k_get (v := .int (t.1 20 3)) C hP 20 rfl rfl inlX4 3 (by decide) m_41_11 rfl dX4_letterAt_6 ?_
    refine lv_icmp_ge (tgt := 35) C.1 C.2.1 dX4_letterAt_9 (by decide) (fun c_3 => ?_) (fun c_3 => ?_)
    · replace c_3 : (t.1 20 3).toInt ≤ x1.toInt := i_le c_3
      refine lv_iconst (v := (-1)) C.1 C.2.1 dX4_letterAt_35 (by decide) ?_
      exact g_iret C hr hlocks hP hD hS rfl () rfl ⟨by decide, by decide⟩ (Nat.le_of_ble_eq_true rfl) (Nat.le_of_ble_eq_true rfl) dX4_letterAt_36
    · replace c_3 : x1.toInt < (t.1 20 3).toInt := i_nle c_3
      refine lv_iload_n C.1 C.2.1 dX4_letterAt_12 rfl (lv_at hl 2 rfl) ?_
      refine lv_if_lt (tgt := 35) C.1 C.2.1 dX4_letterAt_13 (by decide) (fun c_4 => ?_) (fun c_4 => ?_)
      · replace c_4 : x2.toInt < 0 := i_lt c_4
        refine lv_iconst (v := (-1)) C.1 C.2.1 dX4_letterAt_35 (by decide) ?_
        exact g_iret C hr hlocks hP hD hS rfl () rfl ⟨by decide, by decide⟩ (Nat.le_of_ble_eq_true rfl) (Nat.le_of_ble_eq_true rfl) dX4_letterAt_36
      · replace c_4 : 0 ≤ x2.toInt := i_nlt c_4
        refine lv_iload_n C.1 C.2.1 dX4_letterAt_16 rfl (lv_at hl 2 rfl) ?_
        refine lv_aload_n C.1 C.2.1 dX4_letterAt_17 rfl (lv_at hl 0 rfl) ?_
        refine k_get (v := .ref (ad 36)) C hP 20 rfl rfl inlX4 1 (by decide) m_4_10 rfl dX4_letterAt_18 ?_
        refine lv_iload_n C.1 C.2.1 dX4_letterAt_21 rfl (lv_at hl 1 rfl) ?_
        obtain ⟨v_5, e_6⟩ : ∃ z, z = (t.2.2.1 36 (x1 : Int32).toNatClampNeg) := ⟨_, rfl⟩
        have h_7 : (0 : Int) ≤ v_5.toInt ∧ v_5.toInt ≤ 120 := by rw [e_6]; exact hok.2.1 36 _
        refine k_ild (v := v_5) C hP 36 rfl (vp_in_iff.mpr ⟨by omega, by omega⟩) e_6.symm dX4_letterAt_22 ?_
        refine lv_icmp_ge (tgt := 35) C.1 C.2.1 dX4_letterAt_23 (by decide) (fun c_8 => ?_) (fun c_8 => ?_)
        · replace c_8 : v_5.toInt ≤ x2.toInt := i_le c_8
          refine lv_iconst (v := (-1)) C.1 C.2.1 dX4_letterAt_35 (by decide) ?_
          exact g_iret C hr hlocks hP hD hS rfl () rfl ⟨by decide, by decide⟩ (Nat.le_of_ble_eq_true rfl) (Nat.le_of_ble_eq_true rfl) dX4_letterAt_36
        · replace c_8 : x2.toInt < v_5.toInt := i_nle c_8
          refine lv_aload_n C.1 C.2.1 dX4_letterAt_26 rfl (lv_at hl 0 rfl) ?_
          refine k_get (v := .ref (ad 35)) C hP 20 rfl rfl inlX4 0 (by decide) m_4_9 rfl dX4_letterAt_27 ?_
          refine lv_iload_n C.1 C.2.1 dX4_letterAt_30 rfl (lv_at hl 1 rfl) ?_
          have hn_9 : vp_in (x1 : Int32) 300 := vp_in_iff.mpr ⟨by omega, by omega⟩
          refine k_ald (w := va_rf (d.1 (300 + (x1 : Int32).toNatClampNeg))) C hP 35 4 rfl rfl hn_9 (rf_n hn_9) dX4_letterAt_31 ?_
          rcases opt_or (d.1 (300 + (x1 : Int32).toNatClampNeg)) with hd_10 | ⟨a_11, hd_10⟩
          · refine n_ifnonnullN C.1 C.2.1 hd_10 dX4_letterAt_32 ?_
            refine lv_iconst (v := (-1)) C.1 C.2.1 dX4_letterAt_35 (by decide) ?_
            exact g_iret C hr hlocks hP hD hS rfl () rfl ⟨by decide, by decide⟩ (Nat.le_of_ble_eq_true rfl) (Nat.le_of_ble_eq_true rfl) dX4_letterAt_36
          · refine n_ifnonnullS (tgt := 37) C.1 C.2.1 hd_10 dX4_letterAt_32 (by decide) ?_
            refine lv_aload_n C.1 C.2.1 dX4_letterAt_37 rfl (lv_at hl 0 rfl) ?_
            refine k_get (v := .ref (ad 35)) C hP 20 rfl rfl inlX4 0 (by decide) m_4_9 rfl dX4_letterAt_38 ?_
            refine lv_iload_n C.1 C.2.1 dX4_letterAt_41 rfl (lv_at hl 1 rfl) ?_
            have hn_12 : vp_in (x1 : Int32) 300 := vp_in_iff.mpr ⟨by omega, by omega⟩
            refine k_ald (w := .ref a_11) C hP 35 4 rfl rfl hn_12 (rf_at hn_12 hd_10) dX4_letterAt_42 ?_
            refine lv_iload_n C.1 C.2.1 dX4_letterAt_43 rfl (lv_at hl 2 rfl) ?_
            obtain ⟨q_13, hq_14, hs_15⟩ := WX_at300 (K := K) (ad := ad) (t := t) (d := d) (vin_lt hn_9) hd_10
            obtain ⟨v_16, e_17⟩ : ∃ z, z = d.2 (300 + (x1 : Int32).toNatClampNeg) (x2 : Int32).toNatClampNeg := ⟨_, rfl⟩
            refine k_bld (v := v_16) C hP q_13 hq_14 (vp_in_iff.mpr ⟨by omega, by omega⟩) e_17.symm dX4_letterAt_44 ?_
            refine lv_sipush (v := 255) C.1 C.2.1 dX4_letterAt_45 (by decide) ?_
            obtain ⟨v_18, e_19⟩ : ∃ z, z = (v_16 : Int32) &&& (255 : Int32) := ⟨_, rfl⟩
            have h_20 : v_18.toInt = v_16.toInt % 2 ^ 8 := by rw [e_19]; exact Jvm.Kit.i32_mask _ _ (k := 8) (by decide) (by decide)
            refine k_iand (v := v_18) C e_19.symm dX4_letterAt_48 ?_
            exact g_iret C hr hlocks hP hD hS rfl () rfl ⟨by omega, by omega⟩ (Nat.le_of_ble_eq_true rfl) (Nat.le_of_ble_eq_true rfl) dX4_letterAt_49


set_option maxHeartbeats 4000000 in
set_option maxRecDepth 100000 in
theorem T_X4_letterAt_2 (l : Launch) (D : va_G) (K : Nat → ClassId) (Z Y : Nat → Nat) (ad : Nat → Nat) (d : dSt) (t : tSt) (hok : okX t) (hod : okD d) (x1 : Int32) (x2 : Int32) : tMet l yX4_letterAt cX4_letterAt 3 (some .int) (rmD 0 0 0) D K Z Y [.ref (ad 21), .int x1, .int x2] ((WX d) K ad t) (QI D K (fun (r : Int32) (u : Unit) => (-1 : Int) ≤ r.toInt ∧ r.toInt ≤ 255) (fun (_ : Unit) => (WX d) K ad t)) 0 0 := by
  refine t_met RX4 ⟨rfl, by decide +kernel⟩ (Nat.le_of_ble_eq_true rfl) ?_
  intro p e s m below meth c A ls C hE hZ hr hlocks hA hP hD hS hl
  have hl : lv_has ls 3 [(0, .ref (ad 21)), (1, .int x1), (2, .int x2)] := hl
  refine lv_iload_n C.1 C.2.1 dX4_letterAt_0 rfl (lv_at hl 1 rfl) ?_
  refine lv_if_lt (tgt := 35) C.1 C.2.1 dX4_letterAt_1 (by decide) (fun c_1 => ?_) (fun c_1 => ?_)
  · replace c_1 : x1.toInt < 0 := i_lt c_1
    refine lv_iconst (v := (-1)) C.1 C.2.1 dX4_letterAt_35 (by decide) ?_
    exact g_iret C hr hlocks hP hD hS rfl () rfl ⟨by decide, by decide⟩ (Nat.le_of_ble_eq_true rfl) (Nat.le_of_ble_eq_true rfl) dX4_letterAt_36
  · replace c_1 : 0 ≤ x1.toInt := i_nlt c_1
    refine lv_iload_n C.1 C.2.1 dX4_letterAt_4 rfl (lv_at hl 1 rfl) ?_
    refine lv_aload_n C.1 C.2.1 dX4_letterAt_5 rfl (lv_at hl 0 rfl) ?_
    have h_2 : (0 : Int) ≤ (t.1 21 3).toInt ∧ (t.1 21 3).toInt ≤ 300 := hok.1 21 3
    refine k_get (v := .int (t.1 21 3)) C hP 21 rfl rfl inlX4 3 (by decide) m_41_11 rfl dX4_letterAt_6 ?_
    refine lv_icmp_ge (tgt := 35) C.1 C.2.1 dX4_letterAt_9 (by decide) (fun c_3 => ?_) (fun c_3 => ?_)
    · replace c_3 : (t.1 21 3).toInt ≤ x1.toInt := i_le c_3
      refine lv_iconst (v := (-1)) C.1 C.2.1 dX4_letterAt_35 (by decide) ?_
      exact g_iret C hr hlocks hP hD hS rfl () rfl ⟨by decide, by decide⟩ (Nat.le_of_ble_eq_true rfl) (Nat.le_of_ble_eq_true rfl) dX4_letterAt_36
    · replace c_3 : x1.toInt < (t.1 21 3).toInt := i_nle c_3
      refine lv_iload_n C.1 C.2.1 dX4_letterAt_12 rfl (lv_at hl 2 rfl) ?_
      refine lv_if_lt (tgt := 35) C.1 C.2.1 dX4_letterAt_13 (by decide) (fun c_4 => ?_) (fun c_4 => ?_)
      · replace c_4 : x2.toInt < 0 := i_lt c_4
        refine lv_iconst (v := (-1)) C.1 C.2.1 dX4_letterAt_35 (by decide) ?_
        exact g_iret C hr hlocks hP hD hS rfl () rfl ⟨by decide, by decide⟩ (Nat.le_of_ble_eq_true rfl) (Nat.le_of_ble_eq_true rfl) dX4_letterAt_36
      · replace c_4 : 0 ≤ x2.toInt := i_nlt c_4
        refine lv_iload_n C.1 C.2.1 dX4_letterAt_16 rfl (lv_at hl 2 rfl) ?_
        refine lv_aload_n C.1 C.2.1 dX4_letterAt_17 rfl (lv_at hl 0 rfl) ?_
        refine k_get (v := .ref (ad 39)) C hP 21 rfl rfl inlX4 1 (by decide) m_4_10 rfl dX4_letterAt_18 ?_
        refine lv_iload_n C.1 C.2.1 dX4_letterAt_21 rfl (lv_at hl 1 rfl) ?_
        obtain ⟨v_5, e_6⟩ : ∃ z, z = (t.2.2.1 39 (x1 : Int32).toNatClampNeg) := ⟨_, rfl⟩
        have h_7 : (0 : Int) ≤ v_5.toInt ∧ v_5.toInt ≤ 120 := by rw [e_6]; exact hok.2.1 39 _
        refine k_ild (v := v_5) C hP 39 rfl (vp_in_iff.mpr ⟨by omega, by omega⟩) e_6.symm dX4_letterAt_22 ?_
        refine lv_icmp_ge (tgt := 35) C.1 C.2.1 dX4_letterAt_23 (by decide) (fun c_8 => ?_) (fun c_8 => ?_)
        · replace c_8 : v_5.toInt ≤ x2.toInt := i_le c_8
          refine lv_iconst (v := (-1)) C.1 C.2.1 dX4_letterAt_35 (by decide) ?_
          exact g_iret C hr hlocks hP hD hS rfl () rfl ⟨by decide, by decide⟩ (Nat.le_of_ble_eq_true rfl) (Nat.le_of_ble_eq_true rfl) dX4_letterAt_36
        · replace c_8 : x2.toInt < v_5.toInt := i_nle c_8
          refine lv_aload_n C.1 C.2.1 dX4_letterAt_26 rfl (lv_at hl 0 rfl) ?_
          refine k_get (v := .ref (ad 38)) C hP 21 rfl rfl inlX4 0 (by decide) m_4_9 rfl dX4_letterAt_27 ?_
          refine lv_iload_n C.1 C.2.1 dX4_letterAt_30 rfl (lv_at hl 1 rfl) ?_
          have hn_9 : vp_in (x1 : Int32) 300 := vp_in_iff.mpr ⟨by omega, by omega⟩
          refine k_ald (w := va_rf (d.1 (600 + (x1 : Int32).toNatClampNeg))) C hP 38 4 rfl rfl hn_9 (rf_n hn_9) dX4_letterAt_31 ?_
          rcases opt_or (d.1 (600 + (x1 : Int32).toNatClampNeg)) with hd_10 | ⟨a_11, hd_10⟩
          · refine n_ifnonnullN C.1 C.2.1 hd_10 dX4_letterAt_32 ?_
            refine lv_iconst (v := (-1)) C.1 C.2.1 dX4_letterAt_35 (by decide) ?_
            exact g_iret C hr hlocks hP hD hS rfl () rfl ⟨by decide, by decide⟩ (Nat.le_of_ble_eq_true rfl) (Nat.le_of_ble_eq_true rfl) dX4_letterAt_36
          · refine n_ifnonnullS (tgt := 37) C.1 C.2.1 hd_10 dX4_letterAt_32 (by decide) ?_
            refine lv_aload_n C.1 C.2.1 dX4_letterAt_37 rfl (lv_at hl 0 rfl) ?_
            refine k_get (v := .ref (ad 38)) C hP 21 rfl rfl inlX4 0 (by decide) m_4_9 rfl dX4_letterAt_38 ?_
            refine lv_iload_n C.1 C.2.1 dX4_letterAt_41 rfl (lv_at hl 1 rfl) ?_
            have hn_12 : vp_in (x1 : Int32) 300 := vp_in_iff.mpr ⟨by omega, by omega⟩
            refine k_ald (w := .ref a_11) C hP 38 4 rfl rfl hn_12 (rf_at hn_12 hd_10) dX4_letterAt_42 ?_
            refine lv_iload_n C.1 C.2.1 dX4_letterAt_43 rfl (lv_at hl 2 rfl) ?_
            obtain ⟨q_13, hq_14, hs_15⟩ := WX_at600 (K := K) (ad := ad) (t := t) (d := d) (vin_lt hn_9) hd_10
            obtain ⟨v_16, e_17⟩ : ∃ z, z = d.2 (600 + (x1 : Int32).toNatClampNeg) (x2 : Int32).toNatClampNeg := ⟨_, rfl⟩
            refine k_bld (v := v_16) C hP q_13 hq_14 (vp_in_iff.mpr ⟨by omega, by omega⟩) e_17.symm dX4_letterAt_44 ?_
            refine lv_sipush (v := 255) C.1 C.2.1 dX4_letterAt_45 (by decide) ?_
            obtain ⟨v_18, e_19⟩ : ∃ z, z = (v_16 : Int32) &&& (255 : Int32) := ⟨_, rfl⟩
            have h_20 : v_18.toInt = v_16.toInt % 2 ^ 8 := by rw [e_19]; exact Jvm.Kit.i32_mask _ _ (k := 8) (by decide) (by decide)
            refine k_iand (v := v_18) C e_19.symm dX4_letterAt_48 ?_
            exact g_iret C hr hlocks hP hD hS rfl () rfl ⟨by omega, by omega⟩ (Nat.le_of_ble_eq_true rfl) (Nat.le_of_ble_eq_true rfl) dX4_letterAt_49

theorem dX10_store_0 : decode cX10_store 0 = .ok (.iload_n 1, 1) := by decide +kernel
theorem dX10_store_1 : decode cX10_store 1 = .ok (.ifCond .lt 20, 3) := by decide +kernel
theorem dX10_store_10 : decode cX10_store 10 = .ok (.iload_n 2, 1) := by decide +kernel
theorem dX10_store_11 : decode cX10_store 11 = .ok (.ifCond .lt 10, 3) := by decide +kernel
theorem dX10_store_14 : decode cX10_store 14 = .ok (.iload_n 2, 1) := by decide +kernel
theorem dX10_store_15 : decode cX10_store 15 = .ok (.sipush 6400, 3) := by decide +kernel
theorem dX10_store_18 : decode cX10_store 18 = .ok (.if_icmp .lt 4, 3) := by decide +kernel
theorem dX10_store_21 : decode cX10_store 21 = .ok (.return_, 1) := by decide +kernel
theorem dX10_store_22 : decode cX10_store 22 = .ok (.aload_n 0, 1) := by decide +kernel
theorem dX10_store_23 : decode cX10_store 23 = .ok (.getfield 11, 3) := by decide +kernel
theorem dX10_store_26 : decode cX10_store 26 = .ok (.iload_n 1, 1) := by decide +kernel
theorem dX10_store_27 : decode cX10_store 27 = .ok (.aaload, 1) := by decide +kernel
theorem dX10_store_28 : decode cX10_store 28 = .ok (.ifnonnull 14, 3) := by decide +kernel
theorem dX10_store_31 : decode cX10_store 31 = .ok (.aload_n 0, 1) := by decide +kernel
theorem dX10_store_32 : decode cX10_store 32 = .ok (.getfield 11, 3) := by decide +kernel
theorem dX10_store_35 : decode cX10_store 35 = .ok (.iload_n 1, 1) := by decide +kernel
theorem dX10_store_36 : decode cX10_store 36 = .ok (.sipush 6400, 3) := by decide +kernel
theorem dX10_store_39 : decode cX10_store 39 = .ok (.newarray .int, 2) := by decide +kernel
theorem dX10_store_4 : decode cX10_store 4 = .ok (.iload_n 1, 1) := by decide +kernel
theorem dX10_store_41 : decode cX10_store 41 = .ok (.aastore, 1) := by decide +kernel
theorem dX10_store_42 : decode cX10_store 42 = .ok (.aload_n 0, 1) := by decide +kernel
theorem dX10_store_43 : decode cX10_store 43 = .ok (.getfield 11, 3) := by decide +kernel
theorem dX10_store_46 : decode cX10_store 46 = .ok (.iload_n 1, 1) := by decide +kernel
theorem dX10_store_47 : decode cX10_store 47 = .ok (.aaload, 1) := by decide +kernel
theorem dX10_store_48 : decode cX10_store 48 = .ok (.iload_n 2, 1) := by decide +kernel
theorem dX10_store_49 : decode cX10_store 49 = .ok (.iload_n 3, 1) := by decide +kernel
theorem dX10_store_5 : decode cX10_store 5 = .ok (.bipush 16, 2) := by decide +kernel
theorem dX10_store_50 : decode cX10_store 50 = .ok (.iastore, 1) := by decide +kernel
theorem dX10_store_51 : decode cX10_store 51 = .ok (.return_, 1) := by decide +kernel
theorem dX10_store_7 : decode cX10_store 7 = .ok (.if_icmp .ge 14, 3) := by decide +kernel
set_option maxHeartbeats 4000000 in
set_option maxRecDepth 100000 in
theorem T_X10_store (l : Launch) (D : va_G) (K : Nat → ClassId) (Z Y : Nat → Nat) (ad : Nat → Nat) (d : dSt) (t : tSt) (hok : okX t) (hod : okD d) (x1 : Int32) (hx1 : (0 : Int) ≤ x1.toInt ∧ x1.toInt ≤ 15) (x2 : Int32) (x3 : Int32) : dMet l yX10_store cX10_store 4 none (rmD 0 1000 280000) D K Z Y [.ref (ad 3), .int x1, .int x2, .int x3] ((WX d) K ad t) (QDV D K ad d (fun (u : tSt) (dd : dSt) => okX u ∧ frA [] [] [11] [] t u ∧ okD dd)) 1000 280000 := by
  refine d_met d RX10 ⟨rfl, by decide +kernel⟩ (Nat.le_of_ble_eq_true rfl) ?_
  intro p e s m below meth c A ls C hE hZ hX hr hlocks hA hP hD hS hl
  have hl : lv_has ls 4 [(0, .ref (ad 3)), (1, .int x1), (2, .int x2), (3, .int x3)] := hl
  have hle : dLe d d := dLe_rf
  have hdf : dFr s.heap.size d d := dFr_rf
  have hokt := hok
  have hfr : frA [] [] [11] [] t t := frA_rf
  refine lv_iload_n C.1 C.2.1 dX10_store_0 rfl (lv_at hl 1 rfl) ?_
  refine lv_if_lt (tgt := 21) C.1 C.2.1 dX10_store_1 (by decide) (fun c_1 => False.elim (by have c_1 : x1.toInt < 0 := i_lt c_1; omega)) (fun c_1 => ?_)
  replace c_1 : 0 ≤ x1.toInt := i_nlt c_1
  refine lv_iload_n C.1 C.2.1 dX10_store_4 rfl (lv_at hl 1 rfl) ?_
  refine lv_bipush (v := 16) C.1 C.2.1 dX10_store_5 (by decide) ?_
  refine lv_icmp_ge (tgt := 21) C.1 C.2.1 dX10_store_7 (by decide) (fun c_2 => False.elim (by have c_2 : 16 ≤ x1.toInt := i_le c_2; omega)) (fun c_2 => ?_)
  replace c_2 : x1.toInt < 16 := i_nle c_2
  refine lv_iload_n C.1 C.2.1 dX10_store_10 rfl (lv_at hl 2 rfl) ?_
  refine lv_if_lt (tgt := 21) C.1 C.2.1 dX10_store_11 (by decide) (fun c_3 => ?_) (fun c_3 => ?_)
  · replace c_3 : x2.toInt < 0 := i_lt c_3
    exact g_Dvret C hr hlocks hP hD hS ⟨hok, hfr, hod⟩ hle hdf (Nat.le_of_ble_eq_true rfl) (Nat.le_of_ble_eq_true rfl) dX10_store_21
  · replace c_3 : 0 ≤ x2.toInt := i_nlt c_3
    refine lv_iload_n C.1 C.2.1 dX10_store_14 rfl (lv_at hl 2 rfl) ?_
    refine lv_sipush (v := 6400) C.1 C.2.1 dX10_store_15 (by decide) ?_
    refine lv_icmp_lt (tgt := 22) C.1 C.2.1 dX10_store_18 (by decide) (fun c_4 => ?_) (fun c_4 => ?_)
    · replace c_4 : x2.toInt < 6400 := i_lt c_4
      refine lv_aload_n C.1 C.2.1 dX10_store_22 rfl (lv_at hl 0 rfl) ?_
      refine k_get (v := .ref (ad 11)) C hP 3 rfl rfl inlX10 1 (by decide) m_3_6 rfl dX10_store_23 ?_
      refine lv_iload_n C.1 C.2.1 dX10_store_26 rfl (lv_at hl 1 rfl) ?_
      have hn_5 : vp_in (x1 : Int32) 16 := vp_in_iff.mpr ⟨by omega, by omega⟩
      refine k_ald (w := va_rf (d.1 (900 + (x1 : Int32).toNatClampNeg))) C hP 11 5 rfl rfl hn_5 (rf_n hn_5) dX10_store_27 ?_
      rcases opt_or (d.1 (900 + (x1 : Int32).toNatClampNeg)) with hd_6 | ⟨a_7, hd_6⟩
      · refine n_ifnonnullN C.1 C.2.1 hd_6 dX10_store_28 ?_
        refine lv_aload_n C.1 C.2.1 dX10_store_31 rfl (lv_at hl 0 rfl) ?_
        refine k_get (v := .ref (ad 11)) C hP 3 rfl rfl inlX10 1 (by decide) m_3_6 rfl dX10_store_32 ?_
        refine lv_iload_n C.1 C.2.1 dX10_store_35 rfl (lv_at hl 1 rfl) ?_
        refine lv_sipush (v := 6400) C.1 C.2.1 dX10_store_36 (by decide) ?_
        refine k_late900 (d := d) C hP hD hS hA hX hle hdf m_1_13 hn_5 hd_6 ⟨Nat.le_of_ble_eq_true rfl, Nat.le_of_ble_eq_true rfl⟩ dX10_store_39 dX10_store_41 (fun q_8 H locs hP hD hS hle hdf => ?_)
        have hnd_9 : (nD d (900 + (x1 : Int32).toNatClampNeg) q_8).1 (900 + (x1 : Int32).toNatClampNeg) = some q_8 := nD_at
        have hod : okD (nD d (900 + (x1 : Int32).toNatClampNeg) q_8) := okD_n hod
        refine lv_aload_n C.1 C.2.1 dX10_store_42 rfl (lv_at hl 0 rfl) ?_
        refine k_get (v := .ref (ad 11)) C hP 3 rfl rfl inlX10 1 (by decide) m_3_6 rfl dX10_store_43 ?_
        refine lv_iload_n C.1 C.2.1 dX10_store_46 rfl (lv_at hl 1 rfl) ?_
        have hn_10 : vp_in (x1 : Int32) 16 := vp_in_iff.mpr ⟨by omega, by omega⟩
        refine k_ald (w := .ref q_8) C hP 11 5 rfl rfl hn_10 (rf_at hn_10 hnd_9) dX10_store_47 ?_
        refine lv_iload_n C.1 C.2.1 dX10_store_48 rfl (lv_at hl 2 rfl) ?_
        refine lv_iload_n C.1 C.2.1 dX10_store_49 rfl (lv_at hl 3 rfl) ?_
        obtain ⟨q_11, hq_12, hs_13⟩ := WX_at900 (K := K) (ad := ad) (t := t) (d := (nD d (900 + (x1 : Int32).toNatClampNeg) q_8)) (vin_lt hn_5) hnd_9
        refine k_ist (ws' := WX (cD (nD d (900 + (x1 : Int32).toNatClampNeg) q_8) (900 + (x1 : Int32).toNatClampNeg) (upd ((nD d (900 + (x1 : Int32).toNatClampNeg) q_8).2 (900 + (x1 : Int32).toNatClampNeg)) (x2 : Int32).toNatClampNeg x3)) K ad t) (x' := x3) C hP hD hS q_11 hq_12 (vp_in_iff.mpr ⟨by omega, by omega⟩) rfl rfl (hs_13 _) dX10_store_50 (fun H locs hP hD hS => ?_)
        rw [show newC d (nD d (900 + (x1 : Int32).toNatClampNeg) q_8) = newC d (cD (nD d (900 + (x1 : Int32).toNatClampNeg) q_8) (900 + (x1 : Int32).toNatClampNeg) (upd ((nD d (900 + (x1 : Int32).toNatClampNeg) q_8).2 (900 + (x1 : Int32).toNatClampNeg)) (x2 : Int32).toNatClampNeg x3)) from rfl]
        have hle : dLe d (cD (nD d (900 + (x1 : Int32).toNatClampNeg) q_8) (900 + (x1 : Int32).toNatClampNeg) (upd ((nD d (900 + (x1 : Int32).toNatClampNeg) q_8).2 (900 + (x1 : Int32).toNatClampNeg)) (x2 : Int32).toNatClampNeg x3)) := hle
        have hdf : dFr s.heap.size d (cD (nD d (900 + (x1 : Int32).toNatClampNeg) q_8) (900 + (x1 : Int32).toNatClampNeg) (upd ((nD d (900 + (x1 : Int32).toNatClampNeg) q_8).2 (900 + (x1 : Int32).toNatClampNeg)) (x2 : Int32).toNatClampNeg x3)) := hdf
        have hod : okD (cD (nD d (900 + (x1 : Int32).toNatClampNeg) q_8) (900 + (x1 : Int32).toNatClampNeg) (upd ((nD d (900 + (x1 : Int32).toNatClampNeg) q_8).2 (900 + (x1 : Int32).toNatClampNeg)) (x2 : Int32).toNatClampNeg x3)) := okD_c hod (by have hz := vin_lt hn_5; omega)
        exact g_Dvret C hr hlocks hP hD hS ⟨hok, hfr, hod⟩ hle hdf (Nat.le_of_ble_eq_true rfl) (Nat.le_of_ble_eq_true rfl) dX10_store_51
      · refine n_ifnonnullS (tgt := 42) C.1 C.2.1 hd_6 dX10_store_28 (by decide) ?_
        refine lv_aload_n C.1 C.2.1 dX10_store_42 rfl (lv_at hl 0 rfl) ?_
        refine k_get (v := .ref (ad 11)) C hP 3 rfl rfl inlX10 1 (by decide) m_3_6 rfl dX10_store_43 ?_
        refine lv_iload_n C.1 C.2.1 dX10_store_46 rfl (lv_at hl 1 rfl) ?_
        have hn_14 : vp_in (x1 : Int32) 16 := vp_in_iff.mpr ⟨by omega, by omega⟩
        refine k_ald (w := .ref a_7) C hP 11 5 rfl rfl hn_14 (rf_at hn_14 hd_6) dX10_store_47 ?_
        refine lv_iload_n C.1 C.2.1 dX10_store_48 rfl (lv_at hl 2 rfl) ?_
        refine lv_iload_n C.1 C.2.1 dX10_store_49 rfl (lv_at hl 3 rfl) ?_
        obtain ⟨q_15, hq_16, hs_17⟩ := WX_at900 (K := K) (ad := ad) (t := t) (d := d) (vin_lt hn_5) hd_6
        refine k_ist (ws' := WX (cD d (900 + (x1 : Int32).toNatClampNeg) (upd (d.2 (900 + (x1 : Int32).toNatClampNeg)) (x2 : Int32).toNatClampNeg x3)) K ad t) (x' := x3) C hP hD hS q_15 hq_16 (vp_in_iff.mpr ⟨by omega, by omega⟩) rfl rfl (hs_17 _) dX10_store_50 (fun H locs hP hD hS => ?_)
        rw [show newC d d = newC d (cD d (900 + (x1 : Int32).toNatClampNeg) (upd (d.2 (900 + (x1 : Int32).toNatClampNeg)) (x2 : Int32).toNatClampNeg x3)) from rfl]
        have hle : dLe d (cD d (900 + (x1 : Int32).toNatClampNeg) (upd (d.2 (900 + (x1 : Int32).toNatClampNeg)) (x2 : Int32).toNatClampNeg x3)) := hle
        have hdf : dFr s.heap.size d (cD d (900 + (x1 : Int32).toNatClampNeg) (upd (d.2 (900 + (x1 : Int32).toNatClampNeg)) (x2 : Int32).toNatClampNeg x3)) := hdf
        have hod : okD (cD d (900 + (x1 : Int32).toNatClampNeg) (upd (d.2 (900 + (x1 : Int32).toNatClampNeg)) (x2 : Int32).toNatClampNeg x3)) := okD_c hod (by have hz := vin_lt hn_5; omega)
        exact g_Dvret C hr hlocks hP hD hS ⟨hok, hfr, hod⟩ hle hdf (Nat.le_of_ble_eq_true rfl) (Nat.le_of_ble_eq_true rfl) dX10_store_51
    · replace c_4 : 6400 ≤ x2.toInt := i_nlt c_4
      exact g_Dvret C hr hlocks hP hD hS ⟨hok, hfr, hod⟩ hle hdf (Nat.le_of_ble_eq_true rfl) (Nat.le_of_ble_eq_true rfl) dX10_store_21

theorem dX6_add_0 : decode cX6_add 0 = .ok (.aload_n 0, 1) := by decide +kernel
theorem dX6_add_1 : decode cX6_add 1 = .ok (.getfield 21, 3) := by decide +kernel
theorem dX6_add_101 : decode cX6_add 101 = .ok (.aload_n 0, 1) := by decide +kernel
theorem dX6_add_102 : decode cX6_add 102 = .ok (.getfield 15, 3) := by decide +kernel
theorem dX6_add_105 : decode cX6_add 105 = .ok (.aload_n 1, 1) := by decide +kernel
theorem dX6_add_106 : decode cX6_add 106 = .ok (.getfield 25, 3) := by decide +kernel
theorem dX6_add_109 : decode cX6_add 109 = .ok (.invokestatic 28, 3) := by decide +kernel
theorem dX6_add_11 : decode cX6_add 11 = .ok (.newarray .byte, 2) := by decide +kernel
theorem dX6_add_112 : decode cX6_add 112 = .ok (.aload_n 0, 1) := by decide +kernel
theorem dX6_add_113 : decode cX6_add 113 = .ok (.dup, 1) := by decide +kernel
theorem dX6_add_114 : decode cX6_add 114 = .ok (.getfield 15, 3) := by decide +kernel
theorem dX6_add_117 : decode cX6_add 117 = .ok (.aload_n 1, 1) := by decide +kernel
theorem dX6_add_118 : decode cX6_add 118 = .ok (.getfield 25, 3) := by decide +kernel
theorem dX6_add_121 : decode cX6_add 121 = .ok (.iadd, 1) := by decide +kernel
theorem dX6_add_122 : decode cX6_add 122 = .ok (.putfield 15, 3) := by decide +kernel
theorem dX6_add_125 : decode cX6_add 125 = .ok (.aload_n 0, 1) := by decide +kernel
theorem dX6_add_126 : decode cX6_add 126 = .ok (.getfield 21, 3) := by decide +kernel
theorem dX6_add_129 : decode cX6_add 129 = .ok (.aload_n 0, 1) := by decide +kernel
theorem dX6_add_13 : decode cX6_add 13 = .ok (.putfield 21, 3) := by decide +kernel
theorem dX6_add_130 : decode cX6_add 130 = .ok (.getfield 15, 3) := by decide +kernel
theorem dX6_add_133 : decode cX6_add 133 = .ok (.bipush 10, 2) := by decide +kernel
theorem dX6_add_135 : decode cX6_add 135 = .ok (.bastore, 1) := by decide +kernel
theorem dX6_add_136 : decode cX6_add 136 = .ok (.aload_n 0, 1) := by decide +kernel
theorem dX6_add_137 : decode cX6_add 137 = .ok (.dup, 1) := by decide +kernel
theorem dX6_add_138 : decode cX6_add 138 = .ok (.getfield 15, 3) := by decide +kernel
theorem dX6_add_141 : decode cX6_add 141 = .ok (.iconst 1, 1) := by decide +kernel
theorem dX6_add_142 : decode cX6_add 142 = .ok (.iadd, 1) := by decide +kernel
theorem dX6_add_143 : decode cX6_add 143 = .ok (.putfield 15, 3) := by decide +kernel
theorem dX6_add_146 : decode cX6_add 146 = .ok (.aload_n 0, 1) := by decide +kernel
theorem dX6_add_147 : decode cX6_add 147 = .ok (.dup, 1) := by decide +kernel
theorem dX6_add_148 : decode cX6_add 148 = .ok (.getfield 18, 3) := by decide +kernel
theorem dX6_add_151 : decode cX6_add 151 = .ok (.iconst 1, 1) := by decide +kernel
theorem dX6_add_152 : decode cX6_add 152 = .ok (.iadd, 1) := by decide +kernel
theorem dX6_add_153 : decode cX6_add 153 = .ok (.putfield 18, 3) := by decide +kernel
theorem dX6_add_156 : decode cX6_add 156 = .ok (.return_, 1) := by decide +kernel
theorem dX6_add_16 : decode cX6_add 16 = .ok (.aload_n 0, 1) := by decide +kernel
theorem dX6_add_17 : decode cX6_add 17 = .ok (.getfield 15, 3) := by decide +kernel
theorem dX6_add_20 : decode cX6_add 20 = .ok (.aload_n 1, 1) := by decide +kernel
theorem dX6_add_21 : decode cX6_add 21 = .ok (.getfield 25, 3) := by decide +kernel
theorem dX6_add_24 : decode cX6_add 24 = .ok (.iadd, 1) := by decide +kernel
theorem dX6_add_25 : decode cX6_add 25 = .ok (.sipush 32400, 3) := by decide +kernel
theorem dX6_add_28 : decode cX6_add 28 = .ok (.if_icmp .lt 46, 3) := by decide +kernel
theorem dX6_add_4 : decode cX6_add 4 = .ok (.ifnonnull 12, 3) := by decide +kernel
theorem dX6_add_7 : decode cX6_add 7 = .ok (.aload_n 0, 1) := by decide +kernel
theorem dX6_add_74 : decode cX6_add 74 = .ok (.aload_n 0, 1) := by decide +kernel
theorem dX6_add_75 : decode cX6_add 75 = .ok (.getfield 15, 3) := by decide +kernel
theorem dX6_add_78 : decode cX6_add 78 = .ok (.aload_n 1, 1) := by decide +kernel
theorem dX6_add_79 : decode cX6_add 79 = .ok (.getfield 25, 3) := by decide +kernel
theorem dX6_add_8 : decode cX6_add 8 = .ok (.sipush 32400, 3) := by decide +kernel
theorem dX6_add_82 : decode cX6_add 82 = .ok (.iadd, 1) := by decide +kernel
theorem dX6_add_83 : decode cX6_add 83 = .ok (.sipush 32400, 3) := by decide +kernel
theorem dX6_add_86 : decode cX6_add 86 = .ok (.if_icmp .ge 70, 3) := by decide +kernel
theorem dX6_add_89 : decode cX6_add 89 = .ok (.aload_n 1, 1) := by decide +kernel
theorem dX6_add_90 : decode cX6_add 90 = .ok (.getfield 34, 3) := by decide +kernel
theorem dX6_add_93 : decode cX6_add 93 = .ok (.aload_n 1, 1) := by decide +kernel
theorem dX6_add_94 : decode cX6_add 94 = .ok (.getfield 37, 3) := by decide +kernel
theorem dX6_add_97 : decode cX6_add 97 = .ok (.aload_n 0, 1) := by decide +kernel
theorem dX6_add_98 : decode cX6_add 98 = .ok (.getfield 21, 3) := by decide +kernel
set_option maxHeartbeats 4000000 in
set_option maxRecDepth 100000 in
theorem T_X6_add (l : Launch) (D : va_G) (K : Nat → ClassId) (Z Y : Nat → Nat) (ad : Nat → Nat) (d : dSt) (t : tSt) (hok : okX t) (hod : okD d) (hs0 : (t.1 18 2).toInt + (t.1 29 3).toInt ≤ 2690) (hs1 : (t.1 29 2).toInt + (t.1 29 3).toInt ≤ 1280) : dMet l yX6_add cX6_add 2 none (rmD 1 2000 560000) D K Z Y [.ref (ad 18), .ref (ad 29)] ((WX d) K ad t) (QDV D K ad d (fun (u : tSt) (dd : dSt) => okX u ∧ frA [(18, 2), (18, 3)] [] [] [] t u ∧ okD dd ∧ ((u.1 18 2).toInt ≤ (t.1 18 2).toInt + (t.1 29 3).toInt + 1))) 2000 560000 := by
  refine d_met d RX6 ⟨rfl, by decide +kernel⟩ (Nat.le_of_ble_eq_true rfl) ?_
  intro p e s m below meth c A ls C hE hZ hX hr hlocks hA hP hD hS hl
  have hl : lv_has ls 2 [(0, .ref (ad 18)), (1, .ref (ad 29))] := hl
  have hle : dLe d d := dLe_rf
  have hdf : dFr s.heap.size d d := dFr_rf
  have hokt := hok
  have hfr : frA [(18, 2), (18, 3)] [] [] [] t t := frA_rf
  have h_1 : (0 : Int) ≤ (t.1 18 2).toInt ∧ (t.1 18 2).toInt ≤ 2700 := hok.1 18 2
  have h_2 : (0 : Int) ≤ (t.1 29 2).toInt ∧ (t.1 29 2).toInt ≤ 1280 := hok.1 29 2
  have h_3 : (0 : Int) ≤ (t.1 29 3).toInt ∧ (t.1 29 3).toInt ≤ 80 := hok.1 29 3
  refine lv_aload_n C.1 C.2.1 dX6_add_0 rfl (lv_at hl 0 rfl) ?_
  refine k_get (v := va_rf (d.1 916)) C hP 18 rfl rfl inlX6 0 (by decide) m_44_0 rfl dX6_add_1 ?_
  rcases opt_or (d.1 916) with hd_4 | ⟨a_5, hd_4⟩
  · refine n_ifnonnullN C.1 C.2.1 hd_4 dX6_add_4 ?_
    refine lv_aload_n C.1 C.2.1 dX6_add_7 rfl (lv_at hl 0 rfl) ?_
    refine lv_sipush (v := 32400) C.1 C.2.1 dX6_add_8 (by decide) ?_
    refine k_late916 (d := d) C hP hD hS hA hle hdf m_1_14 m_44_0 hd_4 ⟨Nat.le_of_ble_eq_true rfl, Nat.le_of_ble_eq_true rfl⟩ dX6_add_11 dX6_add_13 (fun q_6 H locs hP hD hS hle hdf => ?_)
    have hnd_7 : (nD d 916 q_6).1 916 = some q_6 := nD_at
    have hod : okD (nD d 916 q_6) := okD_n hod
    refine lv_aload_n C.1 C.2.1 dX6_add_16 rfl (lv_at hl 0 rfl) ?_
    refine k_get (v := .int (t.1 18 2)) C hP 18 rfl rfl inlX6 2 (by decide) m_44_1 rfl dX6_add_17 ?_
    refine lv_aload_n C.1 C.2.1 dX6_add_20 rfl (lv_at hl 1 rfl) ?_
    refine k_get (v := .int (t.1 29 3)) C hP 29 rfl rfl inlX9 3 (by decide) m_44_2 rfl dX6_add_21 ?_
    obtain ⟨v_8, e_9⟩ : ∃ z, z = ((t.1 18 2) : Int32) + ((t.1 29 3) : Int32) := ⟨_, rfl⟩
    have h_10 : v_8.toInt = (t.1 18 2).toInt + (t.1 29 3).toInt := by rw [e_9]; exact ti_iadd (by show (_ : Int) ≤ (t.1 18 2).toInt + (t.1 29 3).toInt; omega) (by show (t.1 18 2).toInt + (t.1 29 3).toInt < (_ : Int); omega)
    refine k_iadd (v := v_8) C e_9.symm dX6_add_24 ?_
    refine lv_sipush (v := 32400) C.1 C.2.1 dX6_add_25 (by decide) ?_
    refine lv_icmp_lt (tgt := 74) C.1 C.2.1 dX6_add_28 (by decide) (fun c_11 => ?_) (fun c_11 => False.elim (by have c_11 : 32400 ≤ v_8.toInt := i_nlt c_11; omega))
    replace c_11 : v_8.toInt < 32400 := i_lt c_11
    refine lv_aload_n C.1 C.2.1 dX6_add_74 rfl (lv_at hl 0 rfl) ?_
    refine k_get (v := .int (t.1 18 2)) C hP 18 rfl rfl inlX6 2 (by decide) m_44_1 rfl dX6_add_75 ?_
    refine lv_aload_n C.1 C.2.1 dX6_add_78 rfl (lv_at hl 1 rfl) ?_
    refine k_get (v := .int (t.1 29 3)) C hP 29 rfl rfl inlX9 3 (by decide) m_44_2 rfl dX6_add_79 ?_
    obtain ⟨v_12, e_13⟩ : ∃ z, z = ((t.1 18 2) : Int32) + ((t.1 29 3) : Int32) := ⟨_, rfl⟩
    have h_14 : v_12.toInt = (t.1 18 2).toInt + (t.1 29 3).toInt := by rw [e_13]; exact ti_iadd (by show (_ : Int) ≤ (t.1 18 2).toInt + (t.1 29 3).toInt; omega) (by show (t.1 18 2).toInt + (t.1 29 3).toInt < (_ : Int); omega)
    refine k_iadd (v := v_12) C e_13.symm dX6_add_82 ?_
    refine lv_sipush (v := 32400) C.1 C.2.1 dX6_add_83 (by decide) ?_
    refine lv_icmp_ge (tgt := 156) C.1 C.2.1 dX6_add_86 (by decide) (fun c_15 => False.elim (by have c_15 : 32400 ≤ v_12.toInt := i_le c_15; omega)) (fun c_15 => ?_)
    replace c_15 : v_12.toInt < 32400 := i_nle c_15
    refine lv_aload_n C.1 C.2.1 dX6_add_89 rfl (lv_at hl 1 rfl) ?_
    refine k_get (v := .ref (ad 1)) C hP 29 rfl rfl inlX9 0 (by decide) m_44_5 rfl dX6_add_90 ?_
    refine lv_aload_n C.1 C.2.1 dX6_add_93 rfl (lv_at hl 1 rfl) ?_
    refine k_get (v := .int (t.1 29 2)) C hP 29 rfl rfl inlX9 2 (by decide) m_44_6 rfl dX6_add_94 ?_
    refine lv_aload_n C.1 C.2.1 dX6_add_97 rfl (lv_at hl 0 rfl) ?_
    refine k_get (v := .ref q_6) C hP 18 rfl rfl inlX6 0 (by decide) m_44_0 (rf_eq hnd_7) dX6_add_98 ?_
    refine lv_aload_n C.1 C.2.1 dX6_add_101 rfl (lv_at hl 0 rfl) ?_
    refine k_get (v := .int (t.1 18 2)) C hP 18 rfl rfl inlX6 2 (by decide) m_44_1 rfl dX6_add_102 ?_
    refine lv_aload_n C.1 C.2.1 dX6_add_105 rfl (lv_at hl 1 rfl) ?_
    refine k_get (v := .int (t.1 29 3)) C hP 29 rfl rfl inlX9 3 (by decide) m_44_2 rfl dX6_add_106 ?_
    obtain ⟨q_16, hq_17, hs_18⟩ := WX_at916 (K := K) (ad := ad) (t := t) (d := (nD d 916 q_6)) hnd_7
    refine k_copy (ws' := WX (cD (nD d 916 q_6) 916 (va_cpy (t.2.2.1 1) ((nD d 916 q_6).2 916) ((t.1 29 2) : Int32).toNatClampNeg ((t.1 18 2) : Int32).toNatClampNeg ((t.1 29 3) : Int32).toNatClampNeg)) K ad t) C hl.1 hP hD hS 1 q_16 2 rfl hq_17 rfl rfl (fun hz => by have hz2 : (t.1 29 2).toInt < 0 := i_lt hz; omega) (fun hz => by have hz2 : (t.1 18 2).toInt < 0 := i_lt hz; omega) (fun hz => by have hz2 : (t.1 29 3).toInt < 0 := i_lt hz; omega) rfl rfl rfl (by have hq1 := clamp_eq (x := ((t.1 29 2) : Int32)) (by first | decide | omega); have hq2 := clamp_eq (x := ((t.1 29 3) : Int32)) (by first | decide | omega); first | (have hq3 : ((t.1 29 2) : Int32).toInt = 0 := rfl; omega) | (have hq3 : ((t.1 29 3) : Int32).toInt = 0 := rfl; omega) | (have hq3 : ((t.1 29 2) : Int32).toInt = 0 := rfl; have hq4 : ((t.1 29 3) : Int32).toInt = 0 := rfl; omega) | omega) (by have hq1 := clamp_eq (x := ((t.1 18 2) : Int32)) (by first | decide | omega); have hq2 := clamp_eq (x := ((t.1 29 3) : Int32)) (by first | decide | omega); first | (have hq3 : ((t.1 18 2) : Int32).toInt = 0 := rfl; omega) | (have hq3 : ((t.1 29 3) : Int32).toInt = 0 := rfl; omega) | (have hq3 : ((t.1 18 2) : Int32).toInt = 0 := rfl; have hq4 : ((t.1 29 3) : Int32).toInt = 0 := rfl; omega) | omega) (fun i hi => fit_b (hok.2.1 1 _)) m_44_4 m_10_14 m_10_15 m_10_16 (Nat.le_of_ble_eq_true rfl) (Nat.le_of_ble_eq_true rfl) (hs_18 _) dX6_add_109 (fun H locs hP hD hS => ?_)
    rw [show newC d (nD d 916 q_6) = newC d (cD (nD d 916 q_6) 916 (va_cpy (t.2.2.1 1) ((nD d 916 q_6).2 916) ((t.1 29 2) : Int32).toNatClampNeg ((t.1 18 2) : Int32).toNatClampNeg ((t.1 29 3) : Int32).toNatClampNeg)) from rfl]
    have hle : dLe d (cD (nD d 916 q_6) 916 (va_cpy (t.2.2.1 1) ((nD d 916 q_6).2 916) ((t.1 29 2) : Int32).toNatClampNeg ((t.1 18 2) : Int32).toNatClampNeg ((t.1 29 3) : Int32).toNatClampNeg)) := hle
    have hdf : dFr s.heap.size d (cD (nD d 916 q_6) 916 (va_cpy (t.2.2.1 1) ((nD d 916 q_6).2 916) ((t.1 29 2) : Int32).toNatClampNeg ((t.1 18 2) : Int32).toNatClampNeg ((t.1 29 3) : Int32).toNatClampNeg)) := hdf
    have hod : okD (cD (nD d 916 q_6) 916 (va_cpy (t.2.2.1 1) ((nD d 916 q_6).2 916) ((t.1 29 2) : Int32).toNatClampNeg ((t.1 18 2) : Int32).toNatClampNeg ((t.1 29 3) : Int32).toNatClampNeg)) := okD_c9 (cpy_r (hok.2.1 1) hod)
    refine lv_aload_n C.1 C.2.1 dX6_add_112 rfl (lv_at hl 0 rfl) ?_
    refine lv_dup C.1 C.2.1 dX6_add_113 rfl ?_
    refine k_get (v := .int (t.1 18 2)) C hP 18 rfl rfl inlX6 2 (by decide) m_44_1 rfl dX6_add_114 ?_
    refine lv_aload_n C.1 C.2.1 dX6_add_117 rfl (lv_at hl 1 rfl) ?_
    refine k_get (v := .int (t.1 29 3)) C hP 29 rfl rfl inlX9 3 (by decide) m_44_2 rfl dX6_add_118 ?_
    obtain ⟨v_19, e_20⟩ : ∃ z, z = ((t.1 18 2) : Int32) + ((t.1 29 3) : Int32) := ⟨_, rfl⟩
    have h_21 : v_19.toInt = (t.1 18 2).toInt + (t.1 29 3).toInt := by rw [e_20]; exact ti_iadd (by show (_ : Int) ≤ (t.1 18 2).toInt + (t.1 29 3).toInt; omega) (by show (t.1 18 2).toInt + (t.1 29 3).toInt < (_ : Int); omega)
    refine k_iadd (v := v_19) C e_20.symm dX6_add_121 ?_
    refine k_put (ws' := (WX (cD (nD d 916 q_6) 916 (va_cpy (t.2.2.1 1) ((nD d 916 q_6).2 916) ((t.1 29 2) : Int32).toNatClampNeg ((t.1 18 2) : Int32).toNatClampNeg ((t.1 29 3) : Int32).toNatClampNeg))) K ad (uI t 18 2 v_19)) (v := .int v_19) C hP hD hS 18 rfl rfl inlX6 tyX6_ok nmX6 2 (by decide) m_44_1 rfl rfl rfl rfl rfl dX6_add_122 (fun H locs hP hD hS => ?_)
    have hok : okX (uI t 18 2 v_19) := ⟨okI_I hok.1 18 2 v_19 (show (0 : Int) ≤ (v_19 : Int32).toInt ∧ (v_19 : Int32).toInt ≤ 2700 from ⟨by omega, by omega⟩), hok.2.1, trivial⟩
    have hfr : frA [(18, 2), (18, 3)] [] [] [] t (uI t 18 2 v_19) := frA_I hfr 18 2 _ rfl
    refine lv_aload_n C.1 C.2.1 dX6_add_125 rfl (lv_at hl 0 rfl) ?_
    refine k_get (v := .ref q_6) C hP 18 rfl rfl inlX6 0 (by decide) m_44_0 (rf_eq hnd_7) dX6_add_126 ?_
    refine lv_aload_n C.1 C.2.1 dX6_add_129 rfl (lv_at hl 0 rfl) ?_
    refine k_get (v := .int v_19) C hP 18 rfl rfl inlX6 2 (by decide) m_44_1 rfl dX6_add_130 ?_
    refine lv_bipush (v := 10) C.1 C.2.1 dX6_add_133 (by decide) ?_
    obtain ⟨q_22, hq_23, hs_24⟩ := WX_at916 (K := K) (ad := ad) (t := (uI t 18 2 v_19)) (d := (cD (nD d 916 q_6) 916 (va_cpy (t.2.2.1 1) ((nD d 916 q_6).2 916) ((t.1 29 2) : Int32).toNatClampNeg ((t.1 18 2) : Int32).toNatClampNeg ((t.1 29 3) : Int32).toNatClampNeg))) hnd_7
    refine k_bst (ws' := WX (cD (cD (nD d 916 q_6) 916 (va_cpy (t.2.2.1 1) ((nD d 916 q_6).2 916) ((t.1 29 2) : Int32).toNatClampNeg ((t.1 18 2) : Int32).toNatClampNeg ((t.1 29 3) : Int32).toNatClampNeg)) 916 (upd ((cD (nD d 916 q_6) 916 (va_cpy (t.2.2.1 1) ((nD d 916 q_6).2 916) ((t.1 29 2) : Int32).toNatClampNeg ((t.1 18 2) : Int32).toNatClampNeg ((t.1 29 3) : Int32).toNatClampNeg)).2 916) (v_19 : Int32).toNatClampNeg 10)) K ad (uI t 18 2 v_19)) (x' := 10) C hP hD hS q_22 hq_23 (vp_in_iff.mpr ⟨by omega, by omega⟩) rfl rfl (hs_24 _) dX6_add_135 (fun H locs hP hD hS => ?_)
    rw [show newC d (cD (nD d 916 q_6) 916 (va_cpy (t.2.2.1 1) ((nD d 916 q_6).2 916) ((t.1 29 2) : Int32).toNatClampNeg ((t.1 18 2) : Int32).toNatClampNeg ((t.1 29 3) : Int32).toNatClampNeg)) = newC d (cD (cD (nD d 916 q_6) 916 (va_cpy (t.2.2.1 1) ((nD d 916 q_6).2 916) ((t.1 29 2) : Int32).toNatClampNeg ((t.1 18 2) : Int32).toNatClampNeg ((t.1 29 3) : Int32).toNatClampNeg)) 916 (upd ((cD (nD d 916 q_6) 916 (va_cpy (t.2.2.1 1) ((nD d 916 q_6).2 916) ((t.1 29 2) : Int32).toNatClampNeg ((t.1 18 2) : Int32).toNatClampNeg ((t.1 29 3) : Int32).toNatClampNeg)).2 916) (v_19 : Int32).toNatClampNeg 10)) from rfl]
    have hle : dLe d (cD (cD (nD d 916 q_6) 916 (va_cpy (t.2.2.1 1) ((nD d 916 q_6).2 916) ((t.1 29 2) : Int32).toNatClampNeg ((t.1 18 2) : Int32).toNatClampNeg ((t.1 29 3) : Int32).toNatClampNeg)) 916 (upd ((cD (nD d 916 q_6) 916 (va_cpy (t.2.2.1 1) ((nD d 916 q_6).2 916) ((t.1 29 2) : Int32).toNatClampNeg ((t.1 18 2) : Int32).toNatClampNeg ((t.1 29 3) : Int32).toNatClampNeg)).2 916) (v_19 : Int32).toNatClampNeg 10)) := hle
    have hdf : dFr s.heap.size d (cD (cD (nD d 916 q_6) 916 (va_cpy (t.2.2.1 1) ((nD d 916 q_6).2 916) ((t.1 29 2) : Int32).toNatClampNeg ((t.1 18 2) : Int32).toNatClampNeg ((t.1 29 3) : Int32).toNatClampNeg)) 916 (upd ((cD (nD d 916 q_6) 916 (va_cpy (t.2.2.1 1) ((nD d 916 q_6).2 916) ((t.1 29 2) : Int32).toNatClampNeg ((t.1 18 2) : Int32).toNatClampNeg ((t.1 29 3) : Int32).toNatClampNeg)).2 916) (v_19 : Int32).toNatClampNeg 10)) := hdf
    have hod : okD (cD (cD (nD d 916 q_6) 916 (va_cpy (t.2.2.1 1) ((nD d 916 q_6).2 916) ((t.1 29 2) : Int32).toNatClampNeg ((t.1 18 2) : Int32).toNatClampNeg ((t.1 29 3) : Int32).toNatClampNeg)) 916 (upd ((cD (nD d 916 q_6) 916 (va_cpy (t.2.2.1 1) ((nD d 916 q_6).2 916) ((t.1 29 2) : Int32).toNatClampNeg ((t.1 18 2) : Int32).toNatClampNeg ((t.1 29 3) : Int32).toNatClampNeg)).2 916) (v_19 : Int32).toNatClampNeg 10)) := okD_c9 (fun i => upd_r (hod) (by decide) i)
    refine lv_aload_n C.1 C.2.1 dX6_add_136 rfl (lv_at hl 0 rfl) ?_
    refine lv_dup C.1 C.2.1 dX6_add_137 rfl ?_
    refine k_get (v := .int v_19) C hP 18 rfl rfl inlX6 2 (by decide) m_44_1 rfl dX6_add_138 ?_
    refine lv_iconst (v := 1) C.1 C.2.1 dX6_add_141 (by decide) ?_
    obtain ⟨v_25, e_26⟩ : ∃ z, z = (v_19 : Int32) + (1 : Int32) := ⟨_, rfl⟩
    have h_27 : v_25.toInt = v_19.toInt + 1 := by rw [e_26]; exact ti_iadd (by show (_ : Int) ≤ v_19.toInt + 1; omega) (by show v_19.toInt + 1 < (_ : Int); omega)
    refine k_iadd (v := v_25) C e_26.symm dX6_add_142 ?_
    refine k_put (ws' := (WX (cD (cD (nD d 916 q_6) 916 (va_cpy (t.2.2.1 1) ((nD d 916 q_6).2 916) ((t.1 29 2) : Int32).toNatClampNeg ((t.1 18 2) : Int32).toNatClampNeg ((t.1 29 3) : Int32).toNatClampNeg)) 916 (upd ((cD (nD d 916 q_6) 916 (va_cpy (t.2.2.1 1) ((nD d 916 q_6).2 916) ((t.1 29 2) : Int32).toNatClampNeg ((t.1 18 2) : Int32).toNatClampNeg ((t.1 29 3) : Int32).toNatClampNeg)).2 916) (v_19 : Int32).toNatClampNeg 10))) K ad (uI (uI t 18 2 v_19) 18 2 v_25)) (v := .int v_25) C hP hD hS 18 rfl rfl inlX6 tyX6_ok nmX6 2 (by decide) m_44_1 rfl rfl rfl rfl rfl dX6_add_143 (fun H locs hP hD hS => ?_)
    have hok : okX (uI (uI t 18 2 v_19) 18 2 v_25) := ⟨okI_I hok.1 18 2 v_25 (show (0 : Int) ≤ (v_25 : Int32).toInt ∧ (v_25 : Int32).toInt ≤ 2700 from ⟨by omega, by omega⟩), hok.2.1, trivial⟩
    have hfr : frA [(18, 2), (18, 3)] [] [] [] t (uI (uI t 18 2 v_19) 18 2 v_25) := frA_I hfr 18 2 _ rfl
    refine lv_aload_n C.1 C.2.1 dX6_add_146 rfl (lv_at hl 0 rfl) ?_
    refine lv_dup C.1 C.2.1 dX6_add_147 rfl ?_
    refine k_get (v := .int (t.1 18 3)) C hP 18 rfl rfl inlX6 3 (by decide) m_44_7 rfl dX6_add_148 ?_
    refine lv_iconst (v := 1) C.1 C.2.1 dX6_add_151 (by decide) ?_
    obtain ⟨v_28, e_29⟩ : ∃ z, z = ((t.1 18 3) : Int32) + (1 : Int32) := ⟨_, rfl⟩
    refine k_iadd (v := v_28) C e_29.symm dX6_add_152 ?_
    refine k_put (ws' := (WX (cD (cD (nD d 916 q_6) 916 (va_cpy (t.2.2.1 1) ((nD d 916 q_6).2 916) ((t.1 29 2) : Int32).toNatClampNeg ((t.1 18 2) : Int32).toNatClampNeg ((t.1 29 3) : Int32).toNatClampNeg)) 916 (upd ((cD (nD d 916 q_6) 916 (va_cpy (t.2.2.1 1) ((nD d 916 q_6).2 916) ((t.1 29 2) : Int32).toNatClampNeg ((t.1 18 2) : Int32).toNatClampNeg ((t.1 29 3) : Int32).toNatClampNeg)).2 916) (v_19 : Int32).toNatClampNeg 10))) K ad (uI (uI (uI t 18 2 v_19) 18 2 v_25) 18 3 v_28)) (v := .int v_28) C hP hD hS 18 rfl rfl inlX6 tyX6_ok nmX6 3 (by decide) m_44_7 rfl rfl rfl rfl rfl dX6_add_153 (fun H locs hP hD hS => ?_)
    have hok : okX (uI (uI (uI t 18 2 v_19) 18 2 v_25) 18 3 v_28) := ⟨okI_I hok.1 18 3 v_28 (show (-2147483648 : Int) ≤ (v_28 : Int32).toInt ∧ (v_28 : Int32).toInt ≤ 2147483647 from (i_rng _)), hok.2.1, trivial⟩
    have hfr : frA [(18, 2), (18, 3)] [] [] [] t (uI (uI (uI t 18 2 v_19) 18 2 v_25) 18 3 v_28) := frA_I hfr 18 3 _ rfl
    exact g_Dvret C hr hlocks hP hD hS ⟨hok, hfr, hod, (show v_25.toInt ≤ (t.1 18 2).toInt + (t.1 29 3).toInt + 1 from by omega)⟩ hle hdf (Nat.le_of_ble_eq_true rfl) (Nat.le_of_ble_eq_true rfl) dX6_add_156
  · refine n_ifnonnullS (tgt := 16) C.1 C.2.1 hd_4 dX6_add_4 (by decide) ?_
    refine lv_aload_n C.1 C.2.1 dX6_add_16 rfl (lv_at hl 0 rfl) ?_
    refine k_get (v := .int (t.1 18 2)) C hP 18 rfl rfl inlX6 2 (by decide) m_44_1 rfl dX6_add_17 ?_
    refine lv_aload_n C.1 C.2.1 dX6_add_20 rfl (lv_at hl 1 rfl) ?_
    refine k_get (v := .int (t.1 29 3)) C hP 29 rfl rfl inlX9 3 (by decide) m_44_2 rfl dX6_add_21 ?_
    obtain ⟨v_31, e_32⟩ : ∃ z, z = ((t.1 18 2) : Int32) + ((t.1 29 3) : Int32) := ⟨_, rfl⟩
    have h_33 : v_31.toInt = (t.1 18 2).toInt + (t.1 29 3).toInt := by rw [e_32]; exact ti_iadd (by show (_ : Int) ≤ (t.1 18 2).toInt + (t.1 29 3).toInt; omega) (by show (t.1 18 2).toInt + (t.1 29 3).toInt < (_ : Int); omega)
    refine k_iadd (v := v_31) C e_32.symm dX6_add_24 ?_
    refine lv_sipush (v := 32400) C.1 C.2.1 dX6_add_25 (by decide) ?_
    refine lv_icmp_lt (tgt := 74) C.1 C.2.1 dX6_add_28 (by decide) (fun c_34 => ?_) (fun c_34 => False.elim (by have c_34 : 32400 ≤ v_31.toInt := i_nlt c_34; omega))
    replace c_34 : v_31.toInt < 32400 := i_lt c_34
    refine lv_aload_n C.1 C.2.1 dX6_add_74 rfl (lv_at hl 0 rfl) ?_
    refine k_get (v := .int (t.1 18 2)) C hP 18 rfl rfl inlX6 2 (by decide) m_44_1 rfl dX6_add_75 ?_
    refine lv_aload_n C.1 C.2.1 dX6_add_78 rfl (lv_at hl 1 rfl) ?_
    refine k_get (v := .int (t.1 29 3)) C hP 29 rfl rfl inlX9 3 (by decide) m_44_2 rfl dX6_add_79 ?_
    obtain ⟨v_35, e_36⟩ : ∃ z, z = ((t.1 18 2) : Int32) + ((t.1 29 3) : Int32) := ⟨_, rfl⟩
    have h_37 : v_35.toInt = (t.1 18 2).toInt + (t.1 29 3).toInt := by rw [e_36]; exact ti_iadd (by show (_ : Int) ≤ (t.1 18 2).toInt + (t.1 29 3).toInt; omega) (by show (t.1 18 2).toInt + (t.1 29 3).toInt < (_ : Int); omega)
    refine k_iadd (v := v_35) C e_36.symm dX6_add_82 ?_
    refine lv_sipush (v := 32400) C.1 C.2.1 dX6_add_83 (by decide) ?_
    refine lv_icmp_ge (tgt := 156) C.1 C.2.1 dX6_add_86 (by decide) (fun c_38 => False.elim (by have c_38 : 32400 ≤ v_35.toInt := i_le c_38; omega)) (fun c_38 => ?_)
    replace c_38 : v_35.toInt < 32400 := i_nle c_38
    refine lv_aload_n C.1 C.2.1 dX6_add_89 rfl (lv_at hl 1 rfl) ?_
    refine k_get (v := .ref (ad 1)) C hP 29 rfl rfl inlX9 0 (by decide) m_44_5 rfl dX6_add_90 ?_
    refine lv_aload_n C.1 C.2.1 dX6_add_93 rfl (lv_at hl 1 rfl) ?_
    refine k_get (v := .int (t.1 29 2)) C hP 29 rfl rfl inlX9 2 (by decide) m_44_6 rfl dX6_add_94 ?_
    refine lv_aload_n C.1 C.2.1 dX6_add_97 rfl (lv_at hl 0 rfl) ?_
    refine k_get (v := .ref a_5) C hP 18 rfl rfl inlX6 0 (by decide) m_44_0 (rf_eq hd_4) dX6_add_98 ?_
    refine lv_aload_n C.1 C.2.1 dX6_add_101 rfl (lv_at hl 0 rfl) ?_
    refine k_get (v := .int (t.1 18 2)) C hP 18 rfl rfl inlX6 2 (by decide) m_44_1 rfl dX6_add_102 ?_
    refine lv_aload_n C.1 C.2.1 dX6_add_105 rfl (lv_at hl 1 rfl) ?_
    refine k_get (v := .int (t.1 29 3)) C hP 29 rfl rfl inlX9 3 (by decide) m_44_2 rfl dX6_add_106 ?_
    obtain ⟨q_39, hq_40, hs_41⟩ := WX_at916 (K := K) (ad := ad) (t := t) (d := d) hd_4
    refine k_copy (ws' := WX (cD d 916 (va_cpy (t.2.2.1 1) (d.2 916) ((t.1 29 2) : Int32).toNatClampNeg ((t.1 18 2) : Int32).toNatClampNeg ((t.1 29 3) : Int32).toNatClampNeg)) K ad t) C hl.1 hP hD hS 1 q_39 2 rfl hq_40 rfl rfl (fun hz => by have hz2 : (t.1 29 2).toInt < 0 := i_lt hz; omega) (fun hz => by have hz2 : (t.1 18 2).toInt < 0 := i_lt hz; omega) (fun hz => by have hz2 : (t.1 29 3).toInt < 0 := i_lt hz; omega) rfl rfl rfl (by have hq1 := clamp_eq (x := ((t.1 29 2) : Int32)) (by first | decide | omega); have hq2 := clamp_eq (x := ((t.1 29 3) : Int32)) (by first | decide | omega); first | (have hq3 : ((t.1 29 2) : Int32).toInt = 0 := rfl; omega) | (have hq3 : ((t.1 29 3) : Int32).toInt = 0 := rfl; omega) | (have hq3 : ((t.1 29 2) : Int32).toInt = 0 := rfl; have hq4 : ((t.1 29 3) : Int32).toInt = 0 := rfl; omega) | omega) (by have hq1 := clamp_eq (x := ((t.1 18 2) : Int32)) (by first | decide | omega); have hq2 := clamp_eq (x := ((t.1 29 3) : Int32)) (by first | decide | omega); first | (have hq3 : ((t.1 18 2) : Int32).toInt = 0 := rfl; omega) | (have hq3 : ((t.1 29 3) : Int32).toInt = 0 := rfl; omega) | (have hq3 : ((t.1 18 2) : Int32).toInt = 0 := rfl; have hq4 : ((t.1 29 3) : Int32).toInt = 0 := rfl; omega) | omega) (fun i hi => fit_b (hok.2.1 1 _)) m_44_4 m_10_14 m_10_15 m_10_16 (Nat.le_of_ble_eq_true rfl) (Nat.le_of_ble_eq_true rfl) (hs_41 _) dX6_add_109 (fun H locs hP hD hS => ?_)
    rw [show newC d d = newC d (cD d 916 (va_cpy (t.2.2.1 1) (d.2 916) ((t.1 29 2) : Int32).toNatClampNeg ((t.1 18 2) : Int32).toNatClampNeg ((t.1 29 3) : Int32).toNatClampNeg)) from rfl]
    have hle : dLe d (cD d 916 (va_cpy (t.2.2.1 1) (d.2 916) ((t.1 29 2) : Int32).toNatClampNeg ((t.1 18 2) : Int32).toNatClampNeg ((t.1 29 3) : Int32).toNatClampNeg)) := hle
    have hdf : dFr s.heap.size d (cD d 916 (va_cpy (t.2.2.1 1) (d.2 916) ((t.1 29 2) : Int32).toNatClampNeg ((t.1 18 2) : Int32).toNatClampNeg ((t.1 29 3) : Int32).toNatClampNeg)) := hdf
    have hod : okD (cD d 916 (va_cpy (t.2.2.1 1) (d.2 916) ((t.1 29 2) : Int32).toNatClampNeg ((t.1 18 2) : Int32).toNatClampNeg ((t.1 29 3) : Int32).toNatClampNeg)) := okD_c9 (cpy_r (hok.2.1 1) hod)
    refine lv_aload_n C.1 C.2.1 dX6_add_112 rfl (lv_at hl 0 rfl) ?_
    refine lv_dup C.1 C.2.1 dX6_add_113 rfl ?_
    refine k_get (v := .int (t.1 18 2)) C hP 18 rfl rfl inlX6 2 (by decide) m_44_1 rfl dX6_add_114 ?_
    refine lv_aload_n C.1 C.2.1 dX6_add_117 rfl (lv_at hl 1 rfl) ?_
    refine k_get (v := .int (t.1 29 3)) C hP 29 rfl rfl inlX9 3 (by decide) m_44_2 rfl dX6_add_118 ?_
    obtain ⟨v_42, e_43⟩ : ∃ z, z = ((t.1 18 2) : Int32) + ((t.1 29 3) : Int32) := ⟨_, rfl⟩
    have h_44 : v_42.toInt = (t.1 18 2).toInt + (t.1 29 3).toInt := by rw [e_43]; exact ti_iadd (by show (_ : Int) ≤ (t.1 18 2).toInt + (t.1 29 3).toInt; omega) (by show (t.1 18 2).toInt + (t.1 29 3).toInt < (_ : Int); omega)
    refine k_iadd (v := v_42) C e_43.symm dX6_add_121 ?_
    refine k_put (ws' := (WX (cD d 916 (va_cpy (t.2.2.1 1) (d.2 916) ((t.1 29 2) : Int32).toNatClampNeg ((t.1 18 2) : Int32).toNatClampNeg ((t.1 29 3) : Int32).toNatClampNeg))) K ad (uI t 18 2 v_42)) (v := .int v_42) C hP hD hS 18 rfl rfl inlX6 tyX6_ok nmX6 2 (by decide) m_44_1 rfl rfl rfl rfl rfl dX6_add_122 (fun H locs hP hD hS => ?_)
    have hok : okX (uI t 18 2 v_42) := ⟨okI_I hok.1 18 2 v_42 (show (0 : Int) ≤ (v_42 : Int32).toInt ∧ (v_42 : Int32).toInt ≤ 2700 from ⟨by omega, by omega⟩), hok.2.1, trivial⟩
    have hfr : frA [(18, 2), (18, 3)] [] [] [] t (uI t 18 2 v_42) := frA_I hfr 18 2 _ rfl
    refine lv_aload_n C.1 C.2.1 dX6_add_125 rfl (lv_at hl 0 rfl) ?_
    refine k_get (v := .ref a_5) C hP 18 rfl rfl inlX6 0 (by decide) m_44_0 (rf_eq hd_4) dX6_add_126 ?_
    refine lv_aload_n C.1 C.2.1 dX6_add_129 rfl (lv_at hl 0 rfl) ?_
    refine k_get (v := .int v_42) C hP 18 rfl rfl inlX6 2 (by decide) m_44_1 rfl dX6_add_130 ?_
    refine lv_bipush (v := 10) C.1 C.2.1 dX6_add_133 (by decide) ?_
    obtain ⟨q_45, hq_46, hs_47⟩ := WX_at916 (K := K) (ad := ad) (t := (uI t 18 2 v_42)) (d := (cD d 916 (va_cpy (t.2.2.1 1) (d.2 916) ((t.1 29 2) : Int32).toNatClampNeg ((t.1 18 2) : Int32).toNatClampNeg ((t.1 29 3) : Int32).toNatClampNeg))) hd_4
    refine k_bst (ws' := WX (cD (cD d 916 (va_cpy (t.2.2.1 1) (d.2 916) ((t.1 29 2) : Int32).toNatClampNeg ((t.1 18 2) : Int32).toNatClampNeg ((t.1 29 3) : Int32).toNatClampNeg)) 916 (upd ((cD d 916 (va_cpy (t.2.2.1 1) (d.2 916) ((t.1 29 2) : Int32).toNatClampNeg ((t.1 18 2) : Int32).toNatClampNeg ((t.1 29 3) : Int32).toNatClampNeg)).2 916) (v_42 : Int32).toNatClampNeg 10)) K ad (uI t 18 2 v_42)) (x' := 10) C hP hD hS q_45 hq_46 (vp_in_iff.mpr ⟨by omega, by omega⟩) rfl rfl (hs_47 _) dX6_add_135 (fun H locs hP hD hS => ?_)
    rw [show newC d (cD d 916 (va_cpy (t.2.2.1 1) (d.2 916) ((t.1 29 2) : Int32).toNatClampNeg ((t.1 18 2) : Int32).toNatClampNeg ((t.1 29 3) : Int32).toNatClampNeg)) = newC d (cD (cD d 916 (va_cpy (t.2.2.1 1) (d.2 916) ((t.1 29 2) : Int32).toNatClampNeg ((t.1 18 2) : Int32).toNatClampNeg ((t.1 29 3) : Int32).toNatClampNeg)) 916 (upd ((cD d 916 (va_cpy (t.2.2.1 1) (d.2 916) ((t.1 29 2) : Int32).toNatClampNeg ((t.1 18 2) : Int32).toNatClampNeg ((t.1 29 3) : Int32).toNatClampNeg)).2 916) (v_42 : Int32).toNatClampNeg 10)) from rfl]
    have hle : dLe d (cD (cD d 916 (va_cpy (t.2.2.1 1) (d.2 916) ((t.1 29 2) : Int32).toNatClampNeg ((t.1 18 2) : Int32).toNatClampNeg ((t.1 29 3) : Int32).toNatClampNeg)) 916 (upd ((cD d 916 (va_cpy (t.2.2.1 1) (d.2 916) ((t.1 29 2) : Int32).toNatClampNeg ((t.1 18 2) : Int32).toNatClampNeg ((t.1 29 3) : Int32).toNatClampNeg)).2 916) (v_42 : Int32).toNatClampNeg 10)) := hle
    have hdf : dFr s.heap.size d (cD (cD d 916 (va_cpy (t.2.2.1 1) (d.2 916) ((t.1 29 2) : Int32).toNatClampNeg ((t.1 18 2) : Int32).toNatClampNeg ((t.1 29 3) : Int32).toNatClampNeg)) 916 (upd ((cD d 916 (va_cpy (t.2.2.1 1) (d.2 916) ((t.1 29 2) : Int32).toNatClampNeg ((t.1 18 2) : Int32).toNatClampNeg ((t.1 29 3) : Int32).toNatClampNeg)).2 916) (v_42 : Int32).toNatClampNeg 10)) := hdf
    have hod : okD (cD (cD d 916 (va_cpy (t.2.2.1 1) (d.2 916) ((t.1 29 2) : Int32).toNatClampNeg ((t.1 18 2) : Int32).toNatClampNeg ((t.1 29 3) : Int32).toNatClampNeg)) 916 (upd ((cD d 916 (va_cpy (t.2.2.1 1) (d.2 916) ((t.1 29 2) : Int32).toNatClampNeg ((t.1 18 2) : Int32).toNatClampNeg ((t.1 29 3) : Int32).toNatClampNeg)).2 916) (v_42 : Int32).toNatClampNeg 10)) := okD_c9 (fun i => upd_r (hod) (by decide) i)
    refine lv_aload_n C.1 C.2.1 dX6_add_136 rfl (lv_at hl 0 rfl) ?_
    refine lv_dup C.1 C.2.1 dX6_add_137 rfl ?_
    refine k_get (v := .int v_42) C hP 18 rfl rfl inlX6 2 (by decide) m_44_1 rfl dX6_add_138 ?_
    refine lv_iconst (v := 1) C.1 C.2.1 dX6_add_141 (by decide) ?_
    obtain ⟨v_48, e_49⟩ : ∃ z, z = (v_42 : Int32) + (1 : Int32) := ⟨_, rfl⟩
    have h_50 : v_48.toInt = v_42.toInt + 1 := by rw [e_49]; exact ti_iadd (by show (_ : Int) ≤ v_42.toInt + 1; omega) (by show v_42.toInt + 1 < (_ : Int); omega)
    refine k_iadd (v := v_48) C e_49.symm dX6_add_142 ?_
    refine k_put (ws' := (WX (cD (cD d 916 (va_cpy (t.2.2.1 1) (d.2 916) ((t.1 29 2) : Int32).toNatClampNeg ((t.1 18 2) : Int32).toNatClampNeg ((t.1 29 3) : Int32).toNatClampNeg)) 916 (upd ((cD d 916 (va_cpy (t.2.2.1 1) (d.2 916) ((t.1 29 2) : Int32).toNatClampNeg ((t.1 18 2) : Int32).toNatClampNeg ((t.1 29 3) : Int32).toNatClampNeg)).2 916) (v_42 : Int32).toNatClampNeg 10))) K ad (uI (uI t 18 2 v_42) 18 2 v_48)) (v := .int v_48) C hP hD hS 18 rfl rfl inlX6 tyX6_ok nmX6 2 (by decide) m_44_1 rfl rfl rfl rfl rfl dX6_add_143 (fun H locs hP hD hS => ?_)
    have hok : okX (uI (uI t 18 2 v_42) 18 2 v_48) := ⟨okI_I hok.1 18 2 v_48 (show (0 : Int) ≤ (v_48 : Int32).toInt ∧ (v_48 : Int32).toInt ≤ 2700 from ⟨by omega, by omega⟩), hok.2.1, trivial⟩
    have hfr : frA [(18, 2), (18, 3)] [] [] [] t (uI (uI t 18 2 v_42) 18 2 v_48) := frA_I hfr 18 2 _ rfl
    refine lv_aload_n C.1 C.2.1 dX6_add_146 rfl (lv_at hl 0 rfl) ?_
    refine lv_dup C.1 C.2.1 dX6_add_147 rfl ?_
    refine k_get (v := .int (t.1 18 3)) C hP 18 rfl rfl inlX6 3 (by decide) m_44_7 rfl dX6_add_148 ?_
    refine lv_iconst (v := 1) C.1 C.2.1 dX6_add_151 (by decide) ?_
    obtain ⟨v_51, e_52⟩ : ∃ z, z = ((t.1 18 3) : Int32) + (1 : Int32) := ⟨_, rfl⟩
    refine k_iadd (v := v_51) C e_52.symm dX6_add_152 ?_
    refine k_put (ws' := (WX (cD (cD d 916 (va_cpy (t.2.2.1 1) (d.2 916) ((t.1 29 2) : Int32).toNatClampNeg ((t.1 18 2) : Int32).toNatClampNeg ((t.1 29 3) : Int32).toNatClampNeg)) 916 (upd ((cD d 916 (va_cpy (t.2.2.1 1) (d.2 916) ((t.1 29 2) : Int32).toNatClampNeg ((t.1 18 2) : Int32).toNatClampNeg ((t.1 29 3) : Int32).toNatClampNeg)).2 916) (v_42 : Int32).toNatClampNeg 10))) K ad (uI (uI (uI t 18 2 v_42) 18 2 v_48) 18 3 v_51)) (v := .int v_51) C hP hD hS 18 rfl rfl inlX6 tyX6_ok nmX6 3 (by decide) m_44_7 rfl rfl rfl rfl rfl dX6_add_153 (fun H locs hP hD hS => ?_)
    have hok : okX (uI (uI (uI t 18 2 v_42) 18 2 v_48) 18 3 v_51) := ⟨okI_I hok.1 18 3 v_51 (show (-2147483648 : Int) ≤ (v_51 : Int32).toInt ∧ (v_51 : Int32).toInt ≤ 2147483647 from (i_rng _)), hok.2.1, trivial⟩
    have hfr : frA [(18, 2), (18, 3)] [] [] [] t (uI (uI (uI t 18 2 v_42) 18 2 v_48) 18 3 v_51) := frA_I hfr 18 3 _ rfl
    exact g_Dvret C hr hlocks hP hD hS ⟨hok, hfr, hod, (show v_48.toInt ≤ (t.1 18 2).toInt + (t.1 29 3).toInt + 1 from by omega)⟩ hle hdf (Nat.le_of_ble_eq_true rfl) (Nat.le_of_ble_eq_true rfl) dX6_add_156

theorem dX6_take_0 : decode cX6_take 0 = .ok (.aload_n 0, 1) := by decide +kernel
theorem dX6_take_1 : decode cX6_take 1 = .ok (.iconst 0, 1) := by decide +kernel
theorem dX6_take_10 : decode cX6_take 10 = .ok (.istore_n 3, 1) := by decide +kernel
theorem dX6_take_100 : decode cX6_take 100 = .ok (.iload_n 3, 1) := by decide +kernel
theorem dX6_take_101 : decode cX6_take 101 = .ok (.aload_n 1, 1) := by decide +kernel
theorem dX6_take_102 : decode cX6_take 102 = .ok (.arraylength, 1) := by decide +kernel
theorem dX6_take_103 : decode cX6_take 103 = .ok (.if_icmp .ge 8, 3) := by decide +kernel
theorem dX6_take_106 : decode cX6_take 106 = .ok (.aload_n 1, 1) := by decide +kernel
theorem dX6_take_107 : decode cX6_take 107 = .ok (.iload_n 3, 1) := by decide +kernel
theorem dX6_take_108 : decode cX6_take 108 = .ok (.iload 4, 2) := by decide +kernel
theorem dX6_take_11 : decode cX6_take 11 = .ok (.iload_n 3, 1) := by decide +kernel
theorem dX6_take_110 : decode cX6_take 110 = .ok (.iastore, 1) := by decide +kernel
theorem dX6_take_111 : decode cX6_take 111 = .ok (.iinc 3 1, 3) := by decide +kernel
theorem dX6_take_114 : decode cX6_take 114 = .ok (.goto (-103), 3) := by decide +kernel
theorem dX6_take_117 : decode cX6_take 117 = .ok (.aload_n 0, 1) := by decide +kernel
theorem dX6_take_118 : decode cX6_take 118 = .ok (.dup, 1) := by decide +kernel
theorem dX6_take_119 : decode cX6_take 119 = .ok (.getfield 11, 3) := by decide +kernel
theorem dX6_take_12 : decode cX6_take 12 = .ok (.iload_n 2, 1) := by decide +kernel
theorem dX6_take_122 : decode cX6_take 122 = .ok (.iconst 1, 1) := by decide +kernel
theorem dX6_take_123 : decode cX6_take 123 = .ok (.iadd, 1) := by decide +kernel
theorem dX6_take_124 : decode cX6_take 124 = .ok (.putfield 11, 3) := by decide +kernel
theorem dX6_take_127 : decode cX6_take 127 = .ok (.aload_n 0, 1) := by decide +kernel
theorem dX6_take_128 : decode cX6_take 128 = .ok (.dup, 1) := by decide +kernel
theorem dX6_take_129 : decode cX6_take 129 = .ok (.getfield 18, 3) := by decide +kernel
theorem dX6_take_13 : decode cX6_take 13 = .ok (.bipush 16, 2) := by decide +kernel
theorem dX6_take_132 : decode cX6_take 132 = .ok (.iconst 1, 1) := by decide +kernel
theorem dX6_take_133 : decode cX6_take 133 = .ok (.isub, 1) := by decide +kernel
theorem dX6_take_134 : decode cX6_take 134 = .ok (.putfield 18, 3) := by decide +kernel
theorem dX6_take_137 : decode cX6_take 137 = .ok (.return_, 1) := by decide +kernel
theorem dX6_take_15 : decode cX6_take 15 = .ok (.iadd, 1) := by decide +kernel
theorem dX6_take_16 : decode cX6_take 16 = .ok (.if_icmp .ge 101, 3) := by decide +kernel
theorem dX6_take_19 : decode cX6_take 19 = .ok (.iconst 0, 1) := by decide +kernel
theorem dX6_take_2 : decode cX6_take 2 = .ok (.invokevirtual 40, 3) := by decide +kernel
theorem dX6_take_20 : decode cX6_take 20 = .ok (.istore 4, 2) := by decide +kernel
theorem dX6_take_22 : decode cX6_take 22 = .ok (.iconst 0, 1) := by decide +kernel
theorem dX6_take_23 : decode cX6_take 23 = .ok (.istore 5, 2) := by decide +kernel
theorem dX6_take_25 : decode cX6_take 25 = .ok (.iload 5, 2) := by decide +kernel
theorem dX6_take_27 : decode cX6_take 27 = .ok (.iconst 5, 1) := by decide +kernel
theorem dX6_take_28 : decode cX6_take 28 = .ok (.if_icmp .ge 68, 3) := by decide +kernel
theorem dX6_take_31 : decode cX6_take 31 = .ok (.iload 4, 2) := by decide +kernel
theorem dX6_take_33 : decode cX6_take 33 = .ok (.bipush 6, 2) := by decide +kernel
theorem dX6_take_35 : decode cX6_take 35 = .ok (.ishl, 1) := by decide +kernel
theorem dX6_take_36 : decode cX6_take 36 = .ok (.istore 4, 2) := by decide +kernel
theorem dX6_take_38 : decode cX6_take 38 = .ok (.aload_n 0, 1) := by decide +kernel
theorem dX6_take_39 : decode cX6_take 39 = .ok (.getfield 11, 3) := by decide +kernel
theorem dX6_take_42 : decode cX6_take 42 = .ok (.aload_n 0, 1) := by decide +kernel
theorem dX6_take_43 : decode cX6_take 43 = .ok (.getfield 15, 3) := by decide +kernel
theorem dX6_take_46 : decode cX6_take 46 = .ok (.if_icmp .ge 44, 3) := by decide +kernel
theorem dX6_take_49 : decode cX6_take 49 = .ok (.aload_n 0, 1) := by decide +kernel
theorem dX6_take_5 : decode cX6_take 5 = .ok (.ifCond .ne 4, 3) := by decide +kernel
theorem dX6_take_50 : decode cX6_take 50 = .ok (.getfield 21, 3) := by decide +kernel
theorem dX6_take_53 : decode cX6_take 53 = .ok (.aload_n 0, 1) := by decide +kernel
theorem dX6_take_54 : decode cX6_take 54 = .ok (.getfield 11, 3) := by decide +kernel
theorem dX6_take_57 : decode cX6_take 57 = .ok (.baload, 1) := by decide +kernel
theorem dX6_take_58 : decode cX6_take 58 = .ok (.bipush 10, 2) := by decide +kernel
theorem dX6_take_60 : decode cX6_take 60 = .ok (.if_icmp .eq 30, 3) := by decide +kernel
theorem dX6_take_63 : decode cX6_take 63 = .ok (.iload 4, 2) := by decide +kernel
theorem dX6_take_65 : decode cX6_take 65 = .ok (.aload_n 0, 1) := by decide +kernel
theorem dX6_take_66 : decode cX6_take 66 = .ok (.getfield 21, 3) := by decide +kernel
theorem dX6_take_69 : decode cX6_take 69 = .ok (.aload_n 0, 1) := by decide +kernel
theorem dX6_take_70 : decode cX6_take 70 = .ok (.getfield 11, 3) := by decide +kernel
theorem dX6_take_73 : decode cX6_take 73 = .ok (.baload, 1) := by decide +kernel
theorem dX6_take_74 : decode cX6_take 74 = .ok (.invokestatic 44, 3) := by decide +kernel
theorem dX6_take_77 : decode cX6_take 77 = .ok (.ior, 1) := by decide +kernel
theorem dX6_take_78 : decode cX6_take 78 = .ok (.istore 4, 2) := by decide +kernel
theorem dX6_take_8 : decode cX6_take 8 = .ok (.return_, 1) := by decide +kernel
theorem dX6_take_80 : decode cX6_take 80 = .ok (.aload_n 0, 1) := by decide +kernel
theorem dX6_take_81 : decode cX6_take 81 = .ok (.dup, 1) := by decide +kernel
theorem dX6_take_82 : decode cX6_take 82 = .ok (.getfield 11, 3) := by decide +kernel
theorem dX6_take_85 : decode cX6_take 85 = .ok (.iconst 1, 1) := by decide +kernel
theorem dX6_take_86 : decode cX6_take 86 = .ok (.iadd, 1) := by decide +kernel
theorem dX6_take_87 : decode cX6_take 87 = .ok (.putfield 11, 3) := by decide +kernel
theorem dX6_take_9 : decode cX6_take 9 = .ok (.iload_n 2, 1) := by decide +kernel
theorem dX6_take_90 : decode cX6_take 90 = .ok (.iinc 5 1, 3) := by decide +kernel
theorem dX6_take_93 : decode cX6_take 93 = .ok (.goto (-68), 3) := by decide +kernel
theorem dX6_take_96 : decode cX6_take 96 = .ok (.iload_n 3, 1) := by decide +kernel
theorem dX6_take_97 : decode cX6_take 97 = .ok (.ifCond .lt 14, 3) := by decide +kernel
set_option maxHeartbeats 4000000 in
set_option maxRecDepth 100000 in
theorem T_X6_take (l : Launch) (D : va_G) (K : Nat → ClassId) (Z Y : Nat → Nat) (ad : Nat → Nat) (d : dSt) (t : tSt) (hok : okX t) (hod : okD d) (x2 : Int32) (hx2 : (3999 : Int) ≤ x2.toInt ∧ x2.toInt ≤ 3999) : tMet l yX6_take cX6_take 6 none (rmD 6 0 0) D K Z Y [.ref (ad 18), .ref (ad 10), .int x2] ((WX d) K ad t) (QV D K (fun (u : tSt) => okX u ∧ frA [(18, 1), (18, 3)] [] [10] [] t u) (fun (u : tSt) => (WX d) K ad u)) 0 0 := by
  refine t_met RX6 ⟨rfl, by decide +kernel⟩ (Nat.le_of_ble_eq_true rfl) ?_
  intro p e s m below meth c A ls C hE hZ hr hlocks hA hP hD hS hl
  have hl : lv_has ls 6 [(0, .ref (ad 18)), (1, .ref (ad 10)), (2, .int x2)] := hl
  have hokt := hok
  have hfr : frA [(18, 1), (18, 3)] [] [10] [] t t := frA_rf
  have h_1 : (0 : Int) ≤ (t.1 18 1).toInt ∧ (t.1 18 1).toInt ≤ 2701 := hok.1 18 1
  have h_2 : (0 : Int) ≤ (t.1 18 2).toInt ∧ (t.1 18 2).toInt ≤ 2700 := hok.1 18 2
  have L_11 : ∀ (fuel_11 : Nat) (t1 : tSt) (w11_3 : Int32) (H : Heap) (locs : List Loc) (ls : Array Slot), okX t1 → frA [(18, 1), (18, 3)] [] [10] [] t t1 → (3999 : Int) ≤ w11_3.toInt ∧ w11_3.toInt ≤ 4096 → (∃ a, d.1 916 = some a) → ((t1.1 18 1).toInt ≤ 2700) → (x2.toInt ≤ w11_3.toInt) → (w11_3.toInt ≤ x2.toInt + 16) → (x2.toInt + 16 - w11_3.toInt) < (fuel_11 : Int) → va_P D vwCl ((WX d) K ad t1) H → va_D A ((WX d) K ad t1) → va_S A s.heap H locs → lv_has ls 6 [(0, .ref (ad 18)), (1, .ref (ad 10)), (2, .int x2), (3, .int w11_3)] → W p l e (rmD 6 0 0) s m [.ref (ad 18), .ref (ad 10), .int x2].toArray below meth c H locs 0 0 (MQ below (QV D K (fun (u : tSt) => okX u ∧ frA [(18, 1), (18, 3)] [] [10] [] t u) (fun (u : tSt) => (WX d) K ad u) A) [.ref (ad 18), .ref (ad 10), .int x2].toArray s 0 0 A) (F0 m 11 ls []) := by
    intro fuel_11
    induction fuel_11 with
    | zero =>
      intro t1 w11_3 H locs ls hok hfr hw11_3 hi11_0 hi11_1 hi11_2 hi11_3 hm11_11 hP hD hS hl; obtain ⟨a_916, hp_916⟩ := hi11_0
      have h_3 : (t1.1 18 2).toInt = (t.1 18 2).toInt := ti_eq (hfr.1 18 2 rfl)
      have h_4 : (0 : Int) ≤ (t1.1 18 1).toInt ∧ (t1.1 18 1).toInt ≤ 2701 := hok.1 18 1
      have h_5 : (0 : Int) ≤ (t1.1 18 2).toInt ∧ (t1.1 18 2).toInt ≤ 2700 := hok.1 18 2
      exact absurd hm11_11 (by omega)
    | succ fuel_11 ih_11 =>
      intro t1 w11_3 H locs ls hok hfr hw11_3 hi11_0 hi11_1 hi11_2 hi11_3 hm11_11 hP hD hS hl; obtain ⟨a_916, hp_916⟩ := hi11_0
      have hm11_11 : (x2.toInt + 16 - w11_3.toInt) < (fuel_11 : Int) + 1 := by omega
      have h_6 : (t1.1 18 2).toInt = (t.1 18 2).toInt := ti_eq (hfr.1 18 2 rfl)
      have h_7 : (0 : Int) ≤ (t1.1 18 1).toInt ∧ (t1.1 18 1).toInt ≤ 2701 := hok.1 18 1
      have h_8 : (0 : Int) ≤ (t1.1 18 2).toInt ∧ (t1.1 18 2).toInt ≤ 2700 := hok.1 18 2
      have L_111 : ∀ (t1 : tSt) (w111_3 : Int32) (w111_4 : Int32) (w111_5 : Int32) (H : Heap) (locs : List Loc) (ls : Array Slot), okX t1 → frA [(18, 1), (18, 3)] [] [10] [] t t1 → (3999 : Int) ≤ w111_3.toInt ∧ w111_3.toInt ≤ 4095 → (5 : Int) ≤ w111_5.toInt ∧ w111_5.toInt ≤ 5 → (∃ a, d.1 916 = some a) → ((t1.1 18 1).toInt ≤ 2700) → (x2.toInt ≤ w111_3.toInt) → (w111_3.toInt < x2.toInt + 16) → (x2.toInt + 16 - w111_3.toInt) < (fuel_11 : Int) + 1 → va_P D vwCl ((WX d) K ad t1) H → va_D A ((WX d) K ad t1) → va_S A s.heap H locs → lv_has ls 6 [(0, .ref (ad 18)), (1, .ref (ad 10)), (2, .int x2), (3, .int w111_3), (4, .int w111_4), (5, .int w111_5)] → W p l e (rmD 6 0 0) s m [.ref (ad 18), .ref (ad 10), .int x2].toArray below meth c H locs 0 0 (MQ below (QV D K (fun (u : tSt) => okX u ∧ frA [(18, 1), (18, 3)] [] [10] [] t u) (fun (u : tSt) => (WX d) K ad u) A) [.ref (ad 18), .ref (ad 10), .int x2].toArray s 0 0 A) (F0 m 111 ls []) := by
        intro t1 w111_3 w111_4 w111_5 H locs ls hok hfr hw111_3 hw111_5 hi111_0 hi111_1 hi111_2 hi111_3 hm111_11 hP hD hS hl; obtain ⟨a_916, hp_916⟩ := hi111_0
        have h_9 : (t1.1 18 2).toInt = (t.1 18 2).toInt := ti_eq (hfr.1 18 2 rfl)
        have h_10 : (0 : Int) ≤ (t1.1 18 1).toInt ∧ (t1.1 18 1).toInt ≤ 2701 := hok.1 18 1
        have h_11 : (0 : Int) ≤ (t1.1 18 2).toInt ∧ (t1.1 18 2).toInt ≤ 2700 := hok.1 18 2
        obtain ⟨v_12, e_13⟩ : ∃ z, z = w111_3 + 1 := ⟨_, rfl⟩
        have h_14 : v_12.toInt = w111_3.toInt + 1 := by rw [e_13]; exact ti_iadd (by show (_ : Int) ≤ w111_3.toInt + 1; omega) (by show w111_3.toInt + 1 < (_ : Int); omega)
        refine lv_iinc (v := v_12) (lv' := [(3, .int v_12), (0, .ref (ad 18)), (1, .ref (ad 10)), (2, .int x2), (4, .int w111_4), (5, .int w111_5)]) C.1 C.2.1 dX6_take_111 hl (k := 3) rfl e_13.symm (by decide) rfl (fun ls hl => ?_)
        have hl : lv_has ls 6 [(0, .ref (ad 18)), (1, .ref (ad 10)), (2, .int x2), (3, .int v_12), (4, .int w111_4), (5, .int w111_5)] := lv_sub hl [1, 2, 3, 0, 4, 5] rfl
        refine lv_goto (tgt := 11) C.1 C.2.1 dX6_take_114 (by decide) ?_
        exact ih_11 t1 v_12 _ _ _ hok hfr ⟨by omega, by omega⟩ (show ∃ a, d.1 916 = some a from by exact ⟨_, hp_916⟩) (show (t1.1 18 1).toInt ≤ 2700 from by omega) (show x2.toInt ≤ v_12.toInt from by omega) (show v_12.toInt ≤ x2.toInt + 16 from by omega) (show (x2.toInt + 16 - v_12.toInt) < (fuel_11 : Int) from by omega) hP hD hS (lv_sub hl [0, 1, 2, 3] rfl)
      have L_25 : ∀ (fuel_25 : Nat) (t1 : tSt) (w25_3 : Int32) (w25_4 : Int32) (w25_5 : Int32) (H : Heap) (locs : List Loc) (ls : Array Slot), okX t1 → frA [(18, 1), (18, 3)] [] [10] [] t t1 → (3999 : Int) ≤ w25_3.toInt ∧ w25_3.toInt ≤ 4095 → (0 : Int) ≤ w25_5.toInt ∧ w25_5.toInt ≤ 5 → (∃ a, d.1 916 = some a) → ((t1.1 18 1).toInt ≤ 2700) → (x2.toInt ≤ w25_3.toInt) → (w25_3.toInt < x2.toInt + 16) → (x2.toInt + 16 - w25_3.toInt) < (fuel_11 : Int) + 1 → (5 : Int) - w25_5.toInt < (fuel_25 : Int) → va_P D vwCl ((WX d) K ad t1) H → va_D A ((WX d) K ad t1) → va_S A s.heap H locs → lv_has ls 6 [(0, .ref (ad 18)), (1, .ref (ad 10)), (2, .int x2), (3, .int w25_3), (4, .int w25_4), (5, .int w25_5)] → W p l e (rmD 6 0 0) s m [.ref (ad 18), .ref (ad 10), .int x2].toArray below meth c H locs 0 0 (MQ below (QV D K (fun (u : tSt) => okX u ∧ frA [(18, 1), (18, 3)] [] [10] [] t u) (fun (u : tSt) => (WX d) K ad u) A) [.ref (ad 18), .ref (ad 10), .int x2].toArray s 0 0 A) (F0 m 25 ls []) := by
        intro fuel_25
        induction fuel_25 with
        | zero =>
          intro t1 w25_3 w25_4 w25_5 H locs ls hok hfr hw25_3 hw25_5 hi25_0 hi25_1 hi25_2 hi25_3 hm25_11 hm25_25 hP hD hS hl; obtain ⟨a_916, hp_916⟩ := hi25_0
          have h_15 : (t1.1 18 2).toInt = (t.1 18 2).toInt := ti_eq (hfr.1 18 2 rfl)
          have h_16 : (0 : Int) ≤ (t1.1 18 1).toInt ∧ (t1.1 18 1).toInt ≤ 2701 := hok.1 18 1
          have h_17 : (0 : Int) ≤ (t1.1 18 2).toInt ∧ (t1.1 18 2).toInt ≤ 2700 := hok.1 18 2
          exact absurd hm25_25 (by omega)
        | succ fuel_25 ih_25 =>
          intro t1 w25_3 w25_4 w25_5 H locs ls hok hfr hw25_3 hw25_5 hi25_0 hi25_1 hi25_2 hi25_3 hm25_11 hm25_25 hP hD hS hl; obtain ⟨a_916, hp_916⟩ := hi25_0
          have hm25_25 : (5 : Int) - w25_5.toInt < (fuel_25 : Int) + 1 := by omega
          have h_18 : (t1.1 18 2).toInt = (t.1 18 2).toInt := ti_eq (hfr.1 18 2 rfl)
          have h_19 : (0 : Int) ≤ (t1.1 18 1).toInt ∧ (t1.1 18 1).toInt ≤ 2701 := hok.1 18 1
          have h_20 : (0 : Int) ≤ (t1.1 18 2).toInt ∧ (t1.1 18 2).toInt ≤ 2700 := hok.1 18 2
          have L_90 : ∀ (t1 : tSt) (w90_3 : Int32) (w90_4 : Int32) (w90_5 : Int32) (H : Heap) (locs : List Loc) (ls : Array Slot), okX t1 → frA [(18, 1), (18, 3)] [] [10] [] t t1 → (3999 : Int) ≤ w90_3.toInt ∧ w90_3.toInt ≤ 4095 → (0 : Int) ≤ w90_5.toInt ∧ w90_5.toInt ≤ 4 → (∃ a, d.1 916 = some a) → ((t1.1 18 1).toInt ≤ 2700) → (x2.toInt ≤ w90_3.toInt) → (w90_3.toInt < x2.toInt + 16) → (x2.toInt + 16 - w90_3.toInt) < (fuel_11 : Int) + 1 → (5 : Int) - w90_5.toInt < (fuel_25 : Int) + 1 → va_P D vwCl ((WX d) K ad t1) H → va_D A ((WX d) K ad t1) → va_S A s.heap H locs → lv_has ls 6 [(0, .ref (ad 18)), (1, .ref (ad 10)), (2, .int x2), (3, .int w90_3), (4, .int w90_4), (5, .int w90_5)] → W p l e (rmD 6 0 0) s m [.ref (ad 18), .ref (ad 10), .int x2].toArray below meth c H locs 0 0 (MQ below (QV D K (fun (u : tSt) => okX u ∧ frA [(18, 1), (18, 3)] [] [10] [] t u) (fun (u : tSt) => (WX d) K ad u) A) [.ref (ad 18), .ref (ad 10), .int x2].toArray s 0 0 A) (F0 m 90 ls []) := by
            intro t1 w90_3 w90_4 w90_5 H locs ls hok hfr hw90_3 hw90_5 hi90_0 hi90_1 hi90_2 hi90_3 hm90_11 hm90_25 hP hD hS hl; obtain ⟨a_916, hp_916⟩ := hi90_0
            have h_21 : (t1.1 18 2).toInt = (t.1 18 2).toInt := ti_eq (hfr.1 18 2 rfl)
            have h_22 : (0 : Int) ≤ (t1.1 18 1).toInt ∧ (t1.1 18 1).toInt ≤ 2701 := hok.1 18 1
            have h_23 : (0 : Int) ≤ (t1.1 18 2).toInt ∧ (t1.1 18 2).toInt ≤ 2700 := hok.1 18 2
            obtain ⟨v_24, e_25⟩ : ∃ z, z = w90_5 + 1 := ⟨_, rfl⟩
            have h_26 : v_24.toInt = w90_5.toInt + 1 := by rw [e_25]; exact ti_iadd (by show (_ : Int) ≤ w90_5.toInt + 1; omega) (by show w90_5.toInt + 1 < (_ : Int); omega)
            refine lv_iinc (v := v_24) (lv' := [(5, .int v_24), (0, .ref (ad 18)), (1, .ref (ad 10)), (2, .int x2), (3, .int w90_3), (4, .int w90_4)]) C.1 C.2.1 dX6_take_90 hl (k := 5) rfl e_25.symm (by decide) rfl (fun ls hl => ?_)
            have hl : lv_has ls 6 [(0, .ref (ad 18)), (1, .ref (ad 10)), (2, .int x2), (3, .int w90_3), (4, .int w90_4), (5, .int v_24)] := lv_sub hl [1, 2, 3, 4, 5, 0] rfl
            refine lv_goto (tgt := 25) C.1 C.2.1 dX6_take_93 (by decide) ?_
            exact ih_25 t1 w90_3 w90_4 v_24 _ _ _ hok hfr ⟨by omega, by omega⟩ ⟨by omega, by omega⟩ (show ∃ a, d.1 916 = some a from by exact ⟨_, hp_916⟩) (show (t1.1 18 1).toInt ≤ 2700 from by omega) (show x2.toInt ≤ w90_3.toInt from by omega) (show w90_3.toInt < x2.toInt + 16 from by omega) (show (x2.toInt + 16 - w90_3.toInt) < (fuel_11 : Int) + 1 from by omega) (show (5 : Int) - v_24.toInt < (fuel_25 : Int) from by omega) hP hD hS (lv_sub hl [0, 1, 2, 3, 4, 5] rfl)
          refine lv_iload C.1 C.2.1 dX6_take_25 (lv_at hl 5 rfl) ?_
          refine lv_iconst (v := 5) C.1 C.2.1 dX6_take_27 (by decide) ?_
          refine lv_icmp_ge (tgt := 96) C.1 C.2.1 dX6_take_28 (by decide) (fun c_27 => ?_) (fun c_27 => ?_)
          · replace c_27 : 5 ≤ w25_5.toInt := i_le c_27
            refine lv_iload_n C.1 C.2.1 dX6_take_96 rfl (lv_at hl 3 rfl) ?_
            refine lv_if_lt (tgt := 111) C.1 C.2.1 dX6_take_97 (by decide) (fun c_28 => False.elim (by have c_28 : w25_3.toInt < 0 := i_lt c_28; omega)) (fun c_28 => ?_)
            replace c_28 : 0 ≤ w25_3.toInt := i_nlt c_28
            refine lv_iload_n C.1 C.2.1 dX6_take_100 rfl (lv_at hl 3 rfl) ?_
            refine lv_aload_n C.1 C.2.1 dX6_take_101 rfl (lv_at hl 1 rfl) ?_
            refine k_len (v := 7999) C hP 10 0 rfl rfl rfl dX6_take_102 ?_
            refine lv_icmp_ge (tgt := 111) C.1 C.2.1 dX6_take_103 (by decide) (fun c_29 => False.elim (by have c_29 : 7999 ≤ w25_3.toInt := i_le c_29; omega)) (fun c_29 => ?_)
            replace c_29 : w25_3.toInt < 7999 := i_nle c_29
            refine lv_aload_n C.1 C.2.1 dX6_take_106 rfl (lv_at hl 1 rfl) ?_
            refine lv_iload_n C.1 C.2.1 dX6_take_107 rfl (lv_at hl 3 rfl) ?_
            refine lv_iload C.1 C.2.1 dX6_take_108 (lv_at hl 4 rfl) ?_
            refine k_ist (ws' := (WX d) K ad (uB t1 10 (w25_3 : Int32).toNatClampNeg w25_4)) (x' := w25_4) C hP hD hS 10 rfl (vp_in_iff.mpr ⟨by omega, by omega⟩) rfl rfl rfl dX6_take_110 (fun H locs hP hD hS => ?_)
            have hok : okX (uB t1 10 (w25_3 : Int32).toNatClampNeg w25_4) := ⟨hok.1, okB_B hok.2.1 10 _ w25_4 (show (-2147483648 : Int) ≤ (w25_4 : Int32).toInt ∧ (w25_4 : Int32).toInt ≤ 2147483647 from (i_rng _)), trivial⟩
            have hfr : frA [(18, 1), (18, 3)] [] [10] [] t (uB t1 10 (w25_3 : Int32).toNatClampNeg w25_4) := frA_B hfr 10 _ _ rfl
            exact L_111 (uB t1 10 (w25_3 : Int32).toNatClampNeg w25_4) w25_3 w25_4 w25_5 _ _ _ hok hfr ⟨by omega, by omega⟩ ⟨by omega, by omega⟩ (show ∃ a, d.1 916 = some a from by exact ⟨_, hp_916⟩) (show (t1.1 18 1).toInt ≤ 2700 from by omega) (show x2.toInt ≤ w25_3.toInt from by omega) (show w25_3.toInt < x2.toInt + 16 from by omega) (show (x2.toInt + 16 - w25_3.toInt) < (fuel_11 : Int) + 1 from by omega) hP hD hS (lv_sub hl [0, 1, 2, 3, 4, 5] rfl)
          · replace c_27 : w25_5.toInt < 5 := i_nle c_27
            refine lv_iload C.1 C.2.1 dX6_take_31 (lv_at hl 4 rfl) ?_
            refine lv_bipush (v := 6) C.1 C.2.1 dX6_take_33 (by decide) ?_
            obtain ⟨v_30, e_31⟩ : ∃ z, z = (w25_4 : Int32) <<< ((6 : Int32) &&& 31) := ⟨_, rfl⟩
            refine k_ishl (v := v_30) C e_31.symm dX6_take_35 ?_
            refine lv_istore (lv' := [(4, .int v_30), (0, .ref (ad 18)), (1, .ref (ad 10)), (2, .int x2), (3, .int w25_3), (5, .int w25_5)]) C.1 C.2.1 dX6_take_36 hl (by decide) rfl (fun ls hl => ?_)
            have hl : lv_has ls 6 [(0, .ref (ad 18)), (1, .ref (ad 10)), (2, .int x2), (3, .int w25_3), (4, .int v_30), (5, .int w25_5)] := lv_sub hl [1, 2, 3, 4, 0, 5] rfl
            refine lv_aload_n C.1 C.2.1 dX6_take_38 rfl (lv_at hl 0 rfl) ?_
            refine k_get (v := .int (t1.1 18 1)) C hP 18 rfl rfl inlX6 1 (by decide) m_44_3 rfl dX6_take_39 ?_
            refine lv_aload_n C.1 C.2.1 dX6_take_42 rfl (lv_at hl 0 rfl) ?_
            refine k_get (v := .int (t1.1 18 2)) C hP 18 rfl rfl inlX6 2 (by decide) m_44_1 rfl dX6_take_43 ?_
            refine lv_icmp_ge (tgt := 90) C.1 C.2.1 dX6_take_46 (by decide) (fun c_33 => ?_) (fun c_33 => ?_)
            · replace c_33 : (t1.1 18 2).toInt ≤ (t1.1 18 1).toInt := i_le c_33
              exact L_90 t1 w25_3 v_30 w25_5 _ _ _ hok hfr ⟨by omega, by omega⟩ ⟨by omega, by omega⟩ (show ∃ a, d.1 916 = some a from by exact ⟨_, hp_916⟩) (show (t1.1 18 1).toInt ≤ 2700 from by omega) (show x2.toInt ≤ w25_3.toInt from by omega) (show w25_3.toInt < x2.toInt + 16 from by omega) (show (x2.toInt + 16 - w25_3.toInt) < (fuel_11 : Int) + 1 from by omega) (show (5 : Int) - w25_5.toInt < (fuel_25 : Int) + 1 from by omega) hP hD hS (lv_sub hl [0, 1, 2, 3, 4, 5] rfl)
            · replace c_33 : (t1.1 18 1).toInt < (t1.1 18 2).toInt := i_nle c_33
              refine lv_aload_n C.1 C.2.1 dX6_take_49 rfl (lv_at hl 0 rfl) ?_
              refine k_get (v := .ref a_916) C hP 18 rfl rfl inlX6 0 (by decide) m_44_0 (rf_eq hp_916) dX6_take_50 ?_
              refine lv_aload_n C.1 C.2.1 dX6_take_53 rfl (lv_at hl 0 rfl) ?_
              refine k_get (v := .int (t1.1 18 1)) C hP 18 rfl rfl inlX6 1 (by decide) m_44_3 rfl dX6_take_54 ?_
              obtain ⟨q_34, hq_35, hs_36⟩ := WX_at916 (K := K) (ad := ad) (t := t1) (d := d) hp_916
              obtain ⟨v_37, e_38⟩ : ∃ z, z = d.2 916 ((t1.1 18 1) : Int32).toNatClampNeg := ⟨_, rfl⟩
              have h_39 : (-128 : Int) ≤ v_37.toInt ∧ v_37.toInt ≤ 127 := by rw [e_38]; exact hod _
              refine k_bld (v := v_37) C hP q_34 hq_35 (vp_in_iff.mpr ⟨by omega, by omega⟩) e_38.symm dX6_take_57 ?_
              refine lv_bipush (v := 10) C.1 C.2.1 dX6_take_58 (by decide) ?_
              refine lv_icmp_eq (tgt := 90) C.1 C.2.1 dX6_take_60 (by decide) (fun c_40 => ?_) (fun c_40 => ?_)
              · replace c_40 : v_37.toInt = 10 := i_eq c_40
                exact L_90 t1 w25_3 v_30 w25_5 _ _ _ hok hfr ⟨by omega, by omega⟩ ⟨by omega, by omega⟩ (show ∃ a, d.1 916 = some a from by exact ⟨_, hp_916⟩) (show (t1.1 18 1).toInt ≤ 2700 from by omega) (show x2.toInt ≤ w25_3.toInt from by omega) (show w25_3.toInt < x2.toInt + 16 from by omega) (show (x2.toInt + 16 - w25_3.toInt) < (fuel_11 : Int) + 1 from by omega) (show (5 : Int) - w25_5.toInt < (fuel_25 : Int) + 1 from by omega) hP hD hS (lv_sub hl [0, 1, 2, 3, 4, 5] rfl)
              · replace c_40 : ¬ v_37.toInt = 10 := i_ne c_40
                refine lv_iload C.1 C.2.1 dX6_take_63 (lv_at hl 4 rfl) ?_
                refine lv_aload_n C.1 C.2.1 dX6_take_65 rfl (lv_at hl 0 rfl) ?_
                refine k_get (v := .ref a_916) C hP 18 rfl rfl inlX6 0 (by decide) m_44_0 (rf_eq hp_916) dX6_take_66 ?_
                refine lv_aload_n C.1 C.2.1 dX6_take_69 rfl (lv_at hl 0 rfl) ?_
                refine k_get (v := .int (t1.1 18 1)) C hP 18 rfl rfl inlX6 1 (by decide) m_44_3 rfl dX6_take_70 ?_
                obtain ⟨q_41, hq_42, hs_43⟩ := WX_at916 (K := K) (ad := ad) (t := t1) (d := d) hp_916
                obtain ⟨v_44, e_45⟩ : ∃ z, z = d.2 916 ((t1.1 18 1) : Int32).toNatClampNeg := ⟨_, rfl⟩
                have h_46 : (-128 : Int) ≤ v_44.toInt ∧ v_44.toInt ≤ 127 := by rw [e_45]; exact hod _
                refine k_bld (v := v_44) C hP q_41 hq_42 (vp_in_iff.mpr ⟨by omega, by omega⟩) e_45.symm dX6_take_73 ?_
                refine g_Si (As := [.int v_44]) (rest := [.int v_30]) C hP hD hS hA (T_X1_code l D K Z Y ad d t1 hok (v_44) (show (-128 : Int) ≤ (v_44 : Int32).toInt ∧ (v_44 : Int32).toInt ≤ 127 from ⟨by omega, by omega⟩)) hE hZ (uwS m_53_0 m_14_1 m_14_2 m_14_3) (hdS 1 (by decide +kernel) rfl) ⟨Nat.le_of_ble_eq_true rfl, Nat.le_of_ble_eq_true rfl⟩ rfl rfl rfl hl.1 (Nat.le_of_ble_eq_true rfl) dX6_take_74 ⟨Nat.le_of_ble_eq_true rfl, Nat.le_of_ble_eq_true rfl⟩ (fun r_48 t_47 H locs hw hP hD hS => ?_)
                obtain ⟨h_50, h_51⟩ := hw
                obtain ⟨v_52, e_53⟩ : ∃ z, z = (v_30 : Int32) ||| (r_48 : Int32) := ⟨_, rfl⟩
                refine k_ior (v := v_52) C e_53.symm dX6_take_77 ?_
                refine lv_istore (lv' := [(4, .int v_52), (0, .ref (ad 18)), (1, .ref (ad 10)), (2, .int x2), (3, .int w25_3), (5, .int w25_5)]) C.1 C.2.1 dX6_take_78 hl (by decide) rfl (fun ls hl => ?_)
                have hl : lv_has ls 6 [(0, .ref (ad 18)), (1, .ref (ad 10)), (2, .int x2), (3, .int w25_3), (4, .int v_52), (5, .int w25_5)] := lv_sub hl [1, 2, 3, 4, 0, 5] rfl
                refine lv_aload_n C.1 C.2.1 dX6_take_80 rfl (lv_at hl 0 rfl) ?_
                refine lv_dup C.1 C.2.1 dX6_take_81 rfl ?_
                refine k_get (v := .int (t1.1 18 1)) C hP 18 rfl rfl inlX6 1 (by decide) m_44_3 rfl dX6_take_82 ?_
                refine lv_iconst (v := 1) C.1 C.2.1 dX6_take_85 (by decide) ?_
                obtain ⟨v_55, e_56⟩ : ∃ z, z = ((t1.1 18 1) : Int32) + (1 : Int32) := ⟨_, rfl⟩
                have h_57 : v_55.toInt = (t1.1 18 1).toInt + 1 := by rw [e_56]; exact ti_iadd (by show (_ : Int) ≤ (t1.1 18 1).toInt + 1; omega) (by show (t1.1 18 1).toInt + 1 < (_ : Int); omega)
                refine k_iadd (v := v_55) C e_56.symm dX6_take_86 ?_
                refine k_put (ws' := (WX d) K ad (uI t1 18 1 v_55)) (v := .int v_55) C hP hD hS 18 rfl rfl inlX6 tyX6_ok nmX6 1 (by decide) m_44_3 rfl rfl rfl rfl rfl dX6_take_87 (fun H locs hP hD hS => ?_)
                have hok : okX (uI t1 18 1 v_55) := ⟨okI_I hok.1 18 1 v_55 (show (0 : Int) ≤ (v_55 : Int32).toInt ∧ (v_55 : Int32).toInt ≤ 2701 from ⟨by omega, by omega⟩), hok.2.1, trivial⟩
                have hfr : frA [(18, 1), (18, 3)] [] [10] [] t (uI t1 18 1 v_55) := frA_I hfr 18 1 _ rfl
                exact L_90 (uI t1 18 1 v_55) w25_3 v_52 w25_5 _ _ _ hok hfr ⟨by omega, by omega⟩ ⟨by omega, by omega⟩ (show ∃ a, d.1 916 = some a from by exact ⟨_, hp_916⟩) (show v_55.toInt ≤ 2700 from by omega) (show x2.toInt ≤ w25_3.toInt from by omega) (show w25_3.toInt < x2.toInt + 16 from by omega) (show (x2.toInt + 16 - w25_3.toInt) < (fuel_11 : Int) + 1 from by omega) (show (5 : Int) - w25_5.toInt < (fuel_25 : Int) + 1 from by omega) hP hD hS (lv_sub hl [0, 1, 2, 3, 4, 5] rfl)
      refine lv_iload_n C.1 C.2.1 dX6_take_11 rfl (lv_at hl 3 rfl) ?_
      refine lv_iload_n C.1 C.2.1 dX6_take_12 rfl (lv_at hl 2 rfl) ?_
      refine lv_bipush (v := 16) C.1 C.2.1 dX6_take_13 (by decide) ?_
      obtain ⟨v_58, e_59⟩ : ∃ z, z = (x2 : Int32) + (16 : Int32) := ⟨_, rfl⟩
      have h_60 : v_58.toInt = x2.toInt + 16 := by rw [e_59]; exact ti_iadd (by show (_ : Int) ≤ x2.toInt + 16; omega) (by show x2.toInt + 16 < (_ : Int); omega)
      refine k_iadd (v := v_58) C e_59.symm dX6_take_15 ?_
      refine lv_icmp_ge (tgt := 117) C.1 C.2.1 dX6_take_16 (by decide) (fun c_61 => ?_) (fun c_61 => ?_)
      · replace c_61 : v_58.toInt ≤ w11_3.toInt := i_le c_61
        refine lv_aload_n C.1 C.2.1 dX6_take_117 rfl (lv_at hl 0 rfl) ?_
        refine lv_dup C.1 C.2.1 dX6_take_118 rfl ?_
        refine k_get (v := .int (t1.1 18 1)) C hP 18 rfl rfl inlX6 1 (by decide) m_44_3 rfl dX6_take_119 ?_
        refine lv_iconst (v := 1) C.1 C.2.1 dX6_take_122 (by decide) ?_
        obtain ⟨v_62, e_63⟩ : ∃ z, z = ((t1.1 18 1) : Int32) + (1 : Int32) := ⟨_, rfl⟩
        have h_64 : v_62.toInt = (t1.1 18 1).toInt + 1 := by rw [e_63]; exact ti_iadd (by show (_ : Int) ≤ (t1.1 18 1).toInt + 1; omega) (by show (t1.1 18 1).toInt + 1 < (_ : Int); omega)
        refine k_iadd (v := v_62) C e_63.symm dX6_take_123 ?_
        refine k_put (ws' := (WX d) K ad (uI t1 18 1 v_62)) (v := .int v_62) C hP hD hS 18 rfl rfl inlX6 tyX6_ok nmX6 1 (by decide) m_44_3 rfl rfl rfl rfl rfl dX6_take_124 (fun H locs hP hD hS => ?_)
        have hok : okX (uI t1 18 1 v_62) := ⟨okI_I hok.1 18 1 v_62 (show (0 : Int) ≤ (v_62 : Int32).toInt ∧ (v_62 : Int32).toInt ≤ 2701 from ⟨by omega, by omega⟩), hok.2.1, trivial⟩
        have hfr : frA [(18, 1), (18, 3)] [] [10] [] t (uI t1 18 1 v_62) := frA_I hfr 18 1 _ rfl
        refine lv_aload_n C.1 C.2.1 dX6_take_127 rfl (lv_at hl 0 rfl) ?_
        refine lv_dup C.1 C.2.1 dX6_take_128 rfl ?_
        refine k_get (v := .int (t1.1 18 3)) C hP 18 rfl rfl inlX6 3 (by decide) m_44_7 rfl dX6_take_129 ?_
        refine lv_iconst (v := 1) C.1 C.2.1 dX6_take_132 (by decide) ?_
        obtain ⟨v_65, e_66⟩ : ∃ z, z = ((t1.1 18 3) : Int32) - (1 : Int32) := ⟨_, rfl⟩
        refine k_isub (v := v_65) C e_66.symm dX6_take_133 ?_
        refine k_put (ws' := (WX d) K ad (uI (uI t1 18 1 v_62) 18 3 v_65)) (v := .int v_65) C hP hD hS 18 rfl rfl inlX6 tyX6_ok nmX6 3 (by decide) m_44_7 rfl rfl rfl rfl rfl dX6_take_134 (fun H locs hP hD hS => ?_)
        have hok : okX (uI (uI t1 18 1 v_62) 18 3 v_65) := ⟨okI_I hok.1 18 3 v_65 (show (-2147483648 : Int) ≤ (v_65 : Int32).toInt ∧ (v_65 : Int32).toInt ≤ 2147483647 from (i_rng _)), hok.2.1, trivial⟩
        have hfr : frA [(18, 1), (18, 3)] [] [10] [] t (uI (uI t1 18 1 v_62) 18 3 v_65) := frA_I hfr 18 3 _ rfl
        exact g_vret C hr hlocks hP hD hS (uI (uI t1 18 1 v_62) 18 3 v_65) rfl ⟨hok, hfr⟩ (Nat.le_of_ble_eq_true rfl) (Nat.le_of_ble_eq_true rfl) dX6_take_137
      · replace c_61 : w11_3.toInt < v_58.toInt := i_nle c_61
        refine lv_iconst (v := 0) C.1 C.2.1 dX6_take_19 (by decide) ?_
        refine lv_istore (lv' := [(4, .int 0), (0, .ref (ad 18)), (1, .ref (ad 10)), (2, .int x2), (3, .int w11_3)]) C.1 C.2.1 dX6_take_20 hl (by decide) rfl (fun ls hl => ?_)
        have hl : lv_has ls 6 [(0, .ref (ad 18)), (1, .ref (ad 10)), (2, .int x2), (3, .int w11_3), (4, .int 0)] := lv_sub hl [1, 2, 3, 4, 0] rfl
        refine lv_iconst (v := 0) C.1 C.2.1 dX6_take_22 (by decide) ?_
        refine lv_istore (lv' := [(5, .int 0), (0, .ref (ad 18)), (1, .ref (ad 10)), (2, .int x2), (3, .int w11_3), (4, .int 0)]) C.1 C.2.1 dX6_take_23 hl (by decide) rfl (fun ls hl => ?_)
        have hl : lv_has ls 6 [(0, .ref (ad 18)), (1, .ref (ad 10)), (2, .int x2), (3, .int w11_3), (4, .int 0), (5, .int 0)] := lv_sub hl [1, 2, 3, 4, 5, 0] rfl
        exact L_25 6 t1 w11_3 0 0 _ _ _ hok hfr ⟨by omega, by omega⟩ ⟨by decide, by decide⟩ (show ∃ a, d.1 916 = some a from by exact ⟨_, hp_916⟩) (show (t1.1 18 1).toInt ≤ 2700 from by omega) (show x2.toInt ≤ w11_3.toInt from by omega) (show w11_3.toInt < x2.toInt + 16 from by omega) (show (x2.toInt + 16 - w11_3.toInt) < (fuel_11 : Int) + 1 from by omega) (show (5 : Int) - 0 < ((6 : Nat) : Int) from by omega) hP hD hS (lv_sub hl [0, 1, 2, 3, 4, 5] rfl)
  refine lv_aload_n C.1 C.2.1 dX6_take_0 rfl (lv_at hl 0 rfl) ?_
  refine lv_iconst (v := 0) C.1 C.2.1 dX6_take_1 (by decide) ?_
  refine g_Vi (As := [.int 0]) (rest := []) C hP hD hS hA (T_X6_hasCard l D K Z Y ad d t hok hod 0 (show (0 : Int) ≤ (0 : Int32).toInt ∧ (0 : Int32).toInt ≤ 1 from ⟨by decide, by decide⟩)) hE hZ (uwV m_52_23 m_49_20 m_49_21 m_3_16 m_49_22) (hdV 1 (by decide +kernel) rfl) ⟨Nat.le_of_ble_eq_true rfl, Nat.le_of_ble_eq_true rfl⟩ rfl rfl (ci := 5) (q0 := 18) rfl rfl rfl hl.1 (Nat.le_of_ble_eq_true rfl) dX6_take_2 ⟨Nat.le_of_ble_eq_true rfl, Nat.le_of_ble_eq_true rfl⟩ (fun r_69 t_68 H locs hw hP hD hS => ?_)
  obtain ⟨h_71, h_72, p_73, p_74⟩ := hw
  replace p_73 : r_69.toInt = 1 → ∃ a, d.1 916 = some a := p_73
  replace p_74 : r_69.toInt = 1 → (t.1 18 1).toInt < (t.1 18 2).toInt := p_74
  refine lv_if_ne (tgt := 9) C.1 C.2.1 dX6_take_5 (by decide) (fun c_75 => ?_) (fun c_75 => ?_)
  · replace c_75 : ¬ r_69.toInt = 0 := i_ne c_75
    refine lv_iload_n C.1 C.2.1 dX6_take_9 rfl (lv_at hl 2 rfl) ?_
    refine lv_istore_n (lv' := [(3, .int x2), (0, .ref (ad 18)), (1, .ref (ad 10)), (2, .int x2)]) C.1 C.2.1 dX6_take_10 rfl hl (by decide) rfl (fun ls hl => ?_)
    have hl : lv_has ls 6 [(0, .ref (ad 18)), (1, .ref (ad 10)), (2, .int x2), (3, .int x2)] := lv_sub hl [1, 2, 3, 0] rfl
    exact L_11 20 t x2 _ _ _ hok hfr ⟨by omega, by omega⟩ (show ∃ a, d.1 916 = some a from by exact p_73 (by omega)) (show (t.1 18 1).toInt ≤ 2700 from by omega) (show x2.toInt ≤ x2.toInt from by omega) (show x2.toInt ≤ x2.toInt + 16 from by omega) (show (x2.toInt + 16 - x2.toInt) < ((20 : Nat) : Int) from by omega) hP hD hS (lv_sub hl [0, 1, 2, 3] rfl)
  · replace c_75 : r_69.toInt = 0 := i_eq c_75
    exact g_vret C hr hlocks hP hD hS t rfl ⟨hok, hfr⟩ (Nat.le_of_ble_eq_true rfl) (Nat.le_of_ble_eq_true rfl) dX6_take_8

theorem dX4_finish_0 : decode cX4_finish 0 = .ok (.iconst 0, 1) := by decide +kernel
theorem dX4_finish_1 : decode cX4_finish 1 = .ok (.istore_n 3, 1) := by decide +kernel
theorem dX4_finish_100 : decode cX4_finish 100 = .ok (.aastore, 1) := by decide +kernel
theorem dX4_finish_101 : decode cX4_finish 101 = .ok (.aload_n 0, 1) := by decide +kernel
theorem dX4_finish_102 : decode cX4_finish 102 = .ok (.getfield 21, 3) := by decide +kernel
theorem dX4_finish_105 : decode cX4_finish 105 = .ok (.iconst 0, 1) := by decide +kernel
theorem dX4_finish_106 : decode cX4_finish 106 = .ok (.aload_n 0, 1) := by decide +kernel
theorem dX4_finish_107 : decode cX4_finish 107 = .ok (.getfield 13, 3) := by decide +kernel
theorem dX4_finish_110 : decode cX4_finish 110 = .ok (.aload_n 0, 1) := by decide +kernel
theorem dX4_finish_111 : decode cX4_finish 111 = .ok (.getfield 64, 3) := by decide +kernel
theorem dX4_finish_114 : decode cX4_finish 114 = .ok (.aaload, 1) := by decide +kernel
theorem dX4_finish_115 : decode cX4_finish 115 = .ok (.iconst 0, 1) := by decide +kernel
theorem dX4_finish_116 : decode cX4_finish 116 = .ok (.iload_n 3, 1) := by decide +kernel
theorem dX4_finish_117 : decode cX4_finish 117 = .ok (.invokestatic 68, 3) := by decide +kernel
theorem dX4_finish_12 : decode cX4_finish 12 = .ok (.iload 4, 2) := by decide +kernel
theorem dX4_finish_120 : decode cX4_finish 120 = .ok (.aload_n 0, 1) := by decide +kernel
theorem dX4_finish_121 : decode cX4_finish 121 = .ok (.getfield 17, 3) := by decide +kernel
theorem dX4_finish_124 : decode cX4_finish 124 = .ok (.aload_n 0, 1) := by decide +kernel
theorem dX4_finish_125 : decode cX4_finish 125 = .ok (.getfield 64, 3) := by decide +kernel
theorem dX4_finish_128 : decode cX4_finish 128 = .ok (.iload_n 3, 1) := by decide +kernel
theorem dX4_finish_129 : decode cX4_finish 129 = .ok (.iastore, 1) := by decide +kernel
theorem dX4_finish_130 : decode cX4_finish 130 = .ok (.aload_n 0, 1) := by decide +kernel
theorem dX4_finish_131 : decode cX4_finish 131 = .ok (.dup, 1) := by decide +kernel
theorem dX4_finish_132 : decode cX4_finish 132 = .ok (.getfield 64, 3) := by decide +kernel
theorem dX4_finish_135 : decode cX4_finish 135 = .ok (.iconst 1, 1) := by decide +kernel
theorem dX4_finish_136 : decode cX4_finish 136 = .ok (.iadd, 1) := by decide +kernel
theorem dX4_finish_137 : decode cX4_finish 137 = .ok (.putfield 64, 3) := by decide +kernel
theorem dX4_finish_14 : decode cX4_finish 14 = .ok (.iload_n 1, 1) := by decide +kernel
theorem dX4_finish_140 : decode cX4_finish 140 = .ok (.aload_n 0, 1) := by decide +kernel
theorem dX4_finish_141 : decode cX4_finish 141 = .ok (.getfield 21, 3) := by decide +kernel
theorem dX4_finish_144 : decode cX4_finish 144 = .ok (.bipush 32, 2) := by decide +kernel
theorem dX4_finish_146 : decode cX4_finish 146 = .ok (.invokestatic 74, 3) := by decide +kernel
theorem dX4_finish_149 : decode cX4_finish 149 = .ok (.return_, 1) := by decide +kernel
theorem dX4_finish_15 : decode cX4_finish 15 = .ok (.if_icmp .ge 51, 3) := by decide +kernel
theorem dX4_finish_18 : decode cX4_finish 18 = .ok (.iload_n 2, 1) := by decide +kernel
theorem dX4_finish_19 : decode cX4_finish 19 = .ok (.ifCond .eq 24, 3) := by decide +kernel
theorem dX4_finish_2 : decode cX4_finish 2 = .ok (.iconst 0, 1) := by decide +kernel
theorem dX4_finish_22 : decode cX4_finish 22 = .ok (.aload_n 0, 1) := by decide +kernel
theorem dX4_finish_23 : decode cX4_finish 23 = .ok (.getfield 21, 3) := by decide +kernel
theorem dX4_finish_26 : decode cX4_finish 26 = .ok (.iload 4, 2) := by decide +kernel
theorem dX4_finish_28 : decode cX4_finish 28 = .ok (.baload, 1) := by decide +kernel
theorem dX4_finish_29 : decode cX4_finish 29 = .ok (.bipush 63, 2) := by decide +kernel
theorem dX4_finish_3 : decode cX4_finish 3 = .ok (.istore 4, 2) := by decide +kernel
theorem dX4_finish_31 : decode cX4_finish 31 = .ok (.if_icmp .ne 12, 3) := by decide +kernel
theorem dX4_finish_34 : decode cX4_finish 34 = .ok (.aload_n 0, 1) := by decide +kernel
theorem dX4_finish_35 : decode cX4_finish 35 = .ok (.getfield 21, 3) := by decide +kernel
theorem dX4_finish_38 : decode cX4_finish 38 = .ok (.iload 4, 2) := by decide +kernel
theorem dX4_finish_40 : decode cX4_finish 40 = .ok (.bipush 32, 2) := by decide +kernel
theorem dX4_finish_42 : decode cX4_finish 42 = .ok (.bastore, 1) := by decide +kernel
theorem dX4_finish_43 : decode cX4_finish 43 = .ok (.aload_n 0, 1) := by decide +kernel
theorem dX4_finish_44 : decode cX4_finish 44 = .ok (.getfield 21, 3) := by decide +kernel
theorem dX4_finish_47 : decode cX4_finish 47 = .ok (.iload 4, 2) := by decide +kernel
theorem dX4_finish_49 : decode cX4_finish 49 = .ok (.baload, 1) := by decide +kernel
theorem dX4_finish_5 : decode cX4_finish 5 = .ok (.iload 4, 2) := by decide +kernel
theorem dX4_finish_50 : decode cX4_finish 50 = .ok (.bipush 32, 2) := by decide +kernel
theorem dX4_finish_52 : decode cX4_finish 52 = .ok (.if_icmp .eq 8, 3) := by decide +kernel
theorem dX4_finish_55 : decode cX4_finish 55 = .ok (.iload 4, 2) := by decide +kernel
theorem dX4_finish_57 : decode cX4_finish 57 = .ok (.iconst 1, 1) := by decide +kernel
theorem dX4_finish_58 : decode cX4_finish 58 = .ok (.iadd, 1) := by decide +kernel
theorem dX4_finish_59 : decode cX4_finish 59 = .ok (.istore_n 3, 1) := by decide +kernel
theorem dX4_finish_60 : decode cX4_finish 60 = .ok (.iinc 4 1, 3) := by decide +kernel
theorem dX4_finish_63 : decode cX4_finish 63 = .ok (.goto (-58), 3) := by decide +kernel
theorem dX4_finish_66 : decode cX4_finish 66 = .ok (.aload_n 0, 1) := by decide +kernel
theorem dX4_finish_67 : decode cX4_finish 67 = .ok (.getfield 64, 3) := by decide +kernel
theorem dX4_finish_7 : decode cX4_finish 7 = .ok (.bipush 120, 2) := by decide +kernel
theorem dX4_finish_70 : decode cX4_finish 70 = .ok (.sipush 300, 3) := by decide +kernel
theorem dX4_finish_73 : decode cX4_finish 73 = .ok (.if_icmp .ge 67, 3) := by decide +kernel
theorem dX4_finish_76 : decode cX4_finish 76 = .ok (.aload_n 0, 1) := by decide +kernel
theorem dX4_finish_77 : decode cX4_finish 77 = .ok (.getfield 13, 3) := by decide +kernel
theorem dX4_finish_80 : decode cX4_finish 80 = .ok (.aload_n 0, 1) := by decide +kernel
theorem dX4_finish_81 : decode cX4_finish 81 = .ok (.getfield 64, 3) := by decide +kernel
theorem dX4_finish_84 : decode cX4_finish 84 = .ok (.aaload, 1) := by decide +kernel
theorem dX4_finish_85 : decode cX4_finish 85 = .ok (.ifnonnull 16, 3) := by decide +kernel
theorem dX4_finish_88 : decode cX4_finish 88 = .ok (.aload_n 0, 1) := by decide +kernel
theorem dX4_finish_89 : decode cX4_finish 89 = .ok (.getfield 13, 3) := by decide +kernel
theorem dX4_finish_9 : decode cX4_finish 9 = .ok (.if_icmp .ge 57, 3) := by decide +kernel
theorem dX4_finish_92 : decode cX4_finish 92 = .ok (.aload_n 0, 1) := by decide +kernel
theorem dX4_finish_93 : decode cX4_finish 93 = .ok (.getfield 64, 3) := by decide +kernel
theorem dX4_finish_96 : decode cX4_finish 96 = .ok (.bipush 120, 2) := by decide +kernel
theorem dX4_finish_98 : decode cX4_finish 98 = .ok (.newarray .byte, 2) := by decide +kernel
set_option maxHeartbeats 4000000 in
set_option maxRecDepth 100000 in
theorem T_X4_finish (l : Launch) (D : va_G) (K : Nat → ClassId) (Z Y : Nat → Nat) (ad : Nat → Nat) (d : dSt) (t : tSt) (hok : okX t) (hod : okD d) (x1 : Int32) (hx1 : (72 : Int) ≤ x1.toInt ∧ x1.toInt ≤ 120) (x2 : Int32) (hx2 : (0 : Int) ≤ x2.toInt ∧ x2.toInt ≤ 1) : dMet l yX4_finish cX4_finish 5 none (rmD 1 2000 560000) D K Z Y [.ref (ad 20), .int x1, .int x2] ((WX d) K ad t) (QDV D K ad d (fun (u : tSt) (dd : dSt) => okX u ∧ frA [(20, 3)] [] [35, 36, 37] [] t u ∧ okD dd)) 2000 560000 := by
  refine d_met d RX4 ⟨rfl, by decide +kernel⟩ (Nat.le_of_ble_eq_true rfl) ?_
  intro p e s m below meth c A ls C hE hZ hX hr hlocks hA hP hD hS hl
  have hl : lv_has ls 5 [(0, .ref (ad 20)), (1, .int x1), (2, .int x2)] := hl
  have hle : dLe d d := dLe_rf
  have hdf : dFr s.heap.size d d := dFr_rf
  have hokt := hok
  have hfr : frA [(20, 3)] [] [35, 36, 37] [] t t := frA_rf
  have L_140 : ∀ (t1 : tSt) (d1 : dSt) (w140_3 : Int32) (w140_4 : Int32) (H : Heap) (locs : List Loc) (ls : Array Slot), okX t1 → frA [(20, 3)] [] [35, 36, 37] [] t t1 → okD d1 → dLe d d1 → dFr s.heap.size d d1 → (0 : Int) ≤ w140_3.toInt ∧ w140_3.toInt ≤ 120 → (72 : Int) ≤ w140_4.toInt ∧ w140_4.toInt ≤ 120 → (1 : Int) ≤ (t1.1 20 3).toInt ∧ (t1.1 20 3).toInt ≤ 300 → va_P D vwCl ((WX d1) K ad t1) H → va_D A ((WX d1) K ad t1) → va_S A s.heap H locs → lv_has ls 5 [(0, .ref (ad 20)), (1, .int x1), (2, .int x2), (3, .int w140_3), (4, .int w140_4)] → W p l e (rmD 1 2000 560000) s m [.ref (ad 20), .int x1, .int x2].toArray below meth c H locs (newC d d1) 246800 (MQ below (QDV D K ad d (fun (u : tSt) (dd : dSt) => okX u ∧ frA [(20, 3)] [] [35, 36, 37] [] t u ∧ okD dd) s.heap.size A) [.ref (ad 20), .int x1, .int x2].toArray s 2000 560000 A) (F0 m 140 ls []) := by
    intro t1 d1 w140_3 w140_4 H locs ls hok hfr hod hle hdf hw140_3 hw140_4 hf140_3 hP hD hS hl
    refine lv_aload_n C.1 C.2.1 dX4_finish_140 rfl (lv_at hl 0 rfl) ?_
    refine k_get (v := .ref (ad 37)) C hP 20 rfl rfl inlX4 2 (by decide) m_4_11 rfl dX4_finish_141 ?_
    refine lv_bipush (v := 32) C.1 C.2.1 dX4_finish_144 (by decide) ?_
    refine hz_Sv (W' := fun (_ : Unit) => (WX d1) K ad (fB t1 37 32)) (As := [.ref (ad 37), .int 32]) (rest := []) C hP hD hS hA (TJ_fillB l D K Z Y ((WX d1) K ad t1) 37 (ad 37) 120 (by decide) _ 32 32 rfl rfl) hE hZ (uwS m_41_13 m_41_14 m_11_12 m_41_15) (hdS 2 (by decide +kernel) rfl) ⟨Nat.le_of_ble_eq_true rfl, Nat.le_of_ble_eq_true rfl⟩ rfl rfl rfl hl.1 (Nat.le_of_ble_eq_true rfl) dX4_finish_146 ⟨Nat.le_trans (newC_le _ _) (Nat.le_of_ble_eq_true rfl), (Nat.le_of_ble_eq_true rfl)⟩ (fun u_ H locs hw hP hD hS => ?_)
    have hok : okX (fB t1 37 32) := ⟨hok.1, okB_f hok.2.1 37 32 (show (-128 : Int) ≤ (32 : Int32).toInt ∧ (32 : Int32).toInt ≤ 127 from ⟨by decide, by decide⟩), trivial⟩
    have hfr : frA [(20, 3)] [] [35, 36, 37] [] t (fB t1 37 32) := frA_fB hfr 37 _ rfl
    exact g_Dvret C hr hlocks hP hD hS ⟨hok, hfr, hod⟩ hle hdf (Nat.le_of_ble_eq_true rfl) (Nat.le_of_ble_eq_true rfl) dX4_finish_149
  have L_66 : ∀ (t1 : tSt) (d1 : dSt) (w66_3 : Int32) (w66_4 : Int32) (H : Heap) (locs : List Loc) (ls : Array Slot), okX t1 → frA [(20, 3)] [] [35, 36, 37] [] t t1 → okD d1 → dLe d d1 → dFr s.heap.size d d1 → (0 : Int) ≤ w66_3.toInt ∧ w66_3.toInt ≤ 120 → (72 : Int) ≤ w66_4.toInt ∧ w66_4.toInt ≤ 120 → va_P D vwCl ((WX d1) K ad t1) H → va_D A ((WX d1) K ad t1) → va_S A s.heap H locs → lv_has ls 5 [(0, .ref (ad 20)), (1, .int x1), (2, .int x2), (3, .int w66_3), (4, .int w66_4)] → W p l e (rmD 1 2000 560000) s m [.ref (ad 20), .int x1, .int x2].toArray below meth c H locs (newC d d1) 246800 (MQ below (QDV D K ad d (fun (u : tSt) (dd : dSt) => okX u ∧ frA [(20, 3)] [] [35, 36, 37] [] t u ∧ okD dd) s.heap.size A) [.ref (ad 20), .int x1, .int x2].toArray s 2000 560000 A) (F0 m 66 ls []) := by
    intro t1 d1 w66_3 w66_4 H locs ls hok hfr hod hle hdf hw66_3 hw66_4 hP hD hS hl
    refine lv_aload_n C.1 C.2.1 dX4_finish_66 rfl (lv_at hl 0 rfl) ?_
    have h_1 : (0 : Int) ≤ (t1.1 20 3).toInt ∧ (t1.1 20 3).toInt ≤ 300 := hok.1 20 3
    refine k_get (v := .int (t1.1 20 3)) C hP 20 rfl rfl inlX4 3 (by decide) m_41_11 rfl dX4_finish_67 ?_
    refine lv_sipush (v := 300) C.1 C.2.1 dX4_finish_70 (by decide) ?_
    refine lv_icmp_ge (tgt := 140) C.1 C.2.1 dX4_finish_73 (by decide) (fun c_2 => ?_) (fun c_2 => ?_)
    · replace c_2 : 300 ≤ (t1.1 20 3).toInt := i_le c_2
      exact L_140 t1 d1 w66_3 w66_4 _ _ _ hok hfr hod hle hdf ⟨by omega, by omega⟩ ⟨by omega, by omega⟩ (show (1 : Int) ≤ ((t1.1 20 3) : Int32).toInt ∧ ((t1.1 20 3) : Int32).toInt ≤ 300 from ⟨by omega, by omega⟩) hP hD hS (lv_sub hl [0, 1, 2, 3, 4] rfl)
    · replace c_2 : (t1.1 20 3).toInt < 300 := i_nle c_2
      refine lv_aload_n C.1 C.2.1 dX4_finish_76 rfl (lv_at hl 0 rfl) ?_
      refine k_get (v := .ref (ad 35)) C hP 20 rfl rfl inlX4 0 (by decide) m_4_9 rfl dX4_finish_77 ?_
      refine lv_aload_n C.1 C.2.1 dX4_finish_80 rfl (lv_at hl 0 rfl) ?_
      refine k_get (v := .int (t1.1 20 3)) C hP 20 rfl rfl inlX4 3 (by decide) m_41_11 rfl dX4_finish_81 ?_
      have hn_3 : vp_in ((t1.1 20 3) : Int32) 300 := vp_in_iff.mpr ⟨by omega, by omega⟩
      refine k_ald (w := va_rf (d1.1 (300 + ((t1.1 20 3) : Int32).toNatClampNeg))) C hP 35 4 rfl rfl hn_3 (rf_n hn_3) dX4_finish_84 ?_
      rcases opt_or (d1.1 (300 + ((t1.1 20 3) : Int32).toNatClampNeg)) with hd_4 | ⟨a_5, hd_4⟩
      · refine n_ifnonnullN C.1 C.2.1 hd_4 dX4_finish_85 ?_
        refine lv_aload_n C.1 C.2.1 dX4_finish_88 rfl (lv_at hl 0 rfl) ?_
        refine k_get (v := .ref (ad 35)) C hP 20 rfl rfl inlX4 0 (by decide) m_4_9 rfl dX4_finish_89 ?_
        refine lv_aload_n C.1 C.2.1 dX4_finish_92 rfl (lv_at hl 0 rfl) ?_
        refine k_get (v := .int (t1.1 20 3)) C hP 20 rfl rfl inlX4 3 (by decide) m_41_11 rfl dX4_finish_93 ?_
        refine lv_bipush (v := 120) C.1 C.2.1 dX4_finish_96 (by decide) ?_
        refine k_late300 (d := d) C hP hD hS hA hX hle hdf m_1_14 hn_3 hd_4 ⟨Nat.le_of_ble_eq_true rfl, Nat.le_of_ble_eq_true rfl⟩ dX4_finish_98 dX4_finish_100 (fun q_6 H locs hP hD hS hle hdf => ?_)
        have hnd_7 : (nD d1 (300 + ((t1.1 20 3) : Int32).toNatClampNeg) q_6).1 (300 + ((t1.1 20 3) : Int32).toNatClampNeg) = some q_6 := nD_at
        have hod : okD (nD d1 (300 + ((t1.1 20 3) : Int32).toNatClampNeg) q_6) := okD_n hod
        refine lv_aload_n C.1 C.2.1 dX4_finish_101 rfl (lv_at hl 0 rfl) ?_
        refine k_get (v := .ref (ad 37)) C hP 20 rfl rfl inlX4 2 (by decide) m_4_11 rfl dX4_finish_102 ?_
        refine lv_iconst (v := 0) C.1 C.2.1 dX4_finish_105 (by decide) ?_
        refine lv_aload_n C.1 C.2.1 dX4_finish_106 rfl (lv_at hl 0 rfl) ?_
        refine k_get (v := .ref (ad 35)) C hP 20 rfl rfl inlX4 0 (by decide) m_4_9 rfl dX4_finish_107 ?_
        refine lv_aload_n C.1 C.2.1 dX4_finish_110 rfl (lv_at hl 0 rfl) ?_
        refine k_get (v := .int (t1.1 20 3)) C hP 20 rfl rfl inlX4 3 (by decide) m_41_11 rfl dX4_finish_111 ?_
        have hn_8 : vp_in ((t1.1 20 3) : Int32) 300 := vp_in_iff.mpr ⟨by omega, by omega⟩
        refine k_ald (w := .ref q_6) C hP 35 4 rfl rfl hn_8 (rf_at hn_8 hnd_7) dX4_finish_114 ?_
        refine lv_iconst (v := 0) C.1 C.2.1 dX4_finish_115 (by decide) ?_
        refine lv_iload_n C.1 C.2.1 dX4_finish_116 rfl (lv_at hl 3 rfl) ?_
        obtain ⟨q_9, hq_10, hs_11⟩ := WX_at300 (K := K) (ad := ad) (t := t1) (d := (nD d1 (300 + ((t1.1 20 3) : Int32).toNatClampNeg) q_6)) (vin_lt hn_3) hnd_7
        refine k_copy (ws' := WX (cD (nD d1 (300 + ((t1.1 20 3) : Int32).toNatClampNeg) q_6) (300 + ((t1.1 20 3) : Int32).toNatClampNeg) (va_cpy (t1.2.2.1 37) ((nD d1 (300 + ((t1.1 20 3) : Int32).toNatClampNeg) q_6).2 (300 + ((t1.1 20 3) : Int32).toNatClampNeg)) (0 : Int32).toNatClampNeg (0 : Int32).toNatClampNeg (w66_3 : Int32).toNatClampNeg)) K ad t1) C hl.1 hP hD hS 37 q_9 2 rfl hq_10 rfl rfl (by decide) (by decide) (fun hz => by have hz2 : w66_3.toInt < 0 := i_lt hz; omega) rfl rfl rfl (by have hq1 := clamp_eq (x := (0 : Int32)) (by first | decide | omega); have hq2 := clamp_eq (x := (w66_3 : Int32)) (by first | decide | omega); first | (have hq3 : (0 : Int32).toInt = 0 := rfl; omega) | (have hq3 : (w66_3 : Int32).toInt = 0 := rfl; omega) | (have hq3 : (0 : Int32).toInt = 0 := rfl; have hq4 : (w66_3 : Int32).toInt = 0 := rfl; omega) | omega) (by have hq1 := clamp_eq (x := (0 : Int32)) (by first | decide | omega); have hq2 := clamp_eq (x := (w66_3 : Int32)) (by first | decide | omega); first | (have hq3 : (0 : Int32).toInt = 0 := rfl; omega) | (have hq3 : (w66_3 : Int32).toInt = 0 := rfl; omega) | (have hq3 : (0 : Int32).toInt = 0 := rfl; have hq4 : (w66_3 : Int32).toInt = 0 := rfl; omega) | omega) (fun i hi => fit_b (hok.2.1 37 _)) m_41_12 m_10_14 m_10_15 m_10_16 (Nat.le_of_ble_eq_true rfl) (Nat.le_of_ble_eq_true rfl) (hs_11 _) dX4_finish_117 (fun H locs hP hD hS => ?_)
        rw [show newC d (nD d1 (300 + ((t1.1 20 3) : Int32).toNatClampNeg) q_6) = newC d (cD (nD d1 (300 + ((t1.1 20 3) : Int32).toNatClampNeg) q_6) (300 + ((t1.1 20 3) : Int32).toNatClampNeg) (va_cpy (t1.2.2.1 37) ((nD d1 (300 + ((t1.1 20 3) : Int32).toNatClampNeg) q_6).2 (300 + ((t1.1 20 3) : Int32).toNatClampNeg)) (0 : Int32).toNatClampNeg (0 : Int32).toNatClampNeg (w66_3 : Int32).toNatClampNeg)) from rfl]
        have hle : dLe d (cD (nD d1 (300 + ((t1.1 20 3) : Int32).toNatClampNeg) q_6) (300 + ((t1.1 20 3) : Int32).toNatClampNeg) (va_cpy (t1.2.2.1 37) ((nD d1 (300 + ((t1.1 20 3) : Int32).toNatClampNeg) q_6).2 (300 + ((t1.1 20 3) : Int32).toNatClampNeg)) (0 : Int32).toNatClampNeg (0 : Int32).toNatClampNeg (w66_3 : Int32).toNatClampNeg)) := hle
        have hdf : dFr s.heap.size d (cD (nD d1 (300 + ((t1.1 20 3) : Int32).toNatClampNeg) q_6) (300 + ((t1.1 20 3) : Int32).toNatClampNeg) (va_cpy (t1.2.2.1 37) ((nD d1 (300 + ((t1.1 20 3) : Int32).toNatClampNeg) q_6).2 (300 + ((t1.1 20 3) : Int32).toNatClampNeg)) (0 : Int32).toNatClampNeg (0 : Int32).toNatClampNeg (w66_3 : Int32).toNatClampNeg)) := hdf
        have hod : okD (cD (nD d1 (300 + ((t1.1 20 3) : Int32).toNatClampNeg) q_6) (300 + ((t1.1 20 3) : Int32).toNatClampNeg) (va_cpy (t1.2.2.1 37) ((nD d1 (300 + ((t1.1 20 3) : Int32).toNatClampNeg) q_6).2 (300 + ((t1.1 20 3) : Int32).toNatClampNeg)) (0 : Int32).toNatClampNeg (0 : Int32).toNatClampNeg (w66_3 : Int32).toNatClampNeg)) := okD_c hod (by have hz := vin_lt hn_3; omega)
        refine lv_aload_n C.1 C.2.1 dX4_finish_120 rfl (lv_at hl 0 rfl) ?_
        refine k_get (v := .ref (ad 36)) C hP 20 rfl rfl inlX4 1 (by decide) m_4_10 rfl dX4_finish_121 ?_
        refine lv_aload_n C.1 C.2.1 dX4_finish_124 rfl (lv_at hl 0 rfl) ?_
        refine k_get (v := .int (t1.1 20 3)) C hP 20 rfl rfl inlX4 3 (by decide) m_41_11 rfl dX4_finish_125 ?_
        refine lv_iload_n C.1 C.2.1 dX4_finish_128 rfl (lv_at hl 3 rfl) ?_
        refine k_ist (ws' := (WX (cD (nD d1 (300 + ((t1.1 20 3) : Int32).toNatClampNeg) q_6) (300 + ((t1.1 20 3) : Int32).toNatClampNeg) (va_cpy (t1.2.2.1 37) ((nD d1 (300 + ((t1.1 20 3) : Int32).toNatClampNeg) q_6).2 (300 + ((t1.1 20 3) : Int32).toNatClampNeg)) (0 : Int32).toNatClampNeg (0 : Int32).toNatClampNeg (w66_3 : Int32).toNatClampNeg))) K ad (uB t1 36 ((t1.1 20 3) : Int32).toNatClampNeg w66_3)) (x' := w66_3) C hP hD hS 36 rfl (vp_in_iff.mpr ⟨by omega, by omega⟩) rfl rfl rfl dX4_finish_129 (fun H locs hP hD hS => ?_)
        have hok : okX (uB t1 36 ((t1.1 20 3) : Int32).toNatClampNeg w66_3) := ⟨hok.1, okB_B hok.2.1 36 _ w66_3 (show (0 : Int) ≤ (w66_3 : Int32).toInt ∧ (w66_3 : Int32).toInt ≤ 120 from ⟨by omega, by omega⟩), trivial⟩
        have hfr : frA [(20, 3)] [] [35, 36, 37] [] t (uB t1 36 ((t1.1 20 3) : Int32).toNatClampNeg w66_3) := frA_B hfr 36 _ _ rfl
        refine lv_aload_n C.1 C.2.1 dX4_finish_130 rfl (lv_at hl 0 rfl) ?_
        refine lv_dup C.1 C.2.1 dX4_finish_131 rfl ?_
        refine k_get (v := .int (t1.1 20 3)) C hP 20 rfl rfl inlX4 3 (by decide) m_41_11 rfl dX4_finish_132 ?_
        refine lv_iconst (v := 1) C.1 C.2.1 dX4_finish_135 (by decide) ?_
        obtain ⟨v_12, e_13⟩ : ∃ z, z = ((t1.1 20 3) : Int32) + (1 : Int32) := ⟨_, rfl⟩
        have h_14 : v_12.toInt = (t1.1 20 3).toInt + 1 := by rw [e_13]; exact ti_iadd (by show (_ : Int) ≤ (t1.1 20 3).toInt + 1; omega) (by show (t1.1 20 3).toInt + 1 < (_ : Int); omega)
        refine k_iadd (v := v_12) C e_13.symm dX4_finish_136 ?_
        refine k_put (ws' := (WX (cD (nD d1 (300 + ((t1.1 20 3) : Int32).toNatClampNeg) q_6) (300 + ((t1.1 20 3) : Int32).toNatClampNeg) (va_cpy (t1.2.2.1 37) ((nD d1 (300 + ((t1.1 20 3) : Int32).toNatClampNeg) q_6).2 (300 + ((t1.1 20 3) : Int32).toNatClampNeg)) (0 : Int32).toNatClampNeg (0 : Int32).toNatClampNeg (w66_3 : Int32).toNatClampNeg))) K ad (uI (uB t1 36 ((t1.1 20 3) : Int32).toNatClampNeg w66_3) 20 3 v_12)) (v := .int v_12) C hP hD hS 20 rfl rfl inlX4 tyX4_ok nmX4 3 (by decide) m_41_11 rfl rfl rfl rfl rfl dX4_finish_137 (fun H locs hP hD hS => ?_)
        have hok : okX (uI (uB t1 36 ((t1.1 20 3) : Int32).toNatClampNeg w66_3) 20 3 v_12) := ⟨okI_I hok.1 20 3 v_12 (show (0 : Int) ≤ (v_12 : Int32).toInt ∧ (v_12 : Int32).toInt ≤ 300 from ⟨by omega, by omega⟩), hok.2.1, trivial⟩
        have hfr : frA [(20, 3)] [] [35, 36, 37] [] t (uI (uB t1 36 ((t1.1 20 3) : Int32).toNatClampNeg w66_3) 20 3 v_12) := frA_I hfr 20 3 _ rfl
        exact L_140 (uI (uB t1 36 ((t1.1 20 3) : Int32).toNatClampNeg w66_3) 20 3 v_12) (cD (nD d1 (300 + ((t1.1 20 3) : Int32).toNatClampNeg) q_6) (300 + ((t1.1 20 3) : Int32).toNatClampNeg) (va_cpy (t1.2.2.1 37) ((nD d1 (300 + ((t1.1 20 3) : Int32).toNatClampNeg) q_6).2 (300 + ((t1.1 20 3) : Int32).toNatClampNeg)) (0 : Int32).toNatClampNeg (0 : Int32).toNatClampNeg (w66_3 : Int32).toNatClampNeg)) w66_3 w66_4 _ _ _ hok hfr hod hle hdf ⟨by omega, by omega⟩ ⟨by omega, by omega⟩ (show (1 : Int) ≤ (v_12 : Int32).toInt ∧ (v_12 : Int32).toInt ≤ 300 from ⟨by omega, by omega⟩) hP hD hS (lv_sub hl [0, 1, 2, 3, 4] rfl)
      · refine n_ifnonnullS (tgt := 101) C.1 C.2.1 hd_4 dX4_finish_85 (by decide) ?_
        refine lv_aload_n C.1 C.2.1 dX4_finish_101 rfl (lv_at hl 0 rfl) ?_
        refine k_get (v := .ref (ad 37)) C hP 20 rfl rfl inlX4 2 (by decide) m_4_11 rfl dX4_finish_102 ?_
        refine lv_iconst (v := 0) C.1 C.2.1 dX4_finish_105 (by decide) ?_
        refine lv_aload_n C.1 C.2.1 dX4_finish_106 rfl (lv_at hl 0 rfl) ?_
        refine k_get (v := .ref (ad 35)) C hP 20 rfl rfl inlX4 0 (by decide) m_4_9 rfl dX4_finish_107 ?_
        refine lv_aload_n C.1 C.2.1 dX4_finish_110 rfl (lv_at hl 0 rfl) ?_
        refine k_get (v := .int (t1.1 20 3)) C hP 20 rfl rfl inlX4 3 (by decide) m_41_11 rfl dX4_finish_111 ?_
        have hn_15 : vp_in ((t1.1 20 3) : Int32) 300 := vp_in_iff.mpr ⟨by omega, by omega⟩
        refine k_ald (w := .ref a_5) C hP 35 4 rfl rfl hn_15 (rf_at hn_15 hd_4) dX4_finish_114 ?_
        refine lv_iconst (v := 0) C.1 C.2.1 dX4_finish_115 (by decide) ?_
        refine lv_iload_n C.1 C.2.1 dX4_finish_116 rfl (lv_at hl 3 rfl) ?_
        obtain ⟨q_16, hq_17, hs_18⟩ := WX_at300 (K := K) (ad := ad) (t := t1) (d := d1) (vin_lt hn_3) hd_4
        refine k_copy (ws' := WX (cD d1 (300 + ((t1.1 20 3) : Int32).toNatClampNeg) (va_cpy (t1.2.2.1 37) (d1.2 (300 + ((t1.1 20 3) : Int32).toNatClampNeg)) (0 : Int32).toNatClampNeg (0 : Int32).toNatClampNeg (w66_3 : Int32).toNatClampNeg)) K ad t1) C hl.1 hP hD hS 37 q_16 2 rfl hq_17 rfl rfl (by decide) (by decide) (fun hz => by have hz2 : w66_3.toInt < 0 := i_lt hz; omega) rfl rfl rfl (by have hq1 := clamp_eq (x := (0 : Int32)) (by first | decide | omega); have hq2 := clamp_eq (x := (w66_3 : Int32)) (by first | decide | omega); first | (have hq3 : (0 : Int32).toInt = 0 := rfl; omega) | (have hq3 : (w66_3 : Int32).toInt = 0 := rfl; omega) | (have hq3 : (0 : Int32).toInt = 0 := rfl; have hq4 : (w66_3 : Int32).toInt = 0 := rfl; omega) | omega) (by have hq1 := clamp_eq (x := (0 : Int32)) (by first | decide | omega); have hq2 := clamp_eq (x := (w66_3 : Int32)) (by first | decide | omega); first | (have hq3 : (0 : Int32).toInt = 0 := rfl; omega) | (have hq3 : (w66_3 : Int32).toInt = 0 := rfl; omega) | (have hq3 : (0 : Int32).toInt = 0 := rfl; have hq4 : (w66_3 : Int32).toInt = 0 := rfl; omega) | omega) (fun i hi => fit_b (hok.2.1 37 _)) m_41_12 m_10_14 m_10_15 m_10_16 (Nat.le_of_ble_eq_true rfl) (Nat.le_of_ble_eq_true rfl) (hs_18 _) dX4_finish_117 (fun H locs hP hD hS => ?_)
        rw [show newC d d1 = newC d (cD d1 (300 + ((t1.1 20 3) : Int32).toNatClampNeg) (va_cpy (t1.2.2.1 37) (d1.2 (300 + ((t1.1 20 3) : Int32).toNatClampNeg)) (0 : Int32).toNatClampNeg (0 : Int32).toNatClampNeg (w66_3 : Int32).toNatClampNeg)) from rfl]
        have hle : dLe d (cD d1 (300 + ((t1.1 20 3) : Int32).toNatClampNeg) (va_cpy (t1.2.2.1 37) (d1.2 (300 + ((t1.1 20 3) : Int32).toNatClampNeg)) (0 : Int32).toNatClampNeg (0 : Int32).toNatClampNeg (w66_3 : Int32).toNatClampNeg)) := hle
        have hdf : dFr s.heap.size d (cD d1 (300 + ((t1.1 20 3) : Int32).toNatClampNeg) (va_cpy (t1.2.2.1 37) (d1.2 (300 + ((t1.1 20 3) : Int32).toNatClampNeg)) (0 : Int32).toNatClampNeg (0 : Int32).toNatClampNeg (w66_3 : Int32).toNatClampNeg)) := hdf
        have hod : okD (cD d1 (300 + ((t1.1 20 3) : Int32).toNatClampNeg) (va_cpy (t1.2.2.1 37) (d1.2 (300 + ((t1.1 20 3) : Int32).toNatClampNeg)) (0 : Int32).toNatClampNeg (0 : Int32).toNatClampNeg (w66_3 : Int32).toNatClampNeg)) := okD_c hod (by have hz := vin_lt hn_3; omega)
        refine lv_aload_n C.1 C.2.1 dX4_finish_120 rfl (lv_at hl 0 rfl) ?_
        refine k_get (v := .ref (ad 36)) C hP 20 rfl rfl inlX4 1 (by decide) m_4_10 rfl dX4_finish_121 ?_
        refine lv_aload_n C.1 C.2.1 dX4_finish_124 rfl (lv_at hl 0 rfl) ?_
        refine k_get (v := .int (t1.1 20 3)) C hP 20 rfl rfl inlX4 3 (by decide) m_41_11 rfl dX4_finish_125 ?_
        refine lv_iload_n C.1 C.2.1 dX4_finish_128 rfl (lv_at hl 3 rfl) ?_
        refine k_ist (ws' := (WX (cD d1 (300 + ((t1.1 20 3) : Int32).toNatClampNeg) (va_cpy (t1.2.2.1 37) (d1.2 (300 + ((t1.1 20 3) : Int32).toNatClampNeg)) (0 : Int32).toNatClampNeg (0 : Int32).toNatClampNeg (w66_3 : Int32).toNatClampNeg))) K ad (uB t1 36 ((t1.1 20 3) : Int32).toNatClampNeg w66_3)) (x' := w66_3) C hP hD hS 36 rfl (vp_in_iff.mpr ⟨by omega, by omega⟩) rfl rfl rfl dX4_finish_129 (fun H locs hP hD hS => ?_)
        have hok : okX (uB t1 36 ((t1.1 20 3) : Int32).toNatClampNeg w66_3) := ⟨hok.1, okB_B hok.2.1 36 _ w66_3 (show (0 : Int) ≤ (w66_3 : Int32).toInt ∧ (w66_3 : Int32).toInt ≤ 120 from ⟨by omega, by omega⟩), trivial⟩
        have hfr : frA [(20, 3)] [] [35, 36, 37] [] t (uB t1 36 ((t1.1 20 3) : Int32).toNatClampNeg w66_3) := frA_B hfr 36 _ _ rfl
        refine lv_aload_n C.1 C.2.1 dX4_finish_130 rfl (lv_at hl 0 rfl) ?_
        refine lv_dup C.1 C.2.1 dX4_finish_131 rfl ?_
        refine k_get (v := .int (t1.1 20 3)) C hP 20 rfl rfl inlX4 3 (by decide) m_41_11 rfl dX4_finish_132 ?_
        refine lv_iconst (v := 1) C.1 C.2.1 dX4_finish_135 (by decide) ?_
        obtain ⟨v_19, e_20⟩ : ∃ z, z = ((t1.1 20 3) : Int32) + (1 : Int32) := ⟨_, rfl⟩
        have h_21 : v_19.toInt = (t1.1 20 3).toInt + 1 := by rw [e_20]; exact ti_iadd (by show (_ : Int) ≤ (t1.1 20 3).toInt + 1; omega) (by show (t1.1 20 3).toInt + 1 < (_ : Int); omega)
        refine k_iadd (v := v_19) C e_20.symm dX4_finish_136 ?_
        refine k_put (ws' := (WX (cD d1 (300 + ((t1.1 20 3) : Int32).toNatClampNeg) (va_cpy (t1.2.2.1 37) (d1.2 (300 + ((t1.1 20 3) : Int32).toNatClampNeg)) (0 : Int32).toNatClampNeg (0 : Int32).toNatClampNeg (w66_3 : Int32).toNatClampNeg))) K ad (uI (uB t1 36 ((t1.1 20 3) : Int32).toNatClampNeg w66_3) 20 3 v_19)) (v := .int v_19) C hP hD hS 20 rfl rfl inlX4 tyX4_ok nmX4 3 (by decide) m_41_11 rfl rfl rfl rfl rfl dX4_finish_137 (fun H locs hP hD hS => ?_)
        have hok : okX (uI (uB t1 36 ((t1.1 20 3) : Int32).toNatClampNeg w66_3) 20 3 v_19) := ⟨okI_I hok.1 20 3 v_19 (show (0 : Int) ≤ (v_19 : Int32).toInt ∧ (v_19 : Int32).toInt ≤ 300 from ⟨by omega, by omega⟩), hok.2.1, trivial⟩
        have hfr : frA [(20, 3)] [] [35, 36, 37] [] t (uI (uB t1 36 ((t1.1 20 3) : Int32).toNatClampNeg w66_3) 20 3 v_19) := frA_I hfr 20 3 _ rfl
        exact L_140 (uI (uB t1 36 ((t1.1 20 3) : Int32).toNatClampNeg w66_3) 20 3 v_19) (cD d1 (300 + ((t1.1 20 3) : Int32).toNatClampNeg) (va_cpy (t1.2.2.1 37) (d1.2 (300 + ((t1.1 20 3) : Int32).toNatClampNeg)) (0 : Int32).toNatClampNeg (0 : Int32).toNatClampNeg (w66_3 : Int32).toNatClampNeg)) w66_3 w66_4 _ _ _ hok hfr hod hle hdf ⟨by omega, by omega⟩ ⟨by omega, by omega⟩ (show (1 : Int) ≤ (v_19 : Int32).toInt ∧ (v_19 : Int32).toInt ≤ 300 from ⟨by omega, by omega⟩) hP hD hS (lv_sub hl [0, 1, 2, 3, 4] rfl)
  have L_5 : ∀ (fuel_5 : Nat) (t1 : tSt) (d1 : dSt) (w5_3 : Int32) (w5_4 : Int32) (H : Heap) (locs : List Loc) (ls : Array Slot), okX t1 → frA [(20, 3)] [] [35, 36, 37] [] t t1 → okD d1 → dLe d d1 → dFr s.heap.size d d1 → (0 : Int) ≤ w5_3.toInt ∧ w5_3.toInt ≤ 120 → (0 : Int) ≤ w5_4.toInt ∧ w5_4.toInt ≤ 120 → (120 : Int) - w5_4.toInt < (fuel_5 : Int) → va_P D vwCl ((WX d1) K ad t1) H → va_D A ((WX d1) K ad t1) → va_S A s.heap H locs → lv_has ls 5 [(0, .ref (ad 20)), (1, .int x1), (2, .int x2), (3, .int w5_3), (4, .int w5_4)] → W p l e (rmD 1 2000 560000) s m [.ref (ad 20), .int x1, .int x2].toArray below meth c H locs (newC d d1) 246800 (MQ below (QDV D K ad d (fun (u : tSt) (dd : dSt) => okX u ∧ frA [(20, 3)] [] [35, 36, 37] [] t u ∧ okD dd) s.heap.size A) [.ref (ad 20), .int x1, .int x2].toArray s 2000 560000 A) (F0 m 5 ls []) := by
    intro fuel_5
    induction fuel_5 with
    | zero =>
      intro t1 d1 w5_3 w5_4 H locs ls hok hfr hod hle hdf hw5_3 hw5_4 hm5_5 hP hD hS hl
      exact absurd hm5_5 (by omega)
    | succ fuel_5 ih_5 =>
      intro t1 d1 w5_3 w5_4 H locs ls hok hfr hod hle hdf hw5_3 hw5_4 hm5_5 hP hD hS hl
      have hm5_5 : (120 : Int) - w5_4.toInt < (fuel_5 : Int) + 1 := by omega
      have L_60 : ∀ (t1 : tSt) (d1 : dSt) (w60_3 : Int32) (w60_4 : Int32) (H : Heap) (locs : List Loc) (ls : Array Slot), okX t1 → frA [(20, 3)] [] [35, 36, 37] [] t t1 → okD d1 → dLe d d1 → dFr s.heap.size d d1 → (0 : Int) ≤ w60_3.toInt ∧ w60_3.toInt ≤ 120 → (0 : Int) ≤ w60_4.toInt ∧ w60_4.toInt ≤ 119 → (120 : Int) - w60_4.toInt < (fuel_5 : Int) + 1 → va_P D vwCl ((WX d1) K ad t1) H → va_D A ((WX d1) K ad t1) → va_S A s.heap H locs → lv_has ls 5 [(0, .ref (ad 20)), (1, .int x1), (2, .int x2), (3, .int w60_3), (4, .int w60_4)] → W p l e (rmD 1 2000 560000) s m [.ref (ad 20), .int x1, .int x2].toArray below meth c H locs (newC d d1) 246800 (MQ below (QDV D K ad d (fun (u : tSt) (dd : dSt) => okX u ∧ frA [(20, 3)] [] [35, 36, 37] [] t u ∧ okD dd) s.heap.size A) [.ref (ad 20), .int x1, .int x2].toArray s 2000 560000 A) (F0 m 60 ls []) := by
        intro t1 d1 w60_3 w60_4 H locs ls hok hfr hod hle hdf hw60_3 hw60_4 hm60_5 hP hD hS hl
        obtain ⟨v_22, e_23⟩ : ∃ z, z = w60_4 + 1 := ⟨_, rfl⟩
        have h_24 : v_22.toInt = w60_4.toInt + 1 := by rw [e_23]; exact ti_iadd (by show (_ : Int) ≤ w60_4.toInt + 1; omega) (by show w60_4.toInt + 1 < (_ : Int); omega)
        refine lv_iinc (v := v_22) (lv' := [(4, .int v_22), (0, .ref (ad 20)), (1, .int x1), (2, .int x2), (3, .int w60_3)]) C.1 C.2.1 dX4_finish_60 hl (k := 4) rfl e_23.symm (by decide) rfl (fun ls hl => ?_)
        have hl : lv_has ls 5 [(0, .ref (ad 20)), (1, .int x1), (2, .int x2), (3, .int w60_3), (4, .int v_22)] := lv_sub hl [1, 2, 3, 4, 0] rfl
        refine lv_goto (tgt := 5) C.1 C.2.1 dX4_finish_63 (by decide) ?_
        exact ih_5 t1 d1 w60_3 v_22 _ _ _ hok hfr hod hle hdf ⟨by omega, by omega⟩ ⟨by omega, by omega⟩ (show (120 : Int) - v_22.toInt < (fuel_5 : Int) from by omega) hP hD hS (lv_sub hl [0, 1, 2, 3, 4] rfl)
      have L_43 : ∀ (t1 : tSt) (d1 : dSt) (w43_3 : Int32) (w43_4 : Int32) (H : Heap) (locs : List Loc) (ls : Array Slot), okX t1 → frA [(20, 3)] [] [35, 36, 37] [] t t1 → okD d1 → dLe d d1 → dFr s.heap.size d d1 → (0 : Int) ≤ w43_3.toInt ∧ w43_3.toInt ≤ 120 → (0 : Int) ≤ w43_4.toInt ∧ w43_4.toInt ≤ 119 → (120 : Int) - w43_4.toInt < (fuel_5 : Int) + 1 → va_P D vwCl ((WX d1) K ad t1) H → va_D A ((WX d1) K ad t1) → va_S A s.heap H locs → lv_has ls 5 [(0, .ref (ad 20)), (1, .int x1), (2, .int x2), (3, .int w43_3), (4, .int w43_4)] → W p l e (rmD 1 2000 560000) s m [.ref (ad 20), .int x1, .int x2].toArray below meth c H locs (newC d d1) 246800 (MQ below (QDV D K ad d (fun (u : tSt) (dd : dSt) => okX u ∧ frA [(20, 3)] [] [35, 36, 37] [] t u ∧ okD dd) s.heap.size A) [.ref (ad 20), .int x1, .int x2].toArray s 2000 560000 A) (F0 m 43 ls []) := by
        intro t1 d1 w43_3 w43_4 H locs ls hok hfr hod hle hdf hw43_3 hw43_4 hm43_5 hP hD hS hl
        refine lv_aload_n C.1 C.2.1 dX4_finish_43 rfl (lv_at hl 0 rfl) ?_
        refine k_get (v := .ref (ad 37)) C hP 20 rfl rfl inlX4 2 (by decide) m_4_11 rfl dX4_finish_44 ?_
        refine lv_iload C.1 C.2.1 dX4_finish_47 (lv_at hl 4 rfl) ?_
        obtain ⟨v_25, e_26⟩ : ∃ z, z = (t1.2.2.1 37 (w43_4 : Int32).toNatClampNeg) := ⟨_, rfl⟩
        have h_27 : (-128 : Int) ≤ v_25.toInt ∧ v_25.toInt ≤ 127 := by rw [e_26]; exact hok.2.1 37 _
        refine k_bld (v := v_25) C hP 37 rfl (vp_in_iff.mpr ⟨by omega, by omega⟩) e_26.symm dX4_finish_49 ?_
        refine lv_bipush (v := 32) C.1 C.2.1 dX4_finish_50 (by decide) ?_
        refine lv_icmp_eq (tgt := 60) C.1 C.2.1 dX4_finish_52 (by decide) (fun c_28 => ?_) (fun c_28 => ?_)
        · replace c_28 : v_25.toInt = 32 := i_eq c_28
          exact L_60 t1 d1 w43_3 w43_4 _ _ _ hok hfr hod hle hdf ⟨by omega, by omega⟩ ⟨by omega, by omega⟩ (show (120 : Int) - w43_4.toInt < (fuel_5 : Int) + 1 from by omega) hP hD hS (lv_sub hl [0, 1, 2, 3, 4] rfl)
        · replace c_28 : ¬ v_25.toInt = 32 := i_ne c_28
          refine lv_iload C.1 C.2.1 dX4_finish_55 (lv_at hl 4 rfl) ?_
          refine lv_iconst (v := 1) C.1 C.2.1 dX4_finish_57 (by decide) ?_
          obtain ⟨v_29, e_30⟩ : ∃ z, z = (w43_4 : Int32) + (1 : Int32) := ⟨_, rfl⟩
          have h_31 : v_29.toInt = w43_4.toInt + 1 := by rw [e_30]; exact ti_iadd (by show (_ : Int) ≤ w43_4.toInt + 1; omega) (by show w43_4.toInt + 1 < (_ : Int); omega)
          refine k_iadd (v := v_29) C e_30.symm dX4_finish_58 ?_
          refine lv_istore_n (lv' := [(3, .int v_29), (0, .ref (ad 20)), (1, .int x1), (2, .int x2), (4, .int w43_4)]) C.1 C.2.1 dX4_finish_59 rfl hl (by decide) rfl (fun ls hl => ?_)
          have hl : lv_has ls 5 [(0, .ref (ad 20)), (1, .int x1), (2, .int x2), (3, .int v_29), (4, .int w43_4)] := lv_sub hl [1, 2, 3, 0, 4] rfl
          exact L_60 t1 d1 v_29 w43_4 _ _ _ hok hfr hod hle hdf ⟨by omega, by omega⟩ ⟨by omega, by omega⟩ (show (120 : Int) - w43_4.toInt < (fuel_5 : Int) + 1 from by omega) hP hD hS (lv_sub hl [0, 1, 2, 3, 4] rfl)
      refine lv_iload C.1 C.2.1 dX4_finish_5 (lv_at hl 4 rfl) ?_
      refine lv_bipush (v := 120) C.1 C.2.1 dX4_finish_7 (by decide) ?_
      refine lv_icmp_ge (tgt := 66) C.1 C.2.1 dX4_finish_9 (by decide) (fun c_32 => ?_) (fun c_32 => ?_)
      · replace c_32 : 120 ≤ w5_4.toInt := i_le c_32
        exact L_66 t1 d1 w5_3 w5_4 _ _ _ hok hfr hod hle hdf ⟨by omega, by omega⟩ ⟨by omega, by omega⟩ hP hD hS (lv_sub hl [0, 1, 2, 3, 4] rfl)
      · replace c_32 : w5_4.toInt < 120 := i_nle c_32
        refine lv_iload C.1 C.2.1 dX4_finish_12 (lv_at hl 4 rfl) ?_
        refine lv_iload_n C.1 C.2.1 dX4_finish_14 rfl (lv_at hl 1 rfl) ?_
        refine lv_icmp_ge (tgt := 66) C.1 C.2.1 dX4_finish_15 (by decide) (fun c_33 => ?_) (fun c_33 => ?_)
        · replace c_33 : x1.toInt ≤ w5_4.toInt := i_le c_33
          exact L_66 t1 d1 w5_3 w5_4 _ _ _ hok hfr hod hle hdf ⟨by omega, by omega⟩ ⟨by omega, by omega⟩ hP hD hS (lv_sub hl [0, 1, 2, 3, 4] rfl)
        · replace c_33 : w5_4.toInt < x1.toInt := i_nle c_33
          refine lv_iload_n C.1 C.2.1 dX4_finish_18 rfl (lv_at hl 2 rfl) ?_
          refine lv_if_eq (tgt := 43) C.1 C.2.1 dX4_finish_19 (by decide) (fun c_34 => ?_) (fun c_34 => ?_)
          · replace c_34 : x2.toInt = 0 := i_eq c_34
            exact L_43 t1 d1 w5_3 w5_4 _ _ _ hok hfr hod hle hdf ⟨by omega, by omega⟩ ⟨by omega, by omega⟩ (show (120 : Int) - w5_4.toInt < (fuel_5 : Int) + 1 from by omega) hP hD hS (lv_sub hl [0, 1, 2, 3, 4] rfl)
          · replace c_34 : ¬ x2.toInt = 0 := i_ne c_34
            refine lv_aload_n C.1 C.2.1 dX4_finish_22 rfl (lv_at hl 0 rfl) ?_
            refine k_get (v := .ref (ad 37)) C hP 20 rfl rfl inlX4 2 (by decide) m_4_11 rfl dX4_finish_23 ?_
            refine lv_iload C.1 C.2.1 dX4_finish_26 (lv_at hl 4 rfl) ?_
            obtain ⟨v_35, e_36⟩ : ∃ z, z = (t1.2.2.1 37 (w5_4 : Int32).toNatClampNeg) := ⟨_, rfl⟩
            have h_37 : (-128 : Int) ≤ v_35.toInt ∧ v_35.toInt ≤ 127 := by rw [e_36]; exact hok.2.1 37 _
            refine k_bld (v := v_35) C hP 37 rfl (vp_in_iff.mpr ⟨by omega, by omega⟩) e_36.symm dX4_finish_28 ?_
            refine lv_bipush (v := 63) C.1 C.2.1 dX4_finish_29 (by decide) ?_
            refine lv_icmp_ne (tgt := 43) C.1 C.2.1 dX4_finish_31 (by decide) (fun c_38 => ?_) (fun c_38 => ?_)
            · replace c_38 : ¬ v_35.toInt = 63 := i_ne c_38
              exact L_43 t1 d1 w5_3 w5_4 _ _ _ hok hfr hod hle hdf ⟨by omega, by omega⟩ ⟨by omega, by omega⟩ (show (120 : Int) - w5_4.toInt < (fuel_5 : Int) + 1 from by omega) hP hD hS (lv_sub hl [0, 1, 2, 3, 4] rfl)
            · replace c_38 : v_35.toInt = 63 := i_eq c_38
              refine lv_aload_n C.1 C.2.1 dX4_finish_34 rfl (lv_at hl 0 rfl) ?_
              refine k_get (v := .ref (ad 37)) C hP 20 rfl rfl inlX4 2 (by decide) m_4_11 rfl dX4_finish_35 ?_
              refine lv_iload C.1 C.2.1 dX4_finish_38 (lv_at hl 4 rfl) ?_
              refine lv_bipush (v := 32) C.1 C.2.1 dX4_finish_40 (by decide) ?_
              obtain ⟨v_39, e_40⟩ : ∃ z, z = vp_nar .byte 32 := ⟨_, rfl⟩
              have h_41 : (-128 : Int) ≤ v_39.toInt ∧ v_39.toInt ≤ 127 := by rw [e_40]; exact nar_byte _
              refine k_bst (ws' := (WX d1) K ad (uB t1 37 (w5_4 : Int32).toNatClampNeg v_39)) (x' := v_39) C hP hD hS 37 rfl (vp_in_iff.mpr ⟨by omega, by omega⟩) rfl e_40.symm rfl dX4_finish_42 (fun H locs hP hD hS => ?_)
              have hok : okX (uB t1 37 (w5_4 : Int32).toNatClampNeg v_39) := ⟨hok.1, okB_B hok.2.1 37 _ v_39 (show (-128 : Int) ≤ (v_39 : Int32).toInt ∧ (v_39 : Int32).toInt ≤ 127 from ⟨by omega, by omega⟩), trivial⟩
              have hfr : frA [(20, 3)] [] [35, 36, 37] [] t (uB t1 37 (w5_4 : Int32).toNatClampNeg v_39) := frA_B hfr 37 _ _ rfl
              exact L_43 (uB t1 37 (w5_4 : Int32).toNatClampNeg v_39) d1 w5_3 w5_4 _ _ _ hok hfr hod hle hdf ⟨by omega, by omega⟩ ⟨by omega, by omega⟩ (show (120 : Int) - w5_4.toInt < (fuel_5 : Int) + 1 from by omega) hP hD hS (lv_sub hl [0, 1, 2, 3, 4] rfl)
  refine lv_iconst (v := 0) C.1 C.2.1 dX4_finish_0 (by decide) ?_
  refine lv_istore_n (lv' := [(3, .int 0), (0, .ref (ad 20)), (1, .int x1), (2, .int x2)]) C.1 C.2.1 dX4_finish_1 rfl hl (by decide) rfl (fun ls hl => ?_)
  have hl : lv_has ls 5 [(0, .ref (ad 20)), (1, .int x1), (2, .int x2), (3, .int 0)] := lv_sub hl [1, 2, 3, 0] rfl
  refine lv_iconst (v := 0) C.1 C.2.1 dX4_finish_2 (by decide) ?_
  refine lv_istore (lv' := [(4, .int 0), (0, .ref (ad 20)), (1, .int x1), (2, .int x2), (3, .int 0)]) C.1 C.2.1 dX4_finish_3 hl (by decide) rfl (fun ls hl => ?_)
  have hl : lv_has ls 5 [(0, .ref (ad 20)), (1, .int x1), (2, .int x2), (3, .int 0), (4, .int 0)] := lv_sub hl [1, 2, 3, 4, 0] rfl
  exact L_5 121 t d 0 0 _ _ _ hok hfr hod hle hdf ⟨by decide, by decide⟩ ⟨by decide, by decide⟩ (show (120 : Int) - 0 < ((121 : Nat) : Int) from by omega) hP hD hS (lv_sub hl [0, 1, 2, 3, 4] rfl)


set_option maxHeartbeats 4000000 in
set_option maxRecDepth 100000 in
theorem T_X4_finish_1 (l : Launch) (D : va_G) (K : Nat → ClassId) (Z Y : Nat → Nat) (ad : Nat → Nat) (d : dSt) (t : tSt) (hok : okX t) (hod : okD d) (x1 : Int32) (hx1 : (120 : Int) ≤ x1.toInt ∧ x1.toInt ≤ 120) (x2 : Int32) (hx2 : (0 : Int) ≤ x2.toInt ∧ x2.toInt ≤ 0) : dMet l yX4_finish cX4_finish 5 none (rmD 1 2000 560000) D K Z Y [.ref (ad 19), .int x1, .int x2] ((WX d) K ad t) (QDV D K ad d (fun (u : tSt) (dd : dSt) => okX u ∧ frA [(19, 3)] [] [32, 33, 34] [] t u ∧ okD dd)) 2000 560000 := by
  refine d_met d RX4 ⟨rfl, by decide +kernel⟩ (Nat.le_of_ble_eq_true rfl) ?_
  intro p e s m below meth c A ls C hE hZ hX hr hlocks hA hP hD hS hl
  have hl : lv_has ls 5 [(0, .ref (ad 19)), (1, .int x1), (2, .int x2)] := hl
  have hle : dLe d d := dLe_rf
  have hdf : dFr s.heap.size d d := dFr_rf
  have hokt := hok
  have hfr : frA [(19, 3)] [] [32, 33, 34] [] t t := frA_rf
  have L_140 : ∀ (t1 : tSt) (d1 : dSt) (w140_3 : Int32) (w140_4 : Int32) (H : Heap) (locs : List Loc) (ls : Array Slot), okX t1 → frA [(19, 3)] [] [32, 33, 34] [] t t1 → okD d1 → dLe d d1 → dFr s.heap.size d d1 → (0 : Int) ≤ w140_3.toInt ∧ w140_3.toInt ≤ 120 → (120 : Int) ≤ w140_4.toInt ∧ w140_4.toInt ≤ 120 → (1 : Int) ≤ (t1.1 19 3).toInt ∧ (t1.1 19 3).toInt ≤ 300 → va_P D vwCl ((WX d1) K ad t1) H → va_D A ((WX d1) K ad t1) → va_S A s.heap H locs → lv_has ls 5 [(0, .ref (ad 19)), (1, .int x1), (2, .int x2), (3, .int w140_3), (4, .int w140_4)] → W p l e (rmD 1 2000 560000) s m [.ref (ad 19), .int x1, .int x2].toArray below meth c H locs (newC d d1) 246800 (MQ below (QDV D K ad d (fun (u : tSt) (dd : dSt) => okX u ∧ frA [(19, 3)] [] [32, 33, 34] [] t u ∧ okD dd) s.heap.size A) [.ref (ad 19), .int x1, .int x2].toArray s 2000 560000 A) (F0 m 140 ls []) := by
    intro t1 d1 w140_3 w140_4 H locs ls hok hfr hod hle hdf hw140_3 hw140_4 hf140_3 hP hD hS hl
    refine lv_aload_n C.1 C.2.1 dX4_finish_140 rfl (lv_at hl 0 rfl) ?_
    refine k_get (v := .ref (ad 34)) C hP 19 rfl rfl inlX4 2 (by decide) m_4_11 rfl dX4_finish_141 ?_
    refine lv_bipush (v := 32) C.1 C.2.1 dX4_finish_144 (by decide) ?_
    refine hz_Sv (W' := fun (_ : Unit) => (WX d1) K ad (fB t1 34 32)) (As := [.ref (ad 34), .int 32]) (rest := []) C hP hD hS hA (TJ_fillB l D K Z Y ((WX d1) K ad t1) 34 (ad 34) 120 (by decide) _ 32 32 rfl rfl) hE hZ (uwS m_41_13 m_41_14 m_11_12 m_41_15) (hdS 2 (by decide +kernel) rfl) ⟨Nat.le_of_ble_eq_true rfl, Nat.le_of_ble_eq_true rfl⟩ rfl rfl rfl hl.1 (Nat.le_of_ble_eq_true rfl) dX4_finish_146 ⟨Nat.le_trans (newC_le _ _) (Nat.le_of_ble_eq_true rfl), (Nat.le_of_ble_eq_true rfl)⟩ (fun u_ H locs hw hP hD hS => ?_)
    have hok : okX (fB t1 34 32) := ⟨hok.1, okB_f hok.2.1 34 32 (show (-128 : Int) ≤ (32 : Int32).toInt ∧ (32 : Int32).toInt ≤ 127 from ⟨by decide, by decide⟩), trivial⟩
    have hfr : frA [(19, 3)] [] [32, 33, 34] [] t (fB t1 34 32) := frA_fB hfr 34 _ rfl
    exact g_Dvret C hr hlocks hP hD hS ⟨hok, hfr, hod⟩ hle hdf (Nat.le_of_ble_eq_true rfl) (Nat.le_of_ble_eq_true rfl) dX4_finish_149
  have L_66 : ∀ (t1 : tSt) (d1 : dSt) (w66_3 : Int32) (w66_4 : Int32) (H : Heap) (locs : List Loc) (ls : Array Slot), okX t1 → frA [(19, 3)] [] [32, 33, 34] [] t t1 → okD d1 → dLe d d1 → dFr s.heap.size d d1 → (0 : Int) ≤ w66_3.toInt ∧ w66_3.toInt ≤ 120 → (120 : Int) ≤ w66_4.toInt ∧ w66_4.toInt ≤ 120 → va_P D vwCl ((WX d1) K ad t1) H → va_D A ((WX d1) K ad t1) → va_S A s.heap H locs → lv_has ls 5 [(0, .ref (ad 19)), (1, .int x1), (2, .int x2), (3, .int w66_3), (4, .int w66_4)] → W p l e (rmD 1 2000 560000) s m [.ref (ad 19), .int x1, .int x2].toArray below meth c H locs (newC d d1) 246800 (MQ below (QDV D K ad d (fun (u : tSt) (dd : dSt) => okX u ∧ frA [(19, 3)] [] [32, 33, 34] [] t u ∧ okD dd) s.heap.size A) [.ref (ad 19), .int x1, .int x2].toArray s 2000 560000 A) (F0 m 66 ls []) := by
    intro t1 d1 w66_3 w66_4 H locs ls hok hfr hod hle hdf hw66_3 hw66_4 hP hD hS hl
    refine lv_aload_n C.1 C.2.1 dX4_finish_66 rfl (lv_at hl 0 rfl) ?_
    have h_1 : (0 : Int) ≤ (t1.1 19 3).toInt ∧ (t1.1 19 3).toInt ≤ 300 := hok.1 19 3
    refine k_get (v := .int (t1.1 19 3)) C hP 19 rfl rfl inlX4 3 (by decide) m_41_11 rfl dX4_finish_67 ?_
    refine lv_sipush (v := 300) C.1 C.2.1 dX4_finish_70 (by decide) ?_
    refine lv_icmp_ge (tgt := 140) C.1 C.2.1 dX4_finish_73 (by decide) (fun c_2 => ?_) (fun c_2 => ?_)
    · replace c_2 : 300 ≤ (t1.1 19 3).toInt := i_le c_2
      exact L_140 t1 d1 w66_3 w66_4 _ _ _ hok hfr hod hle hdf ⟨by omega, by omega⟩ ⟨by omega, by omega⟩ (show (1 : Int) ≤ ((t1.1 19 3) : Int32).toInt ∧ ((t1.1 19 3) : Int32).toInt ≤ 300 from ⟨by omega, by omega⟩) hP hD hS (lv_sub hl [0, 1, 2, 3, 4] rfl)
    · replace c_2 : (t1.1 19 3).toInt < 300 := i_nle c_2
      refine lv_aload_n C.1 C.2.1 dX4_finish_76 rfl (lv_at hl 0 rfl) ?_
      refine k_get (v := .ref (ad 32)) C hP 19 rfl rfl inlX4 0 (by decide) m_4_9 rfl dX4_finish_77 ?_
      refine lv_aload_n C.1 C.2.1 dX4_finish_80 rfl (lv_at hl 0 rfl) ?_
      refine k_get (v := .int (t1.1 19 3)) C hP 19 rfl rfl inlX4 3 (by decide) m_41_11 rfl dX4_finish_81 ?_
      have hn_3 : vp_in ((t1.1 19 3) : Int32) 300 := vp_in_iff.mpr ⟨by omega, by omega⟩
      refine k_ald (w := va_rf (d1.1 (0 + ((t1.1 19 3) : Int32).toNatClampNeg))) C hP 32 4 rfl rfl hn_3 (rf_n hn_3) dX4_finish_84 ?_
      rcases opt_or (d1.1 (0 + ((t1.1 19 3) : Int32).toNatClampNeg)) with hd_4 | ⟨a_5, hd_4⟩
      · refine n_ifnonnullN C.1 C.2.1 hd_4 dX4_finish_85 ?_
        refine lv_aload_n C.1 C.2.1 dX4_finish_88 rfl (lv_at hl 0 rfl) ?_
        refine k_get (v := .ref (ad 32)) C hP 19 rfl rfl inlX4 0 (by decide) m_4_9 rfl dX4_finish_89 ?_
        refine lv_aload_n C.1 C.2.1 dX4_finish_92 rfl (lv_at hl 0 rfl) ?_
        refine k_get (v := .int (t1.1 19 3)) C hP 19 rfl rfl inlX4 3 (by decide) m_41_11 rfl dX4_finish_93 ?_
        refine lv_bipush (v := 120) C.1 C.2.1 dX4_finish_96 (by decide) ?_
        refine k_late0 (d := d) C hP hD hS hA hX hle hdf m_1_14 hn_3 hd_4 ⟨Nat.le_of_ble_eq_true rfl, Nat.le_of_ble_eq_true rfl⟩ dX4_finish_98 dX4_finish_100 (fun q_6 H locs hP hD hS hle hdf => ?_)
        have hnd_7 : (nD d1 (0 + ((t1.1 19 3) : Int32).toNatClampNeg) q_6).1 (0 + ((t1.1 19 3) : Int32).toNatClampNeg) = some q_6 := nD_at
        have hod : okD (nD d1 (0 + ((t1.1 19 3) : Int32).toNatClampNeg) q_6) := okD_n hod
        refine lv_aload_n C.1 C.2.1 dX4_finish_101 rfl (lv_at hl 0 rfl) ?_
        refine k_get (v := .ref (ad 34)) C hP 19 rfl rfl inlX4 2 (by decide) m_4_11 rfl dX4_finish_102 ?_
        refine lv_iconst (v := 0) C.1 C.2.1 dX4_finish_105 (by decide) ?_
        refine lv_aload_n C.1 C.2.1 dX4_finish_106 rfl (lv_at hl 0 rfl) ?_
        refine k_get (v := .ref (ad 32)) C hP 19 rfl rfl inlX4 0 (by decide) m_4_9 rfl dX4_finish_107 ?_
        refine lv_aload_n C.1 C.2.1 dX4_finish_110 rfl (lv_at hl 0 rfl) ?_
        refine k_get (v := .int (t1.1 19 3)) C hP 19 rfl rfl inlX4 3 (by decide) m_41_11 rfl dX4_finish_111 ?_
        have hn_8 : vp_in ((t1.1 19 3) : Int32) 300 := vp_in_iff.mpr ⟨by omega, by omega⟩
        refine k_ald (w := .ref q_6) C hP 32 4 rfl rfl hn_8 (rf_at hn_8 hnd_7) dX4_finish_114 ?_
        refine lv_iconst (v := 0) C.1 C.2.1 dX4_finish_115 (by decide) ?_
        refine lv_iload_n C.1 C.2.1 dX4_finish_116 rfl (lv_at hl 3 rfl) ?_
        obtain ⟨q_9, hq_10, hs_11⟩ := WX_at0 (K := K) (ad := ad) (t := t1) (d := (nD d1 (0 + ((t1.1 19 3) : Int32).toNatClampNeg) q_6)) (vin_lt hn_3) hnd_7
        refine k_copy (ws' := WX (cD (nD d1 (0 + ((t1.1 19 3) : Int32).toNatClampNeg) q_6) (0 + ((t1.1 19 3) : Int32).toNatClampNeg) (va_cpy (t1.2.2.1 34) ((nD d1 (0 + ((t1.1 19 3) : Int32).toNatClampNeg) q_6).2 (0 + ((t1.1 19 3) : Int32).toNatClampNeg)) (0 : Int32).toNatClampNeg (0 : Int32).toNatClampNeg (w66_3 : Int32).toNatClampNeg)) K ad t1) C hl.1 hP hD hS 34 q_9 2 rfl hq_10 rfl rfl (by decide) (by decide) (fun hz => by have hz2 : w66_3.toInt < 0 := i_lt hz; omega) rfl rfl rfl (by have hq1 := clamp_eq (x := (0 : Int32)) (by first | decide | omega); have hq2 := clamp_eq (x := (w66_3 : Int32)) (by first | decide | omega); first | (have hq3 : (0 : Int32).toInt = 0 := rfl; omega) | (have hq3 : (w66_3 : Int32).toInt = 0 := rfl; omega) | (have hq3 : (0 : Int32).toInt = 0 := rfl; have hq4 : (w66_3 : Int32).toInt = 0 := rfl; omega) | omega) (by have hq1 := clamp_eq (x := (0 : Int32)) (by first | decide | omega); have hq2 := clamp_eq (x := (w66_3 : Int32)) (by first | decide | omega); first | (have hq3 : (0 : Int32).toInt = 0 := rfl; omega) | (have hq3 : (w66_3 : Int32).toInt = 0 := rfl; omega) | (have hq3 : (0 : Int32).toInt = 0 := rfl; have hq4 : (w66_3 : Int32).toInt = 0 := rfl; omega) | omega) (fun i hi => fit_b (hok.2.1 34 _)) m_41_12 m_10_14 m_10_15 m_10_16 (Nat.le_of_ble_eq_true rfl) (Nat.le_of_ble_eq_true rfl) (hs_11 _) dX4_finish_117 (fun H locs hP hD hS => ?_)
        rw [show newC d (nD d1 (0 + ((t1.1 19 3) : Int32).toNatClampNeg) q_6) = newC d (cD (nD d1 (0 + ((t1.1 19 3) : Int32).toNatClampNeg) q_6) (0 + ((t1.1 19 3) : Int32).toNatClampNeg) (va_cpy (t1.2.2.1 34) ((nD d1 (0 + ((t1.1 19 3) : Int32).toNatClampNeg) q_6).2 (0 + ((t1.1 19 3) : Int32).toNatClampNeg)) (0 : Int32).toNatClampNeg (0 : Int32).toNatClampNeg (w66_3 : Int32).toNatClampNeg)) from rfl]
        have hle : dLe d (cD (nD d1 (0 + ((t1.1 19 3) : Int32).toNatClampNeg) q_6) (0 + ((t1.1 19 3) : Int32).toNatClampNeg) (va_cpy (t1.2.2.1 34) ((nD d1 (0 + ((t1.1 19 3) : Int32).toNatClampNeg) q_6).2 (0 + ((t1.1 19 3) : Int32).toNatClampNeg)) (0 : Int32).toNatClampNeg (0 : Int32).toNatClampNeg (w66_3 : Int32).toNatClampNeg)) := hle
        have hdf : dFr s.heap.size d (cD (nD d1 (0 + ((t1.1 19 3) : Int32).toNatClampNeg) q_6) (0 + ((t1.1 19 3) : Int32).toNatClampNeg) (va_cpy (t1.2.2.1 34) ((nD d1 (0 + ((t1.1 19 3) : Int32).toNatClampNeg) q_6).2 (0 + ((t1.1 19 3) : Int32).toNatClampNeg)) (0 : Int32).toNatClampNeg (0 : Int32).toNatClampNeg (w66_3 : Int32).toNatClampNeg)) := hdf
        have hod : okD (cD (nD d1 (0 + ((t1.1 19 3) : Int32).toNatClampNeg) q_6) (0 + ((t1.1 19 3) : Int32).toNatClampNeg) (va_cpy (t1.2.2.1 34) ((nD d1 (0 + ((t1.1 19 3) : Int32).toNatClampNeg) q_6).2 (0 + ((t1.1 19 3) : Int32).toNatClampNeg)) (0 : Int32).toNatClampNeg (0 : Int32).toNatClampNeg (w66_3 : Int32).toNatClampNeg)) := okD_c hod (by have hz := vin_lt hn_3; omega)
        refine lv_aload_n C.1 C.2.1 dX4_finish_120 rfl (lv_at hl 0 rfl) ?_
        refine k_get (v := .ref (ad 33)) C hP 19 rfl rfl inlX4 1 (by decide) m_4_10 rfl dX4_finish_121 ?_
        refine lv_aload_n C.1 C.2.1 dX4_finish_124 rfl (lv_at hl 0 rfl) ?_
        refine k_get (v := .int (t1.1 19 3)) C hP 19 rfl rfl inlX4 3 (by decide) m_41_11 rfl dX4_finish_125 ?_
        refine lv_iload_n C.1 C.2.1 dX4_finish_128 rfl (lv_at hl 3 rfl) ?_
        refine k_ist (ws' := (WX (cD (nD d1 (0 + ((t1.1 19 3) : Int32).toNatClampNeg) q_6) (0 + ((t1.1 19 3) : Int32).toNatClampNeg) (va_cpy (t1.2.2.1 34) ((nD d1 (0 + ((t1.1 19 3) : Int32).toNatClampNeg) q_6).2 (0 + ((t1.1 19 3) : Int32).toNatClampNeg)) (0 : Int32).toNatClampNeg (0 : Int32).toNatClampNeg (w66_3 : Int32).toNatClampNeg))) K ad (uB t1 33 ((t1.1 19 3) : Int32).toNatClampNeg w66_3)) (x' := w66_3) C hP hD hS 33 rfl (vp_in_iff.mpr ⟨by omega, by omega⟩) rfl rfl rfl dX4_finish_129 (fun H locs hP hD hS => ?_)
        have hok : okX (uB t1 33 ((t1.1 19 3) : Int32).toNatClampNeg w66_3) := ⟨hok.1, okB_B hok.2.1 33 _ w66_3 (show (0 : Int) ≤ (w66_3 : Int32).toInt ∧ (w66_3 : Int32).toInt ≤ 120 from ⟨by omega, by omega⟩), trivial⟩
        have hfr : frA [(19, 3)] [] [32, 33, 34] [] t (uB t1 33 ((t1.1 19 3) : Int32).toNatClampNeg w66_3) := frA_B hfr 33 _ _ rfl
        refine lv_aload_n C.1 C.2.1 dX4_finish_130 rfl (lv_at hl 0 rfl) ?_
        refine lv_dup C.1 C.2.1 dX4_finish_131 rfl ?_
        refine k_get (v := .int (t1.1 19 3)) C hP 19 rfl rfl inlX4 3 (by decide) m_41_11 rfl dX4_finish_132 ?_
        refine lv_iconst (v := 1) C.1 C.2.1 dX4_finish_135 (by decide) ?_
        obtain ⟨v_12, e_13⟩ : ∃ z, z = ((t1.1 19 3) : Int32) + (1 : Int32) := ⟨_, rfl⟩
        have h_14 : v_12.toInt = (t1.1 19 3).toInt + 1 := by rw [e_13]; exact ti_iadd (by show (_ : Int) ≤ (t1.1 19 3).toInt + 1; omega) (by show (t1.1 19 3).toInt + 1 < (_ : Int); omega)
        refine k_iadd (v := v_12) C e_13.symm dX4_finish_136 ?_
        refine k_put (ws' := (WX (cD (nD d1 (0 + ((t1.1 19 3) : Int32).toNatClampNeg) q_6) (0 + ((t1.1 19 3) : Int32).toNatClampNeg) (va_cpy (t1.2.2.1 34) ((nD d1 (0 + ((t1.1 19 3) : Int32).toNatClampNeg) q_6).2 (0 + ((t1.1 19 3) : Int32).toNatClampNeg)) (0 : Int32).toNatClampNeg (0 : Int32).toNatClampNeg (w66_3 : Int32).toNatClampNeg))) K ad (uI (uB t1 33 ((t1.1 19 3) : Int32).toNatClampNeg w66_3) 19 3 v_12)) (v := .int v_12) C hP hD hS 19 rfl rfl inlX4 tyX4_ok nmX4 3 (by decide) m_41_11 rfl rfl rfl rfl rfl dX4_finish_137 (fun H locs hP hD hS => ?_)
        have hok : okX (uI (uB t1 33 ((t1.1 19 3) : Int32).toNatClampNeg w66_3) 19 3 v_12) := ⟨okI_I hok.1 19 3 v_12 (show (0 : Int) ≤ (v_12 : Int32).toInt ∧ (v_12 : Int32).toInt ≤ 300 from ⟨by omega, by omega⟩), hok.2.1, trivial⟩
        have hfr : frA [(19, 3)] [] [32, 33, 34] [] t (uI (uB t1 33 ((t1.1 19 3) : Int32).toNatClampNeg w66_3) 19 3 v_12) := frA_I hfr 19 3 _ rfl
        exact L_140 (uI (uB t1 33 ((t1.1 19 3) : Int32).toNatClampNeg w66_3) 19 3 v_12) (cD (nD d1 (0 + ((t1.1 19 3) : Int32).toNatClampNeg) q_6) (0 + ((t1.1 19 3) : Int32).toNatClampNeg) (va_cpy (t1.2.2.1 34) ((nD d1 (0 + ((t1.1 19 3) : Int32).toNatClampNeg) q_6).2 (0 + ((t1.1 19 3) : Int32).toNatClampNeg)) (0 : Int32).toNatClampNeg (0 : Int32).toNatClampNeg (w66_3 : Int32).toNatClampNeg)) w66_3 w66_4 _ _ _ hok hfr hod hle hdf ⟨by omega, by omega⟩ ⟨by omega, by omega⟩ (show (1 : Int) ≤ (v_12 : Int32).toInt ∧ (v_12 : Int32).toInt ≤ 300 from ⟨by omega, by omega⟩) hP hD hS (lv_sub hl [0, 1, 2, 3, 4] rfl)
      · refine n_ifnonnullS (tgt := 101) C.1 C.2.1 hd_4 dX4_finish_85 (by decide) ?_
        refine lv_aload_n C.1 C.2.1 dX4_finish_101 rfl (lv_at hl 0 rfl) ?_
        refine k_get (v := .ref (ad 34)) C hP 19 rfl rfl inlX4 2 (by decide) m_4_11 rfl dX4_finish_102 ?_
        refine lv_iconst (v := 0) C.1 C.2.1 dX4_finish_105 (by decide) ?_
        refine lv_aload_n C.1 C.2.1 dX4_finish_106 rfl (lv_at hl 0 rfl) ?_
        refine k_get (v := .ref (ad 32)) C hP 19 rfl rfl inlX4 0 (by decide) m_4_9 rfl dX4_finish_107 ?_
        refine lv_aload_n C.1 C.2.1 dX4_finish_110 rfl (lv_at hl 0 rfl) ?_
        refine k_get (v := .int (t1.1 19 3)) C hP 19 rfl rfl inlX4 3 (by decide) m_41_11 rfl dX4_finish_111 ?_
        have hn_15 : vp_in ((t1.1 19 3) : Int32) 300 := vp_in_iff.mpr ⟨by omega, by omega⟩
        refine k_ald (w := .ref a_5) C hP 32 4 rfl rfl hn_15 (rf_at hn_15 hd_4) dX4_finish_114 ?_
        refine lv_iconst (v := 0) C.1 C.2.1 dX4_finish_115 (by decide) ?_
        refine lv_iload_n C.1 C.2.1 dX4_finish_116 rfl (lv_at hl 3 rfl) ?_
        obtain ⟨q_16, hq_17, hs_18⟩ := WX_at0 (K := K) (ad := ad) (t := t1) (d := d1) (vin_lt hn_3) hd_4
        refine k_copy (ws' := WX (cD d1 (0 + ((t1.1 19 3) : Int32).toNatClampNeg) (va_cpy (t1.2.2.1 34) (d1.2 (0 + ((t1.1 19 3) : Int32).toNatClampNeg)) (0 : Int32).toNatClampNeg (0 : Int32).toNatClampNeg (w66_3 : Int32).toNatClampNeg)) K ad t1) C hl.1 hP hD hS 34 q_16 2 rfl hq_17 rfl rfl (by decide) (by decide) (fun hz => by have hz2 : w66_3.toInt < 0 := i_lt hz; omega) rfl rfl rfl (by have hq1 := clamp_eq (x := (0 : Int32)) (by first | decide | omega); have hq2 := clamp_eq (x := (w66_3 : Int32)) (by first | decide | omega); first | (have hq3 : (0 : Int32).toInt = 0 := rfl; omega) | (have hq3 : (w66_3 : Int32).toInt = 0 := rfl; omega) | (have hq3 : (0 : Int32).toInt = 0 := rfl; have hq4 : (w66_3 : Int32).toInt = 0 := rfl; omega) | omega) (by have hq1 := clamp_eq (x := (0 : Int32)) (by first | decide | omega); have hq2 := clamp_eq (x := (w66_3 : Int32)) (by first | decide | omega); first | (have hq3 : (0 : Int32).toInt = 0 := rfl; omega) | (have hq3 : (w66_3 : Int32).toInt = 0 := rfl; omega) | (have hq3 : (0 : Int32).toInt = 0 := rfl; have hq4 : (w66_3 : Int32).toInt = 0 := rfl; omega) | omega) (fun i hi => fit_b (hok.2.1 34 _)) m_41_12 m_10_14 m_10_15 m_10_16 (Nat.le_of_ble_eq_true rfl) (Nat.le_of_ble_eq_true rfl) (hs_18 _) dX4_finish_117 (fun H locs hP hD hS => ?_)
        rw [show newC d d1 = newC d (cD d1 (0 + ((t1.1 19 3) : Int32).toNatClampNeg) (va_cpy (t1.2.2.1 34) (d1.2 (0 + ((t1.1 19 3) : Int32).toNatClampNeg)) (0 : Int32).toNatClampNeg (0 : Int32).toNatClampNeg (w66_3 : Int32).toNatClampNeg)) from rfl]
        have hle : dLe d (cD d1 (0 + ((t1.1 19 3) : Int32).toNatClampNeg) (va_cpy (t1.2.2.1 34) (d1.2 (0 + ((t1.1 19 3) : Int32).toNatClampNeg)) (0 : Int32).toNatClampNeg (0 : Int32).toNatClampNeg (w66_3 : Int32).toNatClampNeg)) := hle
        have hdf : dFr s.heap.size d (cD d1 (0 + ((t1.1 19 3) : Int32).toNatClampNeg) (va_cpy (t1.2.2.1 34) (d1.2 (0 + ((t1.1 19 3) : Int32).toNatClampNeg)) (0 : Int32).toNatClampNeg (0 : Int32).toNatClampNeg (w66_3 : Int32).toNatClampNeg)) := hdf
        have hod : okD (cD d1 (0 + ((t1.1 19 3) : Int32).toNatClampNeg) (va_cpy (t1.2.2.1 34) (d1.2 (0 + ((t1.1 19 3) : Int32).toNatClampNeg)) (0 : Int32).toNatClampNeg (0 : Int32).toNatClampNeg (w66_3 : Int32).toNatClampNeg)) := okD_c hod (by have hz := vin_lt hn_3; omega)
        refine lv_aload_n C.1 C.2.1 dX4_finish_120 rfl (lv_at hl 0 rfl) ?_
        refine k_get (v := .ref (ad 33)) C hP 19 rfl rfl inlX4 1 (by decide) m_4_10 rfl dX4_finish_121 ?_
        refine lv_aload_n C.1 C.2.1 dX4_finish_124 rfl (lv_at hl 0 rfl) ?_
        refine k_get (v := .int (t1.1 19 3)) C hP 19 rfl rfl inlX4 3 (by decide) m_41_11 rfl dX4_finish_125 ?_
        refine lv_iload_n C.1 C.2.1 dX4_finish_128 rfl (lv_at hl 3 rfl) ?_
        refine k_ist (ws' := (WX (cD d1 (0 + ((t1.1 19 3) : Int32).toNatClampNeg) (va_cpy (t1.2.2.1 34) (d1.2 (0 + ((t1.1 19 3) : Int32).toNatClampNeg)) (0 : Int32).toNatClampNeg (0 : Int32).toNatClampNeg (w66_3 : Int32).toNatClampNeg))) K ad (uB t1 33 ((t1.1 19 3) : Int32).toNatClampNeg w66_3)) (x' := w66_3) C hP hD hS 33 rfl (vp_in_iff.mpr ⟨by omega, by omega⟩) rfl rfl rfl dX4_finish_129 (fun H locs hP hD hS => ?_)
        have hok : okX (uB t1 33 ((t1.1 19 3) : Int32).toNatClampNeg w66_3) := ⟨hok.1, okB_B hok.2.1 33 _ w66_3 (show (0 : Int) ≤ (w66_3 : Int32).toInt ∧ (w66_3 : Int32).toInt ≤ 120 from ⟨by omega, by omega⟩), trivial⟩
        have hfr : frA [(19, 3)] [] [32, 33, 34] [] t (uB t1 33 ((t1.1 19 3) : Int32).toNatClampNeg w66_3) := frA_B hfr 33 _ _ rfl
        refine lv_aload_n C.1 C.2.1 dX4_finish_130 rfl (lv_at hl 0 rfl) ?_
        refine lv_dup C.1 C.2.1 dX4_finish_131 rfl ?_
        refine k_get (v := .int (t1.1 19 3)) C hP 19 rfl rfl inlX4 3 (by decide) m_41_11 rfl dX4_finish_132 ?_
        refine lv_iconst (v := 1) C.1 C.2.1 dX4_finish_135 (by decide) ?_
        obtain ⟨v_19, e_20⟩ : ∃ z, z = ((t1.1 19 3) : Int32) + (1 : Int32) := ⟨_, rfl⟩
        have h_21 : v_19.toInt = (t1.1 19 3).toInt + 1 := by rw [e_20]; exact ti_iadd (by show (_ : Int) ≤ (t1.1 19 3).toInt + 1; omega) (by show (t1.1 19 3).toInt + 1 < (_ : Int); omega)
        refine k_iadd (v := v_19) C e_20.symm dX4_finish_136 ?_
        refine k_put (ws' := (WX (cD d1 (0 + ((t1.1 19 3) : Int32).toNatClampNeg) (va_cpy (t1.2.2.1 34) (d1.2 (0 + ((t1.1 19 3) : Int32).toNatClampNeg)) (0 : Int32).toNatClampNeg (0 : Int32).toNatClampNeg (w66_3 : Int32).toNatClampNeg))) K ad (uI (uB t1 33 ((t1.1 19 3) : Int32).toNatClampNeg w66_3) 19 3 v_19)) (v := .int v_19) C hP hD hS 19 rfl rfl inlX4 tyX4_ok nmX4 3 (by decide) m_41_11 rfl rfl rfl rfl rfl dX4_finish_137 (fun H locs hP hD hS => ?_)
        have hok : okX (uI (uB t1 33 ((t1.1 19 3) : Int32).toNatClampNeg w66_3) 19 3 v_19) := ⟨okI_I hok.1 19 3 v_19 (show (0 : Int) ≤ (v_19 : Int32).toInt ∧ (v_19 : Int32).toInt ≤ 300 from ⟨by omega, by omega⟩), hok.2.1, trivial⟩
        have hfr : frA [(19, 3)] [] [32, 33, 34] [] t (uI (uB t1 33 ((t1.1 19 3) : Int32).toNatClampNeg w66_3) 19 3 v_19) := frA_I hfr 19 3 _ rfl
        exact L_140 (uI (uB t1 33 ((t1.1 19 3) : Int32).toNatClampNeg w66_3) 19 3 v_19) (cD d1 (0 + ((t1.1 19 3) : Int32).toNatClampNeg) (va_cpy (t1.2.2.1 34) (d1.2 (0 + ((t1.1 19 3) : Int32).toNatClampNeg)) (0 : Int32).toNatClampNeg (0 : Int32).toNatClampNeg (w66_3 : Int32).toNatClampNeg)) w66_3 w66_4 _ _ _ hok hfr hod hle hdf ⟨by omega, by omega⟩ ⟨by omega, by omega⟩ (show (1 : Int) ≤ (v_19 : Int32).toInt ∧ (v_19 : Int32).toInt ≤ 300 from ⟨by omega, by omega⟩) hP hD hS (lv_sub hl [0, 1, 2, 3, 4] rfl)
  have L_5 : ∀ (fuel_5 : Nat) (t1 : tSt) (d1 : dSt) (w5_3 : Int32) (w5_4 : Int32) (H : Heap) (locs : List Loc) (ls : Array Slot), okX t1 → frA [(19, 3)] [] [32, 33, 34] [] t t1 → okD d1 → dLe d d1 → dFr s.heap.size d d1 → (0 : Int) ≤ w5_3.toInt ∧ w5_3.toInt ≤ 120 → (0 : Int) ≤ w5_4.toInt ∧ w5_4.toInt ≤ 120 → (120 : Int) - w5_4.toInt < (fuel_5 : Int) → va_P D vwCl ((WX d1) K ad t1) H → va_D A ((WX d1) K ad t1) → va_S A s.heap H locs → lv_has ls 5 [(0, .ref (ad 19)), (1, .int x1), (2, .int x2), (3, .int w5_3), (4, .int w5_4)] → W p l e (rmD 1 2000 560000) s m [.ref (ad 19), .int x1, .int x2].toArray below meth c H locs (newC d d1) 246800 (MQ below (QDV D K ad d (fun (u : tSt) (dd : dSt) => okX u ∧ frA [(19, 3)] [] [32, 33, 34] [] t u ∧ okD dd) s.heap.size A) [.ref (ad 19), .int x1, .int x2].toArray s 2000 560000 A) (F0 m 5 ls []) := by
    intro fuel_5
    induction fuel_5 with
    | zero =>
      intro t1 d1 w5_3 w5_4 H locs ls hok hfr hod hle hdf hw5_3 hw5_4 hm5_5 hP hD hS hl
      exact absurd hm5_5 (by omega)
    | succ fuel_5 ih_5 =>
      intro t1 d1 w5_3 w5_4 H locs ls hok hfr hod hle hdf hw5_3 hw5_4 hm5_5 hP hD hS hl
      have hm5_5 : (120 : Int) - w5_4.toInt < (fuel_5 : Int) + 1 := by omega
      have L_60 : ∀ (t1 : tSt) (d1 : dSt) (w60_3 : Int32) (w60_4 : Int32) (H : Heap) (locs : List Loc) (ls : Array Slot), okX t1 → frA [(19, 3)] [] [32, 33, 34] [] t t1 → okD d1 → dLe d d1 → dFr s.heap.size d d1 → (0 : Int) ≤ w60_3.toInt ∧ w60_3.toInt ≤ 120 → (0 : Int) ≤ w60_4.toInt ∧ w60_4.toInt ≤ 119 → (120 : Int) - w60_4.toInt < (fuel_5 : Int) + 1 → va_P D vwCl ((WX d1) K ad t1) H → va_D A ((WX d1) K ad t1) → va_S A s.heap H locs → lv_has ls 5 [(0, .ref (ad 19)), (1, .int x1), (2, .int x2), (3, .int w60_3), (4, .int w60_4)] → W p l e (rmD 1 2000 560000) s m [.ref (ad 19), .int x1, .int x2].toArray below meth c H locs (newC d d1) 246800 (MQ below (QDV D K ad d (fun (u : tSt) (dd : dSt) => okX u ∧ frA [(19, 3)] [] [32, 33, 34] [] t u ∧ okD dd) s.heap.size A) [.ref (ad 19), .int x1, .int x2].toArray s 2000 560000 A) (F0 m 60 ls []) := by
        intro t1 d1 w60_3 w60_4 H locs ls hok hfr hod hle hdf hw60_3 hw60_4 hm60_5 hP hD hS hl
        obtain ⟨v_22, e_23⟩ : ∃ z, z = w60_4 + 1 := ⟨_, rfl⟩
        have h_24 : v_22.toInt = w60_4.toInt + 1 := by rw [e_23]; exact ti_iadd (by show (_ : Int) ≤ w60_4.toInt + 1; omega) (by show w60_4.toInt + 1 < (_ : Int); omega)
        refine lv_iinc (v := v_22) (lv' := [(4, .int v_22), (0, .ref (ad 19)), (1, .int x1), (2, .int x2), (3, .int w60_3)]) C.1 C.2.1 dX4_finish_60 hl (k := 4) rfl e_23.symm (by decide) rfl (fun ls hl => ?_)
        have hl : lv_has ls 5 [(0, .ref (ad 19)), (1, .int x1), (2, .int x2), (3, .int w60_3), (4, .int v_22)] := lv_sub hl [1, 2, 3, 4, 0] rfl
        refine lv_goto (tgt := 5) C.1 C.2.1 dX4_finish_63 (by decide) ?_
        exact ih_5 t1 d1 w60_3 v_22 _ _ _ hok hfr hod hle hdf ⟨by omega, by omega⟩ ⟨by omega, by omega⟩ (show (120 : Int) - v_22.toInt < (fuel_5 : Int) from by omega) hP hD hS (lv_sub hl [0, 1, 2, 3, 4] rfl)
      refine lv_iload C.1 C.2.1 dX4_finish_5 (lv_at hl 4 rfl) ?_
      refine lv_bipush (v := 120) C.1 C.2.1 dX4_finish_7 (by decide) ?_
      refine lv_icmp_ge (tgt := 66) C.1 C.2.1 dX4_finish_9 (by decide) (fun c_25 => ?_) (fun c_25 => ?_)
      · replace c_25 : 120 ≤ w5_4.toInt := i_le c_25
        exact L_66 t1 d1 w5_3 w5_4 _ _ _ hok hfr hod hle hdf ⟨by omega, by omega⟩ ⟨by omega, by omega⟩ hP hD hS (lv_sub hl [0, 1, 2, 3, 4] rfl)
      · replace c_25 : w5_4.toInt < 120 := i_nle c_25
        refine lv_iload C.1 C.2.1 dX4_finish_12 (lv_at hl 4 rfl) ?_
        refine lv_iload_n C.1 C.2.1 dX4_finish_14 rfl (lv_at hl 1 rfl) ?_
        refine lv_icmp_ge (tgt := 66) C.1 C.2.1 dX4_finish_15 (by decide) (fun c_26 => False.elim (by have c_26 : x1.toInt ≤ w5_4.toInt := i_le c_26; omega)) (fun c_26 => ?_)
        replace c_26 : w5_4.toInt < x1.toInt := i_nle c_26
        refine lv_iload_n C.1 C.2.1 dX4_finish_18 rfl (lv_at hl 2 rfl) ?_
        refine lv_if_eq (tgt := 43) C.1 C.2.1 dX4_finish_19 (by decide) (fun c_27 => ?_) (fun c_27 => False.elim (by have c_27 : ¬ x2.toInt = 0 := i_ne c_27; omega))
        replace c_27 : x2.toInt = 0 := i_eq c_27
        refine lv_aload_n C.1 C.2.1 dX4_finish_43 rfl (lv_at hl 0 rfl) ?_
        refine k_get (v := .ref (ad 34)) C hP 19 rfl rfl inlX4 2 (by decide) m_4_11 rfl dX4_finish_44 ?_
        refine lv_iload C.1 C.2.1 dX4_finish_47 (lv_at hl 4 rfl) ?_
        obtain ⟨v_28, e_29⟩ : ∃ z, z = (t1.2.2.1 34 (w5_4 : Int32).toNatClampNeg) := ⟨_, rfl⟩
        have h_30 : (-128 : Int) ≤ v_28.toInt ∧ v_28.toInt ≤ 127 := by rw [e_29]; exact hok.2.1 34 _
        refine k_bld (v := v_28) C hP 34 rfl (vp_in_iff.mpr ⟨by omega, by omega⟩) e_29.symm dX4_finish_49 ?_
        refine lv_bipush (v := 32) C.1 C.2.1 dX4_finish_50 (by decide) ?_
        refine lv_icmp_eq (tgt := 60) C.1 C.2.1 dX4_finish_52 (by decide) (fun c_31 => ?_) (fun c_31 => ?_)
        · replace c_31 : v_28.toInt = 32 := i_eq c_31
          exact L_60 t1 d1 w5_3 w5_4 _ _ _ hok hfr hod hle hdf ⟨by omega, by omega⟩ ⟨by omega, by omega⟩ (show (120 : Int) - w5_4.toInt < (fuel_5 : Int) + 1 from by omega) hP hD hS (lv_sub hl [0, 1, 2, 3, 4] rfl)
        · replace c_31 : ¬ v_28.toInt = 32 := i_ne c_31
          refine lv_iload C.1 C.2.1 dX4_finish_55 (lv_at hl 4 rfl) ?_
          refine lv_iconst (v := 1) C.1 C.2.1 dX4_finish_57 (by decide) ?_
          obtain ⟨v_32, e_33⟩ : ∃ z, z = (w5_4 : Int32) + (1 : Int32) := ⟨_, rfl⟩
          have h_34 : v_32.toInt = w5_4.toInt + 1 := by rw [e_33]; exact ti_iadd (by show (_ : Int) ≤ w5_4.toInt + 1; omega) (by show w5_4.toInt + 1 < (_ : Int); omega)
          refine k_iadd (v := v_32) C e_33.symm dX4_finish_58 ?_
          refine lv_istore_n (lv' := [(3, .int v_32), (0, .ref (ad 19)), (1, .int x1), (2, .int x2), (4, .int w5_4)]) C.1 C.2.1 dX4_finish_59 rfl hl (by decide) rfl (fun ls hl => ?_)
          have hl : lv_has ls 5 [(0, .ref (ad 19)), (1, .int x1), (2, .int x2), (3, .int v_32), (4, .int w5_4)] := lv_sub hl [1, 2, 3, 0, 4] rfl
          exact L_60 t1 d1 v_32 w5_4 _ _ _ hok hfr hod hle hdf ⟨by omega, by omega⟩ ⟨by omega, by omega⟩ (show (120 : Int) - w5_4.toInt < (fuel_5 : Int) + 1 from by omega) hP hD hS (lv_sub hl [0, 1, 2, 3, 4] rfl)
  refine lv_iconst (v := 0) C.1 C.2.1 dX4_finish_0 (by decide) ?_
  refine lv_istore_n (lv' := [(3, .int 0), (0, .ref (ad 19)), (1, .int x1), (2, .int x2)]) C.1 C.2.1 dX4_finish_1 rfl hl (by decide) rfl (fun ls hl => ?_)
  have hl : lv_has ls 5 [(0, .ref (ad 19)), (1, .int x1), (2, .int x2), (3, .int 0)] := lv_sub hl [1, 2, 3, 0] rfl
  refine lv_iconst (v := 0) C.1 C.2.1 dX4_finish_2 (by decide) ?_
  refine lv_istore (lv' := [(4, .int 0), (0, .ref (ad 19)), (1, .int x1), (2, .int x2), (3, .int 0)]) C.1 C.2.1 dX4_finish_3 hl (by decide) rfl (fun ls hl => ?_)
  have hl : lv_has ls 5 [(0, .ref (ad 19)), (1, .int x1), (2, .int x2), (3, .int 0), (4, .int 0)] := lv_sub hl [1, 2, 3, 4, 0] rfl
  exact L_5 121 t d 0 0 _ _ _ hok hfr hod hle hdf ⟨by decide, by decide⟩ ⟨by decide, by decide⟩ (show (120 : Int) - 0 < ((121 : Nat) : Int) from by omega) hP hD hS (lv_sub hl [0, 1, 2, 3, 4] rfl)

theorem dX10_faultOf_0 : decode cX10_faultOf 0 = .ok (.iload_n 2, 1) := by decide +kernel
theorem dX10_faultOf_1 : decode cX10_faultOf 1 = .ok (.ifCond .lt 9, 3) := by decide +kernel
theorem dX10_faultOf_10 : decode cX10_faultOf 10 = .ok (.iconst 5, 1) := by decide +kernel
theorem dX10_faultOf_102 : decode cX10_faultOf 102 = .ok (.ifCond .eq 7, 3) := by decide +kernel
theorem dX10_faultOf_105 : decode cX10_faultOf 105 = .ok (.iconst 0, 1) := by decide +kernel
theorem dX10_faultOf_106 : decode cX10_faultOf 106 = .ok (.goto 5, 3) := by decide +kernel
theorem dX10_faultOf_109 : decode cX10_faultOf 109 = .ok (.bipush 6, 2) := by decide +kernel
theorem dX10_faultOf_11 : decode cX10_faultOf 11 = .ok (.ireturn, 1) := by decide +kernel
theorem dX10_faultOf_111 : decode cX10_faultOf 111 = .ok (.ireturn, 1) := by decide +kernel
theorem dX10_faultOf_112 : decode cX10_faultOf 112 = .ok (.iload_n 1, 1) := by decide +kernel
theorem dX10_faultOf_113 : decode cX10_faultOf 113 = .ok (.bipush 35, 2) := by decide +kernel
theorem dX10_faultOf_115 : decode cX10_faultOf 115 = .ok (.if_icmp .ne 19, 3) := by decide +kernel
theorem dX10_faultOf_118 : decode cX10_faultOf 118 = .ok (.iload_n 2, 1) := by decide +kernel
theorem dX10_faultOf_119 : decode cX10_faultOf 119 = .ok (.bipush 18, 2) := by decide +kernel
theorem dX10_faultOf_12 : decode cX10_faultOf 12 = .ok (.iload_n 2, 1) := by decide +kernel
theorem dX10_faultOf_121 : decode cX10_faultOf 121 = .ok (.if_icmp .ne 11, 3) := by decide +kernel
theorem dX10_faultOf_124 : decode cX10_faultOf 124 = .ok (.iload_n 3, 1) := by decide +kernel
theorem dX10_faultOf_125 : decode cX10_faultOf 125 = .ok (.ifCond .ne 7, 3) := by decide +kernel
theorem dX10_faultOf_128 : decode cX10_faultOf 128 = .ok (.iconst 0, 1) := by decide +kernel
theorem dX10_faultOf_129 : decode cX10_faultOf 129 = .ok (.goto 4, 3) := by decide +kernel
theorem dX10_faultOf_13 : decode cX10_faultOf 13 = .ok (.bipush 8, 2) := by decide +kernel
theorem dX10_faultOf_132 : decode cX10_faultOf 132 = .ok (.iconst 5, 1) := by decide +kernel
theorem dX10_faultOf_133 : decode cX10_faultOf 133 = .ok (.ireturn, 1) := by decide +kernel
theorem dX10_faultOf_134 : decode cX10_faultOf 134 = .ok (.iload_n 1, 1) := by decide +kernel
theorem dX10_faultOf_135 : decode cX10_faultOf 135 = .ok (.bipush 36, 2) := by decide +kernel
theorem dX10_faultOf_137 : decode cX10_faultOf 137 = .ok (.if_icmp .ne 7, 3) := by decide +kernel
theorem dX10_faultOf_140 : decode cX10_faultOf 140 = .ok (.iconst 5, 1) := by decide +kernel
theorem dX10_faultOf_141 : decode cX10_faultOf 141 = .ok (.goto 4, 3) := by decide +kernel
theorem dX10_faultOf_144 : decode cX10_faultOf 144 = .ok (.iconst 0, 1) := by decide +kernel
theorem dX10_faultOf_145 : decode cX10_faultOf 145 = .ok (.ireturn, 1) := by decide +kernel
theorem dX10_faultOf_15 : decode cX10_faultOf 15 = .ok (.if_icmp .ge 27, 3) := by decide +kernel
theorem dX10_faultOf_18 : decode cX10_faultOf 18 = .ok (.iload_n 1, 1) := by decide +kernel
theorem dX10_faultOf_19 : decode cX10_faultOf 19 = .ok (.bipush 35, 2) := by decide +kernel
theorem dX10_faultOf_21 : decode cX10_faultOf 21 = .ok (.if_icmp .eq 19, 3) := by decide +kernel
theorem dX10_faultOf_24 : decode cX10_faultOf 24 = .ok (.aload_n 0, 1) := by decide +kernel
theorem dX10_faultOf_25 : decode cX10_faultOf 25 = .ok (.getfield 17, 3) := by decide +kernel
theorem dX10_faultOf_28 : decode cX10_faultOf 28 = .ok (.iload_n 2, 1) := by decide +kernel
theorem dX10_faultOf_29 : decode cX10_faultOf 29 = .ok (.iaload, 1) := by decide +kernel
theorem dX10_faultOf_30 : decode cX10_faultOf 30 = .ok (.bipush 64, 2) := by decide +kernel
theorem dX10_faultOf_32 : decode cX10_faultOf 32 = .ok (.if_icmp .lt 8, 3) := by decide +kernel
theorem dX10_faultOf_35 : decode cX10_faultOf 35 = .ok (.bipush 6, 2) := by decide +kernel
theorem dX10_faultOf_37 : decode cX10_faultOf 37 = .ok (.goto 4, 3) := by decide +kernel
theorem dX10_faultOf_4 : decode cX10_faultOf 4 = .ok (.iload_n 2, 1) := by decide +kernel
theorem dX10_faultOf_40 : decode cX10_faultOf 40 = .ok (.iconst 0, 1) := by decide +kernel
theorem dX10_faultOf_41 : decode cX10_faultOf 41 = .ok (.ireturn, 1) := by decide +kernel
theorem dX10_faultOf_42 : decode cX10_faultOf 42 = .ok (.iload_n 2, 1) := by decide +kernel
theorem dX10_faultOf_43 : decode cX10_faultOf 43 = .ok (.bipush 16, 2) := by decide +kernel
theorem dX10_faultOf_45 : decode cX10_faultOf 45 = .ok (.if_icmp .ge 34, 3) := by decide +kernel
theorem dX10_faultOf_48 : decode cX10_faultOf 48 = .ok (.iload_n 1, 1) := by decide +kernel
theorem dX10_faultOf_49 : decode cX10_faultOf 49 = .ok (.bipush 35, 2) := by decide +kernel
theorem dX10_faultOf_5 : decode cX10_faultOf 5 = .ok (.bipush 20, 2) := by decide +kernel
theorem dX10_faultOf_51 : decode cX10_faultOf 51 = .ok (.if_icmp .ne 9, 3) := by decide +kernel
theorem dX10_faultOf_54 : decode cX10_faultOf 54 = .ok (.iload_n 3, 1) := by decide +kernel
theorem dX10_faultOf_55 : decode cX10_faultOf 55 = .ok (.ifCond .eq 5, 3) := by decide +kernel
theorem dX10_faultOf_58 : decode cX10_faultOf 58 = .ok (.iconst 5, 1) := by decide +kernel
theorem dX10_faultOf_59 : decode cX10_faultOf 59 = .ok (.ireturn, 1) := by decide +kernel
theorem dX10_faultOf_60 : decode cX10_faultOf 60 = .ok (.iload 4, 2) := by decide +kernel
theorem dX10_faultOf_62 : decode cX10_faultOf 62 = .ok (.ifCond .lt 10, 3) := by decide +kernel
theorem dX10_faultOf_65 : decode cX10_faultOf 65 = .ok (.iload 4, 2) := by decide +kernel
theorem dX10_faultOf_67 : decode cX10_faultOf 67 = .ok (.bipush 64, 2) := by decide +kernel
theorem dX10_faultOf_69 : decode cX10_faultOf 69 = .ok (.if_icmp .lt 8, 3) := by decide +kernel
theorem dX10_faultOf_7 : decode cX10_faultOf 7 = .ok (.if_icmp .lt 5, 3) := by decide +kernel
theorem dX10_faultOf_72 : decode cX10_faultOf 72 = .ok (.bipush 6, 2) := by decide +kernel
theorem dX10_faultOf_74 : decode cX10_faultOf 74 = .ok (.goto 4, 3) := by decide +kernel
theorem dX10_faultOf_77 : decode cX10_faultOf 77 = .ok (.iconst 0, 1) := by decide +kernel
theorem dX10_faultOf_78 : decode cX10_faultOf 78 = .ok (.ireturn, 1) := by decide +kernel
theorem dX10_faultOf_79 : decode cX10_faultOf 79 = .ok (.iload_n 2, 1) := by decide +kernel
theorem dX10_faultOf_80 : decode cX10_faultOf 80 = .ok (.bipush 16, 2) := by decide +kernel
theorem dX10_faultOf_82 : decode cX10_faultOf 82 = .ok (.if_icmp .ne 30, 3) := by decide +kernel
theorem dX10_faultOf_85 : decode cX10_faultOf 85 = .ok (.iload_n 1, 1) := by decide +kernel
theorem dX10_faultOf_86 : decode cX10_faultOf 86 = .ok (.bipush 36, 2) := by decide +kernel
theorem dX10_faultOf_88 : decode cX10_faultOf 88 = .ok (.if_icmp .eq 5, 3) := by decide +kernel
theorem dX10_faultOf_91 : decode cX10_faultOf 91 = .ok (.iconst 5, 1) := by decide +kernel
theorem dX10_faultOf_92 : decode cX10_faultOf 92 = .ok (.ireturn, 1) := by decide +kernel
theorem dX10_faultOf_93 : decode cX10_faultOf 93 = .ok (.aload_n 0, 1) := by decide +kernel
theorem dX10_faultOf_94 : decode cX10_faultOf 94 = .ok (.getfield 40, 3) := by decide +kernel
theorem dX10_faultOf_97 : decode cX10_faultOf 97 = .ok (.iload 5, 2) := by decide +kernel
theorem dX10_faultOf_99 : decode cX10_faultOf 99 = .ok (.invokevirtual 83, 3) := by decide +kernel
set_option maxHeartbeats 4000000 in
set_option maxRecDepth 100000 in
theorem T_X10_faultOf (l : Launch) (D : va_G) (K : Nat → ClassId) (Z Y : Nat → Nat) (ad : Nat → Nat) (d : dSt) (t : tSt) (hok : okX t) (hod : okD d) (x1 : Int32) (hx1 : (0 : Int) ≤ x1.toInt ∧ x1.toInt ≤ 63) (x2 : Int32) (hx2 : (0 : Int) ≤ x2.toInt ∧ x2.toInt ≤ 63) (x3 : Int32) (hx3 : (-2147483648 : Int) ≤ x3.toInt ∧ x3.toInt ≤ 1073745919) (x4 : Int32) (hx4 : (-1073741824 : Int) ≤ x4.toInt ∧ x4.toInt ≤ 1073741823) (x5 : Int32) (hx5 : (0 : Int) ≤ x5.toInt ∧ x5.toInt ≤ 1) : tMet l yX10_faultOf cX10_faultOf 6 (some .int) (rmD 1 0 0) D K Z Y [.ref (ad 3), .int x1, .int x2, .int x3, .int x4, .int x5] ((WX d) K ad t) (QI D K (fun (r : Int32) (u : Unit) => (0 : Int) ≤ r.toInt ∧ r.toInt ≤ 6) (fun (_ : Unit) => (WX d) K ad t)) 0 0 := by
  refine t_met RX10 ⟨rfl, by decide +kernel⟩ (Nat.le_of_ble_eq_true rfl) ?_
  intro p e s m below meth c A ls C hE hZ hr hlocks hA hP hD hS hl
  have hl : lv_has ls 6 [(0, .ref (ad 3)), (1, .int x1), (2, .int x2), (3, .int x3), (4, .int x4), (5, .int x5)] := hl
  have h_1 : (0 : Int) ≤ (t.1 18 1).toInt ∧ (t.1 18 1).toInt ≤ 2701 := hok.1 18 1
  have h_2 : (0 : Int) ≤ (t.1 18 2).toInt ∧ (t.1 18 2).toInt ≤ 2700 := hok.1 18 2
  have L_60 : ∀  (H : Heap) (locs : List Loc) (ls : Array Slot), (8 : Int) ≤ x2.toInt ∧ x2.toInt ≤ 15 → va_P D vwCl ((WX d) K ad t) H → va_D A ((WX d) K ad t) → va_S A s.heap H locs → lv_has ls 6 [(0, .ref (ad 3)), (1, .int x1), (2, .int x2), (3, .int x3), (4, .int x4), (5, .int x5)] → W p l e (rmD 1 0 0) s m [.ref (ad 3), .int x1, .int x2, .int x3, .int x4, .int x5].toArray below meth c H locs 0 0 (MQ below (QI D K (fun (r : Int32) (u : Unit) => (0 : Int) ≤ r.toInt ∧ r.toInt ≤ 6) (fun (_ : Unit) => (WX d) K ad t) A) [.ref (ad 3), .int x1, .int x2, .int x3, .int x4, .int x5].toArray s 0 0 A) (F0 m 60 ls []) := by
    intro  H locs ls hx60_2 hP hD hS hl
    have h_3 : (0 : Int) ≤ (t.1 18 1).toInt ∧ (t.1 18 1).toInt ≤ 2701 := hok.1 18 1
    have h_4 : (0 : Int) ≤ (t.1 18 2).toInt ∧ (t.1 18 2).toInt ≤ 2700 := hok.1 18 2
    refine lv_iload C.1 C.2.1 dX10_faultOf_60 (lv_at hl 4 rfl) ?_
    refine lv_if_lt (tgt := 72) C.1 C.2.1 dX10_faultOf_62 (by decide) (fun c_5 => ?_) (fun c_5 => ?_)
    · replace c_5 : x4.toInt < 0 := i_lt c_5
      refine lv_bipush (v := 6) C.1 C.2.1 dX10_faultOf_72 (by decide) ?_
      refine lv_goto (tgt := 78) C.1 C.2.1 dX10_faultOf_74 (by decide) ?_
      exact g_iret C hr hlocks hP hD hS rfl () rfl ⟨by decide, by decide⟩ (Nat.le_of_ble_eq_true rfl) (Nat.le_of_ble_eq_true rfl) dX10_faultOf_78
    · replace c_5 : 0 ≤ x4.toInt := i_nlt c_5
      refine lv_iload C.1 C.2.1 dX10_faultOf_65 (lv_at hl 4 rfl) ?_
      refine lv_bipush (v := 64) C.1 C.2.1 dX10_faultOf_67 (by decide) ?_
      refine lv_icmp_lt (tgt := 77) C.1 C.2.1 dX10_faultOf_69 (by decide) (fun c_6 => ?_) (fun c_6 => ?_)
      · replace c_6 : x4.toInt < 64 := i_lt c_6
        refine lv_iconst (v := 0) C.1 C.2.1 dX10_faultOf_77 (by decide) ?_
        exact g_iret C hr hlocks hP hD hS rfl () rfl ⟨by decide, by decide⟩ (Nat.le_of_ble_eq_true rfl) (Nat.le_of_ble_eq_true rfl) dX10_faultOf_78
      · replace c_6 : 64 ≤ x4.toInt := i_nlt c_6
        refine lv_bipush (v := 6) C.1 C.2.1 dX10_faultOf_72 (by decide) ?_
        refine lv_goto (tgt := 78) C.1 C.2.1 dX10_faultOf_74 (by decide) ?_
        exact g_iret C hr hlocks hP hD hS rfl () rfl ⟨by decide, by decide⟩ (Nat.le_of_ble_eq_true rfl) (Nat.le_of_ble_eq_true rfl) dX10_faultOf_78
  refine lv_iload_n C.1 C.2.1 dX10_faultOf_0 rfl (lv_at hl 2 rfl) ?_
  refine lv_if_lt (tgt := 10) C.1 C.2.1 dX10_faultOf_1 (by decide) (fun c_7 => False.elim (by have c_7 : x2.toInt < 0 := i_lt c_7; omega)) (fun c_7 => ?_)
  replace c_7 : 0 ≤ x2.toInt := i_nlt c_7
  refine lv_iload_n C.1 C.2.1 dX10_faultOf_4 rfl (lv_at hl 2 rfl) ?_
  refine lv_bipush (v := 20) C.1 C.2.1 dX10_faultOf_5 (by decide) ?_
  refine lv_icmp_lt (tgt := 12) C.1 C.2.1 dX10_faultOf_7 (by decide) (fun c_8 => ?_) (fun c_8 => ?_)
  · replace c_8 : x2.toInt < 20 := i_lt c_8
    refine lv_iload_n C.1 C.2.1 dX10_faultOf_12 rfl (lv_at hl 2 rfl) ?_
    refine lv_bipush (v := 8) C.1 C.2.1 dX10_faultOf_13 (by decide) ?_
    refine lv_icmp_ge (tgt := 42) C.1 C.2.1 dX10_faultOf_15 (by decide) (fun c_9 => ?_) (fun c_9 => ?_)
    · replace c_9 : 8 ≤ x2.toInt := i_le c_9
      refine lv_iload_n C.1 C.2.1 dX10_faultOf_42 rfl (lv_at hl 2 rfl) ?_
      refine lv_bipush (v := 16) C.1 C.2.1 dX10_faultOf_43 (by decide) ?_
      refine lv_icmp_ge (tgt := 79) C.1 C.2.1 dX10_faultOf_45 (by decide) (fun c_10 => ?_) (fun c_10 => ?_)
      · replace c_10 : 16 ≤ x2.toInt := i_le c_10
        refine lv_iload_n C.1 C.2.1 dX10_faultOf_79 rfl (lv_at hl 2 rfl) ?_
        refine lv_bipush (v := 16) C.1 C.2.1 dX10_faultOf_80 (by decide) ?_
        refine lv_icmp_ne (tgt := 112) C.1 C.2.1 dX10_faultOf_82 (by decide) (fun c_11 => ?_) (fun c_11 => ?_)
        · replace c_11 : ¬ x2.toInt = 16 := i_ne c_11
          refine lv_iload_n C.1 C.2.1 dX10_faultOf_112 rfl (lv_at hl 1 rfl) ?_
          refine lv_bipush (v := 35) C.1 C.2.1 dX10_faultOf_113 (by decide) ?_
          refine lv_icmp_ne (tgt := 134) C.1 C.2.1 dX10_faultOf_115 (by decide) (fun c_12 => ?_) (fun c_12 => ?_)
          · replace c_12 : ¬ x1.toInt = 35 := i_ne c_12
            refine lv_iload_n C.1 C.2.1 dX10_faultOf_134 rfl (lv_at hl 1 rfl) ?_
            refine lv_bipush (v := 36) C.1 C.2.1 dX10_faultOf_135 (by decide) ?_
            refine lv_icmp_ne (tgt := 144) C.1 C.2.1 dX10_faultOf_137 (by decide) (fun c_13 => ?_) (fun c_13 => ?_)
            · replace c_13 : ¬ x1.toInt = 36 := i_ne c_13
              refine lv_iconst (v := 0) C.1 C.2.1 dX10_faultOf_144 (by decide) ?_
              exact g_iret C hr hlocks hP hD hS rfl () rfl ⟨by decide, by decide⟩ (Nat.le_of_ble_eq_true rfl) (Nat.le_of_ble_eq_true rfl) dX10_faultOf_145
            · replace c_13 : x1.toInt = 36 := i_eq c_13
              refine lv_iconst (v := 5) C.1 C.2.1 dX10_faultOf_140 (by decide) ?_
              refine lv_goto (tgt := 145) C.1 C.2.1 dX10_faultOf_141 (by decide) ?_
              exact g_iret C hr hlocks hP hD hS rfl () rfl ⟨by decide, by decide⟩ (Nat.le_of_ble_eq_true rfl) (Nat.le_of_ble_eq_true rfl) dX10_faultOf_145
          · replace c_12 : x1.toInt = 35 := i_eq c_12
            refine lv_iload_n C.1 C.2.1 dX10_faultOf_118 rfl (lv_at hl 2 rfl) ?_
            refine lv_bipush (v := 18) C.1 C.2.1 dX10_faultOf_119 (by decide) ?_
            refine lv_icmp_ne (tgt := 132) C.1 C.2.1 dX10_faultOf_121 (by decide) (fun c_14 => ?_) (fun c_14 => ?_)
            · replace c_14 : ¬ x2.toInt = 18 := i_ne c_14
              refine lv_iconst (v := 5) C.1 C.2.1 dX10_faultOf_132 (by decide) ?_
              exact g_iret C hr hlocks hP hD hS rfl () rfl ⟨by decide, by decide⟩ (Nat.le_of_ble_eq_true rfl) (Nat.le_of_ble_eq_true rfl) dX10_faultOf_133
            · replace c_14 : x2.toInt = 18 := i_eq c_14
              refine lv_iload_n C.1 C.2.1 dX10_faultOf_124 rfl (lv_at hl 3 rfl) ?_
              refine lv_if_ne (tgt := 132) C.1 C.2.1 dX10_faultOf_125 (by decide) (fun c_15 => ?_) (fun c_15 => ?_)
              · replace c_15 : ¬ x3.toInt = 0 := i_ne c_15
                refine lv_iconst (v := 5) C.1 C.2.1 dX10_faultOf_132 (by decide) ?_
                exact g_iret C hr hlocks hP hD hS rfl () rfl ⟨by decide, by decide⟩ (Nat.le_of_ble_eq_true rfl) (Nat.le_of_ble_eq_true rfl) dX10_faultOf_133
              · replace c_15 : x3.toInt = 0 := i_eq c_15
                refine lv_iconst (v := 0) C.1 C.2.1 dX10_faultOf_128 (by decide) ?_
                refine lv_goto (tgt := 133) C.1 C.2.1 dX10_faultOf_129 (by decide) ?_
                exact g_iret C hr hlocks hP hD hS rfl () rfl ⟨by decide, by decide⟩ (Nat.le_of_ble_eq_true rfl) (Nat.le_of_ble_eq_true rfl) dX10_faultOf_133
        · replace c_11 : x2.toInt = 16 := i_eq c_11
          refine lv_iload_n C.1 C.2.1 dX10_faultOf_85 rfl (lv_at hl 1 rfl) ?_
          refine lv_bipush (v := 36) C.1 C.2.1 dX10_faultOf_86 (by decide) ?_
          refine lv_icmp_eq (tgt := 93) C.1 C.2.1 dX10_faultOf_88 (by decide) (fun c_16 => ?_) (fun c_16 => ?_)
          · replace c_16 : x1.toInt = 36 := i_eq c_16
            refine lv_aload_n C.1 C.2.1 dX10_faultOf_93 rfl (lv_at hl 0 rfl) ?_
            refine k_get (v := .ref (ad 18)) C hP 3 rfl rfl inlX10 9 (by decide) m_3_17 rfl dX10_faultOf_94 ?_
            refine lv_iload C.1 C.2.1 dX10_faultOf_97 (lv_at hl 5 rfl) ?_
            refine g_Vi (As := [.int x5]) (rest := []) C hP hD hS hA (T_X6_hasCard l D K Z Y ad d t hok hod (x5) (show (0 : Int) ≤ (x5 : Int32).toInt ∧ (x5 : Int32).toInt ≤ 1 from ⟨by omega, by omega⟩)) hE hZ (uwV m_49_19 m_49_20 m_49_21 m_3_16 m_49_22) (hdV 1 (by decide +kernel) rfl) ⟨Nat.le_of_ble_eq_true rfl, Nat.le_of_ble_eq_true rfl⟩ rfl rfl (ci := 5) (q0 := 18) rfl rfl rfl hl.1 (Nat.le_of_ble_eq_true rfl) dX10_faultOf_99 ⟨Nat.le_of_ble_eq_true rfl, Nat.le_of_ble_eq_true rfl⟩ (fun r_18 t_17 H locs hw hP hD hS => ?_)
            obtain ⟨h_20, h_21, p_22, p_23⟩ := hw
            replace p_22 : r_18.toInt = 1 → ∃ a, d.1 916 = some a := p_22
            replace p_23 : r_18.toInt = 1 → (t.1 18 1).toInt < (t.1 18 2).toInt := p_23
            refine lv_if_eq (tgt := 109) C.1 C.2.1 dX10_faultOf_102 (by decide) (fun c_24 => ?_) (fun c_24 => ?_)
            · replace c_24 : r_18.toInt = 0 := i_eq c_24
              refine lv_bipush (v := 6) C.1 C.2.1 dX10_faultOf_109 (by decide) ?_
              exact g_iret C hr hlocks hP hD hS rfl () rfl ⟨by decide, by decide⟩ (Nat.le_of_ble_eq_true rfl) (Nat.le_of_ble_eq_true rfl) dX10_faultOf_111
            · replace c_24 : ¬ r_18.toInt = 0 := i_ne c_24
              refine lv_iconst (v := 0) C.1 C.2.1 dX10_faultOf_105 (by decide) ?_
              refine lv_goto (tgt := 111) C.1 C.2.1 dX10_faultOf_106 (by decide) ?_
              exact g_iret C hr hlocks hP hD hS rfl () rfl ⟨by decide, by decide⟩ (Nat.le_of_ble_eq_true rfl) (Nat.le_of_ble_eq_true rfl) dX10_faultOf_111
          · replace c_16 : ¬ x1.toInt = 36 := i_ne c_16
            refine lv_iconst (v := 5) C.1 C.2.1 dX10_faultOf_91 (by decide) ?_
            exact g_iret C hr hlocks hP hD hS rfl () rfl ⟨by decide, by decide⟩ (Nat.le_of_ble_eq_true rfl) (Nat.le_of_ble_eq_true rfl) dX10_faultOf_92
      · replace c_10 : x2.toInt < 16 := i_nle c_10
        refine lv_iload_n C.1 C.2.1 dX10_faultOf_48 rfl (lv_at hl 1 rfl) ?_
        refine lv_bipush (v := 35) C.1 C.2.1 dX10_faultOf_49 (by decide) ?_
        refine lv_icmp_ne (tgt := 60) C.1 C.2.1 dX10_faultOf_51 (by decide) (fun c_25 => ?_) (fun c_25 => ?_)
        · replace c_25 : ¬ x1.toInt = 35 := i_ne c_25
          exact L_60  _ _ _ ⟨by omega, by omega⟩ hP hD hS (lv_sub hl [0, 1, 2, 3, 4, 5] rfl)
        · replace c_25 : x1.toInt = 35 := i_eq c_25
          refine lv_iload_n C.1 C.2.1 dX10_faultOf_54 rfl (lv_at hl 3 rfl) ?_
          refine lv_if_eq (tgt := 60) C.1 C.2.1 dX10_faultOf_55 (by decide) (fun c_26 => ?_) (fun c_26 => ?_)
          · replace c_26 : x3.toInt = 0 := i_eq c_26
            exact L_60  _ _ _ ⟨by omega, by omega⟩ hP hD hS (lv_sub hl [0, 1, 2, 3, 4, 5] rfl)
          · replace c_26 : ¬ x3.toInt = 0 := i_ne c_26
            refine lv_iconst (v := 5) C.1 C.2.1 dX10_faultOf_58 (by decide) ?_
            exact g_iret C hr hlocks hP hD hS rfl () rfl ⟨by decide, by decide⟩ (Nat.le_of_ble_eq_true rfl) (Nat.le_of_ble_eq_true rfl) dX10_faultOf_59
    · replace c_9 : x2.toInt < 8 := i_nle c_9
      refine lv_iload_n C.1 C.2.1 dX10_faultOf_18 rfl (lv_at hl 1 rfl) ?_
      refine lv_bipush (v := 35) C.1 C.2.1 dX10_faultOf_19 (by decide) ?_
      refine lv_icmp_eq (tgt := 40) C.1 C.2.1 dX10_faultOf_21 (by decide) (fun c_27 => ?_) (fun c_27 => ?_)
      · replace c_27 : x1.toInt = 35 := i_eq c_27
        refine lv_iconst (v := 0) C.1 C.2.1 dX10_faultOf_40 (by decide) ?_
        exact g_iret C hr hlocks hP hD hS rfl () rfl ⟨by decide, by decide⟩ (Nat.le_of_ble_eq_true rfl) (Nat.le_of_ble_eq_true rfl) dX10_faultOf_41
      · replace c_27 : ¬ x1.toInt = 35 := i_ne c_27
        refine lv_aload_n C.1 C.2.1 dX10_faultOf_24 rfl (lv_at hl 0 rfl) ?_
        refine k_get (v := .ref (ad 12)) C hP 3 rfl rfl inlX10 2 (by decide) m_3_7 rfl dX10_faultOf_25 ?_
        refine lv_iload_n C.1 C.2.1 dX10_faultOf_28 rfl (lv_at hl 2 rfl) ?_
        obtain ⟨v_28, e_29⟩ : ∃ z, z = (t.2.2.1 12 (x2 : Int32).toNatClampNeg) := ⟨_, rfl⟩
        refine k_ild (v := v_28) C hP 12 rfl (vp_in_iff.mpr ⟨by omega, by omega⟩) e_29.symm dX10_faultOf_29 ?_
        refine lv_bipush (v := 64) C.1 C.2.1 dX10_faultOf_30 (by decide) ?_
        refine lv_icmp_lt (tgt := 40) C.1 C.2.1 dX10_faultOf_32 (by decide) (fun c_30 => ?_) (fun c_30 => ?_)
        · replace c_30 : v_28.toInt < 64 := i_lt c_30
          refine lv_iconst (v := 0) C.1 C.2.1 dX10_faultOf_40 (by decide) ?_
          exact g_iret C hr hlocks hP hD hS rfl () rfl ⟨by decide, by decide⟩ (Nat.le_of_ble_eq_true rfl) (Nat.le_of_ble_eq_true rfl) dX10_faultOf_41
        · replace c_30 : 64 ≤ v_28.toInt := i_nlt c_30
          refine lv_bipush (v := 6) C.1 C.2.1 dX10_faultOf_35 (by decide) ?_
          refine lv_goto (tgt := 41) C.1 C.2.1 dX10_faultOf_37 (by decide) ?_
          exact g_iret C hr hlocks hP hD hS rfl () rfl ⟨by decide, by decide⟩ (Nat.le_of_ble_eq_true rfl) (Nat.le_of_ble_eq_true rfl) dX10_faultOf_41
  · replace c_8 : 20 ≤ x2.toInt := i_nlt c_8
    refine lv_iconst (v := 5) C.1 C.2.1 dX10_faultOf_10 (by decide) ?_
    exact g_iret C hr hlocks hP hD hS rfl () rfl ⟨by decide, by decide⟩ (Nat.le_of_ble_eq_true rfl) (Nat.le_of_ble_eq_true rfl) dX10_faultOf_11

theorem dX10_turn_0 : decode cX10_turn 0 = .ok (.iload_n 1, 1) := by decide +kernel
theorem dX10_turn_1 : decode cX10_turn 1 = .ok (.bipush 18, 2) := by decide +kernel
theorem dX10_turn_10 : decode cX10_turn 10 = .ok (.iconst 1, 1) := by decide +kernel
theorem dX10_turn_11 : decode cX10_turn 11 = .ok (.bipush 12, 2) := by decide +kernel
theorem dX10_turn_13 : decode cX10_turn 13 = .ok (.invokevirtual 117, 3) := by decide +kernel
theorem dX10_turn_16 : decode cX10_turn 16 = .ok (.aload_n 0, 1) := by decide +kernel
theorem dX10_turn_17 : decode cX10_turn 17 = .ok (.getfield 51, 3) := by decide +kernel
theorem dX10_turn_20 : decode cX10_turn 20 = .ok (.bipush 120, 2) := by decide +kernel
theorem dX10_turn_22 : decode cX10_turn 22 = .ok (.iconst 0, 1) := by decide +kernel
theorem dX10_turn_23 : decode cX10_turn 23 = .ok (.invokevirtual 120, 3) := by decide +kernel
theorem dX10_turn_26 : decode cX10_turn 26 = .ok (.goto 40, 3) := by decide +kernel
theorem dX10_turn_29 : decode cX10_turn 29 = .ok (.iload_n 1, 1) := by decide +kernel
theorem dX10_turn_3 : decode cX10_turn 3 = .ok (.if_icmp .ne 26, 3) := by decide +kernel
theorem dX10_turn_30 : decode cX10_turn 30 = .ok (.bipush 8, 2) := by decide +kernel
theorem dX10_turn_32 : decode cX10_turn 32 = .ok (.if_icmp .ge 34, 3) := by decide +kernel
theorem dX10_turn_35 : decode cX10_turn 35 = .ok (.aload_n 0, 1) := by decide +kernel
theorem dX10_turn_36 : decode cX10_turn 36 = .ok (.getfield 17, 3) := by decide +kernel
theorem dX10_turn_39 : decode cX10_turn 39 = .ok (.iload_n 1, 1) := by decide +kernel
theorem dX10_turn_40 : decode cX10_turn 40 = .ok (.iload_n 2, 1) := by decide +kernel
theorem dX10_turn_41 : decode cX10_turn 41 = .ok (.ifCond .ne 7, 3) := by decide +kernel
theorem dX10_turn_44 : decode cX10_turn 44 = .ok (.iconst 0, 1) := by decide +kernel
theorem dX10_turn_45 : decode cX10_turn 45 = .ok (.goto 20, 3) := by decide +kernel
theorem dX10_turn_48 : decode cX10_turn 48 = .ok (.aload_n 0, 1) := by decide +kernel
theorem dX10_turn_49 : decode cX10_turn 49 = .ok (.getfield 17, 3) := by decide +kernel
theorem dX10_turn_52 : decode cX10_turn 52 = .ok (.iload_n 1, 1) := by decide +kernel
theorem dX10_turn_53 : decode cX10_turn 53 = .ok (.iaload, 1) := by decide +kernel
theorem dX10_turn_54 : decode cX10_turn 54 = .ok (.iload_n 2, 1) := by decide +kernel
theorem dX10_turn_55 : decode cX10_turn 55 = .ok (.iadd, 1) := by decide +kernel
theorem dX10_turn_56 : decode cX10_turn 56 = .ok (.iconst 0, 1) := by decide +kernel
theorem dX10_turn_57 : decode cX10_turn 57 = .ok (.invokestatic 124, 3) := by decide +kernel
theorem dX10_turn_6 : decode cX10_turn 6 = .ok (.aload_n 0, 1) := by decide +kernel
theorem dX10_turn_60 : decode cX10_turn 60 = .ok (.bipush 64, 2) := by decide +kernel
theorem dX10_turn_62 : decode cX10_turn 62 = .ok (.invokestatic 127, 3) := by decide +kernel
theorem dX10_turn_65 : decode cX10_turn 65 = .ok (.iastore, 1) := by decide +kernel
theorem dX10_turn_66 : decode cX10_turn 66 = .ok (.return_, 1) := by decide +kernel
theorem dX10_turn_7 : decode cX10_turn 7 = .ok (.getfield 51, 3) := by decide +kernel
set_option maxHeartbeats 4000000 in
set_option maxRecDepth 100000 in
theorem T_X10_turn (l : Launch) (D : va_G) (K : Nat → ClassId) (Z Y : Nat → Nat) (ad : Nat → Nat) (d : dSt) (t : tSt) (hok : okX t) (hod : okD d) (x1 : Int32) (hx1 : (0 : Int) ≤ x1.toInt ∧ x1.toInt ≤ 19) (x2 : Int32) (hx2 : (-2147483648 : Int) ≤ x2.toInt ∧ x2.toInt ≤ 1073745919) : dMet l yX10_turn cX10_turn 3 none (rmD 2 3000 840000) D K Z Y [.ref (ad 3), .int x1, .int x2] ((WX d) K ad t) (QDV D K ad d (fun (u : tSt) (dd : dSt) => okX u ∧ frA [(20, 3)] [] [12, 35, 36, 37] [] t u ∧ okD dd)) 3000 840000 := by
  refine d_met d RX10 ⟨rfl, by decide +kernel⟩ (Nat.le_of_ble_eq_true rfl) ?_
  intro p e s m below meth c A ls C hE hZ hX hr hlocks hA hP hD hS hl
  have hl : lv_has ls 3 [(0, .ref (ad 3)), (1, .int x1), (2, .int x2)] := hl
  have hle : dLe d d := dLe_rf
  have hdf : dFr s.heap.size d d := dFr_rf
  have hokt := hok
  have hfr : frA [(20, 3)] [] [12, 35, 36, 37] [] t t := frA_rf
  refine lv_iload_n C.1 C.2.1 dX10_turn_0 rfl (lv_at hl 1 rfl) ?_
  refine lv_bipush (v := 18) C.1 C.2.1 dX10_turn_1 (by decide) ?_
  refine lv_icmp_ne (tgt := 29) C.1 C.2.1 dX10_turn_3 (by decide) (fun c_1 => ?_) (fun c_1 => ?_)
  · replace c_1 : ¬ x1.toInt = 18 := i_ne c_1
    refine lv_iload_n C.1 C.2.1 dX10_turn_29 rfl (lv_at hl 1 rfl) ?_
    refine lv_bipush (v := 8) C.1 C.2.1 dX10_turn_30 (by decide) ?_
    refine lv_icmp_ge (tgt := 66) C.1 C.2.1 dX10_turn_32 (by decide) (fun c_2 => ?_) (fun c_2 => ?_)
    · replace c_2 : 8 ≤ x1.toInt := i_le c_2
      exact g_Dvret C hr hlocks hP hD hS ⟨hok, hfr, hod⟩ hle hdf (Nat.le_of_ble_eq_true rfl) (Nat.le_of_ble_eq_true rfl) dX10_turn_66
    · replace c_2 : x1.toInt < 8 := i_nle c_2
      refine lv_aload_n C.1 C.2.1 dX10_turn_35 rfl (lv_at hl 0 rfl) ?_
      refine k_get (v := .ref (ad 12)) C hP 3 rfl rfl inlX10 2 (by decide) m_3_7 rfl dX10_turn_36 ?_
      refine lv_iload_n C.1 C.2.1 dX10_turn_39 rfl (lv_at hl 1 rfl) ?_
      refine lv_iload_n C.1 C.2.1 dX10_turn_40 rfl (lv_at hl 2 rfl) ?_
      refine lv_if_ne (tgt := 48) C.1 C.2.1 dX10_turn_41 (by decide) (fun c_3 => ?_) (fun c_3 => ?_)
      · replace c_3 : ¬ x2.toInt = 0 := i_ne c_3
        refine lv_aload_n C.1 C.2.1 dX10_turn_48 rfl (lv_at hl 0 rfl) ?_
        refine k_get (v := .ref (ad 12)) C hP 3 rfl rfl inlX10 2 (by decide) m_3_7 rfl dX10_turn_49 ?_
        refine lv_iload_n C.1 C.2.1 dX10_turn_52 rfl (lv_at hl 1 rfl) ?_
        obtain ⟨v_4, e_5⟩ : ∃ z, z = (t.2.2.1 12 (x1 : Int32).toNatClampNeg) := ⟨_, rfl⟩
        refine k_ild (v := v_4) C hP 12 rfl (vp_in_iff.mpr ⟨by omega, by omega⟩) e_5.symm dX10_turn_53 ?_
        refine lv_iload_n C.1 C.2.1 dX10_turn_54 rfl (lv_at hl 2 rfl) ?_
        obtain ⟨v_6, e_7⟩ : ∃ z, z = (v_4 : Int32) + (x2 : Int32) := ⟨_, rfl⟩
        refine k_iadd (v := v_6) C e_7.symm dX10_turn_55 ?_
        refine lv_iconst (v := 0) C.1 C.2.1 dX10_turn_56 (by decide) ?_
        obtain ⟨v_10, e_9⟩ : ∃ z, z = if (v_6 : Int32) < (0 : Int32) then (0 : Int32) else (v_6 : Int32) := ⟨_, rfl⟩
        have h_11 : (0 : Int32).toInt = 0 := rfl
        have h_12 := mx_r e_9
        refine k_mmax (v := v_10) C hl.1 m_52_11 m_12_14 m_12_15 m_12_16 (Nat.le_of_ble_eq_true rfl) (Nat.le_of_ble_eq_true rfl) (Nat.le_trans (newC_le _ _) (Nat.le_of_ble_eq_true rfl)) (Nat.le_of_ble_eq_true rfl) e_9.symm dX10_turn_57 ?_
        refine lv_bipush (v := 64) C.1 C.2.1 dX10_turn_60 (by decide) ?_
        obtain ⟨v_14, e_13⟩ : ∃ z, z = if (64 : Int32) < (v_10 : Int32) then (64 : Int32) else (v_10 : Int32) := ⟨_, rfl⟩
        have h_15 : (64 : Int32).toInt = 64 := rfl
        have h_16 := mn_r e_13
        refine k_mmin (v := v_14) C hl.1 m_52_12 m_12_19 m_12_15 m_12_20 (Nat.le_of_ble_eq_true rfl) (Nat.le_of_ble_eq_true rfl) (Nat.le_trans (newC_le _ _) (Nat.le_of_ble_eq_true rfl)) (Nat.le_of_ble_eq_true rfl) e_13.symm dX10_turn_62 ?_
        refine k_ist (ws' := (WX d) K ad (uB t 12 (x1 : Int32).toNatClampNeg v_14)) (x' := v_14) C hP hD hS 12 rfl (vp_in_iff.mpr ⟨by omega, by omega⟩) rfl rfl rfl dX10_turn_65 (fun H locs hP hD hS => ?_)
        have hok : okX (uB t 12 (x1 : Int32).toNatClampNeg v_14) := ⟨hok.1, okB_B hok.2.1 12 _ v_14 (show (-2147483648 : Int) ≤ (v_14 : Int32).toInt ∧ (v_14 : Int32).toInt ≤ 2147483647 from (i_rng _)), trivial⟩
        have hfr : frA [(20, 3)] [] [12, 35, 36, 37] [] t (uB t 12 (x1 : Int32).toNatClampNeg v_14) := frA_B hfr 12 _ _ rfl
        exact g_Dvret C hr hlocks hP hD hS ⟨hok, hfr, hod⟩ hle hdf (Nat.le_of_ble_eq_true rfl) (Nat.le_of_ble_eq_true rfl) dX10_turn_66
      · replace c_3 : x2.toInt = 0 := i_eq c_3
        refine lv_iconst (v := 0) C.1 C.2.1 dX10_turn_44 (by decide) ?_
        refine lv_goto (tgt := 65) C.1 C.2.1 dX10_turn_45 (by decide) ?_
        refine k_ist (ws' := (WX d) K ad (uB t 12 (x1 : Int32).toNatClampNeg 0)) (x' := 0) C hP hD hS 12 rfl (vp_in_iff.mpr ⟨by omega, by omega⟩) rfl rfl rfl dX10_turn_65 (fun H locs hP hD hS => ?_)
        have hok : okX (uB t 12 (x1 : Int32).toNatClampNeg 0) := ⟨hok.1, okB_B hok.2.1 12 _ 0 (show (-2147483648 : Int) ≤ (0 : Int32).toInt ∧ (0 : Int32).toInt ≤ 2147483647 from (i_rng _)), trivial⟩
        have hfr : frA [(20, 3)] [] [12, 35, 36, 37] [] t (uB t 12 (x1 : Int32).toNatClampNeg 0) := frA_B hfr 12 _ _ rfl
        exact g_Dvret C hr hlocks hP hD hS ⟨hok, hfr, hod⟩ hle hdf (Nat.le_of_ble_eq_true rfl) (Nat.le_of_ble_eq_true rfl) dX10_turn_66
  · replace c_1 : x1.toInt = 18 := i_eq c_1
    refine lv_aload_n C.1 C.2.1 dX10_turn_6 rfl (lv_at hl 0 rfl) ?_
    refine k_get (v := .ref (ad 20)) C hP 3 rfl rfl inlX10 11 (by decide) m_3_22 rfl dX10_turn_7 ?_
    refine lv_iconst (v := 1) C.1 C.2.1 dX10_turn_10 (by decide) ?_
    refine lv_bipush (v := 12) C.1 C.2.1 dX10_turn_11 (by decide) ?_
    refine hz_Vv (As := [.int 1, .int 12]) (rest := []) C hP hD hS hA (T_X4_mark l D K Z Y ad d t hok 1 12 (show (-128 : Int) ≤ (12 : Int32).toInt ∧ (12 : Int32).toInt ≤ 255 from ⟨by decide, by decide⟩)) hE hZ (uwV m_52_13 m_41_0 m_41_1 m_3_20 m_41_2) (hdV 2 (by decide +kernel) rfl) ⟨Nat.le_of_ble_eq_true rfl, Nat.le_of_ble_eq_true rfl⟩ rfl rfl (ci := 3) (q0 := 20) rfl rfl rfl hl.1 (Nat.le_of_ble_eq_true rfl) dX10_turn_13 ⟨Nat.le_trans (newC_le _ _) (Nat.le_of_ble_eq_true rfl), (Nat.le_of_ble_eq_true rfl)⟩ (fun t_17 H locs hw hP hD hS => ?_)
    obtain ⟨hok, f_19⟩ := hw
    have hfr : frA [(20, 3)] [] [12, 35, 36, 37] [] t t_17 := frA_tr hfr f_19 rfl
    refine lv_aload_n C.1 C.2.1 dX10_turn_16 rfl (lv_at hl 0 rfl) ?_
    refine k_get (v := .ref (ad 20)) C hP 3 rfl rfl inlX10 11 (by decide) m_3_22 rfl dX10_turn_17 ?_
    refine lv_bipush (v := 120) C.1 C.2.1 dX10_turn_20 (by decide) ?_
    refine lv_iconst (v := 0) C.1 C.2.1 dX10_turn_22 (by decide) ?_
    refine g_DVv (As := [.int 120, .int 0]) (rest := []) C hP hD hS hA (T_X4_finish l D K Z Y ad d t_17 hok hod 120 (show (72 : Int) ≤ (120 : Int32).toInt ∧ (120 : Int32).toInt ≤ 120 from ⟨by decide, by decide⟩) 0 (show (0 : Int) ≤ (0 : Int32).toInt ∧ (0 : Int32).toInt ≤ 1 from ⟨by decide, by decide⟩)) hE hZ hX hle hdf (uwV m_52_14 m_41_8 m_41_9 m_3_20 m_41_10) (hdV 2 (by decide +kernel) rfl) ⟨Nat.le_of_ble_eq_true rfl, Nat.le_of_ble_eq_true rfl⟩ rfl rfl (ci := 3) (q0 := 20) rfl rfl rfl hl.1 (Nat.le_of_ble_eq_true rfl) dX10_turn_23 ⟨Nat.le_of_ble_eq_true rfl, Nat.le_of_ble_eq_true rfl⟩ (fun t_20 d_22 H locs hw hP hD hS hln hle hdf => ?_)
    obtain ⟨hok, f_23, hod⟩ := hw
    have hfr : frA [(20, 3)] [] [12, 35, 36, 37] [] t t_20 := frA_tr hfr f_23 rfl
    refine lv_goto (tgt := 66) C.1 C.2.1 dX10_turn_26 (by decide) ?_
    exact g_Dvret C hr hlocks hP hD hS ⟨hok, hfr, hod⟩ hle hdf (Nat.le_of_ble_eq_true rfl) (Nat.le_of_ble_eq_true rfl) dX10_turn_66

theorem dX10_writeBlock_0 : decode cX10_writeBlock 0 = .ok (.aload_n 0, 1) := by decide +kernel
theorem dX10_writeBlock_1 : decode cX10_writeBlock 1 = .ok (.iload_n 1, 1) := by decide +kernel
theorem dX10_writeBlock_11 : decode cX10_writeBlock 11 = .ok (.iconst 0, 1) := by decide +kernel
theorem dX10_writeBlock_12 : decode cX10_writeBlock 12 = .ok (.istore 5, 2) := by decide +kernel
theorem dX10_writeBlock_14 : decode cX10_writeBlock 14 = .ok (.iload 5, 2) := by decide +kernel
theorem dX10_writeBlock_16 : decode cX10_writeBlock 16 = .ok (.bipush 100, 2) := by decide +kernel
theorem dX10_writeBlock_18 : decode cX10_writeBlock 18 = .ok (.if_icmp .ge 27, 3) := by decide +kernel
theorem dX10_writeBlock_2 : decode cX10_writeBlock 2 = .ok (.iload_n 3, 1) := by decide +kernel
theorem dX10_writeBlock_21 : decode cX10_writeBlock 21 = .ok (.aload_n 0, 1) := by decide +kernel
theorem dX10_writeBlock_22 : decode cX10_writeBlock 22 = .ok (.iload_n 1, 1) := by decide +kernel
theorem dX10_writeBlock_23 : decode cX10_writeBlock 23 = .ok (.iload 4, 2) := by decide +kernel
theorem dX10_writeBlock_25 : decode cX10_writeBlock 25 = .ok (.iload 5, 2) := by decide +kernel
theorem dX10_writeBlock_27 : decode cX10_writeBlock 27 = .ok (.iadd, 1) := by decide +kernel
theorem dX10_writeBlock_28 : decode cX10_writeBlock 28 = .ok (.aload_n 0, 1) := by decide +kernel
theorem dX10_writeBlock_29 : decode cX10_writeBlock 29 = .ok (.iload_n 2, 1) := by decide +kernel
theorem dX10_writeBlock_3 : decode cX10_writeBlock 3 = .ok (.invokevirtual 133, 3) := by decide +kernel
theorem dX10_writeBlock_30 : decode cX10_writeBlock 30 = .ok (.iload 5, 2) := by decide +kernel
theorem dX10_writeBlock_32 : decode cX10_writeBlock 32 = .ok (.iadd, 1) := by decide +kernel
theorem dX10_writeBlock_33 : decode cX10_writeBlock 33 = .ok (.invokevirtual 139, 3) := by decide +kernel
theorem dX10_writeBlock_36 : decode cX10_writeBlock 36 = .ok (.invokevirtual 142, 3) := by decide +kernel
theorem dX10_writeBlock_39 : decode cX10_writeBlock 39 = .ok (.iinc 5 1, 3) := by decide +kernel
theorem dX10_writeBlock_42 : decode cX10_writeBlock 42 = .ok (.goto (-28), 3) := by decide +kernel
theorem dX10_writeBlock_45 : decode cX10_writeBlock 45 = .ok (.return_, 1) := by decide +kernel
theorem dX10_writeBlock_6 : decode cX10_writeBlock 6 = .ok (.bipush 100, 2) := by decide +kernel
theorem dX10_writeBlock_8 : decode cX10_writeBlock 8 = .ok (.imul, 1) := by decide +kernel
theorem dX10_writeBlock_9 : decode cX10_writeBlock 9 = .ok (.istore 4, 2) := by decide +kernel
set_option maxHeartbeats 4000000 in
set_option maxRecDepth 100000 in
theorem T_X10_writeBlock (l : Launch) (D : va_G) (K : Nat → ClassId) (Z Y : Nat → Nat) (ad : Nat → Nat) (d : dSt) (t : tSt) (hok : okX t) (hod : okD d) (x1 : Int32) (hx1 : (0 : Int) ≤ x1.toInt ∧ x1.toInt ≤ 15) (x2 : Int32) (hx2 : (-2147483648 : Int) ≤ x2.toInt ∧ x2.toInt ≤ 1073745919) (x3 : Int32) (hx3 : (-1073741824 : Int) ≤ x3.toInt ∧ x3.toInt ≤ 1073741823) : dMet l yX10_writeBlock cX10_writeBlock 6 none (rmD 1 2000 560000) D K Z Y [.ref (ad 3), .int x1, .int x2, .int x3] ((WX d) K ad t) (QDV D K ad d (fun (u : tSt) (dd : dSt) => okX u ∧ frA [] [] [11, 12] [] t u ∧ okD dd)) 2000 560000 := by
  refine d_met d RX10 ⟨rfl, by decide +kernel⟩ (Nat.le_of_ble_eq_true rfl) ?_
  intro p e s m below meth c A ls C hE hZ hX hr hlocks hA hP hD hS hl
  have hl : lv_has ls 6 [(0, .ref (ad 3)), (1, .int x1), (2, .int x2), (3, .int x3)] := hl
  have hle : dLe d d := dLe_rf
  have hdf : dFr s.heap.size d d := dFr_rf
  have hokt := hok
  have hfr : frA [] [] [11, 12] [] t t := frA_rf
  have L_14 : ∀ (fuel_14 : Nat) (t1 : tSt) (d1 : dSt) (w14_4 : Int32) (w14_5 : Int32) (H : Heap) (locs : List Loc) (ls : Array Slot), okX t1 → frA [] [] [11, 12] [] t t1 → okD d1 → dLe d d1 → dFr s.heap.size d d1 → (0 : Int) ≤ w14_5.toInt ∧ w14_5.toInt ≤ 100 → (100 : Int) - w14_5.toInt < (fuel_14 : Int) → va_P D vwCl ((WX d1) K ad t1) H → va_D A ((WX d1) K ad t1) → va_S A s.heap H locs → lv_has ls 6 [(0, .ref (ad 3)), (1, .int x1), (2, .int x2), (3, .int x3), (4, .int w14_4), (5, .int w14_5)] → W p l e (rmD 1 2000 560000) s m [.ref (ad 3), .int x1, .int x2, .int x3].toArray below meth c H locs (newC d d1) 246800 (MQ below (QDV D K ad d (fun (u : tSt) (dd : dSt) => okX u ∧ frA [] [] [11, 12] [] t u ∧ okD dd) s.heap.size A) [.ref (ad 3), .int x1, .int x2, .int x3].toArray s 2000 560000 A) (F0 m 14 ls []) := by
    intro fuel_14
    induction fuel_14 with
    | zero =>
      intro t1 d1 w14_4 w14_5 H locs ls hok hfr hod hle hdf hw14_5 hm14_14 hP hD hS hl
      exact absurd hm14_14 (by omega)
    | succ fuel_14 ih_14 =>
      intro t1 d1 w14_4 w14_5 H locs ls hok hfr hod hle hdf hw14_5 hm14_14 hP hD hS hl
      have hm14_14 : (100 : Int) - w14_5.toInt < (fuel_14 : Int) + 1 := by omega
      refine lv_iload C.1 C.2.1 dX10_writeBlock_14 (lv_at hl 5 rfl) ?_
      refine lv_bipush (v := 100) C.1 C.2.1 dX10_writeBlock_16 (by decide) ?_
      refine lv_icmp_ge (tgt := 45) C.1 C.2.1 dX10_writeBlock_18 (by decide) (fun c_1 => ?_) (fun c_1 => ?_)
      · replace c_1 : 100 ≤ w14_5.toInt := i_le c_1
        exact g_Dvret C hr hlocks hP hD hS ⟨hok, hfr, hod⟩ hle hdf (Nat.le_of_ble_eq_true rfl) (Nat.le_of_ble_eq_true rfl) dX10_writeBlock_45
      · replace c_1 : w14_5.toInt < 100 := i_nle c_1
        refine lv_aload_n C.1 C.2.1 dX10_writeBlock_21 rfl (lv_at hl 0 rfl) ?_
        refine lv_iload_n C.1 C.2.1 dX10_writeBlock_22 rfl (lv_at hl 1 rfl) ?_
        refine lv_iload C.1 C.2.1 dX10_writeBlock_23 (lv_at hl 4 rfl) ?_
        refine lv_iload C.1 C.2.1 dX10_writeBlock_25 (lv_at hl 5 rfl) ?_
        obtain ⟨v_2, e_3⟩ : ∃ z, z = (w14_4 : Int32) + (w14_5 : Int32) := ⟨_, rfl⟩
        refine k_iadd (v := v_2) C e_3.symm dX10_writeBlock_27 ?_
        refine lv_aload_n C.1 C.2.1 dX10_writeBlock_28 rfl (lv_at hl 0 rfl) ?_
        refine lv_iload_n C.1 C.2.1 dX10_writeBlock_29 rfl (lv_at hl 2 rfl) ?_
        refine lv_iload C.1 C.2.1 dX10_writeBlock_30 (lv_at hl 5 rfl) ?_
        obtain ⟨v_5, e_6⟩ : ∃ z, z = (x2 : Int32) + (w14_5 : Int32) := ⟨_, rfl⟩
        have h_8 := i_rng x2
        have h_7 : v_5.toInt = x2.toInt + w14_5.toInt := by rw [e_6]; exact ti_iadd (by show (_ : Int) ≤ x2.toInt + w14_5.toInt; omega) (by show x2.toInt + w14_5.toInt < (_ : Int); omega)
        refine k_iadd (v := v_5) C e_6.symm dX10_writeBlock_32 ?_
        refine hz_Vi (As := [.int v_5]) (rest := [.int v_2, .int x1, .ref (ad 3)]) C hP hD hS hA (T_X10_wordAt l D K Z Y ad d1 t1 hok (v_5)) hE hZ (uwV m_53_13 m_53_14 m_53_15 m_1_20 m_53_16) (hdV 1 (by decide +kernel) rfl) ⟨Nat.le_of_ble_eq_true rfl, Nat.le_of_ble_eq_true rfl⟩ rfl rfl (ci := 9) (q0 := 3) rfl rfl rfl hl.1 (Nat.le_of_ble_eq_true rfl) dX10_writeBlock_33 ⟨Nat.le_trans (newC_le _ _) (Nat.le_of_ble_eq_true rfl), (Nat.le_of_ble_eq_true rfl)⟩ (fun r_10 t_9 H locs hw hP hD hS => ?_)
        obtain ⟨h_12, h_13⟩ := hw
        refine g_DVv (As := [.int x1, .int v_2, .int r_10]) (rest := []) C hP hD hS hA (T_X10_store l D K Z Y ad d1 t1 hok hod (x1) (show (0 : Int) ≤ (x1 : Int32).toInt ∧ (x1 : Int32).toInt ≤ 15 from ⟨by omega, by omega⟩) (v_2) (r_10)) hE hZ hX hle hdf (uwV m_53_17 m_53_18 m_53_19 m_1_20 m_53_20) (hdV 3 (by decide +kernel) rfl) ⟨Nat.le_of_ble_eq_true rfl, Nat.le_of_ble_eq_true rfl⟩ rfl rfl (ci := 9) (q0 := 3) rfl rfl rfl hl.1 (Nat.le_of_ble_eq_true rfl) dX10_writeBlock_36 ⟨Nat.le_of_ble_eq_true rfl, Nat.le_of_ble_eq_true rfl⟩ (fun t_14 d_16 H locs hw hP hD hS hln hle hdf => ?_)
        obtain ⟨hok, f_17, hod⟩ := hw
        have hfr : frA [] [] [11, 12] [] t t_14 := frA_tr hfr f_17 rfl
        obtain ⟨v_18, e_19⟩ : ∃ z, z = w14_5 + 1 := ⟨_, rfl⟩
        have h_20 : v_18.toInt = w14_5.toInt + 1 := by rw [e_19]; exact ti_iadd (by show (_ : Int) ≤ w14_5.toInt + 1; omega) (by show w14_5.toInt + 1 < (_ : Int); omega)
        refine lv_iinc (v := v_18) (lv' := [(5, .int v_18), (0, .ref (ad 3)), (1, .int x1), (2, .int x2), (3, .int x3), (4, .int w14_4)]) C.1 C.2.1 dX10_writeBlock_39 hl (k := 5) rfl e_19.symm (by decide) rfl (fun ls hl => ?_)
        have hl : lv_has ls 6 [(0, .ref (ad 3)), (1, .int x1), (2, .int x2), (3, .int x3), (4, .int w14_4), (5, .int v_18)] := lv_sub hl [1, 2, 3, 4, 5, 0] rfl
        refine lv_goto (tgt := 14) C.1 C.2.1 dX10_writeBlock_42 (by decide) ?_
        exact ih_14 t_14 d_16 w14_4 v_18 _ _ _ hok hfr hod hle hdf ⟨by omega, by omega⟩ (show (100 : Int) - v_18.toInt < (fuel_14 : Int) from by omega) hP hD hS (lv_sub hl [0, 1, 2, 3, 4, 5] rfl)
  refine lv_aload_n C.1 C.2.1 dX10_writeBlock_0 rfl (lv_at hl 0 rfl) ?_
  refine lv_iload_n C.1 C.2.1 dX10_writeBlock_1 rfl (lv_at hl 1 rfl) ?_
  refine lv_iload_n C.1 C.2.1 dX10_writeBlock_2 rfl (lv_at hl 3 rfl) ?_
  refine hz_Vi (As := [.int x1, .int x3]) (rest := []) C hP hD hS hA (T_X10_blockAt l D K Z Y ad d t hok (x1) (show (0 : Int) ≤ (x1 : Int32).toInt ∧ (x1 : Int32).toInt ≤ 15 from ⟨by omega, by omega⟩) (x3) (show (-1073741824 : Int) ≤ (x3 : Int32).toInt ∧ (x3 : Int32).toInt ≤ 1073741823 from ⟨by omega, by omega⟩)) hE hZ (uwV m_53_1 m_53_2 m_53_3 m_1_20 m_53_4) (hdV 2 (by decide +kernel) rfl) ⟨Nat.le_of_ble_eq_true rfl, Nat.le_of_ble_eq_true rfl⟩ rfl rfl (ci := 9) (q0 := 3) rfl rfl rfl hl.1 (Nat.le_of_ble_eq_true rfl) dX10_writeBlock_3 ⟨Nat.le_trans (newC_le _ _) (Nat.le_of_ble_eq_true rfl), (Nat.le_of_ble_eq_true rfl)⟩ (fun r_22 t_21 H locs hw hP hD hS => ?_)
  obtain ⟨hok, f_23, h_24, h_25⟩ := hw
  have hfr : frA [] [] [11, 12] [] t t_21 := frA_tr hfr f_23 rfl
  refine lv_bipush (v := 100) C.1 C.2.1 dX10_writeBlock_6 (by decide) ?_
  obtain ⟨v_26, e_27⟩ : ∃ z, z = (r_22 : Int32) * (100 : Int32) := ⟨_, rfl⟩
  refine k_imul (v := v_26) C e_27.symm dX10_writeBlock_8 ?_
  refine lv_istore (lv' := [(4, .int v_26), (0, .ref (ad 3)), (1, .int x1), (2, .int x2), (3, .int x3)]) C.1 C.2.1 dX10_writeBlock_9 hl (by decide) rfl (fun ls hl => ?_)
  have hl : lv_has ls 6 [(0, .ref (ad 3)), (1, .int x1), (2, .int x2), (3, .int x3), (4, .int v_26)] := lv_sub hl [1, 2, 3, 4, 0] rfl
  refine lv_iconst (v := 0) C.1 C.2.1 dX10_writeBlock_11 (by decide) ?_
  refine lv_istore (lv' := [(5, .int 0), (0, .ref (ad 3)), (1, .int x1), (2, .int x2), (3, .int x3), (4, .int v_26)]) C.1 C.2.1 dX10_writeBlock_12 hl (by decide) rfl (fun ls hl => ?_)
  have hl : lv_has ls 6 [(0, .ref (ad 3)), (1, .int x1), (2, .int x2), (3, .int x3), (4, .int v_26), (5, .int 0)] := lv_sub hl [1, 2, 3, 4, 5, 0] rfl
  exact L_14 101 t_21 d v_26 0 _ _ _ hok hfr hod hle hdf ⟨by decide, by decide⟩ (show (100 : Int) - 0 < ((101 : Nat) : Int) from by omega) hP hD hS (lv_sub hl [0, 1, 2, 3, 4, 5] rfl)

theorem dX10_writeLine_0 : decode cX10_writeLine 0 = .ok (.iconst 0, 1) := by decide +kernel
theorem dX10_writeLine_1 : decode cX10_writeLine 1 = .ok (.istore 4, 2) := by decide +kernel
theorem dX10_writeLine_10 : decode cX10_writeLine 10 = .ok (.iload_n 2, 1) := by decide +kernel
theorem dX10_writeLine_11 : decode cX10_writeLine 11 = .ok (.iload 4, 2) := by decide +kernel
theorem dX10_writeLine_13 : decode cX10_writeLine 13 = .ok (.iadd, 1) := by decide +kernel
theorem dX10_writeLine_14 : decode cX10_writeLine 14 = .ok (.invokevirtual 139, 3) := by decide +kernel
theorem dX10_writeLine_17 : decode cX10_writeLine 17 = .ok (.istore 5, 2) := by decide +kernel
theorem dX10_writeLine_19 : decode cX10_writeLine 19 = .ok (.iconst 1, 1) := by decide +kernel
theorem dX10_writeLine_20 : decode cX10_writeLine 20 = .ok (.istore 6, 2) := by decide +kernel
theorem dX10_writeLine_22 : decode cX10_writeLine 22 = .ok (.iload 6, 2) := by decide +kernel
theorem dX10_writeLine_24 : decode cX10_writeLine 24 = .ok (.iconst 5, 1) := by decide +kernel
theorem dX10_writeLine_25 : decode cX10_writeLine 25 = .ok (.if_icmp .gt 30, 3) := by decide +kernel
theorem dX10_writeLine_28 : decode cX10_writeLine 28 = .ok (.aload_n 1, 1) := by decide +kernel
theorem dX10_writeLine_29 : decode cX10_writeLine 29 = .ok (.iconst 5, 1) := by decide +kernel
theorem dX10_writeLine_3 : decode cX10_writeLine 3 = .ok (.iload 4, 2) := by decide +kernel
theorem dX10_writeLine_30 : decode cX10_writeLine 30 = .ok (.iload 4, 2) := by decide +kernel
theorem dX10_writeLine_32 : decode cX10_writeLine 32 = .ok (.imul, 1) := by decide +kernel
theorem dX10_writeLine_33 : decode cX10_writeLine 33 = .ok (.iload 6, 2) := by decide +kernel
theorem dX10_writeLine_35 : decode cX10_writeLine 35 = .ok (.iadd, 1) := by decide +kernel
theorem dX10_writeLine_36 : decode cX10_writeLine 36 = .ok (.iload 5, 2) := by decide +kernel
theorem dX10_writeLine_38 : decode cX10_writeLine 38 = .ok (.iload 6, 2) := by decide +kernel
theorem dX10_writeLine_40 : decode cX10_writeLine 40 = .ok (.invokestatic 145, 3) := by decide +kernel
theorem dX10_writeLine_43 : decode cX10_writeLine 43 = .ok (.invokestatic 150, 3) := by decide +kernel
theorem dX10_writeLine_46 : decode cX10_writeLine 46 = .ok (.invokevirtual 117, 3) := by decide +kernel
theorem dX10_writeLine_49 : decode cX10_writeLine 49 = .ok (.iinc 6 1, 3) := by decide +kernel
theorem dX10_writeLine_5 : decode cX10_writeLine 5 = .ok (.iload_n 3, 1) := by decide +kernel
theorem dX10_writeLine_52 : decode cX10_writeLine 52 = .ok (.goto (-30), 3) := by decide +kernel
theorem dX10_writeLine_55 : decode cX10_writeLine 55 = .ok (.iinc 4 1, 3) := by decide +kernel
theorem dX10_writeLine_58 : decode cX10_writeLine 58 = .ok (.goto (-55), 3) := by decide +kernel
theorem dX10_writeLine_6 : decode cX10_writeLine 6 = .ok (.if_icmp .ge 55, 3) := by decide +kernel
theorem dX10_writeLine_61 : decode cX10_writeLine 61 = .ok (.aload_n 1, 1) := by decide +kernel
theorem dX10_writeLine_62 : decode cX10_writeLine 62 = .ok (.bipush 120, 2) := by decide +kernel
theorem dX10_writeLine_64 : decode cX10_writeLine 64 = .ok (.iconst 0, 1) := by decide +kernel
theorem dX10_writeLine_65 : decode cX10_writeLine 65 = .ok (.invokevirtual 120, 3) := by decide +kernel
theorem dX10_writeLine_68 : decode cX10_writeLine 68 = .ok (.return_, 1) := by decide +kernel
theorem dX10_writeLine_9 : decode cX10_writeLine 9 = .ok (.aload_n 0, 1) := by decide +kernel
set_option maxHeartbeats 4000000 in
set_option maxRecDepth 100000 in
theorem T_X10_writeLine (l : Launch) (D : va_G) (K : Nat → ClassId) (Z Y : Nat → Nat) (ad : Nat → Nat) (d : dSt) (t : tSt) (hok : okX t) (hod : okD d) (x2 : Int32) (hx2 : (-2147483648 : Int) ≤ x2.toInt ∧ x2.toInt ≤ 1073745919) (x3 : Int32) (hx3 : (1 : Int) ≤ x3.toInt ∧ x3.toInt ≤ 100) : dMet l yX10_writeLine cX10_writeLine 7 none (rmD 5 6000 1680000) D K Z Y [.ref (ad 3), .ref (ad 19), .int x2, .int x3] ((WX d) K ad t) (QDV D K ad d (fun (u : tSt) (dd : dSt) => okX u ∧ frA [(19, 3)] [] [32, 33, 34] [] t u ∧ okD dd)) 6000 1680000 := by
  refine d_met d RX10 ⟨rfl, by decide +kernel⟩ (Nat.le_of_ble_eq_true rfl) ?_
  intro p e s m below meth c A ls C hE hZ hX hr hlocks hA hP hD hS hl
  have hl : lv_has ls 7 [(0, .ref (ad 3)), (1, .ref (ad 19)), (2, .int x2), (3, .int x3)] := hl
  have hle : dLe d d := dLe_rf
  have hdf : dFr s.heap.size d d := dFr_rf
  have hokt := hok
  have hfr : frA [(19, 3)] [] [32, 33, 34] [] t t := frA_rf
  have L_3 : ∀ (fuel_3 : Nat) (t1 : tSt) (d1 : dSt) (w3_4 : Int32) (H : Heap) (locs : List Loc) (ls : Array Slot), okX t1 → frA [(19, 3)] [] [32, 33, 34] [] t t1 → okD d1 → dLe d d1 → dFr s.heap.size d d1 → (0 : Int) ≤ w3_4.toInt ∧ w3_4.toInt ≤ 100 → (100 : Int) - w3_4.toInt < (fuel_3 : Int) → va_P D vwCl ((WX d1) K ad t1) H → va_D A ((WX d1) K ad t1) → va_S A s.heap H locs → lv_has ls 7 [(0, .ref (ad 3)), (1, .ref (ad 19)), (2, .int x2), (3, .int x3), (4, .int w3_4)] → W p l e (rmD 5 6000 1680000) s m [.ref (ad 3), .ref (ad 19), .int x2, .int x3].toArray below meth c H locs (newC d d1) 246800 (MQ below (QDV D K ad d (fun (u : tSt) (dd : dSt) => okX u ∧ frA [(19, 3)] [] [32, 33, 34] [] t u ∧ okD dd) s.heap.size A) [.ref (ad 3), .ref (ad 19), .int x2, .int x3].toArray s 6000 1680000 A) (F0 m 3 ls []) := by
    intro fuel_3
    induction fuel_3 with
    | zero =>
      intro t1 d1 w3_4 H locs ls hok hfr hod hle hdf hw3_4 hm3_3 hP hD hS hl
      exact absurd hm3_3 (by omega)
    | succ fuel_3 ih_3 =>
      intro t1 d1 w3_4 H locs ls hok hfr hod hle hdf hw3_4 hm3_3 hP hD hS hl
      have hm3_3 : (100 : Int) - w3_4.toInt < (fuel_3 : Int) + 1 := by omega
      have L_22 : ∀ (fuel_22 : Nat) (t1 : tSt) (d1 : dSt) (w22_4 : Int32) (w22_5 : Int32) (w22_6 : Int32) (H : Heap) (locs : List Loc) (ls : Array Slot), okX t1 → frA [(19, 3)] [] [32, 33, 34] [] t t1 → okD d1 → dLe d d1 → dFr s.heap.size d d1 → (0 : Int) ≤ w22_4.toInt ∧ w22_4.toInt ≤ 99 → (1 : Int) ≤ w22_6.toInt ∧ w22_6.toInt ≤ 6 → (100 : Int) - w22_4.toInt < (fuel_3 : Int) + 1 → (6 : Int) - w22_6.toInt < (fuel_22 : Int) → va_P D vwCl ((WX d1) K ad t1) H → va_D A ((WX d1) K ad t1) → va_S A s.heap H locs → lv_has ls 7 [(0, .ref (ad 3)), (1, .ref (ad 19)), (2, .int x2), (3, .int x3), (4, .int w22_4), (5, .int w22_5), (6, .int w22_6)] → W p l e (rmD 5 6000 1680000) s m [.ref (ad 3), .ref (ad 19), .int x2, .int x3].toArray below meth c H locs (newC d d1) 246800 (MQ below (QDV D K ad d (fun (u : tSt) (dd : dSt) => okX u ∧ frA [(19, 3)] [] [32, 33, 34] [] t u ∧ okD dd) s.heap.size A) [.ref (ad 3), .ref (ad 19), .int x2, .int x3].toArray s 6000 1680000 A) (F0 m 22 ls []) := by
        intro fuel_22
        induction fuel_22 with
        | zero =>
          intro t1 d1 w22_4 w22_5 w22_6 H locs ls hok hfr hod hle hdf hw22_4 hw22_6 hm22_3 hm22_22 hP hD hS hl
          exact absurd hm22_22 (by omega)
        | succ fuel_22 ih_22 =>
          intro t1 d1 w22_4 w22_5 w22_6 H locs ls hok hfr hod hle hdf hw22_4 hw22_6 hm22_3 hm22_22 hP hD hS hl
          have hm22_22 : (6 : Int) - w22_6.toInt < (fuel_22 : Int) + 1 := by omega
          refine lv_iload C.1 C.2.1 dX10_writeLine_22 (lv_at hl 6 rfl) ?_
          refine lv_iconst (v := 5) C.1 C.2.1 dX10_writeLine_24 (by decide) ?_
          refine lv_icmp_gt (tgt := 55) C.1 C.2.1 dX10_writeLine_25 (by decide) (fun c_1 => ?_) (fun c_1 => ?_)
          · replace c_1 : 5 < w22_6.toInt := i_lt c_1
            obtain ⟨v_2, e_3⟩ : ∃ z, z = w22_4 + 1 := ⟨_, rfl⟩
            have h_4 : v_2.toInt = w22_4.toInt + 1 := by rw [e_3]; exact ti_iadd (by show (_ : Int) ≤ w22_4.toInt + 1; omega) (by show w22_4.toInt + 1 < (_ : Int); omega)
            refine lv_iinc (v := v_2) (lv' := [(4, .int v_2), (0, .ref (ad 3)), (1, .ref (ad 19)), (2, .int x2), (3, .int x3), (5, .int w22_5), (6, .int w22_6)]) C.1 C.2.1 dX10_writeLine_55 hl (k := 4) rfl e_3.symm (by decide) rfl (fun ls hl => ?_)
            have hl : lv_has ls 7 [(0, .ref (ad 3)), (1, .ref (ad 19)), (2, .int x2), (3, .int x3), (4, .int v_2), (5, .int w22_5), (6, .int w22_6)] := lv_sub hl [1, 2, 3, 4, 0, 5, 6] rfl
            refine lv_goto (tgt := 3) C.1 C.2.1 dX10_writeLine_58 (by decide) ?_
            exact ih_3 t1 d1 v_2 _ _ _ hok hfr hod hle hdf ⟨by omega, by omega⟩ (show (100 : Int) - v_2.toInt < (fuel_3 : Int) from by omega) hP hD hS (lv_sub hl [0, 1, 2, 3, 4] rfl)
          · replace c_1 : w22_6.toInt ≤ 5 := i_nlt c_1
            refine lv_aload_n C.1 C.2.1 dX10_writeLine_28 rfl (lv_at hl 1 rfl) ?_
            refine lv_iconst (v := 5) C.1 C.2.1 dX10_writeLine_29 (by decide) ?_
            refine lv_iload C.1 C.2.1 dX10_writeLine_30 (lv_at hl 4 rfl) ?_
            obtain ⟨v_5, e_6⟩ : ∃ z, z = (5 : Int32) * (w22_4 : Int32) := ⟨_, rfl⟩
            have h_7 : v_5.toInt = 5 * w22_4.toInt := by rw [e_6]; exact ti_mull (k := 5) (by decide) (by omega) (by omega)
            refine k_imul (v := v_5) C e_6.symm dX10_writeLine_32 ?_
            refine lv_iload C.1 C.2.1 dX10_writeLine_33 (lv_at hl 6 rfl) ?_
            obtain ⟨v_8, e_9⟩ : ∃ z, z = (v_5 : Int32) + (w22_6 : Int32) := ⟨_, rfl⟩
            have h_10 : v_8.toInt = v_5.toInt + w22_6.toInt := by rw [e_9]; exact ti_iadd (by show (_ : Int) ≤ v_5.toInt + w22_6.toInt; omega) (by show v_5.toInt + w22_6.toInt < (_ : Int); omega)
            refine k_iadd (v := v_8) C e_9.symm dX10_writeLine_35 ?_
            refine lv_iload C.1 C.2.1 dX10_writeLine_36 (lv_at hl 5 rfl) ?_
            refine lv_iload C.1 C.2.1 dX10_writeLine_38 (lv_at hl 6 rfl) ?_
            refine hz_Si (As := [.int w22_5, .int w22_6]) (rest := [.int v_8, .ref (ad 19)]) C hP hD hS hA (T_X1_byteOf l D K Z Y ad d1 t1 hok (w22_5) (w22_6) (show (1 : Int) ≤ (w22_6 : Int32).toInt ∧ (w22_6 : Int32).toInt ≤ 5 from ⟨by omega, by omega⟩)) hE hZ (uwS m_54_5 m_47_14 m_14_2 m_47_15) (hdS 2 (by decide +kernel) rfl) ⟨Nat.le_of_ble_eq_true rfl, Nat.le_of_ble_eq_true rfl⟩ rfl rfl rfl hl.1 (Nat.le_of_ble_eq_true rfl) dX10_writeLine_40 ⟨Nat.le_trans (newC_le _ _) (Nat.le_of_ble_eq_true rfl), (Nat.le_of_ble_eq_true rfl)⟩ (fun r_12 t_11 H locs hw hP hD hS => ?_)
            obtain ⟨h_14, h_15⟩ := hw
            refine hz_Si (As := [.int r_12]) (rest := [.int v_8, .ref (ad 19)]) C hP hD hS hA (T_X1_written l D K Z Y ad d1 t1 hok (r_12) (show (0 : Int) ≤ (r_12 : Int32).toInt ∧ (r_12 : Int32).toInt ≤ 399 from ⟨by omega, by omega⟩)) hE hZ (uwS m_54_6 m_17_18 m_14_2 m_17_19) (hdS 1 (by decide +kernel) rfl) ⟨Nat.le_of_ble_eq_true rfl, Nat.le_of_ble_eq_true rfl⟩ rfl rfl rfl hl.1 (Nat.le_of_ble_eq_true rfl) dX10_writeLine_43 ⟨Nat.le_trans (newC_le _ _) (Nat.le_of_ble_eq_true rfl), (Nat.le_of_ble_eq_true rfl)⟩ (fun r_17 t_16 H locs hw hP hD hS => ?_)
            obtain ⟨h_19, h_20⟩ := hw
            refine hz_Vv (As := [.int v_8, .int r_17]) (rest := []) C hP hD hS hA (T_X4_mark_1 l D K Z Y ad d1 t1 hok (v_8) (show (1 : Int) ≤ (v_8 : Int32).toInt ∧ (v_8 : Int32).toInt ≤ 2147483647 from ⟨by omega, (i_rng _).2⟩) (r_17) (show (0 : Int) ≤ (r_17 : Int32).toInt ∧ (r_17 : Int32).toInt ≤ 255 from ⟨by omega, by omega⟩)) hE hZ (uwV m_52_13 m_41_0 m_41_1 m_3_20 m_41_2) (hdV 2 (by decide +kernel) rfl) ⟨Nat.le_of_ble_eq_true rfl, Nat.le_of_ble_eq_true rfl⟩ rfl rfl (ci := 3) (q0 := 19) rfl rfl rfl hl.1 (Nat.le_of_ble_eq_true rfl) dX10_writeLine_46 ⟨Nat.le_trans (newC_le _ _) (Nat.le_of_ble_eq_true rfl), (Nat.le_of_ble_eq_true rfl)⟩ (fun t_21 H locs hw hP hD hS => ?_)
            obtain ⟨hok, f_23⟩ := hw
            have hfr : frA [(19, 3)] [] [32, 33, 34] [] t t_21 := frA_tr hfr f_23 rfl
            obtain ⟨v_24, e_25⟩ : ∃ z, z = w22_6 + 1 := ⟨_, rfl⟩
            have h_26 : v_24.toInt = w22_6.toInt + 1 := by rw [e_25]; exact ti_iadd (by show (_ : Int) ≤ w22_6.toInt + 1; omega) (by show w22_6.toInt + 1 < (_ : Int); omega)
            refine lv_iinc (v := v_24) (lv' := [(6, .int v_24), (0, .ref (ad 3)), (1, .ref (ad 19)), (2, .int x2), (3, .int x3), (4, .int w22_4), (5, .int w22_5)]) C.1 C.2.1 dX10_writeLine_49 hl (k := 6) rfl e_25.symm (by decide) rfl (fun ls hl => ?_)
            have hl : lv_has ls 7 [(0, .ref (ad 3)), (1, .ref (ad 19)), (2, .int x2), (3, .int x3), (4, .int w22_4), (5, .int w22_5), (6, .int v_24)] := lv_sub hl [1, 2, 3, 4, 5, 6, 0] rfl
            refine lv_goto (tgt := 22) C.1 C.2.1 dX10_writeLine_52 (by decide) ?_
            exact ih_22 t_21 d1 w22_4 w22_5 v_24 _ _ _ hok hfr hod hle hdf ⟨by omega, by omega⟩ ⟨by omega, by omega⟩ (show (100 : Int) - w22_4.toInt < (fuel_3 : Int) + 1 from by omega) (show (6 : Int) - v_24.toInt < (fuel_22 : Int) from by omega) hP hD hS (lv_sub hl [0, 1, 2, 3, 4, 5, 6] rfl)
      refine lv_iload C.1 C.2.1 dX10_writeLine_3 (lv_at hl 4 rfl) ?_
      refine lv_iload_n C.1 C.2.1 dX10_writeLine_5 rfl (lv_at hl 3 rfl) ?_
      refine lv_icmp_ge (tgt := 61) C.1 C.2.1 dX10_writeLine_6 (by decide) (fun c_27 => ?_) (fun c_27 => ?_)
      · replace c_27 : x3.toInt ≤ w3_4.toInt := i_le c_27
        refine lv_aload_n C.1 C.2.1 dX10_writeLine_61 rfl (lv_at hl 1 rfl) ?_
        refine lv_bipush (v := 120) C.1 C.2.1 dX10_writeLine_62 (by decide) ?_
        refine lv_iconst (v := 0) C.1 C.2.1 dX10_writeLine_64 (by decide) ?_
        refine g_DVv (As := [.int 120, .int 0]) (rest := []) C hP hD hS hA (T_X4_finish_1 l D K Z Y ad d1 t1 hok hod 120 (show (120 : Int) ≤ (120 : Int32).toInt ∧ (120 : Int32).toInt ≤ 120 from ⟨by decide, by decide⟩) 0 (show (0 : Int) ≤ (0 : Int32).toInt ∧ (0 : Int32).toInt ≤ 0 from ⟨by decide, by decide⟩)) hE hZ hX hle hdf (uwV m_52_14 m_41_8 m_41_9 m_3_20 m_41_10) (hdV 2 (by decide +kernel) rfl) ⟨Nat.le_of_ble_eq_true rfl, Nat.le_of_ble_eq_true rfl⟩ rfl rfl (ci := 3) (q0 := 19) rfl rfl rfl hl.1 (Nat.le_of_ble_eq_true rfl) dX10_writeLine_65 ⟨Nat.le_of_ble_eq_true rfl, Nat.le_of_ble_eq_true rfl⟩ (fun t_28 d_30 H locs hw hP hD hS hln hle hdf => ?_)
        obtain ⟨hok, f_31, hod⟩ := hw
        have hfr : frA [(19, 3)] [] [32, 33, 34] [] t t_28 := frA_tr hfr f_31 rfl
        exact g_Dvret C hr hlocks hP hD hS ⟨hok, hfr, hod⟩ hle hdf (Nat.le_of_ble_eq_true rfl) (Nat.le_of_ble_eq_true rfl) dX10_writeLine_68
      · replace c_27 : w3_4.toInt < x3.toInt := i_nle c_27
        refine lv_aload_n C.1 C.2.1 dX10_writeLine_9 rfl (lv_at hl 0 rfl) ?_
        refine lv_iload_n C.1 C.2.1 dX10_writeLine_10 rfl (lv_at hl 2 rfl) ?_
        refine lv_iload C.1 C.2.1 dX10_writeLine_11 (lv_at hl 4 rfl) ?_
        obtain ⟨v_32, e_33⟩ : ∃ z, z = (x2 : Int32) + (w3_4 : Int32) := ⟨_, rfl⟩
        have h_35 := i_rng x2
        have h_34 : v_32.toInt = x2.toInt + w3_4.toInt := by rw [e_33]; exact ti_iadd (by show (_ : Int) ≤ x2.toInt + w3_4.toInt; omega) (by show x2.toInt + w3_4.toInt < (_ : Int); omega)
        refine k_iadd (v := v_32) C e_33.symm dX10_writeLine_13 ?_
        refine hz_Vi (As := [.int v_32]) (rest := []) C hP hD hS hA (T_X10_wordAt l D K Z Y ad d1 t1 hok (v_32)) hE hZ (uwV m_53_13 m_53_14 m_53_15 m_1_20 m_53_16) (hdV 1 (by decide +kernel) rfl) ⟨Nat.le_of_ble_eq_true rfl, Nat.le_of_ble_eq_true rfl⟩ rfl rfl (ci := 9) (q0 := 3) rfl rfl rfl hl.1 (Nat.le_of_ble_eq_true rfl) dX10_writeLine_14 ⟨Nat.le_trans (newC_le _ _) (Nat.le_of_ble_eq_true rfl), (Nat.le_of_ble_eq_true rfl)⟩ (fun r_37 t_36 H locs hw hP hD hS => ?_)
        obtain ⟨h_39, h_40⟩ := hw
        refine lv_istore (lv' := [(5, .int r_37), (0, .ref (ad 3)), (1, .ref (ad 19)), (2, .int x2), (3, .int x3), (4, .int w3_4)]) C.1 C.2.1 dX10_writeLine_17 hl (by decide) rfl (fun ls hl => ?_)
        have hl : lv_has ls 7 [(0, .ref (ad 3)), (1, .ref (ad 19)), (2, .int x2), (3, .int x3), (4, .int w3_4), (5, .int r_37)] := lv_sub hl [1, 2, 3, 4, 5, 0] rfl
        refine lv_iconst (v := 1) C.1 C.2.1 dX10_writeLine_19 (by decide) ?_
        refine lv_istore (lv' := [(6, .int 1), (0, .ref (ad 3)), (1, .ref (ad 19)), (2, .int x2), (3, .int x3), (4, .int w3_4), (5, .int r_37)]) C.1 C.2.1 dX10_writeLine_20 hl (by decide) rfl (fun ls hl => ?_)
        have hl : lv_has ls 7 [(0, .ref (ad 3)), (1, .ref (ad 19)), (2, .int x2), (3, .int x3), (4, .int w3_4), (5, .int r_37), (6, .int 1)] := lv_sub hl [1, 2, 3, 4, 5, 6, 0] rfl
        exact L_22 6 t1 d1 w3_4 r_37 1 _ _ _ hok hfr hod hle hdf ⟨by omega, by omega⟩ ⟨by decide, by decide⟩ (show (100 : Int) - w3_4.toInt < (fuel_3 : Int) + 1 from by omega) (show (6 : Int) - 1 < ((6 : Nat) : Int) from by omega) hP hD hS (lv_sub hl [0, 1, 2, 3, 4, 5, 6] rfl)
  refine lv_iconst (v := 0) C.1 C.2.1 dX10_writeLine_0 (by decide) ?_
  refine lv_istore (lv' := [(4, .int 0), (0, .ref (ad 3)), (1, .ref (ad 19)), (2, .int x2), (3, .int x3)]) C.1 C.2.1 dX10_writeLine_1 hl (by decide) rfl (fun ls hl => ?_)
  have hl : lv_has ls 7 [(0, .ref (ad 3)), (1, .ref (ad 19)), (2, .int x2), (3, .int x3), (4, .int 0)] := lv_sub hl [1, 2, 3, 4, 0] rfl
  exact L_3 101 t d 0 _ _ _ hok hfr hod hle hdf ⟨by decide, by decide⟩ (show (100 : Int) - 0 < ((101 : Nat) : Int) from by omega) hP hD hS (lv_sub hl [0, 1, 2, 3, 4] rfl)


set_option maxHeartbeats 4000000 in
set_option maxRecDepth 100000 in
theorem T_X10_writeLine_1 (l : Launch) (D : va_G) (K : Nat → ClassId) (Z Y : Nat → Nat) (ad : Nat → Nat) (d : dSt) (t : tSt) (hok : okX t) (hod : okD d) (x2 : Int32) (hx2 : (-2147483648 : Int) ≤ x2.toInt ∧ x2.toInt ≤ 1073745919) (x3 : Int32) (hx3 : (1 : Int) ≤ x3.toInt ∧ x3.toInt ≤ 100) : dMet l yX10_writeLine cX10_writeLine 7 none (rmD 5 6000 1680000) D K Z Y [.ref (ad 3), .ref (ad 20), .int x2, .int x3] ((WX d) K ad t) (QDV D K ad d (fun (u : tSt) (dd : dSt) => okX u ∧ frA [(20, 3)] [] [35, 36, 37] [] t u ∧ okD dd)) 6000 1680000 := by
  refine d_met d RX10 ⟨rfl, by decide +kernel⟩ (Nat.le_of_ble_eq_true rfl) ?_
  intro p e s m below meth c A ls C hE hZ hX hr hlocks hA hP hD hS hl
  have hl : lv_has ls 7 [(0, .ref (ad 3)), (1, .ref (ad 20)), (2, .int x2), (3, .int x3)] := hl
  have hle : dLe d d := dLe_rf
  have hdf : dFr s.heap.size d d := dFr_rf
  have hokt := hok
  have hfr : frA [(20, 3)] [] [35, 36, 37] [] t t := frA_rf
  have L_3 : ∀ (fuel_3 : Nat) (t1 : tSt) (d1 : dSt) (w3_4 : Int32) (H : Heap) (locs : List Loc) (ls : Array Slot), okX t1 → frA [(20, 3)] [] [35, 36, 37] [] t t1 → okD d1 → dLe d d1 → dFr s.heap.size d d1 → (0 : Int) ≤ w3_4.toInt ∧ w3_4.toInt ≤ 100 → (100 : Int) - w3_4.toInt < (fuel_3 : Int) → va_P D vwCl ((WX d1) K ad t1) H → va_D A ((WX d1) K ad t1) → va_S A s.heap H locs → lv_has ls 7 [(0, .ref (ad 3)), (1, .ref (ad 20)), (2, .int x2), (3, .int x3), (4, .int w3_4)] → W p l e (rmD 5 6000 1680000) s m [.ref (ad 3), .ref (ad 20), .int x2, .int x3].toArray below meth c H locs (newC d d1) 246800 (MQ below (QDV D K ad d (fun (u : tSt) (dd : dSt) => okX u ∧ frA [(20, 3)] [] [35, 36, 37] [] t u ∧ okD dd) s.heap.size A) [.ref (ad 3), .ref (ad 20), .int x2, .int x3].toArray s 6000 1680000 A) (F0 m 3 ls []) := by
    intro fuel_3
    induction fuel_3 with
    | zero =>
      intro t1 d1 w3_4 H locs ls hok hfr hod hle hdf hw3_4 hm3_3 hP hD hS hl
      exact absurd hm3_3 (by omega)
    | succ fuel_3 ih_3 =>
      intro t1 d1 w3_4 H locs ls hok hfr hod hle hdf hw3_4 hm3_3 hP hD hS hl
      have hm3_3 : (100 : Int) - w3_4.toInt < (fuel_3 : Int) + 1 := by omega
      have L_22 : ∀ (fuel_22 : Nat) (t1 : tSt) (d1 : dSt) (w22_4 : Int32) (w22_5 : Int32) (w22_6 : Int32) (H : Heap) (locs : List Loc) (ls : Array Slot), okX t1 → frA [(20, 3)] [] [35, 36, 37] [] t t1 → okD d1 → dLe d d1 → dFr s.heap.size d d1 → (0 : Int) ≤ w22_4.toInt ∧ w22_4.toInt ≤ 99 → (1 : Int) ≤ w22_6.toInt ∧ w22_6.toInt ≤ 6 → (100 : Int) - w22_4.toInt < (fuel_3 : Int) + 1 → (6 : Int) - w22_6.toInt < (fuel_22 : Int) → va_P D vwCl ((WX d1) K ad t1) H → va_D A ((WX d1) K ad t1) → va_S A s.heap H locs → lv_has ls 7 [(0, .ref (ad 3)), (1, .ref (ad 20)), (2, .int x2), (3, .int x3), (4, .int w22_4), (5, .int w22_5), (6, .int w22_6)] → W p l e (rmD 5 6000 1680000) s m [.ref (ad 3), .ref (ad 20), .int x2, .int x3].toArray below meth c H locs (newC d d1) 246800 (MQ below (QDV D K ad d (fun (u : tSt) (dd : dSt) => okX u ∧ frA [(20, 3)] [] [35, 36, 37] [] t u ∧ okD dd) s.heap.size A) [.ref (ad 3), .ref (ad 20), .int x2, .int x3].toArray s 6000 1680000 A) (F0 m 22 ls []) := by
        intro fuel_22
        induction fuel_22 with
        | zero =>
          intro t1 d1 w22_4 w22_5 w22_6 H locs ls hok hfr hod hle hdf hw22_4 hw22_6 hm22_3 hm22_22 hP hD hS hl
          exact absurd hm22_22 (by omega)
        | succ fuel_22 ih_22 =>
          intro t1 d1 w22_4 w22_5 w22_6 H locs ls hok hfr hod hle hdf hw22_4 hw22_6 hm22_3 hm22_22 hP hD hS hl
          have hm22_22 : (6 : Int) - w22_6.toInt < (fuel_22 : Int) + 1 := by omega
          refine lv_iload C.1 C.2.1 dX10_writeLine_22 (lv_at hl 6 rfl) ?_
          refine lv_iconst (v := 5) C.1 C.2.1 dX10_writeLine_24 (by decide) ?_
          refine lv_icmp_gt (tgt := 55) C.1 C.2.1 dX10_writeLine_25 (by decide) (fun c_1 => ?_) (fun c_1 => ?_)
          · replace c_1 : 5 < w22_6.toInt := i_lt c_1
            obtain ⟨v_2, e_3⟩ : ∃ z, z = w22_4 + 1 := ⟨_, rfl⟩
            have h_4 : v_2.toInt = w22_4.toInt + 1 := by rw [e_3]; exact ti_iadd (by show (_ : Int) ≤ w22_4.toInt + 1; omega) (by show w22_4.toInt + 1 < (_ : Int); omega)
            refine lv_iinc (v := v_2) (lv' := [(4, .int v_2), (0, .ref (ad 3)), (1, .ref (ad 20)), (2, .int x2), (3, .int x3), (5, .int w22_5), (6, .int w22_6)]) C.1 C.2.1 dX10_writeLine_55 hl (k := 4) rfl e_3.symm (by decide) rfl (fun ls hl => ?_)
            have hl : lv_has ls 7 [(0, .ref (ad 3)), (1, .ref (ad 20)), (2, .int x2), (3, .int x3), (4, .int v_2), (5, .int w22_5), (6, .int w22_6)] := lv_sub hl [1, 2, 3, 4, 0, 5, 6] rfl
            refine lv_goto (tgt := 3) C.1 C.2.1 dX10_writeLine_58 (by decide) ?_
            exact ih_3 t1 d1 v_2 _ _ _ hok hfr hod hle hdf ⟨by omega, by omega⟩ (show (100 : Int) - v_2.toInt < (fuel_3 : Int) from by omega) hP hD hS (lv_sub hl [0, 1, 2, 3, 4] rfl)
          · replace c_1 : w22_6.toInt ≤ 5 := i_nlt c_1
            refine lv_aload_n C.1 C.2.1 dX10_writeLine_28 rfl (lv_at hl 1 rfl) ?_
            refine lv_iconst (v := 5) C.1 C.2.1 dX10_writeLine_29 (by decide) ?_
            refine lv_iload C.1 C.2.1 dX10_writeLine_30 (lv_at hl 4 rfl) ?_
            obtain ⟨v_5, e_6⟩ : ∃ z, z = (5 : Int32) * (w22_4 : Int32) := ⟨_, rfl⟩
            have h_7 : v_5.toInt = 5 * w22_4.toInt := by rw [e_6]; exact ti_mull (k := 5) (by decide) (by omega) (by omega)
            refine k_imul (v := v_5) C e_6.symm dX10_writeLine_32 ?_
            refine lv_iload C.1 C.2.1 dX10_writeLine_33 (lv_at hl 6 rfl) ?_
            obtain ⟨v_8, e_9⟩ : ∃ z, z = (v_5 : Int32) + (w22_6 : Int32) := ⟨_, rfl⟩
            have h_10 : v_8.toInt = v_5.toInt + w22_6.toInt := by rw [e_9]; exact ti_iadd (by show (_ : Int) ≤ v_5.toInt + w22_6.toInt; omega) (by show v_5.toInt + w22_6.toInt < (_ : Int); omega)
            refine k_iadd (v := v_8) C e_9.symm dX10_writeLine_35 ?_
            refine lv_iload C.1 C.2.1 dX10_writeLine_36 (lv_at hl 5 rfl) ?_
            refine lv_iload C.1 C.2.1 dX10_writeLine_38 (lv_at hl 6 rfl) ?_
            refine hz_Si (As := [.int w22_5, .int w22_6]) (rest := [.int v_8, .ref (ad 20)]) C hP hD hS hA (T_X1_byteOf l D K Z Y ad d1 t1 hok (w22_5) (w22_6) (show (1 : Int) ≤ (w22_6 : Int32).toInt ∧ (w22_6 : Int32).toInt ≤ 5 from ⟨by omega, by omega⟩)) hE hZ (uwS m_54_5 m_47_14 m_14_2 m_47_15) (hdS 2 (by decide +kernel) rfl) ⟨Nat.le_of_ble_eq_true rfl, Nat.le_of_ble_eq_true rfl⟩ rfl rfl rfl hl.1 (Nat.le_of_ble_eq_true rfl) dX10_writeLine_40 ⟨Nat.le_trans (newC_le _ _) (Nat.le_of_ble_eq_true rfl), (Nat.le_of_ble_eq_true rfl)⟩ (fun r_12 t_11 H locs hw hP hD hS => ?_)
            obtain ⟨h_14, h_15⟩ := hw
            refine hz_Si (As := [.int r_12]) (rest := [.int v_8, .ref (ad 20)]) C hP hD hS hA (T_X1_written l D K Z Y ad d1 t1 hok (r_12) (show (0 : Int) ≤ (r_12 : Int32).toInt ∧ (r_12 : Int32).toInt ≤ 399 from ⟨by omega, by omega⟩)) hE hZ (uwS m_54_6 m_17_18 m_14_2 m_17_19) (hdS 1 (by decide +kernel) rfl) ⟨Nat.le_of_ble_eq_true rfl, Nat.le_of_ble_eq_true rfl⟩ rfl rfl rfl hl.1 (Nat.le_of_ble_eq_true rfl) dX10_writeLine_43 ⟨Nat.le_trans (newC_le _ _) (Nat.le_of_ble_eq_true rfl), (Nat.le_of_ble_eq_true rfl)⟩ (fun r_17 t_16 H locs hw hP hD hS => ?_)
            obtain ⟨h_19, h_20⟩ := hw
            refine hz_Vv (As := [.int v_8, .int r_17]) (rest := []) C hP hD hS hA (T_X4_mark l D K Z Y ad d1 t1 hok (v_8) (r_17) (show (-128 : Int) ≤ (r_17 : Int32).toInt ∧ (r_17 : Int32).toInt ≤ 255 from ⟨by omega, by omega⟩)) hE hZ (uwV m_52_13 m_41_0 m_41_1 m_3_20 m_41_2) (hdV 2 (by decide +kernel) rfl) ⟨Nat.le_of_ble_eq_true rfl, Nat.le_of_ble_eq_true rfl⟩ rfl rfl (ci := 3) (q0 := 20) rfl rfl rfl hl.1 (Nat.le_of_ble_eq_true rfl) dX10_writeLine_46 ⟨Nat.le_trans (newC_le _ _) (Nat.le_of_ble_eq_true rfl), (Nat.le_of_ble_eq_true rfl)⟩ (fun t_21 H locs hw hP hD hS => ?_)
            obtain ⟨hok, f_23⟩ := hw
            have hfr : frA [(20, 3)] [] [35, 36, 37] [] t t_21 := frA_tr hfr f_23 rfl
            obtain ⟨v_24, e_25⟩ : ∃ z, z = w22_6 + 1 := ⟨_, rfl⟩
            have h_26 : v_24.toInt = w22_6.toInt + 1 := by rw [e_25]; exact ti_iadd (by show (_ : Int) ≤ w22_6.toInt + 1; omega) (by show w22_6.toInt + 1 < (_ : Int); omega)
            refine lv_iinc (v := v_24) (lv' := [(6, .int v_24), (0, .ref (ad 3)), (1, .ref (ad 20)), (2, .int x2), (3, .int x3), (4, .int w22_4), (5, .int w22_5)]) C.1 C.2.1 dX10_writeLine_49 hl (k := 6) rfl e_25.symm (by decide) rfl (fun ls hl => ?_)
            have hl : lv_has ls 7 [(0, .ref (ad 3)), (1, .ref (ad 20)), (2, .int x2), (3, .int x3), (4, .int w22_4), (5, .int w22_5), (6, .int v_24)] := lv_sub hl [1, 2, 3, 4, 5, 6, 0] rfl
            refine lv_goto (tgt := 22) C.1 C.2.1 dX10_writeLine_52 (by decide) ?_
            exact ih_22 t_21 d1 w22_4 w22_5 v_24 _ _ _ hok hfr hod hle hdf ⟨by omega, by omega⟩ ⟨by omega, by omega⟩ (show (100 : Int) - w22_4.toInt < (fuel_3 : Int) + 1 from by omega) (show (6 : Int) - v_24.toInt < (fuel_22 : Int) from by omega) hP hD hS (lv_sub hl [0, 1, 2, 3, 4, 5, 6] rfl)
      refine lv_iload C.1 C.2.1 dX10_writeLine_3 (lv_at hl 4 rfl) ?_
      refine lv_iload_n C.1 C.2.1 dX10_writeLine_5 rfl (lv_at hl 3 rfl) ?_
      refine lv_icmp_ge (tgt := 61) C.1 C.2.1 dX10_writeLine_6 (by decide) (fun c_27 => ?_) (fun c_27 => ?_)
      · replace c_27 : x3.toInt ≤ w3_4.toInt := i_le c_27
        refine lv_aload_n C.1 C.2.1 dX10_writeLine_61 rfl (lv_at hl 1 rfl) ?_
        refine lv_bipush (v := 120) C.1 C.2.1 dX10_writeLine_62 (by decide) ?_
        refine lv_iconst (v := 0) C.1 C.2.1 dX10_writeLine_64 (by decide) ?_
        refine g_DVv (As := [.int 120, .int 0]) (rest := []) C hP hD hS hA (T_X4_finish l D K Z Y ad d1 t1 hok hod 120 (show (72 : Int) ≤ (120 : Int32).toInt ∧ (120 : Int32).toInt ≤ 120 from ⟨by decide, by decide⟩) 0 (show (0 : Int) ≤ (0 : Int32).toInt ∧ (0 : Int32).toInt ≤ 1 from ⟨by decide, by decide⟩)) hE hZ hX hle hdf (uwV m_52_14 m_41_8 m_41_9 m_3_20 m_41_10) (hdV 2 (by decide +kernel) rfl) ⟨Nat.le_of_ble_eq_true rfl, Nat.le_of_ble_eq_true rfl⟩ rfl rfl (ci := 3) (q0 := 20) rfl rfl rfl hl.1 (Nat.le_of_ble_eq_true rfl) dX10_writeLine_65 ⟨Nat.le_of_ble_eq_true rfl, Nat.le_of_ble_eq_true rfl⟩ (fun t_28 d_30 H locs hw hP hD hS hln hle hdf => ?_)
        obtain ⟨hok, f_31, hod⟩ := hw
        have hfr : frA [(20, 3)] [] [35, 36, 37] [] t t_28 := frA_tr hfr f_31 rfl
        exact g_Dvret C hr hlocks hP hD hS ⟨hok, hfr, hod⟩ hle hdf (Nat.le_of_ble_eq_true rfl) (Nat.le_of_ble_eq_true rfl) dX10_writeLine_68
      · replace c_27 : w3_4.toInt < x3.toInt := i_nle c_27
        refine lv_aload_n C.1 C.2.1 dX10_writeLine_9 rfl (lv_at hl 0 rfl) ?_
        refine lv_iload_n C.1 C.2.1 dX10_writeLine_10 rfl (lv_at hl 2 rfl) ?_
        refine lv_iload C.1 C.2.1 dX10_writeLine_11 (lv_at hl 4 rfl) ?_
        obtain ⟨v_32, e_33⟩ : ∃ z, z = (x2 : Int32) + (w3_4 : Int32) := ⟨_, rfl⟩
        have h_35 := i_rng x2
        have h_34 : v_32.toInt = x2.toInt + w3_4.toInt := by rw [e_33]; exact ti_iadd (by show (_ : Int) ≤ x2.toInt + w3_4.toInt; omega) (by show x2.toInt + w3_4.toInt < (_ : Int); omega)
        refine k_iadd (v := v_32) C e_33.symm dX10_writeLine_13 ?_
        refine hz_Vi (As := [.int v_32]) (rest := []) C hP hD hS hA (T_X10_wordAt l D K Z Y ad d1 t1 hok (v_32)) hE hZ (uwV m_53_13 m_53_14 m_53_15 m_1_20 m_53_16) (hdV 1 (by decide +kernel) rfl) ⟨Nat.le_of_ble_eq_true rfl, Nat.le_of_ble_eq_true rfl⟩ rfl rfl (ci := 9) (q0 := 3) rfl rfl rfl hl.1 (Nat.le_of_ble_eq_true rfl) dX10_writeLine_14 ⟨Nat.le_trans (newC_le _ _) (Nat.le_of_ble_eq_true rfl), (Nat.le_of_ble_eq_true rfl)⟩ (fun r_37 t_36 H locs hw hP hD hS => ?_)
        obtain ⟨h_39, h_40⟩ := hw
        refine lv_istore (lv' := [(5, .int r_37), (0, .ref (ad 3)), (1, .ref (ad 20)), (2, .int x2), (3, .int x3), (4, .int w3_4)]) C.1 C.2.1 dX10_writeLine_17 hl (by decide) rfl (fun ls hl => ?_)
        have hl : lv_has ls 7 [(0, .ref (ad 3)), (1, .ref (ad 20)), (2, .int x2), (3, .int x3), (4, .int w3_4), (5, .int r_37)] := lv_sub hl [1, 2, 3, 4, 5, 0] rfl
        refine lv_iconst (v := 1) C.1 C.2.1 dX10_writeLine_19 (by decide) ?_
        refine lv_istore (lv' := [(6, .int 1), (0, .ref (ad 3)), (1, .ref (ad 20)), (2, .int x2), (3, .int x3), (4, .int w3_4), (5, .int r_37)]) C.1 C.2.1 dX10_writeLine_20 hl (by decide) rfl (fun ls hl => ?_)
        have hl : lv_has ls 7 [(0, .ref (ad 3)), (1, .ref (ad 20)), (2, .int x2), (3, .int x3), (4, .int w3_4), (5, .int r_37), (6, .int 1)] := lv_sub hl [1, 2, 3, 4, 5, 6, 0] rfl
        exact L_22 6 t1 d1 w3_4 r_37 1 _ _ _ hok hfr hod hle hdf ⟨by omega, by omega⟩ ⟨by decide, by decide⟩ (show (100 : Int) - w3_4.toInt < (fuel_3 : Int) + 1 from by omega) (show (6 : Int) - 1 < ((6 : Nat) : Int) from by omega) hP hD hS (lv_sub hl [0, 1, 2, 3, 4, 5, 6] rfl)
  refine lv_iconst (v := 0) C.1 C.2.1 dX10_writeLine_0 (by decide) ?_
  refine lv_istore (lv' := [(4, .int 0), (0, .ref (ad 3)), (1, .ref (ad 20)), (2, .int x2), (3, .int x3)]) C.1 C.2.1 dX10_writeLine_1 hl (by decide) rfl (fun ls hl => ?_)
  have hl : lv_has ls 7 [(0, .ref (ad 3)), (1, .ref (ad 20)), (2, .int x2), (3, .int x3), (4, .int 0)] := lv_sub hl [1, 2, 3, 4, 0] rfl
  exact L_3 101 t d 0 _ _ _ hok hfr hod hle hdf ⟨by decide, by decide⟩ (show (100 : Int) - 0 < ((101 : Nat) : Int) from by omega) hP hD hS (lv_sub hl [0, 1, 2, 3, 4] rfl)

theorem dX7_printTrace_0 : decode cX7_printTrace 0 = .ok (.aload_n 0, 1) := by decide +kernel
theorem dX7_printTrace_1 : decode cX7_printTrace 1 = .ok (.getfield 25, 3) := by decide +kernel
theorem dX7_printTrace_10 : decode cX7_printTrace 10 = .ok (.getfield 160, 3) := by decide +kernel
theorem dX7_printTrace_101 : decode cX7_printTrace 101 = .ok (.getfield 169, 3) := by decide +kernel
theorem dX7_printTrace_104 : decode cX7_printTrace 104 = .ok (.ifCond .eq 7, 3) := by decide +kernel
theorem dX7_printTrace_107 : decode cX7_printTrace 107 = .ok (.lconst 1, 1) := by decide +kernel
theorem dX7_printTrace_108 : decode cX7_printTrace 108 = .ok (.goto 4, 3) := by decide +kernel
theorem dX7_printTrace_111 : decode cX7_printTrace 111 = .ok (.lconst 0, 1) := by decide +kernel
theorem dX7_printTrace_112 : decode cX7_printTrace 112 = .ok (.invokevirtual 42, 3) := by decide +kernel
theorem dX7_printTrace_115 : decode cX7_printTrace 115 = .ok (.aload_n 0, 1) := by decide +kernel
theorem dX7_printTrace_116 : decode cX7_printTrace 116 = .ok (.getfield 25, 3) := by decide +kernel
theorem dX7_printTrace_119 : decode cX7_printTrace 119 = .ok (.bipush 53, 2) := by decide +kernel
theorem dX7_printTrace_121 : decode cX7_printTrace 121 = .ok (.aload_n 0, 1) := by decide +kernel
theorem dX7_printTrace_122 : decode cX7_printTrace 122 = .ok (.getfield 9, 3) := by decide +kernel
theorem dX7_printTrace_125 : decode cX7_printTrace 125 = .ok (.getfield 173, 3) := by decide +kernel
theorem dX7_printTrace_128 : decode cX7_printTrace 128 = .ok (.ifCond .ge 8, 3) := by decide +kernel
theorem dX7_printTrace_13 : decode cX7_printTrace 13 = .ok (.i2l, 1) := by decide +kernel
theorem dX7_printTrace_131 : decode cX7_printTrace 131 = .ok (.bipush 76, 2) := by decide +kernel
theorem dX7_printTrace_133 : decode cX7_printTrace 133 = .ok (.goto 20, 3) := by decide +kernel
theorem dX7_printTrace_136 : decode cX7_printTrace 136 = .ok (.aload_n 0, 1) := by decide +kernel
theorem dX7_printTrace_137 : decode cX7_printTrace 137 = .ok (.getfield 9, 3) := by decide +kernel
theorem dX7_printTrace_14 : decode cX7_printTrace 14 = .ok (.invokestatic 112, 3) := by decide +kernel
theorem dX7_printTrace_140 : decode cX7_printTrace 140 = .ok (.getfield 173, 3) := by decide +kernel
theorem dX7_printTrace_143 : decode cX7_printTrace 143 = .ok (.ifCond .ne 8, 3) := by decide +kernel
theorem dX7_printTrace_146 : decode cX7_printTrace 146 = .ok (.bipush 69, 2) := by decide +kernel
theorem dX7_printTrace_148 : decode cX7_printTrace 148 = .ok (.goto 5, 3) := by decide +kernel
theorem dX7_printTrace_151 : decode cX7_printTrace 151 = .ok (.bipush 71, 2) := by decide +kernel
theorem dX7_printTrace_153 : decode cX7_printTrace 153 = .ok (.invokevirtual 74, 3) := by decide +kernel
theorem dX7_printTrace_156 : decode cX7_printTrace 156 = .ok (.aload_n 0, 1) := by decide +kernel
theorem dX7_printTrace_157 : decode cX7_printTrace 157 = .ok (.getfield 25, 3) := by decide +kernel
theorem dX7_printTrace_160 : decode cX7_printTrace 160 = .ok (.bipush 55, 2) := by decide +kernel
theorem dX7_printTrace_162 : decode cX7_printTrace 162 = .ok (.bipush 9, 2) := by decide +kernel
theorem dX7_printTrace_164 : decode cX7_printTrace 164 = .ok (.aload_n 0, 1) := by decide +kernel
theorem dX7_printTrace_165 : decode cX7_printTrace 165 = .ok (.getfield 9, 3) := by decide +kernel
theorem dX7_printTrace_168 : decode cX7_printTrace 168 = .ok (.getfield 176, 3) := by decide +kernel
theorem dX7_printTrace_17 : decode cX7_printTrace 17 = .ok (.invokevirtual 83, 3) := by decide +kernel
theorem dX7_printTrace_171 : decode cX7_printTrace 171 = .ok (.invokevirtual 42, 3) := by decide +kernel
theorem dX7_printTrace_174 : decode cX7_printTrace 174 = .ok (.aload_n 0, 1) := by decide +kernel
theorem dX7_printTrace_175 : decode cX7_printTrace 175 = .ok (.getfield 25, 3) := by decide +kernel
theorem dX7_printTrace_178 : decode cX7_printTrace 178 = .ok (.bipush 120, 2) := by decide +kernel
theorem dX7_printTrace_180 : decode cX7_printTrace 180 = .ok (.iconst 0, 1) := by decide +kernel
theorem dX7_printTrace_181 : decode cX7_printTrace 181 = .ok (.invokevirtual 56, 3) := by decide +kernel
theorem dX7_printTrace_184 : decode cX7_printTrace 184 = .ok (.return_, 1) := by decide +kernel
theorem dX7_printTrace_20 : decode cX7_printTrace 20 = .ok (.aload_n 0, 1) := by decide +kernel
theorem dX7_printTrace_21 : decode cX7_printTrace 21 = .ok (.bipush 7, 2) := by decide +kernel
theorem dX7_printTrace_23 : decode cX7_printTrace 23 = .ok (.aload_n 0, 1) := by decide +kernel
theorem dX7_printTrace_24 : decode cX7_printTrace 24 = .ok (.getfield 9, 3) := by decide +kernel
theorem dX7_printTrace_27 : decode cX7_printTrace 27 = .ok (.getfield 163, 3) := by decide +kernel
theorem dX7_printTrace_30 : decode cX7_printTrace 30 = .ok (.invokevirtual 77, 3) := by decide +kernel
theorem dX7_printTrace_33 : decode cX7_printTrace 33 = .ok (.aload_n 0, 1) := by decide +kernel
theorem dX7_printTrace_34 : decode cX7_printTrace 34 = .ok (.getfield 25, 3) := by decide +kernel
theorem dX7_printTrace_37 : decode cX7_printTrace 37 = .ok (.bipush 22, 2) := by decide +kernel
theorem dX7_printTrace_39 : decode cX7_printTrace 39 = .ok (.aload_n 0, 1) := by decide +kernel
theorem dX7_printTrace_4 : decode cX7_printTrace 4 = .ok (.iconst 1, 1) := by decide +kernel
theorem dX7_printTrace_40 : decode cX7_printTrace 40 = .ok (.getfield 9, 3) := by decide +kernel
theorem dX7_printTrace_43 : decode cX7_printTrace 43 = .ok (.getfield 163, 3) := by decide +kernel
theorem dX7_printTrace_46 : decode cX7_printTrace 46 = .ok (.invokevirtual 80, 3) := by decide +kernel
theorem dX7_printTrace_49 : decode cX7_printTrace 49 = .ok (.aload_n 0, 1) := by decide +kernel
theorem dX7_printTrace_5 : decode cX7_printTrace 5 = .ok (.iconst 4, 1) := by decide +kernel
theorem dX7_printTrace_50 : decode cX7_printTrace 50 = .ok (.getfield 25, 3) := by decide +kernel
theorem dX7_printTrace_53 : decode cX7_printTrace 53 = .ok (.bipush 27, 2) := by decide +kernel
theorem dX7_printTrace_55 : decode cX7_printTrace 55 = .ok (.bipush 10, 2) := by decide +kernel
theorem dX7_printTrace_57 : decode cX7_printTrace 57 = .ok (.aload_n 0, 1) := by decide +kernel
theorem dX7_printTrace_58 : decode cX7_printTrace 58 = .ok (.getfield 9, 3) := by decide +kernel
theorem dX7_printTrace_6 : decode cX7_printTrace 6 = .ok (.aload_n 0, 1) := by decide +kernel
theorem dX7_printTrace_61 : decode cX7_printTrace 61 = .ok (.getfield 166, 3) := by decide +kernel
theorem dX7_printTrace_64 : decode cX7_printTrace 64 = .ok (.iconst 0, 1) := by decide +kernel
theorem dX7_printTrace_65 : decode cX7_printTrace 65 = .ok (.iaload, 1) := by decide +kernel
theorem dX7_printTrace_66 : decode cX7_printTrace 66 = .ok (.invokevirtual 83, 3) := by decide +kernel
theorem dX7_printTrace_69 : decode cX7_printTrace 69 = .ok (.aload_n 0, 1) := by decide +kernel
theorem dX7_printTrace_7 : decode cX7_printTrace 7 = .ok (.getfield 9, 3) := by decide +kernel
theorem dX7_printTrace_70 : decode cX7_printTrace 70 = .ok (.getfield 25, 3) := by decide +kernel
theorem dX7_printTrace_73 : decode cX7_printTrace 73 = .ok (.bipush 39, 2) := by decide +kernel
theorem dX7_printTrace_75 : decode cX7_printTrace 75 = .ok (.bipush 10, 2) := by decide +kernel
theorem dX7_printTrace_77 : decode cX7_printTrace 77 = .ok (.aload_n 0, 1) := by decide +kernel
theorem dX7_printTrace_78 : decode cX7_printTrace 78 = .ok (.getfield 9, 3) := by decide +kernel
theorem dX7_printTrace_81 : decode cX7_printTrace 81 = .ok (.getfield 166, 3) := by decide +kernel
theorem dX7_printTrace_84 : decode cX7_printTrace 84 = .ok (.bipush 7, 2) := by decide +kernel
theorem dX7_printTrace_86 : decode cX7_printTrace 86 = .ok (.iaload, 1) := by decide +kernel
theorem dX7_printTrace_87 : decode cX7_printTrace 87 = .ok (.invokevirtual 83, 3) := by decide +kernel
theorem dX7_printTrace_90 : decode cX7_printTrace 90 = .ok (.aload_n 0, 1) := by decide +kernel
theorem dX7_printTrace_91 : decode cX7_printTrace 91 = .ok (.getfield 25, 3) := by decide +kernel
theorem dX7_printTrace_94 : decode cX7_printTrace 94 = .ok (.bipush 51, 2) := by decide +kernel
theorem dX7_printTrace_96 : decode cX7_printTrace 96 = .ok (.iconst 1, 1) := by decide +kernel
theorem dX7_printTrace_97 : decode cX7_printTrace 97 = .ok (.aload_n 0, 1) := by decide +kernel
theorem dX7_printTrace_98 : decode cX7_printTrace 98 = .ok (.getfield 9, 3) := by decide +kernel
set_option maxHeartbeats 4000000 in
set_option maxRecDepth 100000 in
theorem T_X7_printTrace (l : Launch) (D : va_G) (K : Nat → ClassId) (Z Y : Nat → Nat) (ad : Nat → Nat) (d : dSt) (t : tSt) (hok : okX t) (hod : okD d)  : dMet l yX7_printTrace cX7_printTrace 1 none (rmD 7 8000 2240000) D K Z Y [.ref (ad 6)] ((WX d) K ad t) (QDV D K ad d (fun (u : tSt) (dd : dSt) => okX u ∧ frA [(20, 3)] [] [35, 36, 37] [] t u ∧ okD dd)) 8000 2240000 := by
  refine d_met d RX7 ⟨rfl, by decide +kernel⟩ (Nat.le_of_ble_eq_true rfl) ?_
  intro p e s m below meth c A ls C hE hZ hX hr hlocks hA hP hD hS hl
  have hl : lv_has ls 1 [(0, .ref (ad 6))] := hl
  have hle : dLe d d := dLe_rf
  have hdf : dFr s.heap.size d d := dFr_rf
  have hokt := hok
  have hfr : frA [(20, 3)] [] [35, 36, 37] [] t t := frA_rf
  have L_153 : ∀ (t1 : tSt) (d1 : dSt) (k153_1 : Int32) (k153_2 : Int32) (H : Heap) (locs : List Loc) (ls : Array Slot), okX t1 → frA [(20, 3)] [] [35, 36, 37] [] t t1 → okD d1 → dLe d d1 → dFr s.heap.size d d1 → (53 : Int) ≤ k153_1.toInt ∧ k153_1.toInt ≤ 53 → (69 : Int) ≤ k153_2.toInt ∧ k153_2.toInt ≤ 76 → va_P D vwCl ((WX d1) K ad t1) H → va_D A ((WX d1) K ad t1) → va_S A s.heap H locs → lv_has ls 1 [(0, .ref (ad 6))] → W p l e (rmD 7 8000 2240000) s m [.ref (ad 6)].toArray below meth c H locs (newC d d1) 246800 (MQ below (QDV D K ad d (fun (u : tSt) (dd : dSt) => okX u ∧ frA [(20, 3)] [] [35, 36, 37] [] t u ∧ okD dd) s.heap.size A) [.ref (ad 6)].toArray s 8000 2240000 A) (F0 m 153 ls [.int k153_2, .int k153_1, .ref (ad 20)]) := by
    intro t1 d1 k153_1 k153_2 H locs ls hok hfr hod hle hdf hk153_1 hk153_2 hP hD hS hl
    refine hz_Vv (As := [.int k153_1, .int k153_2]) (rest := []) C hP hD hS hA (T_X4_mark l D K Z Y ad d1 t1 hok (k153_1) (k153_2) (show (-128 : Int) ≤ (k153_2 : Int32).toInt ∧ (k153_2 : Int32).toInt ≤ 255 from ⟨by omega, by omega⟩)) hE hZ (uwV m_56_4 m_41_0 m_41_1 m_3_20 m_41_2) (hdV 2 (by decide +kernel) rfl) ⟨Nat.le_of_ble_eq_true rfl, Nat.le_of_ble_eq_true rfl⟩ rfl rfl (ci := 3) (q0 := 20) rfl rfl rfl hl.1 (Nat.le_of_ble_eq_true rfl) dX7_printTrace_153 ⟨Nat.le_trans (newC_le _ _) (Nat.le_of_ble_eq_true rfl), (Nat.le_of_ble_eq_true rfl)⟩ (fun t_1 H locs hw hP hD hS => ?_)
    obtain ⟨hok, f_3⟩ := hw
    have hfr : frA [(20, 3)] [] [35, 36, 37] [] t t_1 := frA_tr hfr f_3 rfl
    refine lv_aload_n C.1 C.2.1 dX7_printTrace_156 rfl (lv_at hl 0 rfl) ?_
    refine k_get (v := .ref (ad 20)) C hP 6 rfl rfl inlX7 2 (by decide) m_6_14 rfl dX7_printTrace_157 ?_
    refine lv_bipush (v := 55) C.1 C.2.1 dX7_printTrace_160 (by decide) ?_
    refine lv_bipush (v := 9) C.1 C.2.1 dX7_printTrace_162 (by decide) ?_
    refine lv_aload_n C.1 C.2.1 dX7_printTrace_164 rfl (lv_at hl 0 rfl) ?_
    refine k_get (v := .ref (ad 4)) C hP 6 rfl rfl inlX7 0 (by decide) m_6_11 rfl dX7_printTrace_165 ?_
    refine k_get (v := .long (t_1.2.1 4 6)) C hP 4 rfl rfl inlX2 6 (by decide) m_55_6 rfl dX7_printTrace_168 ?_
    have h_4 : (9 : Int32).toInt = 9 := rfl
    refine hz_Vv (As := [.int 55, .int 9, .long (t_1.2.1 4 6)]) (rest := []) C hP hD hS hA (T_X4_digits l D K Z Y ad d1 t_1 hok 55 (show (0 : Int) ≤ (55 : Int32).toInt ∧ (55 : Int32).toInt ≤ 200 from ⟨by decide, by decide⟩) 9 (show (1 : Int) ≤ (9 : Int32).toInt ∧ (9 : Int32).toInt ≤ 10 from ⟨by decide, by decide⟩) ((t_1.2.1 4 6)) (show 0 ≤ (9 : Int32).toInt from by omega)) hE hZ (uwV m_40_18 m_40_19 m_40_20 m_3_20 m_40_21) (hdV 3 (by decide +kernel) rfl) ⟨Nat.le_of_ble_eq_true rfl, Nat.le_of_ble_eq_true rfl⟩ rfl rfl (ci := 3) (q0 := 20) rfl rfl rfl hl.1 (Nat.le_of_ble_eq_true rfl) dX7_printTrace_171 ⟨Nat.le_trans (newC_le _ _) (Nat.le_of_ble_eq_true rfl), (Nat.le_of_ble_eq_true rfl)⟩ (fun t_5 H locs hw hP hD hS => ?_)
    obtain ⟨hok, f_7⟩ := hw
    have hfr : frA [(20, 3)] [] [35, 36, 37] [] t t_5 := frA_tr hfr f_7 rfl
    refine lv_aload_n C.1 C.2.1 dX7_printTrace_174 rfl (lv_at hl 0 rfl) ?_
    refine k_get (v := .ref (ad 20)) C hP 6 rfl rfl inlX7 2 (by decide) m_6_14 rfl dX7_printTrace_175 ?_
    refine lv_bipush (v := 120) C.1 C.2.1 dX7_printTrace_178 (by decide) ?_
    refine lv_iconst (v := 0) C.1 C.2.1 dX7_printTrace_180 (by decide) ?_
    refine g_DVv (As := [.int 120, .int 0]) (rest := []) C hP hD hS hA (T_X4_finish l D K Z Y ad d1 t_5 hok hod 120 (show (72 : Int) ≤ (120 : Int32).toInt ∧ (120 : Int32).toInt ≤ 120 from ⟨by decide, by decide⟩) 0 (show (0 : Int) ≤ (0 : Int32).toInt ∧ (0 : Int32).toInt ≤ 1 from ⟨by decide, by decide⟩)) hE hZ hX hle hdf (uwV m_41_7 m_41_8 m_41_9 m_3_20 m_41_10) (hdV 2 (by decide +kernel) rfl) ⟨Nat.le_of_ble_eq_true rfl, Nat.le_of_ble_eq_true rfl⟩ rfl rfl (ci := 3) (q0 := 20) rfl rfl rfl hl.1 (Nat.le_of_ble_eq_true rfl) dX7_printTrace_181 ⟨Nat.le_of_ble_eq_true rfl, Nat.le_of_ble_eq_true rfl⟩ (fun t_8 d_10 H locs hw hP hD hS hln hle hdf => ?_)
    obtain ⟨hok, f_11, hod⟩ := hw
    have hfr : frA [(20, 3)] [] [35, 36, 37] [] t t_8 := frA_tr hfr f_11 rfl
    exact g_Dvret C hr hlocks hP hD hS ⟨hok, hfr, hod⟩ hle hdf (Nat.le_of_ble_eq_true rfl) (Nat.le_of_ble_eq_true rfl) dX7_printTrace_184
  have L_112 : ∀ (t1 : tSt) (d1 : dSt) (k112_1 : Int32) (k112_2 : Int32) (k112_3 : Int64) (H : Heap) (locs : List Loc) (ls : Array Slot), okX t1 → frA [(20, 3)] [] [35, 36, 37] [] t t1 → okD d1 → dLe d d1 → dFr s.heap.size d d1 → (51 : Int) ≤ k112_1.toInt ∧ k112_1.toInt ≤ 51 → (1 : Int) ≤ k112_2.toInt ∧ k112_2.toInt ≤ 1 → va_P D vwCl ((WX d1) K ad t1) H → va_D A ((WX d1) K ad t1) → va_S A s.heap H locs → lv_has ls 1 [(0, .ref (ad 6))] → W p l e (rmD 7 8000 2240000) s m [.ref (ad 6)].toArray below meth c H locs (newC d d1) 246800 (MQ below (QDV D K ad d (fun (u : tSt) (dd : dSt) => okX u ∧ frA [(20, 3)] [] [35, 36, 37] [] t u ∧ okD dd) s.heap.size A) [.ref (ad 6)].toArray s 8000 2240000 A) (F0 m 112 ls [.long k112_3, .int k112_2, .int k112_1, .ref (ad 20)]) := by
    intro t1 d1 k112_1 k112_2 k112_3 H locs ls hok hfr hod hle hdf hk112_1 hk112_2 hP hD hS hl
    refine hz_Vv (As := [.int k112_1, .int k112_2, .long k112_3]) (rest := []) C hP hD hS hA (T_X4_digits l D K Z Y ad d1 t1 hok (k112_1) (show (0 : Int) ≤ (k112_1 : Int32).toInt ∧ (k112_1 : Int32).toInt ≤ 200 from ⟨by omega, by omega⟩) (k112_2) (show (1 : Int) ≤ (k112_2 : Int32).toInt ∧ (k112_2 : Int32).toInt ≤ 10 from ⟨by omega, by omega⟩) (k112_3) (show 0 ≤ k112_2.toInt from by omega)) hE hZ (uwV m_40_18 m_40_19 m_40_20 m_3_20 m_40_21) (hdV 3 (by decide +kernel) rfl) ⟨Nat.le_of_ble_eq_true rfl, Nat.le_of_ble_eq_true rfl⟩ rfl rfl (ci := 3) (q0 := 20) rfl rfl rfl hl.1 (Nat.le_of_ble_eq_true rfl) dX7_printTrace_112 ⟨Nat.le_trans (newC_le _ _) (Nat.le_of_ble_eq_true rfl), (Nat.le_of_ble_eq_true rfl)⟩ (fun t_12 H locs hw hP hD hS => ?_)
    obtain ⟨hok, f_14⟩ := hw
    have hfr : frA [(20, 3)] [] [35, 36, 37] [] t t_12 := frA_tr hfr f_14 rfl
    refine lv_aload_n C.1 C.2.1 dX7_printTrace_115 rfl (lv_at hl 0 rfl) ?_
    refine k_get (v := .ref (ad 20)) C hP 6 rfl rfl inlX7 2 (by decide) m_6_14 rfl dX7_printTrace_116 ?_
    refine lv_bipush (v := 53) C.1 C.2.1 dX7_printTrace_119 (by decide) ?_
    refine lv_aload_n C.1 C.2.1 dX7_printTrace_121 rfl (lv_at hl 0 rfl) ?_
    refine k_get (v := .ref (ad 4)) C hP 6 rfl rfl inlX7 0 (by decide) m_6_11 rfl dX7_printTrace_122 ?_
    have h_15 : (-1 : Int) ≤ (t_12.1 4 4).toInt ∧ (t_12.1 4 4).toInt ≤ 1 := hok.1 4 4
    refine k_get (v := .int (t_12.1 4 4)) C hP 4 rfl rfl inlX2 4 (by decide) m_55_5 rfl dX7_printTrace_125 ?_
    refine lv_if_ge (tgt := 136) C.1 C.2.1 dX7_printTrace_128 (by decide) (fun c_16 => ?_) (fun c_16 => ?_)
    · replace c_16 : 0 ≤ (t_12.1 4 4).toInt := i_le c_16
      refine lv_aload_n C.1 C.2.1 dX7_printTrace_136 rfl (lv_at hl 0 rfl) ?_
      refine k_get (v := .ref (ad 4)) C hP 6 rfl rfl inlX7 0 (by decide) m_6_11 rfl dX7_printTrace_137 ?_
      refine k_get (v := .int (t_12.1 4 4)) C hP 4 rfl rfl inlX2 4 (by decide) m_55_5 rfl dX7_printTrace_140 ?_
      refine lv_if_ne (tgt := 151) C.1 C.2.1 dX7_printTrace_143 (by decide) (fun c_17 => ?_) (fun c_17 => ?_)
      · replace c_17 : ¬ (t_12.1 4 4).toInt = 0 := i_ne c_17
        refine lv_bipush (v := 71) C.1 C.2.1 dX7_printTrace_151 (by decide) ?_
        exact L_153 t_12 d1 53 71 _ _ _ hok hfr hod hle hdf ⟨by decide, by decide⟩ ⟨by decide, by decide⟩ hP hD hS (lv_sub hl [0] rfl)
      · replace c_17 : (t_12.1 4 4).toInt = 0 := i_eq c_17
        refine lv_bipush (v := 69) C.1 C.2.1 dX7_printTrace_146 (by decide) ?_
        refine lv_goto (tgt := 153) C.1 C.2.1 dX7_printTrace_148 (by decide) ?_
        exact L_153 t_12 d1 53 69 _ _ _ hok hfr hod hle hdf ⟨by decide, by decide⟩ ⟨by decide, by decide⟩ hP hD hS (lv_sub hl [0] rfl)
    · replace c_16 : (t_12.1 4 4).toInt < 0 := i_nle c_16
      refine lv_bipush (v := 76) C.1 C.2.1 dX7_printTrace_131 (by decide) ?_
      refine lv_goto (tgt := 153) C.1 C.2.1 dX7_printTrace_133 (by decide) ?_
      exact L_153 t_12 d1 53 76 _ _ _ hok hfr hod hle hdf ⟨by decide, by decide⟩ ⟨by decide, by decide⟩ hP hD hS (lv_sub hl [0] rfl)
  refine lv_aload_n C.1 C.2.1 dX7_printTrace_0 rfl (lv_at hl 0 rfl) ?_
  refine k_get (v := .ref (ad 20)) C hP 6 rfl rfl inlX7 2 (by decide) m_6_14 rfl dX7_printTrace_1 ?_
  refine lv_iconst (v := 1) C.1 C.2.1 dX7_printTrace_4 (by decide) ?_
  refine lv_iconst (v := 4) C.1 C.2.1 dX7_printTrace_5 (by decide) ?_
  refine lv_aload_n C.1 C.2.1 dX7_printTrace_6 rfl (lv_at hl 0 rfl) ?_
  refine k_get (v := .ref (ad 4)) C hP 6 rfl rfl inlX7 0 (by decide) m_6_11 rfl dX7_printTrace_7 ?_
  refine k_get (v := .int (t.1 4 12)) C hP 4 rfl rfl inlX2 12 (by decide) m_55_1 rfl dX7_printTrace_10 ?_
  obtain ⟨v_18, e_19⟩ : ∃ z, z = ((t.1 4 12) : Int32).toInt64 := ⟨_, rfl⟩
  have h_20 : v_18.toInt = (t.1 4 12).toInt := by rw [e_19]; exact Jvm.Kit.i64_of_i32 _
  have h_21 := i_rng (t.1 4 12)
  refine lv_i2l (v := v_18) C.1 C.2.1 dX7_printTrace_13 e_19.symm ?_
  refine hz_Si (As := [.long v_18]) (rest := [.int 4, .int 1, .ref (ad 20)]) C hP hD hS hA (T_X1_wordOf l D K Z Y ad d t hok (v_18)) hE hZ (uwS m_55_7 m_22_11 m_14_2 m_22_12) (hdS 1 (by decide +kernel) rfl) ⟨Nat.le_of_ble_eq_true rfl, Nat.le_of_ble_eq_true rfl⟩ rfl rfl rfl hl.1 (Nat.le_of_ble_eq_true rfl) dX7_printTrace_14 ⟨Nat.le_trans (newC_le _ _) (Nat.le_of_ble_eq_true rfl), (Nat.le_of_ble_eq_true rfl)⟩ (fun r_23 t_22 H locs hw hP hD hS => ?_)
  obtain ⟨h_25, h_26⟩ := hw
  refine hz_Vv (As := [.int 1, .int 4, .int r_23]) (rest := []) C hP hD hS hA (T_X4_signed l D K Z Y ad d t hok 1 (show (1 : Int) ≤ (1 : Int32).toInt ∧ (1 : Int32).toInt ≤ 63 from ⟨by decide, by decide⟩) 4 (show (4 : Int) ≤ (4 : Int32).toInt ∧ (4 : Int32).toInt ≤ 10 from ⟨by decide, by decide⟩) (r_23)) hE hZ (uwV m_55_8 m_55_9 m_55_10 m_3_20 m_55_11) (hdV 3 (by decide +kernel) rfl) ⟨Nat.le_of_ble_eq_true rfl, Nat.le_of_ble_eq_true rfl⟩ rfl rfl (ci := 3) (q0 := 20) rfl rfl rfl hl.1 (Nat.le_of_ble_eq_true rfl) dX7_printTrace_17 ⟨Nat.le_trans (newC_le _ _) (Nat.le_of_ble_eq_true rfl), (Nat.le_of_ble_eq_true rfl)⟩ (fun t_27 H locs hw hP hD hS => ?_)
  obtain ⟨hok, f_29⟩ := hw
  have hfr : frA [(20, 3)] [] [35, 36, 37] [] t t_27 := frA_tr hfr f_29 rfl
  have h_30 : (t_27.1 4 12).toInt = (t.1 4 12).toInt := ti_eq (f_29.1 4 12 rfl)
  refine lv_aload_n C.1 C.2.1 dX7_printTrace_20 rfl (lv_at hl 0 rfl) ?_
  refine lv_bipush (v := 7) C.1 C.2.1 dX7_printTrace_21 (by decide) ?_
  refine lv_aload_n C.1 C.2.1 dX7_printTrace_23 rfl (lv_at hl 0 rfl) ?_
  refine k_get (v := .ref (ad 4)) C hP 6 rfl rfl inlX7 0 (by decide) m_6_11 rfl dX7_printTrace_24 ?_
  refine k_get (v := .int (t_27.1 4 11)) C hP 4 rfl rfl inlX2 11 (by decide) m_55_2 rfl dX7_printTrace_27 ?_
  refine hz_Vv (As := [.int 7, .int (t_27.1 4 11)]) (rest := []) C hP hD hS hA (T_X7_printInstruction l D K Z Y ad d t_27 hok 7 (show (6 : Int) ≤ (7 : Int32).toInt ∧ (7 : Int32).toInt ≤ 7 from ⟨by decide, by decide⟩) ((t_27.1 4 11))) hE hZ (uwV m_55_15 m_55_16 m_55_17 m_2_13 m_55_18) (hdV 2 (by decide +kernel) rfl) ⟨Nat.le_of_ble_eq_true rfl, Nat.le_of_ble_eq_true rfl⟩ rfl rfl (ci := 6) (q0 := 6) rfl rfl rfl hl.1 (Nat.le_of_ble_eq_true rfl) dX7_printTrace_30 ⟨Nat.le_trans (newC_le _ _) (Nat.le_of_ble_eq_true rfl), (Nat.le_of_ble_eq_true rfl)⟩ (fun t_31 H locs hw hP hD hS => ?_)
  obtain ⟨hok, f_33⟩ := hw
  have hfr : frA [(20, 3)] [] [35, 36, 37] [] t t_31 := frA_tr hfr f_33 rfl
  have h_34 : (t_31.1 4 12).toInt = (t_27.1 4 12).toInt := ti_eq (f_33.1 4 12 rfl)
  have h_35 : (t_31.1 4 11).toInt = (t_27.1 4 11).toInt := ti_eq (f_33.1 4 11 rfl)
  refine lv_aload_n C.1 C.2.1 dX7_printTrace_33 rfl (lv_at hl 0 rfl) ?_
  refine k_get (v := .ref (ad 20)) C hP 6 rfl rfl inlX7 2 (by decide) m_6_14 rfl dX7_printTrace_34 ?_
  refine lv_bipush (v := 22) C.1 C.2.1 dX7_printTrace_37 (by decide) ?_
  refine lv_aload_n C.1 C.2.1 dX7_printTrace_39 rfl (lv_at hl 0 rfl) ?_
  refine k_get (v := .ref (ad 4)) C hP 6 rfl rfl inlX7 0 (by decide) m_6_11 rfl dX7_printTrace_40 ?_
  refine k_get (v := .int (t_31.1 4 11)) C hP 4 rfl rfl inlX2 11 (by decide) m_55_2 rfl dX7_printTrace_43 ?_
  refine hz_Vv (As := [.int 22, .int (t_31.1 4 11)]) (rest := []) C hP hD hS hA (T_X4_operation l D K Z Y ad d t_31 hok 22 (show (21 : Int) ≤ (22 : Int32).toInt ∧ (22 : Int32).toInt ≤ 31 from ⟨by decide, by decide⟩) ((t_31.1 4 11))) hE hZ (uwV m_55_21 m_55_22 m_55_23 m_3_20 m_56_0) (hdV 2 (by decide +kernel) rfl) ⟨Nat.le_of_ble_eq_true rfl, Nat.le_of_ble_eq_true rfl⟩ rfl rfl (ci := 3) (q0 := 20) rfl rfl rfl hl.1 (Nat.le_of_ble_eq_true rfl) dX7_printTrace_46 ⟨Nat.le_trans (newC_le _ _) (Nat.le_of_ble_eq_true rfl), (Nat.le_of_ble_eq_true rfl)⟩ (fun t_36 H locs hw hP hD hS => ?_)
  obtain ⟨hok, f_38⟩ := hw
  have hfr : frA [(20, 3)] [] [35, 36, 37] [] t t_36 := frA_tr hfr f_38 rfl
  have h_39 : (t_36.1 4 12).toInt = (t_31.1 4 12).toInt := ti_eq (f_38.1 4 12 rfl)
  have h_40 : (t_36.1 4 11).toInt = (t_31.1 4 11).toInt := ti_eq (f_38.1 4 11 rfl)
  refine lv_aload_n C.1 C.2.1 dX7_printTrace_49 rfl (lv_at hl 0 rfl) ?_
  refine k_get (v := .ref (ad 20)) C hP 6 rfl rfl inlX7 2 (by decide) m_6_14 rfl dX7_printTrace_50 ?_
  refine lv_bipush (v := 27) C.1 C.2.1 dX7_printTrace_53 (by decide) ?_
  refine lv_bipush (v := 10) C.1 C.2.1 dX7_printTrace_55 (by decide) ?_
  refine lv_aload_n C.1 C.2.1 dX7_printTrace_57 rfl (lv_at hl 0 rfl) ?_
  refine k_get (v := .ref (ad 4)) C hP 6 rfl rfl inlX7 0 (by decide) m_6_11 rfl dX7_printTrace_58 ?_
  refine k_get (v := .ref (ad 22)) C hP 4 rfl rfl inlX2 1 (by decide) m_55_3 rfl dX7_printTrace_61 ?_
  refine lv_iconst (v := 0) C.1 C.2.1 dX7_printTrace_64 (by decide) ?_
  obtain ⟨v_41, e_42⟩ : ∃ z, z = (t_36.2.2.1 22 (0 : Int32).toNatClampNeg) := ⟨_, rfl⟩
  refine k_ild (v := v_41) C hP 22 rfl (vin (by decide)) e_42.symm dX7_printTrace_65 ?_
  refine hz_Vv (As := [.int 27, .int 10, .int v_41]) (rest := []) C hP hD hS hA (T_X4_signed l D K Z Y ad d t_36 hok 27 (show (1 : Int) ≤ (27 : Int32).toInt ∧ (27 : Int32).toInt ≤ 63 from ⟨by decide, by decide⟩) 10 (show (4 : Int) ≤ (10 : Int32).toInt ∧ (10 : Int32).toInt ≤ 10 from ⟨by decide, by decide⟩) (v_41)) hE hZ (uwV m_55_8 m_55_9 m_55_10 m_3_20 m_55_11) (hdV 3 (by decide +kernel) rfl) ⟨Nat.le_of_ble_eq_true rfl, Nat.le_of_ble_eq_true rfl⟩ rfl rfl (ci := 3) (q0 := 20) rfl rfl rfl hl.1 (Nat.le_of_ble_eq_true rfl) dX7_printTrace_66 ⟨Nat.le_trans (newC_le _ _) (Nat.le_of_ble_eq_true rfl), (Nat.le_of_ble_eq_true rfl)⟩ (fun t_43 H locs hw hP hD hS => ?_)
  obtain ⟨hok, f_45⟩ := hw
  have hfr : frA [(20, 3)] [] [35, 36, 37] [] t t_43 := frA_tr hfr f_45 rfl
  have h_46 : (t_43.1 4 12).toInt = (t_36.1 4 12).toInt := ti_eq (f_45.1 4 12 rfl)
  have h_47 : (t_43.1 4 11).toInt = (t_36.1 4 11).toInt := ti_eq (f_45.1 4 11 rfl)
  refine lv_aload_n C.1 C.2.1 dX7_printTrace_69 rfl (lv_at hl 0 rfl) ?_
  refine k_get (v := .ref (ad 20)) C hP 6 rfl rfl inlX7 2 (by decide) m_6_14 rfl dX7_printTrace_70 ?_
  refine lv_bipush (v := 39) C.1 C.2.1 dX7_printTrace_73 (by decide) ?_
  refine lv_bipush (v := 10) C.1 C.2.1 dX7_printTrace_75 (by decide) ?_
  refine lv_aload_n C.1 C.2.1 dX7_printTrace_77 rfl (lv_at hl 0 rfl) ?_
  refine k_get (v := .ref (ad 4)) C hP 6 rfl rfl inlX7 0 (by decide) m_6_11 rfl dX7_printTrace_78 ?_
  refine k_get (v := .ref (ad 22)) C hP 4 rfl rfl inlX2 1 (by decide) m_55_3 rfl dX7_printTrace_81 ?_
  refine lv_bipush (v := 7) C.1 C.2.1 dX7_printTrace_84 (by decide) ?_
  obtain ⟨v_48, e_49⟩ : ∃ z, z = (t_43.2.2.1 22 (7 : Int32).toNatClampNeg) := ⟨_, rfl⟩
  refine k_ild (v := v_48) C hP 22 rfl (vin (by decide)) e_49.symm dX7_printTrace_86 ?_
  refine hz_Vv (As := [.int 39, .int 10, .int v_48]) (rest := []) C hP hD hS hA (T_X4_signed l D K Z Y ad d t_43 hok 39 (show (1 : Int) ≤ (39 : Int32).toInt ∧ (39 : Int32).toInt ≤ 63 from ⟨by decide, by decide⟩) 10 (show (4 : Int) ≤ (10 : Int32).toInt ∧ (10 : Int32).toInt ≤ 10 from ⟨by decide, by decide⟩) (v_48)) hE hZ (uwV m_55_8 m_55_9 m_55_10 m_3_20 m_55_11) (hdV 3 (by decide +kernel) rfl) ⟨Nat.le_of_ble_eq_true rfl, Nat.le_of_ble_eq_true rfl⟩ rfl rfl (ci := 3) (q0 := 20) rfl rfl rfl hl.1 (Nat.le_of_ble_eq_true rfl) dX7_printTrace_87 ⟨Nat.le_trans (newC_le _ _) (Nat.le_of_ble_eq_true rfl), (Nat.le_of_ble_eq_true rfl)⟩ (fun t_50 H locs hw hP hD hS => ?_)
  obtain ⟨hok, f_52⟩ := hw
  have hfr : frA [(20, 3)] [] [35, 36, 37] [] t t_50 := frA_tr hfr f_52 rfl
  have h_53 : (t_50.1 4 12).toInt = (t_43.1 4 12).toInt := ti_eq (f_52.1 4 12 rfl)
  have h_54 : (t_50.1 4 11).toInt = (t_43.1 4 11).toInt := ti_eq (f_52.1 4 11 rfl)
  refine lv_aload_n C.1 C.2.1 dX7_printTrace_90 rfl (lv_at hl 0 rfl) ?_
  refine k_get (v := .ref (ad 20)) C hP 6 rfl rfl inlX7 2 (by decide) m_6_14 rfl dX7_printTrace_91 ?_
  refine lv_bipush (v := 51) C.1 C.2.1 dX7_printTrace_94 (by decide) ?_
  refine lv_iconst (v := 1) C.1 C.2.1 dX7_printTrace_96 (by decide) ?_
  refine lv_aload_n C.1 C.2.1 dX7_printTrace_97 rfl (lv_at hl 0 rfl) ?_
  refine k_get (v := .ref (ad 4)) C hP 6 rfl rfl inlX7 0 (by decide) m_6_11 rfl dX7_printTrace_98 ?_
  have h_55 : (0 : Int) ≤ (t_50.1 4 3).toInt ∧ (t_50.1 4 3).toInt ≤ 1 := hok.1 4 3
  refine k_get (v := .int (t_50.1 4 3)) C hP 4 rfl rfl inlX2 3 (by decide) m_55_4 rfl dX7_printTrace_101 ?_
  refine lv_if_eq (tgt := 111) C.1 C.2.1 dX7_printTrace_104 (by decide) (fun c_56 => ?_) (fun c_56 => ?_)
  · replace c_56 : (t_50.1 4 3).toInt = 0 := i_eq c_56
    refine lv_lconst (v := 0) C.1 C.2.1 dX7_printTrace_111 (by decide) ?_
    exact L_112 t_50 d 51 1 0 _ _ _ hok hfr hod hle hdf ⟨by decide, by decide⟩ ⟨by decide, by decide⟩ hP hD hS (lv_sub hl [0] rfl)
  · replace c_56 : ¬ (t_50.1 4 3).toInt = 0 := i_ne c_56
    refine lv_lconst (v := 1) C.1 C.2.1 dX7_printTrace_107 (by decide) ?_
    refine lv_goto (tgt := 112) C.1 C.2.1 dX7_printTrace_108 (by decide) ?_
    exact L_112 t_50 d 51 1 1 _ _ _ hok hfr hod hle hdf ⟨by decide, by decide⟩ ⟨by decide, by decide⟩ hP hD hS (lv_sub hl [0] rfl)


set_option maxHeartbeats 4000000 in
set_option maxRecDepth 100000 in
theorem T_X6_take_1 (l : Launch) (D : va_G) (K : Nat → ClassId) (Z Y : Nat → Nat) (ad : Nat → Nat) (d : dSt) (t : tSt) (hok : okX t) (hod : okD d) (x2 : Int32) (hx2 : (1600 : Int) ≤ x2.toInt ∧ x2.toInt ≤ 1600) : tMet l yX6_take cX6_take 6 none (rmD 6 0 0) D K Z Y [.ref (ad 18), .ref (ad 17), .int x2] ((WX d) K ad t) (QV D K (fun (u : tSt) => okX u ∧ frA [(18, 1), (18, 3)] [] [17] [] t u) (fun (u : tSt) => (WX d) K ad u)) 0 0 := by
  refine t_met RX6 ⟨rfl, by decide +kernel⟩ (Nat.le_of_ble_eq_true rfl) ?_
  intro p e s m below meth c A ls C hE hZ hr hlocks hA hP hD hS hl
  have hl : lv_has ls 6 [(0, .ref (ad 18)), (1, .ref (ad 17)), (2, .int x2)] := hl
  have hokt := hok
  have hfr : frA [(18, 1), (18, 3)] [] [17] [] t t := frA_rf
  have h_1 : (0 : Int) ≤ (t.1 18 1).toInt ∧ (t.1 18 1).toInt ≤ 2701 := hok.1 18 1
  have h_2 : (0 : Int) ≤ (t.1 18 2).toInt ∧ (t.1 18 2).toInt ≤ 2700 := hok.1 18 2
  have L_11 : ∀ (fuel_11 : Nat) (t1 : tSt) (w11_3 : Int32) (H : Heap) (locs : List Loc) (ls : Array Slot), okX t1 → frA [(18, 1), (18, 3)] [] [17] [] t t1 → (1600 : Int) ≤ w11_3.toInt ∧ w11_3.toInt ≤ 4000 → (∃ a, d.1 916 = some a) → ((t1.1 18 1).toInt ≤ 2700) → (x2.toInt ≤ w11_3.toInt) → (w11_3.toInt ≤ x2.toInt + 16) → (x2.toInt + 16 - w11_3.toInt) < (fuel_11 : Int) → va_P D vwCl ((WX d) K ad t1) H → va_D A ((WX d) K ad t1) → va_S A s.heap H locs → lv_has ls 6 [(0, .ref (ad 18)), (1, .ref (ad 17)), (2, .int x2), (3, .int w11_3)] → W p l e (rmD 6 0 0) s m [.ref (ad 18), .ref (ad 17), .int x2].toArray below meth c H locs 0 0 (MQ below (QV D K (fun (u : tSt) => okX u ∧ frA [(18, 1), (18, 3)] [] [17] [] t u) (fun (u : tSt) => (WX d) K ad u) A) [.ref (ad 18), .ref (ad 17), .int x2].toArray s 0 0 A) (F0 m 11 ls []) := by
    intro fuel_11
    induction fuel_11 with
    | zero =>
      intro t1 w11_3 H locs ls hok hfr hw11_3 hi11_0 hi11_1 hi11_2 hi11_3 hm11_11 hP hD hS hl; obtain ⟨a_916, hp_916⟩ := hi11_0
      have h_3 : (t1.1 18 2).toInt = (t.1 18 2).toInt := ti_eq (hfr.1 18 2 rfl)
      have h_4 : (0 : Int) ≤ (t1.1 18 1).toInt ∧ (t1.1 18 1).toInt ≤ 2701 := hok.1 18 1
      have h_5 : (0 : Int) ≤ (t1.1 18 2).toInt ∧ (t1.1 18 2).toInt ≤ 2700 := hok.1 18 2
      exact absurd hm11_11 (by omega)
    | succ fuel_11 ih_11 =>
      intro t1 w11_3 H locs ls hok hfr hw11_3 hi11_0 hi11_1 hi11_2 hi11_3 hm11_11 hP hD hS hl; obtain ⟨a_916, hp_916⟩ := hi11_0
      have hm11_11 : (x2.toInt + 16 - w11_3.toInt) < (fuel_11 : Int) + 1 := by omega
      have h_6 : (t1.1 18 2).toInt = (t.1 18 2).toInt := ti_eq (hfr.1 18 2 rfl)
      have h_7 : (0 : Int) ≤ (t1.1 18 1).toInt ∧ (t1.1 18 1).toInt ≤ 2701 := hok.1 18 1
      have h_8 : (0 : Int) ≤ (t1.1 18 2).toInt ∧ (t1.1 18 2).toInt ≤ 2700 := hok.1 18 2
      have L_111 : ∀ (t1 : tSt) (w111_3 : Int32) (w111_4 : Int32) (w111_5 : Int32) (H : Heap) (locs : List Loc) (ls : Array Slot), okX t1 → frA [(18, 1), (18, 3)] [] [17] [] t t1 → (1600 : Int) ≤ w111_3.toInt ∧ w111_3.toInt ≤ 3999 → (5 : Int) ≤ w111_5.toInt ∧ w111_5.toInt ≤ 5 → (∃ a, d.1 916 = some a) → ((t1.1 18 1).toInt ≤ 2700) → (x2.toInt ≤ w111_3.toInt) → (w111_3.toInt < x2.toInt + 16) → (x2.toInt + 16 - w111_3.toInt) < (fuel_11 : Int) + 1 → va_P D vwCl ((WX d) K ad t1) H → va_D A ((WX d) K ad t1) → va_S A s.heap H locs → lv_has ls 6 [(0, .ref (ad 18)), (1, .ref (ad 17)), (2, .int x2), (3, .int w111_3), (4, .int w111_4), (5, .int w111_5)] → W p l e (rmD 6 0 0) s m [.ref (ad 18), .ref (ad 17), .int x2].toArray below meth c H locs 0 0 (MQ below (QV D K (fun (u : tSt) => okX u ∧ frA [(18, 1), (18, 3)] [] [17] [] t u) (fun (u : tSt) => (WX d) K ad u) A) [.ref (ad 18), .ref (ad 17), .int x2].toArray s 0 0 A) (F0 m 111 ls []) := by
        intro t1 w111_3 w111_4 w111_5 H locs ls hok hfr hw111_3 hw111_5 hi111_0 hi111_1 hi111_2 hi111_3 hm111_11 hP hD hS hl; obtain ⟨a_916, hp_916⟩ := hi111_0
        have h_9 : (t1.1 18 2).toInt = (t.1 18 2).toInt := ti_eq (hfr.1 18 2 rfl)
        have h_10 : (0 : Int) ≤ (t1.1 18 1).toInt ∧ (t1.1 18 1).toInt ≤ 2701 := hok.1 18 1
        have h_11 : (0 : Int) ≤ (t1.1 18 2).toInt ∧ (t1.1 18 2).toInt ≤ 2700 := hok.1 18 2
        obtain ⟨v_12, e_13⟩ : ∃ z, z = w111_3 + 1 := ⟨_, rfl⟩
        have h_14 : v_12.toInt = w111_3.toInt + 1 := by rw [e_13]; exact ti_iadd (by show (_ : Int) ≤ w111_3.toInt + 1; omega) (by show w111_3.toInt + 1 < (_ : Int); omega)
        refine lv_iinc (v := v_12) (lv' := [(3, .int v_12), (0, .ref (ad 18)), (1, .ref (ad 17)), (2, .int x2), (4, .int w111_4), (5, .int w111_5)]) C.1 C.2.1 dX6_take_111 hl (k := 3) rfl e_13.symm (by decide) rfl (fun ls hl => ?_)
        have hl : lv_has ls 6 [(0, .ref (ad 18)), (1, .ref (ad 17)), (2, .int x2), (3, .int v_12), (4, .int w111_4), (5, .int w111_5)] := lv_sub hl [1, 2, 3, 0, 4, 5] rfl
        refine lv_goto (tgt := 11) C.1 C.2.1 dX6_take_114 (by decide) ?_
        exact ih_11 t1 v_12 _ _ _ hok hfr ⟨by omega, by omega⟩ (show ∃ a, d.1 916 = some a from by exact ⟨_, hp_916⟩) (show (t1.1 18 1).toInt ≤ 2700 from by omega) (show x2.toInt ≤ v_12.toInt from by omega) (show v_12.toInt ≤ x2.toInt + 16 from by omega) (show (x2.toInt + 16 - v_12.toInt) < (fuel_11 : Int) from by omega) hP hD hS (lv_sub hl [0, 1, 2, 3] rfl)
      have L_25 : ∀ (fuel_25 : Nat) (t1 : tSt) (w25_3 : Int32) (w25_4 : Int32) (w25_5 : Int32) (H : Heap) (locs : List Loc) (ls : Array Slot), okX t1 → frA [(18, 1), (18, 3)] [] [17] [] t t1 → (1600 : Int) ≤ w25_3.toInt ∧ w25_3.toInt ≤ 3999 → (0 : Int) ≤ w25_5.toInt ∧ w25_5.toInt ≤ 5 → (∃ a, d.1 916 = some a) → ((t1.1 18 1).toInt ≤ 2700) → (x2.toInt ≤ w25_3.toInt) → (w25_3.toInt < x2.toInt + 16) → (x2.toInt + 16 - w25_3.toInt) < (fuel_11 : Int) + 1 → (5 : Int) - w25_5.toInt < (fuel_25 : Int) → va_P D vwCl ((WX d) K ad t1) H → va_D A ((WX d) K ad t1) → va_S A s.heap H locs → lv_has ls 6 [(0, .ref (ad 18)), (1, .ref (ad 17)), (2, .int x2), (3, .int w25_3), (4, .int w25_4), (5, .int w25_5)] → W p l e (rmD 6 0 0) s m [.ref (ad 18), .ref (ad 17), .int x2].toArray below meth c H locs 0 0 (MQ below (QV D K (fun (u : tSt) => okX u ∧ frA [(18, 1), (18, 3)] [] [17] [] t u) (fun (u : tSt) => (WX d) K ad u) A) [.ref (ad 18), .ref (ad 17), .int x2].toArray s 0 0 A) (F0 m 25 ls []) := by
        intro fuel_25
        induction fuel_25 with
        | zero =>
          intro t1 w25_3 w25_4 w25_5 H locs ls hok hfr hw25_3 hw25_5 hi25_0 hi25_1 hi25_2 hi25_3 hm25_11 hm25_25 hP hD hS hl; obtain ⟨a_916, hp_916⟩ := hi25_0
          have h_15 : (t1.1 18 2).toInt = (t.1 18 2).toInt := ti_eq (hfr.1 18 2 rfl)
          have h_16 : (0 : Int) ≤ (t1.1 18 1).toInt ∧ (t1.1 18 1).toInt ≤ 2701 := hok.1 18 1
          have h_17 : (0 : Int) ≤ (t1.1 18 2).toInt ∧ (t1.1 18 2).toInt ≤ 2700 := hok.1 18 2
          exact absurd hm25_25 (by omega)
        | succ fuel_25 ih_25 =>
          intro t1 w25_3 w25_4 w25_5 H locs ls hok hfr hw25_3 hw25_5 hi25_0 hi25_1 hi25_2 hi25_3 hm25_11 hm25_25 hP hD hS hl; obtain ⟨a_916, hp_916⟩ := hi25_0
          have hm25_25 : (5 : Int) - w25_5.toInt < (fuel_25 : Int) + 1 := by omega
          have h_18 : (t1.1 18 2).toInt = (t.1 18 2).toInt := ti_eq (hfr.1 18 2 rfl)
          have h_19 : (0 : Int) ≤ (t1.1 18 1).toInt ∧ (t1.1 18 1).toInt ≤ 2701 := hok.1 18 1
          have h_20 : (0 : Int) ≤ (t1.1 18 2).toInt ∧ (t1.1 18 2).toInt ≤ 2700 := hok.1 18 2
          have L_90 : ∀ (t1 : tSt) (w90_3 : Int32) (w90_4 : Int32) (w90_5 : Int32) (H : Heap) (locs : List Loc) (ls : Array Slot), okX t1 → frA [(18, 1), (18, 3)] [] [17] [] t t1 → (1600 : Int) ≤ w90_3.toInt ∧ w90_3.toInt ≤ 3999 → (0 : Int) ≤ w90_5.toInt ∧ w90_5.toInt ≤ 4 → (∃ a, d.1 916 = some a) → ((t1.1 18 1).toInt ≤ 2700) → (x2.toInt ≤ w90_3.toInt) → (w90_3.toInt < x2.toInt + 16) → (x2.toInt + 16 - w90_3.toInt) < (fuel_11 : Int) + 1 → (5 : Int) - w90_5.toInt < (fuel_25 : Int) + 1 → va_P D vwCl ((WX d) K ad t1) H → va_D A ((WX d) K ad t1) → va_S A s.heap H locs → lv_has ls 6 [(0, .ref (ad 18)), (1, .ref (ad 17)), (2, .int x2), (3, .int w90_3), (4, .int w90_4), (5, .int w90_5)] → W p l e (rmD 6 0 0) s m [.ref (ad 18), .ref (ad 17), .int x2].toArray below meth c H locs 0 0 (MQ below (QV D K (fun (u : tSt) => okX u ∧ frA [(18, 1), (18, 3)] [] [17] [] t u) (fun (u : tSt) => (WX d) K ad u) A) [.ref (ad 18), .ref (ad 17), .int x2].toArray s 0 0 A) (F0 m 90 ls []) := by
            intro t1 w90_3 w90_4 w90_5 H locs ls hok hfr hw90_3 hw90_5 hi90_0 hi90_1 hi90_2 hi90_3 hm90_11 hm90_25 hP hD hS hl; obtain ⟨a_916, hp_916⟩ := hi90_0
            have h_21 : (t1.1 18 2).toInt = (t.1 18 2).toInt := ti_eq (hfr.1 18 2 rfl)
            have h_22 : (0 : Int) ≤ (t1.1 18 1).toInt ∧ (t1.1 18 1).toInt ≤ 2701 := hok.1 18 1
            have h_23 : (0 : Int) ≤ (t1.1 18 2).toInt ∧ (t1.1 18 2).toInt ≤ 2700 := hok.1 18 2
            obtain ⟨v_24, e_25⟩ : ∃ z, z = w90_5 + 1 := ⟨_, rfl⟩
            have h_26 : v_24.toInt = w90_5.toInt + 1 := by rw [e_25]; exact ti_iadd (by show (_ : Int) ≤ w90_5.toInt + 1; omega) (by show w90_5.toInt + 1 < (_ : Int); omega)
            refine lv_iinc (v := v_24) (lv' := [(5, .int v_24), (0, .ref (ad 18)), (1, .ref (ad 17)), (2, .int x2), (3, .int w90_3), (4, .int w90_4)]) C.1 C.2.1 dX6_take_90 hl (k := 5) rfl e_25.symm (by decide) rfl (fun ls hl => ?_)
            have hl : lv_has ls 6 [(0, .ref (ad 18)), (1, .ref (ad 17)), (2, .int x2), (3, .int w90_3), (4, .int w90_4), (5, .int v_24)] := lv_sub hl [1, 2, 3, 4, 5, 0] rfl
            refine lv_goto (tgt := 25) C.1 C.2.1 dX6_take_93 (by decide) ?_
            exact ih_25 t1 w90_3 w90_4 v_24 _ _ _ hok hfr ⟨by omega, by omega⟩ ⟨by omega, by omega⟩ (show ∃ a, d.1 916 = some a from by exact ⟨_, hp_916⟩) (show (t1.1 18 1).toInt ≤ 2700 from by omega) (show x2.toInt ≤ w90_3.toInt from by omega) (show w90_3.toInt < x2.toInt + 16 from by omega) (show (x2.toInt + 16 - w90_3.toInt) < (fuel_11 : Int) + 1 from by omega) (show (5 : Int) - v_24.toInt < (fuel_25 : Int) from by omega) hP hD hS (lv_sub hl [0, 1, 2, 3, 4, 5] rfl)
          refine lv_iload C.1 C.2.1 dX6_take_25 (lv_at hl 5 rfl) ?_
          refine lv_iconst (v := 5) C.1 C.2.1 dX6_take_27 (by decide) ?_
          refine lv_icmp_ge (tgt := 96) C.1 C.2.1 dX6_take_28 (by decide) (fun c_27 => ?_) (fun c_27 => ?_)
          · replace c_27 : 5 ≤ w25_5.toInt := i_le c_27
            refine lv_iload_n C.1 C.2.1 dX6_take_96 rfl (lv_at hl 3 rfl) ?_
            refine lv_if_lt (tgt := 111) C.1 C.2.1 dX6_take_97 (by decide) (fun c_28 => False.elim (by have c_28 : w25_3.toInt < 0 := i_lt c_28; omega)) (fun c_28 => ?_)
            replace c_28 : 0 ≤ w25_3.toInt := i_nlt c_28
            refine lv_iload_n C.1 C.2.1 dX6_take_100 rfl (lv_at hl 3 rfl) ?_
            refine lv_aload_n C.1 C.2.1 dX6_take_101 rfl (lv_at hl 1 rfl) ?_
            refine k_len (v := 1700) C hP 17 0 rfl rfl rfl dX6_take_102 ?_
            refine lv_icmp_ge (tgt := 111) C.1 C.2.1 dX6_take_103 (by decide) (fun c_29 => ?_) (fun c_29 => ?_)
            · replace c_29 : 1700 ≤ w25_3.toInt := i_le c_29
              exact L_111 t1 w25_3 w25_4 w25_5 _ _ _ hok hfr ⟨by omega, by omega⟩ ⟨by omega, by omega⟩ (show ∃ a, d.1 916 = some a from by exact ⟨_, hp_916⟩) (show (t1.1 18 1).toInt ≤ 2700 from by omega) (show x2.toInt ≤ w25_3.toInt from by omega) (show w25_3.toInt < x2.toInt + 16 from by omega) (show (x2.toInt + 16 - w25_3.toInt) < (fuel_11 : Int) + 1 from by omega) hP hD hS (lv_sub hl [0, 1, 2, 3, 4, 5] rfl)
            · replace c_29 : w25_3.toInt < 1700 := i_nle c_29
              refine lv_aload_n C.1 C.2.1 dX6_take_106 rfl (lv_at hl 1 rfl) ?_
              refine lv_iload_n C.1 C.2.1 dX6_take_107 rfl (lv_at hl 3 rfl) ?_
              refine lv_iload C.1 C.2.1 dX6_take_108 (lv_at hl 4 rfl) ?_
              refine k_ist (ws' := (WX d) K ad (uB t1 17 (w25_3 : Int32).toNatClampNeg w25_4)) (x' := w25_4) C hP hD hS 17 rfl (vp_in_iff.mpr ⟨by omega, by omega⟩) rfl rfl rfl dX6_take_110 (fun H locs hP hD hS => ?_)
              have hok : okX (uB t1 17 (w25_3 : Int32).toNatClampNeg w25_4) := ⟨hok.1, okB_B hok.2.1 17 _ w25_4 (show (-2147483648 : Int) ≤ (w25_4 : Int32).toInt ∧ (w25_4 : Int32).toInt ≤ 2147483647 from (i_rng _)), trivial⟩
              have hfr : frA [(18, 1), (18, 3)] [] [17] [] t (uB t1 17 (w25_3 : Int32).toNatClampNeg w25_4) := frA_B hfr 17 _ _ rfl
              exact L_111 (uB t1 17 (w25_3 : Int32).toNatClampNeg w25_4) w25_3 w25_4 w25_5 _ _ _ hok hfr ⟨by omega, by omega⟩ ⟨by omega, by omega⟩ (show ∃ a, d.1 916 = some a from by exact ⟨_, hp_916⟩) (show (t1.1 18 1).toInt ≤ 2700 from by omega) (show x2.toInt ≤ w25_3.toInt from by omega) (show w25_3.toInt < x2.toInt + 16 from by omega) (show (x2.toInt + 16 - w25_3.toInt) < (fuel_11 : Int) + 1 from by omega) hP hD hS (lv_sub hl [0, 1, 2, 3, 4, 5] rfl)
          · replace c_27 : w25_5.toInt < 5 := i_nle c_27
            refine lv_iload C.1 C.2.1 dX6_take_31 (lv_at hl 4 rfl) ?_
            refine lv_bipush (v := 6) C.1 C.2.1 dX6_take_33 (by decide) ?_
            obtain ⟨v_30, e_31⟩ : ∃ z, z = (w25_4 : Int32) <<< ((6 : Int32) &&& 31) := ⟨_, rfl⟩
            refine k_ishl (v := v_30) C e_31.symm dX6_take_35 ?_
            refine lv_istore (lv' := [(4, .int v_30), (0, .ref (ad 18)), (1, .ref (ad 17)), (2, .int x2), (3, .int w25_3), (5, .int w25_5)]) C.1 C.2.1 dX6_take_36 hl (by decide) rfl (fun ls hl => ?_)
            have hl : lv_has ls 6 [(0, .ref (ad 18)), (1, .ref (ad 17)), (2, .int x2), (3, .int w25_3), (4, .int v_30), (5, .int w25_5)] := lv_sub hl [1, 2, 3, 4, 0, 5] rfl
            refine lv_aload_n C.1 C.2.1 dX6_take_38 rfl (lv_at hl 0 rfl) ?_
            refine k_get (v := .int (t1.1 18 1)) C hP 18 rfl rfl inlX6 1 (by decide) m_44_3 rfl dX6_take_39 ?_
            refine lv_aload_n C.1 C.2.1 dX6_take_42 rfl (lv_at hl 0 rfl) ?_
            refine k_get (v := .int (t1.1 18 2)) C hP 18 rfl rfl inlX6 2 (by decide) m_44_1 rfl dX6_take_43 ?_
            refine lv_icmp_ge (tgt := 90) C.1 C.2.1 dX6_take_46 (by decide) (fun c_33 => ?_) (fun c_33 => ?_)
            · replace c_33 : (t1.1 18 2).toInt ≤ (t1.1 18 1).toInt := i_le c_33
              exact L_90 t1 w25_3 v_30 w25_5 _ _ _ hok hfr ⟨by omega, by omega⟩ ⟨by omega, by omega⟩ (show ∃ a, d.1 916 = some a from by exact ⟨_, hp_916⟩) (show (t1.1 18 1).toInt ≤ 2700 from by omega) (show x2.toInt ≤ w25_3.toInt from by omega) (show w25_3.toInt < x2.toInt + 16 from by omega) (show (x2.toInt + 16 - w25_3.toInt) < (fuel_11 : Int) + 1 from by omega) (show (5 : Int) - w25_5.toInt < (fuel_25 : Int) + 1 from by omega) hP hD hS (lv_sub hl [0, 1, 2, 3, 4, 5] rfl)
            · replace c_33 : (t1.1 18 1).toInt < (t1.1 18 2).toInt := i_nle c_33
              refine lv_aload_n C.1 C.2.1 dX6_take_49 rfl (lv_at hl 0 rfl) ?_
              refine k_get (v := .ref a_916) C hP 18 rfl rfl inlX6 0 (by decide) m_44_0 (rf_eq hp_916) dX6_take_50 ?_
              refine lv_aload_n C.1 C.2.1 dX6_take_53 rfl (lv_at hl 0 rfl) ?_
              refine k_get (v := .int (t1.1 18 1)) C hP 18 rfl rfl inlX6 1 (by decide) m_44_3 rfl dX6_take_54 ?_
              obtain ⟨q_34, hq_35, hs_36⟩ := WX_at916 (K := K) (ad := ad) (t := t1) (d := d) hp_916
              obtain ⟨v_37, e_38⟩ : ∃ z, z = d.2 916 ((t1.1 18 1) : Int32).toNatClampNeg := ⟨_, rfl⟩
              have h_39 : (-128 : Int) ≤ v_37.toInt ∧ v_37.toInt ≤ 127 := by rw [e_38]; exact hod _
              refine k_bld (v := v_37) C hP q_34 hq_35 (vp_in_iff.mpr ⟨by omega, by omega⟩) e_38.symm dX6_take_57 ?_
              refine lv_bipush (v := 10) C.1 C.2.1 dX6_take_58 (by decide) ?_
              refine lv_icmp_eq (tgt := 90) C.1 C.2.1 dX6_take_60 (by decide) (fun c_40 => ?_) (fun c_40 => ?_)
              · replace c_40 : v_37.toInt = 10 := i_eq c_40
                exact L_90 t1 w25_3 v_30 w25_5 _ _ _ hok hfr ⟨by omega, by omega⟩ ⟨by omega, by omega⟩ (show ∃ a, d.1 916 = some a from by exact ⟨_, hp_916⟩) (show (t1.1 18 1).toInt ≤ 2700 from by omega) (show x2.toInt ≤ w25_3.toInt from by omega) (show w25_3.toInt < x2.toInt + 16 from by omega) (show (x2.toInt + 16 - w25_3.toInt) < (fuel_11 : Int) + 1 from by omega) (show (5 : Int) - w25_5.toInt < (fuel_25 : Int) + 1 from by omega) hP hD hS (lv_sub hl [0, 1, 2, 3, 4, 5] rfl)
              · replace c_40 : ¬ v_37.toInt = 10 := i_ne c_40
                refine lv_iload C.1 C.2.1 dX6_take_63 (lv_at hl 4 rfl) ?_
                refine lv_aload_n C.1 C.2.1 dX6_take_65 rfl (lv_at hl 0 rfl) ?_
                refine k_get (v := .ref a_916) C hP 18 rfl rfl inlX6 0 (by decide) m_44_0 (rf_eq hp_916) dX6_take_66 ?_
                refine lv_aload_n C.1 C.2.1 dX6_take_69 rfl (lv_at hl 0 rfl) ?_
                refine k_get (v := .int (t1.1 18 1)) C hP 18 rfl rfl inlX6 1 (by decide) m_44_3 rfl dX6_take_70 ?_
                obtain ⟨q_41, hq_42, hs_43⟩ := WX_at916 (K := K) (ad := ad) (t := t1) (d := d) hp_916
                obtain ⟨v_44, e_45⟩ : ∃ z, z = d.2 916 ((t1.1 18 1) : Int32).toNatClampNeg := ⟨_, rfl⟩
                have h_46 : (-128 : Int) ≤ v_44.toInt ∧ v_44.toInt ≤ 127 := by rw [e_45]; exact hod _
                refine k_bld (v := v_44) C hP q_41 hq_42 (vp_in_iff.mpr ⟨by omega, by omega⟩) e_45.symm dX6_take_73 ?_
                refine g_Si (As := [.int v_44]) (rest := [.int v_30]) C hP hD hS hA (T_X1_code l D K Z Y ad d t1 hok (v_44) (show (-128 : Int) ≤ (v_44 : Int32).toInt ∧ (v_44 : Int32).toInt ≤ 127 from ⟨by omega, by omega⟩)) hE hZ (uwS m_53_0 m_14_1 m_14_2 m_14_3) (hdS 1 (by decide +kernel) rfl) ⟨Nat.le_of_ble_eq_true rfl, Nat.le_of_ble_eq_true rfl⟩ rfl rfl rfl hl.1 (Nat.le_of_ble_eq_true rfl) dX6_take_74 ⟨Nat.le_of_ble_eq_true rfl, Nat.le_of_ble_eq_true rfl⟩ (fun r_48 t_47 H locs hw hP hD hS => ?_)
                obtain ⟨h_50, h_51⟩ := hw
                obtain ⟨v_52, e_53⟩ : ∃ z, z = (v_30 : Int32) ||| (r_48 : Int32) := ⟨_, rfl⟩
                refine k_ior (v := v_52) C e_53.symm dX6_take_77 ?_
                refine lv_istore (lv' := [(4, .int v_52), (0, .ref (ad 18)), (1, .ref (ad 17)), (2, .int x2), (3, .int w25_3), (5, .int w25_5)]) C.1 C.2.1 dX6_take_78 hl (by decide) rfl (fun ls hl => ?_)
                have hl : lv_has ls 6 [(0, .ref (ad 18)), (1, .ref (ad 17)), (2, .int x2), (3, .int w25_3), (4, .int v_52), (5, .int w25_5)] := lv_sub hl [1, 2, 3, 4, 0, 5] rfl
                refine lv_aload_n C.1 C.2.1 dX6_take_80 rfl (lv_at hl 0 rfl) ?_
                refine lv_dup C.1 C.2.1 dX6_take_81 rfl ?_
                refine k_get (v := .int (t1.1 18 1)) C hP 18 rfl rfl inlX6 1 (by decide) m_44_3 rfl dX6_take_82 ?_
                refine lv_iconst (v := 1) C.1 C.2.1 dX6_take_85 (by decide) ?_
                obtain ⟨v_55, e_56⟩ : ∃ z, z = ((t1.1 18 1) : Int32) + (1 : Int32) := ⟨_, rfl⟩
                have h_57 : v_55.toInt = (t1.1 18 1).toInt + 1 := by rw [e_56]; exact ti_iadd (by show (_ : Int) ≤ (t1.1 18 1).toInt + 1; omega) (by show (t1.1 18 1).toInt + 1 < (_ : Int); omega)
                refine k_iadd (v := v_55) C e_56.symm dX6_take_86 ?_
                refine k_put (ws' := (WX d) K ad (uI t1 18 1 v_55)) (v := .int v_55) C hP hD hS 18 rfl rfl inlX6 tyX6_ok nmX6 1 (by decide) m_44_3 rfl rfl rfl rfl rfl dX6_take_87 (fun H locs hP hD hS => ?_)
                have hok : okX (uI t1 18 1 v_55) := ⟨okI_I hok.1 18 1 v_55 (show (0 : Int) ≤ (v_55 : Int32).toInt ∧ (v_55 : Int32).toInt ≤ 2701 from ⟨by omega, by omega⟩), hok.2.1, trivial⟩
                have hfr : frA [(18, 1), (18, 3)] [] [17] [] t (uI t1 18 1 v_55) := frA_I hfr 18 1 _ rfl
                exact L_90 (uI t1 18 1 v_55) w25_3 v_52 w25_5 _ _ _ hok hfr ⟨by omega, by omega⟩ ⟨by omega, by omega⟩ (show ∃ a, d.1 916 = some a from by exact ⟨_, hp_916⟩) (show v_55.toInt ≤ 2700 from by omega) (show x2.toInt ≤ w25_3.toInt from by omega) (show w25_3.toInt < x2.toInt + 16 from by omega) (show (x2.toInt + 16 - w25_3.toInt) < (fuel_11 : Int) + 1 from by omega) (show (5 : Int) - w25_5.toInt < (fuel_25 : Int) + 1 from by omega) hP hD hS (lv_sub hl [0, 1, 2, 3, 4, 5] rfl)
      refine lv_iload_n C.1 C.2.1 dX6_take_11 rfl (lv_at hl 3 rfl) ?_
      refine lv_iload_n C.1 C.2.1 dX6_take_12 rfl (lv_at hl 2 rfl) ?_
      refine lv_bipush (v := 16) C.1 C.2.1 dX6_take_13 (by decide) ?_
      obtain ⟨v_58, e_59⟩ : ∃ z, z = (x2 : Int32) + (16 : Int32) := ⟨_, rfl⟩
      have h_60 : v_58.toInt = x2.toInt + 16 := by rw [e_59]; exact ti_iadd (by show (_ : Int) ≤ x2.toInt + 16; omega) (by show x2.toInt + 16 < (_ : Int); omega)
      refine k_iadd (v := v_58) C e_59.symm dX6_take_15 ?_
      refine lv_icmp_ge (tgt := 117) C.1 C.2.1 dX6_take_16 (by decide) (fun c_61 => ?_) (fun c_61 => ?_)
      · replace c_61 : v_58.toInt ≤ w11_3.toInt := i_le c_61
        refine lv_aload_n C.1 C.2.1 dX6_take_117 rfl (lv_at hl 0 rfl) ?_
        refine lv_dup C.1 C.2.1 dX6_take_118 rfl ?_
        refine k_get (v := .int (t1.1 18 1)) C hP 18 rfl rfl inlX6 1 (by decide) m_44_3 rfl dX6_take_119 ?_
        refine lv_iconst (v := 1) C.1 C.2.1 dX6_take_122 (by decide) ?_
        obtain ⟨v_62, e_63⟩ : ∃ z, z = ((t1.1 18 1) : Int32) + (1 : Int32) := ⟨_, rfl⟩
        have h_64 : v_62.toInt = (t1.1 18 1).toInt + 1 := by rw [e_63]; exact ti_iadd (by show (_ : Int) ≤ (t1.1 18 1).toInt + 1; omega) (by show (t1.1 18 1).toInt + 1 < (_ : Int); omega)
        refine k_iadd (v := v_62) C e_63.symm dX6_take_123 ?_
        refine k_put (ws' := (WX d) K ad (uI t1 18 1 v_62)) (v := .int v_62) C hP hD hS 18 rfl rfl inlX6 tyX6_ok nmX6 1 (by decide) m_44_3 rfl rfl rfl rfl rfl dX6_take_124 (fun H locs hP hD hS => ?_)
        have hok : okX (uI t1 18 1 v_62) := ⟨okI_I hok.1 18 1 v_62 (show (0 : Int) ≤ (v_62 : Int32).toInt ∧ (v_62 : Int32).toInt ≤ 2701 from ⟨by omega, by omega⟩), hok.2.1, trivial⟩
        have hfr : frA [(18, 1), (18, 3)] [] [17] [] t (uI t1 18 1 v_62) := frA_I hfr 18 1 _ rfl
        refine lv_aload_n C.1 C.2.1 dX6_take_127 rfl (lv_at hl 0 rfl) ?_
        refine lv_dup C.1 C.2.1 dX6_take_128 rfl ?_
        refine k_get (v := .int (t1.1 18 3)) C hP 18 rfl rfl inlX6 3 (by decide) m_44_7 rfl dX6_take_129 ?_
        refine lv_iconst (v := 1) C.1 C.2.1 dX6_take_132 (by decide) ?_
        obtain ⟨v_65, e_66⟩ : ∃ z, z = ((t1.1 18 3) : Int32) - (1 : Int32) := ⟨_, rfl⟩
        refine k_isub (v := v_65) C e_66.symm dX6_take_133 ?_
        refine k_put (ws' := (WX d) K ad (uI (uI t1 18 1 v_62) 18 3 v_65)) (v := .int v_65) C hP hD hS 18 rfl rfl inlX6 tyX6_ok nmX6 3 (by decide) m_44_7 rfl rfl rfl rfl rfl dX6_take_134 (fun H locs hP hD hS => ?_)
        have hok : okX (uI (uI t1 18 1 v_62) 18 3 v_65) := ⟨okI_I hok.1 18 3 v_65 (show (-2147483648 : Int) ≤ (v_65 : Int32).toInt ∧ (v_65 : Int32).toInt ≤ 2147483647 from (i_rng _)), hok.2.1, trivial⟩
        have hfr : frA [(18, 1), (18, 3)] [] [17] [] t (uI (uI t1 18 1 v_62) 18 3 v_65) := frA_I hfr 18 3 _ rfl
        exact g_vret C hr hlocks hP hD hS (uI (uI t1 18 1 v_62) 18 3 v_65) rfl ⟨hok, hfr⟩ (Nat.le_of_ble_eq_true rfl) (Nat.le_of_ble_eq_true rfl) dX6_take_137
      · replace c_61 : w11_3.toInt < v_58.toInt := i_nle c_61
        refine lv_iconst (v := 0) C.1 C.2.1 dX6_take_19 (by decide) ?_
        refine lv_istore (lv' := [(4, .int 0), (0, .ref (ad 18)), (1, .ref (ad 17)), (2, .int x2), (3, .int w11_3)]) C.1 C.2.1 dX6_take_20 hl (by decide) rfl (fun ls hl => ?_)
        have hl : lv_has ls 6 [(0, .ref (ad 18)), (1, .ref (ad 17)), (2, .int x2), (3, .int w11_3), (4, .int 0)] := lv_sub hl [1, 2, 3, 4, 0] rfl
        refine lv_iconst (v := 0) C.1 C.2.1 dX6_take_22 (by decide) ?_
        refine lv_istore (lv' := [(5, .int 0), (0, .ref (ad 18)), (1, .ref (ad 17)), (2, .int x2), (3, .int w11_3), (4, .int 0)]) C.1 C.2.1 dX6_take_23 hl (by decide) rfl (fun ls hl => ?_)
        have hl : lv_has ls 6 [(0, .ref (ad 18)), (1, .ref (ad 17)), (2, .int x2), (3, .int w11_3), (4, .int 0), (5, .int 0)] := lv_sub hl [1, 2, 3, 4, 5, 0] rfl
        exact L_25 6 t1 w11_3 0 0 _ _ _ hok hfr ⟨by omega, by omega⟩ ⟨by decide, by decide⟩ (show ∃ a, d.1 916 = some a from by exact ⟨_, hp_916⟩) (show (t1.1 18 1).toInt ≤ 2700 from by omega) (show x2.toInt ≤ w11_3.toInt from by omega) (show w11_3.toInt < x2.toInt + 16 from by omega) (show (x2.toInt + 16 - w11_3.toInt) < (fuel_11 : Int) + 1 from by omega) (show (5 : Int) - 0 < ((6 : Nat) : Int) from by omega) hP hD hS (lv_sub hl [0, 1, 2, 3, 4, 5] rfl)
  refine lv_aload_n C.1 C.2.1 dX6_take_0 rfl (lv_at hl 0 rfl) ?_
  refine lv_iconst (v := 0) C.1 C.2.1 dX6_take_1 (by decide) ?_
  refine g_Vi (As := [.int 0]) (rest := []) C hP hD hS hA (T_X6_hasCard l D K Z Y ad d t hok hod 0 (show (0 : Int) ≤ (0 : Int32).toInt ∧ (0 : Int32).toInt ≤ 1 from ⟨by decide, by decide⟩)) hE hZ (uwV m_52_23 m_49_20 m_49_21 m_3_16 m_49_22) (hdV 1 (by decide +kernel) rfl) ⟨Nat.le_of_ble_eq_true rfl, Nat.le_of_ble_eq_true rfl⟩ rfl rfl (ci := 5) (q0 := 18) rfl rfl rfl hl.1 (Nat.le_of_ble_eq_true rfl) dX6_take_2 ⟨Nat.le_of_ble_eq_true rfl, Nat.le_of_ble_eq_true rfl⟩ (fun r_69 t_68 H locs hw hP hD hS => ?_)
  obtain ⟨h_71, h_72, p_73, p_74⟩ := hw
  replace p_73 : r_69.toInt = 1 → ∃ a, d.1 916 = some a := p_73
  replace p_74 : r_69.toInt = 1 → (t.1 18 1).toInt < (t.1 18 2).toInt := p_74
  refine lv_if_ne (tgt := 9) C.1 C.2.1 dX6_take_5 (by decide) (fun c_75 => ?_) (fun c_75 => ?_)
  · replace c_75 : ¬ r_69.toInt = 0 := i_ne c_75
    refine lv_iload_n C.1 C.2.1 dX6_take_9 rfl (lv_at hl 2 rfl) ?_
    refine lv_istore_n (lv' := [(3, .int x2), (0, .ref (ad 18)), (1, .ref (ad 17)), (2, .int x2)]) C.1 C.2.1 dX6_take_10 rfl hl (by decide) rfl (fun ls hl => ?_)
    have hl : lv_has ls 6 [(0, .ref (ad 18)), (1, .ref (ad 17)), (2, .int x2), (3, .int x2)] := lv_sub hl [1, 2, 3, 0] rfl
    exact L_11 20 t x2 _ _ _ hok hfr ⟨by omega, by omega⟩ (show ∃ a, d.1 916 = some a from by exact p_73 (by omega)) (show (t.1 18 1).toInt ≤ 2700 from by omega) (show x2.toInt ≤ x2.toInt from by omega) (show x2.toInt ≤ x2.toInt + 16 from by omega) (show (x2.toInt + 16 - x2.toInt) < ((20 : Nat) : Int) from by omega) hP hD hS (lv_sub hl [0, 1, 2, 3] rfl)
  · replace c_75 : r_69.toInt = 0 := i_eq c_75
    exact g_vret C hr hlocks hP hD hS t rfl ⟨hok, hfr⟩ (Nat.le_of_ble_eq_true rfl) (Nat.le_of_ble_eq_true rfl) dX6_take_8


set_option maxHeartbeats 4000000 in
set_option maxRecDepth 100000 in
theorem T_X6_add_1 (l : Launch) (D : va_G) (K : Nat → ClassId) (Z Y : Nat → Nat) (ad : Nat → Nat) (d : dSt) (t : tSt) (hok : okX t) (hod : okD d) (hs0 : (t.1 18 2).toInt + (t.1 2 3).toInt ≤ 2690) (hs1 : (t.1 2 2).toInt + (t.1 2 3).toInt ≤ 1280) : dMet l yX6_add cX6_add 2 none (rmD 1 2000 560000) D K Z Y [.ref (ad 18), .ref (ad 2)] ((WX d) K ad t) (QDV D K ad d (fun (u : tSt) (dd : dSt) => okX u ∧ frA [(18, 2), (18, 3)] [] [] [] t u ∧ okD dd ∧ ((u.1 18 2).toInt ≤ (t.1 18 2).toInt + (t.1 2 3).toInt + 1))) 2000 560000 := by
  refine d_met d RX6 ⟨rfl, by decide +kernel⟩ (Nat.le_of_ble_eq_true rfl) ?_
  intro p e s m below meth c A ls C hE hZ hX hr hlocks hA hP hD hS hl
  have hl : lv_has ls 2 [(0, .ref (ad 18)), (1, .ref (ad 2))] := hl
  have hle : dLe d d := dLe_rf
  have hdf : dFr s.heap.size d d := dFr_rf
  have hokt := hok
  have hfr : frA [(18, 2), (18, 3)] [] [] [] t t := frA_rf
  have h_1 : (0 : Int) ≤ (t.1 2 2).toInt ∧ (t.1 2 2).toInt ≤ 1280 := hok.1 2 2
  have h_2 : (0 : Int) ≤ (t.1 2 3).toInt ∧ (t.1 2 3).toInt ≤ 80 := hok.1 2 3
  have h_3 : (0 : Int) ≤ (t.1 18 2).toInt ∧ (t.1 18 2).toInt ≤ 2700 := hok.1 18 2
  refine lv_aload_n C.1 C.2.1 dX6_add_0 rfl (lv_at hl 0 rfl) ?_
  refine k_get (v := va_rf (d.1 916)) C hP 18 rfl rfl inlX6 0 (by decide) m_44_0 rfl dX6_add_1 ?_
  rcases opt_or (d.1 916) with hd_4 | ⟨a_5, hd_4⟩
  · refine n_ifnonnullN C.1 C.2.1 hd_4 dX6_add_4 ?_
    refine lv_aload_n C.1 C.2.1 dX6_add_7 rfl (lv_at hl 0 rfl) ?_
    refine lv_sipush (v := 32400) C.1 C.2.1 dX6_add_8 (by decide) ?_
    refine k_late916 (d := d) C hP hD hS hA hle hdf m_1_14 m_44_0 hd_4 ⟨Nat.le_of_ble_eq_true rfl, Nat.le_of_ble_eq_true rfl⟩ dX6_add_11 dX6_add_13 (fun q_6 H locs hP hD hS hle hdf => ?_)
    have hnd_7 : (nD d 916 q_6).1 916 = some q_6 := nD_at
    have hod : okD (nD d 916 q_6) := okD_n hod
    refine lv_aload_n C.1 C.2.1 dX6_add_16 rfl (lv_at hl 0 rfl) ?_
    refine k_get (v := .int (t.1 18 2)) C hP 18 rfl rfl inlX6 2 (by decide) m_44_1 rfl dX6_add_17 ?_
    refine lv_aload_n C.1 C.2.1 dX6_add_20 rfl (lv_at hl 1 rfl) ?_
    refine k_get (v := .int (t.1 2 3)) C hP 2 rfl rfl inlX9 3 (by decide) m_44_2 rfl dX6_add_21 ?_
    obtain ⟨v_8, e_9⟩ : ∃ z, z = ((t.1 18 2) : Int32) + ((t.1 2 3) : Int32) := ⟨_, rfl⟩
    have h_10 : v_8.toInt = (t.1 18 2).toInt + (t.1 2 3).toInt := by rw [e_9]; exact ti_iadd (by show (_ : Int) ≤ (t.1 18 2).toInt + (t.1 2 3).toInt; omega) (by show (t.1 18 2).toInt + (t.1 2 3).toInt < (_ : Int); omega)
    refine k_iadd (v := v_8) C e_9.symm dX6_add_24 ?_
    refine lv_sipush (v := 32400) C.1 C.2.1 dX6_add_25 (by decide) ?_
    refine lv_icmp_lt (tgt := 74) C.1 C.2.1 dX6_add_28 (by decide) (fun c_11 => ?_) (fun c_11 => False.elim (by have c_11 : 32400 ≤ v_8.toInt := i_nlt c_11; omega))
    replace c_11 : v_8.toInt < 32400 := i_lt c_11
    refine lv_aload_n C.1 C.2.1 dX6_add_74 rfl (lv_at hl 0 rfl) ?_
    refine k_get (v := .int (t.1 18 2)) C hP 18 rfl rfl inlX6 2 (by decide) m_44_1 rfl dX6_add_75 ?_
    refine lv_aload_n C.1 C.2.1 dX6_add_78 rfl (lv_at hl 1 rfl) ?_
    refine k_get (v := .int (t.1 2 3)) C hP 2 rfl rfl inlX9 3 (by decide) m_44_2 rfl dX6_add_79 ?_
    obtain ⟨v_12, e_13⟩ : ∃ z, z = ((t.1 18 2) : Int32) + ((t.1 2 3) : Int32) := ⟨_, rfl⟩
    have h_14 : v_12.toInt = (t.1 18 2).toInt + (t.1 2 3).toInt := by rw [e_13]; exact ti_iadd (by show (_ : Int) ≤ (t.1 18 2).toInt + (t.1 2 3).toInt; omega) (by show (t.1 18 2).toInt + (t.1 2 3).toInt < (_ : Int); omega)
    refine k_iadd (v := v_12) C e_13.symm dX6_add_82 ?_
    refine lv_sipush (v := 32400) C.1 C.2.1 dX6_add_83 (by decide) ?_
    refine lv_icmp_ge (tgt := 156) C.1 C.2.1 dX6_add_86 (by decide) (fun c_15 => False.elim (by have c_15 : 32400 ≤ v_12.toInt := i_le c_15; omega)) (fun c_15 => ?_)
    replace c_15 : v_12.toInt < 32400 := i_nle c_15
    refine lv_aload_n C.1 C.2.1 dX6_add_89 rfl (lv_at hl 1 rfl) ?_
    refine k_get (v := .ref (ad 8)) C hP 2 rfl rfl inlX9 0 (by decide) m_44_5 rfl dX6_add_90 ?_
    refine lv_aload_n C.1 C.2.1 dX6_add_93 rfl (lv_at hl 1 rfl) ?_
    refine k_get (v := .int (t.1 2 2)) C hP 2 rfl rfl inlX9 2 (by decide) m_44_6 rfl dX6_add_94 ?_
    refine lv_aload_n C.1 C.2.1 dX6_add_97 rfl (lv_at hl 0 rfl) ?_
    refine k_get (v := .ref q_6) C hP 18 rfl rfl inlX6 0 (by decide) m_44_0 (rf_eq hnd_7) dX6_add_98 ?_
    refine lv_aload_n C.1 C.2.1 dX6_add_101 rfl (lv_at hl 0 rfl) ?_
    refine k_get (v := .int (t.1 18 2)) C hP 18 rfl rfl inlX6 2 (by decide) m_44_1 rfl dX6_add_102 ?_
    refine lv_aload_n C.1 C.2.1 dX6_add_105 rfl (lv_at hl 1 rfl) ?_
    refine k_get (v := .int (t.1 2 3)) C hP 2 rfl rfl inlX9 3 (by decide) m_44_2 rfl dX6_add_106 ?_
    obtain ⟨q_16, hq_17, hs_18⟩ := WX_at916 (K := K) (ad := ad) (t := t) (d := (nD d 916 q_6)) hnd_7
    refine k_copy (ws' := WX (cD (nD d 916 q_6) 916 (va_cpy (t.2.2.1 8) ((nD d 916 q_6).2 916) ((t.1 2 2) : Int32).toNatClampNeg ((t.1 18 2) : Int32).toNatClampNeg ((t.1 2 3) : Int32).toNatClampNeg)) K ad t) C hl.1 hP hD hS 8 q_16 2 rfl hq_17 rfl rfl (fun hz => by have hz2 : (t.1 2 2).toInt < 0 := i_lt hz; omega) (fun hz => by have hz2 : (t.1 18 2).toInt < 0 := i_lt hz; omega) (fun hz => by have hz2 : (t.1 2 3).toInt < 0 := i_lt hz; omega) rfl rfl rfl (by have hq1 := clamp_eq (x := ((t.1 2 2) : Int32)) (by first | decide | omega); have hq2 := clamp_eq (x := ((t.1 2 3) : Int32)) (by first | decide | omega); first | (have hq3 : ((t.1 2 2) : Int32).toInt = 0 := rfl; omega) | (have hq3 : ((t.1 2 3) : Int32).toInt = 0 := rfl; omega) | (have hq3 : ((t.1 2 2) : Int32).toInt = 0 := rfl; have hq4 : ((t.1 2 3) : Int32).toInt = 0 := rfl; omega) | omega) (by have hq1 := clamp_eq (x := ((t.1 18 2) : Int32)) (by first | decide | omega); have hq2 := clamp_eq (x := ((t.1 2 3) : Int32)) (by first | decide | omega); first | (have hq3 : ((t.1 18 2) : Int32).toInt = 0 := rfl; omega) | (have hq3 : ((t.1 2 3) : Int32).toInt = 0 := rfl; omega) | (have hq3 : ((t.1 18 2) : Int32).toInt = 0 := rfl; have hq4 : ((t.1 2 3) : Int32).toInt = 0 := rfl; omega) | omega) (fun i hi => fit_b (hok.2.1 8 _)) m_44_4 m_10_14 m_10_15 m_10_16 (Nat.le_of_ble_eq_true rfl) (Nat.le_of_ble_eq_true rfl) (hs_18 _) dX6_add_109 (fun H locs hP hD hS => ?_)
    rw [show newC d (nD d 916 q_6) = newC d (cD (nD d 916 q_6) 916 (va_cpy (t.2.2.1 8) ((nD d 916 q_6).2 916) ((t.1 2 2) : Int32).toNatClampNeg ((t.1 18 2) : Int32).toNatClampNeg ((t.1 2 3) : Int32).toNatClampNeg)) from rfl]
    have hle : dLe d (cD (nD d 916 q_6) 916 (va_cpy (t.2.2.1 8) ((nD d 916 q_6).2 916) ((t.1 2 2) : Int32).toNatClampNeg ((t.1 18 2) : Int32).toNatClampNeg ((t.1 2 3) : Int32).toNatClampNeg)) := hle
    have hdf : dFr s.heap.size d (cD (nD d 916 q_6) 916 (va_cpy (t.2.2.1 8) ((nD d 916 q_6).2 916) ((t.1 2 2) : Int32).toNatClampNeg ((t.1 18 2) : Int32).toNatClampNeg ((t.1 2 3) : Int32).toNatClampNeg)) := hdf
    have hod : okD (cD (nD d 916 q_6) 916 (va_cpy (t.2.2.1 8) ((nD d 916 q_6).2 916) ((t.1 2 2) : Int32).toNatClampNeg ((t.1 18 2) : Int32).toNatClampNeg ((t.1 2 3) : Int32).toNatClampNeg)) := okD_c9 (cpy_r (hok.2.1 8) hod)
    refine lv_aload_n C.1 C.2.1 dX6_add_112 rfl (lv_at hl 0 rfl) ?_
    refine lv_dup C.1 C.2.1 dX6_add_113 rfl ?_
    refine k_get (v := .int (t.1 18 2)) C hP 18 rfl rfl inlX6 2 (by decide) m_44_1 rfl dX6_add_114 ?_
    refine lv_aload_n C.1 C.2.1 dX6_add_117 rfl (lv_at hl 1 rfl) ?_
    refine k_get (v := .int (t.1 2 3)) C hP 2 rfl rfl inlX9 3 (by decide) m_44_2 rfl dX6_add_118 ?_
    obtain ⟨v_19, e_20⟩ : ∃ z, z = ((t.1 18 2) : Int32) + ((t.1 2 3) : Int32) := ⟨_, rfl⟩
    have h_21 : v_19.toInt = (t.1 18 2).toInt + (t.1 2 3).toInt := by rw [e_20]; exact ti_iadd (by show (_ : Int) ≤ (t.1 18 2).toInt + (t.1 2 3).toInt; omega) (by show (t.1 18 2).toInt + (t.1 2 3).toInt < (_ : Int); omega)
    refine k_iadd (v := v_19) C e_20.symm dX6_add_121 ?_
    refine k_put (ws' := (WX (cD (nD d 916 q_6) 916 (va_cpy (t.2.2.1 8) ((nD d 916 q_6).2 916) ((t.1 2 2) : Int32).toNatClampNeg ((t.1 18 2) : Int32).toNatClampNeg ((t.1 2 3) : Int32).toNatClampNeg))) K ad (uI t 18 2 v_19)) (v := .int v_19) C hP hD hS 18 rfl rfl inlX6 tyX6_ok nmX6 2 (by decide) m_44_1 rfl rfl rfl rfl rfl dX6_add_122 (fun H locs hP hD hS => ?_)
    have hok : okX (uI t 18 2 v_19) := ⟨okI_I hok.1 18 2 v_19 (show (0 : Int) ≤ (v_19 : Int32).toInt ∧ (v_19 : Int32).toInt ≤ 2700 from ⟨by omega, by omega⟩), hok.2.1, trivial⟩
    have hfr : frA [(18, 2), (18, 3)] [] [] [] t (uI t 18 2 v_19) := frA_I hfr 18 2 _ rfl
    refine lv_aload_n C.1 C.2.1 dX6_add_125 rfl (lv_at hl 0 rfl) ?_
    refine k_get (v := .ref q_6) C hP 18 rfl rfl inlX6 0 (by decide) m_44_0 (rf_eq hnd_7) dX6_add_126 ?_
    refine lv_aload_n C.1 C.2.1 dX6_add_129 rfl (lv_at hl 0 rfl) ?_
    refine k_get (v := .int v_19) C hP 18 rfl rfl inlX6 2 (by decide) m_44_1 rfl dX6_add_130 ?_
    refine lv_bipush (v := 10) C.1 C.2.1 dX6_add_133 (by decide) ?_
    obtain ⟨q_22, hq_23, hs_24⟩ := WX_at916 (K := K) (ad := ad) (t := (uI t 18 2 v_19)) (d := (cD (nD d 916 q_6) 916 (va_cpy (t.2.2.1 8) ((nD d 916 q_6).2 916) ((t.1 2 2) : Int32).toNatClampNeg ((t.1 18 2) : Int32).toNatClampNeg ((t.1 2 3) : Int32).toNatClampNeg))) hnd_7
    refine k_bst (ws' := WX (cD (cD (nD d 916 q_6) 916 (va_cpy (t.2.2.1 8) ((nD d 916 q_6).2 916) ((t.1 2 2) : Int32).toNatClampNeg ((t.1 18 2) : Int32).toNatClampNeg ((t.1 2 3) : Int32).toNatClampNeg)) 916 (upd ((cD (nD d 916 q_6) 916 (va_cpy (t.2.2.1 8) ((nD d 916 q_6).2 916) ((t.1 2 2) : Int32).toNatClampNeg ((t.1 18 2) : Int32).toNatClampNeg ((t.1 2 3) : Int32).toNatClampNeg)).2 916) (v_19 : Int32).toNatClampNeg 10)) K ad (uI t 18 2 v_19)) (x' := 10) C hP hD hS q_22 hq_23 (vp_in_iff.mpr ⟨by omega, by omega⟩) rfl rfl (hs_24 _) dX6_add_135 (fun H locs hP hD hS => ?_)
    rw [show newC d (cD (nD d 916 q_6) 916 (va_cpy (t.2.2.1 8) ((nD d 916 q_6).2 916) ((t.1 2 2) : Int32).toNatClampNeg ((t.1 18 2) : Int32).toNatClampNeg ((t.1 2 3) : Int32).toNatClampNeg)) = newC d (cD (cD (nD d 916 q_6) 916 (va_cpy (t.2.2.1 8) ((nD d 916 q_6).2 916) ((t.1 2 2) : Int32).toNatClampNeg ((t.1 18 2) : Int32).toNatClampNeg ((t.1 2 3) : Int32).toNatClampNeg)) 916 (upd ((cD (nD d 916 q_6) 916 (va_cpy (t.2.2.1 8) ((nD d 916 q_6).2 916) ((t.1 2 2) : Int32).toNatClampNeg ((t.1 18 2) : Int32).toNatClampNeg ((t.1 2 3) : Int32).toNatClampNeg)).2 916) (v_19 : Int32).toNatClampNeg 10)) from rfl]
    have hle : dLe d (cD (cD (nD d 916 q_6) 916 (va_cpy (t.2.2.1 8) ((nD d 916 q_6).2 916) ((t.1 2 2) : Int32).toNatClampNeg ((t.1 18 2) : Int32).toNatClampNeg ((t.1 2 3) : Int32).toNatClampNeg)) 916 (upd ((cD (nD d 916 q_6) 916 (va_cpy (t.2.2.1 8) ((nD d 916 q_6).2 916) ((t.1 2 2) : Int32).toNatClampNeg ((t.1 18 2) : Int32).toNatClampNeg ((t.1 2 3) : Int32).toNatClampNeg)).2 916) (v_19 : Int32).toNatClampNeg 10)) := hle
    have hdf : dFr s.heap.size d (cD (cD (nD d 916 q_6) 916 (va_cpy (t.2.2.1 8) ((nD d 916 q_6).2 916) ((t.1 2 2) : Int32).toNatClampNeg ((t.1 18 2) : Int32).toNatClampNeg ((t.1 2 3) : Int32).toNatClampNeg)) 916 (upd ((cD (nD d 916 q_6) 916 (va_cpy (t.2.2.1 8) ((nD d 916 q_6).2 916) ((t.1 2 2) : Int32).toNatClampNeg ((t.1 18 2) : Int32).toNatClampNeg ((t.1 2 3) : Int32).toNatClampNeg)).2 916) (v_19 : Int32).toNatClampNeg 10)) := hdf
    have hod : okD (cD (cD (nD d 916 q_6) 916 (va_cpy (t.2.2.1 8) ((nD d 916 q_6).2 916) ((t.1 2 2) : Int32).toNatClampNeg ((t.1 18 2) : Int32).toNatClampNeg ((t.1 2 3) : Int32).toNatClampNeg)) 916 (upd ((cD (nD d 916 q_6) 916 (va_cpy (t.2.2.1 8) ((nD d 916 q_6).2 916) ((t.1 2 2) : Int32).toNatClampNeg ((t.1 18 2) : Int32).toNatClampNeg ((t.1 2 3) : Int32).toNatClampNeg)).2 916) (v_19 : Int32).toNatClampNeg 10)) := okD_c9 (fun i => upd_r (hod) (by decide) i)
    refine lv_aload_n C.1 C.2.1 dX6_add_136 rfl (lv_at hl 0 rfl) ?_
    refine lv_dup C.1 C.2.1 dX6_add_137 rfl ?_
    refine k_get (v := .int v_19) C hP 18 rfl rfl inlX6 2 (by decide) m_44_1 rfl dX6_add_138 ?_
    refine lv_iconst (v := 1) C.1 C.2.1 dX6_add_141 (by decide) ?_
    obtain ⟨v_25, e_26⟩ : ∃ z, z = (v_19 : Int32) + (1 : Int32) := ⟨_, rfl⟩
    have h_27 : v_25.toInt = v_19.toInt + 1 := by rw [e_26]; exact ti_iadd (by show (_ : Int) ≤ v_19.toInt + 1; omega) (by show v_19.toInt + 1 < (_ : Int); omega)
    refine k_iadd (v := v_25) C e_26.symm dX6_add_142 ?_
    refine k_put (ws' := (WX (cD (cD (nD d 916 q_6) 916 (va_cpy (t.2.2.1 8) ((nD d 916 q_6).2 916) ((t.1 2 2) : Int32).toNatClampNeg ((t.1 18 2) : Int32).toNatClampNeg ((t.1 2 3) : Int32).toNatClampNeg)) 916 (upd ((cD (nD d 916 q_6) 916 (va_cpy (t.2.2.1 8) ((nD d 916 q_6).2 916) ((t.1 2 2) : Int32).toNatClampNeg ((t.1 18 2) : Int32).toNatClampNeg ((t.1 2 3) : Int32).toNatClampNeg)).2 916) (v_19 : Int32).toNatClampNeg 10))) K ad (uI (uI t 18 2 v_19) 18 2 v_25)) (v := .int v_25) C hP hD hS 18 rfl rfl inlX6 tyX6_ok nmX6 2 (by decide) m_44_1 rfl rfl rfl rfl rfl dX6_add_143 (fun H locs hP hD hS => ?_)
    have hok : okX (uI (uI t 18 2 v_19) 18 2 v_25) := ⟨okI_I hok.1 18 2 v_25 (show (0 : Int) ≤ (v_25 : Int32).toInt ∧ (v_25 : Int32).toInt ≤ 2700 from ⟨by omega, by omega⟩), hok.2.1, trivial⟩
    have hfr : frA [(18, 2), (18, 3)] [] [] [] t (uI (uI t 18 2 v_19) 18 2 v_25) := frA_I hfr 18 2 _ rfl
    refine lv_aload_n C.1 C.2.1 dX6_add_146 rfl (lv_at hl 0 rfl) ?_
    refine lv_dup C.1 C.2.1 dX6_add_147 rfl ?_
    refine k_get (v := .int (t.1 18 3)) C hP 18 rfl rfl inlX6 3 (by decide) m_44_7 rfl dX6_add_148 ?_
    refine lv_iconst (v := 1) C.1 C.2.1 dX6_add_151 (by decide) ?_
    obtain ⟨v_28, e_29⟩ : ∃ z, z = ((t.1 18 3) : Int32) + (1 : Int32) := ⟨_, rfl⟩
    refine k_iadd (v := v_28) C e_29.symm dX6_add_152 ?_
    refine k_put (ws' := (WX (cD (cD (nD d 916 q_6) 916 (va_cpy (t.2.2.1 8) ((nD d 916 q_6).2 916) ((t.1 2 2) : Int32).toNatClampNeg ((t.1 18 2) : Int32).toNatClampNeg ((t.1 2 3) : Int32).toNatClampNeg)) 916 (upd ((cD (nD d 916 q_6) 916 (va_cpy (t.2.2.1 8) ((nD d 916 q_6).2 916) ((t.1 2 2) : Int32).toNatClampNeg ((t.1 18 2) : Int32).toNatClampNeg ((t.1 2 3) : Int32).toNatClampNeg)).2 916) (v_19 : Int32).toNatClampNeg 10))) K ad (uI (uI (uI t 18 2 v_19) 18 2 v_25) 18 3 v_28)) (v := .int v_28) C hP hD hS 18 rfl rfl inlX6 tyX6_ok nmX6 3 (by decide) m_44_7 rfl rfl rfl rfl rfl dX6_add_153 (fun H locs hP hD hS => ?_)
    have hok : okX (uI (uI (uI t 18 2 v_19) 18 2 v_25) 18 3 v_28) := ⟨okI_I hok.1 18 3 v_28 (show (-2147483648 : Int) ≤ (v_28 : Int32).toInt ∧ (v_28 : Int32).toInt ≤ 2147483647 from (i_rng _)), hok.2.1, trivial⟩
    have hfr : frA [(18, 2), (18, 3)] [] [] [] t (uI (uI (uI t 18 2 v_19) 18 2 v_25) 18 3 v_28) := frA_I hfr 18 3 _ rfl
    exact g_Dvret C hr hlocks hP hD hS ⟨hok, hfr, hod, (show v_25.toInt ≤ (t.1 18 2).toInt + (t.1 2 3).toInt + 1 from by omega)⟩ hle hdf (Nat.le_of_ble_eq_true rfl) (Nat.le_of_ble_eq_true rfl) dX6_add_156
  · refine n_ifnonnullS (tgt := 16) C.1 C.2.1 hd_4 dX6_add_4 (by decide) ?_
    refine lv_aload_n C.1 C.2.1 dX6_add_16 rfl (lv_at hl 0 rfl) ?_
    refine k_get (v := .int (t.1 18 2)) C hP 18 rfl rfl inlX6 2 (by decide) m_44_1 rfl dX6_add_17 ?_
    refine lv_aload_n C.1 C.2.1 dX6_add_20 rfl (lv_at hl 1 rfl) ?_
    refine k_get (v := .int (t.1 2 3)) C hP 2 rfl rfl inlX9 3 (by decide) m_44_2 rfl dX6_add_21 ?_
    obtain ⟨v_31, e_32⟩ : ∃ z, z = ((t.1 18 2) : Int32) + ((t.1 2 3) : Int32) := ⟨_, rfl⟩
    have h_33 : v_31.toInt = (t.1 18 2).toInt + (t.1 2 3).toInt := by rw [e_32]; exact ti_iadd (by show (_ : Int) ≤ (t.1 18 2).toInt + (t.1 2 3).toInt; omega) (by show (t.1 18 2).toInt + (t.1 2 3).toInt < (_ : Int); omega)
    refine k_iadd (v := v_31) C e_32.symm dX6_add_24 ?_
    refine lv_sipush (v := 32400) C.1 C.2.1 dX6_add_25 (by decide) ?_
    refine lv_icmp_lt (tgt := 74) C.1 C.2.1 dX6_add_28 (by decide) (fun c_34 => ?_) (fun c_34 => False.elim (by have c_34 : 32400 ≤ v_31.toInt := i_nlt c_34; omega))
    replace c_34 : v_31.toInt < 32400 := i_lt c_34
    refine lv_aload_n C.1 C.2.1 dX6_add_74 rfl (lv_at hl 0 rfl) ?_
    refine k_get (v := .int (t.1 18 2)) C hP 18 rfl rfl inlX6 2 (by decide) m_44_1 rfl dX6_add_75 ?_
    refine lv_aload_n C.1 C.2.1 dX6_add_78 rfl (lv_at hl 1 rfl) ?_
    refine k_get (v := .int (t.1 2 3)) C hP 2 rfl rfl inlX9 3 (by decide) m_44_2 rfl dX6_add_79 ?_
    obtain ⟨v_35, e_36⟩ : ∃ z, z = ((t.1 18 2) : Int32) + ((t.1 2 3) : Int32) := ⟨_, rfl⟩
    have h_37 : v_35.toInt = (t.1 18 2).toInt + (t.1 2 3).toInt := by rw [e_36]; exact ti_iadd (by show (_ : Int) ≤ (t.1 18 2).toInt + (t.1 2 3).toInt; omega) (by show (t.1 18 2).toInt + (t.1 2 3).toInt < (_ : Int); omega)
    refine k_iadd (v := v_35) C e_36.symm dX6_add_82 ?_
    refine lv_sipush (v := 32400) C.1 C.2.1 dX6_add_83 (by decide) ?_
    refine lv_icmp_ge (tgt := 156) C.1 C.2.1 dX6_add_86 (by decide) (fun c_38 => False.elim (by have c_38 : 32400 ≤ v_35.toInt := i_le c_38; omega)) (fun c_38 => ?_)
    replace c_38 : v_35.toInt < 32400 := i_nle c_38
    refine lv_aload_n C.1 C.2.1 dX6_add_89 rfl (lv_at hl 1 rfl) ?_
    refine k_get (v := .ref (ad 8)) C hP 2 rfl rfl inlX9 0 (by decide) m_44_5 rfl dX6_add_90 ?_
    refine lv_aload_n C.1 C.2.1 dX6_add_93 rfl (lv_at hl 1 rfl) ?_
    refine k_get (v := .int (t.1 2 2)) C hP 2 rfl rfl inlX9 2 (by decide) m_44_6 rfl dX6_add_94 ?_
    refine lv_aload_n C.1 C.2.1 dX6_add_97 rfl (lv_at hl 0 rfl) ?_
    refine k_get (v := .ref a_5) C hP 18 rfl rfl inlX6 0 (by decide) m_44_0 (rf_eq hd_4) dX6_add_98 ?_
    refine lv_aload_n C.1 C.2.1 dX6_add_101 rfl (lv_at hl 0 rfl) ?_
    refine k_get (v := .int (t.1 18 2)) C hP 18 rfl rfl inlX6 2 (by decide) m_44_1 rfl dX6_add_102 ?_
    refine lv_aload_n C.1 C.2.1 dX6_add_105 rfl (lv_at hl 1 rfl) ?_
    refine k_get (v := .int (t.1 2 3)) C hP 2 rfl rfl inlX9 3 (by decide) m_44_2 rfl dX6_add_106 ?_
    obtain ⟨q_39, hq_40, hs_41⟩ := WX_at916 (K := K) (ad := ad) (t := t) (d := d) hd_4
    refine k_copy (ws' := WX (cD d 916 (va_cpy (t.2.2.1 8) (d.2 916) ((t.1 2 2) : Int32).toNatClampNeg ((t.1 18 2) : Int32).toNatClampNeg ((t.1 2 3) : Int32).toNatClampNeg)) K ad t) C hl.1 hP hD hS 8 q_39 2 rfl hq_40 rfl rfl (fun hz => by have hz2 : (t.1 2 2).toInt < 0 := i_lt hz; omega) (fun hz => by have hz2 : (t.1 18 2).toInt < 0 := i_lt hz; omega) (fun hz => by have hz2 : (t.1 2 3).toInt < 0 := i_lt hz; omega) rfl rfl rfl (by have hq1 := clamp_eq (x := ((t.1 2 2) : Int32)) (by first | decide | omega); have hq2 := clamp_eq (x := ((t.1 2 3) : Int32)) (by first | decide | omega); first | (have hq3 : ((t.1 2 2) : Int32).toInt = 0 := rfl; omega) | (have hq3 : ((t.1 2 3) : Int32).toInt = 0 := rfl; omega) | (have hq3 : ((t.1 2 2) : Int32).toInt = 0 := rfl; have hq4 : ((t.1 2 3) : Int32).toInt = 0 := rfl; omega) | omega) (by have hq1 := clamp_eq (x := ((t.1 18 2) : Int32)) (by first | decide | omega); have hq2 := clamp_eq (x := ((t.1 2 3) : Int32)) (by first | decide | omega); first | (have hq3 : ((t.1 18 2) : Int32).toInt = 0 := rfl; omega) | (have hq3 : ((t.1 2 3) : Int32).toInt = 0 := rfl; omega) | (have hq3 : ((t.1 18 2) : Int32).toInt = 0 := rfl; have hq4 : ((t.1 2 3) : Int32).toInt = 0 := rfl; omega) | omega) (fun i hi => fit_b (hok.2.1 8 _)) m_44_4 m_10_14 m_10_15 m_10_16 (Nat.le_of_ble_eq_true rfl) (Nat.le_of_ble_eq_true rfl) (hs_41 _) dX6_add_109 (fun H locs hP hD hS => ?_)
    rw [show newC d d = newC d (cD d 916 (va_cpy (t.2.2.1 8) (d.2 916) ((t.1 2 2) : Int32).toNatClampNeg ((t.1 18 2) : Int32).toNatClampNeg ((t.1 2 3) : Int32).toNatClampNeg)) from rfl]
    have hle : dLe d (cD d 916 (va_cpy (t.2.2.1 8) (d.2 916) ((t.1 2 2) : Int32).toNatClampNeg ((t.1 18 2) : Int32).toNatClampNeg ((t.1 2 3) : Int32).toNatClampNeg)) := hle
    have hdf : dFr s.heap.size d (cD d 916 (va_cpy (t.2.2.1 8) (d.2 916) ((t.1 2 2) : Int32).toNatClampNeg ((t.1 18 2) : Int32).toNatClampNeg ((t.1 2 3) : Int32).toNatClampNeg)) := hdf
    have hod : okD (cD d 916 (va_cpy (t.2.2.1 8) (d.2 916) ((t.1 2 2) : Int32).toNatClampNeg ((t.1 18 2) : Int32).toNatClampNeg ((t.1 2 3) : Int32).toNatClampNeg)) := okD_c9 (cpy_r (hok.2.1 8) hod)
    refine lv_aload_n C.1 C.2.1 dX6_add_112 rfl (lv_at hl 0 rfl) ?_
    refine lv_dup C.1 C.2.1 dX6_add_113 rfl ?_
    refine k_get (v := .int (t.1 18 2)) C hP 18 rfl rfl inlX6 2 (by decide) m_44_1 rfl dX6_add_114 ?_
    refine lv_aload_n C.1 C.2.1 dX6_add_117 rfl (lv_at hl 1 rfl) ?_
    refine k_get (v := .int (t.1 2 3)) C hP 2 rfl rfl inlX9 3 (by decide) m_44_2 rfl dX6_add_118 ?_
    obtain ⟨v_42, e_43⟩ : ∃ z, z = ((t.1 18 2) : Int32) + ((t.1 2 3) : Int32) := ⟨_, rfl⟩
    have h_44 : v_42.toInt = (t.1 18 2).toInt + (t.1 2 3).toInt := by rw [e_43]; exact ti_iadd (by show (_ : Int) ≤ (t.1 18 2).toInt + (t.1 2 3).toInt; omega) (by show (t.1 18 2).toInt + (t.1 2 3).toInt < (_ : Int); omega)
    refine k_iadd (v := v_42) C e_43.symm dX6_add_121 ?_
    refine k_put (ws' := (WX (cD d 916 (va_cpy (t.2.2.1 8) (d.2 916) ((t.1 2 2) : Int32).toNatClampNeg ((t.1 18 2) : Int32).toNatClampNeg ((t.1 2 3) : Int32).toNatClampNeg))) K ad (uI t 18 2 v_42)) (v := .int v_42) C hP hD hS 18 rfl rfl inlX6 tyX6_ok nmX6 2 (by decide) m_44_1 rfl rfl rfl rfl rfl dX6_add_122 (fun H locs hP hD hS => ?_)
    have hok : okX (uI t 18 2 v_42) := ⟨okI_I hok.1 18 2 v_42 (show (0 : Int) ≤ (v_42 : Int32).toInt ∧ (v_42 : Int32).toInt ≤ 2700 from ⟨by omega, by omega⟩), hok.2.1, trivial⟩
    have hfr : frA [(18, 2), (18, 3)] [] [] [] t (uI t 18 2 v_42) := frA_I hfr 18 2 _ rfl
    refine lv_aload_n C.1 C.2.1 dX6_add_125 rfl (lv_at hl 0 rfl) ?_
    refine k_get (v := .ref a_5) C hP 18 rfl rfl inlX6 0 (by decide) m_44_0 (rf_eq hd_4) dX6_add_126 ?_
    refine lv_aload_n C.1 C.2.1 dX6_add_129 rfl (lv_at hl 0 rfl) ?_
    refine k_get (v := .int v_42) C hP 18 rfl rfl inlX6 2 (by decide) m_44_1 rfl dX6_add_130 ?_
    refine lv_bipush (v := 10) C.1 C.2.1 dX6_add_133 (by decide) ?_
    obtain ⟨q_45, hq_46, hs_47⟩ := WX_at916 (K := K) (ad := ad) (t := (uI t 18 2 v_42)) (d := (cD d 916 (va_cpy (t.2.2.1 8) (d.2 916) ((t.1 2 2) : Int32).toNatClampNeg ((t.1 18 2) : Int32).toNatClampNeg ((t.1 2 3) : Int32).toNatClampNeg))) hd_4
    refine k_bst (ws' := WX (cD (cD d 916 (va_cpy (t.2.2.1 8) (d.2 916) ((t.1 2 2) : Int32).toNatClampNeg ((t.1 18 2) : Int32).toNatClampNeg ((t.1 2 3) : Int32).toNatClampNeg)) 916 (upd ((cD d 916 (va_cpy (t.2.2.1 8) (d.2 916) ((t.1 2 2) : Int32).toNatClampNeg ((t.1 18 2) : Int32).toNatClampNeg ((t.1 2 3) : Int32).toNatClampNeg)).2 916) (v_42 : Int32).toNatClampNeg 10)) K ad (uI t 18 2 v_42)) (x' := 10) C hP hD hS q_45 hq_46 (vp_in_iff.mpr ⟨by omega, by omega⟩) rfl rfl (hs_47 _) dX6_add_135 (fun H locs hP hD hS => ?_)
    rw [show newC d (cD d 916 (va_cpy (t.2.2.1 8) (d.2 916) ((t.1 2 2) : Int32).toNatClampNeg ((t.1 18 2) : Int32).toNatClampNeg ((t.1 2 3) : Int32).toNatClampNeg)) = newC d (cD (cD d 916 (va_cpy (t.2.2.1 8) (d.2 916) ((t.1 2 2) : Int32).toNatClampNeg ((t.1 18 2) : Int32).toNatClampNeg ((t.1 2 3) : Int32).toNatClampNeg)) 916 (upd ((cD d 916 (va_cpy (t.2.2.1 8) (d.2 916) ((t.1 2 2) : Int32).toNatClampNeg ((t.1 18 2) : Int32).toNatClampNeg ((t.1 2 3) : Int32).toNatClampNeg)).2 916) (v_42 : Int32).toNatClampNeg 10)) from rfl]
    have hle : dLe d (cD (cD d 916 (va_cpy (t.2.2.1 8) (d.2 916) ((t.1 2 2) : Int32).toNatClampNeg ((t.1 18 2) : Int32).toNatClampNeg ((t.1 2 3) : Int32).toNatClampNeg)) 916 (upd ((cD d 916 (va_cpy (t.2.2.1 8) (d.2 916) ((t.1 2 2) : Int32).toNatClampNeg ((t.1 18 2) : Int32).toNatClampNeg ((t.1 2 3) : Int32).toNatClampNeg)).2 916) (v_42 : Int32).toNatClampNeg 10)) := hle
    have hdf : dFr s.heap.size d (cD (cD d 916 (va_cpy (t.2.2.1 8) (d.2 916) ((t.1 2 2) : Int32).toNatClampNeg ((t.1 18 2) : Int32).toNatClampNeg ((t.1 2 3) : Int32).toNatClampNeg)) 916 (upd ((cD d 916 (va_cpy (t.2.2.1 8) (d.2 916) ((t.1 2 2) : Int32).toNatClampNeg ((t.1 18 2) : Int32).toNatClampNeg ((t.1 2 3) : Int32).toNatClampNeg)).2 916) (v_42 : Int32).toNatClampNeg 10)) := hdf
    have hod : okD (cD (cD d 916 (va_cpy (t.2.2.1 8) (d.2 916) ((t.1 2 2) : Int32).toNatClampNeg ((t.1 18 2) : Int32).toNatClampNeg ((t.1 2 3) : Int32).toNatClampNeg)) 916 (upd ((cD d 916 (va_cpy (t.2.2.1 8) (d.2 916) ((t.1 2 2) : Int32).toNatClampNeg ((t.1 18 2) : Int32).toNatClampNeg ((t.1 2 3) : Int32).toNatClampNeg)).2 916) (v_42 : Int32).toNatClampNeg 10)) := okD_c9 (fun i => upd_r (hod) (by decide) i)
    refine lv_aload_n C.1 C.2.1 dX6_add_136 rfl (lv_at hl 0 rfl) ?_
    refine lv_dup C.1 C.2.1 dX6_add_137 rfl ?_
    refine k_get (v := .int v_42) C hP 18 rfl rfl inlX6 2 (by decide) m_44_1 rfl dX6_add_138 ?_
    refine lv_iconst (v := 1) C.1 C.2.1 dX6_add_141 (by decide) ?_
    obtain ⟨v_48, e_49⟩ : ∃ z, z = (v_42 : Int32) + (1 : Int32) := ⟨_, rfl⟩
    have h_50 : v_48.toInt = v_42.toInt + 1 := by rw [e_49]; exact ti_iadd (by show (_ : Int) ≤ v_42.toInt + 1; omega) (by show v_42.toInt + 1 < (_ : Int); omega)
    refine k_iadd (v := v_48) C e_49.symm dX6_add_142 ?_
    refine k_put (ws' := (WX (cD (cD d 916 (va_cpy (t.2.2.1 8) (d.2 916) ((t.1 2 2) : Int32).toNatClampNeg ((t.1 18 2) : Int32).toNatClampNeg ((t.1 2 3) : Int32).toNatClampNeg)) 916 (upd ((cD d 916 (va_cpy (t.2.2.1 8) (d.2 916) ((t.1 2 2) : Int32).toNatClampNeg ((t.1 18 2) : Int32).toNatClampNeg ((t.1 2 3) : Int32).toNatClampNeg)).2 916) (v_42 : Int32).toNatClampNeg 10))) K ad (uI (uI t 18 2 v_42) 18 2 v_48)) (v := .int v_48) C hP hD hS 18 rfl rfl inlX6 tyX6_ok nmX6 2 (by decide) m_44_1 rfl rfl rfl rfl rfl dX6_add_143 (fun H locs hP hD hS => ?_)
    have hok : okX (uI (uI t 18 2 v_42) 18 2 v_48) := ⟨okI_I hok.1 18 2 v_48 (show (0 : Int) ≤ (v_48 : Int32).toInt ∧ (v_48 : Int32).toInt ≤ 2700 from ⟨by omega, by omega⟩), hok.2.1, trivial⟩
    have hfr : frA [(18, 2), (18, 3)] [] [] [] t (uI (uI t 18 2 v_42) 18 2 v_48) := frA_I hfr 18 2 _ rfl
    refine lv_aload_n C.1 C.2.1 dX6_add_146 rfl (lv_at hl 0 rfl) ?_
    refine lv_dup C.1 C.2.1 dX6_add_147 rfl ?_
    refine k_get (v := .int (t.1 18 3)) C hP 18 rfl rfl inlX6 3 (by decide) m_44_7 rfl dX6_add_148 ?_
    refine lv_iconst (v := 1) C.1 C.2.1 dX6_add_151 (by decide) ?_
    obtain ⟨v_51, e_52⟩ : ∃ z, z = ((t.1 18 3) : Int32) + (1 : Int32) := ⟨_, rfl⟩
    refine k_iadd (v := v_51) C e_52.symm dX6_add_152 ?_
    refine k_put (ws' := (WX (cD (cD d 916 (va_cpy (t.2.2.1 8) (d.2 916) ((t.1 2 2) : Int32).toNatClampNeg ((t.1 18 2) : Int32).toNatClampNeg ((t.1 2 3) : Int32).toNatClampNeg)) 916 (upd ((cD d 916 (va_cpy (t.2.2.1 8) (d.2 916) ((t.1 2 2) : Int32).toNatClampNeg ((t.1 18 2) : Int32).toNatClampNeg ((t.1 2 3) : Int32).toNatClampNeg)).2 916) (v_42 : Int32).toNatClampNeg 10))) K ad (uI (uI (uI t 18 2 v_42) 18 2 v_48) 18 3 v_51)) (v := .int v_51) C hP hD hS 18 rfl rfl inlX6 tyX6_ok nmX6 3 (by decide) m_44_7 rfl rfl rfl rfl rfl dX6_add_153 (fun H locs hP hD hS => ?_)
    have hok : okX (uI (uI (uI t 18 2 v_42) 18 2 v_48) 18 3 v_51) := ⟨okI_I hok.1 18 3 v_51 (show (-2147483648 : Int) ≤ (v_51 : Int32).toInt ∧ (v_51 : Int32).toInt ≤ 2147483647 from (i_rng _)), hok.2.1, trivial⟩
    have hfr : frA [(18, 2), (18, 3)] [] [] [] t (uI (uI (uI t 18 2 v_42) 18 2 v_48) 18 3 v_51) := frA_I hfr 18 3 _ rfl
    exact g_Dvret C hr hlocks hP hD hS ⟨hok, hfr, hod, (show v_48.toInt ≤ (t.1 18 2).toInt + (t.1 2 3).toInt + 1 from by omega)⟩ hle hdf (Nat.le_of_ble_eq_true rfl) (Nat.le_of_ble_eq_true rfl) dX6_add_156
