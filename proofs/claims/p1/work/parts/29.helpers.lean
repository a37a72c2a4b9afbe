theorem dL_block_0 : decode cL_block 0 = .ok (.aload 4, 2) := by decide +kernel
theorem dL_block_2 : decode cL_block 2 = .ok (.iconst 0, 1) := by decide +kernel
theorem dL_block_3 : decode cL_block 3 = .ok (.aload_n 0, 1) := by decide +kernel
theorem dL_block_4 : decode cL_block 4 = .ok (.iload_n 1, 1) := by decide +kernel
theorem dL_block_5 : decode cL_block 5 = .ok (.iload_n 2, 1) := by decide +kernel
theorem dL_block_6 : decode cL_block 6 = .ok (.iload_n 3, 1) := by decide +kernel
theorem dL_block_7 : decode cL_block 7 = .ok (.invokevirtual 22, 3) := by decide +kernel
theorem dL_block_10 : decode cL_block 10 = .ok (.i2l, 1) := by decide +kernel
theorem dL_block_11 : decode cL_block 11 = .ok (.lastore, 1) := by decide +kernel
theorem dL_block_12 : decode cL_block 12 = .ok (.goto 7, 3) := by decide +kernel
theorem dL_block_15 : decode cL_block 15 = .ok (.astore 5, 2) := by decide +kernel
theorem dL_block_17 : decode cL_block 17 = .ok (.iconst 1, 1) := by decide +kernel
theorem dL_block_18 : decode cL_block 18 = .ok (.ireturn, 1) := by decide +kernel
theorem dL_block_19 : decode cL_block 19 = .ok (.iconst 0, 1) := by decide +kernel
theorem dL_block_20 : decode cL_block 20 = .ok (.ireturn, 1) := by decide +kernel
theorem dL_register_0 : decode cL_register 0 = .ok (.aload_n 2, 1) := by decide +kernel
theorem dL_register_1 : decode cL_register 1 = .ok (.iconst 0, 1) := by decide +kernel
theorem dL_register_2 : decode cL_register 2 = .ok (.aload_n 0, 1) := by decide +kernel
theorem dL_register_3 : decode cL_register 3 = .ok (.iload_n 1, 1) := by decide +kernel
theorem dL_register_4 : decode cL_register 4 = .ok (.invokevirtual 7, 3) := by decide +kernel
theorem dL_register_7 : decode cL_register 7 = .ok (.i2l, 1) := by decide +kernel
theorem dL_register_8 : decode cL_register 8 = .ok (.lastore, 1) := by decide +kernel
theorem dL_register_9 : decode cL_register 9 = .ok (.goto 6, 3) := by decide +kernel
theorem dL_register_12 : decode cL_register 12 = .ok (.astore_n 3, 1) := by decide +kernel
theorem dL_register_13 : decode cL_register 13 = .ok (.iconst 1, 1) := by decide +kernel
theorem dL_register_14 : decode cL_register 14 = .ok (.ireturn, 1) := by decide +kernel
theorem dL_register_15 : decode cL_register 15 = .ok (.iconst 0, 1) := by decide +kernel
theorem dL_register_16 : decode cL_register 16 = .ok (.ireturn, 1) := by decide +kernel
theorem dL_symbol_0 : decode cL_symbol 0 = .ok (.aload_n 1, 1) := by decide +kernel
theorem dL_symbol_1 : decode cL_symbol 1 = .ok (.iconst 0, 1) := by decide +kernel
theorem dL_symbol_2 : decode cL_symbol 2 = .ok (.aload_n 0, 1) := by decide +kernel
theorem dL_symbol_3 : decode cL_symbol 3 = .ok (.invokevirtual 18, 3) := by decide +kernel
theorem dL_symbol_11 : decode cL_symbol 11 = .ok (.astore_n 2, 1) := by decide +kernel
theorem dL_symbol_12 : decode cL_symbol 12 = .ok (.iconst 1, 1) := by decide +kernel
theorem dL_symbol_13 : decode cL_symbol 13 = .ok (.ireturn, 1) := by decide +kernel
theorem dL_word_0 : decode cL_word 0 = .ok (.aload_n 2, 1) := by decide +kernel
theorem dL_word_1 : decode cL_word 1 = .ok (.iconst 0, 1) := by decide +kernel
theorem dL_word_2 : decode cL_word 2 = .ok (.aload_n 0, 1) := by decide +kernel
theorem dL_word_3 : decode cL_word 3 = .ok (.iload_n 1, 1) := by decide +kernel
theorem dL_word_4 : decode cL_word 4 = .ok (.invokevirtual 15, 3) := by decide +kernel
theorem dL_word_7 : decode cL_word 7 = .ok (.i2l, 1) := by decide +kernel
theorem dL_word_8 : decode cL_word 8 = .ok (.lastore, 1) := by decide +kernel
theorem dL_word_9 : decode cL_word 9 = .ok (.goto 6, 3) := by decide +kernel
theorem dL_word_12 : decode cL_word 12 = .ok (.astore_n 3, 1) := by decide +kernel
theorem dL_word_13 : decode cL_word 13 = .ok (.iconst 1, 1) := by decide +kernel
theorem dL_word_14 : decode cL_word 14 = .ok (.ireturn, 1) := by decide +kernel
theorem dL_word_15 : decode cL_word 15 = .ok (.iconst 0, 1) := by decide +kernel
theorem dL_word_16 : decode cL_word 16 = .ok (.ireturn, 1) := by decide +kernel
theorem dX12_thrown_0 : decode cX12_thrown 0 = .ok (.aload_n 0, 1) := by decide +kernel
theorem dX12_thrown_1 : decode cX12_thrown 1 = .ok (.getfield 155, 3) := by decide +kernel
theorem dX12_thrown_4 : decode cX12_thrown 4 = .ok (.ireturn, 1) := by decide +kernel
set_option maxHeartbeats 4000000 in
set_option maxRecDepth 100000 in
theorem h_register (l : Launch) (htr : l.stackTraces = false) (D : va_G) (K : Nat → ClassId) (a0 : Nat) (a1 : Nat) (a2 : Nat) (s0 : List Value) (n0 : s0.length = 8) (s1 : List Value) (n1 : s1.length = 16) (x1 : Int32) (e0_4 : s0[4]? = some (.ref a1)) (e1_1 : s1[1]? = some (.ref a2)) (e1_5 : s1[5]? = some (.int 0)) (e1_4 : s1[4]? = some (.int 0)) (e1_3 : s1[3]? = some (.int 0)) (ao : Nat) : hMet l yL_register cL_register 4 (some .int) [(0, 9, 12, 13)] (rmD 7 1 6) D K [.ref a0, .int x1, .ref ao] [(a0, .inr (10, s0)), (a1, .inr (1, s1)), (a2, .inl (K 0, 9, .inl (fun _ => 0))), (ao, .inl (K 1, 1, .inr (.inl (fun _ => 0))))] (QI D K (fun (r : Int32) (u : Nat → Int64) => (r = 1 ∧ (((x1 < 0)) ∨ ((¬ x1 < 0) ∧ (¬ x1 ≤ 11)))) ∨ (r = 0 ∧ u 0 = 0 ∧ (((¬ x1 < 0) ∧ (x1 ≤ 11) ∧ (¬ x1 = 9) ∧ (¬ x1 = 10) ∧ (¬ x1 = 11)) ∨ ((¬ x1 < 0) ∧ (x1 ≤ 11) ∧ (¬ x1 = 9) ∧ (¬ x1 = 10) ∧ (x1 = 11)) ∨ ((¬ x1 < 0) ∧ (x1 ≤ 11) ∧ (¬ x1 = 9) ∧ (x1 = 10)) ∨ ((¬ x1 < 0) ∧ (x1 ≤ 11) ∧ (x1 = 9))))) (fun (u : Nat → Int64) => [(ao, .inl (K 1, 1, .inr (.inl u)))])) 1 6 := by
  refine h_met RL ⟨rfl, by decide +kernel⟩ (Nat.le_of_ble_eq_true rfl) ?_
  intro p e s m below meth c A ls C hE hZ htb hr hlocks hA hP hD hS hl
  have hl : lv_has ls 4 [(0, .ref a0), (1, .int x1), (2, .ref ao)] := hl
  refine lv_aload_n C.1 C.2.1 dL_register_0 rfl (lv_at hl 2 rfl) ?_
  refine lv_iconst (v := 0) C.1 C.2.1 dL_register_1 (by decide) ?_
  refine lv_aload_n C.1 C.2.1 dL_register_2 rfl (lv_at hl 0 rfl) ?_
  refine lv_iload_n C.1 C.2.1 dL_register_3 rfl (lv_at hl 1 rfl) ?_
  refine x_Vi (As := [.int x1]) (rest := [.int 0, .ref ao]) C hP hD hS hA hE hZ (t_X11_register l htr D K a0 a1 a2 s0 n0 s1 n1 x1 e0_4 e1_1 e1_5 e1_4 e1_3) (uwV m_83_19 m_83_20 m_83_21 m_1_2 m_83_22) (hdV 1 (by decide +kernel) rfl) ⟨Nat.le_of_ble_eq_true rfl, Nat.le_of_ble_eq_true rfl⟩ rfl rfl (ci := 10) (q0 := 0) rfl rfl (isC := [0, 1, 2]) (isR := [3]) (wr := [(ao, .inl (K 1, 1, .inr (.inl (fun _ => 0))))]) ⟨rfl, rfl, rfl, rfl, by decide⟩ rfl hl.1 (Nat.le_of_ble_eq_true rfl) dL_register_4 ⟨Nat.le_of_ble_eq_true rfl, Nat.le_of_ble_eq_true rfl⟩ (fun ce q9 H locs hpx hP hD hS h9 hv9 hcl => ?_) (fun r w H locs hw hP hD hS => ?_)
  · refine vx_catch C.2.2.2.1 [] ⟨0, 9, 12, 13⟩ [] (by rw [htb]; rfl) (fun z hz => by cases hz) (by decide) (by decide) (C.2.2.2.2.1 _ m_83_18) (va_Nw.use rfl hE.1) h9 hv9 hcl ?_
    refine lv_astore_n (lv' := [(3, .ref q9), (0, .ref a0), (1, .int x1), (2, .ref ao)]) C.1 C.2.1 dL_register_12 rfl hl (by decide) rfl (fun ls hl => ?_)
    refine lv_iconst (v := 1) C.1 C.2.1 dL_register_13 (by decide) ?_
    exact k_iret C hr hlocks hP hD hS rfl (fun _ => 0) [0] rfl rfl (Or.inl ⟨rfl, hpx⟩) (Nat.le_of_ble_eq_true rfl) (Nat.le_of_ble_eq_true rfl) dL_register_14
  · rcases hw with ⟨d0_0, d0_1, d0_2, d0_3, d0_4, rfl⟩ | ⟨d1_0, d1_1, d1_2, d1_3, d1_4, rfl⟩ | ⟨d2_0, d2_1, d2_2, d2_3, rfl⟩ | ⟨d3_0, d3_1, d3_2, rfl⟩
    · have hP : va_P D vwCl [(ao, .inl (K 1, 1, .inr (.inl (fun _ => 0))))] H := hP
      have hD : va_D A [(ao, .inl (K 1, 1, .inr (.inl (fun _ => 0))))] := hD
      refine lv_i2l (v := 0) C.1 C.2.1 dL_register_7 (by decide) ?_
      refine k_lst (ws' := [(ao, .inl (K 1, 1, .inr (.inl (vp_updL (fun _ => 0) 0 0))))]) (j := 0) (x' := 0) C hP hD hS 0 rfl (vin (by decide)) (by decide) rfl rfl dL_register_8 (fun H locs hP hD hS => ?_)
      refine lv_goto (tgt := 15) C.1 C.2.1 dL_register_9 (by decide) ?_
      refine lv_iconst (v := 0) C.1 C.2.1 dL_register_15 (by decide) ?_
      exact k_iret C hr hlocks hP hD hS rfl (vp_updL (fun _ => 0) 0 0) [0] rfl rfl (Or.inr ⟨rfl, rfl, (Or.inl ⟨d0_0, d0_1, d0_2, d0_3, d0_4⟩)⟩) (Nat.le_of_ble_eq_true rfl) (Nat.le_of_ble_eq_true rfl) dL_register_16
    · have hP : va_P D vwCl [(ao, .inl (K 1, 1, .inr (.inl (fun _ => 0))))] H := hP
      have hD : va_D A [(ao, .inl (K 1, 1, .inr (.inl (fun _ => 0))))] := hD
      refine lv_i2l (v := 0) C.1 C.2.1 dL_register_7 (by decide) ?_
      refine k_lst (ws' := [(ao, .inl (K 1, 1, .inr (.inl (vp_updL (fun _ => 0) 0 0))))]) (j := 0) (x' := 0) C hP hD hS 0 rfl (vin (by decide)) (by decide) rfl rfl dL_register_8 (fun H locs hP hD hS => ?_)
      refine lv_goto (tgt := 15) C.1 C.2.1 dL_register_9 (by decide) ?_
      refine lv_iconst (v := 0) C.1 C.2.1 dL_register_15 (by decide) ?_
      exact k_iret C hr hlocks hP hD hS rfl (vp_updL (fun _ => 0) 0 0) [0] rfl rfl (Or.inr ⟨rfl, rfl, (Or.inr (Or.inl ⟨d1_0, d1_1, d1_2, d1_3, d1_4⟩))⟩) (Nat.le_of_ble_eq_true rfl) (Nat.le_of_ble_eq_true rfl) dL_register_16
    · have hP : va_P D vwCl [(ao, .inl (K 1, 1, .inr (.inl (fun _ => 0))))] H := hP
      have hD : va_D A [(ao, .inl (K 1, 1, .inr (.inl (fun _ => 0))))] := hD
      refine lv_i2l (v := 0) C.1 C.2.1 dL_register_7 (by decide) ?_
      refine k_lst (ws' := [(ao, .inl (K 1, 1, .inr (.inl (vp_updL (fun _ => 0) 0 0))))]) (j := 0) (x' := 0) C hP hD hS 0 rfl (vin (by decide)) (by decide) rfl rfl dL_register_8 (fun H locs hP hD hS => ?_)
      refine lv_goto (tgt := 15) C.1 C.2.1 dL_register_9 (by decide) ?_
      refine lv_iconst (v := 0) C.1 C.2.1 dL_register_15 (by decide) ?_
      exact k_iret C hr hlocks hP hD hS rfl (vp_updL (fun _ => 0) 0 0) [0] rfl rfl (Or.inr ⟨rfl, rfl, (Or.inr (Or.inr (Or.inl ⟨d2_0, d2_1, d2_2, d2_3⟩)))⟩) (Nat.le_of_ble_eq_true rfl) (Nat.le_of_ble_eq_true rfl) dL_register_16
    · have hP : va_P D vwCl [(ao, .inl (K 1, 1, .inr (.inl (fun _ => 0))))] H := hP
      have hD : va_D A [(ao, .inl (K 1, 1, .inr (.inl (fun _ => 0))))] := hD
      refine lv_i2l (v := 0) C.1 C.2.1 dL_register_7 (by decide) ?_
      refine k_lst (ws' := [(ao, .inl (K 1, 1, .inr (.inl (vp_updL (fun _ => 0) 0 0))))]) (j := 0) (x' := 0) C hP hD hS 0 rfl (vin (by decide)) (by decide) rfl rfl dL_register_8 (fun H locs hP hD hS => ?_)
      refine lv_goto (tgt := 15) C.1 C.2.1 dL_register_9 (by decide) ?_
      refine lv_iconst (v := 0) C.1 C.2.1 dL_register_15 (by decide) ?_
      exact k_iret C hr hlocks hP hD hS rfl (vp_updL (fun _ => 0) 0 0) [0] rfl rfl (Or.inr ⟨rfl, rfl, (Or.inr (Or.inr (Or.inr ⟨d3_0, d3_1, d3_2⟩)))⟩) (Nat.le_of_ble_eq_true rfl) (Nat.le_of_ble_eq_true rfl) dL_register_16
set_option maxHeartbeats 4000000 in
set_option maxRecDepth 100000 in
theorem h_word (l : Launch) (htr : l.stackTraces = false) (D : va_G) (K : Nat → ClassId) (a0 : Nat) (a1 : Nat) (a2 : Nat) (s0 : List Value) (n0 : s0.length = 8) (s1 : List Value) (n1 : s1.length = 16) (x1 : Int32) (e0_4 : s0[4]? = some (.ref a1)) (e1_0 : s1[0]? = some (.ref a2)) (ao : Nat) : hMet l yL_word cL_word 4 (some .int) [(0, 9, 12, 13)] (rmD 7 1 6) D K [.ref a0, .int x1, .ref ao] [(a0, .inr (10, s0)), (a1, .inr (1, s1)), (a2, .inl (K 0, 7999, .inl (fun _ => 0))), (ao, .inl (K 1, 1, .inr (.inl (fun _ => 0))))] (QI D K (fun (r : Int32) (u : Nat → Int64) => (r = 1 ∧ (((x1 < (-3999))) ∨ ((¬ x1 < (-3999)) ∧ (¬ x1 ≤ 3999)))) ∨ (r = 0 ∧ u 0 = 0 ∧ (((¬ x1 < (-3999)) ∧ (x1 ≤ 3999))))) (fun (u : Nat → Int64) => [(ao, .inl (K 1, 1, .inr (.inl u)))])) 1 6 := by
  refine h_met RL ⟨rfl, by decide +kernel⟩ (Nat.le_of_ble_eq_true rfl) ?_
  intro p e s m below meth c A ls C hE hZ htb hr hlocks hA hP hD hS hl
  have hl : lv_has ls 4 [(0, .ref a0), (1, .int x1), (2, .ref ao)] := hl
  refine lv_aload_n C.1 C.2.1 dL_word_0 rfl (lv_at hl 2 rfl) ?_
  refine lv_iconst (v := 0) C.1 C.2.1 dL_word_1 (by decide) ?_
  refine lv_aload_n C.1 C.2.1 dL_word_2 rfl (lv_at hl 0 rfl) ?_
  refine lv_iload_n C.1 C.2.1 dL_word_3 rfl (lv_at hl 1 rfl) ?_
  refine x_Vi (As := [.int x1]) (rest := [.int 0, .ref ao]) C hP hD hS hA hE hZ (t_X11_word l htr D K a0 a1 a2 s0 n0 s1 n1 x1 e0_4 e1_0) (uwV m_85_0 m_85_1 m_85_2 m_1_2 m_85_3) (hdV 1 (by decide +kernel) rfl) ⟨Nat.le_of_ble_eq_true rfl, Nat.le_of_ble_eq_true rfl⟩ rfl rfl (ci := 10) (q0 := 0) rfl rfl (isC := [0, 1, 2]) (isR := [3]) (wr := [(ao, .inl (K 1, 1, .inr (.inl (fun _ => 0))))]) ⟨rfl, rfl, rfl, rfl, by decide⟩ rfl hl.1 (Nat.le_of_ble_eq_true rfl) dL_word_4 ⟨Nat.le_of_ble_eq_true rfl, Nat.le_of_ble_eq_true rfl⟩ (fun ce q9 H locs hpx hP hD hS h9 hv9 hcl => ?_) (fun r w H locs hw hP hD hS => ?_)
  · refine vx_catch C.2.2.2.1 [] ⟨0, 9, 12, 13⟩ [] (by rw [htb]; rfl) (fun z hz => by cases hz) (by decide) (by decide) (C.2.2.2.2.1 _ m_83_18) (va_Nw.use rfl hE.1) h9 hv9 hcl ?_
    refine lv_astore_n (lv' := [(3, .ref q9), (0, .ref a0), (1, .int x1), (2, .ref ao)]) C.1 C.2.1 dL_word_12 rfl hl (by decide) rfl (fun ls hl => ?_)
    refine lv_iconst (v := 1) C.1 C.2.1 dL_word_13 (by decide) ?_
    exact k_iret C hr hlocks hP hD hS rfl (fun _ => 0) [0] rfl rfl (Or.inl ⟨rfl, hpx⟩) (Nat.le_of_ble_eq_true rfl) (Nat.le_of_ble_eq_true rfl) dL_word_14
  · obtain ⟨d0_0, d0_1, rfl⟩ := hw
    have hP : va_P D vwCl [(ao, .inl (K 1, 1, .inr (.inl (fun _ => 0))))] H := hP
    have hD : va_D A [(ao, .inl (K 1, 1, .inr (.inl (fun _ => 0))))] := hD
    refine lv_i2l (v := 0) C.1 C.2.1 dL_word_7 (by decide) ?_
    refine k_lst (ws' := [(ao, .inl (K 1, 1, .inr (.inl (vp_updL (fun _ => 0) 0 0))))]) (j := 0) (x' := 0) C hP hD hS 0 rfl (vin (by decide)) (by decide) rfl rfl dL_word_8 (fun H locs hP hD hS => ?_)
    refine lv_goto (tgt := 15) C.1 C.2.1 dL_word_9 (by decide) ?_
    refine lv_iconst (v := 0) C.1 C.2.1 dL_word_15 (by decide) ?_
    exact k_iret C hr hlocks hP hD hS rfl (vp_updL (fun _ => 0) 0 0) [0] rfl rfl (Or.inr ⟨rfl, rfl, ⟨d0_0, d0_1⟩⟩) (Nat.le_of_ble_eq_true rfl) (Nat.le_of_ble_eq_true rfl) dL_word_16
set_option maxHeartbeats 4000000 in
set_option maxRecDepth 100000 in
theorem h_symbol (l : Launch) (htr : l.stackTraces = false) (D : va_G) (K : Nat → ClassId) (a0 : Nat) (a1 : Nat) (s0 : List Value) (n0 : s0.length = 8) (s1 : List Value) (n1 : s1.length = 20) (e0_1 : s0[1]? = some (.int 0)) (e0_5 : s0[5]? = some (.ref a1)) (e1_19 : s1[19]? = some (.int 0)) (ao : Nat) : hMet l yL_symbol cL_symbol 3 (some .int) [(0, 8, 11, 13)] (rmD 7 1 6) D K [.ref a0, .ref ao] [(a0, .inr (10, s0)), (a1, .inr (0, s1)), (ao, .inl (K 1, 1, .inr (.inl (fun _ => 0))))] (QI D K (fun (r : Int32) (u : Nat → Int64) => (r = 1 ∧ ((True)))) (fun (u : Nat → Int64) => [(ao, .inl (K 1, 1, .inr (.inl u)))])) 1 6 := by
  refine h_met RL ⟨rfl, by decide +kernel⟩ (Nat.le_of_ble_eq_true rfl) ?_
  intro p e s m below meth c A ls C hE hZ htb hr hlocks hA hP hD hS hl
  have hl : lv_has ls 3 [(0, .ref a0), (1, .ref ao)] := hl
  refine lv_aload_n C.1 C.2.1 dL_symbol_0 rfl (lv_at hl 1 rfl) ?_
  refine lv_iconst (v := 0) C.1 C.2.1 dL_symbol_1 (by decide) ?_
  refine lv_aload_n C.1 C.2.1 dL_symbol_2 rfl (lv_at hl 0 rfl) ?_
  refine x_Vi (As := []) (rest := [.int 0, .ref ao]) C hP hD hS hA hE hZ (t_X11_symbol l htr D K a0 a1 s0 n0 s1 n1 e0_1 e0_5 e1_19) (uwV m_85_22 m_85_23 m_86_0 m_1_2 m_86_1) (hdV 0 (by decide +kernel) rfl) ⟨Nat.le_of_ble_eq_true rfl, Nat.le_of_ble_eq_true rfl⟩ rfl rfl (ci := 10) (q0 := 0) rfl rfl (isC := [0, 1]) (isR := [2]) (wr := [(ao, .inl (K 1, 1, .inr (.inl (fun _ => 0))))]) ⟨rfl, rfl, rfl, rfl, by decide⟩ rfl hl.1 (Nat.le_of_ble_eq_true rfl) dL_symbol_3 ⟨Nat.le_of_ble_eq_true rfl, Nat.le_of_ble_eq_true rfl⟩ (fun ce q9 H locs hpx hP hD hS h9 hv9 hcl => ?_) (fun r w H locs hw hP hD hS => ?_)
  · refine vx_catch C.2.2.2.1 [] ⟨0, 8, 11, 13⟩ [] (by rw [htb]; rfl) (fun z hz => by cases hz) (by decide) (by decide) (C.2.2.2.2.1 _ m_83_18) (va_Nw.use rfl hE.1) h9 hv9 hcl ?_
    refine lv_astore_n (lv' := [(2, .ref q9), (0, .ref a0), (1, .ref ao)]) C.1 C.2.1 dL_symbol_11 rfl hl (by decide) rfl (fun ls hl => ?_)
    refine lv_iconst (v := 1) C.1 C.2.1 dL_symbol_12 (by decide) ?_
    exact k_iret C hr hlocks hP hD hS rfl (fun _ => 0) [0] rfl rfl ⟨rfl, hpx⟩ (Nat.le_of_ble_eq_true rfl) (Nat.le_of_ble_eq_true rfl) dL_symbol_13
  · exact hw.elim
set_option maxHeartbeats 4000000 in
set_option maxRecDepth 100000 in
theorem h_block (l : Launch) (htr : l.stackTraces = false) (D : va_G) (K : Nat → ClassId) (a0 : Nat) (a1 : Nat) (a2 : Nat) (s0 : List Value) (n0 : s0.length = 8) (s1 : List Value) (n1 : s1.length = 13) (x1 : Int32) (x2 : Int32) (x3 : Int32) (e0_3 : s0[3]? = some (.ref a1)) (e1_1 : s1[1]? = some (.ref a2)) (ao : Nat) : hMet l yL_block cL_block 6 (some .int) [(0, 12, 15, 13)] (rmD 7 1 6) D K [.ref a0, .int x1, .int x2, .int x3, .ref ao] [(a0, .inr (10, s0)), (a1, .inr (9, s1)), (a2, .inl (K 5, 16, .inr (.inr (.inr (.inr (fun _ => none)))))), (ao, .inl (K 1, 1, .inr (.inl (fun _ => 0))))] (QI D K (fun (r : Int32) (u : Nat → Int64) => (r = 1 ∧ (((x1 < 0)) ∨ ((¬ x1 < 0) ∧ (16 ≤ x1)) ∨ ((¬ x1 < 0) ∧ (¬ 16 ≤ x1) ∧ (x2 < 0)) ∨ ((¬ x1 < 0) ∧ (¬ 16 ≤ x1) ∧ (¬ x2 < 0) ∧ (64 ≤ x2)) ∨ ((¬ x1 < 0) ∧ (¬ 16 ≤ x1) ∧ (¬ x2 < 0) ∧ (¬ 64 ≤ x2) ∧ (x3 < 0)) ∨ ((¬ x1 < 0) ∧ (¬ 16 ≤ x1) ∧ (¬ x2 < 0) ∧ (¬ 64 ≤ x2) ∧ (¬ x3 < 0) ∧ (100 ≤ x3)))) ∨ (r = 0 ∧ u 0 = 0 ∧ (((¬ x1 < 0) ∧ (¬ 16 ≤ x1) ∧ (¬ x2 < 0) ∧ (¬ 64 ≤ x2) ∧ (¬ x3 < 0) ∧ (¬ 100 ≤ x3))))) (fun (u : Nat → Int64) => [(ao, .inl (K 1, 1, .inr (.inl u)))])) 1 6 := by
  refine h_met RL ⟨rfl, by decide +kernel⟩ (Nat.le_of_ble_eq_true rfl) ?_
  intro p e s m below meth c A ls C hE hZ htb hr hlocks hA hP hD hS hl
  have hl : lv_has ls 6 [(0, .ref a0), (1, .int x1), (2, .int x2), (3, .int x3), (4, .ref ao)] := hl
  refine lv_aload C.1 C.2.1 dL_block_0 (lv_at hl 4 rfl) ?_
  refine lv_iconst (v := 0) C.1 C.2.1 dL_block_2 (by decide) ?_
  refine lv_aload_n C.1 C.2.1 dL_block_3 rfl (lv_at hl 0 rfl) ?_
  refine lv_iload_n C.1 C.2.1 dL_block_4 rfl (lv_at hl 1 rfl) ?_
  refine lv_iload_n C.1 C.2.1 dL_block_5 rfl (lv_at hl 2 rfl) ?_
  refine lv_iload_n C.1 C.2.1 dL_block_6 rfl (lv_at hl 3 rfl) ?_
  refine x_Vi (As := [.int x1, .int x2, .int x3]) (rest := [.int 0, .ref ao]) C hP hD hS hA hE hZ (t_X11_block l htr D K a0 a1 a2 s0 n0 s1 n1 x1 x2 x3 e0_3 e1_1) (uwV m_87_17 m_87_18 m_87_19 m_1_2 m_87_20) (hdV 3 (by decide +kernel) rfl) ⟨Nat.le_of_ble_eq_true rfl, Nat.le_of_ble_eq_true rfl⟩ rfl rfl (ci := 10) (q0 := 0) rfl rfl (isC := [0, 1, 2]) (isR := [3]) (wr := [(ao, .inl (K 1, 1, .inr (.inl (fun _ => 0))))]) ⟨rfl, rfl, rfl, rfl, by decide⟩ rfl hl.1 (Nat.le_of_ble_eq_true rfl) dL_block_7 ⟨Nat.le_of_ble_eq_true rfl, Nat.le_of_ble_eq_true rfl⟩ (fun ce q9 H locs hpx hP hD hS h9 hv9 hcl => ?_) (fun r w H locs hw hP hD hS => ?_)
  · refine vx_catch C.2.2.2.1 [] ⟨0, 12, 15, 13⟩ [] (by rw [htb]; rfl) (fun z hz => by cases hz) (by decide) (by decide) (C.2.2.2.2.1 _ m_83_18) (va_Nw.use rfl hE.1) h9 hv9 hcl ?_
    refine lv_astore (lv' := [(5, .ref q9), (0, .ref a0), (1, .int x1), (2, .int x2), (3, .int x3), (4, .ref ao)]) C.1 C.2.1 dL_block_15 hl (by decide) rfl (fun ls hl => ?_)
    refine lv_iconst (v := 1) C.1 C.2.1 dL_block_17 (by decide) ?_
    exact k_iret C hr hlocks hP hD hS rfl (fun _ => 0) [0] rfl rfl (Or.inl ⟨rfl, hpx⟩) (Nat.le_of_ble_eq_true rfl) (Nat.le_of_ble_eq_true rfl) dL_block_18
  · obtain ⟨d0_0, d0_1, d0_2, d0_3, d0_4, d0_5, rfl⟩ := hw
    have hP : va_P D vwCl [(ao, .inl (K 1, 1, .inr (.inl (fun _ => 0))))] H := hP
    have hD : va_D A [(ao, .inl (K 1, 1, .inr (.inl (fun _ => 0))))] := hD
    refine lv_i2l (v := 0) C.1 C.2.1 dL_block_10 (by decide) ?_
    refine k_lst (ws' := [(ao, .inl (K 1, 1, .inr (.inl (vp_updL (fun _ => 0) 0 0))))]) (j := 0) (x' := 0) C hP hD hS 0 rfl (vin (by decide)) (by decide) rfl rfl dL_block_11 (fun H locs hP hD hS => ?_)
    refine lv_goto (tgt := 19) C.1 C.2.1 dL_block_12 (by decide) ?_
    refine lv_iconst (v := 0) C.1 C.2.1 dL_block_19 (by decide) ?_
    exact k_iret C hr hlocks hP hD hS rfl (vp_updL (fun _ => 0) 0 0) [0] rfl rfl (Or.inr ⟨rfl, rfl, ⟨d0_0, d0_1, d0_2, d0_3, d0_4, d0_5⟩⟩) (Nat.le_of_ble_eq_true rfl) (Nat.le_of_ble_eq_true rfl) dL_block_20
theorem t_X12_thrown (l : Launch) (D : va_G) (K : Nat → ClassId) (a0 : Nat) (s0 : List Value) (v : Int32) (e0 : s0[0]? = some (.int v)) : uMet l yX12_thrown cX12_thrown 1 (some .int) (rmD 0 0 0) D K X0 [.ref a0] [(a0, .inr (11, s0))] (QI D K (fun (r : Int32) (u : Nat → Nat) => r = v) (fun (u : Nat → Nat) => [(a0, .inr (11, s0))])) 0 0 := by
  refine k_met RX12 ⟨rfl, by decide +kernel⟩ (Nat.le_of_ble_eq_true rfl) ?_
  intro p e s m below meth c A ls C hX hr hlocks hin hA hP hD hS hl
  have hl : lv_has ls 1 [(0, .ref a0)] := hl
  refine lv_aload_n C.1 C.2.1 dX12_thrown_0 rfl (lv_at hl 0 rfl) ?_
  refine k_get (v := .int v) C hP 0 rfl rfl inlX12 0 (by decide) m_9_18 e0 dX12_thrown_1 ?_
  exact k_iret C hr hlocks hP hD hS rfl (fun _ => 0) [0] rfl rfl rfl (Nat.le_of_ble_eq_true rfl) (Nat.le_of_ble_eq_true rfl) dX12_thrown_4
