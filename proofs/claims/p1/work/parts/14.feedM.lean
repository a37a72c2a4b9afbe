theorem dX12_lay_0 : decode cX12_lay 0 = .ok (.bipush 24, 2) := by decide +kernel
theorem dX12_lay_11 : decode cX12_lay 11 = .ok (.aload_n 0, 1) := by decide +kernel
theorem dX12_lay_12 : decode cX12_lay 12 = .ok (.getfield 176, 3) := by decide +kernel
theorem dX12_lay_15 : decode cX12_lay 15 = .ok (.iload_n 1, 1) := by decide +kernel
theorem dX12_lay_16 : decode cX12_lay 16 = .ok (.iload_n 2, 1) := by decide +kernel
theorem dX12_lay_17 : decode cX12_lay 17 = .ok (.ishr, 1) := by decide +kernel
theorem dX12_lay_18 : decode cX12_lay 18 = .ok (.i2b, 1) := by decide +kernel
theorem dX12_lay_19 : decode cX12_lay 19 = .ok (.bastore, 1) := by decide +kernel
theorem dX12_lay_2 : decode cX12_lay 2 = .ok (.istore_n 2, 1) := by decide +kernel
theorem dX12_lay_20 : decode cX12_lay 20 = .ok (.aload_n 0, 1) := by decide +kernel
theorem dX12_lay_21 : decode cX12_lay 21 = .ok (.dup, 1) := by decide +kernel
theorem dX12_lay_22 : decode cX12_lay 22 = .ok (.getfield 176, 3) := by decide +kernel
theorem dX12_lay_25 : decode cX12_lay 25 = .ok (.iconst 1, 1) := by decide +kernel
theorem dX12_lay_26 : decode cX12_lay 26 = .ok (.iadd, 1) := by decide +kernel
theorem dX12_lay_27 : decode cX12_lay 27 = .ok (.putfield 176, 3) := by decide +kernel
theorem dX12_lay_3 : decode cX12_lay 3 = .ok (.iload_n 2, 1) := by decide +kernel
theorem dX12_lay_30 : decode cX12_lay 30 = .ok (.iinc 2 (-8), 3) := by decide +kernel
theorem dX12_lay_33 : decode cX12_lay 33 = .ok (.goto (-30), 3) := by decide +kernel
theorem dX12_lay_36 : decode cX12_lay 36 = .ok (.return_, 1) := by decide +kernel
theorem dX12_lay_4 : decode cX12_lay 4 = .ok (.ifCond .lt 32, 3) := by decide +kernel
theorem dX12_lay_7 : decode cX12_lay 7 = .ok (.aload_n 0, 1) := by decide +kernel
theorem dX12_lay_8 : decode cX12_lay 8 = .ok (.getfield 9, 3) := by decide +kernel
theorem dX12_feed_0 : decode cX12_feed 0 = .ok (.aload_n 0, 1) := by decide +kernel
theorem dX12_feed_1 : decode cX12_feed 1 = .ok (.iconst 0, 1) := by decide +kernel
theorem dX12_feed_11 : decode cX12_feed 11 = .ok (.iadd, 1) := by decide +kernel
theorem dX12_feed_12 : decode cX12_feed 12 = .ok (.sipush 8192, 3) := by decide +kernel
theorem dX12_feed_15 : decode cX12_feed 15 = .ok (.if_icmp .le 5, 3) := by decide +kernel
theorem dX12_feed_2 : decode cX12_feed 2 = .ok (.putfield 155, 3) := by decide +kernel
theorem dX12_feed_20 : decode cX12_feed 20 = .ok (.aload_n 0, 1) := by decide +kernel
theorem dX12_feed_21 : decode cX12_feed 21 = .ok (.iload_n 1, 1) := by decide +kernel
theorem dX12_feed_22 : decode cX12_feed 22 = .ok (.invokevirtual 179, 3) := by decide +kernel
theorem dX12_feed_25 : decode cX12_feed 25 = .ok (.aload_n 0, 1) := by decide +kernel
theorem dX12_feed_26 : decode cX12_feed 26 = .ok (.iload_n 2, 1) := by decide +kernel
theorem dX12_feed_27 : decode cX12_feed 27 = .ok (.invokevirtual 179, 3) := by decide +kernel
theorem dX12_feed_30 : decode cX12_feed 30 = .ok (.aload_n 0, 1) := by decide +kernel
theorem dX12_feed_31 : decode cX12_feed 31 = .ok (.iload_n 3, 1) := by decide +kernel
theorem dX12_feed_32 : decode cX12_feed 32 = .ok (.invokevirtual 179, 3) := by decide +kernel
theorem dX12_feed_35 : decode cX12_feed 35 = .ok (.aload_n 0, 1) := by decide +kernel
theorem dX12_feed_36 : decode cX12_feed 36 = .ok (.iload 4, 2) := by decide +kernel
theorem dX12_feed_38 : decode cX12_feed 38 = .ok (.invokevirtual 179, 3) := by decide +kernel
theorem dX12_feed_41 : decode cX12_feed 41 = .ok (.aload_n 0, 1) := by decide +kernel
theorem dX12_feed_42 : decode cX12_feed 42 = .ok (.iload 5, 2) := by decide +kernel
theorem dX12_feed_44 : decode cX12_feed 44 = .ok (.invokevirtual 179, 3) := by decide +kernel
theorem dX12_feed_47 : decode cX12_feed 47 = .ok (.iconst 1, 1) := by decide +kernel
theorem dX12_feed_48 : decode cX12_feed 48 = .ok (.ireturn, 1) := by decide +kernel
theorem dX12_feed_5 : decode cX12_feed 5 = .ok (.aload_n 0, 1) := by decide +kernel
theorem dX12_feed_6 : decode cX12_feed 6 = .ok (.getfield 176, 3) := by decide +kernel
theorem dX12_feed_9 : decode cX12_feed 9 = .ok (.bipush 20, 2) := by decide +kernel
set_option maxHeartbeats 4000000 in
set_option maxRecDepth 100000 in
theorem c_X12_lay (l : Launch) (D : va_G) (K : Nat → ClassId) (a0 : Nat) (a1 : Nat) (s0 : List Value) (n0 : s0.length = 94) (f1 : Nat → Int32) (x1 : Int32) (e0_1 : s0[1]? = some (.ref a1)) (e0_2 : s0[2]? = some (.int 0)) : uMet l yX12_lay cX12_lay 3 none (rmD 0 0 0) D K X0 [.ref a0, .int x1] [(a0, .inr (11, s0)), (a1, .inl (K 2, 8192, .inl f1))] (QV D K (fun (u : Nat → Nat) => True) (fun (u : Nat → Nat) => [(a0, .inr (11, ((((s0.set 2 (.int 1)).set 2 (.int 2)).set 2 (.int 3)).set 2 (.int 4)))), (a1, .inl (K 2, 8192, .inl (upd (upd (upd (upd f1 0 (vp_nar .byte ((x1 >>> (24 &&& 31))).toInt8.toInt32)) 1 (vp_nar .byte ((x1 >>> (16 &&& 31))).toInt8.toInt32)) 2 (vp_nar .byte ((x1 >>> (8 &&& 31))).toInt8.toInt32)) 3 (vp_nar .byte ((x1 >>> (0 &&& 31))).toInt8.toInt32))))])) 0 0 := by
  refine k_met RX12 ⟨rfl, by decide +kernel⟩ (Nat.le_of_ble_eq_true rfl) ?_
  intro p e s m below meth c A ls C hX hr hlocks hin hA hP hD hS hl
  have hl : lv_has ls 3 [(0, .ref a0), (1, .int x1)] := hl
  refine lv_bipush (v := 24) C.1 C.2.1 dX12_lay_0 (by decide) ?_
  refine lv_istore_n (lv' := [(2, .int 24), (0, .ref a0), (1, .int x1)]) C.1 C.2.1 dX12_lay_2 rfl hl (by decide) rfl (fun ls hl => ?_)
  refine lv_iload_n C.1 C.2.1 dX12_lay_3 rfl (lv_at hl 0 rfl) ?_
  refine lv_if_lt (tgt := 36) C.1 C.2.1 dX12_lay_4 (by decide) (fun h => absurd h (by decide)) (fun _ => ?_)
  refine lv_aload_n C.1 C.2.1 dX12_lay_7 rfl (lv_at hl 1 rfl) ?_
  refine k_get (v := .ref a1) C hP 0 rfl rfl inlX12 1 (by decide) m_7_4 e0_1 dX12_lay_8 ?_
  refine lv_aload_n C.1 C.2.1 dX12_lay_11 rfl (lv_at hl 1 rfl) ?_
  refine k_get (v := .int 0) C hP 0 rfl rfl inlX12 2 (by decide) m_9_19 e0_2 dX12_lay_12 ?_
  refine lv_iload_n C.1 C.2.1 dX12_lay_15 rfl (lv_at hl 2 rfl) ?_
  refine lv_iload_n C.1 C.2.1 dX12_lay_16 rfl (lv_at hl 0 rfl) ?_
  refine k_ishr (v := (x1 >>> (24 &&& 31))) C rfl dX12_lay_17 ?_
  refine lv_i2b (v := ((x1 >>> (24 &&& 31))).toInt8.toInt32) C.1 C.2.1 dX12_lay_18 rfl ?_
  refine k_bst (ws' := [(a0, .inr (11, s0)), (a1, .inl (K 2, 8192, .inl (upd f1 0 (vp_nar .byte ((x1 >>> (24 &&& 31))).toInt8.toInt32))))]) (j := 0) (x' := (vp_nar .byte ((x1 >>> (24 &&& 31))).toInt8.toInt32)) C hP hD hS 1 rfl (vin (by decide)) (by decide) rfl rfl dX12_lay_19 (fun H locs hP hD hS => ?_)
  refine lv_aload_n C.1 C.2.1 dX12_lay_20 rfl (lv_at hl 1 rfl) ?_
  refine lv_dup C.1 C.2.1 dX12_lay_21 rfl ?_
  refine k_get (v := .int 0) C hP 0 rfl rfl inlX12 2 (by decide) m_9_19 e0_2 dX12_lay_22 ?_
  refine lv_iconst (v := 1) C.1 C.2.1 dX12_lay_25 (by decide) ?_
  refine k_iadd (v := 1) C (by decide) dX12_lay_26 ?_
  refine k_put (ws' := [(a0, .inr (11, (s0.set 2 (.int 1)))), (a1, .inl (K 2, 8192, .inl (upd f1 0 (vp_nar .byte ((x1 >>> (24 &&& 31))).toInt8.toInt32))))]) (v := .int 1) C hP hD hS 0 rfl rfl inlX12 tyX12_ok nmX12 2 (by decide) m_9_19 rfl rfl rfl n0 rfl dX12_lay_27 (fun H locs hP hD hS => ?_)
  refine lv_iinc (v := 16) (lv' := [(2, .int 16), (0, .ref a0), (1, .int x1)]) C.1 C.2.1 dX12_lay_30 hl (k := 0) rfl (by decide) (by decide) rfl (fun ls hl => ?_)
  refine lv_goto (tgt := 3) C.1 C.2.1 dX12_lay_33 (by decide) ?_
  refine lv_iload_n C.1 C.2.1 dX12_lay_3 rfl (lv_at hl 0 rfl) ?_
  refine lv_if_lt (tgt := 36) C.1 C.2.1 dX12_lay_4 (by decide) (fun h => absurd h (by decide)) (fun _ => ?_)
  refine lv_aload_n C.1 C.2.1 dX12_lay_7 rfl (lv_at hl 1 rfl) ?_
  refine k_get (v := .ref a1) C hP 0 rfl rfl inlX12 1 (by decide) m_7_4 (sn (by decide) e0_1) dX12_lay_8 ?_
  refine lv_aload_n C.1 C.2.1 dX12_lay_11 rfl (lv_at hl 1 rfl) ?_
  refine k_get (v := .int 1) C hP 0 rfl rfl inlX12 2 (by decide) m_9_19 (ss (sk n0 (by decide))) dX12_lay_12 ?_
  refine lv_iload_n C.1 C.2.1 dX12_lay_15 rfl (lv_at hl 2 rfl) ?_
  refine lv_iload_n C.1 C.2.1 dX12_lay_16 rfl (lv_at hl 0 rfl) ?_
  refine k_ishr (v := (x1 >>> (16 &&& 31))) C rfl dX12_lay_17 ?_
  refine lv_i2b (v := ((x1 >>> (16 &&& 31))).toInt8.toInt32) C.1 C.2.1 dX12_lay_18 rfl ?_
  refine k_bst (ws' := [(a0, .inr (11, (s0.set 2 (.int 1)))), (a1, .inl (K 2, 8192, .inl (upd (upd f1 0 (vp_nar .byte ((x1 >>> (24 &&& 31))).toInt8.toInt32)) 1 (vp_nar .byte ((x1 >>> (16 &&& 31))).toInt8.toInt32))))]) (j := 1) (x' := (vp_nar .byte ((x1 >>> (16 &&& 31))).toInt8.toInt32)) C hP hD hS 1 rfl (vin (by decide)) (by decide) rfl rfl dX12_lay_19 (fun H locs hP hD hS => ?_)
  refine lv_aload_n C.1 C.2.1 dX12_lay_20 rfl (lv_at hl 1 rfl) ?_
  refine lv_dup C.1 C.2.1 dX12_lay_21 rfl ?_
  refine k_get (v := .int 1) C hP 0 rfl rfl inlX12 2 (by decide) m_9_19 (ss (sk n0 (by decide))) dX12_lay_22 ?_
  refine lv_iconst (v := 1) C.1 C.2.1 dX12_lay_25 (by decide) ?_
  refine k_iadd (v := 2) C (by decide) dX12_lay_26 ?_
  refine k_put (ws' := [(a0, .inr (11, ((s0.set 2 (.int 1)).set 2 (.int 2)))), (a1, .inl (K 2, 8192, .inl (upd (upd f1 0 (vp_nar .byte ((x1 >>> (24 &&& 31))).toInt8.toInt32)) 1 (vp_nar .byte ((x1 >>> (16 &&& 31))).toInt8.toInt32))))]) (v := .int 2) C hP hD hS 0 rfl rfl inlX12 tyX12_ok nmX12 2 (by decide) m_9_19 rfl rfl rfl (sl n0) rfl dX12_lay_27 (fun H locs hP hD hS => ?_)
  refine lv_iinc (v := 8) (lv' := [(2, .int 8), (0, .ref a0), (1, .int x1)]) C.1 C.2.1 dX12_lay_30 hl (k := 0) rfl (by decide) (by decide) rfl (fun ls hl => ?_)
  refine lv_goto (tgt := 3) C.1 C.2.1 dX12_lay_33 (by decide) ?_
  refine lv_iload_n C.1 C.2.1 dX12_lay_3 rfl (lv_at hl 0 rfl) ?_
  refine lv_if_lt (tgt := 36) C.1 C.2.1 dX12_lay_4 (by decide) (fun h => absurd h (by decide)) (fun _ => ?_)
  refine lv_aload_n C.1 C.2.1 dX12_lay_7 rfl (lv_at hl 1 rfl) ?_
  refine k_get (v := .ref a1) C hP 0 rfl rfl inlX12 1 (by decide) m_7_4 (sn (by decide) (sn (by decide) e0_1)) dX12_lay_8 ?_
  refine lv_aload_n C.1 C.2.1 dX12_lay_11 rfl (lv_at hl 1 rfl) ?_
  refine k_get (v := .int 2) C hP 0 rfl rfl inlX12 2 (by decide) m_9_19 (ss (sk (sl n0) (by decide))) dX12_lay_12 ?_
  refine lv_iload_n C.1 C.2.1 dX12_lay_15 rfl (lv_at hl 2 rfl) ?_
  refine lv_iload_n C.1 C.2.1 dX12_lay_16 rfl (lv_at hl 0 rfl) ?_
  refine k_ishr (v := (x1 >>> (8 &&& 31))) C rfl dX12_lay_17 ?_
  refine lv_i2b (v := ((x1 >>> (8 &&& 31))).toInt8.toInt32) C.1 C.2.1 dX12_lay_18 rfl ?_
  refine k_bst (ws' := [(a0, .inr (11, ((s0.set 2 (.int 1)).set 2 (.int 2)))), (a1, .inl (K 2, 8192, .inl (upd (upd (upd f1 0 (vp_nar .byte ((x1 >>> (24 &&& 31))).toInt8.toInt32)) 1 (vp_nar .byte ((x1 >>> (16 &&& 31))).toInt8.toInt32)) 2 (vp_nar .byte ((x1 >>> (8 &&& 31))).toInt8.toInt32))))]) (j := 2) (x' := (vp_nar .byte ((x1 >>> (8 &&& 31))).toInt8.toInt32)) C hP hD hS 1 rfl (vin (by decide)) (by decide) rfl rfl dX12_lay_19 (fun H locs hP hD hS => ?_)
  refine lv_aload_n C.1 C.2.1 dX12_lay_20 rfl (lv_at hl 1 rfl) ?_
  refine lv_dup C.1 C.2.1 dX12_lay_21 rfl ?_
  refine k_get (v := .int 2) C hP 0 rfl rfl inlX12 2 (by decide) m_9_19 (ss (sk (sl n0) (by decide))) dX12_lay_22 ?_
  refine lv_iconst (v := 1) C.1 C.2.1 dX12_lay_25 (by decide) ?_
  refine k_iadd (v := 3) C (by decide) dX12_lay_26 ?_
  refine k_put (ws' := [(a0, .inr (11, (((s0.set 2 (.int 1)).set 2 (.int 2)).set 2 (.int 3)))), (a1, .inl (K 2, 8192, .inl (upd (upd (upd f1 0 (vp_nar .byte ((x1 >>> (24 &&& 31))).toInt8.toInt32)) 1 (vp_nar .byte ((x1 >>> (16 &&& 31))).toInt8.toInt32)) 2 (vp_nar .byte ((x1 >>> (8 &&& 31))).toInt8.toInt32))))]) (v := .int 3) C hP hD hS 0 rfl rfl inlX12 tyX12_ok nmX12 2 (by decide) m_9_19 rfl rfl rfl (sl (sl n0)) rfl dX12_lay_27 (fun H locs hP hD hS => ?_)
  refine lv_iinc (v := 0) (lv' := [(2, .int 0), (0, .ref a0), (1, .int x1)]) C.1 C.2.1 dX12_lay_30 hl (k := 0) rfl (by decide) (by decide) rfl (fun ls hl => ?_)
  refine lv_goto (tgt := 3) C.1 C.2.1 dX12_lay_33 (by decide) ?_
  refine lv_iload_n C.1 C.2.1 dX12_lay_3 rfl (lv_at hl 0 rfl) ?_
  refine lv_if_lt (tgt := 36) C.1 C.2.1 dX12_lay_4 (by decide) (fun h => absurd h (by decide)) (fun _ => ?_)
  refine lv_aload_n C.1 C.2.1 dX12_lay_7 rfl (lv_at hl 1 rfl) ?_
  refine k_get (v := .ref a1) C hP 0 rfl rfl inlX12 1 (by decide) m_7_4 (sn (by decide) (sn (by decide) (sn (by decide) e0_1))) dX12_lay_8 ?_
  refine lv_aload_n C.1 C.2.1 dX12_lay_11 rfl (lv_at hl 1 rfl) ?_
  refine k_get (v := .int 3) C hP 0 rfl rfl inlX12 2 (by decide) m_9_19 (ss (sk (sl (sl n0)) (by decide))) dX12_lay_12 ?_
  refine lv_iload_n C.1 C.2.1 dX12_lay_15 rfl (lv_at hl 2 rfl) ?_
  refine lv_iload_n C.1 C.2.1 dX12_lay_16 rfl (lv_at hl 0 rfl) ?_
  refine k_ishr (v := (x1 >>> (0 &&& 31))) C rfl dX12_lay_17 ?_
  refine lv_i2b (v := ((x1 >>> (0 &&& 31))).toInt8.toInt32) C.1 C.2.1 dX12_lay_18 rfl ?_
  refine k_bst (ws' := [(a0, .inr (11, (((s0.set 2 (.int 1)).set 2 (.int 2)).set 2 (.int 3)))), (a1, .inl (K 2, 8192, .inl (upd (upd (upd (upd f1 0 (vp_nar .byte ((x1 >>> (24 &&& 31))).toInt8.toInt32)) 1 (vp_nar .byte ((x1 >>> (16 &&& 31))).toInt8.toInt32)) 2 (vp_nar .byte ((x1 >>> (8 &&& 31))).toInt8.toInt32)) 3 (vp_nar .byte ((x1 >>> (0 &&& 31))).toInt8.toInt32))))]) (j := 3) (x' := (vp_nar .byte ((x1 >>> (0 &&& 31))).toInt8.toInt32)) C hP hD hS 1 rfl (vin (by decide)) (by decide) rfl rfl dX12_lay_19 (fun H locs hP hD hS => ?_)
  refine lv_aload_n C.1 C.2.1 dX12_lay_20 rfl (lv_at hl 1 rfl) ?_
  refine lv_dup C.1 C.2.1 dX12_lay_21 rfl ?_
  refine k_get (v := .int 3) C hP 0 rfl rfl inlX12 2 (by decide) m_9_19 (ss (sk (sl (sl n0)) (by decide))) dX12_lay_22 ?_
  refine lv_iconst (v := 1) C.1 C.2.1 dX12_lay_25 (by decide) ?_
  refine k_iadd (v := 4) C (by decide) dX12_lay_26 ?_
  refine k_put (ws' := [(a0, .inr (11, ((((s0.set 2 (.int 1)).set 2 (.int 2)).set 2 (.int 3)).set 2 (.int 4)))), (a1, .inl (K 2, 8192, .inl (upd (upd (upd (upd f1 0 (vp_nar .byte ((x1 >>> (24 &&& 31))).toInt8.toInt32)) 1 (vp_nar .byte ((x1 >>> (16 &&& 31))).toInt8.toInt32)) 2 (vp_nar .byte ((x1 >>> (8 &&& 31))).toInt8.toInt32)) 3 (vp_nar .byte ((x1 >>> (0 &&& 31))).toInt8.toInt32))))]) (v := .int 4) C hP hD hS 0 rfl rfl inlX12 tyX12_ok nmX12 2 (by decide) m_9_19 rfl rfl rfl (sl (sl (sl n0))) rfl dX12_lay_27 (fun H locs hP hD hS => ?_)
  refine lv_iinc (v := (-8)) (lv' := [(2, .int (-8)), (0, .ref a0), (1, .int x1)]) C.1 C.2.1 dX12_lay_30 hl (k := 0) rfl (by decide) (by decide) rfl (fun ls hl => ?_)
  refine lv_goto (tgt := 3) C.1 C.2.1 dX12_lay_33 (by decide) ?_
  refine lv_iload_n C.1 C.2.1 dX12_lay_3 rfl (lv_at hl 0 rfl) ?_
  refine lv_if_lt (tgt := 36) C.1 C.2.1 dX12_lay_4 (by decide) (fun _ => ?_) (fun h => absurd (by decide) h)
  exact k_vret C hr hlocks hP hD hS (fun _ => 0) [0, 1] rfl rfl trivial (Nat.le_of_ble_eq_true rfl) (Nat.le_of_ble_eq_true rfl) dX12_lay_36
set_option maxHeartbeats 4000000 in
set_option maxRecDepth 100000 in
theorem c_X12_lay_2 (l : Launch) (D : va_G) (K : Nat → ClassId) (a0 : Nat) (a1 : Nat) (s0 : List Value) (n0 : s0.length = 94) (f1 : Nat → Int32) (x1 : Int32) (e0_1 : s0[1]? = some (.ref a1)) (e0_2 : s0[2]? = some (.int 4)) : uMet l yX12_lay cX12_lay 3 none (rmD 0 0 0) D K X0 [.ref a0, .int x1] [(a0, .inr (11, s0)), (a1, .inl (K 2, 8192, .inl f1))] (QV D K (fun (u : Nat → Nat) => True) (fun (u : Nat → Nat) => [(a0, .inr (11, ((((s0.set 2 (.int 5)).set 2 (.int 6)).set 2 (.int 7)).set 2 (.int 8)))), (a1, .inl (K 2, 8192, .inl (upd (upd (upd (upd f1 4 (vp_nar .byte ((x1 >>> (24 &&& 31))).toInt8.toInt32)) 5 (vp_nar .byte ((x1 >>> (16 &&& 31))).toInt8.toInt32)) 6 (vp_nar .byte ((x1 >>> (8 &&& 31))).toInt8.toInt32)) 7 (vp_nar .byte ((x1 >>> (0 &&& 31))).toInt8.toInt32))))])) 0 0 := by
  refine k_met RX12 ⟨rfl, by decide +kernel⟩ (Nat.le_of_ble_eq_true rfl) ?_
  intro p e s m below meth c A ls C hX hr hlocks hin hA hP hD hS hl
  have hl : lv_has ls 3 [(0, .ref a0), (1, .int x1)] := hl
  refine lv_bipush (v := 24) C.1 C.2.1 dX12_lay_0 (by decide) ?_
  refine lv_istore_n (lv' := [(2, .int 24), (0, .ref a0), (1, .int x1)]) C.1 C.2.1 dX12_lay_2 rfl hl (by decide) rfl (fun ls hl => ?_)
  refine lv_iload_n C.1 C.2.1 dX12_lay_3 rfl (lv_at hl 0 rfl) ?_
  refine lv_if_lt (tgt := 36) C.1 C.2.1 dX12_lay_4 (by decide) (fun h => absurd h (by decide)) (fun _ => ?_)
  refine lv_aload_n C.1 C.2.1 dX12_lay_7 rfl (lv_at hl 1 rfl) ?_
  refine k_get (v := .ref a1) C hP 0 rfl rfl inlX12 1 (by decide) m_7_4 e0_1 dX12_lay_8 ?_
  refine lv_aload_n C.1 C.2.1 dX12_lay_11 rfl (lv_at hl 1 rfl) ?_
  refine k_get (v := .int 4) C hP 0 rfl rfl inlX12 2 (by decide) m_9_19 e0_2 dX12_lay_12 ?_
  refine lv_iload_n C.1 C.2.1 dX12_lay_15 rfl (lv_at hl 2 rfl) ?_
  refine lv_iload_n C.1 C.2.1 dX12_lay_16 rfl (lv_at hl 0 rfl) ?_
  refine k_ishr (v := (x1 >>> (24 &&& 31))) C rfl dX12_lay_17 ?_
  refine lv_i2b (v := ((x1 >>> (24 &&& 31))).toInt8.toInt32) C.1 C.2.1 dX12_lay_18 rfl ?_
  refine k_bst (ws' := [(a0, .inr (11, s0)), (a1, .inl (K 2, 8192, .inl (upd f1 4 (vp_nar .byte ((x1 >>> (24 &&& 31))).toInt8.toInt32))))]) (j := 4) (x' := (vp_nar .byte ((x1 >>> (24 &&& 31))).toInt8.toInt32)) C hP hD hS 1 rfl (vin (by decide)) (by decide) rfl rfl dX12_lay_19 (fun H locs hP hD hS => ?_)
  refine lv_aload_n C.1 C.2.1 dX12_lay_20 rfl (lv_at hl 1 rfl) ?_
  refine lv_dup C.1 C.2.1 dX12_lay_21 rfl ?_
  refine k_get (v := .int 4) C hP 0 rfl rfl inlX12 2 (by decide) m_9_19 e0_2 dX12_lay_22 ?_
  refine lv_iconst (v := 1) C.1 C.2.1 dX12_lay_25 (by decide) ?_
  refine k_iadd (v := 5) C (by decide) dX12_lay_26 ?_
  refine k_put (ws' := [(a0, .inr (11, (s0.set 2 (.int 5)))), (a1, .inl (K 2, 8192, .inl (upd f1 4 (vp_nar .byte ((x1 >>> (24 &&& 31))).toInt8.toInt32))))]) (v := .int 5) C hP hD hS 0 rfl rfl inlX12 tyX12_ok nmX12 2 (by decide) m_9_19 rfl rfl rfl n0 rfl dX12_lay_27 (fun H locs hP hD hS => ?_)
  refine lv_iinc (v := 16) (lv' := [(2, .int 16), (0, .ref a0), (1, .int x1)]) C.1 C.2.1 dX12_lay_30 hl (k := 0) rfl (by decide) (by decide) rfl (fun ls hl => ?_)
  refine lv_goto (tgt := 3) C.1 C.2.1 dX12_lay_33 (by decide) ?_
  refine lv_iload_n C.1 C.2.1 dX12_lay_3 rfl (lv_at hl 0 rfl) ?_
  refine lv_if_lt (tgt := 36) C.1 C.2.1 dX12_lay_4 (by decide) (fun h => absurd h (by decide)) (fun _ => ?_)
  refine lv_aload_n C.1 C.2.1 dX12_lay_7 rfl (lv_at hl 1 rfl) ?_
  refine k_get (v := .ref a1) C hP 0 rfl rfl inlX12 1 (by decide) m_7_4 (sn (by decide) e0_1) dX12_lay_8 ?_
  refine lv_aload_n C.1 C.2.1 dX12_lay_11 rfl (lv_at hl 1 rfl) ?_
  refine k_get (v := .int 5) C hP 0 rfl rfl inlX12 2 (by decide) m_9_19 (ss (sk n0 (by decide))) dX12_lay_12 ?_
  refine lv_iload_n C.1 C.2.1 dX12_lay_15 rfl (lv_at hl 2 rfl) ?_
  refine lv_iload_n C.1 C.2.1 dX12_lay_16 rfl (lv_at hl 0 rfl) ?_
  refine k_ishr (v := (x1 >>> (16 &&& 31))) C rfl dX12_lay_17 ?_
  refine lv_i2b (v := ((x1 >>> (16 &&& 31))).toInt8.toInt32) C.1 C.2.1 dX12_lay_18 rfl ?_
  refine k_bst (ws' := [(a0, .inr (11, (s0.set 2 (.int 5)))), (a1, .inl (K 2, 8192, .inl (upd (upd f1 4 (vp_nar .byte ((x1 >>> (24 &&& 31))).toInt8.toInt32)) 5 (vp_nar .byte ((x1 >>> (16 &&& 31))).toInt8.toInt32))))]) (j := 5) (x' := (vp_nar .byte ((x1 >>> (16 &&& 31))).toInt8.toInt32)) C hP hD hS 1 rfl (vin (by decide)) (by decide) rfl rfl dX12_lay_19 (fun H locs hP hD hS => ?_)
  refine lv_aload_n C.1 C.2.1 dX12_lay_20 rfl (lv_at hl 1 rfl) ?_
  refine lv_dup C.1 C.2.1 dX12_lay_21 rfl ?_
  refine k_get (v := .int 5) C hP 0 rfl rfl inlX12 2 (by decide) m_9_19 (ss (sk n0 (by decide))) dX12_lay_22 ?_
  refine lv_iconst (v := 1) C.1 C.2.1 dX12_lay_25 (by decide) ?_
  refine k_iadd (v := 6) C (by decide) dX12_lay_26 ?_
  refine k_put (ws' := [(a0, .inr (11, ((s0.set 2 (.int 5)).set 2 (.int 6)))), (a1, .inl (K 2, 8192, .inl (upd (upd f1 4 (vp_nar .byte ((x1 >>> (24 &&& 31))).toInt8.toInt32)) 5 (vp_nar .byte ((x1 >>> (16 &&& 31))).toInt8.toInt32))))]) (v := .int 6) C hP hD hS 0 rfl rfl inlX12 tyX12_ok nmX12 2 (by decide) m_9_19 rfl rfl rfl (sl n0) rfl dX12_lay_27 (fun H locs hP hD hS => ?_)
  refine lv_iinc (v := 8) (lv' := [(2, .int 8), (0, .ref a0), (1, .int x1)]) C.1 C.2.1 dX12_lay_30 hl (k := 0) rfl (by decide) (by decide) rfl (fun ls hl => ?_)
  refine lv_goto (tgt := 3) C.1 C.2.1 dX12_lay_33 (by decide) ?_
  refine lv_iload_n C.1 C.2.1 dX12_lay_3 rfl (lv_at hl 0 rfl) ?_
  refine lv_if_lt (tgt := 36) C.1 C.2.1 dX12_lay_4 (by decide) (fun h => absurd h (by decide)) (fun _ => ?_)
  refine lv_aload_n C.1 C.2.1 dX12_lay_7 rfl (lv_at hl 1 rfl) ?_
  refine k_get (v := .ref a1) C hP 0 rfl rfl inlX12 1 (by decide) m_7_4 (sn (by decide) (sn (by decide) e0_1)) dX12_lay_8 ?_
  refine lv_aload_n C.1 C.2.1 dX12_lay_11 rfl (lv_at hl 1 rfl) ?_
  refine k_get (v := .int 6) C hP 0 rfl rfl inlX12 2 (by decide) m_9_19 (ss (sk (sl n0) (by decide))) dX12_lay_12 ?_
  refine lv_iload_n C.1 C.2.1 dX12_lay_15 rfl (lv_at hl 2 rfl) ?_
  refine lv_iload_n C.1 C.2.1 dX12_lay_16 rfl (lv_at hl 0 rfl) ?_
  refine k_ishr (v := (x1 >>> (8 &&& 31))) C rfl dX12_lay_17 ?_
  refine lv_i2b (v := ((x1 >>> (8 &&& 31))).toInt8.toInt32) C.1 C.2.1 dX12_lay_18 rfl ?_
  refine k_bst (ws' := [(a0, .inr (11, ((s0.set 2 (.int 5)).set 2 (.int 6)))), (a1, .inl (K 2, 8192, .inl (upd (upd (upd f1 4 (vp_nar .byte ((x1 >>> (24 &&& 31))).toInt8.toInt32)) 5 (vp_nar .byte ((x1 >>> (16 &&& 31))).toInt8.toInt32)) 6 (vp_nar .byte ((x1 >>> (8 &&& 31))).toInt8.toInt32))))]) (j := 6) (x' := (vp_nar .byte ((x1 >>> (8 &&& 31))).toInt8.toInt32)) C hP hD hS 1 rfl (vin (by decide)) (by decide) rfl rfl dX12_lay_19 (fun H locs hP hD hS => ?_)
  refine lv_aload_n C.1 C.2.1 dX12_lay_20 rfl (lv_at hl 1 rfl) ?_
  refine lv_dup C.1 C.2.1 dX12_lay_21 rfl ?_
  refine k_get (v := .int 6) C hP 0 rfl rfl inlX12 2 (by decide) m_9_19 (ss (sk (sl n0) (by decide))) dX12_lay_22 ?_
  refine lv_iconst (v := 1) C.1 C.2.1 dX12_lay_25 (by decide) ?_
  refine k_iadd (v := 7) C (by decide) dX12_lay_26 ?_
  refine k_put (ws' := [(a0, .inr (11, (((s0.set 2 (.int 5)).set 2 (.int 6)).set 2 (.int 7)))), (a1, .inl (K 2, 8192, .inl (upd (upd (upd f1 4 (vp_nar .byte ((x1 >>> (24 &&& 31))).toInt8.toInt32)) 5 (vp_nar .byte ((x1 >>> (16 &&& 31))).toInt8.toInt32)) 6 (vp_nar .byte ((x1 >>> (8 &&& 31))).toInt8.toInt32))))]) (v := .int 7) C hP hD hS 0 rfl rfl inlX12 tyX12_ok nmX12 2 (by decide) m_9_19 rfl rfl rfl (sl (sl n0)) rfl dX12_lay_27 (fun H locs hP hD hS => ?_)
  refine lv_iinc (v := 0) (lv' := [(2, .int 0), (0, .ref a0), (1, .int x1)]) C.1 C.2.1 dX12_lay_30 hl (k := 0) rfl (by decide) (by decide) rfl (fun ls hl => ?_)
  refine lv_goto (tgt := 3) C.1 C.2.1 dX12_lay_33 (by decide) ?_
  refine lv_iload_n C.1 C.2.1 dX12_lay_3 rfl (lv_at hl 0 rfl) ?_
  refine lv_if_lt (tgt := 36) C.1 C.2.1 dX12_lay_4 (by decide) (fun h => absurd h (by decide)) (fun _ => ?_)
  refine lv_aload_n C.1 C.2.1 dX12_lay_7 rfl (lv_at hl 1 rfl) ?_
  refine k_get (v := .ref a1) C hP 0 rfl rfl inlX12 1 (by decide) m_7_4 (sn (by decide) (sn (by decide) (sn (by decide) e0_1))) dX12_lay_8 ?_
  refine lv_aload_n C.1 C.2.1 dX12_lay_11 rfl (lv_at hl 1 rfl) ?_
  refine k_get (v := .int 7) C hP 0 rfl rfl inlX12 2 (by decide) m_9_19 (ss (sk (sl (sl n0)) (by decide))) dX12_lay_12 ?_
  refine lv_iload_n C.1 C.2.1 dX12_lay_15 rfl (lv_at hl 2 rfl) ?_
  refine lv_iload_n C.1 C.2.1 dX12_lay_16 rfl (lv_at hl 0 rfl) ?_
  refine k_ishr (v := (x1 >>> (0 &&& 31))) C rfl dX12_lay_17 ?_
  refine lv_i2b (v := ((x1 >>> (0 &&& 31))).toInt8.toInt32) C.1 C.2.1 dX12_lay_18 rfl ?_
  refine k_bst (ws' := [(a0, .inr (11, (((s0.set 2 (.int 5)).set 2 (.int 6)).set 2 (.int 7)))), (a1, .inl (K 2, 8192, .inl (upd (upd (upd (upd f1 4 (vp_nar .byte ((x1 >>> (24 &&& 31))).toInt8.toInt32)) 5 (vp_nar .byte ((x1 >>> (16 &&& 31))).toInt8.toInt32)) 6 (vp_nar .byte ((x1 >>> (8 &&& 31))).toInt8.toInt32)) 7 (vp_nar .byte ((x1 >>> (0 &&& 31))).toInt8.toInt32))))]) (j := 7) (x' := (vp_nar .byte ((x1 >>> (0 &&& 31))).toInt8.toInt32)) C hP hD hS 1 rfl (vin (by decide)) (by decide) rfl rfl dX12_lay_19 (fun H locs hP hD hS => ?_)
  refine lv_aload_n C.1 C.2.1 dX12_lay_20 rfl (lv_at hl 1 rfl) ?_
  refine lv_dup C.1 C.2.1 dX12_lay_21 rfl ?_
  refine k_get (v := .int 7) C hP 0 rfl rfl inlX12 2 (by decide) m_9_19 (ss (sk (sl (sl n0)) (by decide))) dX12_lay_22 ?_
  refine lv_iconst (v := 1) C.1 C.2.1 dX12_lay_25 (by decide) ?_
  refine k_iadd (v := 8) C (by decide) dX12_lay_26 ?_
  refine k_put (ws' := [(a0, .inr (11, ((((s0.set 2 (.int 5)).set 2 (.int 6)).set 2 (.int 7)).set 2 (.int 8)))), (a1, .inl (K 2, 8192, .inl (upd (upd (upd (upd f1 4 (vp_nar .byte ((x1 >>> (24 &&& 31))).toInt8.toInt32)) 5 (vp_nar .byte ((x1 >>> (16 &&& 31))).toInt8.toInt32)) 6 (vp_nar .byte ((x1 >>> (8 &&& 31))).toInt8.toInt32)) 7 (vp_nar .byte ((x1 >>> (0 &&& 31))).toInt8.toInt32))))]) (v := .int 8) C hP hD hS 0 rfl rfl inlX12 tyX12_ok nmX12 2 (by decide) m_9_19 rfl rfl rfl (sl (sl (sl n0))) rfl dX12_lay_27 (fun H locs hP hD hS => ?_)
  refine lv_iinc (v := (-8)) (lv' := [(2, .int (-8)), (0, .ref a0), (1, .int x1)]) C.1 C.2.1 dX12_lay_30 hl (k := 0) rfl (by decide) (by decide) rfl (fun ls hl => ?_)
  refine lv_goto (tgt := 3) C.1 C.2.1 dX12_lay_33 (by decide) ?_
  refine lv_iload_n C.1 C.2.1 dX12_lay_3 rfl (lv_at hl 0 rfl) ?_
  refine lv_if_lt (tgt := 36) C.1 C.2.1 dX12_lay_4 (by decide) (fun _ => ?_) (fun h => absurd (by decide) h)
  exact k_vret C hr hlocks hP hD hS (fun _ => 0) [0, 1] rfl rfl trivial (Nat.le_of_ble_eq_true rfl) (Nat.le_of_ble_eq_true rfl) dX12_lay_36
set_option maxHeartbeats 4000000 in
set_option maxRecDepth 100000 in
theorem c_X12_lay_3 (l : Launch) (D : va_G) (K : Nat → ClassId) (a0 : Nat) (a1 : Nat) (s0 : List Value) (n0 : s0.length = 94) (f1 : Nat → Int32) (x1 : Int32) (e0_1 : s0[1]? = some (.ref a1)) (e0_2 : s0[2]? = some (.int 8)) : uMet l yX12_lay cX12_lay 3 none (rmD 0 0 0) D K X0 [.ref a0, .int x1] [(a0, .inr (11, s0)), (a1, .inl (K 2, 8192, .inl f1))] (QV D K (fun (u : Nat → Nat) => True) (fun (u : Nat → Nat) => [(a0, .inr (11, ((((s0.set 2 (.int 9)).set 2 (.int 10)).set 2 (.int 11)).set 2 (.int 12)))), (a1, .inl (K 2, 8192, .inl (upd (upd (upd (upd f1 8 (vp_nar .byte ((x1 >>> (24 &&& 31))).toInt8.toInt32)) 9 (vp_nar .byte ((x1 >>> (16 &&& 31))).toInt8.toInt32)) 10 (vp_nar .byte ((x1 >>> (8 &&& 31))).toInt8.toInt32)) 11 (vp_nar .byte ((x1 >>> (0 &&& 31))).toInt8.toInt32))))])) 0 0 := by
  refine k_met RX12 ⟨rfl, by decide +kernel⟩ (Nat.le_of_ble_eq_true rfl) ?_
  intro p e s m below meth c A ls C hX hr hlocks hin hA hP hD hS hl
  have hl : lv_has ls 3 [(0, .ref a0), (1, .int x1)] := hl
  refine lv_bipush (v := 24) C.1 C.2.1 dX12_lay_0 (by decide) ?_
  refine lv_istore_n (lv' := [(2, .int 24), (0, .ref a0), (1, .int x1)]) C.1 C.2.1 dX12_lay_2 rfl hl (by decide) rfl (fun ls hl => ?_)
  refine lv_iload_n C.1 C.2.1 dX12_lay_3 rfl (lv_at hl 0 rfl) ?_
  refine lv_if_lt (tgt := 36) C.1 C.2.1 dX12_lay_4 (by decide) (fun h => absurd h (by decide)) (fun _ => ?_)
  refine lv_aload_n C.1 C.2.1 dX12_lay_7 rfl (lv_at hl 1 rfl) ?_
  refine k_get (v := .ref a1) C hP 0 rfl rfl inlX12 1 (by decide) m_7_4 e0_1 dX12_lay_8 ?_
  refine lv_aload_n C.1 C.2.1 dX12_lay_11 rfl (lv_at hl 1 rfl) ?_
  refine k_get (v := .int 8) C hP 0 rfl rfl inlX12 2 (by decide) m_9_19 e0_2 dX12_lay_12 ?_
  refine lv_iload_n C.1 C.2.1 dX12_lay_15 rfl (lv_at hl 2 rfl) ?_
  refine lv_iload_n C.1 C.2.1 dX12_lay_16 rfl (lv_at hl 0 rfl) ?_
  refine k_ishr (v := (x1 >>> (24 &&& 31))) C rfl dX12_lay_17 ?_
  refine lv_i2b (v := ((x1 >>> (24 &&& 31))).toInt8.toInt32) C.1 C.2.1 dX12_lay_18 rfl ?_
  refine k_bst (ws' := [(a0, .inr (11, s0)), (a1, .inl (K 2, 8192, .inl (upd f1 8 (vp_nar .byte ((x1 >>> (24 &&& 31))).toInt8.toInt32))))]) (j := 8) (x' := (vp_nar .byte ((x1 >>> (24 &&& 31))).toInt8.toInt32)) C hP hD hS 1 rfl (vin (by decide)) (by decide) rfl rfl dX12_lay_19 (fun H locs hP hD hS => ?_)
  refine lv_aload_n C.1 C.2.1 dX12_lay_20 rfl (lv_at hl 1 rfl) ?_
  refine lv_dup C.1 C.2.1 dX12_lay_21 rfl ?_
  refine k_get (v := .int 8) C hP 0 rfl rfl inlX12 2 (by decide) m_9_19 e0_2 dX12_lay_22 ?_
  refine lv_iconst (v := 1) C.1 C.2.1 dX12_lay_25 (by decide) ?_
  refine k_iadd (v := 9) C (by decide) dX12_lay_26 ?_
  refine k_put (ws' := [(a0, .inr (11, (s0.set 2 (.int 9)))), (a1, .inl (K 2, 8192, .inl (upd f1 8 (vp_nar .byte ((x1 >>> (24 &&& 31))).toInt8.toInt32))))]) (v := .int 9) C hP hD hS 0 rfl rfl inlX12 tyX12_ok nmX12 2 (by decide) m_9_19 rfl rfl rfl n0 rfl dX12_lay_27 (fun H locs hP hD hS => ?_)
  refine lv_iinc (v := 16) (lv' := [(2, .int 16), (0, .ref a0), (1, .int x1)]) C.1 C.2.1 dX12_lay_30 hl (k := 0) rfl (by decide) (by decide) rfl (fun ls hl => ?_)
  refine lv_goto (tgt := 3) C.1 C.2.1 dX12_lay_33 (by decide) ?_
  refine lv_iload_n C.1 C.2.1 dX12_lay_3 rfl (lv_at hl 0 rfl) ?_
  refine lv_if_lt (tgt := 36) C.1 C.2.1 dX12_lay_4 (by decide) (fun h => absurd h (by decide)) (fun _ => ?_)
  refine lv_aload_n C.1 C.2.1 dX12_lay_7 rfl (lv_at hl 1 rfl) ?_
  refine k_get (v := .ref a1) C hP 0 rfl rfl inlX12 1 (by decide) m_7_4 (sn (by decide) e0_1) dX12_lay_8 ?_
  refine lv_aload_n C.1 C.2.1 dX12_lay_11 rfl (lv_at hl 1 rfl) ?_
  refine k_get (v := .int 9) C hP 0 rfl rfl inlX12 2 (by decide) m_9_19 (ss (sk n0 (by decide))) dX12_lay_12 ?_
  refine lv_iload_n C.1 C.2.1 dX12_lay_15 rfl (lv_at hl 2 rfl) ?_
  refine lv_iload_n C.1 C.2.1 dX12_lay_16 rfl (lv_at hl 0 rfl) ?_
  refine k_ishr (v := (x1 >>> (16 &&& 31))) C rfl dX12_lay_17 ?_
  refine lv_i2b (v := ((x1 >>> (16 &&& 31))).toInt8.toInt32) C.1 C.2.1 dX12_lay_18 rfl ?_
  refine k_bst (ws' := [(a0, .inr (11, (s0.set 2 (.int 9)))), (a1, .inl (K 2, 8192, .inl (upd (upd f1 8 (vp_nar .byte ((x1 >>> (24 &&& 31))).toInt8.toInt32)) 9 (vp_nar .byte ((x1 >>> (16 &&& 31))).toInt8.toInt32))))]) (j := 9) (x' := (vp_nar .byte ((x1 >>> (16 &&& 31))).toInt8.toInt32)) C hP hD hS 1 rfl (vin (by decide)) (by decide) rfl rfl dX12_lay_19 (fun H locs hP hD hS => ?_)
  refine lv_aload_n C.1 C.2.1 dX12_lay_20 rfl (lv_at hl 1 rfl) ?_
  refine lv_dup C.1 C.2.1 dX12_lay_21 rfl ?_
  refine k_get (v := .int 9) C hP 0 rfl rfl inlX12 2 (by decide) m_9_19 (ss (sk n0 (by decide))) dX12_lay_22 ?_
  refine lv_iconst (v := 1) C.1 C.2.1 dX12_lay_25 (by decide) ?_
  refine k_iadd (v := 10) C (by decide) dX12_lay_26 ?_
  refine k_put (ws' := [(a0, .inr (11, ((s0.set 2 (.int 9)).set 2 (.int 10)))), (a1, .inl (K 2, 8192, .inl (upd (upd f1 8 (vp_nar .byte ((x1 >>> (24 &&& 31))).toInt8.toInt32)) 9 (vp_nar .byte ((x1 >>> (16 &&& 31))).toInt8.toInt32))))]) (v := .int 10) C hP hD hS 0 rfl rfl inlX12 tyX12_ok nmX12 2 (by decide) m_9_19 rfl rfl rfl (sl n0) rfl dX12_lay_27 (fun H locs hP hD hS => ?_)
  refine lv_iinc (v := 8) (lv' := [(2, .int 8), (0, .ref a0), (1, .int x1)]) C.1 C.2.1 dX12_lay_30 hl (k := 0) rfl (by decide) (by decide) rfl (fun ls hl => ?_)
  refine lv_goto (tgt := 3) C.1 C.2.1 dX12_lay_33 (by decide) ?_
  refine lv_iload_n C.1 C.2.1 dX12_lay_3 rfl (lv_at hl 0 rfl) ?_
  refine lv_if_lt (tgt := 36) C.1 C.2.1 dX12_lay_4 (by decide) (fun h => absurd h (by decide)) (fun _ => ?_)
  refine lv_aload_n C.1 C.2.1 dX12_lay_7 rfl (lv_at hl 1 rfl) ?_
  refine k_get (v := .ref a1) C hP 0 rfl rfl inlX12 1 (by decide) m_7_4 (sn (by decide) (sn (by decide) e0_1)) dX12_lay_8 ?_
  refine lv_aload_n C.1 C.2.1 dX12_lay_11 rfl (lv_at hl 1 rfl) ?_
  refine k_get (v := .int 10) C hP 0 rfl rfl inlX12 2 (by decide) m_9_19 (ss (sk (sl n0) (by decide))) dX12_lay_12 ?_
  refine lv_iload_n C.1 C.2.1 dX12_lay_15 rfl (lv_at hl 2 rfl) ?_
  refine lv_iload_n C.1 C.2.1 dX12_lay_16 rfl (lv_at hl 0 rfl) ?_
  refine k_ishr (v := (x1 >>> (8 &&& 31))) C rfl dX12_lay_17 ?_
  refine lv_i2b (v := ((x1 >>> (8 &&& 31))).toInt8.toInt32) C.1 C.2.1 dX12_lay_18 rfl ?_
  refine k_bst (ws' := [(a0, .inr (11, ((s0.set 2 (.int 9)).set 2 (.int 10)))), (a1, .inl (K 2, 8192, .inl (upd (upd (upd f1 8 (vp_nar .byte ((x1 >>> (24 &&& 31))).toInt8.toInt32)) 9 (vp_nar .byte ((x1 >>> (16 &&& 31))).toInt8.toInt32)) 10 (vp_nar .byte ((x1 >>> (8 &&& 31))).toInt8.toInt32))))]) (j := 10) (x' := (vp_nar .byte ((x1 >>> (8 &&& 31))).toInt8.toInt32)) C hP hD hS 1 rfl (vin (by decide)) (by decide) rfl rfl dX12_lay_19 (fun H locs hP hD hS => ?_)
  refine lv_aload_n C.1 C.2.1 dX12_lay_20 rfl (lv_at hl 1 rfl) ?_
  refine lv_dup C.1 C.2.1 dX12_lay_21 rfl ?_
  refine k_get (v := .int 10) C hP 0 rfl rfl inlX12 2 (by decide) m_9_19 (ss (sk (sl n0) (by decide))) dX12_lay_22 ?_
  refine lv_iconst (v := 1) C.1 C.2.1 dX12_lay_25 (by decide) ?_
  refine k_iadd (v := 11) C (by decide) dX12_lay_26 ?_
  refine k_put (ws' := [(a0, .inr (11, (((s0.set 2 (.int 9)).set 2 (.int 10)).set 2 (.int 11)))), (a1, .inl (K 2, 8192, .inl (upd (upd (upd f1 8 (vp_nar .byte ((x1 >>> (24 &&& 31))).toInt8.toInt32)) 9 (vp_nar .byte ((x1 >>> (16 &&& 31))).toInt8.toInt32)) 10 (vp_nar .byte ((x1 >>> (8 &&& 31))).toInt8.toInt32))))]) (v := .int 11) C hP hD hS 0 rfl rfl inlX12 tyX12_ok nmX12 2 (by decide) m_9_19 rfl rfl rfl (sl (sl n0)) rfl dX12_lay_27 (fun H locs hP hD hS => ?_)
  refine lv_iinc (v := 0) (lv' := [(2, .int 0), (0, .ref a0), (1, .int x1)]) C.1 C.2.1 dX12_lay_30 hl (k := 0) rfl (by decide) (by decide) rfl (fun ls hl => ?_)
  refine lv_goto (tgt := 3) C.1 C.2.1 dX12_lay_33 (by decide) ?_
  refine lv_iload_n C.1 C.2.1 dX12_lay_3 rfl (lv_at hl 0 rfl) ?_
  refine lv_if_lt (tgt := 36) C.1 C.2.1 dX12_lay_4 (by decide) (fun h => absurd h (by decide)) (fun _ => ?_)
  refine lv_aload_n C.1 C.2.1 dX12_lay_7 rfl (lv_at hl 1 rfl) ?_
  refine k_get (v := .ref a1) C hP 0 rfl rfl inlX12 1 (by decide) m_7_4 (sn (by decide) (sn (by decide) (sn (by decide) e0_1))) dX12_lay_8 ?_
  refine lv_aload_n C.1 C.2.1 dX12_lay_11 rfl (lv_at hl 1 rfl) ?_
  refine k_get (v := .int 11) C hP 0 rfl rfl inlX12 2 (by decide) m_9_19 (ss (sk (sl (sl n0)) (by decide))) dX12_lay_12 ?_
  refine lv_iload_n C.1 C.2.1 dX12_lay_15 rfl (lv_at hl 2 rfl) ?_
  refine lv_iload_n C.1 C.2.1 dX12_lay_16 rfl (lv_at hl 0 rfl) ?_
  refine k_ishr (v := (x1 >>> (0 &&& 31))) C rfl dX12_lay_17 ?_
  refine lv_i2b (v := ((x1 >>> (0 &&& 31))).toInt8.toInt32) C.1 C.2.1 dX12_lay_18 rfl ?_
  refine k_bst (ws' := [(a0, .inr (11, (((s0.set 2 (.int 9)).set 2 (.int 10)).set 2 (.int 11)))), (a1, .inl (K 2, 8192, .inl (upd (upd (upd (upd f1 8 (vp_nar .byte ((x1 >>> (24 &&& 31))).toInt8.toInt32)) 9 (vp_nar .byte ((x1 >>> (16 &&& 31))).toInt8.toInt32)) 10 (vp_nar .byte ((x1 >>> (8 &&& 31))).toInt8.toInt32)) 11 (vp_nar .byte ((x1 >>> (0 &&& 31))).toInt8.toInt32))))]) (j := 11) (x' := (vp_nar .byte ((x1 >>> (0 &&& 31))).toInt8.toInt32)) C hP hD hS 1 rfl (vin (by decide)) (by decide) rfl rfl dX12_lay_19 (fun H locs hP hD hS => ?_)
  refine lv_aload_n C.1 C.2.1 dX12_lay_20 rfl (lv_at hl 1 rfl) ?_
  refine lv_dup C.1 C.2.1 dX12_lay_21 rfl ?_
  refine k_get (v := .int 11) C hP 0 rfl rfl inlX12 2 (by decide) m_9_19 (ss (sk (sl (sl n0)) (by decide))) dX12_lay_22 ?_
  refine lv_iconst (v := 1) C.1 C.2.1 dX12_lay_25 (by decide) ?_
  refine k_iadd (v := 12) C (by decide) dX12_lay_26 ?_
  refine k_put (ws' := [(a0, .inr (11, ((((s0.set 2 (.int 9)).set 2 (.int 10)).set 2 (.int 11)).set 2 (.int 12)))), (a1, .inl (K 2, 8192, .inl (upd (upd (upd (upd f1 8 (vp_nar .byte ((x1 >>> (24 &&& 31))).toInt8.toInt32)) 9 (vp_nar .byte ((x1 >>> (16 &&& 31))).toInt8.toInt32)) 10 (vp_nar .byte ((x1 >>> (8 &&& 31))).toInt8.toInt32)) 11 (vp_nar .byte ((x1 >>> (0 &&& 31))).toInt8.toInt32))))]) (v := .int 12) C hP hD hS 0 rfl rfl inlX12 tyX12_ok nmX12 2 (by decide) m_9_19 rfl rfl rfl (sl (sl (sl n0))) rfl dX12_lay_27 (fun H locs hP hD hS => ?_)
  refine lv_iinc (v := (-8)) (lv' := [(2, .int (-8)), (0, .ref a0), (1, .int x1)]) C.1 C.2.1 dX12_lay_30 hl (k := 0) rfl (by decide) (by decide) rfl (fun ls hl => ?_)
  refine lv_goto (tgt := 3) C.1 C.2.1 dX12_lay_33 (by decide) ?_
  refine lv_iload_n C.1 C.2.1 dX12_lay_3 rfl (lv_at hl 0 rfl) ?_
  refine lv_if_lt (tgt := 36) C.1 C.2.1 dX12_lay_4 (by decide) (fun _ => ?_) (fun h => absurd (by decide) h)
  exact k_vret C hr hlocks hP hD hS (fun _ => 0) [0, 1] rfl rfl trivial (Nat.le_of_ble_eq_true rfl) (Nat.le_of_ble_eq_true rfl) dX12_lay_36
set_option maxHeartbeats 4000000 in
set_option maxRecDepth 100000 in
theorem c_X12_lay_4 (l : Launch) (D : va_G) (K : Nat → ClassId) (a0 : Nat) (a1 : Nat) (s0 : List Value) (n0 : s0.length = 94) (f1 : Nat → Int32) (x1 : Int32) (e0_1 : s0[1]? = some (.ref a1)) (e0_2 : s0[2]? = some (.int 12)) : uMet l yX12_lay cX12_lay 3 none (rmD 0 0 0) D K X0 [.ref a0, .int x1] [(a0, .inr (11, s0)), (a1, .inl (K 2, 8192, .inl f1))] (QV D K (fun (u : Nat → Nat) => True) (fun (u : Nat → Nat) => [(a0, .inr (11, ((((s0.set 2 (.int 13)).set 2 (.int 14)).set 2 (.int 15)).set 2 (.int 16)))), (a1, .inl (K 2, 8192, .inl (upd (upd (upd (upd f1 12 (vp_nar .byte ((x1 >>> (24 &&& 31))).toInt8.toInt32)) 13 (vp_nar .byte ((x1 >>> (16 &&& 31))).toInt8.toInt32)) 14 (vp_nar .byte ((x1 >>> (8 &&& 31))).toInt8.toInt32)) 15 (vp_nar .byte ((x1 >>> (0 &&& 31))).toInt8.toInt32))))])) 0 0 := by
  refine k_met RX12 ⟨rfl, by decide +kernel⟩ (Nat.le_of_ble_eq_true rfl) ?_
  intro p e s m below meth c A ls C hX hr hlocks hin hA hP hD hS hl
  have hl : lv_has ls 3 [(0, .ref a0), (1, .int x1)] := hl
  refine lv_bipush (v := 24) C.1 C.2.1 dX12_lay_0 (by decide) ?_
  refine lv_istore_n (lv' := [(2, .int 24), (0, .ref a0), (1, .int x1)]) C.1 C.2.1 dX12_lay_2 rfl hl (by decide) rfl (fun ls hl => ?_)
  refine lv_iload_n C.1 C.2.1 dX12_lay_3 rfl (lv_at hl 0 rfl) ?_
  refine lv_if_lt (tgt := 36) C.1 C.2.1 dX12_lay_4 (by decide) (fun h => absurd h (by decide)) (fun _ => ?_)
  refine lv_aload_n C.1 C.2.1 dX12_lay_7 rfl (lv_at hl 1 rfl) ?_
  refine k_get (v := .ref a1) C hP 0 rfl rfl inlX12 1 (by decide) m_7_4 e0_1 dX12_lay_8 ?_
  refine lv_aload_n C.1 C.2.1 dX12_lay_11 rfl (lv_at hl 1 rfl) ?_
  refine k_get (v := .int 12) C hP 0 rfl rfl inlX12 2 (by decide) m_9_19 e0_2 dX12_lay_12 ?_
  refine lv_iload_n C.1 C.2.1 dX12_lay_15 rfl (lv_at hl 2 rfl) ?_
  refine lv_iload_n C.1 C.2.1 dX12_lay_16 rfl (lv_at hl 0 rfl) ?_
  refine k_ishr (v := (x1 >>> (24 &&& 31))) C rfl dX12_lay_17 ?_
  refine lv_i2b (v := ((x1 >>> (24 &&& 31))).toInt8.toInt32) C.1 C.2.1 dX12_lay_18 rfl ?_
  refine k_bst (ws' := [(a0, .inr (11, s0)), (a1, .inl (K 2, 8192, .inl (upd f1 12 (vp_nar .byte ((x1 >>> (24 &&& 31))).toInt8.toInt32))))]) (j := 12) (x' := (vp_nar .byte ((x1 >>> (24 &&& 31))).toInt8.toInt32)) C hP hD hS 1 rfl (vin (by decide)) (by decide) rfl rfl dX12_lay_19 (fun H locs hP hD hS => ?_)
  refine lv_aload_n C.1 C.2.1 dX12_lay_20 rfl (lv_at hl 1 rfl) ?_
  refine lv_dup C.1 C.2.1 dX12_lay_21 rfl ?_
  refine k_get (v := .int 12) C hP 0 rfl rfl inlX12 2 (by decide) m_9_19 e0_2 dX12_lay_22 ?_
  refine lv_iconst (v := 1) C.1 C.2.1 dX12_lay_25 (by decide) ?_
  refine k_iadd (v := 13) C (by decide) dX12_lay_26 ?_
  refine k_put (ws' := [(a0, .inr (11, (s0.set 2 (.int 13)))), (a1, .inl (K 2, 8192, .inl (upd f1 12 (vp_nar .byte ((x1 >>> (24 &&& 31))).toInt8.toInt32))))]) (v := .int 13) C hP hD hS 0 rfl rfl inlX12 tyX12_ok nmX12 2 (by decide) m_9_19 rfl rfl rfl n0 rfl dX12_lay_27 (fun H locs hP hD hS => ?_)
  refine lv_iinc (v := 16) (lv' := [(2, .int 16), (0, .ref a0), (1, .int x1)]) C.1 C.2.1 dX12_lay_30 hl (k := 0) rfl (by decide) (by decide) rfl (fun ls hl => ?_)
  refine lv_goto (tgt := 3) C.1 C.2.1 dX12_lay_33 (by decide) ?_
  refine lv_iload_n C.1 C.2.1 dX12_lay_3 rfl (lv_at hl 0 rfl) ?_
  refine lv_if_lt (tgt := 36) C.1 C.2.1 dX12_lay_4 (by decide) (fun h => absurd h (by decide)) (fun _ => ?_)
  refine lv_aload_n C.1 C.2.1 dX12_lay_7 rfl (lv_at hl 1 rfl) ?_
  refine k_get (v := .ref a1) C hP 0 rfl rfl inlX12 1 (by decide) m_7_4 (sn (by decide) e0_1) dX12_lay_8 ?_
  refine lv_aload_n C.1 C.2.1 dX12_lay_11 rfl (lv_at hl 1 rfl) ?_
  refine k_get (v := .int 13) C hP 0 rfl rfl inlX12 2 (by decide) m_9_19 (ss (sk n0 (by decide))) dX12_lay_12 ?_
  refine lv_iload_n C.1 C.2.1 dX12_lay_15 rfl (lv_at hl 2 rfl) ?_
  refine lv_iload_n C.1 C.2.1 dX12_lay_16 rfl (lv_at hl 0 rfl) ?_
  refine k_ishr (v := (x1 >>> (16 &&& 31))) C rfl dX12_lay_17 ?_
  refine lv_i2b (v := ((x1 >>> (16 &&& 31))).toInt8.toInt32) C.1 C.2.1 dX12_lay_18 rfl ?_
  refine k_bst (ws' := [(a0, .inr (11, (s0.set 2 (.int 13)))), (a1, .inl (K 2, 8192, .inl (upd (upd f1 12 (vp_nar .byte ((x1 >>> (24 &&& 31))).toInt8.toInt32)) 13 (vp_nar .byte ((x1 >>> (16 &&& 31))).toInt8.toInt32))))]) (j := 13) (x' := (vp_nar .byte ((x1 >>> (16 &&& 31))).toInt8.toInt32)) C hP hD hS 1 rfl (vin (by decide)) (by decide) rfl rfl dX12_lay_19 (fun H locs hP hD hS => ?_)
  refine lv_aload_n C.1 C.2.1 dX12_lay_20 rfl (lv_at hl 1 rfl) ?_
  refine lv_dup C.1 C.2.1 dX12_lay_21 rfl ?_
  refine k_get (v := .int 13) C hP 0 rfl rfl inlX12 2 (by decide) m_9_19 (ss (sk n0 (by decide))) dX12_lay_22 ?_
  refine lv_iconst (v := 1) C.1 C.2.1 dX12_lay_25 (by decide) ?_
  refine k_iadd (v := 14) C (by decide) dX12_lay_26 ?_
  refine k_put (ws' := [(a0, .inr (11, ((s0.set 2 (.int 13)).set 2 (.int 14)))), (a1, .inl (K 2, 8192, .inl (upd (upd f1 12 (vp_nar .byte ((x1 >>> (24 &&& 31))).toInt8.toInt32)) 13 (vp_nar .byte ((x1 >>> (16 &&& 31))).toInt8.toInt32))))]) (v := .int 14) C hP hD hS 0 rfl rfl inlX12 tyX12_ok nmX12 2 (by decide) m_9_19 rfl rfl rfl (sl n0) rfl dX12_lay_27 (fun H locs hP hD hS => ?_)
  refine lv_iinc (v := 8) (lv' := [(2, .int 8), (0, .ref a0), (1, .int x1)]) C.1 C.2.1 dX12_lay_30 hl (k := 0) rfl (by decide) (by decide) rfl (fun ls hl => ?_)
  refine lv_goto (tgt := 3) C.1 C.2.1 dX12_lay_33 (by decide) ?_
  refine lv_iload_n C.1 C.2.1 dX12_lay_3 rfl (lv_at hl 0 rfl) ?_
  refine lv_if_lt (tgt := 36) C.1 C.2.1 dX12_lay_4 (by decide) (fun h => absurd h (by decide)) (fun _ => ?_)
  refine lv_aload_n C.1 C.2.1 dX12_lay_7 rfl (lv_at hl 1 rfl) ?_
  refine k_get (v := .ref a1) C hP 0 rfl rfl inlX12 1 (by decide) m_7_4 (sn (by decide) (sn (by decide) e0_1)) dX12_lay_8 ?_
  refine lv_aload_n C.1 C.2.1 dX12_lay_11 rfl (lv_at hl 1 rfl) ?_
  refine k_get (v := .int 14) C hP 0 rfl rfl inlX12 2 (by decide) m_9_19 (ss (sk (sl n0) (by decide))) dX12_lay_12 ?_
  refine lv_iload_n C.1 C.2.1 dX12_lay_15 rfl (lv_at hl 2 rfl) ?_
  refine lv_iload_n C.1 C.2.1 dX12_lay_16 rfl (lv_at hl 0 rfl) ?_
  refine k_ishr (v := (x1 >>> (8 &&& 31))) C rfl dX12_lay_17 ?_
  refine lv_i2b (v := ((x1 >>> (8 &&& 31))).toInt8.toInt32) C.1 C.2.1 dX12_lay_18 rfl ?_
  refine k_bst (ws' := [(a0, .inr (11, ((s0.set 2 (.int 13)).set 2 (.int 14)))), (a1, .inl (K 2, 8192, .inl (upd (upd (upd f1 12 (vp_nar .byte ((x1 >>> (24 &&& 31))).toInt8.toInt32)) 13 (vp_nar .byte ((x1 >>> (16 &&& 31))).toInt8.toInt32)) 14 (vp_nar .byte ((x1 >>> (8 &&& 31))).toInt8.toInt32))))]) (j := 14) (x' := (vp_nar .byte ((x1 >>> (8 &&& 31))).toInt8.toInt32)) C hP hD hS 1 rfl (vin (by decide)) (by decide) rfl rfl dX12_lay_19 (fun H locs hP hD hS => ?_)
  refine lv_aload_n C.1 C.2.1 dX12_lay_20 rfl (lv_at hl 1 rfl) ?_
  refine lv_dup C.1 C.2.1 dX12_lay_21 rfl ?_
  refine k_get (v := .int 14) C hP 0 rfl rfl inlX12 2 (by decide) m_9_19 (ss (sk (sl n0) (by decide))) dX12_lay_22 ?_
  refine lv_iconst (v := 1) C.1 C.2.1 dX12_lay_25 (by decide) ?_
  refine k_iadd (v := 15) C (by decide) dX12_lay_26 ?_
  refine k_put (ws' := [(a0, .inr (11, (((s0.set 2 (.int 13)).set 2 (.int 14)).set 2 (.int 15)))), (a1, .inl (K 2, 8192, .inl (upd (upd (upd f1 12 (vp_nar .byte ((x1 >>> (24 &&& 31))).toInt8.toInt32)) 13 (vp_nar .byte ((x1 >>> (16 &&& 31))).toInt8.toInt32)) 14 (vp_nar .byte ((x1 >>> (8 &&& 31))).toInt8.toInt32))))]) (v := .int 15) C hP hD hS 0 rfl rfl inlX12 tyX12_ok nmX12 2 (by decide) m_9_19 rfl rfl rfl (sl (sl n0)) rfl dX12_lay_27 (fun H locs hP hD hS => ?_)
  refine lv_iinc (v := 0) (lv' := [(2, .int 0), (0, .ref a0), (1, .int x1)]) C.1 C.2.1 dX12_lay_30 hl (k := 0) rfl (by decide) (by decide) rfl (fun ls hl => ?_)
  refine lv_goto (tgt := 3) C.1 C.2.1 dX12_lay_33 (by decide) ?_
  refine lv_iload_n C.1 C.2.1 dX12_lay_3 rfl (lv_at hl 0 rfl) ?_
  refine lv_if_lt (tgt := 36) C.1 C.2.1 dX12_lay_4 (by decide) (fun h => absurd h (by decide)) (fun _ => ?_)
  refine lv_aload_n C.1 C.2.1 dX12_lay_7 rfl (lv_at hl 1 rfl) ?_
  refine k_get (v := .ref a1) C hP 0 rfl rfl inlX12 1 (by decide) m_7_4 (sn (by decide) (sn (by decide) (sn (by decide) e0_1))) dX12_lay_8 ?_
  refine lv_aload_n C.1 C.2.1 dX12_lay_11 rfl (lv_at hl 1 rfl) ?_
  refine k_get (v := .int 15) C hP 0 rfl rfl inlX12 2 (by decide) m_9_19 (ss (sk (sl (sl n0)) (by decide))) dX12_lay_12 ?_
  refine lv_iload_n C.1 C.2.1 dX12_lay_15 rfl (lv_at hl 2 rfl) ?_
  refine lv_iload_n C.1 C.2.1 dX12_lay_16 rfl (lv_at hl 0 rfl) ?_
  refine k_ishr (v := (x1 >>> (0 &&& 31))) C rfl dX12_lay_17 ?_
  refine lv_i2b (v := ((x1 >>> (0 &&& 31))).toInt8.toInt32) C.1 C.2.1 dX12_lay_18 rfl ?_
  refine k_bst (ws' := [(a0, .inr (11, (((s0.set 2 (.int 13)).set 2 (.int 14)).set 2 (.int 15)))), (a1, .inl (K 2, 8192, .inl (upd (upd (upd (upd f1 12 (vp_nar .byte ((x1 >>> (24 &&& 31))).toInt8.toInt32)) 13 (vp_nar .byte ((x1 >>> (16 &&& 31))).toInt8.toInt32)) 14 (vp_nar .byte ((x1 >>> (8 &&& 31))).toInt8.toInt32)) 15 (vp_nar .byte ((x1 >>> (0 &&& 31))).toInt8.toInt32))))]) (j := 15) (x' := (vp_nar .byte ((x1 >>> (0 &&& 31))).toInt8.toInt32)) C hP hD hS 1 rfl (vin (by decide)) (by decide) rfl rfl dX12_lay_19 (fun H locs hP hD hS => ?_)
  refine lv_aload_n C.1 C.2.1 dX12_lay_20 rfl (lv_at hl 1 rfl) ?_
  refine lv_dup C.1 C.2.1 dX12_lay_21 rfl ?_
  refine k_get (v := .int 15) C hP 0 rfl rfl inlX12 2 (by decide) m_9_19 (ss (sk (sl (sl n0)) (by decide))) dX12_lay_22 ?_
  refine lv_iconst (v := 1) C.1 C.2.1 dX12_lay_25 (by decide) ?_
  refine k_iadd (v := 16) C (by decide) dX12_lay_26 ?_
  refine k_put (ws' := [(a0, .inr (11, ((((s0.set 2 (.int 13)).set 2 (.int 14)).set 2 (.int 15)).set 2 (.int 16)))), (a1, .inl (K 2, 8192, .inl (upd (upd (upd (upd f1 12 (vp_nar .byte ((x1 >>> (24 &&& 31))).toInt8.toInt32)) 13 (vp_nar .byte ((x1 >>> (16 &&& 31))).toInt8.toInt32)) 14 (vp_nar .byte ((x1 >>> (8 &&& 31))).toInt8.toInt32)) 15 (vp_nar .byte ((x1 >>> (0 &&& 31))).toInt8.toInt32))))]) (v := .int 16) C hP hD hS 0 rfl rfl inlX12 tyX12_ok nmX12 2 (by decide) m_9_19 rfl rfl rfl (sl (sl (sl n0))) rfl dX12_lay_27 (fun H locs hP hD hS => ?_)
  refine lv_iinc (v := (-8)) (lv' := [(2, .int (-8)), (0, .ref a0), (1, .int x1)]) C.1 C.2.1 dX12_lay_30 hl (k := 0) rfl (by decide) (by decide) rfl (fun ls hl => ?_)
  refine lv_goto (tgt := 3) C.1 C.2.1 dX12_lay_33 (by decide) ?_
  refine lv_iload_n C.1 C.2.1 dX12_lay_3 rfl (lv_at hl 0 rfl) ?_
  refine lv_if_lt (tgt := 36) C.1 C.2.1 dX12_lay_4 (by decide) (fun _ => ?_) (fun h => absurd (by decide) h)
  exact k_vret C hr hlocks hP hD hS (fun _ => 0) [0, 1] rfl rfl trivial (Nat.le_of_ble_eq_true rfl) (Nat.le_of_ble_eq_true rfl) dX12_lay_36
set_option maxHeartbeats 4000000 in
set_option maxRecDepth 100000 in
theorem c_X12_lay_5 (l : Launch) (D : va_G) (K : Nat → ClassId) (a0 : Nat) (a1 : Nat) (s0 : List Value) (n0 : s0.length = 94) (f1 : Nat → Int32) (x1 : Int32) (e0_1 : s0[1]? = some (.ref a1)) (e0_2 : s0[2]? = some (.int 16)) : uMet l yX12_lay cX12_lay 3 none (rmD 0 0 0) D K X0 [.ref a0, .int x1] [(a0, .inr (11, s0)), (a1, .inl (K 2, 8192, .inl f1))] (QV D K (fun (u : Nat → Nat) => True) (fun (u : Nat → Nat) => [(a0, .inr (11, ((((s0.set 2 (.int 17)).set 2 (.int 18)).set 2 (.int 19)).set 2 (.int 20)))), (a1, .inl (K 2, 8192, .inl (upd (upd (upd (upd f1 16 (vp_nar .byte ((x1 >>> (24 &&& 31))).toInt8.toInt32)) 17 (vp_nar .byte ((x1 >>> (16 &&& 31))).toInt8.toInt32)) 18 (vp_nar .byte ((x1 >>> (8 &&& 31))).toInt8.toInt32)) 19 (vp_nar .byte ((x1 >>> (0 &&& 31))).toInt8.toInt32))))])) 0 0 := by
  refine k_met RX12 ⟨rfl, by decide +kernel⟩ (Nat.le_of_ble_eq_true rfl) ?_
  intro p e s m below meth c A ls C hX hr hlocks hin hA hP hD hS hl
  have hl : lv_has ls 3 [(0, .ref a0), (1, .int x1)] := hl
  refine lv_bipush (v := 24) C.1 C.2.1 dX12_lay_0 (by decide) ?_
  refine lv_istore_n (lv' := [(2, .int 24), (0, .ref a0), (1, .int x1)]) C.1 C.2.1 dX12_lay_2 rfl hl (by decide) rfl (fun ls hl => ?_)
  refine lv_iload_n C.1 C.2.1 dX12_lay_3 rfl (lv_at hl 0 rfl) ?_
  refine lv_if_lt (tgt := 36) C.1 C.2.1 dX12_lay_4 (by decide) (fun h => absurd h (by decide)) (fun _ => ?_)
  refine lv_aload_n C.1 C.2.1 dX12_lay_7 rfl (lv_at hl 1 rfl) ?_
  refine k_get (v := .ref a1) C hP 0 rfl rfl inlX12 1 (by decide) m_7_4 e0_1 dX12_lay_8 ?_
  refine lv_aload_n C.1 C.2.1 dX12_lay_11 rfl (lv_at hl 1 rfl) ?_
  refine k_get (v := .int 16) C hP 0 rfl rfl inlX12 2 (by decide) m_9_19 e0_2 dX12_lay_12 ?_
  refine lv_iload_n C.1 C.2.1 dX12_lay_15 rfl (lv_at hl 2 rfl) ?_
  refine lv_iload_n C.1 C.2.1 dX12_lay_16 rfl (lv_at hl 0 rfl) ?_
  refine k_ishr (v := (x1 >>> (24 &&& 31))) C rfl dX12_lay_17 ?_
  refine lv_i2b (v := ((x1 >>> (24 &&& 31))).toInt8.toInt32) C.1 C.2.1 dX12_lay_18 rfl ?_
  refine k_bst (ws' := [(a0, .inr (11, s0)), (a1, .inl (K 2, 8192, .inl (upd f1 16 (vp_nar .byte ((x1 >>> (24 &&& 31))).toInt8.toInt32))))]) (j := 16) (x' := (vp_nar .byte ((x1 >>> (24 &&& 31))).toInt8.toInt32)) C hP hD hS 1 rfl (vin (by decide)) (by decide) rfl rfl dX12_lay_19 (fun H locs hP hD hS => ?_)
  refine lv_aload_n C.1 C.2.1 dX12_lay_20 rfl (lv_at hl 1 rfl) ?_
  refine lv_dup C.1 C.2.1 dX12_lay_21 rfl ?_
  refine k_get (v := .int 16) C hP 0 rfl rfl inlX12 2 (by decide) m_9_19 e0_2 dX12_lay_22 ?_
  refine lv_iconst (v := 1) C.1 C.2.1 dX12_lay_25 (by decide) ?_
  refine k_iadd (v := 17) C (by decide) dX12_lay_26 ?_
  refine k_put (ws' := [(a0, .inr (11, (s0.set 2 (.int 17)))), (a1, .inl (K 2, 8192, .inl (upd f1 16 (vp_nar .byte ((x1 >>> (24 &&& 31))).toInt8.toInt32))))]) (v := .int 17) C hP hD hS 0 rfl rfl inlX12 tyX12_ok nmX12 2 (by decide) m_9_19 rfl rfl rfl n0 rfl dX12_lay_27 (fun H locs hP hD hS => ?_)
  refine lv_iinc (v := 16) (lv' := [(2, .int 16), (0, .ref a0), (1, .int x1)]) C.1 C.2.1 dX12_lay_30 hl (k := 0) rfl (by decide) (by decide) rfl (fun ls hl => ?_)
  refine lv_goto (tgt := 3) C.1 C.2.1 dX12_lay_33 (by decide) ?_
  refine lv_iload_n C.1 C.2.1 dX12_lay_3 rfl (lv_at hl 0 rfl) ?_
  refine lv_if_lt (tgt := 36) C.1 C.2.1 dX12_lay_4 (by decide) (fun h => absurd h (by decide)) (fun _ => ?_)
  refine lv_aload_n C.1 C.2.1 dX12_lay_7 rfl (lv_at hl 1 rfl) ?_
  refine k_get (v := .ref a1) C hP 0 rfl rfl inlX12 1 (by decide) m_7_4 (sn (by decide) e0_1) dX12_lay_8 ?_
  refine lv_aload_n C.1 C.2.1 dX12_lay_11 rfl (lv_at hl 1 rfl) ?_
  refine k_get (v := .int 17) C hP 0 rfl rfl inlX12 2 (by decide) m_9_19 (ss (sk n0 (by decide))) dX12_lay_12 ?_
  refine lv_iload_n C.1 C.2.1 dX12_lay_15 rfl (lv_at hl 2 rfl) ?_
  refine lv_iload_n C.1 C.2.1 dX12_lay_16 rfl (lv_at hl 0 rfl) ?_
  refine k_ishr (v := (x1 >>> (16 &&& 31))) C rfl dX12_lay_17 ?_
  refine lv_i2b (v := ((x1 >>> (16 &&& 31))).toInt8.toInt32) C.1 C.2.1 dX12_lay_18 rfl ?_
  refine k_bst (ws' := [(a0, .inr (11, (s0.set 2 (.int 17)))), (a1, .inl (K 2, 8192, .inl (upd (upd f1 16 (vp_nar .byte ((x1 >>> (24 &&& 31))).toInt8.toInt32)) 17 (vp_nar .byte ((x1 >>> (16 &&& 31))).toInt8.toInt32))))]) (j := 17) (x' := (vp_nar .byte ((x1 >>> (16 &&& 31))).toInt8.toInt32)) C hP hD hS 1 rfl (vin (by decide)) (by decide) rfl rfl dX12_lay_19 (fun H locs hP hD hS => ?_)
  refine lv_aload_n C.1 C.2.1 dX12_lay_20 rfl (lv_at hl 1 rfl) ?_
  refine lv_dup C.1 C.2.1 dX12_lay_21 rfl ?_
  refine k_get (v := .int 17) C hP 0 rfl rfl inlX12 2 (by decide) m_9_19 (ss (sk n0 (by decide))) dX12_lay_22 ?_
  refine lv_iconst (v := 1) C.1 C.2.1 dX12_lay_25 (by decide) ?_
  refine k_iadd (v := 18) C (by decide) dX12_lay_26 ?_
  refine k_put (ws' := [(a0, .inr (11, ((s0.set 2 (.int 17)).set 2 (.int 18)))), (a1, .inl (K 2, 8192, .inl (upd (upd f1 16 (vp_nar .byte ((x1 >>> (24 &&& 31))).toInt8.toInt32)) 17 (vp_nar .byte ((x1 >>> (16 &&& 31))).toInt8.toInt32))))]) (v := .int 18) C hP hD hS 0 rfl rfl inlX12 tyX12_ok nmX12 2 (by decide) m_9_19 rfl rfl rfl (sl n0) rfl dX12_lay_27 (fun H locs hP hD hS => ?_)
  refine lv_iinc (v := 8) (lv' := [(2, .int 8), (0, .ref a0), (1, .int x1)]) C.1 C.2.1 dX12_lay_30 hl (k := 0) rfl (by decide) (by decide) rfl (fun ls hl => ?_)
  refine lv_goto (tgt := 3) C.1 C.2.1 dX12_lay_33 (by decide) ?_
  refine lv_iload_n C.1 C.2.1 dX12_lay_3 rfl (lv_at hl 0 rfl) ?_
  refine lv_if_lt (tgt := 36) C.1 C.2.1 dX12_lay_4 (by decide) (fun h => absurd h (by decide)) (fun _ => ?_)
  refine lv_aload_n C.1 C.2.1 dX12_lay_7 rfl (lv_at hl 1 rfl) ?_
  refine k_get (v := .ref a1) C hP 0 rfl rfl inlX12 1 (by decide) m_7_4 (sn (by decide) (sn (by decide) e0_1)) dX12_lay_8 ?_
  refine lv_aload_n C.1 C.2.1 dX12_lay_11 rfl (lv_at hl 1 rfl) ?_
  refine k_get (v := .int 18) C hP 0 rfl rfl inlX12 2 (by decide) m_9_19 (ss (sk (sl n0) (by decide))) dX12_lay_12 ?_
  refine lv_iload_n C.1 C.2.1 dX12_lay_15 rfl (lv_at hl 2 rfl) ?_
  refine lv_iload_n C.1 C.2.1 dX12_lay_16 rfl (lv_at hl 0 rfl) ?_
  refine k_ishr (v := (x1 >>> (8 &&& 31))) C rfl dX12_lay_17 ?_
  refine lv_i2b (v := ((x1 >>> (8 &&& 31))).toInt8.toInt32) C.1 C.2.1 dX12_lay_18 rfl ?_
  refine k_bst (ws' := [(a0, .inr (11, ((s0.set 2 (.int 17)).set 2 (.int 18)))), (a1, .inl (K 2, 8192, .inl (upd (upd (upd f1 16 (vp_nar .byte ((x1 >>> (24 &&& 31))).toInt8.toInt32)) 17 (vp_nar .byte ((x1 >>> (16 &&& 31))).toInt8.toInt32)) 18 (vp_nar .byte ((x1 >>> (8 &&& 31))).toInt8.toInt32))))]) (j := 18) (x' := (vp_nar .byte ((x1 >>> (8 &&& 31))).toInt8.toInt32)) C hP hD hS 1 rfl (vin (by decide)) (by decide) rfl rfl dX12_lay_19 (fun H locs hP hD hS => ?_)
  refine lv_aload_n C.1 C.2.1 dX12_lay_20 rfl (lv_at hl 1 rfl) ?_
  refine lv_dup C.1 C.2.1 dX12_lay_21 rfl ?_
  refine k_get (v := .int 18) C hP 0 rfl rfl inlX12 2 (by decide) m_9_19 (ss (sk (sl n0) (by decide))) dX12_lay_22 ?_
  refine lv_iconst (v := 1) C.1 C.2.1 dX12_lay_25 (by decide) ?_
  refine k_iadd (v := 19) C (by decide) dX12_lay_26 ?_
  refine k_put (ws' := [(a0, .inr (11, (((s0.set 2 (.int 17)).set 2 (.int 18)).set 2 (.int 19)))), (a1, .inl (K 2, 8192, .inl (upd (upd (upd f1 16 (vp_nar .byte ((x1 >>> (24 &&& 31))).toInt8.toInt32)) 17 (vp_nar .byte ((x1 >>> (16 &&& 31))).toInt8.toInt32)) 18 (vp_nar .byte ((x1 >>> (8 &&& 31))).toInt8.toInt32))))]) (v := .int 19) C hP hD hS 0 rfl rfl inlX12 tyX12_ok nmX12 2 (by decide) m_9_19 rfl rfl rfl (sl (sl n0)) rfl dX12_lay_27 (fun H locs hP hD hS => ?_)
  refine lv_iinc (v := 0) (lv' := [(2, .int 0), (0, .ref a0), (1, .int x1)]) C.1 C.2.1 dX12_lay_30 hl (k := 0) rfl (by decide) (by decide) rfl (fun ls hl => ?_)
  refine lv_goto (tgt := 3) C.1 C.2.1 dX12_lay_33 (by decide) ?_
  refine lv_iload_n C.1 C.2.1 dX12_lay_3 rfl (lv_at hl 0 rfl) ?_
  refine lv_if_lt (tgt := 36) C.1 C.2.1 dX12_lay_4 (by decide) (fun h => absurd h (by decide)) (fun _ => ?_)
  refine lv_aload_n C.1 C.2.1 dX12_lay_7 rfl (lv_at hl 1 rfl) ?_
  refine k_get (v := .ref a1) C hP 0 rfl rfl inlX12 1 (by decide) m_7_4 (sn (by decide) (sn (by decide) (sn (by decide) e0_1))) dX12_lay_8 ?_
  refine lv_aload_n C.1 C.2.1 dX12_lay_11 rfl (lv_at hl 1 rfl) ?_
  refine k_get (v := .int 19) C hP 0 rfl rfl inlX12 2 (by decide) m_9_19 (ss (sk (sl (sl n0)) (by decide))) dX12_lay_12 ?_
  refine lv_iload_n C.1 C.2.1 dX12_lay_15 rfl (lv_at hl 2 rfl) ?_
  refine lv_iload_n C.1 C.2.1 dX12_lay_16 rfl (lv_at hl 0 rfl) ?_
  refine k_ishr (v := (x1 >>> (0 &&& 31))) C rfl dX12_lay_17 ?_
  refine lv_i2b (v := ((x1 >>> (0 &&& 31))).toInt8.toInt32) C.1 C.2.1 dX12_lay_18 rfl ?_
  refine k_bst (ws' := [(a0, .inr (11, (((s0.set 2 (.int 17)).set 2 (.int 18)).set 2 (.int 19)))), (a1, .inl (K 2, 8192, .inl (upd (upd (upd (upd f1 16 (vp_nar .byte ((x1 >>> (24 &&& 31))).toInt8.toInt32)) 17 (vp_nar .byte ((x1 >>> (16 &&& 31))).toInt8.toInt32)) 18 (vp_nar .byte ((x1 >>> (8 &&& 31))).toInt8.toInt32)) 19 (vp_nar .byte ((x1 >>> (0 &&& 31))).toInt8.toInt32))))]) (j := 19) (x' := (vp_nar .byte ((x1 >>> (0 &&& 31))).toInt8.toInt32)) C hP hD hS 1 rfl (vin (by decide)) (by decide) rfl rfl dX12_lay_19 (fun H locs hP hD hS => ?_)
  refine lv_aload_n C.1 C.2.1 dX12_lay_20 rfl (lv_at hl 1 rfl) ?_
  refine lv_dup C.1 C.2.1 dX12_lay_21 rfl ?_
  refine k_get (v := .int 19) C hP 0 rfl rfl inlX12 2 (by decide) m_9_19 (ss (sk (sl (sl n0)) (by decide))) dX12_lay_22 ?_
  refine lv_iconst (v := 1) C.1 C.2.1 dX12_lay_25 (by decide) ?_
  refine k_iadd (v := 20) C (by decide) dX12_lay_26 ?_
  refine k_put (ws' := [(a0, .inr (11, ((((s0.set 2 (.int 17)).set 2 (.int 18)).set 2 (.int 19)).set 2 (.int 20)))), (a1, .inl (K 2, 8192, .inl (upd (upd (upd (upd f1 16 (vp_nar .byte ((x1 >>> (24 &&& 31))).toInt8.toInt32)) 17 (vp_nar .byte ((x1 >>> (16 &&& 31))).toInt8.toInt32)) 18 (vp_nar .byte ((x1 >>> (8 &&& 31))).toInt8.toInt32)) 19 (vp_nar .byte ((x1 >>> (0 &&& 31))).toInt8.toInt32))))]) (v := .int 20) C hP hD hS 0 rfl rfl inlX12 tyX12_ok nmX12 2 (by decide) m_9_19 rfl rfl rfl (sl (sl (sl n0))) rfl dX12_lay_27 (fun H locs hP hD hS => ?_)
  refine lv_iinc (v := (-8)) (lv' := [(2, .int (-8)), (0, .ref a0), (1, .int x1)]) C.1 C.2.1 dX12_lay_30 hl (k := 0) rfl (by decide) (by decide) rfl (fun ls hl => ?_)
  refine lv_goto (tgt := 3) C.1 C.2.1 dX12_lay_33 (by decide) ?_
  refine lv_iload_n C.1 C.2.1 dX12_lay_3 rfl (lv_at hl 0 rfl) ?_
  refine lv_if_lt (tgt := 36) C.1 C.2.1 dX12_lay_4 (by decide) (fun _ => ?_) (fun h => absurd (by decide) h)
  exact k_vret C hr hlocks hP hD hS (fun _ => 0) [0, 1] rfl rfl trivial (Nat.le_of_ble_eq_true rfl) (Nat.le_of_ble_eq_true rfl) dX12_lay_36
set_option maxHeartbeats 4000000 in
set_option maxRecDepth 100000 in
theorem t_X12_feed (l : Launch) (D : va_G) (K : Nat → ClassId) (a0 : Nat) (a1 : Nat) (s0 : List Value) (n0 : s0.length = 94) (f1 : Nat → Int32) (x1 : Int32) (x2 : Int32) (x3 : Int32) (x4 : Int32) (x5 : Int32) (e0_2 : s0[2]? = some (.int 0)) (e0_1 : s0[1]? = some (.ref a1)) : uMet l yX12_feed cX12_feed 6 (some .boolean) (rmD 1 0 0) D K X0 [.ref a0, .int x1, .int x2, .int x3, .int x4, .int x5] [(a0, .inr (11, s0)), (a1, .inl (K 2, 8192, .inl f1))] (QI D K (fun (r : Int32) (u : Nat → Nat) => r = 1) (fun (u : Nat → Nat) => [])) 0 0 := by
  refine k_met RX12 ⟨rfl, by decide +kernel⟩ (Nat.le_of_ble_eq_true rfl) ?_
  intro p e s m below meth c A ls C hX hr hlocks hin hA hP hD hS hl
  have hl : lv_has ls 6 [(0, .ref a0), (1, .int x1), (2, .int x2), (3, .int x3), (4, .int x4), (5, .int x5)] := hl
  refine lv_aload_n C.1 C.2.1 dX12_feed_0 rfl (lv_at hl 0 rfl) ?_
  refine lv_iconst (v := 0) C.1 C.2.1 dX12_feed_1 (by decide) ?_
  refine k_put (ws' := [(a0, .inr (11, (s0.set 0 (.int 0)))), (a1, .inl (K 2, 8192, .inl f1))]) (v := .int 0) C hP hD hS 0 rfl rfl inlX12 tyX12_ok nmX12 0 (by decide) m_9_18 rfl rfl rfl n0 rfl dX12_feed_2 (fun H locs hP hD hS => ?_)
  refine lv_aload_n C.1 C.2.1 dX12_feed_5 rfl (lv_at hl 0 rfl) ?_
  refine k_get (v := .int 0) C hP 0 rfl rfl inlX12 2 (by decide) m_9_19 (sn (by decide) e0_2) dX12_feed_6 ?_
  refine lv_bipush (v := 20) C.1 C.2.1 dX12_feed_9 (by decide) ?_
  refine k_iadd (v := 20) C (by decide) dX12_feed_11 ?_
  refine lv_sipush (v := 8192) C.1 C.2.1 dX12_feed_12 (by decide) ?_
  refine lv_icmp_le (tgt := 20) C.1 C.2.1 dX12_feed_15 (by decide) (fun _ => ?_) (fun h => absurd (by decide) h)
  refine lv_aload_n C.1 C.2.1 dX12_feed_20 rfl (lv_at hl 0 rfl) ?_
  refine lv_iload_n C.1 C.2.1 dX12_feed_21 rfl (lv_at hl 1 rfl) ?_
  refine k_Vv (As := [.int x1]) (rest := []) C hP hD hS hA (c_X12_lay l D K a0 a1 ((s0.set 0 (.int 0))) (sl n0) f1 x1 (sn (by decide) e0_1) (sn (by decide) e0_2)) X0_ok trivial (uwV m_9_20 m_9_21 m_9_22 m_1_5 m_9_23) (hdV 1 (by decide +kernel) rfl) ⟨Nat.le_of_ble_eq_true rfl, Nat.le_of_ble_eq_true rfl⟩ rfl rfl (ci := 11) rfl rfl (isC := [0, 1]) (isR := []) (wr := []) ⟨rfl, rfl, rfl, rfl, by decide⟩ rfl hl.1 (Nat.le_of_ble_eq_true rfl) dX12_feed_22 ⟨Nat.le_of_ble_eq_true rfl, Nat.le_of_ble_eq_true rfl⟩ (fun u_1 H locs hw hP hD hS => ?_)
  have hP : va_P D vwCl [(a0, .inr (11, (((((s0.set 0 (.int 0)).set 2 (.int 1)).set 2 (.int 2)).set 2 (.int 3)).set 2 (.int 4)))), (a1, .inl (K 2, 8192, .inl (upd (upd (upd (upd f1 0 (vp_nar .byte ((x1 >>> (24 &&& 31))).toInt8.toInt32)) 1 (vp_nar .byte ((x1 >>> (16 &&& 31))).toInt8.toInt32)) 2 (vp_nar .byte ((x1 >>> (8 &&& 31))).toInt8.toInt32)) 3 (vp_nar .byte ((x1 >>> (0 &&& 31))).toInt8.toInt32))))] H := hP
  have hD : va_D A [(a0, .inr (11, (((((s0.set 0 (.int 0)).set 2 (.int 1)).set 2 (.int 2)).set 2 (.int 3)).set 2 (.int 4)))), (a1, .inl (K 2, 8192, .inl (upd (upd (upd (upd f1 0 (vp_nar .byte ((x1 >>> (24 &&& 31))).toInt8.toInt32)) 1 (vp_nar .byte ((x1 >>> (16 &&& 31))).toInt8.toInt32)) 2 (vp_nar .byte ((x1 >>> (8 &&& 31))).toInt8.toInt32)) 3 (vp_nar .byte ((x1 >>> (0 &&& 31))).toInt8.toInt32))))] := hD
  refine lv_aload_n C.1 C.2.1 dX12_feed_25 rfl (lv_at hl 0 rfl) ?_
  refine lv_iload_n C.1 C.2.1 dX12_feed_26 rfl (lv_at hl 2 rfl) ?_
  refine k_Vv (As := [.int x2]) (rest := []) C hP hD hS hA (c_X12_lay_2 l D K a0 a1 ((((((s0.set 0 (.int 0)).set 2 (.int 1)).set 2 (.int 2)).set 2 (.int 3)).set 2 (.int 4))) (sl (sl (sl (sl (sl n0))))) (upd (upd (upd (upd f1 0 (vp_nar .byte ((x1 >>> (24 &&& 31))).toInt8.toInt32)) 1 (vp_nar .byte ((x1 >>> (16 &&& 31))).toInt8.toInt32)) 2 (vp_nar .byte ((x1 >>> (8 &&& 31))).toInt8.toInt32)) 3 (vp_nar .byte ((x1 >>> (0 &&& 31))).toInt8.toInt32)) x2 (sn (by decide) (sn (by decide) (sn (by decide) (sn (by decide) (sn (by decide) e0_1))))) (ss (sk (sl (sl (sl (sl n0)))) (by decide)))) X0_ok trivial (uwV m_9_20 m_9_21 m_9_22 m_1_5 m_9_23) (hdV 1 (by decide +kernel) rfl) ⟨Nat.le_of_ble_eq_true rfl, Nat.le_of_ble_eq_true rfl⟩ rfl rfl (ci := 11) rfl rfl (isC := [0, 1]) (isR := []) (wr := []) ⟨rfl, rfl, rfl, rfl, by decide⟩ rfl hl.1 (Nat.le_of_ble_eq_true rfl) dX12_feed_27 ⟨Nat.le_of_ble_eq_true rfl, Nat.le_of_ble_eq_true rfl⟩ (fun u_3 H locs hw hP hD hS => ?_)
  have hP : va_P D vwCl [(a0, .inr (11, (((((((((s0.set 0 (.int 0)).set 2 (.int 1)).set 2 (.int 2)).set 2 (.int 3)).set 2 (.int 4)).set 2 (.int 5)).set 2 (.int 6)).set 2 (.int 7)).set 2 (.int 8)))), (a1, .inl (K 2, 8192, .inl (upd (upd (upd (upd (upd (upd (upd (upd f1 0 (vp_nar .byte ((x1 >>> (24 &&& 31))).toInt8.toInt32)) 1 (vp_nar .byte ((x1 >>> (16 &&& 31))).toInt8.toInt32)) 2 (vp_nar .byte ((x1 >>> (8 &&& 31))).toInt8.toInt32)) 3 (vp_nar .byte ((x1 >>> (0 &&& 31))).toInt8.toInt32)) 4 (vp_nar .byte ((x2 >>> (24 &&& 31))).toInt8.toInt32)) 5 (vp_nar .byte ((x2 >>> (16 &&& 31))).toInt8.toInt32)) 6 (vp_nar .byte ((x2 >>> (8 &&& 31))).toInt8.toInt32)) 7 (vp_nar .byte ((x2 >>> (0 &&& 31))).toInt8.toInt32))))] H := hP
  have hD : va_D A [(a0, .inr (11, (((((((((s0.set 0 (.int 0)).set 2 (.int 1)).set 2 (.int 2)).set 2 (.int 3)).set 2 (.int 4)).set 2 (.int 5)).set 2 (.int 6)).set 2 (.int 7)).set 2 (.int 8)))), (a1, .inl (K 2, 8192, .inl (upd (upd (upd (upd (upd (upd (upd (upd f1 0 (vp_nar .byte ((x1 >>> (24 &&& 31))).toInt8.toInt32)) 1 (vp_nar .byte ((x1 >>> (16 &&& 31))).toInt8.toInt32)) 2 (vp_nar .byte ((x1 >>> (8 &&& 31))).toInt8.toInt32)) 3 (vp_nar .byte ((x1 >>> (0 &&& 31))).toInt8.toInt32)) 4 (vp_nar .byte ((x2 >>> (24 &&& 31))).toInt8.toInt32)) 5 (vp_nar .byte ((x2 >>> (16 &&& 31))).toInt8.toInt32)) 6 (vp_nar .byte ((x2 >>> (8 &&& 31))).toInt8.toInt32)) 7 (vp_nar .byte ((x2 >>> (0 &&& 31))).toInt8.toInt32))))] := hD
  refine lv_aload_n C.1 C.2.1 dX12_feed_30 rfl (lv_at hl 0 rfl) ?_
  refine lv_iload_n C.1 C.2.1 dX12_feed_31 rfl (lv_at hl 3 rfl) ?_
  refine k_Vv (As := [.int x3]) (rest := []) C hP hD hS hA (c_X12_lay_3 l D K a0 a1 ((((((((((s0.set 0 (.int 0)).set 2 (.int 1)).set 2 (.int 2)).set 2 (.int 3)).set 2 (.int 4)).set 2 (.int 5)).set 2 (.int 6)).set 2 (.int 7)).set 2 (.int 8))) (sl (sl (sl (sl (sl (sl (sl (sl (sl n0))))))))) (upd (upd (upd (upd (upd (upd (upd (upd f1 0 (vp_nar .byte ((x1 >>> (24 &&& 31))).toInt8.toInt32)) 1 (vp_nar .byte ((x1 >>> (16 &&& 31))).toInt8.toInt32)) 2 (vp_nar .byte ((x1 >>> (8 &&& 31))).toInt8.toInt32)) 3 (vp_nar .byte ((x1 >>> (0 &&& 31))).toInt8.toInt32)) 4 (vp_nar .byte ((x2 >>> (24 &&& 31))).toInt8.toInt32)) 5 (vp_nar .byte ((x2 >>> (16 &&& 31))).toInt8.toInt32)) 6 (vp_nar .byte ((x2 >>> (8 &&& 31))).toInt8.toInt32)) 7 (vp_nar .byte ((x2 >>> (0 &&& 31))).toInt8.toInt32)) x3 (sn (by decide) (sn (by decide) (sn (by decide) (sn (by decide) (sn (by decide) (sn (by decide) (sn (by decide) (sn (by decide) (sn (by decide) e0_1))))))))) (ss (sk (sl (sl (sl (sl (sl (sl (sl (sl n0)))))))) (by decide)))) X0_ok trivial (uwV m_9_20 m_9_21 m_9_22 m_1_5 m_9_23) (hdV 1 (by decide +kernel) rfl) ⟨Nat.le_of_ble_eq_true rfl, Nat.le_of_ble_eq_true rfl⟩ rfl rfl (ci := 11) rfl rfl (isC := [0, 1]) (isR := []) (wr := []) ⟨rfl, rfl, rfl, rfl, by decide⟩ rfl hl.1 (Nat.le_of_ble_eq_true rfl) dX12_feed_32 ⟨Nat.le_of_ble_eq_true rfl, Nat.le_of_ble_eq_true rfl⟩ (fun u_5 H locs hw hP hD hS => ?_)
  have hP : va_P D vwCl [(a0, .inr (11, (((((((((((((s0.set 0 (.int 0)).set 2 (.int 1)).set 2 (.int 2)).set 2 (.int 3)).set 2 (.int 4)).set 2 (.int 5)).set 2 (.int 6)).set 2 (.int 7)).set 2 (.int 8)).set 2 (.int 9)).set 2 (.int 10)).set 2 (.int 11)).set 2 (.int 12)))), (a1, .inl (K 2, 8192, .inl (upd (upd (upd (upd (upd (upd (upd (upd (upd (upd (upd (upd f1 0 (vp_nar .byte ((x1 >>> (24 &&& 31))).toInt8.toInt32)) 1 (vp_nar .byte ((x1 >>> (16 &&& 31))).toInt8.toInt32)) 2 (vp_nar .byte ((x1 >>> (8 &&& 31))).toInt8.toInt32)) 3 (vp_nar .byte ((x1 >>> (0 &&& 31))).toInt8.toInt32)) 4 (vp_nar .byte ((x2 >>> (24 &&& 31))).toInt8.toInt32)) 5 (vp_nar .byte ((x2 >>> (16 &&& 31))).toInt8.toInt32)) 6 (vp_nar .byte ((x2 >>> (8 &&& 31))).toInt8.toInt32)) 7 (vp_nar .byte ((x2 >>> (0 &&& 31))).toInt8.toInt32)) 8 (vp_nar .byte ((x3 >>> (24 &&& 31))).toInt8.toInt32)) 9 (vp_nar .byte ((x3 >>> (16 &&& 31))).toInt8.toInt32)) 10 (vp_nar .byte ((x3 >>> (8 &&& 31))).toInt8.toInt32)) 11 (vp_nar .byte ((x3 >>> (0 &&& 31))).toInt8.toInt32))))] H := hP
  have hD : va_D A [(a0, .inr (11, (((((((((((((s0.set 0 (.int 0)).set 2 (.int 1)).set 2 (.int 2)).set 2 (.int 3)).set 2 (.int 4)).set 2 (.int 5)).set 2 (.int 6)).set 2 (.int 7)).set 2 (.int 8)).set 2 (.int 9)).set 2 (.int 10)).set 2 (.int 11)).set 2 (.int 12)))), (a1, .inl (K 2, 8192, .inl (upd (upd (upd (upd (upd (upd (upd (upd (upd (upd (upd (upd f1 0 (vp_nar .byte ((x1 >>> (24 &&& 31))).toInt8.toInt32)) 1 (vp_nar .byte ((x1 >>> (16 &&& 31))).toInt8.toInt32)) 2 (vp_nar .byte ((x1 >>> (8 &&& 31))).toInt8.toInt32)) 3 (vp_nar .byte ((x1 >>> (0 &&& 31))).toInt8.toInt32)) 4 (vp_nar .byte ((x2 >>> (24 &&& 31))).toInt8.toInt32)) 5 (vp_nar .byte ((x2 >>> (16 &&& 31))).toInt8.toInt32)) 6 (vp_nar .byte ((x2 >>> (8 &&& 31))).toInt8.toInt32)) 7 (vp_nar .byte ((x2 >>> (0 &&& 31))).toInt8.toInt32)) 8 (vp_nar .byte ((x3 >>> (24 &&& 31))).toInt8.toInt32)) 9 (vp_nar .byte ((x3 >>> (16 &&& 31))).toInt8.toInt32)) 10 (vp_nar .byte ((x3 >>> (8 &&& 31))).toInt8.toInt32)) 11 (vp_nar .byte ((x3 >>> (0 &&& 31))).toInt8.toInt32))))] := hD
  refine lv_aload_n C.1 C.2.1 dX12_feed_35 rfl (lv_at hl 0 rfl) ?_
  refine lv_iload C.1 C.2.1 dX12_feed_36 (lv_at hl 4 rfl) ?_
  refine k_Vv (As := [.int x4]) (rest := []) C hP hD hS hA (c_X12_lay_4 l D K a0 a1 ((((((((((((((s0.set 0 (.int 0)).set 2 (.int 1)).set 2 (.int 2)).set 2 (.int 3)).set 2 (.int 4)).set 2 (.int 5)).set 2 (.int 6)).set 2 (.int 7)).set 2 (.int 8)).set 2 (.int 9)).set 2 (.int 10)).set 2 (.int 11)).set 2 (.int 12))) (sl (sl (sl (sl (sl (sl (sl (sl (sl (sl (sl (sl (sl n0))))))))))))) (upd (upd (upd (upd (upd (upd (upd (upd (upd (upd (upd (upd f1 0 (vp_nar .byte ((x1 >>> (24 &&& 31))).toInt8.toInt32)) 1 (vp_nar .byte ((x1 >>> (16 &&& 31))).toInt8.toInt32)) 2 (vp_nar .byte ((x1 >>> (8 &&& 31))).toInt8.toInt32)) 3 (vp_nar .byte ((x1 >>> (0 &&& 31))).toInt8.toInt32)) 4 (vp_nar .byte ((x2 >>> (24 &&& 31))).toInt8.toInt32)) 5 (vp_nar .byte ((x2 >>> (16 &&& 31))).toInt8.toInt32)) 6 (vp_nar .byte ((x2 >>> (8 &&& 31))).toInt8.toInt32)) 7 (vp_nar .byte ((x2 >>> (0 &&& 31))).toInt8.toInt32)) 8 (vp_nar .byte ((x3 >>> (24 &&& 31))).toInt8.toInt32)) 9 (vp_nar .byte ((x3 >>> (16 &&& 31))).toInt8.toInt32)) 10 (vp_nar .byte ((x3 >>> (8 &&& 31))).toInt8.toInt32)) 11 (vp_nar .byte ((x3 >>> (0 &&& 31))).toInt8.toInt32)) x4 (sn (by decide) (sn (by decide) (sn (by decide) (sn (by decide) (sn (by decide) (sn (by decide) (sn (by decide) (sn (by decide) (sn (by decide) (sn (by decide) (sn (by decide) (sn (by decide) (sn (by decide) e0_1))))))))))))) (ss (sk (sl (sl (sl (sl (sl (sl (sl (sl (sl (sl (sl (sl n0)))))))))))) (by decide)))) X0_ok trivial (uwV m_9_20 m_9_21 m_9_22 m_1_5 m_9_23) (hdV 1 (by decide +kernel) rfl) ⟨Nat.le_of_ble_eq_true rfl, Nat.le_of_ble_eq_true rfl⟩ rfl rfl (ci := 11) rfl rfl (isC := [0, 1]) (isR := []) (wr := []) ⟨rfl, rfl, rfl, rfl, by decide⟩ rfl hl.1 (Nat.le_of_ble_eq_true rfl) dX12_feed_38 ⟨Nat.le_of_ble_eq_true rfl, Nat.le_of_ble_eq_true rfl⟩ (fun u_7 H locs hw hP hD hS => ?_)
  have hP : va_P D vwCl [(a0, .inr (11, (((((((((((((((((s0.set 0 (.int 0)).set 2 (.int 1)).set 2 (.int 2)).set 2 (.int 3)).set 2 (.int 4)).set 2 (.int 5)).set 2 (.int 6)).set 2 (.int 7)).set 2 (.int 8)).set 2 (.int 9)).set 2 (.int 10)).set 2 (.int 11)).set 2 (.int 12)).set 2 (.int 13)).set 2 (.int 14)).set 2 (.int 15)).set 2 (.int 16)))), (a1, .inl (K 2, 8192, .inl (upd (upd (upd (upd (upd (upd (upd (upd (upd (upd (upd (upd (upd (upd (upd (upd f1 0 (vp_nar .byte ((x1 >>> (24 &&& 31))).toInt8.toInt32)) 1 (vp_nar .byte ((x1 >>> (16 &&& 31))).toInt8.toInt32)) 2 (vp_nar .byte ((x1 >>> (8 &&& 31))).toInt8.toInt32)) 3 (vp_nar .byte ((x1 >>> (0 &&& 31))).toInt8.toInt32)) 4 (vp_nar .byte ((x2 >>> (24 &&& 31))).toInt8.toInt32)) 5 (vp_nar .byte ((x2 >>> (16 &&& 31))).toInt8.toInt32)) 6 (vp_nar .byte ((x2 >>> (8 &&& 31))).toInt8.toInt32)) 7 (vp_nar .byte ((x2 >>> (0 &&& 31))).toInt8.toInt32)) 8 (vp_nar .byte ((x3 >>> (24 &&& 31))).toInt8.toInt32)) 9 (vp_nar .byte ((x3 >>> (16 &&& 31))).toInt8.toInt32)) 10 (vp_nar .byte ((x3 >>> (8 &&& 31))).toInt8.toInt32)) 11 (vp_nar .byte ((x3 >>> (0 &&& 31))).toInt8.toInt32)) 12 (vp_nar .byte ((x4 >>> (24 &&& 31))).toInt8.toInt32)) 13 (vp_nar .byte ((x4 >>> (16 &&& 31))).toInt8.toInt32)) 14 (vp_nar .byte ((x4 >>> (8 &&& 31))).toInt8.toInt32)) 15 (vp_nar .byte ((x4 >>> (0 &&& 31))).toInt8.toInt32))))] H := hP
  have hD : va_D A [(a0, .inr (11, (((((((((((((((((s0.set 0 (.int 0)).set 2 (.int 1)).set 2 (.int 2)).set 2 (.int 3)).set 2 (.int 4)).set 2 (.int 5)).set 2 (.int 6)).set 2 (.int 7)).set 2 (.int 8)).set 2 (.int 9)).set 2 (.int 10)).set 2 (.int 11)).set 2 (.int 12)).set 2 (.int 13)).set 2 (.int 14)).set 2 (.int 15)).set 2 (.int 16)))), (a1, .inl (K 2, 8192, .inl (upd (upd (upd (upd (upd (upd (upd (upd (upd (upd (upd (upd (upd (upd (upd (upd f1 0 (vp_nar .byte ((x1 >>> (24 &&& 31))).toInt8.toInt32)) 1 (vp_nar .byte ((x1 >>> (16 &&& 31))).toInt8.toInt32)) 2 (vp_nar .byte ((x1 >>> (8 &&& 31))).toInt8.toInt32)) 3 (vp_nar .byte ((x1 >>> (0 &&& 31))).toInt8.toInt32)) 4 (vp_nar .byte ((x2 >>> (24 &&& 31))).toInt8.toInt32)) 5 (vp_nar .byte ((x2 >>> (16 &&& 31))).toInt8.toInt32)) 6 (vp_nar .byte ((x2 >>> (8 &&& 31))).toInt8.toInt32)) 7 (vp_nar .byte ((x2 >>> (0 &&& 31))).toInt8.toInt32)) 8 (vp_nar .byte ((x3 >>> (24 &&& 31))).toInt8.toInt32)) 9 (vp_nar .byte ((x3 >>> (16 &&& 31))).toInt8.toInt32)) 10 (vp_nar .byte ((x3 >>> (8 &&& 31))).toInt8.toInt32)) 11 (vp_nar .byte ((x3 >>> (0 &&& 31))).toInt8.toInt32)) 12 (vp_nar .byte ((x4 >>> (24 &&& 31))).toInt8.toInt32)) 13 (vp_nar .byte ((x4 >>> (16 &&& 31))).toInt8.toInt32)) 14 (vp_nar .byte ((x4 >>> (8 &&& 31))).toInt8.toInt32)) 15 (vp_nar .byte ((x4 >>> (0 &&& 31))).toInt8.toInt32))))] := hD
  refine lv_aload_n C.1 C.2.1 dX12_feed_41 rfl (lv_at hl 0 rfl) ?_
  refine lv_iload C.1 C.2.1 dX12_feed_42 (lv_at hl 5 rfl) ?_
  refine k_Vv (As := [.int x5]) (rest := []) C hP hD hS hA (c_X12_lay_5 l D K a0 a1 ((((((((((((((((((s0.set 0 (.int 0)).set 2 (.int 1)).set 2 (.int 2)).set 2 (.int 3)).set 2 (.int 4)).set 2 (.int 5)).set 2 (.int 6)).set 2 (.int 7)).set 2 (.int 8)).set 2 (.int 9)).set 2 (.int 10)).set 2 (.int 11)).set 2 (.int 12)).set 2 (.int 13)).set 2 (.int 14)).set 2 (.int 15)).set 2 (.int 16))) (sl (sl (sl (sl (sl (sl (sl (sl (sl (sl (sl (sl (sl (sl (sl (sl (sl n0))))))))))))))))) (upd (upd (upd (upd (upd (upd (upd (upd (upd (upd (upd (upd (upd (upd (upd (upd f1 0 (vp_nar .byte ((x1 >>> (24 &&& 31))).toInt8.toInt32)) 1 (vp_nar .byte ((x1 >>> (16 &&& 31))).toInt8.toInt32)) 2 (vp_nar .byte ((x1 >>> (8 &&& 31))).toInt8.toInt32)) 3 (vp_nar .byte ((x1 >>> (0 &&& 31))).toInt8.toInt32)) 4 (vp_nar .byte ((x2 >>> (24 &&& 31))).toInt8.toInt32)) 5 (vp_nar .byte ((x2 >>> (16 &&& 31))).toInt8.toInt32)) 6 (vp_nar .byte ((x2 >>> (8 &&& 31))).toInt8.toInt32)) 7 (vp_nar .byte ((x2 >>> (0 &&& 31))).toInt8.toInt32)) 8 (vp_nar .byte ((x3 >>> (24 &&& 31))).toInt8.toInt32)) 9 (vp_nar .byte ((x3 >>> (16 &&& 31))).toInt8.toInt32)) 10 (vp_nar .byte ((x3 >>> (8 &&& 31))).toInt8.toInt32)) 11 (vp_nar .byte ((x3 >>> (0 &&& 31))).toInt8.toInt32)) 12 (vp_nar .byte ((x4 >>> (24 &&& 31))).toInt8.toInt32)) 13 (vp_nar .byte ((x4 >>> (16 &&& 31))).toInt8.toInt32)) 14 (vp_nar .byte ((x4 >>> (8 &&& 31))).toInt8.toInt32)) 15 (vp_nar .byte ((x4 >>> (0 &&& 31))).toInt8.toInt32)) x5 (sn (by decide) (sn (by decide) (sn (by decide) (sn (by decide) (sn (by decide) (sn (by decide) (sn (by decide) (sn (by decide) (sn (by decide) (sn (by decide) (sn (by decide) (sn (by decide) (sn (by decide) (sn (by decide) (sn (by decide) (sn (by decide) (sn (by decide) e0_1))))))))))))))))) (ss (sk (sl (sl (sl (sl (sl (sl (sl (sl (sl (sl (sl (sl (sl (sl (sl (sl n0)))))))))))))))) (by decide)))) X0_ok trivial (uwV m_9_20 m_9_21 m_9_22 m_1_5 m_9_23) (hdV 1 (by decide +kernel) rfl) ⟨Nat.le_of_ble_eq_true rfl, Nat.le_of_ble_eq_true rfl⟩ rfl rfl (ci := 11) rfl rfl (isC := [0, 1]) (isR := []) (wr := []) ⟨rfl, rfl, rfl, rfl, by decide⟩ rfl hl.1 (Nat.le_of_ble_eq_true rfl) dX12_feed_44 ⟨Nat.le_of_ble_eq_true rfl, Nat.le_of_ble_eq_true rfl⟩ (fun u_9 H locs hw hP hD hS => ?_)
  have hP : va_P D vwCl [(a0, .inr (11, (((((((((((((((((((((s0.set 0 (.int 0)).set 2 (.int 1)).set 2 (.int 2)).set 2 (.int 3)).set 2 (.int 4)).set 2 (.int 5)).set 2 (.int 6)).set 2 (.int 7)).set 2 (.int 8)).set 2 (.int 9)).set 2 (.int 10)).set 2 (.int 11)).set 2 (.int 12)).set 2 (.int 13)).set 2 (.int 14)).set 2 (.int 15)).set 2 (.int 16)).set 2 (.int 17)).set 2 (.int 18)).set 2 (.int 19)).set 2 (.int 20)))), (a1, .inl (K 2, 8192, .inl (upd (upd (upd (upd (upd (upd (upd (upd (upd (upd (upd (upd (upd (upd (upd (upd (upd (upd (upd (upd f1 0 (vp_nar .byte ((x1 >>> (24 &&& 31))).toInt8.toInt32)) 1 (vp_nar .byte ((x1 >>> (16 &&& 31))).toInt8.toInt32)) 2 (vp_nar .byte ((x1 >>> (8 &&& 31))).toInt8.toInt32)) 3 (vp_nar .byte ((x1 >>> (0 &&& 31))).toInt8.toInt32)) 4 (vp_nar .byte ((x2 >>> (24 &&& 31))).toInt8.toInt32)) 5 (vp_nar .byte ((x2 >>> (16 &&& 31))).toInt8.toInt32)) 6 (vp_nar .byte ((x2 >>> (8 &&& 31))).toInt8.toInt32)) 7 (vp_nar .byte ((x2 >>> (0 &&& 31))).toInt8.toInt32)) 8 (vp_nar .byte ((x3 >>> (24 &&& 31))).toInt8.toInt32)) 9 (vp_nar .byte ((x3 >>> (16 &&& 31))).toInt8.toInt32)) 10 (vp_nar .byte ((x3 >>> (8 &&& 31))).toInt8.toInt32)) 11 (vp_nar .byte ((x3 >>> (0 &&& 31))).toInt8.toInt32)) 12 (vp_nar .byte ((x4 >>> (24 &&& 31))).toInt8.toInt32)) 13 (vp_nar .byte ((x4 >>> (16 &&& 31))).toInt8.toInt32)) 14 (vp_nar .byte ((x4 >>> (8 &&& 31))).toInt8.toInt32)) 15 (vp_nar .byte ((x4 >>> (0 &&& 31))).toInt8.toInt32)) 16 (vp_nar .byte ((x5 >>> (24 &&& 31))).toInt8.toInt32)) 17 (vp_nar .byte ((x5 >>> (16 &&& 31))).toInt8.toInt32)) 18 (vp_nar .byte ((x5 >>> (8 &&& 31))).toInt8.toInt32)) 19 (vp_nar .byte ((x5 >>> (0 &&& 31))).toInt8.toInt32))))] H := hP
  have hD : va_D A [(a0, .inr (11, (((((((((((((((((((((s0.set 0 (.int 0)).set 2 (.int 1)).set 2 (.int 2)).set 2 (.int 3)).set 2 (.int 4)).set 2 (.int 5)).set 2 (.int 6)).set 2 (.int 7)).set 2 (.int 8)).set 2 (.int 9)).set 2 (.int 10)).set 2 (.int 11)).set 2 (.int 12)).set 2 (.int 13)).set 2 (.int 14)).set 2 (.int 15)).set 2 (.int 16)).set 2 (.int 17)).set 2 (.int 18)).set 2 (.int 19)).set 2 (.int 20)))), (a1, .inl (K 2, 8192, .inl (upd (upd (upd (upd (upd (upd (upd (upd (upd (upd (upd (upd (upd (upd (upd (upd (upd (upd (upd (upd f1 0 (vp_nar .byte ((x1 >>> (24 &&& 31))).toInt8.toInt32)) 1 (vp_nar .byte ((x1 >>> (16 &&& 31))).toInt8.toInt32)) 2 (vp_nar .byte ((x1 >>> (8 &&& 31))).toInt8.toInt32)) 3 (vp_nar .byte ((x1 >>> (0 &&& 31))).toInt8.toInt32)) 4 (vp_nar .byte ((x2 >>> (24 &&& 31))).toInt8.toInt32)) 5 (vp_nar .byte ((x2 >>> (16 &&& 31))).toInt8.toInt32)) 6 (vp_nar .byte ((x2 >>> (8 &&& 31))).toInt8.toInt32)) 7 (vp_nar .byte ((x2 >>> (0 &&& 31))).toInt8.toInt32)) 8 (vp_nar .byte ((x3 >>> (24 &&& 31))).toInt8.toInt32)) 9 (vp_nar .byte ((x3 >>> (16 &&& 31))).toInt8.toInt32)) 10 (vp_nar .byte ((x3 >>> (8 &&& 31))).toInt8.toInt32)) 11 (vp_nar .byte ((x3 >>> (0 &&& 31))).toInt8.toInt32)) 12 (vp_nar .byte ((x4 >>> (24 &&& 31))).toInt8.toInt32)) 13 (vp_nar .byte ((x4 >>> (16 &&& 31))).toInt8.toInt32)) 14 (vp_nar .byte ((x4 >>> (8 &&& 31))).toInt8.toInt32)) 15 (vp_nar .byte ((x4 >>> (0 &&& 31))).toInt8.toInt32)) 16 (vp_nar .byte ((x5 >>> (24 &&& 31))).toInt8.toInt32)) 17 (vp_nar .byte ((x5 >>> (16 &&& 31))).toInt8.toInt32)) 18 (vp_nar .byte ((x5 >>> (8 &&& 31))).toInt8.toInt32)) 19 (vp_nar .byte ((x5 >>> (0 &&& 31))).toInt8.toInt32))))] := hD
  refine lv_iconst (v := 1) C.1 C.2.1 dX12_feed_47 (by decide) ?_
  exact k_iret C hr hlocks hP hD hS (by decide) (fun _ => 0) [] rfl rfl rfl (Nat.le_of_ble_eq_true rfl) (Nat.le_of_ble_eq_true rfl) dX12_feed_48
