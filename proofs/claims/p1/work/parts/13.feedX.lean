theorem dX11_punchTape_0 : decode cX11_punchTape 0 = .ok (.bipush 24, 2) := by decide +kernel
theorem dX11_punchTape_11 : decode cX11_punchTape 11 = .ok (.sipush 8192, 3) := by decide +kernel
theorem dX11_punchTape_14 : decode cX11_punchTape 14 = .ok (.if_icmp .ge 26, 3) := by decide +kernel
theorem dX11_punchTape_17 : decode cX11_punchTape 17 = .ok (.aload_n 0, 1) := by decide +kernel
theorem dX11_punchTape_18 : decode cX11_punchTape 18 = .ok (.getfield 32, 3) := by decide +kernel
theorem dX11_punchTape_2 : decode cX11_punchTape 2 = .ok (.istore_n 2, 1) := by decide +kernel
theorem dX11_punchTape_21 : decode cX11_punchTape 21 = .ok (.aload_n 0, 1) := by decide +kernel
theorem dX11_punchTape_22 : decode cX11_punchTape 22 = .ok (.getfield 70, 3) := by decide +kernel
theorem dX11_punchTape_25 : decode cX11_punchTape 25 = .ok (.iload_n 1, 1) := by decide +kernel
theorem dX11_punchTape_26 : decode cX11_punchTape 26 = .ok (.iload_n 2, 1) := by decide +kernel
theorem dX11_punchTape_27 : decode cX11_punchTape 27 = .ok (.ishr, 1) := by decide +kernel
theorem dX11_punchTape_28 : decode cX11_punchTape 28 = .ok (.i2b, 1) := by decide +kernel
theorem dX11_punchTape_29 : decode cX11_punchTape 29 = .ok (.bastore, 1) := by decide +kernel
theorem dX11_punchTape_3 : decode cX11_punchTape 3 = .ok (.iload_n 2, 1) := by decide +kernel
theorem dX11_punchTape_30 : decode cX11_punchTape 30 = .ok (.aload_n 0, 1) := by decide +kernel
theorem dX11_punchTape_31 : decode cX11_punchTape 31 = .ok (.dup, 1) := by decide +kernel
theorem dX11_punchTape_32 : decode cX11_punchTape 32 = .ok (.getfield 70, 3) := by decide +kernel
theorem dX11_punchTape_35 : decode cX11_punchTape 35 = .ok (.iconst 1, 1) := by decide +kernel
theorem dX11_punchTape_36 : decode cX11_punchTape 36 = .ok (.iadd, 1) := by decide +kernel
theorem dX11_punchTape_37 : decode cX11_punchTape 37 = .ok (.putfield 70, 3) := by decide +kernel
theorem dX11_punchTape_4 : decode cX11_punchTape 4 = .ok (.ifCond .lt 42, 3) := by decide +kernel
theorem dX11_punchTape_40 : decode cX11_punchTape 40 = .ok (.iinc 2 (-8), 3) := by decide +kernel
theorem dX11_punchTape_43 : decode cX11_punchTape 43 = .ok (.goto (-40), 3) := by decide +kernel
theorem dX11_punchTape_46 : decode cX11_punchTape 46 = .ok (.return_, 1) := by decide +kernel
theorem dX11_punchTape_7 : decode cX11_punchTape 7 = .ok (.aload_n 0, 1) := by decide +kernel
theorem dX11_punchTape_8 : decode cX11_punchTape 8 = .ok (.getfield 70, 3) := by decide +kernel
theorem dX11_feed_0 : decode cX11_feed 0 = .ok (.aload_n 0, 1) := by decide +kernel
theorem dX11_feed_1 : decode cX11_feed 1 = .ok (.getfield 70, 3) := by decide +kernel
theorem dX11_feed_10 : decode cX11_feed 10 = .ok (.if_icmp .le 5, 3) := by decide +kernel
theorem dX11_feed_15 : decode cX11_feed 15 = .ok (.aload_n 0, 1) := by decide +kernel
theorem dX11_feed_16 : decode cX11_feed 16 = .ok (.iload_n 1, 1) := by decide +kernel
theorem dX11_feed_17 : decode cX11_feed 17 = .ok (.invokevirtual 74, 3) := by decide +kernel
theorem dX11_feed_20 : decode cX11_feed 20 = .ok (.aload_n 0, 1) := by decide +kernel
theorem dX11_feed_21 : decode cX11_feed 21 = .ok (.iload_n 2, 1) := by decide +kernel
theorem dX11_feed_22 : decode cX11_feed 22 = .ok (.invokevirtual 74, 3) := by decide +kernel
theorem dX11_feed_25 : decode cX11_feed 25 = .ok (.aload_n 0, 1) := by decide +kernel
theorem dX11_feed_26 : decode cX11_feed 26 = .ok (.iload_n 3, 1) := by decide +kernel
theorem dX11_feed_27 : decode cX11_feed 27 = .ok (.invokevirtual 74, 3) := by decide +kernel
theorem dX11_feed_30 : decode cX11_feed 30 = .ok (.aload_n 0, 1) := by decide +kernel
theorem dX11_feed_31 : decode cX11_feed 31 = .ok (.iload 4, 2) := by decide +kernel
theorem dX11_feed_33 : decode cX11_feed 33 = .ok (.invokevirtual 74, 3) := by decide +kernel
theorem dX11_feed_36 : decode cX11_feed 36 = .ok (.aload_n 0, 1) := by decide +kernel
theorem dX11_feed_37 : decode cX11_feed 37 = .ok (.iload 5, 2) := by decide +kernel
theorem dX11_feed_39 : decode cX11_feed 39 = .ok (.invokevirtual 74, 3) := by decide +kernel
theorem dX11_feed_4 : decode cX11_feed 4 = .ok (.bipush 20, 2) := by decide +kernel
theorem dX11_feed_42 : decode cX11_feed 42 = .ok (.iconst 1, 1) := by decide +kernel
theorem dX11_feed_43 : decode cX11_feed 43 = .ok (.ireturn, 1) := by decide +kernel
theorem dX11_feed_6 : decode cX11_feed 6 = .ok (.iadd, 1) := by decide +kernel
theorem dX11_feed_7 : decode cX11_feed 7 = .ok (.sipush 8192, 3) := by decide +kernel
set_option maxHeartbeats 4000000 in
set_option maxRecDepth 100000 in
theorem c_X11_punchTape (l : Launch) (D : va_G) (K : Nat → ClassId) (a0 : Nat) (a1 : Nat) (s0 : List Value) (n0 : s0.length = 8) (f1 : Nat → Int32) (x1 : Int32) (e0_1 : s0[1]? = some (.int 0)) (e0_0 : s0[0]? = some (.ref a1)) : uMet l yX11_punchTape cX11_punchTape 3 none (rmD 0 0 0) D K X0 [.ref a0, .int x1] [(a0, .inr (10, s0)), (a1, .inl (K 2, 8192, .inl f1))] (QV D K (fun (u : Nat → Nat) => True) (fun (u : Nat → Nat) => [(a0, .inr (10, ((((s0.set 1 (.int 1)).set 1 (.int 2)).set 1 (.int 3)).set 1 (.int 4)))), (a1, .inl (K 2, 8192, .inl (upd (upd (upd (upd f1 0 (vp_nar .byte ((x1 >>> (24 &&& 31))).toInt8.toInt32)) 1 (vp_nar .byte ((x1 >>> (16 &&& 31))).toInt8.toInt32)) 2 (vp_nar .byte ((x1 >>> (8 &&& 31))).toInt8.toInt32)) 3 (vp_nar .byte ((x1 >>> (0 &&& 31))).toInt8.toInt32))))])) 0 0 := by
  refine k_met RX11 ⟨rfl, by decide +kernel⟩ (Nat.le_of_ble_eq_true rfl) ?_
  intro p e s m below meth c A ls C hX hr hlocks hin hA hP hD hS hl
  have hl : lv_has ls 3 [(0, .ref a0), (1, .int x1)] := hl
  refine lv_bipush (v := 24) C.1 C.2.1 dX11_punchTape_0 (by decide) ?_
  refine lv_istore_n (lv' := [(2, .int 24), (0, .ref a0), (1, .int x1)]) C.1 C.2.1 dX11_punchTape_2 rfl hl (by decide) rfl (fun ls hl => ?_)
  refine lv_iload_n C.1 C.2.1 dX11_punchTape_3 rfl (lv_at hl 0 rfl) ?_
  refine lv_if_lt (tgt := 46) C.1 C.2.1 dX11_punchTape_4 (by decide) (fun h => absurd h (by decide)) (fun _ => ?_)
  refine lv_aload_n C.1 C.2.1 dX11_punchTape_7 rfl (lv_at hl 1 rfl) ?_
  refine k_get (v := .int 0) C hP 0 rfl rfl inlX11 1 (by decide) m_9_9 e0_1 dX11_punchTape_8 ?_
  refine lv_sipush (v := 8192) C.1 C.2.1 dX11_punchTape_11 (by decide) ?_
  refine lv_icmp_ge (tgt := 40) C.1 C.2.1 dX11_punchTape_14 (by decide) (fun h => absurd h (by decide)) (fun _ => ?_)
  refine lv_aload_n C.1 C.2.1 dX11_punchTape_17 rfl (lv_at hl 1 rfl) ?_
  refine k_get (v := .ref a1) C hP 0 rfl rfl inlX11 0 (by decide) m_2_6 e0_0 dX11_punchTape_18 ?_
  refine lv_aload_n C.1 C.2.1 dX11_punchTape_21 rfl (lv_at hl 1 rfl) ?_
  refine k_get (v := .int 0) C hP 0 rfl rfl inlX11 1 (by decide) m_9_9 e0_1 dX11_punchTape_22 ?_
  refine lv_iload_n C.1 C.2.1 dX11_punchTape_25 rfl (lv_at hl 2 rfl) ?_
  refine lv_iload_n C.1 C.2.1 dX11_punchTape_26 rfl (lv_at hl 0 rfl) ?_
  refine k_ishr (v := (x1 >>> (24 &&& 31))) C rfl dX11_punchTape_27 ?_
  refine lv_i2b (v := ((x1 >>> (24 &&& 31))).toInt8.toInt32) C.1 C.2.1 dX11_punchTape_28 rfl ?_
  refine k_bst (ws' := [(a0, .inr (10, s0)), (a1, .inl (K 2, 8192, .inl (upd f1 0 (vp_nar .byte ((x1 >>> (24 &&& 31))).toInt8.toInt32))))]) (j := 0) (x' := (vp_nar .byte ((x1 >>> (24 &&& 31))).toInt8.toInt32)) C hP hD hS 1 rfl (vin (by decide)) (by decide) rfl rfl dX11_punchTape_29 (fun H locs hP hD hS => ?_)
  refine lv_aload_n C.1 C.2.1 dX11_punchTape_30 rfl (lv_at hl 1 rfl) ?_
  refine lv_dup C.1 C.2.1 dX11_punchTape_31 rfl ?_
  refine k_get (v := .int 0) C hP 0 rfl rfl inlX11 1 (by decide) m_9_9 e0_1 dX11_punchTape_32 ?_
  refine lv_iconst (v := 1) C.1 C.2.1 dX11_punchTape_35 (by decide) ?_
  refine k_iadd (v := 1) C (by decide) dX11_punchTape_36 ?_
  refine k_put (ws' := [(a0, .inr (10, (s0.set 1 (.int 1)))), (a1, .inl (K 2, 8192, .inl (upd f1 0 (vp_nar .byte ((x1 >>> (24 &&& 31))).toInt8.toInt32))))]) (v := .int 1) C hP hD hS 0 rfl rfl inlX11 tyX11_ok nmX11 1 (by decide) m_9_9 rfl rfl rfl n0 rfl dX11_punchTape_37 (fun H locs hP hD hS => ?_)
  refine lv_iinc (v := 16) (lv' := [(2, .int 16), (0, .ref a0), (1, .int x1)]) C.1 C.2.1 dX11_punchTape_40 hl (k := 0) rfl (by decide) (by decide) rfl (fun ls hl => ?_)
  refine lv_goto (tgt := 3) C.1 C.2.1 dX11_punchTape_43 (by decide) ?_
  refine lv_iload_n C.1 C.2.1 dX11_punchTape_3 rfl (lv_at hl 0 rfl) ?_
  refine lv_if_lt (tgt := 46) C.1 C.2.1 dX11_punchTape_4 (by decide) (fun h => absurd h (by decide)) (fun _ => ?_)
  refine lv_aload_n C.1 C.2.1 dX11_punchTape_7 rfl (lv_at hl 1 rfl) ?_
  refine k_get (v := .int 1) C hP 0 rfl rfl inlX11 1 (by decide) m_9_9 (ss (sk n0 (by decide))) dX11_punchTape_8 ?_
  refine lv_sipush (v := 8192) C.1 C.2.1 dX11_punchTape_11 (by decide) ?_
  refine lv_icmp_ge (tgt := 40) C.1 C.2.1 dX11_punchTape_14 (by decide) (fun h => absurd h (by decide)) (fun _ => ?_)
  refine lv_aload_n C.1 C.2.1 dX11_punchTape_17 rfl (lv_at hl 1 rfl) ?_
  refine k_get (v := .ref a1) C hP 0 rfl rfl inlX11 0 (by decide) m_2_6 (sn (by decide) e0_0) dX11_punchTape_18 ?_
  refine lv_aload_n C.1 C.2.1 dX11_punchTape_21 rfl (lv_at hl 1 rfl) ?_
  refine k_get (v := .int 1) C hP 0 rfl rfl inlX11 1 (by decide) m_9_9 (ss (sk n0 (by decide))) dX11_punchTape_22 ?_
  refine lv_iload_n C.1 C.2.1 dX11_punchTape_25 rfl (lv_at hl 2 rfl) ?_
  refine lv_iload_n C.1 C.2.1 dX11_punchTape_26 rfl (lv_at hl 0 rfl) ?_
  refine k_ishr (v := (x1 >>> (16 &&& 31))) C rfl dX11_punchTape_27 ?_
  refine lv_i2b (v := ((x1 >>> (16 &&& 31))).toInt8.toInt32) C.1 C.2.1 dX11_punchTape_28 rfl ?_
  refine k_bst (ws' := [(a0, .inr (10, (s0.set 1 (.int 1)))), (a1, .inl (K 2, 8192, .inl (upd (upd f1 0 (vp_nar .byte ((x1 >>> (24 &&& 31))).toInt8.toInt32)) 1 (vp_nar .byte ((x1 >>> (16 &&& 31))).toInt8.toInt32))))]) (j := 1) (x' := (vp_nar .byte ((x1 >>> (16 &&& 31))).toInt8.toInt32)) C hP hD hS 1 rfl (vin (by decide)) (by decide) rfl rfl dX11_punchTape_29 (fun H locs hP hD hS => ?_)
  refine lv_aload_n C.1 C.2.1 dX11_punchTape_30 rfl (lv_at hl 1 rfl) ?_
  refine lv_dup C.1 C.2.1 dX11_punchTape_31 rfl ?_
  refine k_get (v := .int 1) C hP 0 rfl rfl inlX11 1 (by decide) m_9_9 (ss (sk n0 (by decide))) dX11_punchTape_32 ?_
  refine lv_iconst (v := 1) C.1 C.2.1 dX11_punchTape_35 (by decide) ?_
  refine k_iadd (v := 2) C (by decide) dX11_punchTape_36 ?_
  refine k_put (ws' := [(a0, .inr (10, ((s0.set 1 (.int 1)).set 1 (.int 2)))), (a1, .inl (K 2, 8192, .inl (upd (upd f1 0 (vp_nar .byte ((x1 >>> (24 &&& 31))).toInt8.toInt32)) 1 (vp_nar .byte ((x1 >>> (16 &&& 31))).toInt8.toInt32))))]) (v := .int 2) C hP hD hS 0 rfl rfl inlX11 tyX11_ok nmX11 1 (by decide) m_9_9 rfl rfl rfl (sl n0) rfl dX11_punchTape_37 (fun H locs hP hD hS => ?_)
  refine lv_iinc (v := 8) (lv' := [(2, .int 8), (0, .ref a0), (1, .int x1)]) C.1 C.2.1 dX11_punchTape_40 hl (k := 0) rfl (by decide) (by decide) rfl (fun ls hl => ?_)
  refine lv_goto (tgt := 3) C.1 C.2.1 dX11_punchTape_43 (by decide) ?_
  refine lv_iload_n C.1 C.2.1 dX11_punchTape_3 rfl (lv_at hl 0 rfl) ?_
  refine lv_if_lt (tgt := 46) C.1 C.2.1 dX11_punchTape_4 (by decide) (fun h => absurd h (by decide)) (fun _ => ?_)
  refine lv_aload_n C.1 C.2.1 dX11_punchTape_7 rfl (lv_at hl 1 rfl) ?_
  refine k_get (v := .int 2) C hP 0 rfl rfl inlX11 1 (by decide) m_9_9 (ss (sk (sl n0) (by decide))) dX11_punchTape_8 ?_
  refine lv_sipush (v := 8192) C.1 C.2.1 dX11_punchTape_11 (by decide) ?_
  refine lv_icmp_ge (tgt := 40) C.1 C.2.1 dX11_punchTape_14 (by decide) (fun h => absurd h (by decide)) (fun _ => ?_)
  refine lv_aload_n C.1 C.2.1 dX11_punchTape_17 rfl (lv_at hl 1 rfl) ?_
  refine k_get (v := .ref a1) C hP 0 rfl rfl inlX11 0 (by decide) m_2_6 (sn (by decide) (sn (by decide) e0_0)) dX11_punchTape_18 ?_
  refine lv_aload_n C.1 C.2.1 dX11_punchTape_21 rfl (lv_at hl 1 rfl) ?_
  refine k_get (v := .int 2) C hP 0 rfl rfl inlX11 1 (by decide) m_9_9 (ss (sk (sl n0) (by decide))) dX11_punchTape_22 ?_
  refine lv_iload_n C.1 C.2.1 dX11_punchTape_25 rfl (lv_at hl 2 rfl) ?_
  refine lv_iload_n C.1 C.2.1 dX11_punchTape_26 rfl (lv_at hl 0 rfl) ?_
  refine k_ishr (v := (x1 >>> (8 &&& 31))) C rfl dX11_punchTape_27 ?_
  refine lv_i2b (v := ((x1 >>> (8 &&& 31))).toInt8.toInt32) C.1 C.2.1 dX11_punchTape_28 rfl ?_
  refine k_bst (ws' := [(a0, .inr (10, ((s0.set 1 (.int 1)).set 1 (.int 2)))), (a1, .inl (K 2, 8192, .inl (upd (upd (upd f1 0 (vp_nar .byte ((x1 >>> (24 &&& 31))).toInt8.toInt32)) 1 (vp_nar .byte ((x1 >>> (16 &&& 31))).toInt8.toInt32)) 2 (vp_nar .byte ((x1 >>> (8 &&& 31))).toInt8.toInt32))))]) (j := 2) (x' := (vp_nar .byte ((x1 >>> (8 &&& 31))).toInt8.toInt32)) C hP hD hS 1 rfl (vin (by decide)) (by decide) rfl rfl dX11_punchTape_29 (fun H locs hP hD hS => ?_)
  refine lv_aload_n C.1 C.2.1 dX11_punchTape_30 rfl (lv_at hl 1 rfl) ?_
  refine lv_dup C.1 C.2.1 dX11_punchTape_31 rfl ?_
  refine k_get (v := .int 2) C hP 0 rfl rfl inlX11 1 (by decide) m_9_9 (ss (sk (sl n0) (by decide))) dX11_punchTape_32 ?_
  refine lv_iconst (v := 1) C.1 C.2.1 dX11_punchTape_35 (by decide) ?_
  refine k_iadd (v := 3) C (by decide) dX11_punchTape_36 ?_
  refine k_put (ws' := [(a0, .inr (10, (((s0.set 1 (.int 1)).set 1 (.int 2)).set 1 (.int 3)))), (a1, .inl (K 2, 8192, .inl (upd (upd (upd f1 0 (vp_nar .byte ((x1 >>> (24 &&& 31))).toInt8.toInt32)) 1 (vp_nar .byte ((x1 >>> (16 &&& 31))).toInt8.toInt32)) 2 (vp_nar .byte ((x1 >>> (8 &&& 31))).toInt8.toInt32))))]) (v := .int 3) C hP hD hS 0 rfl rfl inlX11 tyX11_ok nmX11 1 (by decide) m_9_9 rfl rfl rfl (sl (sl n0)) rfl dX11_punchTape_37 (fun H locs hP hD hS => ?_)
  refine lv_iinc (v := 0) (lv' := [(2, .int 0), (0, .ref a0), (1, .int x1)]) C.1 C.2.1 dX11_punchTape_40 hl (k := 0) rfl (by decide) (by decide) rfl (fun ls hl => ?_)
  refine lv_goto (tgt := 3) C.1 C.2.1 dX11_punchTape_43 (by decide) ?_
  refine lv_iload_n C.1 C.2.1 dX11_punchTape_3 rfl (lv_at hl 0 rfl) ?_
  refine lv_if_lt (tgt := 46) C.1 C.2.1 dX11_punchTape_4 (by decide) (fun h => absurd h (by decide)) (fun _ => ?_)
  refine lv_aload_n C.1 C.2.1 dX11_punchTape_7 rfl (lv_at hl 1 rfl) ?_
  refine k_get (v := .int 3) C hP 0 rfl rfl inlX11 1 (by decide) m_9_9 (ss (sk (sl (sl n0)) (by decide))) dX11_punchTape_8 ?_
  refine lv_sipush (v := 8192) C.1 C.2.1 dX11_punchTape_11 (by decide) ?_
  refine lv_icmp_ge (tgt := 40) C.1 C.2.1 dX11_punchTape_14 (by decide) (fun h => absurd h (by decide)) (fun _ => ?_)
  refine lv_aload_n C.1 C.2.1 dX11_punchTape_17 rfl (lv_at hl 1 rfl) ?_
  refine k_get (v := .ref a1) C hP 0 rfl rfl inlX11 0 (by decide) m_2_6 (sn (by decide) (sn (by decide) (sn (by decide) e0_0))) dX11_punchTape_18 ?_
  refine lv_aload_n C.1 C.2.1 dX11_punchTape_21 rfl (lv_at hl 1 rfl) ?_
  refine k_get (v := .int 3) C hP 0 rfl rfl inlX11 1 (by decide) m_9_9 (ss (sk (sl (sl n0)) (by decide))) dX11_punchTape_22 ?_
  refine lv_iload_n C.1 C.2.1 dX11_punchTape_25 rfl (lv_at hl 2 rfl) ?_
  refine lv_iload_n C.1 C.2.1 dX11_punchTape_26 rfl (lv_at hl 0 rfl) ?_
  refine k_ishr (v := (x1 >>> (0 &&& 31))) C rfl dX11_punchTape_27 ?_
  refine lv_i2b (v := ((x1 >>> (0 &&& 31))).toInt8.toInt32) C.1 C.2.1 dX11_punchTape_28 rfl ?_
  refine k_bst (ws' := [(a0, .inr (10, (((s0.set 1 (.int 1)).set 1 (.int 2)).set 1 (.int 3)))), (a1, .inl (K 2, 8192, .inl (upd (upd (upd (upd f1 0 (vp_nar .byte ((x1 >>> (24 &&& 31))).toInt8.toInt32)) 1 (vp_nar .byte ((x1 >>> (16 &&& 31))).toInt8.toInt32)) 2 (vp_nar .byte ((x1 >>> (8 &&& 31))).toInt8.toInt32)) 3 (vp_nar .byte ((x1 >>> (0 &&& 31))).toInt8.toInt32))))]) (j := 3) (x' := (vp_nar .byte ((x1 >>> (0 &&& 31))).toInt8.toInt32)) C hP hD hS 1 rfl (vin (by decide)) (by decide) rfl rfl dX11_punchTape_29 (fun H locs hP hD hS => ?_)
  refine lv_aload_n C.1 C.2.1 dX11_punchTape_30 rfl (lv_at hl 1 rfl) ?_
  refine lv_dup C.1 C.2.1 dX11_punchTape_31 rfl ?_
  refine k_get (v := .int 3) C hP 0 rfl rfl inlX11 1 (by decide) m_9_9 (ss (sk (sl (sl n0)) (by decide))) dX11_punchTape_32 ?_
  refine lv_iconst (v := 1) C.1 C.2.1 dX11_punchTape_35 (by decide) ?_
  refine k_iadd (v := 4) C (by decide) dX11_punchTape_36 ?_
  refine k_put (ws' := [(a0, .inr (10, ((((s0.set 1 (.int 1)).set 1 (.int 2)).set 1 (.int 3)).set 1 (.int 4)))), (a1, .inl (K 2, 8192, .inl (upd (upd (upd (upd f1 0 (vp_nar .byte ((x1 >>> (24 &&& 31))).toInt8.toInt32)) 1 (vp_nar .byte ((x1 >>> (16 &&& 31))).toInt8.toInt32)) 2 (vp_nar .byte ((x1 >>> (8 &&& 31))).toInt8.toInt32)) 3 (vp_nar .byte ((x1 >>> (0 &&& 31))).toInt8.toInt32))))]) (v := .int 4) C hP hD hS 0 rfl rfl inlX11 tyX11_ok nmX11 1 (by decide) m_9_9 rfl rfl rfl (sl (sl (sl n0))) rfl dX11_punchTape_37 (fun H locs hP hD hS => ?_)
  refine lv_iinc (v := (-8)) (lv' := [(2, .int (-8)), (0, .ref a0), (1, .int x1)]) C.1 C.2.1 dX11_punchTape_40 hl (k := 0) rfl (by decide) (by decide) rfl (fun ls hl => ?_)
  refine lv_goto (tgt := 3) C.1 C.2.1 dX11_punchTape_43 (by decide) ?_
  refine lv_iload_n C.1 C.2.1 dX11_punchTape_3 rfl (lv_at hl 0 rfl) ?_
  refine lv_if_lt (tgt := 46) C.1 C.2.1 dX11_punchTape_4 (by decide) (fun _ => ?_) (fun h => absurd (by decide) h)
  exact k_vret C hr hlocks hP hD hS (fun _ => 0) [0, 1] rfl rfl trivial (Nat.le_of_ble_eq_true rfl) (Nat.le_of_ble_eq_true rfl) dX11_punchTape_46
set_option maxHeartbeats 4000000 in
set_option maxRecDepth 100000 in
theorem c_X11_punchTape_2 (l : Launch) (D : va_G) (K : Nat → ClassId) (a0 : Nat) (a1 : Nat) (s0 : List Value) (n0 : s0.length = 8) (f1 : Nat → Int32) (x1 : Int32) (e0_1 : s0[1]? = some (.int 4)) (e0_0 : s0[0]? = some (.ref a1)) : uMet l yX11_punchTape cX11_punchTape 3 none (rmD 0 0 0) D K X0 [.ref a0, .int x1] [(a0, .inr (10, s0)), (a1, .inl (K 2, 8192, .inl f1))] (QV D K (fun (u : Nat → Nat) => True) (fun (u : Nat → Nat) => [(a0, .inr (10, ((((s0.set 1 (.int 5)).set 1 (.int 6)).set 1 (.int 7)).set 1 (.int 8)))), (a1, .inl (K 2, 8192, .inl (upd (upd (upd (upd f1 4 (vp_nar .byte ((x1 >>> (24 &&& 31))).toInt8.toInt32)) 5 (vp_nar .byte ((x1 >>> (16 &&& 31))).toInt8.toInt32)) 6 (vp_nar .byte ((x1 >>> (8 &&& 31))).toInt8.toInt32)) 7 (vp_nar .byte ((x1 >>> (0 &&& 31))).toInt8.toInt32))))])) 0 0 := by
  refine k_met RX11 ⟨rfl, by decide +kernel⟩ (Nat.le_of_ble_eq_true rfl) ?_
  intro p e s m below meth c A ls C hX hr hlocks hin hA hP hD hS hl
  have hl : lv_has ls 3 [(0, .ref a0), (1, .int x1)] := hl
  refine lv_bipush (v := 24) C.1 C.2.1 dX11_punchTape_0 (by decide) ?_
  refine lv_istore_n (lv' := [(2, .int 24), (0, .ref a0), (1, .int x1)]) C.1 C.2.1 dX11_punchTape_2 rfl hl (by decide) rfl (fun ls hl => ?_)
  refine lv_iload_n C.1 C.2.1 dX11_punchTape_3 rfl (lv_at hl 0 rfl) ?_
  refine lv_if_lt (tgt := 46) C.1 C.2.1 dX11_punchTape_4 (by decide) (fun h => absurd h (by decide)) (fun _ => ?_)
  refine lv_aload_n C.1 C.2.1 dX11_punchTape_7 rfl (lv_at hl 1 rfl) ?_
  refine k_get (v := .int 4) C hP 0 rfl rfl inlX11 1 (by decide) m_9_9 e0_1 dX11_punchTape_8 ?_
  refine lv_sipush (v := 8192) C.1 C.2.1 dX11_punchTape_11 (by decide) ?_
  refine lv_icmp_ge (tgt := 40) C.1 C.2.1 dX11_punchTape_14 (by decide) (fun h => absurd h (by decide)) (fun _ => ?_)
  refine lv_aload_n C.1 C.2.1 dX11_punchTape_17 rfl (lv_at hl 1 rfl) ?_
  refine k_get (v := .ref a1) C hP 0 rfl rfl inlX11 0 (by decide) m_2_6 e0_0 dX11_punchTape_18 ?_
  refine lv_aload_n C.1 C.2.1 dX11_punchTape_21 rfl (lv_at hl 1 rfl) ?_
  refine k_get (v := .int 4) C hP 0 rfl rfl inlX11 1 (by decide) m_9_9 e0_1 dX11_punchTape_22 ?_
  refine lv_iload_n C.1 C.2.1 dX11_punchTape_25 rfl (lv_at hl 2 rfl) ?_
  refine lv_iload_n C.1 C.2.1 dX11_punchTape_26 rfl (lv_at hl 0 rfl) ?_
  refine k_ishr (v := (x1 >>> (24 &&& 31))) C rfl dX11_punchTape_27 ?_
  refine lv_i2b (v := ((x1 >>> (24 &&& 31))).toInt8.toInt32) C.1 C.2.1 dX11_punchTape_28 rfl ?_
  refine k_bst (ws' := [(a0, .inr (10, s0)), (a1, .inl (K 2, 8192, .inl (upd f1 4 (vp_nar .byte ((x1 >>> (24 &&& 31))).toInt8.toInt32))))]) (j := 4) (x' := (vp_nar .byte ((x1 >>> (24 &&& 31))).toInt8.toInt32)) C hP hD hS 1 rfl (vin (by decide)) (by decide) rfl rfl dX11_punchTape_29 (fun H locs hP hD hS => ?_)
  refine lv_aload_n C.1 C.2.1 dX11_punchTape_30 rfl (lv_at hl 1 rfl) ?_
  refine lv_dup C.1 C.2.1 dX11_punchTape_31 rfl ?_
  refine k_get (v := .int 4) C hP 0 rfl rfl inlX11 1 (by decide) m_9_9 e0_1 dX11_punchTape_32 ?_
  refine lv_iconst (v := 1) C.1 C.2.1 dX11_punchTape_35 (by decide) ?_
  refine k_iadd (v := 5) C (by decide) dX11_punchTape_36 ?_
  refine k_put (ws' := [(a0, .inr (10, (s0.set 1 (.int 5)))), (a1, .inl (K 2, 8192, .inl (upd f1 4 (vp_nar .byte ((x1 >>> (24 &&& 31))).toInt8.toInt32))))]) (v := .int 5) C hP hD hS 0 rfl rfl inlX11 tyX11_ok nmX11 1 (by decide) m_9_9 rfl rfl rfl n0 rfl dX11_punchTape_37 (fun H locs hP hD hS => ?_)
  refine lv_iinc (v := 16) (lv' := [(2, .int 16), (0, .ref a0), (1, .int x1)]) C.1 C.2.1 dX11_punchTape_40 hl (k := 0) rfl (by decide) (by decide) rfl (fun ls hl => ?_)
  refine lv_goto (tgt := 3) C.1 C.2.1 dX11_punchTape_43 (by decide) ?_
  refine lv_iload_n C.1 C.2.1 dX11_punchTape_3 rfl (lv_at hl 0 rfl) ?_
  refine lv_if_lt (tgt := 46) C.1 C.2.1 dX11_punchTape_4 (by decide) (fun h => absurd h (by decide)) (fun _ => ?_)
  refine lv_aload_n C.1 C.2.1 dX11_punchTape_7 rfl (lv_at hl 1 rfl) ?_
  refine k_get (v := .int 5) C hP 0 rfl rfl inlX11 1 (by decide) m_9_9 (ss (sk n0 (by decide))) dX11_punchTape_8 ?_
  refine lv_sipush (v := 8192) C.1 C.2.1 dX11_punchTape_11 (by decide) ?_
  refine lv_icmp_ge (tgt := 40) C.1 C.2.1 dX11_punchTape_14 (by decide) (fun h => absurd h (by decide)) (fun _ => ?_)
  refine lv_aload_n C.1 C.2.1 dX11_punchTape_17 rfl (lv_at hl 1 rfl) ?_
  refine k_get (v := .ref a1) C hP 0 rfl rfl inlX11 0 (by decide) m_2_6 (sn (by decide) e0_0) dX11_punchTape_18 ?_
  refine lv_aload_n C.1 C.2.1 dX11_punchTape_21 rfl (lv_at hl 1 rfl) ?_
  refine k_get (v := .int 5) C hP 0 rfl rfl inlX11 1 (by decide) m_9_9 (ss (sk n0 (by decide))) dX11_punchTape_22 ?_
  refine lv_iload_n C.1 C.2.1 dX11_punchTape_25 rfl (lv_at hl 2 rfl) ?_
  refine lv_iload_n C.1 C.2.1 dX11_punchTape_26 rfl (lv_at hl 0 rfl) ?_
  refine k_ishr (v := (x1 >>> (16 &&& 31))) C rfl dX11_punchTape_27 ?_
  refine lv_i2b (v := ((x1 >>> (16 &&& 31))).toInt8.toInt32) C.1 C.2.1 dX11_punchTape_28 rfl ?_
  refine k_bst (ws' := [(a0, .inr (10, (s0.set 1 (.int 5)))), (a1, .inl (K 2, 8192, .inl (upd (upd f1 4 (vp_nar .byte ((x1 >>> (24 &&& 31))).toInt8.toInt32)) 5 (vp_nar .byte ((x1 >>> (16 &&& 31))).toInt8.toInt32))))]) (j := 5) (x' := (vp_nar .byte ((x1 >>> (16 &&& 31))).toInt8.toInt32)) C hP hD hS 1 rfl (vin (by decide)) (by decide) rfl rfl dX11_punchTape_29 (fun H locs hP hD hS => ?_)
  refine lv_aload_n C.1 C.2.1 dX11_punchTape_30 rfl (lv_at hl 1 rfl) ?_
  refine lv_dup C.1 C.2.1 dX11_punchTape_31 rfl ?_
  refine k_get (v := .int 5) C hP 0 rfl rfl inlX11 1 (by decide) m_9_9 (ss (sk n0 (by decide))) dX11_punchTape_32 ?_
  refine lv_iconst (v := 1) C.1 C.2.1 dX11_punchTape_35 (by decide) ?_
  refine k_iadd (v := 6) C (by decide) dX11_punchTape_36 ?_
  refine k_put (ws' := [(a0, .inr (10, ((s0.set 1 (.int 5)).set 1 (.int 6)))), (a1, .inl (K 2, 8192, .inl (upd (upd f1 4 (vp_nar .byte ((x1 >>> (24 &&& 31))).toInt8.toInt32)) 5 (vp_nar .byte ((x1 >>> (16 &&& 31))).toInt8.toInt32))))]) (v := .int 6) C hP hD hS 0 rfl rfl inlX11 tyX11_ok nmX11 1 (by decide) m_9_9 rfl rfl rfl (sl n0) rfl dX11_punchTape_37 (fun H locs hP hD hS => ?_)
  refine lv_iinc (v := 8) (lv' := [(2, .int 8), (0, .ref a0), (1, .int x1)]) C.1 C.2.1 dX11_punchTape_40 hl (k := 0) rfl (by decide) (by decide) rfl (fun ls hl => ?_)
  refine lv_goto (tgt := 3) C.1 C.2.1 dX11_punchTape_43 (by decide) ?_
  refine lv_iload_n C.1 C.2.1 dX11_punchTape_3 rfl (lv_at hl 0 rfl) ?_
  refine lv_if_lt (tgt := 46) C.1 C.2.1 dX11_punchTape_4 (by decide) (fun h => absurd h (by decide)) (fun _ => ?_)
  refine lv_aload_n C.1 C.2.1 dX11_punchTape_7 rfl (lv_at hl 1 rfl) ?_
  refine k_get (v := .int 6) C hP 0 rfl rfl inlX11 1 (by decide) m_9_9 (ss (sk (sl n0) (by decide))) dX11_punchTape_8 ?_
  refine lv_sipush (v := 8192) C.1 C.2.1 dX11_punchTape_11 (by decide) ?_
  refine lv_icmp_ge (tgt := 40) C.1 C.2.1 dX11_punchTape_14 (by decide) (fun h => absurd h (by decide)) (fun _ => ?_)
  refine lv_aload_n C.1 C.2.1 dX11_punchTape_17 rfl (lv_at hl 1 rfl) ?_
  refine k_get (v := .ref a1) C hP 0 rfl rfl inlX11 0 (by decide) m_2_6 (sn (by decide) (sn (by decide) e0_0)) dX11_punchTape_18 ?_
  refine lv_aload_n C.1 C.2.1 dX11_punchTape_21 rfl (lv_at hl 1 rfl) ?_
  refine k_get (v := .int 6) C hP 0 rfl rfl inlX11 1 (by decide) m_9_9 (ss (sk (sl n0) (by decide))) dX11_punchTape_22 ?_
  refine lv_iload_n C.1 C.2.1 dX11_punchTape_25 rfl (lv_at hl 2 rfl) ?_
  refine lv_iload_n C.1 C.2.1 dX11_punchTape_26 rfl (lv_at hl 0 rfl) ?_
  refine k_ishr (v := (x1 >>> (8 &&& 31))) C rfl dX11_punchTape_27 ?_
  refine lv_i2b (v := ((x1 >>> (8 &&& 31))).toInt8.toInt32) C.1 C.2.1 dX11_punchTape_28 rfl ?_
  refine k_bst (ws' := [(a0, .inr (10, ((s0.set 1 (.int 5)).set 1 (.int 6)))), (a1, .inl (K 2, 8192, .inl (upd (upd (upd f1 4 (vp_nar .byte ((x1 >>> (24 &&& 31))).toInt8.toInt32)) 5 (vp_nar .byte ((x1 >>> (16 &&& 31))).toInt8.toInt32)) 6 (vp_nar .byte ((x1 >>> (8 &&& 31))).toInt8.toInt32))))]) (j := 6) (x' := (vp_nar .byte ((x1 >>> (8 &&& 31))).toInt8.toInt32)) C hP hD hS 1 rfl (vin (by decide)) (by decide) rfl rfl dX11_punchTape_29 (fun H locs hP hD hS => ?_)
  refine lv_aload_n C.1 C.2.1 dX11_punchTape_30 rfl (lv_at hl 1 rfl) ?_
  refine lv_dup C.1 C.2.1 dX11_punchTape_31 rfl ?_
  refine k_get (v := .int 6) C hP 0 rfl rfl inlX11 1 (by decide) m_9_9 (ss (sk (sl n0) (by decide))) dX11_punchTape_32 ?_
  refine lv_iconst (v := 1) C.1 C.2.1 dX11_punchTape_35 (by decide) ?_
  refine k_iadd (v := 7) C (by decide) dX11_punchTape_36 ?_
  refine k_put (ws' := [(a0, .inr (10, (((s0.set 1 (.int 5)).set 1 (.int 6)).set 1 (.int 7)))), (a1, .inl (K 2, 8192, .inl (upd (upd (upd f1 4 (vp_nar .byte ((x1 >>> (24 &&& 31))).toInt8.toInt32)) 5 (vp_nar .byte ((x1 >>> (16 &&& 31))).toInt8.toInt32)) 6 (vp_nar .byte ((x1 >>> (8 &&& 31))).toInt8.toInt32))))]) (v := .int 7) C hP hD hS 0 rfl rfl inlX11 tyX11_ok nmX11 1 (by decide) m_9_9 rfl rfl rfl (sl (sl n0)) rfl dX11_punchTape_37 (fun H locs hP hD hS => ?_)
  refine lv_iinc (v := 0) (lv' := [(2, .int 0), (0, .ref a0), (1, .int x1)]) C.1 C.2.1 dX11_punchTape_40 hl (k := 0) rfl (by decide) (by decide) rfl (fun ls hl => ?_)
  refine lv_goto (tgt := 3) C.1 C.2.1 dX11_punchTape_43 (by decide) ?_
  refine lv_iload_n C.1 C.2.1 dX11_punchTape_3 rfl (lv_at hl 0 rfl) ?_
  refine lv_if_lt (tgt := 46) C.1 C.2.1 dX11_punchTape_4 (by decide) (fun h => absurd h (by decide)) (fun _ => ?_)
  refine lv_aload_n C.1 C.2.1 dX11_punchTape_7 rfl (lv_at hl 1 rfl) ?_
  refine k_get (v := .int 7) C hP 0 rfl rfl inlX11 1 (by decide) m_9_9 (ss (sk (sl (sl n0)) (by decide))) dX11_punchTape_8 ?_
  refine lv_sipush (v := 8192) C.1 C.2.1 dX11_punchTape_11 (by decide) ?_
  refine lv_icmp_ge (tgt := 40) C.1 C.2.1 dX11_punchTape_14 (by decide) (fun h => absurd h (by decide)) (fun _ => ?_)
  refine lv_aload_n C.1 C.2.1 dX11_punchTape_17 rfl (lv_at hl 1 rfl) ?_
  refine k_get (v := .ref a1) C hP 0 rfl rfl inlX11 0 (by decide) m_2_6 (sn (by decide) (sn (by decide) (sn (by decide) e0_0))) dX11_punchTape_18 ?_
  refine lv_aload_n C.1 C.2.1 dX11_punchTape_21 rfl (lv_at hl 1 rfl) ?_
  refine k_get (v := .int 7) C hP 0 rfl rfl inlX11 1 (by decide) m_9_9 (ss (sk (sl (sl n0)) (by decide))) dX11_punchTape_22 ?_
  refine lv_iload_n C.1 C.2.1 dX11_punchTape_25 rfl (lv_at hl 2 rfl) ?_
  refine lv_iload_n C.1 C.2.1 dX11_punchTape_26 rfl (lv_at hl 0 rfl) ?_
  refine k_ishr (v := (x1 >>> (0 &&& 31))) C rfl dX11_punchTape_27 ?_
  refine lv_i2b (v := ((x1 >>> (0 &&& 31))).toInt8.toInt32) C.1 C.2.1 dX11_punchTape_28 rfl ?_
  refine k_bst (ws' := [(a0, .inr (10, (((s0.set 1 (.int 5)).set 1 (.int 6)).set 1 (.int 7)))), (a1, .inl (K 2, 8192, .inl (upd (upd (upd (upd f1 4 (vp_nar .byte ((x1 >>> (24 &&& 31))).toInt8.toInt32)) 5 (vp_nar .byte ((x1 >>> (16 &&& 31))).toInt8.toInt32)) 6 (vp_nar .byte ((x1 >>> (8 &&& 31))).toInt8.toInt32)) 7 (vp_nar .byte ((x1 >>> (0 &&& 31))).toInt8.toInt32))))]) (j := 7) (x' := (vp_nar .byte ((x1 >>> (0 &&& 31))).toInt8.toInt32)) C hP hD hS 1 rfl (vin (by decide)) (by decide) rfl rfl dX11_punchTape_29 (fun H locs hP hD hS => ?_)
  refine lv_aload_n C.1 C.2.1 dX11_punchTape_30 rfl (lv_at hl 1 rfl) ?_
  refine lv_dup C.1 C.2.1 dX11_punchTape_31 rfl ?_
  refine k_get (v := .int 7) C hP 0 rfl rfl inlX11 1 (by decide) m_9_9 (ss (sk (sl (sl n0)) (by decide))) dX11_punchTape_32 ?_
  refine lv_iconst (v := 1) C.1 C.2.1 dX11_punchTape_35 (by decide) ?_
  refine k_iadd (v := 8) C (by decide) dX11_punchTape_36 ?_
  refine k_put (ws' := [(a0, .inr (10, ((((s0.set 1 (.int 5)).set 1 (.int 6)).set 1 (.int 7)).set 1 (.int 8)))), (a1, .inl (K 2, 8192, .inl (upd (upd (upd (upd f1 4 (vp_nar .byte ((x1 >>> (24 &&& 31))).toInt8.toInt32)) 5 (vp_nar .byte ((x1 >>> (16 &&& 31))).toInt8.toInt32)) 6 (vp_nar .byte ((x1 >>> (8 &&& 31))).toInt8.toInt32)) 7 (vp_nar .byte ((x1 >>> (0 &&& 31))).toInt8.toInt32))))]) (v := .int 8) C hP hD hS 0 rfl rfl inlX11 tyX11_ok nmX11 1 (by decide) m_9_9 rfl rfl rfl (sl (sl (sl n0))) rfl dX11_punchTape_37 (fun H locs hP hD hS => ?_)
  refine lv_iinc (v := (-8)) (lv' := [(2, .int (-8)), (0, .ref a0), (1, .int x1)]) C.1 C.2.1 dX11_punchTape_40 hl (k := 0) rfl (by decide) (by decide) rfl (fun ls hl => ?_)
  refine lv_goto (tgt := 3) C.1 C.2.1 dX11_punchTape_43 (by decide) ?_
  refine lv_iload_n C.1 C.2.1 dX11_punchTape_3 rfl (lv_at hl 0 rfl) ?_
  refine lv_if_lt (tgt := 46) C.1 C.2.1 dX11_punchTape_4 (by decide) (fun _ => ?_) (fun h => absurd (by decide) h)
  exact k_vret C hr hlocks hP hD hS (fun _ => 0) [0, 1] rfl rfl trivial (Nat.le_of_ble_eq_true rfl) (Nat.le_of_ble_eq_true rfl) dX11_punchTape_46
set_option maxHeartbeats 4000000 in
set_option maxRecDepth 100000 in
theorem c_X11_punchTape_3 (l : Launch) (D : va_G) (K : Nat → ClassId) (a0 : Nat) (a1 : Nat) (s0 : List Value) (n0 : s0.length = 8) (f1 : Nat → Int32) (x1 : Int32) (e0_1 : s0[1]? = some (.int 8)) (e0_0 : s0[0]? = some (.ref a1)) : uMet l yX11_punchTape cX11_punchTape 3 none (rmD 0 0 0) D K X0 [.ref a0, .int x1] [(a0, .inr (10, s0)), (a1, .inl (K 2, 8192, .inl f1))] (QV D K (fun (u : Nat → Nat) => True) (fun (u : Nat → Nat) => [(a0, .inr (10, ((((s0.set 1 (.int 9)).set 1 (.int 10)).set 1 (.int 11)).set 1 (.int 12)))), (a1, .inl (K 2, 8192, .inl (upd (upd (upd (upd f1 8 (vp_nar .byte ((x1 >>> (24 &&& 31))).toInt8.toInt32)) 9 (vp_nar .byte ((x1 >>> (16 &&& 31))).toInt8.toInt32)) 10 (vp_nar .byte ((x1 >>> (8 &&& 31))).toInt8.toInt32)) 11 (vp_nar .byte ((x1 >>> (0 &&& 31))).toInt8.toInt32))))])) 0 0 := by
  refine k_met RX11 ⟨rfl, by decide +kernel⟩ (Nat.le_of_ble_eq_true rfl) ?_
  intro p e s m below meth c A ls C hX hr hlocks hin hA hP hD hS hl
  have hl : lv_has ls 3 [(0, .ref a0), (1, .int x1)] := hl
  refine lv_bipush (v := 24) C.1 C.2.1 dX11_punchTape_0 (by decide) ?_
  refine lv_istore_n (lv' := [(2, .int 24), (0, .ref a0), (1, .int x1)]) C.1 C.2.1 dX11_punchTape_2 rfl hl (by decide) rfl (fun ls hl => ?_)
  refine lv_iload_n C.1 C.2.1 dX11_punchTape_3 rfl (lv_at hl 0 rfl) ?_
  refine lv_if_lt (tgt := 46) C.1 C.2.1 dX11_punchTape_4 (by decide) (fun h => absurd h (by decide)) (fun _ => ?_)
  refine lv_aload_n C.1 C.2.1 dX11_punchTape_7 rfl (lv_at hl 1 rfl) ?_
  refine k_get (v := .int 8) C hP 0 rfl rfl inlX11 1 (by decide) m_9_9 e0_1 dX11_punchTape_8 ?_
  refine lv_sipush (v := 8192) C.1 C.2.1 dX11_punchTape_11 (by decide) ?_
  refine lv_icmp_ge (tgt := 40) C.1 C.2.1 dX11_punchTape_14 (by decide) (fun h => absurd h (by decide)) (fun _ => ?_)
  refine lv_aload_n C.1 C.2.1 dX11_punchTape_17 rfl (lv_at hl 1 rfl) ?_
  refine k_get (v := .ref a1) C hP 0 rfl rfl inlX11 0 (by decide) m_2_6 e0_0 dX11_punchTape_18 ?_
  refine lv_aload_n C.1 C.2.1 dX11_punchTape_21 rfl (lv_at hl 1 rfl) ?_
  refine k_get (v := .int 8) C hP 0 rfl rfl inlX11 1 (by decide) m_9_9 e0_1 dX11_punchTape_22 ?_
  refine lv_iload_n C.1 C.2.1 dX11_punchTape_25 rfl (lv_at hl 2 rfl) ?_
  refine lv_iload_n C.1 C.2.1 dX11_punchTape_26 rfl (lv_at hl 0 rfl) ?_
  refine k_ishr (v := (x1 >>> (24 &&& 31))) C rfl dX11_punchTape_27 ?_
  refine lv_i2b (v := ((x1 >>> (24 &&& 31))).toInt8.toInt32) C.1 C.2.1 dX11_punchTape_28 rfl ?_
  refine k_bst (ws' := [(a0, .inr (10, s0)), (a1, .inl (K 2, 8192, .inl (upd f1 8 (vp_nar .byte ((x1 >>> (24 &&& 31))).toInt8.toInt32))))]) (j := 8) (x' := (vp_nar .byte ((x1 >>> (24 &&& 31))).toInt8.toInt32)) C hP hD hS 1 rfl (vin (by decide)) (by decide) rfl rfl dX11_punchTape_29 (fun H locs hP hD hS => ?_)
  refine lv_aload_n C.1 C.2.1 dX11_punchTape_30 rfl (lv_at hl 1 rfl) ?_
  refine lv_dup C.1 C.2.1 dX11_punchTape_31 rfl ?_
  refine k_get (v := .int 8) C hP 0 rfl rfl inlX11 1 (by decide) m_9_9 e0_1 dX11_punchTape_32 ?_
  refine lv_iconst (v := 1) C.1 C.2.1 dX11_punchTape_35 (by decide) ?_
  refine k_iadd (v := 9) C (by decide) dX11_punchTape_36 ?_
  refine k_put (ws' := [(a0, .inr (10, (s0.set 1 (.int 9)))), (a1, .inl (K 2, 8192, .inl (upd f1 8 (vp_nar .byte ((x1 >>> (24 &&& 31))).toInt8.toInt32))))]) (v := .int 9) C hP hD hS 0 rfl rfl inlX11 tyX11_ok nmX11 1 (by decide) m_9_9 rfl rfl rfl n0 rfl dX11_punchTape_37 (fun H locs hP hD hS => ?_)
  refine lv_iinc (v := 16) (lv' := [(2, .int 16), (0, .ref a0), (1, .int x1)]) C.1 C.2.1 dX11_punchTape_40 hl (k := 0) rfl (by decide) (by decide) rfl (fun ls hl => ?_)
  refine lv_goto (tgt := 3) C.1 C.2.1 dX11_punchTape_43 (by decide) ?_
  refine lv_iload_n C.1 C.2.1 dX11_punchTape_3 rfl (lv_at hl 0 rfl) ?_
  refine lv_if_lt (tgt := 46) C.1 C.2.1 dX11_punchTape_4 (by decide) (fun h => absurd h (by decide)) (fun _ => ?_)
  refine lv_aload_n C.1 C.2.1 dX11_punchTape_7 rfl (lv_at hl 1 rfl) ?_
  refine k_get (v := .int 9) C hP 0 rfl rfl inlX11 1 (by decide) m_9_9 (ss (sk n0 (by decide))) dX11_punchTape_8 ?_
  refine lv_sipush (v := 8192) C.1 C.2.1 dX11_punchTape_11 (by decide) ?_
  refine lv_icmp_ge (tgt := 40) C.1 C.2.1 dX11_punchTape_14 (by decide) (fun h => absurd h (by decide)) (fun _ => ?_)
  refine lv_aload_n C.1 C.2.1 dX11_punchTape_17 rfl (lv_at hl 1 rfl) ?_
  refine k_get (v := .ref a1) C hP 0 rfl rfl inlX11 0 (by decide) m_2_6 (sn (by decide) e0_0) dX11_punchTape_18 ?_
  refine lv_aload_n C.1 C.2.1 dX11_punchTape_21 rfl (lv_at hl 1 rfl) ?_
  refine k_get (v := .int 9) C hP 0 rfl rfl inlX11 1 (by decide) m_9_9 (ss (sk n0 (by decide))) dX11_punchTape_22 ?_
  refine lv_iload_n C.1 C.2.1 dX11_punchTape_25 rfl (lv_at hl 2 rfl) ?_
  refine lv_iload_n C.1 C.2.1 dX11_punchTape_26 rfl (lv_at hl 0 rfl) ?_
  refine k_ishr (v := (x1 >>> (16 &&& 31))) C rfl dX11_punchTape_27 ?_
  refine lv_i2b (v := ((x1 >>> (16 &&& 31))).toInt8.toInt32) C.1 C.2.1 dX11_punchTape_28 rfl ?_
  refine k_bst (ws' := [(a0, .inr (10, (s0.set 1 (.int 9)))), (a1, .inl (K 2, 8192, .inl (upd (upd f1 8 (vp_nar .byte ((x1 >>> (24 &&& 31))).toInt8.toInt32)) 9 (vp_nar .byte ((x1 >>> (16 &&& 31))).toInt8.toInt32))))]) (j := 9) (x' := (vp_nar .byte ((x1 >>> (16 &&& 31))).toInt8.toInt32)) C hP hD hS 1 rfl (vin (by decide)) (by decide) rfl rfl dX11_punchTape_29 (fun H locs hP hD hS => ?_)
  refine lv_aload_n C.1 C.2.1 dX11_punchTape_30 rfl (lv_at hl 1 rfl) ?_
  refine lv_dup C.1 C.2.1 dX11_punchTape_31 rfl ?_
  refine k_get (v := .int 9) C hP 0 rfl rfl inlX11 1 (by decide) m_9_9 (ss (sk n0 (by decide))) dX11_punchTape_32 ?_
  refine lv_iconst (v := 1) C.1 C.2.1 dX11_punchTape_35 (by decide) ?_
  refine k_iadd (v := 10) C (by decide) dX11_punchTape_36 ?_
  refine k_put (ws' := [(a0, .inr (10, ((s0.set 1 (.int 9)).set 1 (.int 10)))), (a1, .inl (K 2, 8192, .inl (upd (upd f1 8 (vp_nar .byte ((x1 >>> (24 &&& 31))).toInt8.toInt32)) 9 (vp_nar .byte ((x1 >>> (16 &&& 31))).toInt8.toInt32))))]) (v := .int 10) C hP hD hS 0 rfl rfl inlX11 tyX11_ok nmX11 1 (by decide) m_9_9 rfl rfl rfl (sl n0) rfl dX11_punchTape_37 (fun H locs hP hD hS => ?_)
  refine lv_iinc (v := 8) (lv' := [(2, .int 8), (0, .ref a0), (1, .int x1)]) C.1 C.2.1 dX11_punchTape_40 hl (k := 0) rfl (by decide) (by decide) rfl (fun ls hl => ?_)
  refine lv_goto (tgt := 3) C.1 C.2.1 dX11_punchTape_43 (by decide) ?_
  refine lv_iload_n C.1 C.2.1 dX11_punchTape_3 rfl (lv_at hl 0 rfl) ?_
  refine lv_if_lt (tgt := 46) C.1 C.2.1 dX11_punchTape_4 (by decide) (fun h => absurd h (by decide)) (fun _ => ?_)
  refine lv_aload_n C.1 C.2.1 dX11_punchTape_7 rfl (lv_at hl 1 rfl) ?_
  refine k_get (v := .int 10) C hP 0 rfl rfl inlX11 1 (by decide) m_9_9 (ss (sk (sl n0) (by decide))) dX11_punchTape_8 ?_
  refine lv_sipush (v := 8192) C.1 C.2.1 dX11_punchTape_11 (by decide) ?_
  refine lv_icmp_ge (tgt := 40) C.1 C.2.1 dX11_punchTape_14 (by decide) (fun h => absurd h (by decide)) (fun _ => ?_)
  refine lv_aload_n C.1 C.2.1 dX11_punchTape_17 rfl (lv_at hl 1 rfl) ?_
  refine k_get (v := .ref a1) C hP 0 rfl rfl inlX11 0 (by decide) m_2_6 (sn (by decide) (sn (by decide) e0_0)) dX11_punchTape_18 ?_
  refine lv_aload_n C.1 C.2.1 dX11_punchTape_21 rfl (lv_at hl 1 rfl) ?_
  refine k_get (v := .int 10) C hP 0 rfl rfl inlX11 1 (by decide) m_9_9 (ss (sk (sl n0) (by decide))) dX11_punchTape_22 ?_
  refine lv_iload_n C.1 C.2.1 dX11_punchTape_25 rfl (lv_at hl 2 rfl) ?_
  refine lv_iload_n C.1 C.2.1 dX11_punchTape_26 rfl (lv_at hl 0 rfl) ?_
  refine k_ishr (v := (x1 >>> (8 &&& 31))) C rfl dX11_punchTape_27 ?_
  refine lv_i2b (v := ((x1 >>> (8 &&& 31))).toInt8.toInt32) C.1 C.2.1 dX11_punchTape_28 rfl ?_
  refine k_bst (ws' := [(a0, .inr (10, ((s0.set 1 (.int 9)).set 1 (.int 10)))), (a1, .inl (K 2, 8192, .inl (upd (upd (upd f1 8 (vp_nar .byte ((x1 >>> (24 &&& 31))).toInt8.toInt32)) 9 (vp_nar .byte ((x1 >>> (16 &&& 31))).toInt8.toInt32)) 10 (vp_nar .byte ((x1 >>> (8 &&& 31))).toInt8.toInt32))))]) (j := 10) (x' := (vp_nar .byte ((x1 >>> (8 &&& 31))).toInt8.toInt32)) C hP hD hS 1 rfl (vin (by decide)) (by decide) rfl rfl dX11_punchTape_29 (fun H locs hP hD hS => ?_)
  refine lv_aload_n C.1 C.2.1 dX11_punchTape_30 rfl (lv_at hl 1 rfl) ?_
  refine lv_dup C.1 C.2.1 dX11_punchTape_31 rfl ?_
  refine k_get (v := .int 10) C hP 0 rfl rfl inlX11 1 (by decide) m_9_9 (ss (sk (sl n0) (by decide))) dX11_punchTape_32 ?_
  refine lv_iconst (v := 1) C.1 C.2.1 dX11_punchTape_35 (by decide) ?_
  refine k_iadd (v := 11) C (by decide) dX11_punchTape_36 ?_
  refine k_put (ws' := [(a0, .inr (10, (((s0.set 1 (.int 9)).set 1 (.int 10)).set 1 (.int 11)))), (a1, .inl (K 2, 8192, .inl (upd (upd (upd f1 8 (vp_nar .byte ((x1 >>> (24 &&& 31))).toInt8.toInt32)) 9 (vp_nar .byte ((x1 >>> (16 &&& 31))).toInt8.toInt32)) 10 (vp_nar .byte ((x1 >>> (8 &&& 31))).toInt8.toInt32))))]) (v := .int 11) C hP hD hS 0 rfl rfl inlX11 tyX11_ok nmX11 1 (by decide) m_9_9 rfl rfl rfl (sl (sl n0)) rfl dX11_punchTape_37 (fun H locs hP hD hS => ?_)
  refine lv_iinc (v := 0) (lv' := [(2, .int 0), (0, .ref a0), (1, .int x1)]) C.1 C.2.1 dX11_punchTape_40 hl (k := 0) rfl (by decide) (by decide) rfl (fun ls hl => ?_)
  refine lv_goto (tgt := 3) C.1 C.2.1 dX11_punchTape_43 (by decide) ?_
  refine lv_iload_n C.1 C.2.1 dX11_punchTape_3 rfl (lv_at hl 0 rfl) ?_
  refine lv_if_lt (tgt := 46) C.1 C.2.1 dX11_punchTape_4 (by decide) (fun h => absurd h (by decide)) (fun _ => ?_)
  refine lv_aload_n C.1 C.2.1 dX11_punchTape_7 rfl (lv_at hl 1 rfl) ?_
  refine k_get (v := .int 11) C hP 0 rfl rfl inlX11 1 (by decide) m_9_9 (ss (sk (sl (sl n0)) (by decide))) dX11_punchTape_8 ?_
  refine lv_sipush (v := 8192) C.1 C.2.1 dX11_punchTape_11 (by decide) ?_
  refine lv_icmp_ge (tgt := 40) C.1 C.2.1 dX11_punchTape_14 (by decide) (fun h => absurd h (by decide)) (fun _ => ?_)
  refine lv_aload_n C.1 C.2.1 dX11_punchTape_17 rfl (lv_at hl 1 rfl) ?_
  refine k_get (v := .ref a1) C hP 0 rfl rfl inlX11 0 (by decide) m_2_6 (sn (by decide) (sn (by decide) (sn (by decide) e0_0))) dX11_punchTape_18 ?_
  refine lv_aload_n C.1 C.2.1 dX11_punchTape_21 rfl (lv_at hl 1 rfl) ?_
  refine k_get (v := .int 11) C hP 0 rfl rfl inlX11 1 (by decide) m_9_9 (ss (sk (sl (sl n0)) (by decide))) dX11_punchTape_22 ?_
  refine lv_iload_n C.1 C.2.1 dX11_punchTape_25 rfl (lv_at hl 2 rfl) ?_
  refine lv_iload_n C.1 C.2.1 dX11_punchTape_26 rfl (lv_at hl 0 rfl) ?_
  refine k_ishr (v := (x1 >>> (0 &&& 31))) C rfl dX11_punchTape_27 ?_
  refine lv_i2b (v := ((x1 >>> (0 &&& 31))).toInt8.toInt32) C.1 C.2.1 dX11_punchTape_28 rfl ?_
  refine k_bst (ws' := [(a0, .inr (10, (((s0.set 1 (.int 9)).set 1 (.int 10)).set 1 (.int 11)))), (a1, .inl (K 2, 8192, .inl (upd (upd (upd (upd f1 8 (vp_nar .byte ((x1 >>> (24 &&& 31))).toInt8.toInt32)) 9 (vp_nar .byte ((x1 >>> (16 &&& 31))).toInt8.toInt32)) 10 (vp_nar .byte ((x1 >>> (8 &&& 31))).toInt8.toInt32)) 11 (vp_nar .byte ((x1 >>> (0 &&& 31))).toInt8.toInt32))))]) (j := 11) (x' := (vp_nar .byte ((x1 >>> (0 &&& 31))).toInt8.toInt32)) C hP hD hS 1 rfl (vin (by decide)) (by decide) rfl rfl dX11_punchTape_29 (fun H locs hP hD hS => ?_)
  refine lv_aload_n C.1 C.2.1 dX11_punchTape_30 rfl (lv_at hl 1 rfl) ?_
  refine lv_dup C.1 C.2.1 dX11_punchTape_31 rfl ?_
  refine k_get (v := .int 11) C hP 0 rfl rfl inlX11 1 (by decide) m_9_9 (ss (sk (sl (sl n0)) (by decide))) dX11_punchTape_32 ?_
  refine lv_iconst (v := 1) C.1 C.2.1 dX11_punchTape_35 (by decide) ?_
  refine k_iadd (v := 12) C (by decide) dX11_punchTape_36 ?_
  refine k_put (ws' := [(a0, .inr (10, ((((s0.set 1 (.int 9)).set 1 (.int 10)).set 1 (.int 11)).set 1 (.int 12)))), (a1, .inl (K 2, 8192, .inl (upd (upd (upd (upd f1 8 (vp_nar .byte ((x1 >>> (24 &&& 31))).toInt8.toInt32)) 9 (vp_nar .byte ((x1 >>> (16 &&& 31))).toInt8.toInt32)) 10 (vp_nar .byte ((x1 >>> (8 &&& 31))).toInt8.toInt32)) 11 (vp_nar .byte ((x1 >>> (0 &&& 31))).toInt8.toInt32))))]) (v := .int 12) C hP hD hS 0 rfl rfl inlX11 tyX11_ok nmX11 1 (by decide) m_9_9 rfl rfl rfl (sl (sl (sl n0))) rfl dX11_punchTape_37 (fun H locs hP hD hS => ?_)
  refine lv_iinc (v := (-8)) (lv' := [(2, .int (-8)), (0, .ref a0), (1, .int x1)]) C.1 C.2.1 dX11_punchTape_40 hl (k := 0) rfl (by decide) (by decide) rfl (fun ls hl => ?_)
  refine lv_goto (tgt := 3) C.1 C.2.1 dX11_punchTape_43 (by decide) ?_
  refine lv_iload_n C.1 C.2.1 dX11_punchTape_3 rfl (lv_at hl 0 rfl) ?_
  refine lv_if_lt (tgt := 46) C.1 C.2.1 dX11_punchTape_4 (by decide) (fun _ => ?_) (fun h => absurd (by decide) h)
  exact k_vret C hr hlocks hP hD hS (fun _ => 0) [0, 1] rfl rfl trivial (Nat.le_of_ble_eq_true rfl) (Nat.le_of_ble_eq_true rfl) dX11_punchTape_46
set_option maxHeartbeats 4000000 in
set_option maxRecDepth 100000 in
theorem c_X11_punchTape_4 (l : Launch) (D : va_G) (K : Nat → ClassId) (a0 : Nat) (a1 : Nat) (s0 : List Value) (n0 : s0.length = 8) (f1 : Nat → Int32) (x1 : Int32) (e0_1 : s0[1]? = some (.int 12)) (e0_0 : s0[0]? = some (.ref a1)) : uMet l yX11_punchTape cX11_punchTape 3 none (rmD 0 0 0) D K X0 [.ref a0, .int x1] [(a0, .inr (10, s0)), (a1, .inl (K 2, 8192, .inl f1))] (QV D K (fun (u : Nat → Nat) => True) (fun (u : Nat → Nat) => [(a0, .inr (10, ((((s0.set 1 (.int 13)).set 1 (.int 14)).set 1 (.int 15)).set 1 (.int 16)))), (a1, .inl (K 2, 8192, .inl (upd (upd (upd (upd f1 12 (vp_nar .byte ((x1 >>> (24 &&& 31))).toInt8.toInt32)) 13 (vp_nar .byte ((x1 >>> (16 &&& 31))).toInt8.toInt32)) 14 (vp_nar .byte ((x1 >>> (8 &&& 31))).toInt8.toInt32)) 15 (vp_nar .byte ((x1 >>> (0 &&& 31))).toInt8.toInt32))))])) 0 0 := by
  refine k_met RX11 ⟨rfl, by decide +kernel⟩ (Nat.le_of_ble_eq_true rfl) ?_
  intro p e s m below meth c A ls C hX hr hlocks hin hA hP hD hS hl
  have hl : lv_has ls 3 [(0, .ref a0), (1, .int x1)] := hl
  refine lv_bipush (v := 24) C.1 C.2.1 dX11_punchTape_0 (by decide) ?_
  refine lv_istore_n (lv' := [(2, .int 24), (0, .ref a0), (1, .int x1)]) C.1 C.2.1 dX11_punchTape_2 rfl hl (by decide) rfl (fun ls hl => ?_)
  refine lv_iload_n C.1 C.2.1 dX11_punchTape_3 rfl (lv_at hl 0 rfl) ?_
  refine lv_if_lt (tgt := 46) C.1 C.2.1 dX11_punchTape_4 (by decide) (fun h => absurd h (by decide)) (fun _ => ?_)
  refine lv_aload_n C.1 C.2.1 dX11_punchTape_7 rfl (lv_at hl 1 rfl) ?_
  refine k_get (v := .int 12) C hP 0 rfl rfl inlX11 1 (by decide) m_9_9 e0_1 dX11_punchTape_8 ?_
  refine lv_sipush (v := 8192) C.1 C.2.1 dX11_punchTape_11 (by decide) ?_
  refine lv_icmp_ge (tgt := 40) C.1 C.2.1 dX11_punchTape_14 (by decide) (fun h => absurd h (by decide)) (fun _ => ?_)
  refine lv_aload_n C.1 C.2.1 dX11_punchTape_17 rfl (lv_at hl 1 rfl) ?_
  refine k_get (v := .ref a1) C hP 0 rfl rfl inlX11 0 (by decide) m_2_6 e0_0 dX11_punchTape_18 ?_
  refine lv_aload_n C.1 C.2.1 dX11_punchTape_21 rfl (lv_at hl 1 rfl) ?_
  refine k_get (v := .int 12) C hP 0 rfl rfl inlX11 1 (by decide) m_9_9 e0_1 dX11_punchTape_22 ?_
  refine lv_iload_n C.1 C.2.1 dX11_punchTape_25 rfl (lv_at hl 2 rfl) ?_
  refine lv_iload_n C.1 C.2.1 dX11_punchTape_26 rfl (lv_at hl 0 rfl) ?_
  refine k_ishr (v := (x1 >>> (24 &&& 31))) C rfl dX11_punchTape_27 ?_
  refine lv_i2b (v := ((x1 >>> (24 &&& 31))).toInt8.toInt32) C.1 C.2.1 dX11_punchTape_28 rfl ?_
  refine k_bst (ws' := [(a0, .inr (10, s0)), (a1, .inl (K 2, 8192, .inl (upd f1 12 (vp_nar .byte ((x1 >>> (24 &&& 31))).toInt8.toInt32))))]) (j := 12) (x' := (vp_nar .byte ((x1 >>> (24 &&& 31))).toInt8.toInt32)) C hP hD hS 1 rfl (vin (by decide)) (by decide) rfl rfl dX11_punchTape_29 (fun H locs hP hD hS => ?_)
  refine lv_aload_n C.1 C.2.1 dX11_punchTape_30 rfl (lv_at hl 1 rfl) ?_
  refine lv_dup C.1 C.2.1 dX11_punchTape_31 rfl ?_
  refine k_get (v := .int 12) C hP 0 rfl rfl inlX11 1 (by decide) m_9_9 e0_1 dX11_punchTape_32 ?_
  refine lv_iconst (v := 1) C.1 C.2.1 dX11_punchTape_35 (by decide) ?_
  refine k_iadd (v := 13) C (by decide) dX11_punchTape_36 ?_
  refine k_put (ws' := [(a0, .inr (10, (s0.set 1 (.int 13)))), (a1, .inl (K 2, 8192, .inl (upd f1 12 (vp_nar .byte ((x1 >>> (24 &&& 31))).toInt8.toInt32))))]) (v := .int 13) C hP hD hS 0 rfl rfl inlX11 tyX11_ok nmX11 1 (by decide) m_9_9 rfl rfl rfl n0 rfl dX11_punchTape_37 (fun H locs hP hD hS => ?_)
  refine lv_iinc (v := 16) (lv' := [(2, .int 16), (0, .ref a0), (1, .int x1)]) C.1 C.2.1 dX11_punchTape_40 hl (k := 0) rfl (by decide) (by decide) rfl (fun ls hl => ?_)
  refine lv_goto (tgt := 3) C.1 C.2.1 dX11_punchTape_43 (by decide) ?_
  refine lv_iload_n C.1 C.2.1 dX11_punchTape_3 rfl (lv_at hl 0 rfl) ?_
  refine lv_if_lt (tgt := 46) C.1 C.2.1 dX11_punchTape_4 (by decide) (fun h => absurd h (by decide)) (fun _ => ?_)
  refine lv_aload_n C.1 C.2.1 dX11_punchTape_7 rfl (lv_at hl 1 rfl) ?_
  refine k_get (v := .int 13) C hP 0 rfl rfl inlX11 1 (by decide) m_9_9 (ss (sk n0 (by decide))) dX11_punchTape_8 ?_
  refine lv_sipush (v := 8192) C.1 C.2.1 dX11_punchTape_11 (by decide) ?_
  refine lv_icmp_ge (tgt := 40) C.1 C.2.1 dX11_punchTape_14 (by decide) (fun h => absurd h (by decide)) (fun _ => ?_)
  refine lv_aload_n C.1 C.2.1 dX11_punchTape_17 rfl (lv_at hl 1 rfl) ?_
  refine k_get (v := .ref a1) C hP 0 rfl rfl inlX11 0 (by decide) m_2_6 (sn (by decide) e0_0) dX11_punchTape_18 ?_
  refine lv_aload_n C.1 C.2.1 dX11_punchTape_21 rfl (lv_at hl 1 rfl) ?_
  refine k_get (v := .int 13) C hP 0 rfl rfl inlX11 1 (by decide) m_9_9 (ss (sk n0 (by decide))) dX11_punchTape_22 ?_
  refine lv_iload_n C.1 C.2.1 dX11_punchTape_25 rfl (lv_at hl 2 rfl) ?_
  refine lv_iload_n C.1 C.2.1 dX11_punchTape_26 rfl (lv_at hl 0 rfl) ?_
  refine k_ishr (v := (x1 >>> (16 &&& 31))) C rfl dX11_punchTape_27 ?_
  refine lv_i2b (v := ((x1 >>> (16 &&& 31))).toInt8.toInt32) C.1 C.2.1 dX11_punchTape_28 rfl ?_
  refine k_bst (ws' := [(a0, .inr (10, (s0.set 1 (.int 13)))), (a1, .inl (K 2, 8192, .inl (upd (upd f1 12 (vp_nar .byte ((x1 >>> (24 &&& 31))).toInt8.toInt32)) 13 (vp_nar .byte ((x1 >>> (16 &&& 31))).toInt8.toInt32))))]) (j := 13) (x' := (vp_nar .byte ((x1 >>> (16 &&& 31))).toInt8.toInt32)) C hP hD hS 1 rfl (vin (by decide)) (by decide) rfl rfl dX11_punchTape_29 (fun H locs hP hD hS => ?_)
  refine lv_aload_n C.1 C.2.1 dX11_punchTape_30 rfl (lv_at hl 1 rfl) ?_
  refine lv_dup C.1 C.2.1 dX11_punchTape_31 rfl ?_
  refine k_get (v := .int 13) C hP 0 rfl rfl inlX11 1 (by decide) m_9_9 (ss (sk n0 (by decide))) dX11_punchTape_32 ?_
  refine lv_iconst (v := 1) C.1 C.2.1 dX11_punchTape_35 (by decide) ?_
  refine k_iadd (v := 14) C (by decide) dX11_punchTape_36 ?_
  refine k_put (ws' := [(a0, .inr (10, ((s0.set 1 (.int 13)).set 1 (.int 14)))), (a1, .inl (K 2, 8192, .inl (upd (upd f1 12 (vp_nar .byte ((x1 >>> (24 &&& 31))).toInt8.toInt32)) 13 (vp_nar .byte ((x1 >>> (16 &&& 31))).toInt8.toInt32))))]) (v := .int 14) C hP hD hS 0 rfl rfl inlX11 tyX11_ok nmX11 1 (by decide) m_9_9 rfl rfl rfl (sl n0) rfl dX11_punchTape_37 (fun H locs hP hD hS => ?_)
  refine lv_iinc (v := 8) (lv' := [(2, .int 8), (0, .ref a0), (1, .int x1)]) C.1 C.2.1 dX11_punchTape_40 hl (k := 0) rfl (by decide) (by decide) rfl (fun ls hl => ?_)
  refine lv_goto (tgt := 3) C.1 C.2.1 dX11_punchTape_43 (by decide) ?_
  refine lv_iload_n C.1 C.2.1 dX11_punchTape_3 rfl (lv_at hl 0 rfl) ?_
  refine lv_if_lt (tgt := 46) C.1 C.2.1 dX11_punchTape_4 (by decide) (fun h => absurd h (by decide)) (fun _ => ?_)
  refine lv_aload_n C.1 C.2.1 dX11_punchTape_7 rfl (lv_at hl 1 rfl) ?_
  refine k_get (v := .int 14) C hP 0 rfl rfl inlX11 1 (by decide) m_9_9 (ss (sk (sl n0) (by decide))) dX11_punchTape_8 ?_
  refine lv_sipush (v := 8192) C.1 C.2.1 dX11_punchTape_11 (by decide) ?_
  refine lv_icmp_ge (tgt := 40) C.1 C.2.1 dX11_punchTape_14 (by decide) (fun h => absurd h (by decide)) (fun _ => ?_)
  refine lv_aload_n C.1 C.2.1 dX11_punchTape_17 rfl (lv_at hl 1 rfl) ?_
  refine k_get (v := .ref a1) C hP 0 rfl rfl inlX11 0 (by decide) m_2_6 (sn (by decide) (sn (by decide) e0_0)) dX11_punchTape_18 ?_
  refine lv_aload_n C.1 C.2.1 dX11_punchTape_21 rfl (lv_at hl 1 rfl) ?_
  refine k_get (v := .int 14) C hP 0 rfl rfl inlX11 1 (by decide) m_9_9 (ss (sk (sl n0) (by decide))) dX11_punchTape_22 ?_
  refine lv_iload_n C.1 C.2.1 dX11_punchTape_25 rfl (lv_at hl 2 rfl) ?_
  refine lv_iload_n C.1 C.2.1 dX11_punchTape_26 rfl (lv_at hl 0 rfl) ?_
  refine k_ishr (v := (x1 >>> (8 &&& 31))) C rfl dX11_punchTape_27 ?_
  refine lv_i2b (v := ((x1 >>> (8 &&& 31))).toInt8.toInt32) C.1 C.2.1 dX11_punchTape_28 rfl ?_
  refine k_bst (ws' := [(a0, .inr (10, ((s0.set 1 (.int 13)).set 1 (.int 14)))), (a1, .inl (K 2, 8192, .inl (upd (upd (upd f1 12 (vp_nar .byte ((x1 >>> (24 &&& 31))).toInt8.toInt32)) 13 (vp_nar .byte ((x1 >>> (16 &&& 31))).toInt8.toInt32)) 14 (vp_nar .byte ((x1 >>> (8 &&& 31))).toInt8.toInt32))))]) (j := 14) (x' := (vp_nar .byte ((x1 >>> (8 &&& 31))).toInt8.toInt32)) C hP hD hS 1 rfl (vin (by decide)) (by decide) rfl rfl dX11_punchTape_29 (fun H locs hP hD hS => ?_)
  refine lv_aload_n C.1 C.2.1 dX11_punchTape_30 rfl (lv_at hl 1 rfl) ?_
  refine lv_dup C.1 C.2.1 dX11_punchTape_31 rfl ?_
  refine k_get (v := .int 14) C hP 0 rfl rfl inlX11 1 (by decide) m_9_9 (ss (sk (sl n0) (by decide))) dX11_punchTape_32 ?_
  refine lv_iconst (v := 1) C.1 C.2.1 dX11_punchTape_35 (by decide) ?_
  refine k_iadd (v := 15) C (by decide) dX11_punchTape_36 ?_
  refine k_put (ws' := [(a0, .inr (10, (((s0.set 1 (.int 13)).set 1 (.int 14)).set 1 (.int 15)))), (a1, .inl (K 2, 8192, .inl (upd (upd (upd f1 12 (vp_nar .byte ((x1 >>> (24 &&& 31))).toInt8.toInt32)) 13 (vp_nar .byte ((x1 >>> (16 &&& 31))).toInt8.toInt32)) 14 (vp_nar .byte ((x1 >>> (8 &&& 31))).toInt8.toInt32))))]) (v := .int 15) C hP hD hS 0 rfl rfl inlX11 tyX11_ok nmX11 1 (by decide) m_9_9 rfl rfl rfl (sl (sl n0)) rfl dX11_punchTape_37 (fun H locs hP hD hS => ?_)
  refine lv_iinc (v := 0) (lv' := [(2, .int 0), (0, .ref a0), (1, .int x1)]) C.1 C.2.1 dX11_punchTape_40 hl (k := 0) rfl (by decide) (by decide) rfl (fun ls hl => ?_)
  refine lv_goto (tgt := 3) C.1 C.2.1 dX11_punchTape_43 (by decide) ?_
  refine lv_iload_n C.1 C.2.1 dX11_punchTape_3 rfl (lv_at hl 0 rfl) ?_
  refine lv_if_lt (tgt := 46) C.1 C.2.1 dX11_punchTape_4 (by decide) (fun h => absurd h (by decide)) (fun _ => ?_)
  refine lv_aload_n C.1 C.2.1 dX11_punchTape_7 rfl (lv_at hl 1 rfl) ?_
  refine k_get (v := .int 15) C hP 0 rfl rfl inlX11 1 (by decide) m_9_9 (ss (sk (sl (sl n0)) (by decide))) dX11_punchTape_8 ?_
  refine lv_sipush (v := 8192) C.1 C.2.1 dX11_punchTape_11 (by decide) ?_
  refine lv_icmp_ge (tgt := 40) C.1 C.2.1 dX11_punchTape_14 (by decide) (fun h => absurd h (by decide)) (fun _ => ?_)
  refine lv_aload_n C.1 C.2.1 dX11_punchTape_17 rfl (lv_at hl 1 rfl) ?_
  refine k_get (v := .ref a1) C hP 0 rfl rfl inlX11 0 (by decide) m_2_6 (sn (by decide) (sn (by decide) (sn (by decide) e0_0))) dX11_punchTape_18 ?_
  refine lv_aload_n C.1 C.2.1 dX11_punchTape_21 rfl (lv_at hl 1 rfl) ?_
  refine k_get (v := .int 15) C hP 0 rfl rfl inlX11 1 (by decide) m_9_9 (ss (sk (sl (sl n0)) (by decide))) dX11_punchTape_22 ?_
  refine lv_iload_n C.1 C.2.1 dX11_punchTape_25 rfl (lv_at hl 2 rfl) ?_
  refine lv_iload_n C.1 C.2.1 dX11_punchTape_26 rfl (lv_at hl 0 rfl) ?_
  refine k_ishr (v := (x1 >>> (0 &&& 31))) C rfl dX11_punchTape_27 ?_
  refine lv_i2b (v := ((x1 >>> (0 &&& 31))).toInt8.toInt32) C.1 C.2.1 dX11_punchTape_28 rfl ?_
  refine k_bst (ws' := [(a0, .inr (10, (((s0.set 1 (.int 13)).set 1 (.int 14)).set 1 (.int 15)))), (a1, .inl (K 2, 8192, .inl (upd (upd (upd (upd f1 12 (vp_nar .byte ((x1 >>> (24 &&& 31))).toInt8.toInt32)) 13 (vp_nar .byte ((x1 >>> (16 &&& 31))).toInt8.toInt32)) 14 (vp_nar .byte ((x1 >>> (8 &&& 31))).toInt8.toInt32)) 15 (vp_nar .byte ((x1 >>> (0 &&& 31))).toInt8.toInt32))))]) (j := 15) (x' := (vp_nar .byte ((x1 >>> (0 &&& 31))).toInt8.toInt32)) C hP hD hS 1 rfl (vin (by decide)) (by decide) rfl rfl dX11_punchTape_29 (fun H locs hP hD hS => ?_)
  refine lv_aload_n C.1 C.2.1 dX11_punchTape_30 rfl (lv_at hl 1 rfl) ?_
  refine lv_dup C.1 C.2.1 dX11_punchTape_31 rfl ?_
  refine k_get (v := .int 15) C hP 0 rfl rfl inlX11 1 (by decide) m_9_9 (ss (sk (sl (sl n0)) (by decide))) dX11_punchTape_32 ?_
  refine lv_iconst (v := 1) C.1 C.2.1 dX11_punchTape_35 (by decide) ?_
  refine k_iadd (v := 16) C (by decide) dX11_punchTape_36 ?_
  refine k_put (ws' := [(a0, .inr (10, ((((s0.set 1 (.int 13)).set 1 (.int 14)).set 1 (.int 15)).set 1 (.int 16)))), (a1, .inl (K 2, 8192, .inl (upd (upd (upd (upd f1 12 (vp_nar .byte ((x1 >>> (24 &&& 31))).toInt8.toInt32)) 13 (vp_nar .byte ((x1 >>> (16 &&& 31))).toInt8.toInt32)) 14 (vp_nar .byte ((x1 >>> (8 &&& 31))).toInt8.toInt32)) 15 (vp_nar .byte ((x1 >>> (0 &&& 31))).toInt8.toInt32))))]) (v := .int 16) C hP hD hS 0 rfl rfl inlX11 tyX11_ok nmX11 1 (by decide) m_9_9 rfl rfl rfl (sl (sl (sl n0))) rfl dX11_punchTape_37 (fun H locs hP hD hS => ?_)
  refine lv_iinc (v := (-8)) (lv' := [(2, .int (-8)), (0, .ref a0), (1, .int x1)]) C.1 C.2.1 dX11_punchTape_40 hl (k := 0) rfl (by decide) (by decide) rfl (fun ls hl => ?_)
  refine lv_goto (tgt := 3) C.1 C.2.1 dX11_punchTape_43 (by decide) ?_
  refine lv_iload_n C.1 C.2.1 dX11_punchTape_3 rfl (lv_at hl 0 rfl) ?_
  refine lv_if_lt (tgt := 46) C.1 C.2.1 dX11_punchTape_4 (by decide) (fun _ => ?_) (fun h => absurd (by decide) h)
  exact k_vret C hr hlocks hP hD hS (fun _ => 0) [0, 1] rfl rfl trivial (Nat.le_of_ble_eq_true rfl) (Nat.le_of_ble_eq_true rfl) dX11_punchTape_46
set_option maxHeartbeats 4000000 in
set_option maxRecDepth 100000 in
theorem c_X11_punchTape_5 (l : Launch) (D : va_G) (K : Nat → ClassId) (a0 : Nat) (a1 : Nat) (s0 : List Value) (n0 : s0.length = 8) (f1 : Nat → Int32) (x1 : Int32) (e0_1 : s0[1]? = some (.int 16)) (e0_0 : s0[0]? = some (.ref a1)) : uMet l yX11_punchTape cX11_punchTape 3 none (rmD 0 0 0) D K X0 [.ref a0, .int x1] [(a0, .inr (10, s0)), (a1, .inl (K 2, 8192, .inl f1))] (QV D K (fun (u : Nat → Nat) => True) (fun (u : Nat → Nat) => [(a0, .inr (10, ((((s0.set 1 (.int 17)).set 1 (.int 18)).set 1 (.int 19)).set 1 (.int 20)))), (a1, .inl (K 2, 8192, .inl (upd (upd (upd (upd f1 16 (vp_nar .byte ((x1 >>> (24 &&& 31))).toInt8.toInt32)) 17 (vp_nar .byte ((x1 >>> (16 &&& 31))).toInt8.toInt32)) 18 (vp_nar .byte ((x1 >>> (8 &&& 31))).toInt8.toInt32)) 19 (vp_nar .byte ((x1 >>> (0 &&& 31))).toInt8.toInt32))))])) 0 0 := by
  refine k_met RX11 ⟨rfl, by decide +kernel⟩ (Nat.le_of_ble_eq_true rfl) ?_
  intro p e s m below meth c A ls C hX hr hlocks hin hA hP hD hS hl
  have hl : lv_has ls 3 [(0, .ref a0), (1, .int x1)] := hl
  refine lv_bipush (v := 24) C.1 C.2.1 dX11_punchTape_0 (by decide) ?_
  refine lv_istore_n (lv' := [(2, .int 24), (0, .ref a0), (1, .int x1)]) C.1 C.2.1 dX11_punchTape_2 rfl hl (by decide) rfl (fun ls hl => ?_)
  refine lv_iload_n C.1 C.2.1 dX11_punchTape_3 rfl (lv_at hl 0 rfl) ?_
  refine lv_if_lt (tgt := 46) C.1 C.2.1 dX11_punchTape_4 (by decide) (fun h => absurd h (by decide)) (fun _ => ?_)
  refine lv_aload_n C.1 C.2.1 dX11_punchTape_7 rfl (lv_at hl 1 rfl) ?_
  refine k_get (v := .int 16) C hP 0 rfl rfl inlX11 1 (by decide) m_9_9 e0_1 dX11_punchTape_8 ?_
  refine lv_sipush (v := 8192) C.1 C.2.1 dX11_punchTape_11 (by decide) ?_
  refine lv_icmp_ge (tgt := 40) C.1 C.2.1 dX11_punchTape_14 (by decide) (fun h => absurd h (by decide)) (fun _ => ?_)
  refine lv_aload_n C.1 C.2.1 dX11_punchTape_17 rfl (lv_at hl 1 rfl) ?_
  refine k_get (v := .ref a1) C hP 0 rfl rfl inlX11 0 (by decide) m_2_6 e0_0 dX11_punchTape_18 ?_
  refine lv_aload_n C.1 C.2.1 dX11_punchTape_21 rfl (lv_at hl 1 rfl) ?_
  refine k_get (v := .int 16) C hP 0 rfl rfl inlX11 1 (by decide) m_9_9 e0_1 dX11_punchTape_22 ?_
  refine lv_iload_n C.1 C.2.1 dX11_punchTape_25 rfl (lv_at hl 2 rfl) ?_
  refine lv_iload_n C.1 C.2.1 dX11_punchTape_26 rfl (lv_at hl 0 rfl) ?_
  refine k_ishr (v := (x1 >>> (24 &&& 31))) C rfl dX11_punchTape_27 ?_
  refine lv_i2b (v := ((x1 >>> (24 &&& 31))).toInt8.toInt32) C.1 C.2.1 dX11_punchTape_28 rfl ?_
  refine k_bst (ws' := [(a0, .inr (10, s0)), (a1, .inl (K 2, 8192, .inl (upd f1 16 (vp_nar .byte ((x1 >>> (24 &&& 31))).toInt8.toInt32))))]) (j := 16) (x' := (vp_nar .byte ((x1 >>> (24 &&& 31))).toInt8.toInt32)) C hP hD hS 1 rfl (vin (by decide)) (by decide) rfl rfl dX11_punchTape_29 (fun H locs hP hD hS => ?_)
  refine lv_aload_n C.1 C.2.1 dX11_punchTape_30 rfl (lv_at hl 1 rfl) ?_
  refine lv_dup C.1 C.2.1 dX11_punchTape_31 rfl ?_
  refine k_get (v := .int 16) C hP 0 rfl rfl inlX11 1 (by decide) m_9_9 e0_1 dX11_punchTape_32 ?_
  refine lv_iconst (v := 1) C.1 C.2.1 dX11_punchTape_35 (by decide) ?_
  refine k_iadd (v := 17) C (by decide) dX11_punchTape_36 ?_
  refine k_put (ws' := [(a0, .inr (10, (s0.set 1 (.int 17)))), (a1, .inl (K 2, 8192, .inl (upd f1 16 (vp_nar .byte ((x1 >>> (24 &&& 31))).toInt8.toInt32))))]) (v := .int 17) C hP hD hS 0 rfl rfl inlX11 tyX11_ok nmX11 1 (by decide) m_9_9 rfl rfl rfl n0 rfl dX11_punchTape_37 (fun H locs hP hD hS => ?_)
  refine lv_iinc (v := 16) (lv' := [(2, .int 16), (0, .ref a0), (1, .int x1)]) C.1 C.2.1 dX11_punchTape_40 hl (k := 0) rfl (by decide) (by decide) rfl (fun ls hl => ?_)
  refine lv_goto (tgt := 3) C.1 C.2.1 dX11_punchTape_43 (by decide) ?_
  refine lv_iload_n C.1 C.2.1 dX11_punchTape_3 rfl (lv_at hl 0 rfl) ?_
  refine lv_if_lt (tgt := 46) C.1 C.2.1 dX11_punchTape_4 (by decide) (fun h => absurd h (by decide)) (fun _ => ?_)
  refine lv_aload_n C.1 C.2.1 dX11_punchTape_7 rfl (lv_at hl 1 rfl) ?_
  refine k_get (v := .int 17) C hP 0 rfl rfl inlX11 1 (by decide) m_9_9 (ss (sk n0 (by decide))) dX11_punchTape_8 ?_
  refine lv_sipush (v := 8192) C.1 C.2.1 dX11_punchTape_11 (by decide) ?_
  refine lv_icmp_ge (tgt := 40) C.1 C.2.1 dX11_punchTape_14 (by decide) (fun h => absurd h (by decide)) (fun _ => ?_)
  refine lv_aload_n C.1 C.2.1 dX11_punchTape_17 rfl (lv_at hl 1 rfl) ?_
  refine k_get (v := .ref a1) C hP 0 rfl rfl inlX11 0 (by decide) m_2_6 (sn (by decide) e0_0) dX11_punchTape_18 ?_
  refine lv_aload_n C.1 C.2.1 dX11_punchTape_21 rfl (lv_at hl 1 rfl) ?_
  refine k_get (v := .int 17) C hP 0 rfl rfl inlX11 1 (by decide) m_9_9 (ss (sk n0 (by decide))) dX11_punchTape_22 ?_
  refine lv_iload_n C.1 C.2.1 dX11_punchTape_25 rfl (lv_at hl 2 rfl) ?_
  refine lv_iload_n C.1 C.2.1 dX11_punchTape_26 rfl (lv_at hl 0 rfl) ?_
  refine k_ishr (v := (x1 >>> (16 &&& 31))) C rfl dX11_punchTape_27 ?_
  refine lv_i2b (v := ((x1 >>> (16 &&& 31))).toInt8.toInt32) C.1 C.2.1 dX11_punchTape_28 rfl ?_
  refine k_bst (ws' := [(a0, .inr (10, (s0.set 1 (.int 17)))), (a1, .inl (K 2, 8192, .inl (upd (upd f1 16 (vp_nar .byte ((x1 >>> (24 &&& 31))).toInt8.toInt32)) 17 (vp_nar .byte ((x1 >>> (16 &&& 31))).toInt8.toInt32))))]) (j := 17) (x' := (vp_nar .byte ((x1 >>> (16 &&& 31))).toInt8.toInt32)) C hP hD hS 1 rfl (vin (by decide)) (by decide) rfl rfl dX11_punchTape_29 (fun H locs hP hD hS => ?_)
  refine lv_aload_n C.1 C.2.1 dX11_punchTape_30 rfl (lv_at hl 1 rfl) ?_
  refine lv_dup C.1 C.2.1 dX11_punchTape_31 rfl ?_
  refine k_get (v := .int 17) C hP 0 rfl rfl inlX11 1 (by decide) m_9_9 (ss (sk n0 (by decide))) dX11_punchTape_32 ?_
  refine lv_iconst (v := 1) C.1 C.2.1 dX11_punchTape_35 (by decide) ?_
  refine k_iadd (v := 18) C (by decide) dX11_punchTape_36 ?_
  refine k_put (ws' := [(a0, .inr (10, ((s0.set 1 (.int 17)).set 1 (.int 18)))), (a1, .inl (K 2, 8192, .inl (upd (upd f1 16 (vp_nar .byte ((x1 >>> (24 &&& 31))).toInt8.toInt32)) 17 (vp_nar .byte ((x1 >>> (16 &&& 31))).toInt8.toInt32))))]) (v := .int 18) C hP hD hS 0 rfl rfl inlX11 tyX11_ok nmX11 1 (by decide) m_9_9 rfl rfl rfl (sl n0) rfl dX11_punchTape_37 (fun H locs hP hD hS => ?_)
  refine lv_iinc (v := 8) (lv' := [(2, .int 8), (0, .ref a0), (1, .int x1)]) C.1 C.2.1 dX11_punchTape_40 hl (k := 0) rfl (by decide) (by decide) rfl (fun ls hl => ?_)
  refine lv_goto (tgt := 3) C.1 C.2.1 dX11_punchTape_43 (by decide) ?_
  refine lv_iload_n C.1 C.2.1 dX11_punchTape_3 rfl (lv_at hl 0 rfl) ?_
  refine lv_if_lt (tgt := 46) C.1 C.2.1 dX11_punchTape_4 (by decide) (fun h => absurd h (by decide)) (fun _ => ?_)
  refine lv_aload_n C.1 C.2.1 dX11_punchTape_7 rfl (lv_at hl 1 rfl) ?_
  refine k_get (v := .int 18) C hP 0 rfl rfl inlX11 1 (by decide) m_9_9 (ss (sk (sl n0) (by decide))) dX11_punchTape_8 ?_
  refine lv_sipush (v := 8192) C.1 C.2.1 dX11_punchTape_11 (by decide) ?_
  refine lv_icmp_ge (tgt := 40) C.1 C.2.1 dX11_punchTape_14 (by decide) (fun h => absurd h (by decide)) (fun _ => ?_)
  refine lv_aload_n C.1 C.2.1 dX11_punchTape_17 rfl (lv_at hl 1 rfl) ?_
  refine k_get (v := .ref a1) C hP 0 rfl rfl inlX11 0 (by decide) m_2_6 (sn (by decide) (sn (by decide) e0_0)) dX11_punchTape_18 ?_
  refine lv_aload_n C.1 C.2.1 dX11_punchTape_21 rfl (lv_at hl 1 rfl) ?_
  refine k_get (v := .int 18) C hP 0 rfl rfl inlX11 1 (by decide) m_9_9 (ss (sk (sl n0) (by decide))) dX11_punchTape_22 ?_
  refine lv_iload_n C.1 C.2.1 dX11_punchTape_25 rfl (lv_at hl 2 rfl) ?_
  refine lv_iload_n C.1 C.2.1 dX11_punchTape_26 rfl (lv_at hl 0 rfl) ?_
  refine k_ishr (v := (x1 >>> (8 &&& 31))) C rfl dX11_punchTape_27 ?_
  refine lv_i2b (v := ((x1 >>> (8 &&& 31))).toInt8.toInt32) C.1 C.2.1 dX11_punchTape_28 rfl ?_
  refine k_bst (ws' := [(a0, .inr (10, ((s0.set 1 (.int 17)).set 1 (.int 18)))), (a1, .inl (K 2, 8192, .inl (upd (upd (upd f1 16 (vp_nar .byte ((x1 >>> (24 &&& 31))).toInt8.toInt32)) 17 (vp_nar .byte ((x1 >>> (16 &&& 31))).toInt8.toInt32)) 18 (vp_nar .byte ((x1 >>> (8 &&& 31))).toInt8.toInt32))))]) (j := 18) (x' := (vp_nar .byte ((x1 >>> (8 &&& 31))).toInt8.toInt32)) C hP hD hS 1 rfl (vin (by decide)) (by decide) rfl rfl dX11_punchTape_29 (fun H locs hP hD hS => ?_)
  refine lv_aload_n C.1 C.2.1 dX11_punchTape_30 rfl (lv_at hl 1 rfl) ?_
  refine lv_dup C.1 C.2.1 dX11_punchTape_31 rfl ?_
  refine k_get (v := .int 18) C hP 0 rfl rfl inlX11 1 (by decide) m_9_9 (ss (sk (sl n0) (by decide))) dX11_punchTape_32 ?_
  refine lv_iconst (v := 1) C.1 C.2.1 dX11_punchTape_35 (by decide) ?_
  refine k_iadd (v := 19) C (by decide) dX11_punchTape_36 ?_
  refine k_put (ws' := [(a0, .inr (10, (((s0.set 1 (.int 17)).set 1 (.int 18)).set 1 (.int 19)))), (a1, .inl (K 2, 8192, .inl (upd (upd (upd f1 16 (vp_nar .byte ((x1 >>> (24 &&& 31))).toInt8.toInt32)) 17 (vp_nar .byte ((x1 >>> (16 &&& 31))).toInt8.toInt32)) 18 (vp_nar .byte ((x1 >>> (8 &&& 31))).toInt8.toInt32))))]) (v := .int 19) C hP hD hS 0 rfl rfl inlX11 tyX11_ok nmX11 1 (by decide) m_9_9 rfl rfl rfl (sl (sl n0)) rfl dX11_punchTape_37 (fun H locs hP hD hS => ?_)
  refine lv_iinc (v := 0) (lv' := [(2, .int 0), (0, .ref a0), (1, .int x1)]) C.1 C.2.1 dX11_punchTape_40 hl (k := 0) rfl (by decide) (by decide) rfl (fun ls hl => ?_)
  refine lv_goto (tgt := 3) C.1 C.2.1 dX11_punchTape_43 (by decide) ?_
  refine lv_iload_n C.1 C.2.1 dX11_punchTape_3 rfl (lv_at hl 0 rfl) ?_
  refine lv_if_lt (tgt := 46) C.1 C.2.1 dX11_punchTape_4 (by decide) (fun h => absurd h (by decide)) (fun _ => ?_)
  refine lv_aload_n C.1 C.2.1 dX11_punchTape_7 rfl (lv_at hl 1 rfl) ?_
  refine k_get (v := .int 19) C hP 0 rfl rfl inlX11 1 (by decide) m_9_9 (ss (sk (sl (sl n0)) (by decide))) dX11_punchTape_8 ?_
  refine lv_sipush (v := 8192) C.1 C.2.1 dX11_punchTape_11 (by decide) ?_
  refine lv_icmp_ge (tgt := 40) C.1 C.2.1 dX11_punchTape_14 (by decide) (fun h => absurd h (by decide)) (fun _ => ?_)
  refine lv_aload_n C.1 C.2.1 dX11_punchTape_17 rfl (lv_at hl 1 rfl) ?_
  refine k_get (v := .ref a1) C hP 0 rfl rfl inlX11 0 (by decide) m_2_6 (sn (by decide) (sn (by decide) (sn (by decide) e0_0))) dX11_punchTape_18 ?_
  refine lv_aload_n C.1 C.2.1 dX11_punchTape_21 rfl (lv_at hl 1 rfl) ?_
  refine k_get (v := .int 19) C hP 0 rfl rfl inlX11 1 (by decide) m_9_9 (ss (sk (sl (sl n0)) (by decide))) dX11_punchTape_22 ?_
  refine lv_iload_n C.1 C.2.1 dX11_punchTape_25 rfl (lv_at hl 2 rfl) ?_
  refine lv_iload_n C.1 C.2.1 dX11_punchTape_26 rfl (lv_at hl 0 rfl) ?_
  refine k_ishr (v := (x1 >>> (0 &&& 31))) C rfl dX11_punchTape_27 ?_
  refine lv_i2b (v := ((x1 >>> (0 &&& 31))).toInt8.toInt32) C.1 C.2.1 dX11_punchTape_28 rfl ?_
  refine k_bst (ws' := [(a0, .inr (10, (((s0.set 1 (.int 17)).set 1 (.int 18)).set 1 (.int 19)))), (a1, .inl (K 2, 8192, .inl (upd (upd (upd (upd f1 16 (vp_nar .byte ((x1 >>> (24 &&& 31))).toInt8.toInt32)) 17 (vp_nar .byte ((x1 >>> (16 &&& 31))).toInt8.toInt32)) 18 (vp_nar .byte ((x1 >>> (8 &&& 31))).toInt8.toInt32)) 19 (vp_nar .byte ((x1 >>> (0 &&& 31))).toInt8.toInt32))))]) (j := 19) (x' := (vp_nar .byte ((x1 >>> (0 &&& 31))).toInt8.toInt32)) C hP hD hS 1 rfl (vin (by decide)) (by decide) rfl rfl dX11_punchTape_29 (fun H locs hP hD hS => ?_)
  refine lv_aload_n C.1 C.2.1 dX11_punchTape_30 rfl (lv_at hl 1 rfl) ?_
  refine lv_dup C.1 C.2.1 dX11_punchTape_31 rfl ?_
  refine k_get (v := .int 19) C hP 0 rfl rfl inlX11 1 (by decide) m_9_9 (ss (sk (sl (sl n0)) (by decide))) dX11_punchTape_32 ?_
  refine lv_iconst (v := 1) C.1 C.2.1 dX11_punchTape_35 (by decide) ?_
  refine k_iadd (v := 20) C (by decide) dX11_punchTape_36 ?_
  refine k_put (ws' := [(a0, .inr (10, ((((s0.set 1 (.int 17)).set 1 (.int 18)).set 1 (.int 19)).set 1 (.int 20)))), (a1, .inl (K 2, 8192, .inl (upd (upd (upd (upd f1 16 (vp_nar .byte ((x1 >>> (24 &&& 31))).toInt8.toInt32)) 17 (vp_nar .byte ((x1 >>> (16 &&& 31))).toInt8.toInt32)) 18 (vp_nar .byte ((x1 >>> (8 &&& 31))).toInt8.toInt32)) 19 (vp_nar .byte ((x1 >>> (0 &&& 31))).toInt8.toInt32))))]) (v := .int 20) C hP hD hS 0 rfl rfl inlX11 tyX11_ok nmX11 1 (by decide) m_9_9 rfl rfl rfl (sl (sl (sl n0))) rfl dX11_punchTape_37 (fun H locs hP hD hS => ?_)
  refine lv_iinc (v := (-8)) (lv' := [(2, .int (-8)), (0, .ref a0), (1, .int x1)]) C.1 C.2.1 dX11_punchTape_40 hl (k := 0) rfl (by decide) (by decide) rfl (fun ls hl => ?_)
  refine lv_goto (tgt := 3) C.1 C.2.1 dX11_punchTape_43 (by decide) ?_
  refine lv_iload_n C.1 C.2.1 dX11_punchTape_3 rfl (lv_at hl 0 rfl) ?_
  refine lv_if_lt (tgt := 46) C.1 C.2.1 dX11_punchTape_4 (by decide) (fun _ => ?_) (fun h => absurd (by decide) h)
  exact k_vret C hr hlocks hP hD hS (fun _ => 0) [0, 1] rfl rfl trivial (Nat.le_of_ble_eq_true rfl) (Nat.le_of_ble_eq_true rfl) dX11_punchTape_46
set_option maxHeartbeats 4000000 in
set_option maxRecDepth 100000 in
theorem t_X11_feed (l : Launch) (D : va_G) (K : Nat → ClassId) (a0 : Nat) (a1 : Nat) (s0 : List Value) (n0 : s0.length = 8) (f1 : Nat → Int32) (x1 : Int32) (x2 : Int32) (x3 : Int32) (x4 : Int32) (x5 : Int32) (e0_1 : s0[1]? = some (.int 0)) (e0_0 : s0[0]? = some (.ref a1)) : uMet l yX11_feed cX11_feed 6 (some .boolean) (rmD 1 0 0) D K X0 [.ref a0, .int x1, .int x2, .int x3, .int x4, .int x5] [(a0, .inr (10, s0)), (a1, .inl (K 2, 8192, .inl f1))] (QI D K (fun (r : Int32) (u : Nat → Nat) => r = 1) (fun (u : Nat → Nat) => [])) 0 0 := by
  refine k_met RX11 ⟨rfl, by decide +kernel⟩ (Nat.le_of_ble_eq_true rfl) ?_
  intro p e s m below meth c A ls C hX hr hlocks hin hA hP hD hS hl
  have hl : lv_has ls 6 [(0, .ref a0), (1, .int x1), (2, .int x2), (3, .int x3), (4, .int x4), (5, .int x5)] := hl
  refine lv_aload_n C.1 C.2.1 dX11_feed_0 rfl (lv_at hl 0 rfl) ?_
  refine k_get (v := .int 0) C hP 0 rfl rfl inlX11 1 (by decide) m_9_9 e0_1 dX11_feed_1 ?_
  refine lv_bipush (v := 20) C.1 C.2.1 dX11_feed_4 (by decide) ?_
  refine k_iadd (v := 20) C (by decide) dX11_feed_6 ?_
  refine lv_sipush (v := 8192) C.1 C.2.1 dX11_feed_7 (by decide) ?_
  refine lv_icmp_le (tgt := 15) C.1 C.2.1 dX11_feed_10 (by decide) (fun _ => ?_) (fun h => absurd (by decide) h)
  refine lv_aload_n C.1 C.2.1 dX11_feed_15 rfl (lv_at hl 0 rfl) ?_
  refine lv_iload_n C.1 C.2.1 dX11_feed_16 rfl (lv_at hl 1 rfl) ?_
  refine k_Vv (As := [.int x1]) (rest := []) C hP hD hS hA (c_X11_punchTape l D K a0 a1 s0 n0 f1 x1 e0_1 e0_0) X0_ok trivial (uwV m_9_10 m_9_11 m_9_12 m_1_2 m_9_13) (hdV 1 (by decide +kernel) rfl) ⟨Nat.le_of_ble_eq_true rfl, Nat.le_of_ble_eq_true rfl⟩ rfl rfl (ci := 10) rfl rfl (isC := [0, 1]) (isR := []) (wr := []) ⟨rfl, rfl, rfl, rfl, by decide⟩ rfl hl.1 (Nat.le_of_ble_eq_true rfl) dX11_feed_17 ⟨Nat.le_of_ble_eq_true rfl, Nat.le_of_ble_eq_true rfl⟩ (fun u_1 H locs hw hP hD hS => ?_)
  have hP : va_P D vwCl [(a0, .inr (10, ((((s0.set 1 (.int 1)).set 1 (.int 2)).set 1 (.int 3)).set 1 (.int 4)))), (a1, .inl (K 2, 8192, .inl (upd (upd (upd (upd f1 0 (vp_nar .byte ((x1 >>> (24 &&& 31))).toInt8.toInt32)) 1 (vp_nar .byte ((x1 >>> (16 &&& 31))).toInt8.toInt32)) 2 (vp_nar .byte ((x1 >>> (8 &&& 31))).toInt8.toInt32)) 3 (vp_nar .byte ((x1 >>> (0 &&& 31))).toInt8.toInt32))))] H := hP
  have hD : va_D A [(a0, .inr (10, ((((s0.set 1 (.int 1)).set 1 (.int 2)).set 1 (.int 3)).set 1 (.int 4)))), (a1, .inl (K 2, 8192, .inl (upd (upd (upd (upd f1 0 (vp_nar .byte ((x1 >>> (24 &&& 31))).toInt8.toInt32)) 1 (vp_nar .byte ((x1 >>> (16 &&& 31))).toInt8.toInt32)) 2 (vp_nar .byte ((x1 >>> (8 &&& 31))).toInt8.toInt32)) 3 (vp_nar .byte ((x1 >>> (0 &&& 31))).toInt8.toInt32))))] := hD
  refine lv_aload_n C.1 C.2.1 dX11_feed_20 rfl (lv_at hl 0 rfl) ?_
  refine lv_iload_n C.1 C.2.1 dX11_feed_21 rfl (lv_at hl 2 rfl) ?_
  refine k_Vv (As := [.int x2]) (rest := []) C hP hD hS hA (c_X11_punchTape_2 l D K a0 a1 (((((s0.set 1 (.int 1)).set 1 (.int 2)).set 1 (.int 3)).set 1 (.int 4))) (sl (sl (sl (sl n0)))) (upd (upd (upd (upd f1 0 (vp_nar .byte ((x1 >>> (24 &&& 31))).toInt8.toInt32)) 1 (vp_nar .byte ((x1 >>> (16 &&& 31))).toInt8.toInt32)) 2 (vp_nar .byte ((x1 >>> (8 &&& 31))).toInt8.toInt32)) 3 (vp_nar .byte ((x1 >>> (0 &&& 31))).toInt8.toInt32)) x2 (ss (sk (sl (sl (sl n0))) (by decide))) (sn (by decide) (sn (by decide) (sn (by decide) (sn (by decide) e0_0))))) X0_ok trivial (uwV m_9_10 m_9_11 m_9_12 m_1_2 m_9_13) (hdV 1 (by decide +kernel) rfl) ⟨Nat.le_of_ble_eq_true rfl, Nat.le_of_ble_eq_true rfl⟩ rfl rfl (ci := 10) rfl rfl (isC := [0, 1]) (isR := []) (wr := []) ⟨rfl, rfl, rfl, rfl, by decide⟩ rfl hl.1 (Nat.le_of_ble_eq_true rfl) dX11_feed_22 ⟨Nat.le_of_ble_eq_true rfl, Nat.le_of_ble_eq_true rfl⟩ (fun u_3 H locs hw hP hD hS => ?_)
  have hP : va_P D vwCl [(a0, .inr (10, ((((((((s0.set 1 (.int 1)).set 1 (.int 2)).set 1 (.int 3)).set 1 (.int 4)).set 1 (.int 5)).set 1 (.int 6)).set 1 (.int 7)).set 1 (.int 8)))), (a1, .inl (K 2, 8192, .inl (upd (upd (upd (upd (upd (upd (upd (upd f1 0 (vp_nar .byte ((x1 >>> (24 &&& 31))).toInt8.toInt32)) 1 (vp_nar .byte ((x1 >>> (16 &&& 31))).toInt8.toInt32)) 2 (vp_nar .byte ((x1 >>> (8 &&& 31))).toInt8.toInt32)) 3 (vp_nar .byte ((x1 >>> (0 &&& 31))).toInt8.toInt32)) 4 (vp_nar .byte ((x2 >>> (24 &&& 31))).toInt8.toInt32)) 5 (vp_nar .byte ((x2 >>> (16 &&& 31))).toInt8.toInt32)) 6 (vp_nar .byte ((x2 >>> (8 &&& 31))).toInt8.toInt32)) 7 (vp_nar .byte ((x2 >>> (0 &&& 31))).toInt8.toInt32))))] H := hP
  have hD : va_D A [(a0, .inr (10, ((((((((s0.set 1 (.int 1)).set 1 (.int 2)).set 1 (.int 3)).set 1 (.int 4)).set 1 (.int 5)).set 1 (.int 6)).set 1 (.int 7)).set 1 (.int 8)))), (a1, .inl (K 2, 8192, .inl (upd (upd (upd (upd (upd (upd (upd (upd f1 0 (vp_nar .byte ((x1 >>> (24 &&& 31))).toInt8.toInt32)) 1 (vp_nar .byte ((x1 >>> (16 &&& 31))).toInt8.toInt32)) 2 (vp_nar .byte ((x1 >>> (8 &&& 31))).toInt8.toInt32)) 3 (vp_nar .byte ((x1 >>> (0 &&& 31))).toInt8.toInt32)) 4 (vp_nar .byte ((x2 >>> (24 &&& 31))).toInt8.toInt32)) 5 (vp_nar .byte ((x2 >>> (16 &&& 31))).toInt8.toInt32)) 6 (vp_nar .byte ((x2 >>> (8 &&& 31))).toInt8.toInt32)) 7 (vp_nar .byte ((x2 >>> (0 &&& 31))).toInt8.toInt32))))] := hD
  refine lv_aload_n C.1 C.2.1 dX11_feed_25 rfl (lv_at hl 0 rfl) ?_
  refine lv_iload_n C.1 C.2.1 dX11_feed_26 rfl (lv_at hl 3 rfl) ?_
  refine k_Vv (As := [.int x3]) (rest := []) C hP hD hS hA (c_X11_punchTape_3 l D K a0 a1 (((((((((s0.set 1 (.int 1)).set 1 (.int 2)).set 1 (.int 3)).set 1 (.int 4)).set 1 (.int 5)).set 1 (.int 6)).set 1 (.int 7)).set 1 (.int 8))) (sl (sl (sl (sl (sl (sl (sl (sl n0)))))))) (upd (upd (upd (upd (upd (upd (upd (upd f1 0 (vp_nar .byte ((x1 >>> (24 &&& 31))).toInt8.toInt32)) 1 (vp_nar .byte ((x1 >>> (16 &&& 31))).toInt8.toInt32)) 2 (vp_nar .byte ((x1 >>> (8 &&& 31))).toInt8.toInt32)) 3 (vp_nar .byte ((x1 >>> (0 &&& 31))).toInt8.toInt32)) 4 (vp_nar .byte ((x2 >>> (24 &&& 31))).toInt8.toInt32)) 5 (vp_nar .byte ((x2 >>> (16 &&& 31))).toInt8.toInt32)) 6 (vp_nar .byte ((x2 >>> (8 &&& 31))).toInt8.toInt32)) 7 (vp_nar .byte ((x2 >>> (0 &&& 31))).toInt8.toInt32)) x3 (ss (sk (sl (sl (sl (sl (sl (sl (sl n0))))))) (by decide))) (sn (by decide) (sn (by decide) (sn (by decide) (sn (by decide) (sn (by decide) (sn (by decide) (sn (by decide) (sn (by decide) e0_0))))))))) X0_ok trivial (uwV m_9_10 m_9_11 m_9_12 m_1_2 m_9_13) (hdV 1 (by decide +kernel) rfl) ⟨Nat.le_of_ble_eq_true rfl, Nat.le_of_ble_eq_true rfl⟩ rfl rfl (ci := 10) rfl rfl (isC := [0, 1]) (isR := []) (wr := []) ⟨rfl, rfl, rfl, rfl, by decide⟩ rfl hl.1 (Nat.le_of_ble_eq_true rfl) dX11_feed_27 ⟨Nat.le_of_ble_eq_true rfl, Nat.le_of_ble_eq_true rfl⟩ (fun u_5 H locs hw hP hD hS => ?_)
  have hP : va_P D vwCl [(a0, .inr (10, ((((((((((((s0.set 1 (.int 1)).set 1 (.int 2)).set 1 (.int 3)).set 1 (.int 4)).set 1 (.int 5)).set 1 (.int 6)).set 1 (.int 7)).set 1 (.int 8)).set 1 (.int 9)).set 1 (.int 10)).set 1 (.int 11)).set 1 (.int 12)))), (a1, .inl (K 2, 8192, .inl (upd (upd (upd (upd (upd (upd (upd (upd (upd (upd (upd (upd f1 0 (vp_nar .byte ((x1 >>> (24 &&& 31))).toInt8.toInt32)) 1 (vp_nar .byte ((x1 >>> (16 &&& 31))).toInt8.toInt32)) 2 (vp_nar .byte ((x1 >>> (8 &&& 31))).toInt8.toInt32)) 3 (vp_nar .byte ((x1 >>> (0 &&& 31))).toInt8.toInt32)) 4 (vp_nar .byte ((x2 >>> (24 &&& 31))).toInt8.toInt32)) 5 (vp_nar .byte ((x2 >>> (16 &&& 31))).toInt8.toInt32)) 6 (vp_nar .byte ((x2 >>> (8 &&& 31))).toInt8.toInt32)) 7 (vp_nar .byte ((x2 >>> (0 &&& 31))).toInt8.toInt32)) 8 (vp_nar .byte ((x3 >>> (24 &&& 31))).toInt8.toInt32)) 9 (vp_nar .byte ((x3 >>> (16 &&& 31))).toInt8.toInt32)) 10 (vp_nar .byte ((x3 >>> (8 &&& 31))).toInt8.toInt32)) 11 (vp_nar .byte ((x3 >>> (0 &&& 31))).toInt8.toInt32))))] H := hP
  have hD : va_D A [(a0, .inr (10, ((((((((((((s0.set 1 (.int 1)).set 1 (.int 2)).set 1 (.int 3)).set 1 (.int 4)).set 1 (.int 5)).set 1 (.int 6)).set 1 (.int 7)).set 1 (.int 8)).set 1 (.int 9)).set 1 (.int 10)).set 1 (.int 11)).set 1 (.int 12)))), (a1, .inl (K 2, 8192, .inl (upd (upd (upd (upd (upd (upd (upd (upd (upd (upd (upd (upd f1 0 (vp_nar .byte ((x1 >>> (24 &&& 31))).toInt8.toInt32)) 1 (vp_nar .byte ((x1 >>> (16 &&& 31))).toInt8.toInt32)) 2 (vp_nar .byte ((x1 >>> (8 &&& 31))).toInt8.toInt32)) 3 (vp_nar .byte ((x1 >>> (0 &&& 31))).toInt8.toInt32)) 4 (vp_nar .byte ((x2 >>> (24 &&& 31))).toInt8.toInt32)) 5 (vp_nar .byte ((x2 >>> (16 &&& 31))).toInt8.toInt32)) 6 (vp_nar .byte ((x2 >>> (8 &&& 31))).toInt8.toInt32)) 7 (vp_nar .byte ((x2 >>> (0 &&& 31))).toInt8.toInt32)) 8 (vp_nar .byte ((x3 >>> (24 &&& 31))).toInt8.toInt32)) 9 (vp_nar .byte ((x3 >>> (16 &&& 31))).toInt8.toInt32)) 10 (vp_nar .byte ((x3 >>> (8 &&& 31))).toInt8.toInt32)) 11 (vp_nar .byte ((x3 >>> (0 &&& 31))).toInt8.toInt32))))] := hD
  refine lv_aload_n C.1 C.2.1 dX11_feed_30 rfl (lv_at hl 0 rfl) ?_
  refine lv_iload C.1 C.2.1 dX11_feed_31 (lv_at hl 4 rfl) ?_
  refine k_Vv (As := [.int x4]) (rest := []) C hP hD hS hA (c_X11_punchTape_4 l D K a0 a1 (((((((((((((s0.set 1 (.int 1)).set 1 (.int 2)).set 1 (.int 3)).set 1 (.int 4)).set 1 (.int 5)).set 1 (.int 6)).set 1 (.int 7)).set 1 (.int 8)).set 1 (.int 9)).set 1 (.int 10)).set 1 (.int 11)).set 1 (.int 12))) (sl (sl (sl (sl (sl (sl (sl (sl (sl (sl (sl (sl n0)))))))))))) (upd (upd (upd (upd (upd (upd (upd (upd (upd (upd (upd (upd f1 0 (vp_nar .byte ((x1 >>> (24 &&& 31))).toInt8.toInt32)) 1 (vp_nar .byte ((x1 >>> (16 &&& 31))).toInt8.toInt32)) 2 (vp_nar .byte ((x1 >>> (8 &&& 31))).toInt8.toInt32)) 3 (vp_nar .byte ((x1 >>> (0 &&& 31))).toInt8.toInt32)) 4 (vp_nar .byte ((x2 >>> (24 &&& 31))).toInt8.toInt32)) 5 (vp_nar .byte ((x2 >>> (16 &&& 31))).toInt8.toInt32)) 6 (vp_nar .byte ((x2 >>> (8 &&& 31))).toInt8.toInt32)) 7 (vp_nar .byte ((x2 >>> (0 &&& 31))).toInt8.toInt32)) 8 (vp_nar .byte ((x3 >>> (24 &&& 31))).toInt8.toInt32)) 9 (vp_nar .byte ((x3 >>> (16 &&& 31))).toInt8.toInt32)) 10 (vp_nar .byte ((x3 >>> (8 &&& 31))).toInt8.toInt32)) 11 (vp_nar .byte ((x3 >>> (0 &&& 31))).toInt8.toInt32)) x4 (ss (sk (sl (sl (sl (sl (sl (sl (sl (sl (sl (sl (sl n0))))))))))) (by decide))) (sn (by decide) (sn (by decide) (sn (by decide) (sn (by decide) (sn (by decide) (sn (by decide) (sn (by decide) (sn (by decide) (sn (by decide) (sn (by decide) (sn (by decide) (sn (by decide) e0_0))))))))))))) X0_ok trivial (uwV m_9_10 m_9_11 m_9_12 m_1_2 m_9_13) (hdV 1 (by decide +kernel) rfl) ⟨Nat.le_of_ble_eq_true rfl, Nat.le_of_ble_eq_true rfl⟩ rfl rfl (ci := 10) rfl rfl (isC := [0, 1]) (isR := []) (wr := []) ⟨rfl, rfl, rfl, rfl, by decide⟩ rfl hl.1 (Nat.le_of_ble_eq_true rfl) dX11_feed_33 ⟨Nat.le_of_ble_eq_true rfl, Nat.le_of_ble_eq_true rfl⟩ (fun u_7 H locs hw hP hD hS => ?_)
  have hP : va_P D vwCl [(a0, .inr (10, ((((((((((((((((s0.set 1 (.int 1)).set 1 (.int 2)).set 1 (.int 3)).set 1 (.int 4)).set 1 (.int 5)).set 1 (.int 6)).set 1 (.int 7)).set 1 (.int 8)).set 1 (.int 9)).set 1 (.int 10)).set 1 (.int 11)).set 1 (.int 12)).set 1 (.int 13)).set 1 (.int 14)).set 1 (.int 15)).set 1 (.int 16)))), (a1, .inl (K 2, 8192, .inl (upd (upd (upd (upd (upd (upd (upd (upd (upd (upd (upd (upd (upd (upd (upd (upd f1 0 (vp_nar .byte ((x1 >>> (24 &&& 31))).toInt8.toInt32)) 1 (vp_nar .byte ((x1 >>> (16 &&& 31))).toInt8.toInt32)) 2 (vp_nar .byte ((x1 >>> (8 &&& 31))).toInt8.toInt32)) 3 (vp_nar .byte ((x1 >>> (0 &&& 31))).toInt8.toInt32)) 4 (vp_nar .byte ((x2 >>> (24 &&& 31))).toInt8.toInt32)) 5 (vp_nar .byte ((x2 >>> (16 &&& 31))).toInt8.toInt32)) 6 (vp_nar .byte ((x2 >>> (8 &&& 31))).toInt8.toInt32)) 7 (vp_nar .byte ((x2 >>> (0 &&& 31))).toInt8.toInt32)) 8 (vp_nar .byte ((x3 >>> (24 &&& 31))).toInt8.toInt32)) 9 (vp_nar .byte ((x3 >>> (16 &&& 31))).toInt8.toInt32)) 10 (vp_nar .byte ((x3 >>> (8 &&& 31))).toInt8.toInt32)) 11 (vp_nar .byte ((x3 >>> (0 &&& 31))).toInt8.toInt32)) 12 (vp_nar .byte ((x4 >>> (24 &&& 31))).toInt8.toInt32)) 13 (vp_nar .byte ((x4 >>> (16 &&& 31))).toInt8.toInt32)) 14 (vp_nar .byte ((x4 >>> (8 &&& 31))).toInt8.toInt32)) 15 (vp_nar .byte ((x4 >>> (0 &&& 31))).toInt8.toInt32))))] H := hP
  have hD : va_D A [(a0, .inr (10, ((((((((((((((((s0.set 1 (.int 1)).set 1 (.int 2)).set 1 (.int 3)).set 1 (.int 4)).set 1 (.int 5)).set 1 (.int 6)).set 1 (.int 7)).set 1 (.int 8)).set 1 (.int 9)).set 1 (.int 10)).set 1 (.int 11)).set 1 (.int 12)).set 1 (.int 13)).set 1 (.int 14)).set 1 (.int 15)).set 1 (.int 16)))), (a1, .inl (K 2, 8192, .inl (upd (upd (upd (upd (upd (upd (upd (upd (upd (upd (upd (upd (upd (upd (upd (upd f1 0 (vp_nar .byte ((x1 >>> (24 &&& 31))).toInt8.toInt32)) 1 (vp_nar .byte ((x1 >>> (16 &&& 31))).toInt8.toInt32)) 2 (vp_nar .byte ((x1 >>> (8 &&& 31))).toInt8.toInt32)) 3 (vp_nar .byte ((x1 >>> (0 &&& 31))).toInt8.toInt32)) 4 (vp_nar .byte ((x2 >>> (24 &&& 31))).toInt8.toInt32)) 5 (vp_nar .byte ((x2 >>> (16 &&& 31))).toInt8.toInt32)) 6 (vp_nar .byte ((x2 >>> (8 &&& 31))).toInt8.toInt32)) 7 (vp_nar .byte ((x2 >>> (0 &&& 31))).toInt8.toInt32)) 8 (vp_nar .byte ((x3 >>> (24 &&& 31))).toInt8.toInt32)) 9 (vp_nar .byte ((x3 >>> (16 &&& 31))).toInt8.toInt32)) 10 (vp_nar .byte ((x3 >>> (8 &&& 31))).toInt8.toInt32)) 11 (vp_nar .byte ((x3 >>> (0 &&& 31))).toInt8.toInt32)) 12 (vp_nar .byte ((x4 >>> (24 &&& 31))).toInt8.toInt32)) 13 (vp_nar .byte ((x4 >>> (16 &&& 31))).toInt8.toInt32)) 14 (vp_nar .byte ((x4 >>> (8 &&& 31))).toInt8.toInt32)) 15 (vp_nar .byte ((x4 >>> (0 &&& 31))).toInt8.toInt32))))] := hD
  refine lv_aload_n C.1 C.2.1 dX11_feed_36 rfl (lv_at hl 0 rfl) ?_
  refine lv_iload C.1 C.2.1 dX11_feed_37 (lv_at hl 5 rfl) ?_
  refine k_Vv (As := [.int x5]) (rest := []) C hP hD hS hA (c_X11_punchTape_5 l D K a0 a1 (((((((((((((((((s0.set 1 (.int 1)).set 1 (.int 2)).set 1 (.int 3)).set 1 (.int 4)).set 1 (.int 5)).set 1 (.int 6)).set 1 (.int 7)).set 1 (.int 8)).set 1 (.int 9)).set 1 (.int 10)).set 1 (.int 11)).set 1 (.int 12)).set 1 (.int 13)).set 1 (.int 14)).set 1 (.int 15)).set 1 (.int 16))) (sl (sl (sl (sl (sl (sl (sl (sl (sl (sl (sl (sl (sl (sl (sl (sl n0)))))))))))))))) (upd (upd (upd (upd (upd (upd (upd (upd (upd (upd (upd (upd (upd (upd (upd (upd f1 0 (vp_nar .byte ((x1 >>> (24 &&& 31))).toInt8.toInt32)) 1 (vp_nar .byte ((x1 >>> (16 &&& 31))).toInt8.toInt32)) 2 (vp_nar .byte ((x1 >>> (8 &&& 31))).toInt8.toInt32)) 3 (vp_nar .byte ((x1 >>> (0 &&& 31))).toInt8.toInt32)) 4 (vp_nar .byte ((x2 >>> (24 &&& 31))).toInt8.toInt32)) 5 (vp_nar .byte ((x2 >>> (16 &&& 31))).toInt8.toInt32)) 6 (vp_nar .byte ((x2 >>> (8 &&& 31))).toInt8.toInt32)) 7 (vp_nar .byte ((x2 >>> (0 &&& 31))).toInt8.toInt32)) 8 (vp_nar .byte ((x3 >>> (24 &&& 31))).toInt8.toInt32)) 9 (vp_nar .byte ((x3 >>> (16 &&& 31))).toInt8.toInt32)) 10 (vp_nar .byte ((x3 >>> (8 &&& 31))).toInt8.toInt32)) 11 (vp_nar .byte ((x3 >>> (0 &&& 31))).toInt8.toInt32)) 12 (vp_nar .byte ((x4 >>> (24 &&& 31))).toInt8.toInt32)) 13 (vp_nar .byte ((x4 >>> (16 &&& 31))).toInt8.toInt32)) 14 (vp_nar .byte ((x4 >>> (8 &&& 31))).toInt8.toInt32)) 15 (vp_nar .byte ((x4 >>> (0 &&& 31))).toInt8.toInt32)) x5 (ss (sk (sl (sl (sl (sl (sl (sl (sl (sl (sl (sl (sl (sl (sl (sl (sl n0))))))))))))))) (by decide))) (sn (by decide) (sn (by decide) (sn (by decide) (sn (by decide) (sn (by decide) (sn (by decide) (sn (by decide) (sn (by decide) (sn (by decide) (sn (by decide) (sn (by decide) (sn (by decide) (sn (by decide) (sn (by decide) (sn (by decide) (sn (by decide) e0_0))))))))))))))))) X0_ok trivial (uwV m_9_10 m_9_11 m_9_12 m_1_2 m_9_13) (hdV 1 (by decide +kernel) rfl) ⟨Nat.le_of_ble_eq_true rfl, Nat.le_of_ble_eq_true rfl⟩ rfl rfl (ci := 10) rfl rfl (isC := [0, 1]) (isR := []) (wr := []) ⟨rfl, rfl, rfl, rfl, by decide⟩ rfl hl.1 (Nat.le_of_ble_eq_true rfl) dX11_feed_39 ⟨Nat.le_of_ble_eq_true rfl, Nat.le_of_ble_eq_true rfl⟩ (fun u_9 H locs hw hP hD hS => ?_)
  have hP : va_P D vwCl [(a0, .inr (10, ((((((((((((((((((((s0.set 1 (.int 1)).set 1 (.int 2)).set 1 (.int 3)).set 1 (.int 4)).set 1 (.int 5)).set 1 (.int 6)).set 1 (.int 7)).set 1 (.int 8)).set 1 (.int 9)).set 1 (.int 10)).set 1 (.int 11)).set 1 (.int 12)).set 1 (.int 13)).set 1 (.int 14)).set 1 (.int 15)).set 1 (.int 16)).set 1 (.int 17)).set 1 (.int 18)).set 1 (.int 19)).set 1 (.int 20)))), (a1, .inl (K 2, 8192, .inl (upd (upd (upd (upd (upd (upd (upd (upd (upd (upd (upd (upd (upd (upd (upd (upd (upd (upd (upd (upd f1 0 (vp_nar .byte ((x1 >>> (24 &&& 31))).toInt8.toInt32)) 1 (vp_nar .byte ((x1 >>> (16 &&& 31))).toInt8.toInt32)) 2 (vp_nar .byte ((x1 >>> (8 &&& 31))).toInt8.toInt32)) 3 (vp_nar .byte ((x1 >>> (0 &&& 31))).toInt8.toInt32)) 4 (vp_nar .byte ((x2 >>> (24 &&& 31))).toInt8.toInt32)) 5 (vp_nar .byte ((x2 >>> (16 &&& 31))).toInt8.toInt32)) 6 (vp_nar .byte ((x2 >>> (8 &&& 31))).toInt8.toInt32)) 7 (vp_nar .byte ((x2 >>> (0 &&& 31))).toInt8.toInt32)) 8 (vp_nar .byte ((x3 >>> (24 &&& 31))).toInt8.toInt32)) 9 (vp_nar .byte ((x3 >>> (16 &&& 31))).toInt8.toInt32)) 10 (vp_nar .byte ((x3 >>> (8 &&& 31))).toInt8.toInt32)) 11 (vp_nar .byte ((x3 >>> (0 &&& 31))).toInt8.toInt32)) 12 (vp_nar .byte ((x4 >>> (24 &&& 31))).toInt8.toInt32)) 13 (vp_nar .byte ((x4 >>> (16 &&& 31))).toInt8.toInt32)) 14 (vp_nar .byte ((x4 >>> (8 &&& 31))).toInt8.toInt32)) 15 (vp_nar .byte ((x4 >>> (0 &&& 31))).toInt8.toInt32)) 16 (vp_nar .byte ((x5 >>> (24 &&& 31))).toInt8.toInt32)) 17 (vp_nar .byte ((x5 >>> (16 &&& 31))).toInt8.toInt32)) 18 (vp_nar .byte ((x5 >>> (8 &&& 31))).toInt8.toInt32)) 19 (vp_nar .byte ((x5 >>> (0 &&& 31))).toInt8.toInt32))))] H := hP
  have hD : va_D A [(a0, .inr (10, ((((((((((((((((((((s0.set 1 (.int 1)).set 1 (.int 2)).set 1 (.int 3)).set 1 (.int 4)).set 1 (.int 5)).set 1 (.int 6)).set 1 (.int 7)).set 1 (.int 8)).set 1 (.int 9)).set 1 (.int 10)).set 1 (.int 11)).set 1 (.int 12)).set 1 (.int 13)).set 1 (.int 14)).set 1 (.int 15)).set 1 (.int 16)).set 1 (.int 17)).set 1 (.int 18)).set 1 (.int 19)).set 1 (.int 20)))), (a1, .inl (K 2, 8192, .inl (upd (upd (upd (upd (upd (upd (upd (upd (upd (upd (upd (upd (upd (upd (upd (upd (upd (upd (upd (upd f1 0 (vp_nar .byte ((x1 >>> (24 &&& 31))).toInt8.toInt32)) 1 (vp_nar .byte ((x1 >>> (16 &&& 31))).toInt8.toInt32)) 2 (vp_nar .byte ((x1 >>> (8 &&& 31))).toInt8.toInt32)) 3 (vp_nar .byte ((x1 >>> (0 &&& 31))).toInt8.toInt32)) 4 (vp_nar .byte ((x2 >>> (24 &&& 31))).toInt8.toInt32)) 5 (vp_nar .byte ((x2 >>> (16 &&& 31))).toInt8.toInt32)) 6 (vp_nar .byte ((x2 >>> (8 &&& 31))).toInt8.toInt32)) 7 (vp_nar .byte ((x2 >>> (0 &&& 31))).toInt8.toInt32)) 8 (vp_nar .byte ((x3 >>> (24 &&& 31))).toInt8.toInt32)) 9 (vp_nar .byte ((x3 >>> (16 &&& 31))).toInt8.toInt32)) 10 (vp_nar .byte ((x3 >>> (8 &&& 31))).toInt8.toInt32)) 11 (vp_nar .byte ((x3 >>> (0 &&& 31))).toInt8.toInt32)) 12 (vp_nar .byte ((x4 >>> (24 &&& 31))).toInt8.toInt32)) 13 (vp_nar .byte ((x4 >>> (16 &&& 31))).toInt8.toInt32)) 14 (vp_nar .byte ((x4 >>> (8 &&& 31))).toInt8.toInt32)) 15 (vp_nar .byte ((x4 >>> (0 &&& 31))).toInt8.toInt32)) 16 (vp_nar .byte ((x5 >>> (24 &&& 31))).toInt8.toInt32)) 17 (vp_nar .byte ((x5 >>> (16 &&& 31))).toInt8.toInt32)) 18 (vp_nar .byte ((x5 >>> (8 &&& 31))).toInt8.toInt32)) 19 (vp_nar .byte ((x5 >>> (0 &&& 31))).toInt8.toInt32))))] := hD
  refine lv_iconst (v := 1) C.1 C.2.1 dX11_feed_42 (by decide) ?_
  exact k_iret C hr hlocks hP hD hS (by decide) (fun _ => 0) [] rfl rfl rfl (Nat.le_of_ble_eq_true rfl) (Nat.le_of_ble_eq_true rfl) dX11_feed_43
