set_option maxHeartbeats 4000000 in
set_option maxRecDepth 100000 in
theorem h_register (l : Launch) (htr : l.stackTraces = false) (D : va_G) (K : Nat → ClassId) (Z Y : Nat → Nat) (ad : Nat → Nat) (d : dSt) (t : tSt) (hok : okX t) (x1 : Int32) (ao : Nat) (o : Nat → Int64) : htMet l yL_register cL_register 4 (some .int) [(0, 9, 12, 13)] (rmD 7 1 6) D K Z Y [.ref (ad 0), .int x1, .ref ao] (WX d K ad t ++ oC K ao o) (QI D K (fun (r : Int32) (u : tSt × (Nat → Int64)) => u.1 = t) (fun (u : tSt × (Nat → Int64)) => WX d K ad u.1 ++ oC K ao u.2)) 1 6 := by
  refine ht_met RL ⟨rfl, by decide +kernel⟩ (Nat.le_of_ble_eq_true rfl) ?_
  intro p e s m below meth c A ls C hE hZ htb hr hlocks hA hP hD hS hl
  have hl : lv_has ls 4 [(0, .ref (ad 0)), (1, .int x1), (2, .ref ao)] := hl
  refine lv_aload_n C.1 C.2.1 dL_register_0 rfl (lv_at hl 2 rfl) ?_
  refine lv_iconst (v := 0) C.1 C.2.1 dL_register_1 (by decide) ?_
  refine lv_aload_n C.1 C.2.1 dL_register_2 rfl (lv_at hl 0 rfl) ?_
  refine lv_iload_n C.1 C.2.1 dL_register_3 rfl (lv_at hl 1 rfl) ?_
  refine tx_Vi (As := [.int x1]) (rest := [.int 0, .ref ao]) C hP hD hS hA hE hZ (T_X11_register l htr D K Z Y ad d t hok x1) (uwV m_83_19 m_83_20 m_83_21 m_1_2 m_83_22) (hdV 1 (by decide +kernel) rfl) ⟨Nat.le_of_ble_eq_true rfl, Nat.le_of_ble_eq_true rfl⟩ rfl rfl (ci := 10) (q0 := 0) rfl rfl rfl hl.1 (Nat.le_of_ble_eq_true rfl) dL_register_4 ⟨Nat.le_of_ble_eq_true rfl, Nat.le_of_ble_eq_true rfl⟩ (fun ce q9 w H locs hpx hP hD hS h9 hv9 hcl => ?_) (fun r w H locs hw hP hD hS => ?_)
  · refine vx_catch C.2.2.2.1 [] ⟨0, 9, 12, 13⟩ [] (by rw [htb]; rfl) (fun z hz => by cases hz) (by decide) (by decide) (C.2.2.2.2.1 _ m_83_18) (va_Nw.use rfl hE.1.1) h9 hv9 hcl ?_
    refine lv_astore_n (lv' := [(3, .ref q9), (0, .ref (ad 0)), (1, .int x1), (2, .ref ao)]) C.1 C.2.1 dL_register_12 rfl hl (by decide) rfl (fun ls hl => ?_)
    refine lv_iconst (v := 1) C.1 C.2.1 dL_register_13 (by decide) ?_
    exact g_iret C hr hlocks hP hD hS rfl (t, o) rfl rfl (Nat.le_of_ble_eq_true rfl) (Nat.le_of_ble_eq_true rfl) dL_register_14
  · refine lv_i2l (v := r.toInt64) C.1 C.2.1 dL_register_7 rfl ?_
    refine k_lst (ws' := WX d K ad t ++ oC K ao (vp_updL o 0 r.toInt64)) (j := 0) (x' := r.toInt64) C hP hD hS (WX d K ad t).length app_at (vin (by decide)) (by decide) rfl app_set dL_register_8 (fun H locs hP hD hS => ?_)
    refine lv_goto (tgt := 15) C.1 C.2.1 dL_register_9 (by decide) ?_
    refine lv_iconst (v := 0) C.1 C.2.1 dL_register_15 (by decide) ?_
    exact g_iret C hr hlocks hP hD hS rfl (t, vp_updL o 0 r.toInt64) rfl rfl (Nat.le_of_ble_eq_true rfl) (Nat.le_of_ble_eq_true rfl) dL_register_16
set_option maxHeartbeats 4000000 in
set_option maxRecDepth 100000 in
theorem h_word (l : Launch) (htr : l.stackTraces = false) (D : va_G) (K : Nat → ClassId) (Z Y : Nat → Nat) (ad : Nat → Nat) (d : dSt) (t : tSt) (hok : okX t) (x1 : Int32) (ao : Nat) (o : Nat → Int64) : htMet l yL_word cL_word 4 (some .int) [(0, 9, 12, 13)] (rmD 7 1 6) D K Z Y [.ref (ad 0), .int x1, .ref ao] (WX d K ad t ++ oC K ao o) (QI D K (fun (r : Int32) (u : tSt × (Nat → Int64)) => u.1 = t) (fun (u : tSt × (Nat → Int64)) => WX d K ad u.1 ++ oC K ao u.2)) 1 6 := by
  refine ht_met RL ⟨rfl, by decide +kernel⟩ (Nat.le_of_ble_eq_true rfl) ?_
  intro p e s m below meth c A ls C hE hZ htb hr hlocks hA hP hD hS hl
  have hl : lv_has ls 4 [(0, .ref (ad 0)), (1, .int x1), (2, .ref ao)] := hl
  refine lv_aload_n C.1 C.2.1 dL_word_0 rfl (lv_at hl 2 rfl) ?_
  refine lv_iconst (v := 0) C.1 C.2.1 dL_word_1 (by decide) ?_
  refine lv_aload_n C.1 C.2.1 dL_word_2 rfl (lv_at hl 0 rfl) ?_
  refine lv_iload_n C.1 C.2.1 dL_word_3 rfl (lv_at hl 1 rfl) ?_
  refine tx_Vi (As := [.int x1]) (rest := [.int 0, .ref ao]) C hP hD hS hA hE hZ (T_X11_word l htr D K Z Y ad d t hok x1) (uwV m_84_20 m_84_21 m_84_22 m_1_2 m_84_23) (hdV 1 (by decide +kernel) rfl) ⟨Nat.le_of_ble_eq_true rfl, Nat.le_of_ble_eq_true rfl⟩ rfl rfl (ci := 10) (q0 := 0) rfl rfl rfl hl.1 (Nat.le_of_ble_eq_true rfl) dL_word_4 ⟨Nat.le_of_ble_eq_true rfl, Nat.le_of_ble_eq_true rfl⟩ (fun ce q9 w H locs hpx hP hD hS h9 hv9 hcl => ?_) (fun r w H locs hw hP hD hS => ?_)
  · refine vx_catch C.2.2.2.1 [] ⟨0, 9, 12, 13⟩ [] (by rw [htb]; rfl) (fun z hz => by cases hz) (by decide) (by decide) (C.2.2.2.2.1 _ m_83_18) (va_Nw.use rfl hE.1.1) h9 hv9 hcl ?_
    refine lv_astore_n (lv' := [(3, .ref q9), (0, .ref (ad 0)), (1, .int x1), (2, .ref ao)]) C.1 C.2.1 dL_word_12 rfl hl (by decide) rfl (fun ls hl => ?_)
    refine lv_iconst (v := 1) C.1 C.2.1 dL_word_13 (by decide) ?_
    exact g_iret C hr hlocks hP hD hS rfl (t, o) rfl rfl (Nat.le_of_ble_eq_true rfl) (Nat.le_of_ble_eq_true rfl) dL_word_14
  · refine lv_i2l (v := r.toInt64) C.1 C.2.1 dL_word_7 rfl ?_
    refine k_lst (ws' := WX d K ad t ++ oC K ao (vp_updL o 0 r.toInt64)) (j := 0) (x' := r.toInt64) C hP hD hS (WX d K ad t).length app_at (vin (by decide)) (by decide) rfl app_set dL_word_8 (fun H locs hP hD hS => ?_)
    refine lv_goto (tgt := 15) C.1 C.2.1 dL_word_9 (by decide) ?_
    refine lv_iconst (v := 0) C.1 C.2.1 dL_word_15 (by decide) ?_
    exact g_iret C hr hlocks hP hD hS rfl (t, vp_updL o 0 r.toInt64) rfl rfl (Nat.le_of_ble_eq_true rfl) (Nat.le_of_ble_eq_true rfl) dL_word_16
set_option maxHeartbeats 4000000 in
set_option maxRecDepth 100000 in
theorem h_symbol (l : Launch) (htr : l.stackTraces = false) (D : va_G) (K : Nat → ClassId) (Z Y : Nat → Nat) (ad : Nat → Nat) (d : dSt) (t : tSt) (hok : okX t) (ao : Nat) (o : Nat → Int64) : htMet l yL_symbol cL_symbol 3 (some .int) [(0, 8, 11, 13)] (rmD 7 1 6) D K Z Y [.ref (ad 0), .ref ao] (WX d K ad t ++ oC K ao o) (QI D K (fun (r : Int32) (u : tSt × (Nat → Int64)) => okX u.1 ∧ (u.1.1 0 1).toInt = 0 ∧ u.1.1 18 2 = t.1 18 2 ∧ u.1.2.2.1 1 = t.2.2.1 1) (fun (u : tSt × (Nat → Int64)) => WX d K ad u.1 ++ oC K ao u.2)) 1 6 := by
  refine ht_met RL ⟨rfl, by decide +kernel⟩ (Nat.le_of_ble_eq_true rfl) ?_
  intro p e s m below meth c A ls C hE hZ htb hr hlocks hA hP hD hS hl
  have hl : lv_has ls 3 [(0, .ref (ad 0)), (1, .ref ao)] := hl
  refine lv_aload_n C.1 C.2.1 dL_symbol_0 rfl (lv_at hl 1 rfl) ?_
  refine lv_iconst (v := 0) C.1 C.2.1 dL_symbol_1 (by decide) ?_
  refine lv_aload_n C.1 C.2.1 dL_symbol_2 rfl (lv_at hl 0 rfl) ?_
  refine tx_Vi (As := []) (rest := [.int 0, .ref ao]) C hP hD hS hA hE hZ (T_X11_symbol l htr D K Z Y ad d t hok) (uwV m_85_18 m_85_19 m_85_20 m_1_2 m_85_21) (hdV 0 (by decide +kernel) rfl) ⟨Nat.le_of_ble_eq_true rfl, Nat.le_of_ble_eq_true rfl⟩ rfl rfl (ci := 10) (q0 := 0) rfl rfl rfl hl.1 (Nat.le_of_ble_eq_true rfl) dL_symbol_3 ⟨Nat.le_of_ble_eq_true rfl, Nat.le_of_ble_eq_true rfl⟩ (fun ce q9 w H locs hpx hP hD hS h9 hv9 hcl => ?_) (fun r w H locs hw hP hD hS => ?_)
  · refine vx_catch C.2.2.2.1 [] ⟨0, 8, 11, 13⟩ [] (by rw [htb]; rfl) (fun z hz => by cases hz) (by decide) (by decide) (C.2.2.2.2.1 _ m_83_18) (va_Nw.use rfl hE.1.1) h9 hv9 hcl ?_
    refine lv_astore_n (lv' := [(2, .ref q9), (0, .ref (ad 0)), (1, .ref ao)]) C.1 C.2.1 dL_symbol_11 rfl hl (by decide) rfl (fun ls hl => ?_)
    refine lv_iconst (v := 1) C.1 C.2.1 dL_symbol_12 (by decide) ?_
    exact g_iret C hr hlocks hP hD hS rfl (w, o) rfl ⟨hpx.1, hpx.2.2, hpx.2.1.1 18 2 rfl, hpx.2.1.2.2.1 1 rfl⟩ (Nat.le_of_ble_eq_true rfl) (Nat.le_of_ble_eq_true rfl) dL_symbol_13
  · refine lv_i2l (v := r.toInt64) C.1 C.2.1 dL_symbol_6 rfl ?_
    refine k_lst (ws' := WX d K ad w ++ oC K ao (vp_updL o 0 r.toInt64)) (j := 0) (x' := r.toInt64) C hP hD hS (WX d K ad w).length app_at (vin (by decide)) (by decide) rfl app_set dL_symbol_7 (fun H locs hP hD hS => ?_)
    refine lv_goto (tgt := 14) C.1 C.2.1 dL_symbol_8 (by decide) ?_
    refine lv_iconst (v := 0) C.1 C.2.1 dL_symbol_14 (by decide) ?_
    exact g_iret C hr hlocks hP hD hS rfl (w, vp_updL o 0 r.toInt64) rfl ⟨hw.1, hw.2.2.2.2, hw.2.1.1 18 2 rfl, hw.2.1.2.2.1 1 rfl⟩ (Nat.le_of_ble_eq_true rfl) (Nat.le_of_ble_eq_true rfl) dL_symbol_15
set_option maxHeartbeats 4000000 in
set_option maxRecDepth 100000 in
theorem h_block (l : Launch) (htr : l.stackTraces = false) (D : va_G) (K : Nat → ClassId) (Z Y : Nat → Nat) (ad : Nat → Nat) (d : dSt) (t : tSt) (hok : okX t) (hod : okD d) (x1 : Int32) (x2 : Int32) (x3 : Int32) (ao : Nat) (o : Nat → Int64) : htMet l yL_block cL_block 6 (some .int) [(0, 12, 15, 13)] (rmD 7 1 6) D K Z Y [.ref (ad 0), .int x1, .int x2, .int x3, .ref ao] (WX d K ad t ++ oC K ao o) (QI D K (fun (r : Int32) (u : tSt × (Nat → Int64)) => u.1 = t) (fun (u : tSt × (Nat → Int64)) => WX d K ad u.1 ++ oC K ao u.2)) 1 6 := by
  refine ht_met RL ⟨rfl, by decide +kernel⟩ (Nat.le_of_ble_eq_true rfl) ?_
  intro p e s m below meth c A ls C hE hZ htb hr hlocks hA hP hD hS hl
  have hl : lv_has ls 6 [(0, .ref (ad 0)), (1, .int x1), (2, .int x2), (3, .int x3), (4, .ref ao)] := hl
  refine lv_aload C.1 C.2.1 dL_block_0 (lv_at hl 4 rfl) ?_
  refine lv_iconst (v := 0) C.1 C.2.1 dL_block_2 (by decide) ?_
  refine lv_aload_n C.1 C.2.1 dL_block_3 rfl (lv_at hl 0 rfl) ?_
  refine lv_iload_n C.1 C.2.1 dL_block_4 rfl (lv_at hl 1 rfl) ?_
  refine lv_iload_n C.1 C.2.1 dL_block_5 rfl (lv_at hl 2 rfl) ?_
  refine lv_iload_n C.1 C.2.1 dL_block_6 rfl (lv_at hl 3 rfl) ?_
  refine tx_Vi (As := [.int x1, .int x2, .int x3]) (rest := [.int 0, .ref ao]) C hP hD hS hA hE hZ (T_X11_block l htr D K Z Y ad d t hok hod x1 x2 x3) (uwV m_87_13 m_87_14 m_87_15 m_1_2 m_87_16) (hdV 3 (by decide +kernel) rfl) ⟨Nat.le_of_ble_eq_true rfl, Nat.le_of_ble_eq_true rfl⟩ rfl rfl (ci := 10) (q0 := 0) rfl rfl rfl hl.1 (Nat.le_of_ble_eq_true rfl) dL_block_7 ⟨Nat.le_of_ble_eq_true rfl, Nat.le_of_ble_eq_true rfl⟩ (fun ce q9 w H locs hpx hP hD hS h9 hv9 hcl => ?_) (fun r w H locs hw hP hD hS => ?_)
  · refine vx_catch C.2.2.2.1 [] ⟨0, 12, 15, 13⟩ [] (by rw [htb]; rfl) (fun z hz => by cases hz) (by decide) (by decide) (C.2.2.2.2.1 _ m_83_18) (va_Nw.use rfl hE.1.1) h9 hv9 hcl ?_
    refine lv_astore (lv' := [(5, .ref q9), (0, .ref (ad 0)), (1, .int x1), (2, .int x2), (3, .int x3), (4, .ref ao)]) C.1 C.2.1 dL_block_15 hl (by decide) rfl (fun ls hl => ?_)
    refine lv_iconst (v := 1) C.1 C.2.1 dL_block_17 (by decide) ?_
    exact g_iret C hr hlocks hP hD hS rfl (t, o) rfl rfl (Nat.le_of_ble_eq_true rfl) (Nat.le_of_ble_eq_true rfl) dL_block_18
  · refine lv_i2l (v := r.toInt64) C.1 C.2.1 dL_block_10 rfl ?_
    refine k_lst (ws' := WX d K ad t ++ oC K ao (vp_updL o 0 r.toInt64)) (j := 0) (x' := r.toInt64) C hP hD hS (WX d K ad t).length app_at (vin (by decide)) (by decide) rfl app_set dL_block_11 (fun H locs hP hD hS => ?_)
    refine lv_goto (tgt := 19) C.1 C.2.1 dL_block_12 (by decide) ?_
    refine lv_iconst (v := 0) C.1 C.2.1 dL_block_19 (by decide) ?_
    exact g_iret C hr hlocks hP hD hS rfl (t, vp_updL o 0 r.toInt64) rfl rfl (Nat.le_of_ble_eq_true rfl) (Nat.le_of_ble_eq_true rfl) dL_block_20
