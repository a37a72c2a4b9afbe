set_option maxHeartbeats 4000000 in
set_option maxRecDepth 100000 in
theorem law_18 {p : Program} {l : Launch} (htr : l.stackTraces = false) {e : Env} {s : State} {m : MethodId} {below : List Frame} {meth : Method} {c : Code} {b L : Nat} (hL : L ≤ 384) {xs : Nat → Int32} {D : va_G} {K : Nat → ClassId} {A : Nat → Prop} {Z Y : Nat → Nat} (C : kC p s m #[Value.ref b] c cL_law RL 7 D K) (hr : meth.sig.returnType = ret) (hlocks : meth.locks = false) (hX : XX s) (hE : XR Z s) (hZ : XQ Z Y A s s.heap) (hA : ∀ q, s.heap.size ≤ q → A q) (hA2 : ∀ q, A q → s.heap.size ≤ q) (hsc : va_X b L xs s s.heap) (hb : b < s.heap.size) (hbA : ¬ A b) {ad bd : Nat → Nat} {ao : Nat} {k : Nat} (hk : k < 64) {i : Int32} (hi : i.toInt = ((6 * k : Nat) : Int)) (hiL : 6 * k + 6 ≤ L) {t : tSt} {d : dSt} {v : tSt} {o : Nat → Int64} (hp : LwP k t d v) {H : Heap} {locs : List Loc} {ls : Array Slot} (hP : va_P D vwCl (LwW K ad bd ao t d v o) H) (hD : va_D A (LwW K ad bd ao t d v o)) (hS : va_S A s.heap H locs) (hl : lv_has ls 7 [(4, .int i), (3, .ref ao), (2, .ref (bd 0)), (1, .ref (ad 0)), (0, .ref b)]) (kk : ∀ (t1 : tSt) (d1 : dSt) (v1 : tSt) (o1 : Nat → Int64) (H1 : Heap) (locs1 : List Loc) (ls1 : Array Slot), LwP (k + 1) t1 d1 v1 → va_P D vwCl (LwW K ad bd ao t1 d1 v1 o1) H1 → va_D A (LwW K ad bd ao t1 d1 v1 o1) → va_S A s.heap H1 locs1 → lv_has ls1 7 [(4, .int i), (3, .ref ao), (2, .ref (bd 0)), (1, .ref (ad 0)), (0, .ref b)] → W p l e room_1 s m #[Value.ref b] below meth c H1 locs1 (cN d1 (k + 1)) (sN d1 (k + 1)) (lw_Z below #[Value.ref b] s) (F0 m 760 ls1 [])) : W p l e room_1 s m #[Value.ref b] below meth c H locs (cN d k) (sN d k) (lw_Z below #[Value.ref b] s) (F0 m 538 ls []) := by
  have hP : va_P D vwCl (WX d K ad t ++ (WM K bd v ++ oC K ao o)) H := hP
  have hD : va_D A (WX d K ad t ++ (WM K bd v ++ oC K ao o)) := hD
  obtain ⟨p1, p2, p3, p4, p5, p6, p8⟩ := hp
  have p7 : (0 : Int) ≤ (t.1 0 1).toInt := (p1.1 0 1).1
  have p9 : ∀ i : Nat, (i : Int) < (v.1 0 2).toInt → (-128 : Int) ≤ ((v.2.2.1 1) i).toInt ∧ ((v.2.2.1 1) i).toInt ≤ 127 := fun i hi => by rw [← p8 i (by omega)]; exact p1.2.1 1 i
  refine lv_aload_n C.1 C.2.1 dL_law_538 rfl (lv_at hl 3 rfl) ?_
  refine l_rd (j := 1) C hsc hb hbA hS hL hl (k0 := 4) (k4 := 0) rfl rfl hi (by decide) (by omega) dL_law_539 dL_law_540 dL_law_542 dL_law_543 dL_law_544 ?_
  refine lv_aload_n C.1 C.2.1 dL_law_545 rfl (lv_at hl 1 rfl) ?_
  refine l_Hi (As := [.ref (ad 0), .int (xs (6 * k + 1)), .ref ao]) (rest := []) C hP hD hS hA hE hZ (h_register l htr D K Z Y ad d t p1 (xs (6 * k + 1)) ao o) m_83_14 m_83_15 m_83_16 m_83_17 (hdS 3 (by decide +kernel) rfl) ⟨Nat.le_of_ble_eq_true rfl, Nat.le_of_ble_eq_true rfl⟩ rfl rfl rfl hl.1 (Nat.le_of_ble_eq_true rfl) dL_law_546 (hf_k hk (Nat.le_of_ble_eq_true rfl) (Nat.le_of_ble_eq_true rfl)) (fun r1 u H locs hw hP hD hS => ?_)
  obtain ⟨t1, o1⟩ := u
  have hw : t1 = t := hw
  have hP : va_P D vwCl (WX d K ad t ++ (WM K bd v ++ oC K ao o1)) H := by rw [← hw]; exact hP
  have hD : va_D A (WX d K ad t ++ (WM K bd v ++ oC K ao o1)) := by rw [← hw]; exact hD
  refine lv_istore (lv' := [(5, .int r1), (4, .int i), (3, .ref ao), (2, .ref (bd 0)), (1, .ref (ad 0)), (0, .ref b)]) C.1 C.2.1 dL_law_549 hl (by decide) rfl (fun ls hl => ?_)
  refine lv_aload_n C.1 C.2.1 dL_law_551 rfl (lv_at hl 3 rfl) ?_
  refine l_rd (j := 1) C hsc hb hbA hS hL hl (k0 := 5) (k4 := 1) rfl rfl hi (by decide) (by omega) dL_law_552 dL_law_553 dL_law_555 dL_law_556 dL_law_557 ?_
  refine r_Vi (As := [.int (xs (6 * k + 1))]) (rest := []) C hP hD hS hA (T_X12_register l D K Z Y bd v p3 (xs (6 * k + 1))) hE hZ (uwV m_84_9 m_84_10 m_84_11 m_1_5 m_84_12) (hdV 1 (by decide +kernel) rfl) ⟨Nat.le_of_ble_eq_true rfl, Nat.le_of_ble_eq_true rfl⟩ rfl rfl (ci := 11) (q0 := 0) rfl rfl rfl hl.1 (Nat.le_of_ble_eq_true rfl) dL_law_558 (hf_c hk) (fun r2 v2 H locs hw hP hD hS => ?_)
  obtain ⟨g2_0, g2_1, g2_2, g2_3⟩ := hw
  have f2_2 : (v2.1 0 2).toInt = (v.1 0 2).toInt := ti_eq (g2_1.1 0 2 rfl)
  have w2 : v2.2.2.1 1 = v.2.2.1 1 := g2_1.2.2.1 1 rfl
  replace p3 := g2_0
  refine lv_istore (lv' := [(6, .int r2), (5, .int r1), (4, .int i), (3, .ref ao), (2, .ref (bd 0)), (1, .ref (ad 0)), (0, .ref b)]) C.1 C.2.1 dL_law_561 hl (by decide) rfl (fun ls hl => ?_)
  refine lv_goto (tgt := 760) C.1 C.2.1 dL_law_563 (by decide) ?_
  refine W.widen (cn_c) (sn_c) ?_
  exact kk t d v2 o1 _ _ _ ⟨p1, p2, p3, by omega, by omega, by omega, fun i hi => by rw [w2]; exact p8 i (by omega)⟩ hP hD hS (lv_sub hl [2, 3, 4, 5, 6] rfl)
set_option maxHeartbeats 4000000 in
set_option maxRecDepth 100000 in
theorem law_19 {p : Program} {l : Launch} (htr : l.stackTraces = false) {e : Env} {s : State} {m : MethodId} {below : List Frame} {meth : Method} {c : Code} {b L : Nat} (hL : L ≤ 384) {xs : Nat → Int32} {D : va_G} {K : Nat → ClassId} {A : Nat → Prop} {Z Y : Nat → Nat} (C : kC p s m #[Value.ref b] c cL_law RL 7 D K) (hr : meth.sig.returnType = ret) (hlocks : meth.locks = false) (hX : XX s) (hE : XR Z s) (hZ : XQ Z Y A s s.heap) (hA : ∀ q, s.heap.size ≤ q → A q) (hA2 : ∀ q, A q → s.heap.size ≤ q) (hsc : va_X b L xs s s.heap) (hb : b < s.heap.size) (hbA : ¬ A b) {ad bd : Nat → Nat} {ao : Nat} {k : Nat} (hk : k < 64) {i : Int32} (hi : i.toInt = ((6 * k : Nat) : Int)) (hiL : 6 * k + 6 ≤ L) {t : tSt} {d : dSt} {v : tSt} {o : Nat → Int64} (hp : LwP k t d v) {H : Heap} {locs : List Loc} {ls : Array Slot} (hP : va_P D vwCl (LwW K ad bd ao t d v o) H) (hD : va_D A (LwW K ad bd ao t d v o)) (hS : va_S A s.heap H locs) (hl : lv_has ls 7 [(4, .int i), (3, .ref ao), (2, .ref (bd 0)), (1, .ref (ad 0)), (0, .ref b)]) (kk : ∀ (t1 : tSt) (d1 : dSt) (v1 : tSt) (o1 : Nat → Int64) (H1 : Heap) (locs1 : List Loc) (ls1 : Array Slot), LwP (k + 1) t1 d1 v1 → va_P D vwCl (LwW K ad bd ao t1 d1 v1 o1) H1 → va_D A (LwW K ad bd ao t1 d1 v1 o1) → va_S A s.heap H1 locs1 → lv_has ls1 7 [(4, .int i), (3, .ref ao), (2, .ref (bd 0)), (1, .ref (ad 0)), (0, .ref b)] → W p l e room_1 s m #[Value.ref b] below meth c H1 locs1 (cN d1 (k + 1)) (sN d1 (k + 1)) (lw_Z below #[Value.ref b] s) (F0 m 760 ls1 [])) : W p l e room_1 s m #[Value.ref b] below meth c H locs (cN d k) (sN d k) (lw_Z below #[Value.ref b] s) (F0 m 566 ls []) := by
  have hP : va_P D vwCl (WX d K ad t ++ (WM K bd v ++ oC K ao o)) H := hP
  have hD : va_D A (WX d K ad t ++ (WM K bd v ++ oC K ao o)) := hD
  obtain ⟨p1, p2, p3, p4, p5, p6, p8⟩ := hp
  have p7 : (0 : Int) ≤ (t.1 0 1).toInt := (p1.1 0 1).1
  have p9 : ∀ i : Nat, (i : Int) < (v.1 0 2).toInt → (-128 : Int) ≤ ((v.2.2.1 1) i).toInt ∧ ((v.2.2.1 1) i).toInt ≤ 127 := fun i hi => by rw [← p8 i (by omega)]; exact p1.2.1 1 i
  refine lv_aload_n C.1 C.2.1 dL_law_566 rfl (lv_at hl 3 rfl) ?_
  refine l_rd (j := 1) C hsc hb hbA hS hL hl (k0 := 4) (k4 := 0) rfl rfl hi (by decide) (by omega) dL_law_567 dL_law_568 dL_law_570 dL_law_571 dL_law_572 ?_
  refine lv_aload_n C.1 C.2.1 dL_law_573 rfl (lv_at hl 1 rfl) ?_
  refine l_Hi (As := [.ref (ad 0), .int (xs (6 * k + 1)), .ref ao]) (rest := []) C hP hD hS hA hE hZ (h_word l htr D K Z Y ad d t p1 (xs (6 * k + 1)) ao o) m_84_17 m_84_18 m_83_16 m_84_19 (hdS 3 (by decide +kernel) rfl) ⟨Nat.le_of_ble_eq_true rfl, Nat.le_of_ble_eq_true rfl⟩ rfl rfl rfl hl.1 (Nat.le_of_ble_eq_true rfl) dL_law_574 (hf_k hk (Nat.le_of_ble_eq_true rfl) (Nat.le_of_ble_eq_true rfl)) (fun r1 u H locs hw hP hD hS => ?_)
  obtain ⟨t1, o1⟩ := u
  have hw : t1 = t := hw
  have hP : va_P D vwCl (WX d K ad t ++ (WM K bd v ++ oC K ao o1)) H := by rw [← hw]; exact hP
  have hD : va_D A (WX d K ad t ++ (WM K bd v ++ oC K ao o1)) := by rw [← hw]; exact hD
  refine lv_istore (lv' := [(5, .int r1), (4, .int i), (3, .ref ao), (2, .ref (bd 0)), (1, .ref (ad 0)), (0, .ref b)]) C.1 C.2.1 dL_law_577 hl (by decide) rfl (fun ls hl => ?_)
  refine lv_aload_n C.1 C.2.1 dL_law_579 rfl (lv_at hl 3 rfl) ?_
  refine l_rd (j := 1) C hsc hb hbA hS hL hl (k0 := 5) (k4 := 1) rfl rfl hi (by decide) (by omega) dL_law_580 dL_law_581 dL_law_583 dL_law_584 dL_law_585 ?_
  refine r_Vi (As := [.int (xs (6 * k + 1))]) (rest := []) C hP hD hS hA (T_X12_word l D K Z Y bd v p3 (xs (6 * k + 1))) hE hZ (uwV m_85_0 m_85_1 m_85_2 m_1_5 m_85_3) (hdV 1 (by decide +kernel) rfl) ⟨Nat.le_of_ble_eq_true rfl, Nat.le_of_ble_eq_true rfl⟩ rfl rfl (ci := 11) (q0 := 0) rfl rfl rfl hl.1 (Nat.le_of_ble_eq_true rfl) dL_law_586 (hf_c hk) (fun r2 v2 H locs hw hP hD hS => ?_)
  obtain ⟨g2_0, g2_1, g2_2, g2_3⟩ := hw
  have f2_2 : (v2.1 0 2).toInt = (v.1 0 2).toInt := ti_eq (g2_1.1 0 2 rfl)
  have w2 : v2.2.2.1 1 = v.2.2.1 1 := g2_1.2.2.1 1 rfl
  replace p3 := g2_0
  refine lv_istore (lv' := [(6, .int r2), (5, .int r1), (4, .int i), (3, .ref ao), (2, .ref (bd 0)), (1, .ref (ad 0)), (0, .ref b)]) C.1 C.2.1 dL_law_589 hl (by decide) rfl (fun ls hl => ?_)
  refine lv_goto (tgt := 760) C.1 C.2.1 dL_law_591 (by decide) ?_
  refine W.widen (cn_c) (sn_c) ?_
  exact kk t d v2 o1 _ _ _ ⟨p1, p2, p3, by omega, by omega, by omega, fun i hi => by rw [w2]; exact p8 i (by omega)⟩ hP hD hS (lv_sub hl [2, 3, 4, 5, 6] rfl)
set_option maxHeartbeats 4000000 in
set_option maxRecDepth 100000 in
theorem law_20 {p : Program} {l : Launch} (htr : l.stackTraces = false) {e : Env} {s : State} {m : MethodId} {below : List Frame} {meth : Method} {c : Code} {b L : Nat} (hL : L ≤ 384) {xs : Nat → Int32} {D : va_G} {K : Nat → ClassId} {A : Nat → Prop} {Z Y : Nat → Nat} (C : kC p s m #[Value.ref b] c cL_law RL 7 D K) (hr : meth.sig.returnType = ret) (hlocks : meth.locks = false) (hX : XX s) (hE : XR Z s) (hZ : XQ Z Y A s s.heap) (hA : ∀ q, s.heap.size ≤ q → A q) (hA2 : ∀ q, A q → s.heap.size ≤ q) (hsc : va_X b L xs s s.heap) (hb : b < s.heap.size) (hbA : ¬ A b) {ad bd : Nat → Nat} {ao : Nat} {k : Nat} (hk : k < 64) {i : Int32} (hi : i.toInt = ((6 * k : Nat) : Int)) (hiL : 6 * k + 6 ≤ L) {t : tSt} {d : dSt} {v : tSt} {o : Nat → Int64} (hp : LwP k t d v) {H : Heap} {locs : List Loc} {ls : Array Slot} (hP : va_P D vwCl (LwW K ad bd ao t d v o) H) (hD : va_D A (LwW K ad bd ao t d v o)) (hS : va_S A s.heap H locs) (hl : lv_has ls 7 [(4, .int i), (3, .ref ao), (2, .ref (bd 0)), (1, .ref (ad 0)), (0, .ref b)]) (kk : ∀ (t1 : tSt) (d1 : dSt) (v1 : tSt) (o1 : Nat → Int64) (H1 : Heap) (locs1 : List Loc) (ls1 : Array Slot), LwP (k + 1) t1 d1 v1 → va_P D vwCl (LwW K ad bd ao t1 d1 v1 o1) H1 → va_D A (LwW K ad bd ao t1 d1 v1 o1) → va_S A s.heap H1 locs1 → lv_has ls1 7 [(4, .int i), (3, .ref ao), (2, .ref (bd 0)), (1, .ref (ad 0)), (0, .ref b)] → W p l e room_1 s m #[Value.ref b] below meth c H1 locs1 (cN d1 (k + 1)) (sN d1 (k + 1)) (lw_Z below #[Value.ref b] s) (F0 m 760 ls1 [])) : W p l e room_1 s m #[Value.ref b] below meth c H locs (cN d k) (sN d k) (lw_Z below #[Value.ref b] s) (F0 m 594 ls []) := by
  have hP : va_P D vwCl (WX d K ad t ++ (WM K bd v ++ oC K ao o)) H := hP
  have hD : va_D A (WX d K ad t ++ (WM K bd v ++ oC K ao o)) := hD
  obtain ⟨p1, p2, p3, p4, p5, p6, p8⟩ := hp
  have p7 : (0 : Int) ≤ (t.1 0 1).toInt := (p1.1 0 1).1
  have p9 : ∀ i : Nat, (i : Int) < (v.1 0 2).toInt → (-128 : Int) ≤ ((v.2.2.1 1) i).toInt ∧ ((v.2.2.1 1) i).toInt ≤ 127 := fun i hi => by rw [← p8 i (by omega)]; exact p1.2.1 1 i
  refine lv_aload_n C.1 C.2.1 dL_law_594 rfl (lv_at hl 3 rfl) ?_
  refine f_Vl (As := []) (rest := []) C hP hD hS hA (T_X11_time l D K Z Y ad d t p1) hE hZ (uwV m_85_7 m_85_8 m_85_9 m_1_2 m_85_10) (hdV 0 (by decide +kernel) rfl) ⟨Nat.le_of_ble_eq_true rfl, Nat.le_of_ble_eq_true rfl⟩ rfl rfl (ci := 10) (q0 := 0) rfl rfl rfl hl.1 (Nat.le_of_ble_eq_true rfl) dL_law_595 (hf_k hk (Nat.le_of_ble_eq_true rfl) (Nat.le_of_ble_eq_true rfl)) (fun r1 t1 H locs hw hP hD hS => ?_)
  refine lv_pop2_2 C.1 C.2.1 dL_law_598 rfl ?_
  refine lv_aload_n C.1 C.2.1 dL_law_599 rfl (lv_at hl 2 rfl) ?_
  refine r_Vl (As := []) (rest := []) C hP hD hS hA (T_X12_time l D K Z Y bd v p3) hE hZ (uwV m_85_11 m_85_12 m_85_13 m_1_5 m_85_14) (hdV 0 (by decide +kernel) rfl) ⟨Nat.le_of_ble_eq_true rfl, Nat.le_of_ble_eq_true rfl⟩ rfl rfl (ci := 11) (q0 := 0) rfl rfl rfl hl.1 (Nat.le_of_ble_eq_true rfl) dL_law_600 (hf_b hk) (fun r2 v2 H locs hw hP hD hS => ?_)
  obtain ⟨g2_0, g2_1⟩ := hw
  have f2_2 : (v2.1 0 2).toInt = (v.1 0 2).toInt := ti_eq (g2_1.1 0 2 rfl)
  have w2 : v2.2.2.1 1 = v.2.2.1 1 := g2_1.2.2.1 1 rfl
  replace p3 := g2_0
  refine lv_pop2_2 C.1 C.2.1 dL_law_603 rfl ?_
  refine lv_goto (tgt := 760) C.1 C.2.1 dL_law_604 (by decide) ?_
  refine W.widen (cn_b) (sn_b) ?_
  exact kk t d v2 o _ _ _ ⟨p1, p2, p3, by omega, by omega, by omega, fun i hi => by rw [w2]; exact p8 i (by omega)⟩ hP hD hS (lv_sub hl [0, 1, 2, 3, 4] rfl)
set_option maxHeartbeats 4000000 in
set_option maxRecDepth 100000 in
theorem law_21 {p : Program} {l : Launch} (htr : l.stackTraces = false) {e : Env} {s : State} {m : MethodId} {below : List Frame} {meth : Method} {c : Code} {b L : Nat} (hL : L ≤ 384) {xs : Nat → Int32} {D : va_G} {K : Nat → ClassId} {A : Nat → Prop} {Z Y : Nat → Nat} (C : kC p s m #[Value.ref b] c cL_law RL 7 D K) (hr : meth.sig.returnType = ret) (hlocks : meth.locks = false) (hX : XX s) (hE : XR Z s) (hZ : XQ Z Y A s s.heap) (hA : ∀ q, s.heap.size ≤ q → A q) (hA2 : ∀ q, A q → s.heap.size ≤ q) (hsc : va_X b L xs s s.heap) (hb : b < s.heap.size) (hbA : ¬ A b) {ad bd : Nat → Nat} {ao : Nat} {k : Nat} (hk : k < 64) {i : Int32} (hi : i.toInt = ((6 * k : Nat) : Int)) (hiL : 6 * k + 6 ≤ L) {t : tSt} {d : dSt} {v : tSt} {o : Nat → Int64} (hp : LwP k t d v) {H : Heap} {locs : List Loc} {ls : Array Slot} (hP : va_P D vwCl (LwW K ad bd ao t d v o) H) (hD : va_D A (LwW K ad bd ao t d v o)) (hS : va_S A s.heap H locs) (hl : lv_has ls 7 [(4, .int i), (3, .ref ao), (2, .ref (bd 0)), (1, .ref (ad 0)), (0, .ref b)]) (kk : ∀ (t1 : tSt) (d1 : dSt) (v1 : tSt) (o1 : Nat → Int64) (H1 : Heap) (locs1 : List Loc) (ls1 : Array Slot), LwP (k + 1) t1 d1 v1 → va_P D vwCl (LwW K ad bd ao t1 d1 v1 o1) H1 → va_D A (LwW K ad bd ao t1 d1 v1 o1) → va_S A s.heap H1 locs1 → lv_has ls1 7 [(4, .int i), (3, .ref ao), (2, .ref (bd 0)), (1, .ref (ad 0)), (0, .ref b)] → W p l e room_1 s m #[Value.ref b] below meth c H1 locs1 (cN d1 (k + 1)) (sN d1 (k + 1)) (lw_Z below #[Value.ref b] s) (F0 m 760 ls1 [])) : W p l e room_1 s m #[Value.ref b] below meth c H locs (cN d k) (sN d k) (lw_Z below #[Value.ref b] s) (F0 m 607 ls []) := by
  have hP : va_P D vwCl (WX d K ad t ++ (WM K bd v ++ oC K ao o)) H := hP
  have hD : va_D A (WX d K ad t ++ (WM K bd v ++ oC K ao o)) := hD
  obtain ⟨p1, p2, p3, p4, p5, p6, p8⟩ := hp
  have p7 : (0 : Int) ≤ (t.1 0 1).toInt := (p1.1 0 1).1
  have p9 : ∀ i : Nat, (i : Int) < (v.1 0 2).toInt → (-128 : Int) ≤ ((v.2.2.1 1) i).toInt ∧ ((v.2.2.1 1) i).toInt ≤ 127 := fun i hi => by rw [← p8 i (by omega)]; exact p1.2.1 1 i
  refine lv_aload_n C.1 C.2.1 dL_law_607 rfl (lv_at hl 3 rfl) ?_
  refine lv_aload_n C.1 C.2.1 dL_law_608 rfl (lv_at hl 1 rfl) ?_
  refine l_Hi (As := [.ref (ad 0), .ref ao]) (rest := []) C hP hD hS hA hE hZ (h_symbol l htr D K Z Y ad d t p1 ao o) m_85_15 m_85_16 m_83_16 m_85_17 (hdS 2 (by decide +kernel) rfl) ⟨Nat.le_of_ble_eq_true rfl, Nat.le_of_ble_eq_true rfl⟩ rfl rfl rfl hl.1 (Nat.le_of_ble_eq_true rfl) dL_law_609 (hf_k hk (Nat.le_of_ble_eq_true rfl) (Nat.le_of_ble_eq_true rfl)) (fun r1 u H locs hw hP hD hS => ?_)
  obtain ⟨t1, o1⟩ := u
  have hw : okX t1 ∧ (t1.1 0 1).toInt = 0 ∧ t1.1 18 2 = t.1 18 2 ∧ t1.2.2.1 1 = t.2.2.1 1 := hw
  replace p1 := hw.1
  have f1_1 := hw.2.1
  have f1_2 : (t1.1 18 2).toInt = (t.1 18 2).toInt := ti_eq hw.2.2.1
  refine lv_istore (lv' := [(5, .int r1), (4, .int i), (3, .ref ao), (2, .ref (bd 0)), (1, .ref (ad 0)), (0, .ref b)]) C.1 C.2.1 dL_law_612 hl (by decide) rfl (fun ls hl => ?_)
  refine lv_aload_n C.1 C.2.1 dL_law_614 rfl (lv_at hl 3 rfl) ?_
  refine r_Vi (As := []) (rest := []) C hP hD hS hA (T_X12_symbol l D K Z Y bd v p3) hE hZ (uwV m_86_7 m_86_8 m_86_9 m_1_5 m_86_10) (hdV 0 (by decide +kernel) rfl) ⟨Nat.le_of_ble_eq_true rfl, Nat.le_of_ble_eq_true rfl⟩ rfl rfl (ci := 11) (q0 := 0) rfl rfl rfl hl.1 (Nat.le_of_ble_eq_true rfl) dL_law_615 (hf_c hk) (fun r2 v2 H locs hw hP hD hS => ?_)
  obtain ⟨g2_0, g2_1, g2_2, g2_3, g2_4⟩ := hw
  have w2 : v2.2.2.1 1 = v.2.2.1 1 := g2_1.2.2.1 1 rfl
  replace p3 := g2_0
  refine lv_istore (lv' := [(6, .int r2), (5, .int r1), (4, .int i), (3, .ref ao), (2, .ref (bd 0)), (1, .ref (ad 0)), (0, .ref b)]) C.1 C.2.1 dL_law_618 hl (by decide) rfl (fun ls hl => ?_)
  refine lv_goto (tgt := 760) C.1 C.2.1 dL_law_620 (by decide) ?_
  refine W.widen (cn_c) (sn_c) ?_
  exact kk t1 d v2 o1 _ _ _ ⟨p1, p2, p3, by omega, by omega, by omega, fun i hi => by rw [hw.2.2.2, w2]; exact p8 i (by omega)⟩ hP hD hS (lv_sub hl [2, 3, 4, 5, 6] rfl)
set_option maxHeartbeats 4000000 in
set_option maxRecDepth 100000 in
theorem law_22 {p : Program} {l : Launch} (htr : l.stackTraces = false) {e : Env} {s : State} {m : MethodId} {below : List Frame} {meth : Method} {c : Code} {b L : Nat} (hL : L ≤ 384) {xs : Nat → Int32} {D : va_G} {K : Nat → ClassId} {A : Nat → Prop} {Z Y : Nat → Nat} (C : kC p s m #[Value.ref b] c cL_law RL 7 D K) (hr : meth.sig.returnType = ret) (hlocks : meth.locks = false) (hX : XX s) (hE : XR Z s) (hZ : XQ Z Y A s s.heap) (hA : ∀ q, s.heap.size ≤ q → A q) (hA2 : ∀ q, A q → s.heap.size ≤ q) (hsc : va_X b L xs s s.heap) (hb : b < s.heap.size) (hbA : ¬ A b) {ad bd : Nat → Nat} {ao : Nat} {k : Nat} (hk : k < 64) {i : Int32} (hi : i.toInt = ((6 * k : Nat) : Int)) (hiL : 6 * k + 6 ≤ L) {t : tSt} {d : dSt} {v : tSt} {o : Nat → Int64} (hp : LwP k t d v) {H : Heap} {locs : List Loc} {ls : Array Slot} (hP : va_P D vwCl (LwW K ad bd ao t d v o) H) (hD : va_D A (LwW K ad bd ao t d v o)) (hS : va_S A s.heap H locs) (hl : lv_has ls 7 [(4, .int i), (3, .ref ao), (2, .ref (bd 0)), (1, .ref (ad 0)), (0, .ref b)]) (kk : ∀ (t1 : tSt) (d1 : dSt) (v1 : tSt) (o1 : Nat → Int64) (H1 : Heap) (locs1 : List Loc) (ls1 : Array Slot), LwP (k + 1) t1 d1 v1 → va_P D vwCl (LwW K ad bd ao t1 d1 v1 o1) H1 → va_D A (LwW K ad bd ao t1 d1 v1 o1) → va_S A s.heap H1 locs1 → lv_has ls1 7 [(4, .int i), (3, .ref ao), (2, .ref (bd 0)), (1, .ref (ad 0)), (0, .ref b)] → W p l e room_1 s m #[Value.ref b] below meth c H1 locs1 (cN d1 (k + 1)) (sN d1 (k + 1)) (lw_Z below #[Value.ref b] s) (F0 m 760 ls1 [])) : W p l e room_1 s m #[Value.ref b] below meth c H locs (cN d k) (sN d k) (lw_Z below #[Value.ref b] s) (F0 m 623 ls []) := by
  have hP : va_P D vwCl (WX d K ad t ++ (WM K bd v ++ oC K ao o)) H := hP
  have hD : va_D A (WX d K ad t ++ (WM K bd v ++ oC K ao o)) := hD
  obtain ⟨p1, p2, p3, p4, p5, p6, p8⟩ := hp
  have p7 : (0 : Int) ≤ (t.1 0 1).toInt := (p1.1 0 1).1
  have p9 : ∀ i : Nat, (i : Int) < (v.1 0 2).toInt → (-128 : Int) ≤ ((v.2.2.1 1) i).toInt ∧ ((v.2.2.1 1) i).toInt ≤ 127 := fun i hi => by rw [← p8 i (by omega)]; exact p1.2.1 1 i
  refine lv_aload_n C.1 C.2.1 dL_law_623 rfl (lv_at hl 3 rfl) ?_
  refine l_rd (j := 1) C hsc hb hbA hS hL hl (k0 := 4) (k4 := 0) rfl rfl hi (by decide) (by omega) dL_law_624 dL_law_625 dL_law_627 dL_law_628 dL_law_629 ?_
  refine f_Vi (As := [.int (xs (6 * k + 1))]) (rest := []) C hP hD hS hA (T_X11_unit l D K Z Y ad d t p1 (xs (6 * k + 1))) hE hZ (uwV m_86_11 m_86_12 m_86_13 m_1_2 m_86_14) (hdV 1 (by decide +kernel) rfl) ⟨Nat.le_of_ble_eq_true rfl, Nat.le_of_ble_eq_true rfl⟩ rfl rfl (ci := 10) (q0 := 0) rfl rfl rfl hl.1 (Nat.le_of_ble_eq_true rfl) dL_law_630 (hf_k hk (Nat.le_of_ble_eq_true rfl) (Nat.le_of_ble_eq_true rfl)) (fun r1 t1 H locs hw hP hD hS => ?_)
  refine lv_pop C.1 C.2.1 dL_law_633 rfl ?_
  refine lv_aload_n C.1 C.2.1 dL_law_634 rfl (lv_at hl 2 rfl) ?_
  refine l_rd (j := 1) C hsc hb hbA hS hL hl (k0 := 4) (k4 := 0) rfl rfl hi (by decide) (by omega) dL_law_635 dL_law_636 dL_law_638 dL_law_639 dL_law_640 ?_
  refine r_Vi (As := [.int (xs (6 * k + 1))]) (rest := []) C hP hD hS hA (T_X12_unit l D K Z Y bd v p3 (xs (6 * k + 1))) hE hZ (uwV m_86_18 m_86_19 m_86_20 m_1_5 m_86_21) (hdV 1 (by decide +kernel) rfl) ⟨Nat.le_of_ble_eq_true rfl, Nat.le_of_ble_eq_true rfl⟩ rfl rfl (ci := 11) (q0 := 0) rfl rfl rfl hl.1 (Nat.le_of_ble_eq_true rfl) dL_law_641 (hf_b hk) (fun r2 v2 H locs hw hP hD hS => ?_)
  obtain ⟨g2_0, g2_1, g2_2, g2_3⟩ := hw
  have f2_2 : (v2.1 0 2).toInt = (v.1 0 2).toInt := ti_eq (g2_1.1 0 2 rfl)
  have w2 : v2.2.2.1 1 = v.2.2.1 1 := g2_1.2.2.1 1 rfl
  replace p3 := g2_0
  refine lv_pop C.1 C.2.1 dL_law_644 rfl ?_
  refine lv_goto (tgt := 760) C.1 C.2.1 dL_law_645 (by decide) ?_
  refine W.widen (cn_b) (sn_b) ?_
  exact kk t d v2 o _ _ _ ⟨p1, p2, p3, by omega, by omega, by omega, fun i hi => by rw [w2]; exact p8 i (by omega)⟩ hP hD hS (lv_sub hl [0, 1, 2, 3, 4] rfl)
set_option maxHeartbeats 4000000 in
set_option maxRecDepth 100000 in
theorem law_23 {p : Program} {l : Launch} (htr : l.stackTraces = false) {e : Env} {s : State} {m : MethodId} {below : List Frame} {meth : Method} {c : Code} {b L : Nat} (hL : L ≤ 384) {xs : Nat → Int32} {D : va_G} {K : Nat → ClassId} {A : Nat → Prop} {Z Y : Nat → Nat} (C : kC p s m #[Value.ref b] c cL_law RL 7 D K) (hr : meth.sig.returnType = ret) (hlocks : meth.locks = false) (hX : XX s) (hE : XR Z s) (hZ : XQ Z Y A s s.heap) (hA : ∀ q, s.heap.size ≤ q → A q) (hA2 : ∀ q, A q → s.heap.size ≤ q) (hsc : va_X b L xs s s.heap) (hb : b < s.heap.size) (hbA : ¬ A b) {ad bd : Nat → Nat} {ao : Nat} {k : Nat} (hk : k < 64) {i : Int32} (hi : i.toInt = ((6 * k : Nat) : Int)) (hiL : 6 * k + 6 ≤ L) {t : tSt} {d : dSt} {v : tSt} {o : Nat → Int64} (hp : LwP k t d v) {H : Heap} {locs : List Loc} {ls : Array Slot} (hP : va_P D vwCl (LwW K ad bd ao t d v o) H) (hD : va_D A (LwW K ad bd ao t d v o)) (hS : va_S A s.heap H locs) (hl : lv_has ls 7 [(4, .int i), (3, .ref ao), (2, .ref (bd 0)), (1, .ref (ad 0)), (0, .ref b)]) (kk : ∀ (t1 : tSt) (d1 : dSt) (v1 : tSt) (o1 : Nat → Int64) (H1 : Heap) (locs1 : List Loc) (ls1 : Array Slot), LwP (k + 1) t1 d1 v1 → va_P D vwCl (LwW K ad bd ao t1 d1 v1 o1) H1 → va_D A (LwW K ad bd ao t1 d1 v1 o1) → va_S A s.heap H1 locs1 → lv_has ls1 7 [(4, .int i), (3, .ref ao), (2, .ref (bd 0)), (1, .ref (ad 0)), (0, .ref b)] → W p l e room_1 s m #[Value.ref b] below meth c H1 locs1 (cN d1 (k + 1)) (sN d1 (k + 1)) (lw_Z below #[Value.ref b] s) (F0 m 760 ls1 [])) : W p l e room_1 s m #[Value.ref b] below meth c H locs (cN d k) (sN d k) (lw_Z below #[Value.ref b] s) (F0 m 648 ls []) := by
  have hP : va_P D vwCl (WX d K ad t ++ (WM K bd v ++ oC K ao o)) H := hP
  have hD : va_D A (WX d K ad t ++ (WM K bd v ++ oC K ao o)) := hD
  obtain ⟨p1, p2, p3, p4, p5, p6, p8⟩ := hp
  have p7 : (0 : Int) ≤ (t.1 0 1).toInt := (p1.1 0 1).1
  have p9 : ∀ i : Nat, (i : Int) < (v.1 0 2).toInt → (-128 : Int) ≤ ((v.2.2.1 1) i).toInt ∧ ((v.2.2.1 1) i).toInt ≤ 127 := fun i hi => by rw [← p8 i (by omega)]; exact p1.2.1 1 i
  refine lv_aload_n C.1 C.2.1 dL_law_648 rfl (lv_at hl 3 rfl) ?_
  refine l_rd (j := 1) C hsc hb hbA hS hL hl (k0 := 4) (k4 := 0) rfl rfl hi (by decide) (by omega) dL_law_649 dL_law_650 dL_law_652 dL_law_653 dL_law_654 ?_
  refine l_rd (j := 2) C hsc hb hbA hS hL hl (k0 := 4) (k4 := 0) rfl rfl hi (by decide) (by omega) dL_law_655 dL_law_656 dL_law_658 dL_law_659 dL_law_660 ?_
  refine l_rd (j := 3) C hsc hb hbA hS hL hl (k0 := 4) (k4 := 0) rfl rfl hi (by decide) (by omega) dL_law_661 dL_law_662 dL_law_664 dL_law_665 dL_law_666 ?_
  refine f_Vi (As := [.int (xs (6 * k + 1)), .int (xs (6 * k + 2)), .int (xs (6 * k + 3))]) (rest := []) C hP hD hS hA (T_X11_letter l D K Z Y ad d t p1 p2 (xs (6 * k + 1)) (xs (6 * k + 2)) (xs (6 * k + 3))) hE hZ (uwV m_86_22 m_86_23 m_87_0 m_1_2 m_87_1) (hdV 3 (by decide +kernel) rfl) ⟨Nat.le_of_ble_eq_true rfl, Nat.le_of_ble_eq_true rfl⟩ rfl rfl (ci := 10) (q0 := 0) rfl rfl rfl hl.1 (Nat.le_of_ble_eq_true rfl) dL_law_667 (hf_k hk (Nat.le_of_ble_eq_true rfl) (Nat.le_of_ble_eq_true rfl)) (fun r1 t1 H locs hw hP hD hS => ?_)
  refine lv_pop C.1 C.2.1 dL_law_670 rfl ?_
  refine lv_aload_n C.1 C.2.1 dL_law_671 rfl (lv_at hl 2 rfl) ?_
  refine l_rd (j := 1) C hsc hb hbA hS hL hl (k0 := 4) (k4 := 0) rfl rfl hi (by decide) (by omega) dL_law_672 dL_law_673 dL_law_675 dL_law_676 dL_law_677 ?_
  refine l_rd (j := 2) C hsc hb hbA hS hL hl (k0 := 4) (k4 := 0) rfl rfl hi (by decide) (by omega) dL_law_678 dL_law_679 dL_law_681 dL_law_682 dL_law_683 ?_
  refine l_rd (j := 3) C hsc hb hbA hS hL hl (k0 := 4) (k4 := 0) rfl rfl hi (by decide) (by omega) dL_law_684 dL_law_685 dL_law_687 dL_law_688 dL_law_689 ?_
  refine r_Vi (As := [.int (xs (6 * k + 1)), .int (xs (6 * k + 2)), .int (xs (6 * k + 3))]) (rest := []) C hP hD hS hA (T_X12_letter l D K Z Y bd v p3 (xs (6 * k + 1)) (xs (6 * k + 2)) (xs (6 * k + 3))) hE hZ (uwV m_87_6 m_87_7 m_87_8 m_1_5 m_87_9) (hdV 3 (by decide +kernel) rfl) ⟨Nat.le_of_ble_eq_true rfl, Nat.le_of_ble_eq_true rfl⟩ rfl rfl (ci := 11) (q0 := 0) rfl rfl rfl hl.1 (Nat.le_of_ble_eq_true rfl) dL_law_690 (hf_b hk) (fun r2 v2 H locs hw hP hD hS => ?_)
  obtain ⟨g2_0, g2_1, g2_2, g2_3⟩ := hw
  have f2_2 : (v2.1 0 2).toInt = (v.1 0 2).toInt := ti_eq (g2_1.1 0 2 rfl)
  have w2 : v2.2.2.1 1 = v.2.2.1 1 := g2_1.2.2.1 1 rfl
  replace p3 := g2_0
  refine lv_pop C.1 C.2.1 dL_law_693 rfl ?_
  refine lv_goto (tgt := 760) C.1 C.2.1 dL_law_694 (by decide) ?_
  refine W.widen (cn_b) (sn_b) ?_
  exact kk t d v2 o _ _ _ ⟨p1, p2, p3, by omega, by omega, by omega, fun i hi => by rw [w2]; exact p8 i (by omega)⟩ hP hD hS (lv_sub hl [0, 1, 2, 3, 4] rfl)
set_option maxHeartbeats 4000000 in
set_option maxRecDepth 100000 in
theorem law_24 {p : Program} {l : Launch} (htr : l.stackTraces = false) {e : Env} {s : State} {m : MethodId} {below : List Frame} {meth : Method} {c : Code} {b L : Nat} (hL : L ≤ 384) {xs : Nat → Int32} {D : va_G} {K : Nat → ClassId} {A : Nat → Prop} {Z Y : Nat → Nat} (C : kC p s m #[Value.ref b] c cL_law RL 7 D K) (hr : meth.sig.returnType = ret) (hlocks : meth.locks = false) (hX : XX s) (hE : XR Z s) (hZ : XQ Z Y A s s.heap) (hA : ∀ q, s.heap.size ≤ q → A q) (hA2 : ∀ q, A q → s.heap.size ≤ q) (hsc : va_X b L xs s s.heap) (hb : b < s.heap.size) (hbA : ¬ A b) {ad bd : Nat → Nat} {ao : Nat} {k : Nat} (hk : k < 64) {i : Int32} (hi : i.toInt = ((6 * k : Nat) : Int)) (hiL : 6 * k + 6 ≤ L) {t : tSt} {d : dSt} {v : tSt} {o : Nat → Int64} (hp : LwP k t d v) {H : Heap} {locs : List Loc} {ls : Array Slot} (hP : va_P D vwCl (LwW K ad bd ao t d v o) H) (hD : va_D A (LwW K ad bd ao t d v o)) (hS : va_S A s.heap H locs) (hl : lv_has ls 7 [(4, .int i), (3, .ref ao), (2, .ref (bd 0)), (1, .ref (ad 0)), (0, .ref b)]) (kk : ∀ (t1 : tSt) (d1 : dSt) (v1 : tSt) (o1 : Nat → Int64) (H1 : Heap) (locs1 : List Loc) (ls1 : Array Slot), LwP (k + 1) t1 d1 v1 → va_P D vwCl (LwW K ad bd ao t1 d1 v1 o1) H1 → va_D A (LwW K ad bd ao t1 d1 v1 o1) → va_S A s.heap H1 locs1 → lv_has ls1 7 [(4, .int i), (3, .ref ao), (2, .ref (bd 0)), (1, .ref (ad 0)), (0, .ref b)] → W p l e room_1 s m #[Value.ref b] below meth c H1 locs1 (cN d1 (k + 1)) (sN d1 (k + 1)) (lw_Z below #[Value.ref b] s) (F0 m 760 ls1 [])) : W p l e room_1 s m #[Value.ref b] below meth c H locs (cN d k) (sN d k) (lw_Z below #[Value.ref b] s) (F0 m 697 ls []) := by
  have hP : va_P D vwCl (WX d K ad t ++ (WM K bd v ++ oC K ao o)) H := hP
  have hD : va_D A (WX d K ad t ++ (WM K bd v ++ oC K ao o)) := hD
  obtain ⟨p1, p2, p3, p4, p5, p6, p8⟩ := hp
  have p7 : (0 : Int) ≤ (t.1 0 1).toInt := (p1.1 0 1).1
  have p9 : ∀ i : Nat, (i : Int) < (v.1 0 2).toInt → (-128 : Int) ≤ ((v.2.2.1 1) i).toInt ∧ ((v.2.2.1 1) i).toInt ≤ 127 := fun i hi => by rw [← p8 i (by omega)]; exact p1.2.1 1 i
  refine lv_aload_n C.1 C.2.1 dL_law_697 rfl (lv_at hl 3 rfl) ?_
  refine l_rd (j := 1) C hsc hb hbA hS hL hl (k0 := 4) (k4 := 0) rfl rfl hi (by decide) (by omega) dL_law_698 dL_law_699 dL_law_701 dL_law_702 dL_law_703 ?_
  refine l_rd (j := 2) C hsc hb hbA hS hL hl (k0 := 4) (k4 := 0) rfl rfl hi (by decide) (by omega) dL_law_704 dL_law_705 dL_law_707 dL_law_708 dL_law_709 ?_
  refine l_rd (j := 3) C hsc hb hbA hS hL hl (k0 := 4) (k4 := 0) rfl rfl hi (by decide) (by omega) dL_law_710 dL_law_711 dL_law_713 dL_law_714 dL_law_715 ?_
  refine lv_aload_n C.1 C.2.1 dL_law_716 rfl (lv_at hl 1 rfl) ?_
  refine l_Hi (As := [.ref (ad 0), .int (xs (6 * k + 1)), .int (xs (6 * k + 2)), .int (xs (6 * k + 3)), .ref ao]) (rest := []) C hP hD hS hA hE hZ (h_block l htr D K Z Y ad d t p1 p2 (xs (6 * k + 1)) (xs (6 * k + 2)) (xs (6 * k + 3)) ao o) m_87_10 m_87_11 m_83_16 m_87_12 (hdS 5 (by decide +kernel) rfl) ⟨Nat.le_of_ble_eq_true rfl, Nat.le_of_ble_eq_true rfl⟩ rfl rfl rfl hl.1 (Nat.le_of_ble_eq_true rfl) dL_law_717 (hf_k hk (Nat.le_of_ble_eq_true rfl) (Nat.le_of_ble_eq_true rfl)) (fun r1 u H locs hw hP hD hS => ?_)
  obtain ⟨t1, o1⟩ := u
  have hw : t1 = t := hw
  have hP : va_P D vwCl (WX d K ad t ++ (WM K bd v ++ oC K ao o1)) H := by rw [← hw]; exact hP
  have hD : va_D A (WX d K ad t ++ (WM K bd v ++ oC K ao o1)) := by rw [← hw]; exact hD
  refine lv_istore (lv' := [(5, .int r1), (4, .int i), (3, .ref ao), (2, .ref (bd 0)), (1, .ref (ad 0)), (0, .ref b)]) C.1 C.2.1 dL_law_720 hl (by decide) rfl (fun ls hl => ?_)
  refine lv_aload_n C.1 C.2.1 dL_law_722 rfl (lv_at hl 3 rfl) ?_
  refine l_rd (j := 1) C hsc hb hbA hS hL hl (k0 := 5) (k4 := 1) rfl rfl hi (by decide) (by omega) dL_law_723 dL_law_724 dL_law_726 dL_law_727 dL_law_728 ?_
  refine l_rd (j := 2) C hsc hb hbA hS hL hl (k0 := 5) (k4 := 1) rfl rfl hi (by decide) (by omega) dL_law_729 dL_law_730 dL_law_732 dL_law_733 dL_law_734 ?_
  refine l_rd (j := 3) C hsc hb hbA hS hL hl (k0 := 5) (k4 := 1) rfl rfl hi (by decide) (by omega) dL_law_735 dL_law_736 dL_law_738 dL_law_739 dL_law_740 ?_
  refine r_Vi (As := [.int (xs (6 * k + 1)), .int (xs (6 * k + 2)), .int (xs (6 * k + 3))]) (rest := []) C hP hD hS hA (T_X12_block l D K Z Y bd v p3 (xs (6 * k + 1)) (xs (6 * k + 2)) (xs (6 * k + 3))) hE hZ (uwV m_87_18 m_87_19 m_87_20 m_1_5 m_87_21) (hdV 3 (by decide +kernel) rfl) ⟨Nat.le_of_ble_eq_true rfl, Nat.le_of_ble_eq_true rfl⟩ rfl rfl (ci := 11) (q0 := 0) rfl rfl rfl hl.1 (Nat.le_of_ble_eq_true rfl) dL_law_741 (hf_c hk) (fun r2 v2 H locs hw hP hD hS => ?_)
  obtain ⟨g2_0, g2_1, g2_2, g2_3⟩ := hw
  have f2_2 : (v2.1 0 2).toInt = (v.1 0 2).toInt := ti_eq (g2_1.1 0 2 rfl)
  have w2 : v2.2.2.1 1 = v.2.2.1 1 := g2_1.2.2.1 1 rfl
  replace p3 := g2_0
  refine lv_istore (lv' := [(6, .int r2), (5, .int r1), (4, .int i), (3, .ref ao), (2, .ref (bd 0)), (1, .ref (ad 0)), (0, .ref b)]) C.1 C.2.1 dL_law_744 hl (by decide) rfl (fun ls hl => ?_)
  refine lv_goto (tgt := 760) C.1 C.2.1 dL_law_746 (by decide) ?_
  refine W.widen (cn_c) (sn_c) ?_
  exact kk t d v2 o1 _ _ _ ⟨p1, p2, p3, by omega, by omega, by omega, fun i hi => by rw [w2]; exact p8 i (by omega)⟩ hP hD hS (lv_sub hl [2, 3, 4, 5, 6] rfl)
set_option maxHeartbeats 4000000 in
set_option maxRecDepth 100000 in
theorem law_25 {p : Program} {l : Launch} (htr : l.stackTraces = false) {e : Env} {s : State} {m : MethodId} {below : List Frame} {meth : Method} {c : Code} {b L : Nat} (hL : L ≤ 384) {xs : Nat → Int32} {D : va_G} {K : Nat → ClassId} {A : Nat → Prop} {Z Y : Nat → Nat} (C : kC p s m #[Value.ref b] c cL_law RL 7 D K) (hr : meth.sig.returnType = ret) (hlocks : meth.locks = false) (hX : XX s) (hE : XR Z s) (hZ : XQ Z Y A s s.heap) (hA : ∀ q, s.heap.size ≤ q → A q) (hA2 : ∀ q, A q → s.heap.size ≤ q) (hsc : va_X b L xs s s.heap) (hb : b < s.heap.size) (hbA : ¬ A b) {ad bd : Nat → Nat} {ao : Nat} {k : Nat} (hk : k < 64) {i : Int32} (hi : i.toInt = ((6 * k : Nat) : Int)) (hiL : 6 * k + 6 ≤ L) {t : tSt} {d : dSt} {v : tSt} {o : Nat → Int64} (hp : LwP k t d v) {H : Heap} {locs : List Loc} {ls : Array Slot} (hP : va_P D vwCl (LwW K ad bd ao t d v o) H) (hD : va_D A (LwW K ad bd ao t d v o)) (hS : va_S A s.heap H locs) (hl : lv_has ls 7 [(4, .int i), (3, .ref ao), (2, .ref (bd 0)), (1, .ref (ad 0)), (0, .ref b)]) (kk : ∀ (t1 : tSt) (d1 : dSt) (v1 : tSt) (o1 : Nat → Int64) (H1 : Heap) (locs1 : List Loc) (ls1 : Array Slot), LwP (k + 1) t1 d1 v1 → va_P D vwCl (LwW K ad bd ao t1 d1 v1 o1) H1 → va_D A (LwW K ad bd ao t1 d1 v1 o1) → va_S A s.heap H1 locs1 → lv_has ls1 7 [(4, .int i), (3, .ref ao), (2, .ref (bd 0)), (1, .ref (ad 0)), (0, .ref b)] → W p l e room_1 s m #[Value.ref b] below meth c H1 locs1 (cN d1 (k + 1)) (sN d1 (k + 1)) (lw_Z below #[Value.ref b] s) (F0 m 760 ls1 [])) : W p l e room_1 s m #[Value.ref b] below meth c H locs (cN d k) (sN d k) (lw_Z below #[Value.ref b] s) (F0 m 749 ls []) := by
  have hP : va_P D vwCl (WX d K ad t ++ (WM K bd v ++ oC K ao o)) H := hP
  have hD : va_D A (WX d K ad t ++ (WM K bd v ++ oC K ao o)) := hD
  obtain ⟨p1, p2, p3, p4, p5, p6, p8⟩ := hp
  have p7 : (0 : Int) ≤ (t.1 0 1).toInt := (p1.1 0 1).1
  have p9 : ∀ i : Nat, (i : Int) < (v.1 0 2).toInt → (-128 : Int) ≤ ((v.2.2.1 1) i).toInt ∧ ((v.2.2.1 1) i).toInt ≤ 127 := fun i hi => by rw [← p8 i (by omega)]; exact p1.2.1 1 i
  refine lv_aload_n C.1 C.2.1 dL_law_749 rfl (lv_at hl 3 rfl) ?_
  refine f_Vv (As := []) (rest := []) C hP hD hS hA (T_X11_tear l D K Z Y ad d t p1) hE hZ (uwV m_87_22 m_87_23 m_88_0 m_1_2 m_88_1) (hdV 0 (by decide +kernel) rfl) ⟨Nat.le_of_ble_eq_true rfl, Nat.le_of_ble_eq_true rfl⟩ rfl rfl (ci := 10) (q0 := 0) rfl rfl rfl hl.1 (Nat.le_of_ble_eq_true rfl) dL_law_750 (hf_k hk (Nat.le_of_ble_eq_true rfl) (Nat.le_of_ble_eq_true rfl)) (fun t1 H locs hw hP hD hS => ?_)
  obtain ⟨g1_0, g1_1⟩ := hw
  have f1_1 : (t1.1 0 1).toInt = (t.1 0 1).toInt := ti_eq (g1_1.1 0 1 rfl)
  have f1_2 : (t1.1 18 2).toInt = (t.1 18 2).toInt := ti_eq (g1_1.1 18 2 rfl)
  have w1 : t1.2.2.1 1 = t.2.2.1 1 := g1_1.2.2.1 1 rfl
  replace p1 := g1_0
  refine lv_aload_n C.1 C.2.1 dL_law_753 rfl (lv_at hl 2 rfl) ?_
  refine r_Vv (As := []) (rest := []) C hP hD hS hA (T_X12_tear l D K Z Y bd v p3) hE hZ (uwV m_88_5 m_88_6 m_88_7 m_1_5 m_88_8) (hdV 0 (by decide +kernel) rfl) ⟨Nat.le_of_ble_eq_true rfl, Nat.le_of_ble_eq_true rfl⟩ rfl rfl (ci := 11) (q0 := 0) rfl rfl rfl hl.1 (Nat.le_of_ble_eq_true rfl) dL_law_754 (hf_b hk) (fun v2 H locs hw hP hD hS => ?_)
  obtain ⟨g2_0, g2_1⟩ := hw
  have f2_2 : (v2.1 0 2).toInt = (v.1 0 2).toInt := ti_eq (g2_1.1 0 2 rfl)
  have w2 : v2.2.2.1 1 = v.2.2.1 1 := g2_1.2.2.1 1 rfl
  replace p3 := g2_0
  refine lv_goto (tgt := 760) C.1 C.2.1 dL_law_757 (by decide) ?_
  refine W.widen (cn_b) (sn_b) ?_
  exact kk t1 d v2 o _ _ _ ⟨p1, p2, p3, by omega, by omega, by omega, fun i hi => by rw [w1, w2]; exact p8 i (by omega)⟩ hP hD hS (lv_sub hl [0, 1, 2, 3, 4] rfl)
