set_option maxHeartbeats 4000000 in
set_option maxRecDepth 100000 in
theorem law_9 {p : Program} {l : Launch} (htr : l.stackTraces = false) {e : Env} {s : State} {m : MethodId} {below : List Frame} {meth : Method} {c : Code} {b L : Nat} (hL : L ≤ 384) {xs : Nat → Int32} {D : va_G} {K : Nat → ClassId} {A : Nat → Prop} {Z Y : Nat → Nat} (C : kC p s m #[Value.ref b] c cL_law RL 7 D K) (hr : meth.sig.returnType = ret) (hlocks : meth.locks = false) (hX : XX s) (hE : XR Z s) (hZ : XQ Z Y A s s.heap) (hA : ∀ q, s.heap.size ≤ q → A q) (hA2 : ∀ q, A q → s.heap.size ≤ q) (hsc : va_X b L xs s s.heap) (hb : b < s.heap.size) (hbA : ¬ A b) {ad bd : Nat → Nat} {ao : Nat} {k : Nat} (hk : k < 64) {i : Int32} (hi : i.toInt = ((6 * k : Nat) : Int)) (hiL : 6 * k + 6 ≤ L) {t : tSt} {d : dSt} {v : tSt} {o : Nat → Int64} (hp : LwP k t d v) {H : Heap} {locs : List Loc} {ls : Array Slot} (hP : va_P D vwCl (LwW K ad bd ao t d v o) H) (hD : va_D A (LwW K ad bd ao t d v o)) (hS : va_S A s.heap H locs) (hl : lv_has ls 7 [(4, .int i), (3, .ref ao), (2, .ref (bd 0)), (1, .ref (ad 0)), (0, .ref b)]) (kk : ∀ (t1 : tSt) (d1 : dSt) (v1 : tSt) (o1 : Nat → Int64) (H1 : Heap) (locs1 : List Loc) (ls1 : Array Slot), LwP (k + 1) t1 d1 v1 → va_P D vwCl (LwW K ad bd ao t1 d1 v1 o1) H1 → va_D A (LwW K ad bd ao t1 d1 v1 o1) → va_S A s.heap H1 locs1 → lv_has ls1 7 [(4, .int i), (3, .ref ao), (2, .ref (bd 0)), (1, .ref (ad 0)), (0, .ref b)] → W p l e room_1 s m #[Value.ref b] below meth c H1 locs1 (cN d1 (k + 1)) (sN d1 (k + 1)) (lw_Z below #[Value.ref b] s) (F0 m 760 ls1 [])) : W p l e room_1 s m #[Value.ref b] below meth c H locs (cN d k) (sN d k) (lw_Z below #[Value.ref b] s) (F0 m 361 ls []) := by
  have hP : va_P D vwCl (WX d K ad t ++ (WM K bd v ++ oC K ao o)) H := hP
  have hD : va_D A (WX d K ad t ++ (WM K bd v ++ oC K ao o)) := hD
  obtain ⟨p1, p2, p3, p4, p5, p6, p8⟩ := hp
  have p7 : (0 : Int) ≤ (t.1 0 1).toInt := (p1.1 0 1).1
  have p9 : ∀ i : Nat, (i : Int) < (v.1 0 2).toInt → (-128 : Int) ≤ ((v.2.2.1 1) i).toInt ∧ ((v.2.2.1 1) i).toInt ≤ 127 := fun i hi => by rw [← p8 i (by omega)]; exact p1.2.1 1 i
  refine lv_aload_n C.1 C.2.1 dL_law_361 rfl (lv_at hl 3 rfl) ?_
  refine f_DVi (As := []) (rest := []) C hP hD hS hA (T_X11_list l D K Z Y ad d t p1 p2) hE hZ hX (uwV m_66_20 m_66_21 m_66_22 m_1_2 m_66_23) (hdV 0 (by decide +kernel) rfl) ⟨Nat.le_of_ble_eq_true rfl, Nat.le_of_ble_eq_true rfl⟩ rfl rfl (ci := 10) (q0 := 0) rfl rfl rfl hl.1 (Nat.le_of_ble_eq_true rfl) dL_law_362 (hf_k hk (Nat.le_of_ble_eq_true rfl) (Nat.le_of_ble_eq_true rfl)) (fun r1 t1 dd H locs hw hP hD hS hle => ?_)
  obtain ⟨g1_0, g1_1, g1_2, g1_3, g1_4⟩ := hw
  have f1_1 : (t1.1 0 1).toInt = (t.1 0 1).toInt := ti_eq (g1_1.1 0 1 rfl)
  have f1_2 : (t1.1 18 2).toInt = (t.1 18 2).toInt := ti_eq (g1_1.1 18 2 rfl)
  have w1 : t1.2.2.1 1 = t.2.2.1 1 := g1_1.2.2.1 1 rfl
  replace p1 := g1_0
  replace p2 := g1_2
  refine lv_pop C.1 C.2.1 dL_law_365 rfl ?_
  refine lv_aload_n C.1 C.2.1 dL_law_366 rfl (lv_at hl 2 rfl) ?_
  refine r_Vi (As := []) (rest := []) C hP hD hS hA (T_X12_list l D K Z Y bd v p3) hE hZ (uwV m_67_4 m_67_5 m_67_6 m_1_5 m_67_7) (hdV 0 (by decide +kernel) rfl) ⟨Nat.le_of_ble_eq_true rfl, Nat.le_of_ble_eq_true rfl⟩ rfl rfl (ci := 11) (q0 := 0) rfl rfl rfl hl.1 (Nat.le_of_ble_eq_true rfl) dL_law_367 (hf_a hk hle) (fun r2 v2 H locs hw hP hD hS => ?_)
  obtain ⟨g2_0, g2_1, g2_2, g2_3⟩ := hw
  have f2_2 : (v2.1 0 2).toInt = (v.1 0 2).toInt := ti_eq (g2_1.1 0 2 rfl)
  have w2 : v2.2.2.1 1 = v.2.2.1 1 := g2_1.2.2.1 1 rfl
  replace p3 := g2_0
  refine lv_pop C.1 C.2.1 dL_law_370 rfl ?_
  refine lv_goto (tgt := 760) C.1 C.2.1 dL_law_371 (by decide) ?_
  refine W.widen (cn_a hle) (sn_a hle) ?_
  exact kk t1 dd v2 o _ _ _ ⟨p1, p2, p3, by omega, by omega, by omega, fun i hi => by rw [w1, w2]; exact p8 i (by omega)⟩ hP hD hS (lv_sub hl [0, 1, 2, 3, 4] rfl)
set_option maxHeartbeats 4000000 in
set_option maxRecDepth 100000 in
theorem law_10 {p : Program} {l : Launch} (htr : l.stackTraces = false) {e : Env} {s : State} {m : MethodId} {below : List Frame} {meth : Method} {c : Code} {b L : Nat} (hL : L ≤ 384) {xs : Nat → Int32} {D : va_G} {K : Nat → ClassId} {A : Nat → Prop} {Z Y : Nat → Nat} (C : kC p s m #[Value.ref b] c cL_law RL 7 D K) (hr : meth.sig.returnType = ret) (hlocks : meth.locks = false) (hX : XX s) (hE : XR Z s) (hZ : XQ Z Y A s s.heap) (hA : ∀ q, s.heap.size ≤ q → A q) (hA2 : ∀ q, A q → s.heap.size ≤ q) (hsc : va_X b L xs s s.heap) (hb : b < s.heap.size) (hbA : ¬ A b) {ad bd : Nat → Nat} {ao : Nat} {k : Nat} (hk : k < 64) {i : Int32} (hi : i.toInt = ((6 * k : Nat) : Int)) (hiL : 6 * k + 6 ≤ L) {t : tSt} {d : dSt} {v : tSt} {o : Nat → Int64} (hp : LwP k t d v) {H : Heap} {locs : List Loc} {ls : Array Slot} (hP : va_P D vwCl (LwW K ad bd ao t d v o) H) (hD : va_D A (LwW K ad bd ao t d v o)) (hS : va_S A s.heap H locs) (hl : lv_has ls 7 [(4, .int i), (3, .ref ao), (2, .ref (bd 0)), (1, .ref (ad 0)), (0, .ref b)]) (kk : ∀ (t1 : tSt) (d1 : dSt) (v1 : tSt) (o1 : Nat → Int64) (H1 : Heap) (locs1 : List Loc) (ls1 : Array Slot), LwP (k + 1) t1 d1 v1 → va_P D vwCl (LwW K ad bd ao t1 d1 v1 o1) H1 → va_D A (LwW K ad bd ao t1 d1 v1 o1) → va_S A s.heap H1 locs1 → lv_has ls1 7 [(4, .int i), (3, .ref ao), (2, .ref (bd 0)), (1, .ref (ad 0)), (0, .ref b)] → W p l e room_1 s m #[Value.ref b] below meth c H1 locs1 (cN d1 (k + 1)) (sN d1 (k + 1)) (lw_Z below #[Value.ref b] s) (F0 m 760 ls1 [])) : W p l e room_1 s m #[Value.ref b] below meth c H locs (cN d k) (sN d k) (lw_Z below #[Value.ref b] s) (F0 m 374 ls []) := by
  have hP : va_P D vwCl (WX d K ad t ++ (WM K bd v ++ oC K ao o)) H := hP
  have hD : va_D A (WX d K ad t ++ (WM K bd v ++ oC K ao o)) := hD
  obtain ⟨p1, p2, p3, p4, p5, p6, p8⟩ := hp
  have p7 : (0 : Int) ≤ (t.1 0 1).toInt := (p1.1 0 1).1
  have p9 : ∀ i : Nat, (i : Int) < (v.1 0 2).toInt → (-128 : Int) ≤ ((v.2.2.1 1) i).toInt ∧ ((v.2.2.1 1) i).toInt ≤ 127 := fun i hi => by rw [← p8 i (by omega)]; exact p1.2.1 1 i
  refine lv_aload_n C.1 C.2.1 dL_law_374 rfl (lv_at hl 3 rfl) ?_
  refine f_DVi (As := []) (rest := []) C hP hD hS hA (T_X11_listing l D K Z Y ad d t p1 p2) hE hZ hX (uwV m_67_12 m_67_13 m_67_14 m_1_2 m_67_15) (hdV 0 (by decide +kernel) rfl) ⟨Nat.le_of_ble_eq_true rfl, Nat.le_of_ble_eq_true rfl⟩ rfl rfl (ci := 10) (q0 := 0) rfl rfl rfl hl.1 (Nat.le_of_ble_eq_true rfl) dL_law_375 (hf_k hk (Nat.le_of_ble_eq_true rfl) (Nat.le_of_ble_eq_true rfl)) (fun r1 t1 dd H locs hw hP hD hS hle => ?_)
  obtain ⟨g1_0, g1_1, g1_2, g1_3, g1_4⟩ := hw
  have f1_1 : (t1.1 0 1).toInt = (t.1 0 1).toInt := ti_eq (g1_1.1 0 1 rfl)
  have f1_2 : (t1.1 18 2).toInt = (t.1 18 2).toInt := ti_eq (g1_1.1 18 2 rfl)
  have w1 : t1.2.2.1 1 = t.2.2.1 1 := g1_1.2.2.1 1 rfl
  replace p1 := g1_0
  replace p2 := g1_2
  refine lv_pop C.1 C.2.1 dL_law_378 rfl ?_
  refine lv_aload_n C.1 C.2.1 dL_law_379 rfl (lv_at hl 2 rfl) ?_
  refine r_Vi (As := []) (rest := []) C hP hD hS hA (T_X12_listing l D K Z Y bd v p3) hE hZ (uwV m_68_3 m_68_4 m_68_5 m_1_5 m_68_6) (hdV 0 (by decide +kernel) rfl) ⟨Nat.le_of_ble_eq_true rfl, Nat.le_of_ble_eq_true rfl⟩ rfl rfl (ci := 11) (q0 := 0) rfl rfl rfl hl.1 (Nat.le_of_ble_eq_true rfl) dL_law_380 (hf_a hk hle) (fun r2 v2 H locs hw hP hD hS => ?_)
  obtain ⟨g2_0, g2_1, g2_2, g2_3⟩ := hw
  have f2_2 : (v2.1 0 2).toInt = (v.1 0 2).toInt := ti_eq (g2_1.1 0 2 rfl)
  have w2 : v2.2.2.1 1 = v.2.2.1 1 := g2_1.2.2.1 1 rfl
  replace p3 := g2_0
  refine lv_pop C.1 C.2.1 dL_law_383 rfl ?_
  refine lv_goto (tgt := 760) C.1 C.2.1 dL_law_384 (by decide) ?_
  refine W.widen (cn_a hle) (sn_a hle) ?_
  exact kk t1 dd v2 o _ _ _ ⟨p1, p2, p3, by omega, by omega, by omega, fun i hi => by rw [w1, w2]; exact p8 i (by omega)⟩ hP hD hS (lv_sub hl [0, 1, 2, 3, 4] rfl)
set_option maxHeartbeats 4000000 in
set_option maxRecDepth 100000 in
theorem law_11 {p : Program} {l : Launch} (htr : l.stackTraces = false) {e : Env} {s : State} {m : MethodId} {below : List Frame} {meth : Method} {c : Code} {b L : Nat} (hL : L ≤ 384) {xs : Nat → Int32} {D : va_G} {K : Nat → ClassId} {A : Nat → Prop} {Z Y : Nat → Nat} (C : kC p s m #[Value.ref b] c cL_law RL 7 D K) (hr : meth.sig.returnType = ret) (hlocks : meth.locks = false) (hX : XX s) (hE : XR Z s) (hZ : XQ Z Y A s s.heap) (hA : ∀ q, s.heap.size ≤ q → A q) (hA2 : ∀ q, A q → s.heap.size ≤ q) (hsc : va_X b L xs s s.heap) (hb : b < s.heap.size) (hbA : ¬ A b) {ad bd : Nat → Nat} {ao : Nat} {k : Nat} (hk : k < 64) {i : Int32} (hi : i.toInt = ((6 * k : Nat) : Int)) (hiL : 6 * k + 6 ≤ L) {t : tSt} {d : dSt} {v : tSt} {o : Nat → Int64} (hp : LwP k t d v) {H : Heap} {locs : List Loc} {ls : Array Slot} (hP : va_P D vwCl (LwW K ad bd ao t d v o) H) (hD : va_D A (LwW K ad bd ao t d v o)) (hS : va_S A s.heap H locs) (hl : lv_has ls 7 [(4, .int i), (3, .ref ao), (2, .ref (bd 0)), (1, .ref (ad 0)), (0, .ref b)]) (kk : ∀ (t1 : tSt) (d1 : dSt) (v1 : tSt) (o1 : Nat → Int64) (H1 : Heap) (locs1 : List Loc) (ls1 : Array Slot), LwP (k + 1) t1 d1 v1 → va_P D vwCl (LwW K ad bd ao t1 d1 v1 o1) H1 → va_D A (LwW K ad bd ao t1 d1 v1 o1) → va_S A s.heap H1 locs1 → lv_has ls1 7 [(4, .int i), (3, .ref ao), (2, .ref (bd 0)), (1, .ref (ad 0)), (0, .ref b)] → W p l e room_1 s m #[Value.ref b] below meth c H1 locs1 (cN d1 (k + 1)) (sN d1 (k + 1)) (lw_Z below #[Value.ref b] s) (F0 m 760 ls1 [])) : W p l e room_1 s m #[Value.ref b] below meth c H locs (cN d k) (sN d k) (lw_Z below #[Value.ref b] s) (F0 m 387 ls []) := by
  have hP : va_P D vwCl (WX d K ad t ++ (WM K bd v ++ oC K ao o)) H := hP
  have hD : va_D A (WX d K ad t ++ (WM K bd v ++ oC K ao o)) := hD
  obtain ⟨p1, p2, p3, p4, p5, p6, p8⟩ := hp
  have p7 : (0 : Int) ≤ (t.1 0 1).toInt := (p1.1 0 1).1
  have p9 : ∀ i : Nat, (i : Int) < (v.1 0 2).toInt → (-128 : Int) ≤ ((v.2.2.1 1) i).toInt ∧ ((v.2.2.1 1) i).toInt ≤ 127 := fun i hi => by rw [← p8 i (by omega)]; exact p1.2.1 1 i
  refine lv_aload_n C.1 C.2.1 dL_law_387 rfl (lv_at hl 3 rfl) ?_
  refine f_DVi (As := []) (rest := []) C hP hD hS hA (T_X11_names l D K Z Y ad d t p1 p2) hE hZ hX (uwV m_68_7 m_68_8 m_68_9 m_1_2 m_68_10) (hdV 0 (by decide +kernel) rfl) ⟨Nat.le_of_ble_eq_true rfl, Nat.le_of_ble_eq_true rfl⟩ rfl rfl (ci := 10) (q0 := 0) rfl rfl rfl hl.1 (Nat.le_of_ble_eq_true rfl) dL_law_388 (hf_k hk (Nat.le_of_ble_eq_true rfl) (Nat.le_of_ble_eq_true rfl)) (fun r1 t1 dd H locs hw hP hD hS hle => ?_)
  obtain ⟨g1_0, g1_1, g1_2, g1_3, g1_4⟩ := hw
  have f1_1 : (t1.1 0 1).toInt = (t.1 0 1).toInt := ti_eq (g1_1.1 0 1 rfl)
  have f1_2 : (t1.1 18 2).toInt = (t.1 18 2).toInt := ti_eq (g1_1.1 18 2 rfl)
  have w1 : t1.2.2.1 1 = t.2.2.1 1 := g1_1.2.2.1 1 rfl
  replace p1 := g1_0
  replace p2 := g1_2
  refine lv_pop C.1 C.2.1 dL_law_391 rfl ?_
  refine lv_aload_n C.1 C.2.1 dL_law_392 rfl (lv_at hl 2 rfl) ?_
  refine r_Vi (As := []) (rest := []) C hP hD hS hA (T_X12_names l D K Z Y bd v p3) hE hZ (uwV m_69_16 m_69_17 m_69_18 m_1_5 m_69_19) (hdV 0 (by decide +kernel) rfl) ⟨Nat.le_of_ble_eq_true rfl, Nat.le_of_ble_eq_true rfl⟩ rfl rfl (ci := 11) (q0 := 0) rfl rfl rfl hl.1 (Nat.le_of_ble_eq_true rfl) dL_law_393 (hf_a hk hle) (fun r2 v2 H locs hw hP hD hS => ?_)
  obtain ⟨g2_0, g2_1, g2_2, g2_3⟩ := hw
  have f2_2 : (v2.1 0 2).toInt = (v.1 0 2).toInt := ti_eq (g2_1.1 0 2 rfl)
  have w2 : v2.2.2.1 1 = v.2.2.1 1 := g2_1.2.2.1 1 rfl
  replace p3 := g2_0
  refine lv_pop C.1 C.2.1 dL_law_396 rfl ?_
  refine lv_goto (tgt := 760) C.1 C.2.1 dL_law_397 (by decide) ?_
  refine W.widen (cn_a hle) (sn_a hle) ?_
  exact kk t1 dd v2 o _ _ _ ⟨p1, p2, p3, by omega, by omega, by omega, fun i hi => by rw [w1, w2]; exact p8 i (by omega)⟩ hP hD hS (lv_sub hl [0, 1, 2, 3, 4] rfl)
set_option maxHeartbeats 4000000 in
set_option maxRecDepth 100000 in
theorem law_12 {p : Program} {l : Launch} (htr : l.stackTraces = false) {e : Env} {s : State} {m : MethodId} {below : List Frame} {meth : Method} {c : Code} {b L : Nat} (hL : L ≤ 384) {xs : Nat → Int32} {D : va_G} {K : Nat → ClassId} {A : Nat → Prop} {Z Y : Nat → Nat} (C : kC p s m #[Value.ref b] c cL_law RL 7 D K) (hr : meth.sig.returnType = ret) (hlocks : meth.locks = false) (hX : XX s) (hE : XR Z s) (hZ : XQ Z Y A s s.heap) (hA : ∀ q, s.heap.size ≤ q → A q) (hA2 : ∀ q, A q → s.heap.size ≤ q) (hsc : va_X b L xs s s.heap) (hb : b < s.heap.size) (hbA : ¬ A b) {ad bd : Nat → Nat} {ao : Nat} {k : Nat} (hk : k < 64) {i : Int32} (hi : i.toInt = ((6 * k : Nat) : Int)) (hiL : 6 * k + 6 ≤ L) {t : tSt} {d : dSt} {v : tSt} {o : Nat → Int64} (hp : LwP k t d v) {H : Heap} {locs : List Loc} {ls : Array Slot} (hP : va_P D vwCl (LwW K ad bd ao t d v o) H) (hD : va_D A (LwW K ad bd ao t d v o)) (hS : va_S A s.heap H locs) (hl : lv_has ls 7 [(4, .int i), (3, .ref ao), (2, .ref (bd 0)), (1, .ref (ad 0)), (0, .ref b)]) (kk : ∀ (t1 : tSt) (d1 : dSt) (v1 : tSt) (o1 : Nat → Int64) (H1 : Heap) (locs1 : List Loc) (ls1 : Array Slot), LwP (k + 1) t1 d1 v1 → va_P D vwCl (LwW K ad bd ao t1 d1 v1 o1) H1 → va_D A (LwW K ad bd ao t1 d1 v1 o1) → va_S A s.heap H1 locs1 → lv_has ls1 7 [(4, .int i), (3, .ref ao), (2, .ref (bd 0)), (1, .ref (ad 0)), (0, .ref b)] → W p l e room_1 s m #[Value.ref b] below meth c H1 locs1 (cN d1 (k + 1)) (sN d1 (k + 1)) (lw_Z below #[Value.ref b] s) (F0 m 760 ls1 [])) : W p l e room_1 s m #[Value.ref b] below meth c H locs (cN d k) (sN d k) (lw_Z below #[Value.ref b] s) (F0 m 400 ls []) := by
  have hP : va_P D vwCl (WX d K ad t ++ (WM K bd v ++ oC K ao o)) H := hP
  have hD : va_D A (WX d K ad t ++ (WM K bd v ++ oC K ao o)) := hD
  obtain ⟨p1, p2, p3, p4, p5, p6, p8⟩ := hp
  have p7 : (0 : Int) ≤ (t.1 0 1).toInt := (p1.1 0 1).1
  have p9 : ∀ i : Nat, (i : Int) < (v.1 0 2).toInt → (-128 : Int) ≤ ((v.2.2.1 1) i).toInt ∧ ((v.2.2.1 1) i).toInt ≤ 127 := fun i hi => by rw [← p8 i (by omega)]; exact p1.2.1 1 i
  refine lv_aload_n C.1 C.2.1 dL_law_400 rfl (lv_at hl 3 rfl) ?_
  refine l_rd (j := 1) C hsc hb hbA hS hL hl (k0 := 4) (k4 := 0) rfl rfl hi (by decide) (by omega) dL_law_401 dL_law_402 dL_law_404 dL_law_405 dL_law_406 ?_
  refine f_DVi (As := [.int (xs (6 * k + 1))]) (rest := []) C hP hD hS hA (T_X11_trace l D K Z Y ad d t p1 p2 (xs (6 * k + 1))) hE hZ hX (uwV m_70_8 m_70_9 m_70_10 m_1_2 m_70_11) (hdV 1 (by decide +kernel) rfl) ⟨Nat.le_of_ble_eq_true rfl, Nat.le_of_ble_eq_true rfl⟩ rfl rfl (ci := 10) (q0 := 0) rfl rfl rfl hl.1 (Nat.le_of_ble_eq_true rfl) dL_law_407 (hf_k hk (Nat.le_of_ble_eq_true rfl) (Nat.le_of_ble_eq_true rfl)) (fun r1 t1 dd H locs hw hP hD hS hle => ?_)
  obtain ⟨g1_0, g1_1, g1_2, g1_3, g1_4⟩ := hw
  have f1_1 : (t1.1 0 1).toInt = (t.1 0 1).toInt := ti_eq (g1_1.1 0 1 rfl)
  have f1_2 : (t1.1 18 2).toInt = (t.1 18 2).toInt := ti_eq (g1_1.1 18 2 rfl)
  have w1 : t1.2.2.1 1 = t.2.2.1 1 := g1_1.2.2.1 1 rfl
  replace p1 := g1_0
  replace p2 := g1_2
  refine lv_pop C.1 C.2.1 dL_law_410 rfl ?_
  refine lv_aload_n C.1 C.2.1 dL_law_411 rfl (lv_at hl 2 rfl) ?_
  refine l_rd (j := 1) C hsc hb hbA hS hL hl (k0 := 4) (k4 := 0) rfl rfl hi (by decide) (by omega) dL_law_412 dL_law_413 dL_law_415 dL_law_416 dL_law_417 ?_
  refine r_Vi (As := [.int (xs (6 * k + 1))]) (rest := []) C hP hD hS hA (T_X12_trace l D K Z Y bd v p3 (xs (6 * k + 1))) hE hZ (uwV m_70_12 m_70_13 m_70_14 m_1_5 m_70_15) (hdV 1 (by decide +kernel) rfl) ⟨Nat.le_of_ble_eq_true rfl, Nat.le_of_ble_eq_true rfl⟩ rfl rfl (ci := 11) (q0 := 0) rfl rfl rfl hl.1 (Nat.le_of_ble_eq_true rfl) dL_law_418 (hf_a hk hle) (fun r2 v2 H locs hw hP hD hS => ?_)
  obtain ⟨g2_0, g2_1, g2_2, g2_3⟩ := hw
  have f2_2 : (v2.1 0 2).toInt = (v.1 0 2).toInt := ti_eq (g2_1.1 0 2 rfl)
  have w2 : v2.2.2.1 1 = v.2.2.1 1 := g2_1.2.2.1 1 rfl
  replace p3 := g2_0
  refine lv_pop C.1 C.2.1 dL_law_421 rfl ?_
  refine lv_goto (tgt := 760) C.1 C.2.1 dL_law_422 (by decide) ?_
  refine W.widen (cn_a hle) (sn_a hle) ?_
  exact kk t1 dd v2 o _ _ _ ⟨p1, p2, p3, by omega, by omega, by omega, fun i hi => by rw [w1, w2]; exact p8 i (by omega)⟩ hP hD hS (lv_sub hl [0, 1, 2, 3, 4] rfl)
set_option maxHeartbeats 4000000 in
set_option maxRecDepth 100000 in
theorem law_13 {p : Program} {l : Launch} (htr : l.stackTraces = false) {e : Env} {s : State} {m : MethodId} {below : List Frame} {meth : Method} {c : Code} {b L : Nat} (hL : L ≤ 384) {xs : Nat → Int32} {D : va_G} {K : Nat → ClassId} {A : Nat → Prop} {Z Y : Nat → Nat} (C : kC p s m #[Value.ref b] c cL_law RL 7 D K) (hr : meth.sig.returnType = ret) (hlocks : meth.locks = false) (hX : XX s) (hE : XR Z s) (hZ : XQ Z Y A s s.heap) (hA : ∀ q, s.heap.size ≤ q → A q) (hA2 : ∀ q, A q → s.heap.size ≤ q) (hsc : va_X b L xs s s.heap) (hb : b < s.heap.size) (hbA : ¬ A b) {ad bd : Nat → Nat} {ao : Nat} {k : Nat} (hk : k < 64) {i : Int32} (hi : i.toInt = ((6 * k : Nat) : Int)) (hiL : 6 * k + 6 ≤ L) {t : tSt} {d : dSt} {v : tSt} {o : Nat → Int64} (hp : LwP k t d v) {H : Heap} {locs : List Loc} {ls : Array Slot} (hP : va_P D vwCl (LwW K ad bd ao t d v o) H) (hD : va_D A (LwW K ad bd ao t d v o)) (hS : va_S A s.heap H locs) (hl : lv_has ls 7 [(4, .int i), (3, .ref ao), (2, .ref (bd 0)), (1, .ref (ad 0)), (0, .ref b)]) (kk : ∀ (t1 : tSt) (d1 : dSt) (v1 : tSt) (o1 : Nat → Int64) (H1 : Heap) (locs1 : List Loc) (ls1 : Array Slot), LwP (k + 1) t1 d1 v1 → va_P D vwCl (LwW K ad bd ao t1 d1 v1 o1) H1 → va_D A (LwW K ad bd ao t1 d1 v1 o1) → va_S A s.heap H1 locs1 → lv_has ls1 7 [(4, .int i), (3, .ref ao), (2, .ref (bd 0)), (1, .ref (ad 0)), (0, .ref b)] → W p l e room_1 s m #[Value.ref b] below meth c H1 locs1 (cN d1 (k + 1)) (sN d1 (k + 1)) (lw_Z below #[Value.ref b] s) (F0 m 760 ls1 [])) : W p l e room_1 s m #[Value.ref b] below meth c H locs (cN d k) (sN d k) (lw_Z below #[Value.ref b] s) (F0 m 425 ls []) := by
  have hP : va_P D vwCl (WX d K ad t ++ (WM K bd v ++ oC K ao o)) H := hP
  have hD : va_D A (WX d K ad t ++ (WM K bd v ++ oC K ao o)) := hD
  obtain ⟨p1, p2, p3, p4, p5, p6, p8⟩ := hp
  have p7 : (0 : Int) ≤ (t.1 0 1).toInt := (p1.1 0 1).1
  have p9 : ∀ i : Nat, (i : Int) < (v.1 0 2).toInt → (-128 : Int) ≤ ((v.2.2.1 1) i).toInt ∧ ((v.2.2.1 1) i).toInt ≤ 127 := fun i hi => by rw [← p8 i (by omega)]; exact p1.2.1 1 i
  refine lv_aload_n C.1 C.2.1 dL_law_425 rfl (lv_at hl 3 rfl) ?_
  refine l_rd (j := 1) C hsc hb hbA hS hL hl (k0 := 4) (k4 := 0) rfl rfl hi (by decide) (by omega) dL_law_426 dL_law_427 dL_law_429 dL_law_430 dL_law_431 ?_
  refine l_rd (j := 2) C hsc hb hbA hS hL hl (k0 := 4) (k4 := 0) rfl rfl hi (by decide) (by omega) dL_law_432 dL_law_433 dL_law_435 dL_law_436 dL_law_437 ?_
  refine f_DVi (As := [.int (xs (6 * k + 1)), .int (xs (6 * k + 2))]) (rest := []) C hP hD hS hA (T_X11_mount l D K Z Y ad d t p1 p2 (xs (6 * k + 1)) (xs (6 * k + 2))) hE hZ hX (uwV m_70_16 m_70_17 m_70_18 m_1_2 m_70_19) (hdV 2 (by decide +kernel) rfl) ⟨Nat.le_of_ble_eq_true rfl, Nat.le_of_ble_eq_true rfl⟩ rfl rfl (ci := 10) (q0 := 0) rfl rfl rfl hl.1 (Nat.le_of_ble_eq_true rfl) dL_law_438 (hf_k hk (Nat.le_of_ble_eq_true rfl) (Nat.le_of_ble_eq_true rfl)) (fun r1 t1 dd H locs hw hP hD hS hle => ?_)
  obtain ⟨g1_0, g1_1, g1_2, g1_3, g1_4, g1_5⟩ := hw
  have f1_2 : (t1.1 18 2).toInt = (t.1 18 2).toInt := ti_eq (g1_1.1 18 2 rfl)
  have w1 : t1.2.2.1 1 = t.2.2.1 1 := g1_1.2.2.1 1 rfl
  replace p1 := g1_0
  replace p2 := g1_2
  refine lv_pop C.1 C.2.1 dL_law_441 rfl ?_
  refine lv_aload_n C.1 C.2.1 dL_law_442 rfl (lv_at hl 2 rfl) ?_
  refine l_rd (j := 1) C hsc hb hbA hS hL hl (k0 := 4) (k4 := 0) rfl rfl hi (by decide) (by omega) dL_law_443 dL_law_444 dL_law_446 dL_law_447 dL_law_448 ?_
  refine l_rd (j := 2) C hsc hb hbA hS hL hl (k0 := 4) (k4 := 0) rfl rfl hi (by decide) (by omega) dL_law_449 dL_law_450 dL_law_452 dL_law_453 dL_law_454 ?_
  refine r_Vi (As := [.int (xs (6 * k + 1)), .int (xs (6 * k + 2))]) (rest := []) C hP hD hS hA (T_X12_mount l D K Z Y bd v p3 (xs (6 * k + 1)) (xs (6 * k + 2))) hE hZ (uwV m_71_2 m_71_3 m_71_4 m_1_5 m_71_5) (hdV 2 (by decide +kernel) rfl) ⟨Nat.le_of_ble_eq_true rfl, Nat.le_of_ble_eq_true rfl⟩ rfl rfl (ci := 11) (q0 := 0) rfl rfl rfl hl.1 (Nat.le_of_ble_eq_true rfl) dL_law_455 (hf_a hk hle) (fun r2 v2 H locs hw hP hD hS => ?_)
  obtain ⟨g2_0, g2_1, g2_2, g2_3, g2_4⟩ := hw
  have w2 : v2.2.2.1 1 = v.2.2.1 1 := g2_1.2.2.1 1 rfl
  replace p3 := g2_0
  refine lv_pop C.1 C.2.1 dL_law_458 rfl ?_
  refine lv_goto (tgt := 760) C.1 C.2.1 dL_law_459 (by decide) ?_
  refine W.widen (cn_a hle) (sn_a hle) ?_
  exact kk t1 dd v2 o _ _ _ ⟨p1, p2, p3, by omega, by omega, by omega, fun i hi => by rw [w1, w2]; exact p8 i (by omega)⟩ hP hD hS (lv_sub hl [0, 1, 2, 3, 4] rfl)
set_option maxHeartbeats 4000000 in
set_option maxRecDepth 100000 in
theorem law_14 {p : Program} {l : Launch} (htr : l.stackTraces = false) {e : Env} {s : State} {m : MethodId} {below : List Frame} {meth : Method} {c : Code} {b L : Nat} (hL : L ≤ 384) {xs : Nat → Int32} {D : va_G} {K : Nat → ClassId} {A : Nat → Prop} {Z Y : Nat → Nat} (C : kC p s m #[Value.ref b] c cL_law RL 7 D K) (hr : meth.sig.returnType = ret) (hlocks : meth.locks = false) (hX : XX s) (hE : XR Z s) (hZ : XQ Z Y A s s.heap) (hA : ∀ q, s.heap.size ≤ q → A q) (hA2 : ∀ q, A q → s.heap.size ≤ q) (hsc : va_X b L xs s s.heap) (hb : b < s.heap.size) (hbA : ¬ A b) {ad bd : Nat → Nat} {ao : Nat} {k : Nat} (hk : k < 64) {i : Int32} (hi : i.toInt = ((6 * k : Nat) : Int)) (hiL : 6 * k + 6 ≤ L) {t : tSt} {d : dSt} {v : tSt} {o : Nat → Int64} (hp : LwP k t d v) {H : Heap} {locs : List Loc} {ls : Array Slot} (hP : va_P D vwCl (LwW K ad bd ao t d v o) H) (hD : va_D A (LwW K ad bd ao t d v o)) (hS : va_S A s.heap H locs) (hl : lv_has ls 7 [(4, .int i), (3, .ref ao), (2, .ref (bd 0)), (1, .ref (ad 0)), (0, .ref b)]) (kk : ∀ (t1 : tSt) (d1 : dSt) (v1 : tSt) (o1 : Nat → Int64) (H1 : Heap) (locs1 : List Loc) (ls1 : Array Slot), LwP (k + 1) t1 d1 v1 → va_P D vwCl (LwW K ad bd ao t1 d1 v1 o1) H1 → va_D A (LwW K ad bd ao t1 d1 v1 o1) → va_S A s.heap H1 locs1 → lv_has ls1 7 [(4, .int i), (3, .ref ao), (2, .ref (bd 0)), (1, .ref (ad 0)), (0, .ref b)] → W p l e room_1 s m #[Value.ref b] below meth c H1 locs1 (cN d1 (k + 1)) (sN d1 (k + 1)) (lw_Z below #[Value.ref b] s) (F0 m 760 ls1 [])) : W p l e room_1 s m #[Value.ref b] below meth c H locs (cN d k) (sN d k) (lw_Z below #[Value.ref b] s) (F0 m 462 ls []) := by
  have hP : va_P D vwCl (WX d K ad t ++ (WM K bd v ++ oC K ao o)) H := hP
  have hD : va_D A (WX d K ad t ++ (WM K bd v ++ oC K ao o)) := hD
  obtain ⟨p1, p2, p3, p4, p5, p6, p8⟩ := hp
  have p7 : (0 : Int) ≤ (t.1 0 1).toInt := (p1.1 0 1).1
  have p9 : ∀ i : Nat, (i : Int) < (v.1 0 2).toInt → (-128 : Int) ≤ ((v.2.2.1 1) i).toInt ∧ ((v.2.2.1 1) i).toInt ≤ 127 := fun i hi => by rw [← p8 i (by omega)]; exact p1.2.1 1 i
  refine lv_aload_n C.1 C.2.1 dL_law_462 rfl (lv_at hl 3 rfl) ?_
  refine f_DVi (As := []) (rest := []) C hP hD hS hA (U_X11_jobs l D K Z Y ad d t p1 p2) hE hZ hX (uwV m_71_6 m_71_7 m_71_8 m_1_2 m_71_9) (hdV 0 (by decide +kernel) rfl) ⟨Nat.le_of_ble_eq_true rfl, Nat.le_of_ble_eq_true rfl⟩ rfl rfl (ci := 10) (q0 := 0) rfl rfl rfl hl.1 (Nat.le_of_ble_eq_true rfl) dL_law_463 (hf_k hk (Nat.le_of_ble_eq_true rfl) (Nat.le_of_ble_eq_true rfl)) (fun r1 t1 dd H locs hw hP hD hS hle => ?_)
  obtain ⟨g1_0, g1_1, g1_2, g1_3, g1_4, g1_5, g1_6, g1_7⟩ := hw
  have w1 : t1.2.2.1 1 = t.2.2.1 1 := g1_1.2.2.1 1 rfl
  replace p1 := g1_0
  replace p2 := g1_2
  refine lv_aload_n C.1 C.2.1 dL_law_466 rfl (lv_at hl 2 rfl) ?_
  refine r_Vi (As := []) (rest := [.int r1]) C hP hD hS hA (U_X12_jobs l D K Z Y bd v p3 p9) hE hZ (uwV m_78_10 m_78_11 m_78_12 m_1_5 m_78_13) (hdV 0 (by decide +kernel) rfl) ⟨Nat.le_of_ble_eq_true rfl, Nat.le_of_ble_eq_true rfl⟩ rfl rfl (ci := 11) (q0 := 0) rfl rfl rfl hl.1 (Nat.le_of_ble_eq_true rfl) dL_law_467 (hf_a hk hle) (fun r2 v2 H locs hw hP hD hS => ?_)
  obtain ⟨g2_0, g2_1, g2_2, g2_3, g2_4, g2_5⟩ := hw
  have w2 : v2.2.2.1 1 = v.2.2.1 1 := g2_1.2.2.1 1 rfl
  have hcc : cc (t.2.2.1 1) ((t.1 0 1).toInt).toNat 0 0 = cc (v.2.2.1 1) ((v.1 0 2).toInt).toNat 0 0 := by rw [← p4]; exact cc_congr (fun i hi => p8 i (by omega))
  replace p3 := g2_0
  refine lv_icmp_eq (tgt := 760) C.1 C.2.1 dL_law_470 (by decide) (fun _ => ?_) (fun h => absurd (Int32.toInt_inj.mp (by omega)) h)
  refine W.widen (cn_a hle) (sn_a hle) ?_
  exact kk t1 dd v2 o _ _ _ ⟨p1, p2, p3, by omega, by omega, by omega, fun i hi => by rw [w1, w2]; exact p8 i (by omega)⟩ hP hD hS (lv_sub hl [0, 1, 2, 3, 4] rfl)
set_option maxHeartbeats 4000000 in
set_option maxRecDepth 100000 in
theorem law_15 {p : Program} {l : Launch} (htr : l.stackTraces = false) {e : Env} {s : State} {m : MethodId} {below : List Frame} {meth : Method} {c : Code} {b L : Nat} (hL : L ≤ 384) {xs : Nat → Int32} {D : va_G} {K : Nat → ClassId} {A : Nat → Prop} {Z Y : Nat → Nat} (C : kC p s m #[Value.ref b] c cL_law RL 7 D K) (hr : meth.sig.returnType = ret) (hlocks : meth.locks = false) (hX : XX s) (hE : XR Z s) (hZ : XQ Z Y A s s.heap) (hA : ∀ q, s.heap.size ≤ q → A q) (hA2 : ∀ q, A q → s.heap.size ≤ q) (hsc : va_X b L xs s s.heap) (hb : b < s.heap.size) (hbA : ¬ A b) {ad bd : Nat → Nat} {ao : Nat} {k : Nat} (hk : k < 64) {i : Int32} (hi : i.toInt = ((6 * k : Nat) : Int)) (hiL : 6 * k + 6 ≤ L) {t : tSt} {d : dSt} {v : tSt} {o : Nat → Int64} (hp : LwP k t d v) {H : Heap} {locs : List Loc} {ls : Array Slot} (hP : va_P D vwCl (LwW K ad bd ao t d v o) H) (hD : va_D A (LwW K ad bd ao t d v o)) (hS : va_S A s.heap H locs) (hl : lv_has ls 7 [(4, .int i), (3, .ref ao), (2, .ref (bd 0)), (1, .ref (ad 0)), (0, .ref b)]) (kk : ∀ (t1 : tSt) (d1 : dSt) (v1 : tSt) (o1 : Nat → Int64) (H1 : Heap) (locs1 : List Loc) (ls1 : Array Slot), LwP (k + 1) t1 d1 v1 → va_P D vwCl (LwW K ad bd ao t1 d1 v1 o1) H1 → va_D A (LwW K ad bd ao t1 d1 v1 o1) → va_S A s.heap H1 locs1 → lv_has ls1 7 [(4, .int i), (3, .ref ao), (2, .ref (bd 0)), (1, .ref (ad 0)), (0, .ref b)] → W p l e room_1 s m #[Value.ref b] below meth c H1 locs1 (cN d1 (k + 1)) (sN d1 (k + 1)) (lw_Z below #[Value.ref b] s) (F0 m 760 ls1 [])) : W p l e room_1 s m #[Value.ref b] below meth c H locs (cN d k) (sN d k) (lw_Z below #[Value.ref b] s) (F0 m 475 ls []) := by
  have hP : va_P D vwCl (WX d K ad t ++ (WM K bd v ++ oC K ao o)) H := hP
  have hD : va_D A (WX d K ad t ++ (WM K bd v ++ oC K ao o)) := hD
  obtain ⟨p1, p2, p3, p4, p5, p6, p8⟩ := hp
  have p7 : (0 : Int) ≤ (t.1 0 1).toInt := (p1.1 0 1).1
  have p9 : ∀ i : Nat, (i : Int) < (v.1 0 2).toInt → (-128 : Int) ≤ ((v.2.2.1 1) i).toInt ∧ ((v.2.2.1 1) i).toInt ≤ 127 := fun i hi => by rw [← p8 i (by omega)]; exact p1.2.1 1 i
  refine lv_aload_n C.1 C.2.1 dL_law_475 rfl (lv_at hl 3 rfl) ?_
  refine l_rd (j := 1) C hsc hb hbA hS hL hl (k0 := 4) (k4 := 0) rfl rfl hi (by decide) (by omega) dL_law_476 dL_law_477 dL_law_479 dL_law_480 dL_law_481 ?_
  refine l_rd (j := 2) C hsc hb hbA hS hL hl (k0 := 4) (k4 := 0) rfl rfl hi (by decide) (by omega) dL_law_482 dL_law_483 dL_law_485 dL_law_486 dL_law_487 ?_
  refine f_Vi (As := [.int (xs (6 * k + 1)), .int (xs (6 * k + 2))]) (rest := []) C hP hD hS hA (T_X11_account l D K Z Y ad d t p1 (xs (6 * k + 1)) (xs (6 * k + 2))) hE hZ (uwV m_82_7 m_82_8 m_82_9 m_1_2 m_82_10) (hdV 2 (by decide +kernel) rfl) ⟨Nat.le_of_ble_eq_true rfl, Nat.le_of_ble_eq_true rfl⟩ rfl rfl (ci := 10) (q0 := 0) rfl rfl rfl hl.1 (Nat.le_of_ble_eq_true rfl) dL_law_488 (hf_k hk (Nat.le_of_ble_eq_true rfl) (Nat.le_of_ble_eq_true rfl)) (fun r1 t1 H locs hw hP hD hS => ?_)
  refine lv_pop C.1 C.2.1 dL_law_491 rfl ?_
  refine lv_aload_n C.1 C.2.1 dL_law_492 rfl (lv_at hl 2 rfl) ?_
  refine l_rd (j := 1) C hsc hb hbA hS hL hl (k0 := 4) (k4 := 0) rfl rfl hi (by decide) (by omega) dL_law_493 dL_law_494 dL_law_496 dL_law_497 dL_law_498 ?_
  refine l_rd (j := 2) C hsc hb hbA hS hL hl (k0 := 4) (k4 := 0) rfl rfl hi (by decide) (by omega) dL_law_499 dL_law_500 dL_law_502 dL_law_503 dL_law_504 ?_
  refine r_Vi (As := [.int (xs (6 * k + 1)), .int (xs (6 * k + 2))]) (rest := []) C hP hD hS hA (T_X12_account l D K Z Y bd v p3 (xs (6 * k + 1)) (xs (6 * k + 2))) hE hZ (uwV m_82_12 m_82_13 m_82_14 m_1_5 m_82_15) (hdV 2 (by decide +kernel) rfl) ⟨Nat.le_of_ble_eq_true rfl, Nat.le_of_ble_eq_true rfl⟩ rfl rfl (ci := 11) (q0 := 0) rfl rfl rfl hl.1 (Nat.le_of_ble_eq_true rfl) dL_law_505 (hf_b hk) (fun r2 v2 H locs hw hP hD hS => ?_)
  obtain ⟨g2_0, g2_1, g2_2, g2_3⟩ := hw
  have f2_2 : (v2.1 0 2).toInt = (v.1 0 2).toInt := ti_eq (g2_1.1 0 2 rfl)
  have w2 : v2.2.2.1 1 = v.2.2.1 1 := g2_1.2.2.1 1 rfl
  replace p3 := g2_0
  refine lv_pop C.1 C.2.1 dL_law_508 rfl ?_
  refine lv_goto (tgt := 760) C.1 C.2.1 dL_law_509 (by decide) ?_
  refine W.widen (cn_b) (sn_b) ?_
  exact kk t d v2 o _ _ _ ⟨p1, p2, p3, by omega, by omega, by omega, fun i hi => by rw [w2]; exact p8 i (by omega)⟩ hP hD hS (lv_sub hl [0, 1, 2, 3, 4] rfl)
set_option maxHeartbeats 4000000 in
set_option maxRecDepth 100000 in
theorem law_16 {p : Program} {l : Launch} (htr : l.stackTraces = false) {e : Env} {s : State} {m : MethodId} {below : List Frame} {meth : Method} {c : Code} {b L : Nat} (hL : L ≤ 384) {xs : Nat → Int32} {D : va_G} {K : Nat → ClassId} {A : Nat → Prop} {Z Y : Nat → Nat} (C : kC p s m #[Value.ref b] c cL_law RL 7 D K) (hr : meth.sig.returnType = ret) (hlocks : meth.locks = false) (hX : XX s) (hE : XR Z s) (hZ : XQ Z Y A s s.heap) (hA : ∀ q, s.heap.size ≤ q → A q) (hA2 : ∀ q, A q → s.heap.size ≤ q) (hsc : va_X b L xs s s.heap) (hb : b < s.heap.size) (hbA : ¬ A b) {ad bd : Nat → Nat} {ao : Nat} {k : Nat} (hk : k < 64) {i : Int32} (hi : i.toInt = ((6 * k : Nat) : Int)) (hiL : 6 * k + 6 ≤ L) {t : tSt} {d : dSt} {v : tSt} {o : Nat → Int64} (hp : LwP k t d v) {H : Heap} {locs : List Loc} {ls : Array Slot} (hP : va_P D vwCl (LwW K ad bd ao t d v o) H) (hD : va_D A (LwW K ad bd ao t d v o)) (hS : va_S A s.heap H locs) (hl : lv_has ls 7 [(4, .int i), (3, .ref ao), (2, .ref (bd 0)), (1, .ref (ad 0)), (0, .ref b)]) (kk : ∀ (t1 : tSt) (d1 : dSt) (v1 : tSt) (o1 : Nat → Int64) (H1 : Heap) (locs1 : List Loc) (ls1 : Array Slot), LwP (k + 1) t1 d1 v1 → va_P D vwCl (LwW K ad bd ao t1 d1 v1 o1) H1 → va_D A (LwW K ad bd ao t1 d1 v1 o1) → va_S A s.heap H1 locs1 → lv_has ls1 7 [(4, .int i), (3, .ref ao), (2, .ref (bd 0)), (1, .ref (ad 0)), (0, .ref b)] → W p l e room_1 s m #[Value.ref b] below meth c H1 locs1 (cN d1 (k + 1)) (sN d1 (k + 1)) (lw_Z below #[Value.ref b] s) (F0 m 760 ls1 [])) : W p l e room_1 s m #[Value.ref b] below meth c H locs (cN d k) (sN d k) (lw_Z below #[Value.ref b] s) (F0 m 512 ls []) := by
  have hP : va_P D vwCl (WX d K ad t ++ (WM K bd v ++ oC K ao o)) H := hP
  have hD : va_D A (WX d K ad t ++ (WM K bd v ++ oC K ao o)) := hD
  obtain ⟨p1, p2, p3, p4, p5, p6, p8⟩ := hp
  have p7 : (0 : Int) ≤ (t.1 0 1).toInt := (p1.1 0 1).1
  have p9 : ∀ i : Nat, (i : Int) < (v.1 0 2).toInt → (-128 : Int) ≤ ((v.2.2.1 1) i).toInt ∧ ((v.2.2.1 1) i).toInt ≤ 127 := fun i hi => by rw [← p8 i (by omega)]; exact p1.2.1 1 i
  refine lv_aload_n C.1 C.2.1 dL_law_512 rfl (lv_at hl 3 rfl) ?_
  refine f_DVi (As := []) (rest := []) C hP hD hS hA (T_X11_summary l D K Z Y ad d t p1 p2) hE hZ hX (uwV m_82_16 m_82_17 m_82_18 m_1_2 m_82_19) (hdV 0 (by decide +kernel) rfl) ⟨Nat.le_of_ble_eq_true rfl, Nat.le_of_ble_eq_true rfl⟩ rfl rfl (ci := 10) (q0 := 0) rfl rfl rfl hl.1 (Nat.le_of_ble_eq_true rfl) dL_law_513 (hf_k hk (Nat.le_of_ble_eq_true rfl) (Nat.le_of_ble_eq_true rfl)) (fun r1 t1 dd H locs hw hP hD hS hle => ?_)
  obtain ⟨g1_0, g1_1, g1_2, g1_3, g1_4⟩ := hw
  have f1_1 : (t1.1 0 1).toInt = (t.1 0 1).toInt := ti_eq (g1_1.1 0 1 rfl)
  have f1_2 : (t1.1 18 2).toInt = (t.1 18 2).toInt := ti_eq (g1_1.1 18 2 rfl)
  have w1 : t1.2.2.1 1 = t.2.2.1 1 := g1_1.2.2.1 1 rfl
  replace p1 := g1_0
  replace p2 := g1_2
  refine lv_pop C.1 C.2.1 dL_law_516 rfl ?_
  refine lv_aload_n C.1 C.2.1 dL_law_517 rfl (lv_at hl 2 rfl) ?_
  refine r_Vi (As := []) (rest := []) C hP hD hS hA (T_X12_summary l D K Z Y bd v p3) hE hZ (uwV m_83_2 m_83_3 m_83_4 m_1_5 m_83_5) (hdV 0 (by decide +kernel) rfl) ⟨Nat.le_of_ble_eq_true rfl, Nat.le_of_ble_eq_true rfl⟩ rfl rfl (ci := 11) (q0 := 0) rfl rfl rfl hl.1 (Nat.le_of_ble_eq_true rfl) dL_law_518 (hf_a hk hle) (fun r2 v2 H locs hw hP hD hS => ?_)
  obtain ⟨g2_0, g2_1, g2_2, g2_3⟩ := hw
  have f2_2 : (v2.1 0 2).toInt = (v.1 0 2).toInt := ti_eq (g2_1.1 0 2 rfl)
  have w2 : v2.2.2.1 1 = v.2.2.1 1 := g2_1.2.2.1 1 rfl
  replace p3 := g2_0
  refine lv_pop C.1 C.2.1 dL_law_521 rfl ?_
  refine lv_goto (tgt := 760) C.1 C.2.1 dL_law_522 (by decide) ?_
  refine W.widen (cn_a hle) (sn_a hle) ?_
  exact kk t1 dd v2 o _ _ _ ⟨p1, p2, p3, by omega, by omega, by omega, fun i hi => by rw [w1, w2]; exact p8 i (by omega)⟩ hP hD hS (lv_sub hl [0, 1, 2, 3, 4] rfl)
set_option maxHeartbeats 4000000 in
set_option maxRecDepth 100000 in
theorem law_17 {p : Program} {l : Launch} (htr : l.stackTraces = false) {e : Env} {s : State} {m : MethodId} {below : List Frame} {meth : Method} {c : Code} {b L : Nat} (hL : L ≤ 384) {xs : Nat → Int32} {D : va_G} {K : Nat → ClassId} {A : Nat → Prop} {Z Y : Nat → Nat} (C : kC p s m #[Value.ref b] c cL_law RL 7 D K) (hr : meth.sig.returnType = ret) (hlocks : meth.locks = false) (hX : XX s) (hE : XR Z s) (hZ : XQ Z Y A s s.heap) (hA : ∀ q, s.heap.size ≤ q → A q) (hA2 : ∀ q, A q → s.heap.size ≤ q) (hsc : va_X b L xs s s.heap) (hb : b < s.heap.size) (hbA : ¬ A b) {ad bd : Nat → Nat} {ao : Nat} {k : Nat} (hk : k < 64) {i : Int32} (hi : i.toInt = ((6 * k : Nat) : Int)) (hiL : 6 * k + 6 ≤ L) {t : tSt} {d : dSt} {v : tSt} {o : Nat → Int64} (hp : LwP k t d v) {H : Heap} {locs : List Loc} {ls : Array Slot} (hP : va_P D vwCl (LwW K ad bd ao t d v o) H) (hD : va_D A (LwW K ad bd ao t d v o)) (hS : va_S A s.heap H locs) (hl : lv_has ls 7 [(4, .int i), (3, .ref ao), (2, .ref (bd 0)), (1, .ref (ad 0)), (0, .ref b)]) (kk : ∀ (t1 : tSt) (d1 : dSt) (v1 : tSt) (o1 : Nat → Int64) (H1 : Heap) (locs1 : List Loc) (ls1 : Array Slot), LwP (k + 1) t1 d1 v1 → va_P D vwCl (LwW K ad bd ao t1 d1 v1 o1) H1 → va_D A (LwW K ad bd ao t1 d1 v1 o1) → va_S A s.heap H1 locs1 → lv_has ls1 7 [(4, .int i), (3, .ref ao), (2, .ref (bd 0)), (1, .ref (ad 0)), (0, .ref b)] → W p l e room_1 s m #[Value.ref b] below meth c H1 locs1 (cN d1 (k + 1)) (sN d1 (k + 1)) (lw_Z below #[Value.ref b] s) (F0 m 760 ls1 [])) : W p l e room_1 s m #[Value.ref b] below meth c H locs (cN d k) (sN d k) (lw_Z below #[Value.ref b] s) (F0 m 525 ls []) := by
  have hP : va_P D vwCl (WX d K ad t ++ (WM K bd v ++ oC K ao o)) H := hP
  have hD : va_D A (WX d K ad t ++ (WM K bd v ++ oC K ao o)) := hD
  obtain ⟨p1, p2, p3, p4, p5, p6, p8⟩ := hp
  have p7 : (0 : Int) ≤ (t.1 0 1).toInt := (p1.1 0 1).1
  have p9 : ∀ i : Nat, (i : Int) < (v.1 0 2).toInt → (-128 : Int) ≤ ((v.2.2.1 1) i).toInt ∧ ((v.2.2.1 1) i).toInt ≤ 127 := fun i hi => by rw [← p8 i (by omega)]; exact p1.2.1 1 i
  refine lv_aload_n C.1 C.2.1 dL_law_525 rfl (lv_at hl 3 rfl) ?_
  refine f_Vi (As := []) (rest := []) C hP hD hS hA (T_X11_state l D K Z Y ad d t p1) hE hZ (uwV m_83_6 m_83_7 m_83_8 m_1_2 m_83_9) (hdV 0 (by decide +kernel) rfl) ⟨Nat.le_of_ble_eq_true rfl, Nat.le_of_ble_eq_true rfl⟩ rfl rfl (ci := 10) (q0 := 0) rfl rfl rfl hl.1 (Nat.le_of_ble_eq_true rfl) dL_law_526 (hf_k hk (Nat.le_of_ble_eq_true rfl) (Nat.le_of_ble_eq_true rfl)) (fun r1 t1 H locs hw hP hD hS => ?_)
  refine lv_pop C.1 C.2.1 dL_law_529 rfl ?_
  refine lv_aload_n C.1 C.2.1 dL_law_530 rfl (lv_at hl 2 rfl) ?_
  refine r_Vi (As := []) (rest := []) C hP hD hS hA (T_X12_state l D K Z Y bd v p3) hE hZ (uwV m_83_10 m_83_11 m_83_12 m_1_5 m_83_13) (hdV 0 (by decide +kernel) rfl) ⟨Nat.le_of_ble_eq_true rfl, Nat.le_of_ble_eq_true rfl⟩ rfl rfl (ci := 11) (q0 := 0) rfl rfl rfl hl.1 (Nat.le_of_ble_eq_true rfl) dL_law_531 (hf_b hk) (fun r2 v2 H locs hw hP hD hS => ?_)
  obtain ⟨g2_0, g2_1, g2_2, g2_3⟩ := hw
  have f2_2 : (v2.1 0 2).toInt = (v.1 0 2).toInt := ti_eq (g2_1.1 0 2 rfl)
  have w2 : v2.2.2.1 1 = v.2.2.1 1 := g2_1.2.2.1 1 rfl
  replace p3 := g2_0
  refine lv_pop C.1 C.2.1 dL_law_534 rfl ?_
  refine lv_goto (tgt := 760) C.1 C.2.1 dL_law_535 (by decide) ?_
  refine W.widen (cn_b) (sn_b) ?_
  exact kk t d v2 o _ _ _ ⟨p1, p2, p3, by omega, by omega, by omega, fun i hi => by rw [w2]; exact p8 i (by omega)⟩ hP hD hS (lv_sub hl [0, 1, 2, 3, 4] rfl)
