set_option maxHeartbeats 4000000 in
set_option maxRecDepth 100000 in
theorem law_0 {p : Program} {l : Launch} (htr : l.stackTraces = false) {e : Env} {s : State} {m : MethodId} {below : List Frame} {meth : Method} {c : Code} {b L : Nat} (hL : L ≤ 384) {xs : Nat → Int32} {D : va_G} {K : Nat → ClassId} {A : Nat → Prop} {Z Y : Nat → Nat} (C : kC p s m #[Value.ref b] c cL_law RL 7 D K) (hr : meth.sig.returnType = ret) (hlocks : meth.locks = false) (hX : XX s) (hE : XR Z s) (hZ : XQ Z Y A s s.heap) (hA : ∀ q, s.heap.size ≤ q → A q) (hA2 : ∀ q, A q → s.heap.size ≤ q) (hsc : va_X b L xs s s.heap) (hb : b < s.heap.size) (hbA : ¬ A b) {ad bd : Nat → Nat} {ao : Nat} {k : Nat} (hk : k < 64) {i : Int32} (hi : i.toInt = ((6 * k : Nat) : Int)) (hiL : 6 * k + 6 ≤ L) {t : tSt} {d : dSt} {v : tSt} {o : Nat → Int64} (hp : LwP k t d v) {H : Heap} {locs : List Loc} {ls : Array Slot} (hP : va_P D vwCl (LwW K ad bd ao t d v o) H) (hD : va_D A (LwW K ad bd ao t d v o)) (hS : va_S A s.heap H locs) (hl : lv_has ls 7 [(4, .int i), (3, .ref ao), (2, .ref (bd 0)), (1, .ref (ad 0)), (0, .ref b)]) (kk : ∀ (t1 : tSt) (d1 : dSt) (v1 : tSt) (o1 : Nat → Int64) (H1 : Heap) (locs1 : List Loc) (ls1 : Array Slot), LwP (k + 1) t1 d1 v1 → va_P D vwCl (LwW K ad bd ao t1 d1 v1 o1) H1 → va_D A (LwW K ad bd ao t1 d1 v1 o1) → va_S A s.heap H1 locs1 → lv_has ls1 7 [(4, .int i), (3, .ref ao), (2, .ref (bd 0)), (1, .ref (ad 0)), (0, .ref b)] → W p l e room_1 s m #[Value.ref b] below meth c H1 locs1 (cN d1 (k + 1)) (sN d1 (k + 1)) (lw_Z below #[Value.ref b] s) (F0 m 760 ls1 [])) : W p l e room_1 s m #[Value.ref b] below meth c H locs (cN d k) (sN d k) (lw_Z below #[Value.ref b] s) (F0 m 160 ls []) := by
  have hP : va_P D vwCl (WX d K ad t ++ (WM K bd v ++ oC K ao o)) H := hP
  have hD : va_D A (WX d K ad t ++ (WM K bd v ++ oC K ao o)) := hD
  obtain ⟨p1, p2, p3, p4, p5, p6, p8⟩ := hp
  have p7 : (0 : Int) ≤ (t.1 0 1).toInt := (p1.1 0 1).1
  have p9 : ∀ i : Nat, (i : Int) < (v.1 0 2).toInt → (-128 : Int) ≤ ((v.2.2.1 1) i).toInt ∧ ((v.2.2.1 1) i).toInt ≤ 127 := fun i hi => by rw [← p8 i (by omega)]; exact p1.2.1 1 i
  refine lv_aload_n C.1 C.2.1 dL_law_160 rfl (lv_at hl 3 rfl) ?_
  refine l_rd (j := 1) C hsc hb hbA hS hL hl (k0 := 4) (k4 := 0) rfl rfl hi (by decide) (by omega) dL_law_161 dL_law_162 dL_law_164 dL_law_165 dL_law_166 ?_
  refine l_rd (j := 2) C hsc hb hbA hS hL hl (k0 := 4) (k4 := 0) rfl rfl hi (by decide) (by omega) dL_law_167 dL_law_168 dL_law_170 dL_law_171 dL_law_172 ?_
  refine l_rd (j := 3) C hsc hb hbA hS hL hl (k0 := 4) (k4 := 0) rfl rfl hi (by decide) (by omega) dL_law_173 dL_law_174 dL_law_176 dL_law_177 dL_law_178 ?_
  refine l_rd (j := 4) C hsc hb hbA hS hL hl (k0 := 4) (k4 := 0) rfl rfl hi (by decide) (by omega) dL_law_179 dL_law_180 dL_law_182 dL_law_183 dL_law_184 ?_
  refine l_rd (j := 5) C hsc hb hbA hS hL hl (k0 := 4) (k4 := 0) rfl rfl hi (by decide) (by omega) dL_law_185 dL_law_186 dL_law_188 dL_law_189 dL_law_190 ?_
  refine f_Vi (As := [.int (xs (6 * k + 1)), .int (xs (6 * k + 2)), .int (xs (6 * k + 3)), .int (xs (6 * k + 4)), .int (xs (6 * k + 5))]) (rest := []) C hP hD hS hA (U_X11_feed l D K Z Y ad d t p1 (xs (6 * k + 1)) (xs (6 * k + 2)) (xs (6 * k + 3)) (xs (6 * k + 4)) (xs (6 * k + 5)) (by omega)) hE hZ (uwV m_9_5 m_9_6 m_9_7 m_1_2 m_9_8) (hdV 5 (by decide +kernel) rfl) ⟨Nat.le_of_ble_eq_true rfl, Nat.le_of_ble_eq_true rfl⟩ rfl rfl (ci := 10) (q0 := 0) rfl rfl rfl hl.1 (Nat.le_of_ble_eq_true rfl) dL_law_191 (hf_k hk (Nat.le_of_ble_eq_true rfl) (Nat.le_of_ble_eq_true rfl)) (fun r1 t1 H locs hw hP hD hS => ?_)
  obtain ⟨g1_0, g1_1, g1_2, g1_3, g1_4, g1_5, g1_6⟩ := hw
  have f1_2 : (t1.1 18 2).toInt = (t.1 18 2).toInt := ti_eq (g1_1.1 18 2 rfl)
  replace p1 := g1_0
  refine lv_pop C.1 C.2.1 dL_law_194 rfl ?_
  refine lv_aload_n C.1 C.2.1 dL_law_195 rfl (lv_at hl 2 rfl) ?_
  refine l_rd (j := 1) C hsc hb hbA hS hL hl (k0 := 4) (k4 := 0) rfl rfl hi (by decide) (by omega) dL_law_196 dL_law_197 dL_law_199 dL_law_200 dL_law_201 ?_
  refine l_rd (j := 2) C hsc hb hbA hS hL hl (k0 := 4) (k4 := 0) rfl rfl hi (by decide) (by omega) dL_law_202 dL_law_203 dL_law_205 dL_law_206 dL_law_207 ?_
  refine l_rd (j := 3) C hsc hb hbA hS hL hl (k0 := 4) (k4 := 0) rfl rfl hi (by decide) (by omega) dL_law_208 dL_law_209 dL_law_211 dL_law_212 dL_law_213 ?_
  refine l_rd (j := 4) C hsc hb hbA hS hL hl (k0 := 4) (k4 := 0) rfl rfl hi (by decide) (by omega) dL_law_214 dL_law_215 dL_law_217 dL_law_218 dL_law_219 ?_
  refine l_rd (j := 5) C hsc hb hbA hS hL hl (k0 := 4) (k4 := 0) rfl rfl hi (by decide) (by omega) dL_law_220 dL_law_221 dL_law_223 dL_law_224 dL_law_225 ?_
  refine r_Vi (As := [.int (xs (6 * k + 1)), .int (xs (6 * k + 2)), .int (xs (6 * k + 3)), .int (xs (6 * k + 4)), .int (xs (6 * k + 5))]) (rest := []) C hP hD hS hA (U_X12_feed l D K Z Y bd v p3 (xs (6 * k + 1)) (xs (6 * k + 2)) (xs (6 * k + 3)) (xs (6 * k + 4)) (xs (6 * k + 5)) (by omega)) hE hZ (uwV m_9_14 m_9_15 m_9_16 m_1_5 m_9_17) (hdV 5 (by decide +kernel) rfl) ⟨Nat.le_of_ble_eq_true rfl, Nat.le_of_ble_eq_true rfl⟩ rfl rfl (ci := 11) (q0 := 0) rfl rfl rfl hl.1 (Nat.le_of_ble_eq_true rfl) dL_law_226 (hf_b hk) (fun r2 v2 H locs hw hP hD hS => ?_)
  obtain ⟨g2_0, g2_1, g2_2, g2_3, g2_4, g2_5, g2_6⟩ := hw
  replace p3 := g2_0
  refine lv_pop C.1 C.2.1 dL_law_229 rfl ?_
  refine lv_goto (tgt := 760) C.1 C.2.1 dL_law_230 (by decide) ?_
  refine W.widen (cn_b) (sn_b) ?_
  exact kk t1 d v2 o _ _ _ ⟨p1, p2, p3, by omega, by omega, by omega, fun i hi => fd_agree p7 (g1_6 (by omega)) (by have z9 := g2_6 (by omega); rw [← p4] at z9; exact z9) p8 i (by omega)⟩ hP hD hS (lv_sub hl [0, 1, 2, 3, 4] rfl)
set_option maxHeartbeats 4000000 in
set_option maxRecDepth 100000 in
theorem law_1 {p : Program} {l : Launch} (htr : l.stackTraces = false) {e : Env} {s : State} {m : MethodId} {below : List Frame} {meth : Method} {c : Code} {b L : Nat} (hL : L ≤ 384) {xs : Nat → Int32} {D : va_G} {K : Nat → ClassId} {A : Nat → Prop} {Z Y : Nat → Nat} (C : kC p s m #[Value.ref b] c cL_law RL 7 D K) (hr : meth.sig.returnType = ret) (hlocks : meth.locks = false) (hX : XX s) (hE : XR Z s) (hZ : XQ Z Y A s s.heap) (hA : ∀ q, s.heap.size ≤ q → A q) (hA2 : ∀ q, A q → s.heap.size ≤ q) (hsc : va_X b L xs s s.heap) (hb : b < s.heap.size) (hbA : ¬ A b) {ad bd : Nat → Nat} {ao : Nat} {k : Nat} (hk : k < 64) {i : Int32} (hi : i.toInt = ((6 * k : Nat) : Int)) (hiL : 6 * k + 6 ≤ L) {t : tSt} {d : dSt} {v : tSt} {o : Nat → Int64} (hp : LwP k t d v) {H : Heap} {locs : List Loc} {ls : Array Slot} (hP : va_P D vwCl (LwW K ad bd ao t d v o) H) (hD : va_D A (LwW K ad bd ao t d v o)) (hS : va_S A s.heap H locs) (hl : lv_has ls 7 [(4, .int i), (3, .ref ao), (2, .ref (bd 0)), (1, .ref (ad 0)), (0, .ref b)]) (kk : ∀ (t1 : tSt) (d1 : dSt) (v1 : tSt) (o1 : Nat → Int64) (H1 : Heap) (locs1 : List Loc) (ls1 : Array Slot), LwP (k + 1) t1 d1 v1 → va_P D vwCl (LwW K ad bd ao t1 d1 v1 o1) H1 → va_D A (LwW K ad bd ao t1 d1 v1 o1) → va_S A s.heap H1 locs1 → lv_has ls1 7 [(4, .int i), (3, .ref ao), (2, .ref (bd 0)), (1, .ref (ad 0)), (0, .ref b)] → W p l e room_1 s m #[Value.ref b] below meth c H1 locs1 (cN d1 (k + 1)) (sN d1 (k + 1)) (lw_Z below #[Value.ref b] s) (F0 m 760 ls1 [])) : W p l e room_1 s m #[Value.ref b] below meth c H locs (cN d k) (sN d k) (lw_Z below #[Value.ref b] s) (F0 m 233 ls []) := by
  have hP : va_P D vwCl (WX d K ad t ++ (WM K bd v ++ oC K ao o)) H := hP
  have hD : va_D A (WX d K ad t ++ (WM K bd v ++ oC K ao o)) := hD
  obtain ⟨p1, p2, p3, p4, p5, p6, p8⟩ := hp
  have p7 : (0 : Int) ≤ (t.1 0 1).toInt := (p1.1 0 1).1
  have p9 : ∀ i : Nat, (i : Int) < (v.1 0 2).toInt → (-128 : Int) ≤ ((v.2.2.1 1) i).toInt ∧ ((v.2.2.1 1) i).toInt ≤ 127 := fun i hi => by rw [← p8 i (by omega)]; exact p1.2.1 1 i
  refine lv_aload_n C.1 C.2.1 dL_law_233 rfl (lv_at hl 3 rfl) ?_
  refine l_rd (j := 1) C hsc hb hbA hS hL hl (k0 := 4) (k4 := 0) rfl rfl hi (by decide) (by omega) dL_law_234 dL_law_235 dL_law_237 dL_law_238 dL_law_239 ?_
  refine f_Vi (As := [.int (xs (6 * k + 1))]) (rest := []) C hP hD hS hA (T_X11_end l D K Z Y ad d t p1 (xs (6 * k + 1))) hE hZ (uwV m_10_0 m_10_1 m_10_2 m_1_2 m_10_3) (hdV 1 (by decide +kernel) rfl) ⟨Nat.le_of_ble_eq_true rfl, Nat.le_of_ble_eq_true rfl⟩ rfl rfl (ci := 10) (q0 := 0) rfl rfl rfl hl.1 (Nat.le_of_ble_eq_true rfl) dL_law_240 (hf_k hk (Nat.le_of_ble_eq_true rfl) (Nat.le_of_ble_eq_true rfl)) (fun r1 t1 H locs hw hP hD hS => ?_)
  obtain ⟨g1_0, g1_1, g1_2, g1_3, g1_4⟩ := hw
  have f1_2 : (t1.1 18 2).toInt = (t.1 18 2).toInt := ti_eq (g1_1.1 18 2 rfl)
  have w1 : t1.2.2.1 1 = t.2.2.1 1 := g1_1.2.2.1 1 rfl
  replace p1 := g1_0
  refine lv_pop C.1 C.2.1 dL_law_243 rfl ?_
  refine lv_aload_n C.1 C.2.1 dL_law_244 rfl (lv_at hl 2 rfl) ?_
  refine l_rd (j := 1) C hsc hb hbA hS hL hl (k0 := 4) (k4 := 0) rfl rfl hi (by decide) (by omega) dL_law_245 dL_law_246 dL_law_248 dL_law_249 dL_law_250 ?_
  refine r_Vi (As := [.int (xs (6 * k + 1))]) (rest := []) C hP hD hS hA (T_X12_end l D K Z Y bd v p3 (xs (6 * k + 1))) hE hZ (uwV m_10_4 m_10_5 m_10_6 m_1_5 m_10_7) (hdV 1 (by decide +kernel) rfl) ⟨Nat.le_of_ble_eq_true rfl, Nat.le_of_ble_eq_true rfl⟩ rfl rfl (ci := 11) (q0 := 0) rfl rfl rfl hl.1 (Nat.le_of_ble_eq_true rfl) dL_law_251 (hf_b hk) (fun r2 v2 H locs hw hP hD hS => ?_)
  obtain ⟨g2_0, g2_1, g2_2, g2_3, g2_4⟩ := hw
  have w2 : v2.2.2.1 1 = v.2.2.1 1 := g2_1.2.2.1 1 rfl
  replace p3 := g2_0
  refine lv_pop C.1 C.2.1 dL_law_254 rfl ?_
  refine lv_goto (tgt := 760) C.1 C.2.1 dL_law_255 (by decide) ?_
  refine W.widen (cn_b) (sn_b) ?_
  exact kk t1 d v2 o _ _ _ ⟨p1, p2, p3, by omega, by omega, by omega, fun i hi => by rw [w1, w2]; exact p8 i (by omega)⟩ hP hD hS (lv_sub hl [0, 1, 2, 3, 4] rfl)
set_option maxHeartbeats 4000000 in
set_option maxRecDepth 100000 in
theorem law_2 {p : Program} {l : Launch} (htr : l.stackTraces = false) {e : Env} {s : State} {m : MethodId} {below : List Frame} {meth : Method} {c : Code} {b L : Nat} (hL : L ≤ 384) {xs : Nat → Int32} {D : va_G} {K : Nat → ClassId} {A : Nat → Prop} {Z Y : Nat → Nat} (C : kC p s m #[Value.ref b] c cL_law RL 7 D K) (hr : meth.sig.returnType = ret) (hlocks : meth.locks = false) (hX : XX s) (hE : XR Z s) (hZ : XQ Z Y A s s.heap) (hA : ∀ q, s.heap.size ≤ q → A q) (hA2 : ∀ q, A q → s.heap.size ≤ q) (hsc : va_X b L xs s s.heap) (hb : b < s.heap.size) (hbA : ¬ A b) {ad bd : Nat → Nat} {ao : Nat} {k : Nat} (hk : k < 64) {i : Int32} (hi : i.toInt = ((6 * k : Nat) : Int)) (hiL : 6 * k + 6 ≤ L) {t : tSt} {d : dSt} {v : tSt} {o : Nat → Int64} (hp : LwP k t d v) {H : Heap} {locs : List Loc} {ls : Array Slot} (hP : va_P D vwCl (LwW K ad bd ao t d v o) H) (hD : va_D A (LwW K ad bd ao t d v o)) (hS : va_S A s.heap H locs) (hl : lv_has ls 7 [(4, .int i), (3, .ref ao), (2, .ref (bd 0)), (1, .ref (ad 0)), (0, .ref b)]) (kk : ∀ (t1 : tSt) (d1 : dSt) (v1 : tSt) (o1 : Nat → Int64) (H1 : Heap) (locs1 : List Loc) (ls1 : Array Slot), LwP (k + 1) t1 d1 v1 → va_P D vwCl (LwW K ad bd ao t1 d1 v1 o1) H1 → va_D A (LwW K ad bd ao t1 d1 v1 o1) → va_S A s.heap H1 locs1 → lv_has ls1 7 [(4, .int i), (3, .ref ao), (2, .ref (bd 0)), (1, .ref (ad 0)), (0, .ref b)] → W p l e room_1 s m #[Value.ref b] below meth c H1 locs1 (cN d1 (k + 1)) (sN d1 (k + 1)) (lw_Z below #[Value.ref b] s) (F0 m 760 ls1 [])) : W p l e room_1 s m #[Value.ref b] below meth c H locs (cN d k) (sN d k) (lw_Z below #[Value.ref b] s) (F0 m 258 ls []) := by
  have hP : va_P D vwCl (WX d K ad t ++ (WM K bd v ++ oC K ao o)) H := hP
  have hD : va_D A (WX d K ad t ++ (WM K bd v ++ oC K ao o)) := hD
  obtain ⟨p1, p2, p3, p4, p5, p6, p8⟩ := hp
  have p7 : (0 : Int) ≤ (t.1 0 1).toInt := (p1.1 0 1).1
  have p9 : ∀ i : Nat, (i : Int) < (v.1 0 2).toInt → (-128 : Int) ≤ ((v.2.2.1 1) i).toInt ∧ ((v.2.2.1 1) i).toInt ≤ 127 := fun i hi => by rw [← p8 i (by omega)]; exact p1.2.1 1 i
  refine lv_aload_n C.1 C.2.1 dL_law_258 rfl (lv_at hl 3 rfl) ?_
  refine f_Vi (As := []) (rest := []) C hP hD hS hA (T_X11_assemble l D K Z Y ad d t p1) hE hZ (uwV m_10_8 m_10_9 m_10_10 m_1_2 m_10_11) (hdV 0 (by decide +kernel) rfl) ⟨Nat.le_of_ble_eq_true rfl, Nat.le_of_ble_eq_true rfl⟩ rfl rfl (ci := 10) (q0 := 0) rfl rfl rfl hl.1 (Nat.le_of_ble_eq_true rfl) dL_law_259 (hf_k hk (Nat.le_of_ble_eq_true rfl) (Nat.le_of_ble_eq_true rfl)) (fun r1 t1 H locs hw hP hD hS => ?_)
  obtain ⟨g1_0, g1_1, g1_2, g1_3, g1_4⟩ := hw
  have f1_2 : (t1.1 18 2).toInt = (t.1 18 2).toInt := ti_eq (g1_1.1 18 2 rfl)
  have w1 : t1.2.2.1 1 = t.2.2.1 1 := g1_1.2.2.1 1 rfl
  replace p1 := g1_0
  refine lv_pop C.1 C.2.1 dL_law_262 rfl ?_
  refine lv_aload_n C.1 C.2.1 dL_law_263 rfl (lv_at hl 2 rfl) ?_
  refine r_Vi (As := []) (rest := []) C hP hD hS hA (T_X12_assemble l D K Z Y bd v p3) hE hZ (uwV m_28_18 m_28_19 m_28_20 m_1_5 m_28_21) (hdV 0 (by decide +kernel) rfl) ⟨Nat.le_of_ble_eq_true rfl, Nat.le_of_ble_eq_true rfl⟩ rfl rfl (ci := 11) (q0 := 0) rfl rfl rfl hl.1 (Nat.le_of_ble_eq_true rfl) dL_law_264 (hf_b hk) (fun r2 v2 H locs hw hP hD hS => ?_)
  obtain ⟨g2_0, g2_1, g2_2, g2_3, g2_4⟩ := hw
  have w2 : v2.2.2.1 1 = v.2.2.1 1 := g2_1.2.2.1 1 rfl
  replace p3 := g2_0
  refine lv_pop C.1 C.2.1 dL_law_267 rfl ?_
  refine lv_goto (tgt := 760) C.1 C.2.1 dL_law_268 (by decide) ?_
  refine W.widen (cn_b) (sn_b) ?_
  exact kk t1 d v2 o _ _ _ ⟨p1, p2, p3, by omega, by omega, by omega, fun i hi => by rw [w1, w2]; exact p8 i (by omega)⟩ hP hD hS (lv_sub hl [0, 1, 2, 3, 4] rfl)
set_option maxHeartbeats 4000000 in
set_option maxRecDepth 100000 in
theorem law_3 {p : Program} {l : Launch} (htr : l.stackTraces = false) {e : Env} {s : State} {m : MethodId} {below : List Frame} {meth : Method} {c : Code} {b L : Nat} (hL : L ≤ 384) {xs : Nat → Int32} {D : va_G} {K : Nat → ClassId} {A : Nat → Prop} {Z Y : Nat → Nat} (C : kC p s m #[Value.ref b] c cL_law RL 7 D K) (hr : meth.sig.returnType = ret) (hlocks : meth.locks = false) (hX : XX s) (hE : XR Z s) (hZ : XQ Z Y A s s.heap) (hA : ∀ q, s.heap.size ≤ q → A q) (hA2 : ∀ q, A q → s.heap.size ≤ q) (hsc : va_X b L xs s s.heap) (hb : b < s.heap.size) (hbA : ¬ A b) {ad bd : Nat → Nat} {ao : Nat} {k : Nat} (hk : k < 64) {i : Int32} (hi : i.toInt = ((6 * k : Nat) : Int)) (hiL : 6 * k + 6 ≤ L) {t : tSt} {d : dSt} {v : tSt} {o : Nat → Int64} (hp : LwP k t d v) {H : Heap} {locs : List Loc} {ls : Array Slot} (hP : va_P D vwCl (LwW K ad bd ao t d v o) H) (hD : va_D A (LwW K ad bd ao t d v o)) (hS : va_S A s.heap H locs) (hl : lv_has ls 7 [(4, .int i), (3, .ref ao), (2, .ref (bd 0)), (1, .ref (ad 0)), (0, .ref b)]) (kk : ∀ (t1 : tSt) (d1 : dSt) (v1 : tSt) (o1 : Nat → Int64) (H1 : Heap) (locs1 : List Loc) (ls1 : Array Slot), LwP (k + 1) t1 d1 v1 → va_P D vwCl (LwW K ad bd ao t1 d1 v1 o1) H1 → va_D A (LwW K ad bd ao t1 d1 v1 o1) → va_S A s.heap H1 locs1 → lv_has ls1 7 [(4, .int i), (3, .ref ao), (2, .ref (bd 0)), (1, .ref (ad 0)), (0, .ref b)] → W p l e room_1 s m #[Value.ref b] below meth c H1 locs1 (cN d1 (k + 1)) (sN d1 (k + 1)) (lw_Z below #[Value.ref b] s) (F0 m 760 ls1 [])) : W p l e room_1 s m #[Value.ref b] below meth c H locs (cN d k) (sN d k) (lw_Z below #[Value.ref b] s) (F0 m 271 ls []) := by
  have hP : va_P D vwCl (WX d K ad t ++ (WM K bd v ++ oC K ao o)) H := hP
  have hD : va_D A (WX d K ad t ++ (WM K bd v ++ oC K ao o)) := hD
  obtain ⟨p1, p2, p3, p4, p5, p6, p8⟩ := hp
  have p7 : (0 : Int) ≤ (t.1 0 1).toInt := (p1.1 0 1).1
  have p9 : ∀ i : Nat, (i : Int) < (v.1 0 2).toInt → (-128 : Int) ≤ ((v.2.2.1 1) i).toInt ∧ ((v.2.2.1 1) i).toInt ≤ 127 := fun i hi => by rw [← p8 i (by omega)]; exact p1.2.1 1 i
  refine lv_aload_n C.1 C.2.1 dL_law_271 rfl (lv_at hl 3 rfl) ?_
  refine f_DVi (As := []) (rest := []) C hP hD hS hA (T_X11_errors l D K Z Y ad d t p1 p2) hE hZ hX (uwV m_40_5 m_40_6 m_40_7 m_1_2 m_40_8) (hdV 0 (by decide +kernel) rfl) ⟨Nat.le_of_ble_eq_true rfl, Nat.le_of_ble_eq_true rfl⟩ rfl rfl (ci := 10) (q0 := 0) rfl rfl rfl hl.1 (Nat.le_of_ble_eq_true rfl) dL_law_272 (hf_k hk (Nat.le_of_ble_eq_true rfl) (Nat.le_of_ble_eq_true rfl)) (fun r1 t1 dd H locs hw hP hD hS hle => ?_)
  obtain ⟨g1_0, g1_1, g1_2, g1_3, g1_4, g1_5⟩ := hw
  have f1_2 : (t1.1 18 2).toInt = (t.1 18 2).toInt := ti_eq (g1_1.1 18 2 rfl)
  have w1 : t1.2.2.1 1 = t.2.2.1 1 := g1_1.2.2.1 1 rfl
  replace p1 := g1_0
  replace p2 := g1_2
  refine lv_pop C.1 C.2.1 dL_law_275 rfl ?_
  refine lv_aload_n C.1 C.2.1 dL_law_276 rfl (lv_at hl 2 rfl) ?_
  refine r_Vi (As := []) (rest := []) C hP hD hS hA (T_X12_errors l D K Z Y bd v p3) hE hZ (uwV m_41_16 m_41_17 m_41_18 m_1_5 m_41_19) (hdV 0 (by decide +kernel) rfl) ⟨Nat.le_of_ble_eq_true rfl, Nat.le_of_ble_eq_true rfl⟩ rfl rfl (ci := 11) (q0 := 0) rfl rfl rfl hl.1 (Nat.le_of_ble_eq_true rfl) dL_law_277 (hf_a hk hle) (fun r2 v2 H locs hw hP hD hS => ?_)
  obtain ⟨g2_0, g2_1, g2_2, g2_3, g2_4⟩ := hw
  have w2 : v2.2.2.1 1 = v.2.2.1 1 := g2_1.2.2.1 1 rfl
  replace p3 := g2_0
  refine lv_pop C.1 C.2.1 dL_law_280 rfl ?_
  refine lv_goto (tgt := 760) C.1 C.2.1 dL_law_281 (by decide) ?_
  refine W.widen (cn_a hle) (sn_a hle) ?_
  exact kk t1 dd v2 o _ _ _ ⟨p1, p2, p3, by omega, by omega, by omega, fun i hi => by rw [w1, w2]; exact p8 i (by omega)⟩ hP hD hS (lv_sub hl [0, 1, 2, 3, 4] rfl)
set_option maxHeartbeats 4000000 in
set_option maxRecDepth 100000 in
theorem law_4 {p : Program} {l : Launch} (htr : l.stackTraces = false) {e : Env} {s : State} {m : MethodId} {below : List Frame} {meth : Method} {c : Code} {b L : Nat} (hL : L ≤ 384) {xs : Nat → Int32} {D : va_G} {K : Nat → ClassId} {A : Nat → Prop} {Z Y : Nat → Nat} (C : kC p s m #[Value.ref b] c cL_law RL 7 D K) (hr : meth.sig.returnType = ret) (hlocks : meth.locks = false) (hX : XX s) (hE : XR Z s) (hZ : XQ Z Y A s s.heap) (hA : ∀ q, s.heap.size ≤ q → A q) (hA2 : ∀ q, A q → s.heap.size ≤ q) (hsc : va_X b L xs s s.heap) (hb : b < s.heap.size) (hbA : ¬ A b) {ad bd : Nat → Nat} {ao : Nat} {k : Nat} (hk : k < 64) {i : Int32} (hi : i.toInt = ((6 * k : Nat) : Int)) (hiL : 6 * k + 6 ≤ L) {t : tSt} {d : dSt} {v : tSt} {o : Nat → Int64} (hp : LwP k t d v) {H : Heap} {locs : List Loc} {ls : Array Slot} (hP : va_P D vwCl (LwW K ad bd ao t d v o) H) (hD : va_D A (LwW K ad bd ao t d v o)) (hS : va_S A s.heap H locs) (hl : lv_has ls 7 [(4, .int i), (3, .ref ao), (2, .ref (bd 0)), (1, .ref (ad 0)), (0, .ref b)]) (kk : ∀ (t1 : tSt) (d1 : dSt) (v1 : tSt) (o1 : Nat → Int64) (H1 : Heap) (locs1 : List Loc) (ls1 : Array Slot), LwP (k + 1) t1 d1 v1 → va_P D vwCl (LwW K ad bd ao t1 d1 v1 o1) H1 → va_D A (LwW K ad bd ao t1 d1 v1 o1) → va_S A s.heap H1 locs1 → lv_has ls1 7 [(4, .int i), (3, .ref ao), (2, .ref (bd 0)), (1, .ref (ad 0)), (0, .ref b)] → W p l e room_1 s m #[Value.ref b] below meth c H1 locs1 (cN d1 (k + 1)) (sN d1 (k + 1)) (lw_Z below #[Value.ref b] s) (F0 m 760 ls1 [])) : W p l e room_1 s m #[Value.ref b] below meth c H locs (cN d k) (sN d k) (lw_Z below #[Value.ref b] s) (F0 m 284 ls []) := by
  have hP : va_P D vwCl (WX d K ad t ++ (WM K bd v ++ oC K ao o)) H := hP
  have hD : va_D A (WX d K ad t ++ (WM K bd v ++ oC K ao o)) := hD
  obtain ⟨p1, p2, p3, p4, p5, p6, p8⟩ := hp
  have p7 : (0 : Int) ≤ (t.1 0 1).toInt := (p1.1 0 1).1
  have p9 : ∀ i : Nat, (i : Int) < (v.1 0 2).toInt → (-128 : Int) ≤ ((v.2.2.1 1) i).toInt ∧ ((v.2.2.1 1) i).toInt ≤ 127 := fun i hi => by rw [← p8 i (by omega)]; exact p1.2.1 1 i
  refine lv_aload_n C.1 C.2.1 dL_law_284 rfl (lv_at hl 3 rfl) ?_
  refine f_Vi (As := []) (rest := []) C hP hD hS hA (T_X11_error l D K Z Y ad d t p1) hE hZ (uwV m_43_2 m_43_3 m_43_4 m_1_2 m_43_5) (hdV 0 (by decide +kernel) rfl) ⟨Nat.le_of_ble_eq_true rfl, Nat.le_of_ble_eq_true rfl⟩ rfl rfl (ci := 10) (q0 := 0) rfl rfl rfl hl.1 (Nat.le_of_ble_eq_true rfl) dL_law_285 (hf_k hk (Nat.le_of_ble_eq_true rfl) (Nat.le_of_ble_eq_true rfl)) (fun r1 t1 H locs hw hP hD hS => ?_)
  refine lv_pop C.1 C.2.1 dL_law_288 rfl ?_
  refine lv_aload_n C.1 C.2.1 dL_law_289 rfl (lv_at hl 2 rfl) ?_
  refine r_Vi (As := []) (rest := []) C hP hD hS hA (T_X12_error l D K Z Y bd v p3) hE hZ (uwV m_43_7 m_43_8 m_43_9 m_1_5 m_43_10) (hdV 0 (by decide +kernel) rfl) ⟨Nat.le_of_ble_eq_true rfl, Nat.le_of_ble_eq_true rfl⟩ rfl rfl (ci := 11) (q0 := 0) rfl rfl rfl hl.1 (Nat.le_of_ble_eq_true rfl) dL_law_290 (hf_b hk) (fun r2 v2 H locs hw hP hD hS => ?_)
  obtain ⟨g2_0, g2_1, g2_2, g2_3⟩ := hw
  have f2_2 : (v2.1 0 2).toInt = (v.1 0 2).toInt := ti_eq (g2_1.1 0 2 rfl)
  have w2 : v2.2.2.1 1 = v.2.2.1 1 := g2_1.2.2.1 1 rfl
  replace p3 := g2_0
  refine lv_pop C.1 C.2.1 dL_law_293 rfl ?_
  refine lv_goto (tgt := 760) C.1 C.2.1 dL_law_294 (by decide) ?_
  refine W.widen (cn_b) (sn_b) ?_
  exact kk t d v2 o _ _ _ ⟨p1, p2, p3, by omega, by omega, by omega, fun i hi => by rw [w2]; exact p8 i (by omega)⟩ hP hD hS (lv_sub hl [0, 1, 2, 3, 4] rfl)
set_option maxHeartbeats 4000000 in
set_option maxRecDepth 100000 in
theorem law_5 {p : Program} {l : Launch} (htr : l.stackTraces = false) {e : Env} {s : State} {m : MethodId} {below : List Frame} {meth : Method} {c : Code} {b L : Nat} (hL : L ≤ 384) {xs : Nat → Int32} {D : va_G} {K : Nat → ClassId} {A : Nat → Prop} {Z Y : Nat → Nat} (C : kC p s m #[Value.ref b] c cL_law RL 7 D K) (hr : meth.sig.returnType = ret) (hlocks : meth.locks = false) (hX : XX s) (hE : XR Z s) (hZ : XQ Z Y A s s.heap) (hA : ∀ q, s.heap.size ≤ q → A q) (hA2 : ∀ q, A q → s.heap.size ≤ q) (hsc : va_X b L xs s s.heap) (hb : b < s.heap.size) (hbA : ¬ A b) {ad bd : Nat → Nat} {ao : Nat} {k : Nat} (hk : k < 64) {i : Int32} (hi : i.toInt = ((6 * k : Nat) : Int)) (hiL : 6 * k + 6 ≤ L) {t : tSt} {d : dSt} {v : tSt} {o : Nat → Int64} (hp : LwP k t d v) {H : Heap} {locs : List Loc} {ls : Array Slot} (hP : va_P D vwCl (LwW K ad bd ao t d v o) H) (hD : va_D A (LwW K ad bd ao t d v o)) (hS : va_S A s.heap H locs) (hl : lv_has ls 7 [(4, .int i), (3, .ref ao), (2, .ref (bd 0)), (1, .ref (ad 0)), (0, .ref b)]) (kk : ∀ (t1 : tSt) (d1 : dSt) (v1 : tSt) (o1 : Nat → Int64) (H1 : Heap) (locs1 : List Loc) (ls1 : Array Slot), LwP (k + 1) t1 d1 v1 → va_P D vwCl (LwW K ad bd ao t1 d1 v1 o1) H1 → va_D A (LwW K ad bd ao t1 d1 v1 o1) → va_S A s.heap H1 locs1 → lv_has ls1 7 [(4, .int i), (3, .ref ao), (2, .ref (bd 0)), (1, .ref (ad 0)), (0, .ref b)] → W p l e room_1 s m #[Value.ref b] below meth c H1 locs1 (cN d1 (k + 1)) (sN d1 (k + 1)) (lw_Z below #[Value.ref b] s) (F0 m 760 ls1 [])) : W p l e room_1 s m #[Value.ref b] below meth c H locs (cN d k) (sN d k) (lw_Z below #[Value.ref b] s) (F0 m 297 ls []) := by
  have hP : va_P D vwCl (WX d K ad t ++ (WM K bd v ++ oC K ao o)) H := hP
  have hD : va_D A (WX d K ad t ++ (WM K bd v ++ oC K ao o)) := hD
  obtain ⟨p1, p2, p3, p4, p5, p6, p8⟩ := hp
  have p7 : (0 : Int) ≤ (t.1 0 1).toInt := (p1.1 0 1).1
  have p9 : ∀ i : Nat, (i : Int) < (v.1 0 2).toInt → (-128 : Int) ≤ ((v.2.2.1 1) i).toInt ∧ ((v.2.2.1 1) i).toInt ≤ 127 := fun i hi => by rw [← p8 i (by omega)]; exact p1.2.1 1 i
  refine lv_aload_n C.1 C.2.1 dL_law_297 rfl (lv_at hl 3 rfl) ?_
  refine f_DVi (As := []) (rest := []) C hP hD hS hA (T_X11_cards l D K Z Y ad d t p1 p2 (by omega)) hE hZ hX (uwV m_43_11 m_43_12 m_43_13 m_1_2 m_43_14) (hdV 0 (by decide +kernel) rfl) ⟨Nat.le_of_ble_eq_true rfl, Nat.le_of_ble_eq_true rfl⟩ rfl rfl (ci := 10) (q0 := 0) rfl rfl rfl hl.1 (Nat.le_of_ble_eq_true rfl) dL_law_298 (hf_k hk (Nat.le_of_ble_eq_true rfl) (Nat.le_of_ble_eq_true rfl)) (fun r1 t1 dd H locs hw hP hD hS hle => ?_)
  obtain ⟨g1_0, g1_1, g1_2, g1_3, g1_4, g1_5, g1_6⟩ := hw
  have w1 : t1.2.2.1 1 = t.2.2.1 1 := g1_1.2.2.1 1 rfl
  replace p1 := g1_0
  replace p2 := g1_2
  refine lv_pop C.1 C.2.1 dL_law_301 rfl ?_
  refine lv_aload_n C.1 C.2.1 dL_law_302 rfl (lv_at hl 2 rfl) ?_
  refine r_Vi (As := []) (rest := []) C hP hD hS hA (T_X12_cards l D K Z Y bd v p3) hE hZ (uwV m_44_8 m_44_9 m_44_10 m_1_5 m_44_11) (hdV 0 (by decide +kernel) rfl) ⟨Nat.le_of_ble_eq_true rfl, Nat.le_of_ble_eq_true rfl⟩ rfl rfl (ci := 11) (q0 := 0) rfl rfl rfl hl.1 (Nat.le_of_ble_eq_true rfl) dL_law_303 (hf_a hk hle) (fun r2 v2 H locs hw hP hD hS => ?_)
  obtain ⟨g2_0, g2_1, g2_2, g2_3, g2_4⟩ := hw
  have w2 : v2.2.2.1 1 = v.2.2.1 1 := g2_1.2.2.1 1 rfl
  replace p3 := g2_0
  refine lv_pop C.1 C.2.1 dL_law_306 rfl ?_
  refine lv_goto (tgt := 760) C.1 C.2.1 dL_law_307 (by decide) ?_
  refine W.widen (cn_a hle) (sn_a hle) ?_
  exact kk t1 dd v2 o _ _ _ ⟨p1, p2, p3, by omega, by omega, by omega, fun i hi => by rw [w1, w2]; exact p8 i (by omega)⟩ hP hD hS (lv_sub hl [0, 1, 2, 3, 4] rfl)
set_option maxHeartbeats 4000000 in
set_option maxRecDepth 100000 in
theorem law_6 {p : Program} {l : Launch} (htr : l.stackTraces = false) {e : Env} {s : State} {m : MethodId} {below : List Frame} {meth : Method} {c : Code} {b L : Nat} (hL : L ≤ 384) {xs : Nat → Int32} {D : va_G} {K : Nat → ClassId} {A : Nat → Prop} {Z Y : Nat → Nat} (C : kC p s m #[Value.ref b] c cL_law RL 7 D K) (hr : meth.sig.returnType = ret) (hlocks : meth.locks = false) (hX : XX s) (hE : XR Z s) (hZ : XQ Z Y A s s.heap) (hA : ∀ q, s.heap.size ≤ q → A q) (hA2 : ∀ q, A q → s.heap.size ≤ q) (hsc : va_X b L xs s s.heap) (hb : b < s.heap.size) (hbA : ¬ A b) {ad bd : Nat → Nat} {ao : Nat} {k : Nat} (hk : k < 64) {i : Int32} (hi : i.toInt = ((6 * k : Nat) : Int)) (hiL : 6 * k + 6 ≤ L) {t : tSt} {d : dSt} {v : tSt} {o : Nat → Int64} (hp : LwP k t d v) {H : Heap} {locs : List Loc} {ls : Array Slot} (hP : va_P D vwCl (LwW K ad bd ao t d v o) H) (hD : va_D A (LwW K ad bd ao t d v o)) (hS : va_S A s.heap H locs) (hl : lv_has ls 7 [(4, .int i), (3, .ref ao), (2, .ref (bd 0)), (1, .ref (ad 0)), (0, .ref b)]) (kk : ∀ (t1 : tSt) (d1 : dSt) (v1 : tSt) (o1 : Nat → Int64) (H1 : Heap) (locs1 : List Loc) (ls1 : Array Slot), LwP (k + 1) t1 d1 v1 → va_P D vwCl (LwW K ad bd ao t1 d1 v1 o1) H1 → va_D A (LwW K ad bd ao t1 d1 v1 o1) → va_S A s.heap H1 locs1 → lv_has ls1 7 [(4, .int i), (3, .ref ao), (2, .ref (bd 0)), (1, .ref (ad 0)), (0, .ref b)] → W p l e room_1 s m #[Value.ref b] below meth c H1 locs1 (cN d1 (k + 1)) (sN d1 (k + 1)) (lw_Z below #[Value.ref b] s) (F0 m 760 ls1 [])) : W p l e room_1 s m #[Value.ref b] below meth c H locs (cN d k) (sN d k) (lw_Z below #[Value.ref b] s) (F0 m 310 ls []) := by
  have hP : va_P D vwCl (WX d K ad t ++ (WM K bd v ++ oC K ao o)) H := hP
  have hD : va_D A (WX d K ad t ++ (WM K bd v ++ oC K ao o)) := hD
  obtain ⟨p1, p2, p3, p4, p5, p6, p8⟩ := hp
  have p7 : (0 : Int) ≤ (t.1 0 1).toInt := (p1.1 0 1).1
  have p9 : ∀ i : Nat, (i : Int) < (v.1 0 2).toInt → (-128 : Int) ≤ ((v.2.2.1 1) i).toInt ∧ ((v.2.2.1 1) i).toInt ≤ 127 := fun i hi => by rw [← p8 i (by omega)]; exact p1.2.1 1 i
  refine lv_aload_n C.1 C.2.1 dL_law_310 rfl (lv_at hl 3 rfl) ?_
  refine l_rd (j := 1) C hsc hb hbA hS hL hl (k0 := 4) (k4 := 0) rfl rfl hi (by decide) (by omega) dL_law_311 dL_law_312 dL_law_314 dL_law_315 dL_law_316 ?_
  refine f_DVi (As := [.int (xs (6 * k + 1))]) (rest := []) C hP hD hS hA (T_X11_run l D K Z Y ad d t p1 p2 (xs (6 * k + 1))) hE hZ hX (uwV m_45_2 m_45_3 m_45_4 m_1_2 m_45_5) (hdV 1 (by decide +kernel) rfl) ⟨Nat.le_of_ble_eq_true rfl, Nat.le_of_ble_eq_true rfl⟩ rfl rfl (ci := 10) (q0 := 0) rfl rfl rfl hl.1 (Nat.le_of_ble_eq_true rfl) dL_law_317 (hf_k hk (Nat.le_of_ble_eq_true rfl) (Nat.le_of_ble_eq_true rfl)) (fun r1 t1 dd H locs hw hP hD hS hle => ?_)
  obtain ⟨g1_0, g1_1, g1_2, g1_3, g1_4⟩ := hw
  have f1_1 : (t1.1 0 1).toInt = (t.1 0 1).toInt := ti_eq (g1_1.1 0 1 rfl)
  have f1_2 : (t1.1 18 2).toInt = (t.1 18 2).toInt := ti_eq (g1_1.1 18 2 rfl)
  have w1 : t1.2.2.1 1 = t.2.2.1 1 := g1_1.2.2.1 1 rfl
  replace p1 := g1_0
  replace p2 := g1_2
  refine lv_pop C.1 C.2.1 dL_law_320 rfl ?_
  refine lv_aload_n C.1 C.2.1 dL_law_321 rfl (lv_at hl 2 rfl) ?_
  refine l_rd (j := 1) C hsc hb hbA hS hL hl (k0 := 4) (k4 := 0) rfl rfl hi (by decide) (by omega) dL_law_322 dL_law_323 dL_law_325 dL_law_326 dL_law_327 ?_
  refine r_Vi (As := [.int (xs (6 * k + 1))]) (rest := []) C hP hD hS hA (T_X12_run l D K Z Y bd v p3 (xs (6 * k + 1))) hE hZ (uwV m_56_5 m_56_6 m_56_7 m_1_5 m_56_8) (hdV 1 (by decide +kernel) rfl) ⟨Nat.le_of_ble_eq_true rfl, Nat.le_of_ble_eq_true rfl⟩ rfl rfl (ci := 11) (q0 := 0) rfl rfl rfl hl.1 (Nat.le_of_ble_eq_true rfl) dL_law_328 (hf_a hk hle) (fun r2 v2 H locs hw hP hD hS => ?_)
  obtain ⟨g2_0, g2_1, g2_2, g2_3⟩ := hw
  have f2_2 : (v2.1 0 2).toInt = (v.1 0 2).toInt := ti_eq (g2_1.1 0 2 rfl)
  have w2 : v2.2.2.1 1 = v.2.2.1 1 := g2_1.2.2.1 1 rfl
  replace p3 := g2_0
  refine lv_pop C.1 C.2.1 dL_law_331 rfl ?_
  refine lv_goto (tgt := 760) C.1 C.2.1 dL_law_332 (by decide) ?_
  refine W.widen (cn_a hle) (sn_a hle) ?_
  exact kk t1 dd v2 o _ _ _ ⟨p1, p2, p3, by omega, by omega, by omega, fun i hi => by rw [w1, w2]; exact p8 i (by omega)⟩ hP hD hS (lv_sub hl [0, 1, 2, 3, 4] rfl)
set_option maxHeartbeats 4000000 in
set_option maxRecDepth 100000 in
theorem law_7 {p : Program} {l : Launch} (htr : l.stackTraces = false) {e : Env} {s : State} {m : MethodId} {below : List Frame} {meth : Method} {c : Code} {b L : Nat} (hL : L ≤ 384) {xs : Nat → Int32} {D : va_G} {K : Nat → ClassId} {A : Nat → Prop} {Z Y : Nat → Nat} (C : kC p s m #[Value.ref b] c cL_law RL 7 D K) (hr : meth.sig.returnType = ret) (hlocks : meth.locks = false) (hX : XX s) (hE : XR Z s) (hZ : XQ Z Y A s s.heap) (hA : ∀ q, s.heap.size ≤ q → A q) (hA2 : ∀ q, A q → s.heap.size ≤ q) (hsc : va_X b L xs s s.heap) (hb : b < s.heap.size) (hbA : ¬ A b) {ad bd : Nat → Nat} {ao : Nat} {k : Nat} (hk : k < 64) {i : Int32} (hi : i.toInt = ((6 * k : Nat) : Int)) (hiL : 6 * k + 6 ≤ L) {t : tSt} {d : dSt} {v : tSt} {o : Nat → Int64} (hp : LwP k t d v) {H : Heap} {locs : List Loc} {ls : Array Slot} (hP : va_P D vwCl (LwW K ad bd ao t d v o) H) (hD : va_D A (LwW K ad bd ao t d v o)) (hS : va_S A s.heap H locs) (hl : lv_has ls 7 [(4, .int i), (3, .ref ao), (2, .ref (bd 0)), (1, .ref (ad 0)), (0, .ref b)]) (kk : ∀ (t1 : tSt) (d1 : dSt) (v1 : tSt) (o1 : Nat → Int64) (H1 : Heap) (locs1 : List Loc) (ls1 : Array Slot), LwP (k + 1) t1 d1 v1 → va_P D vwCl (LwW K ad bd ao t1 d1 v1 o1) H1 → va_D A (LwW K ad bd ao t1 d1 v1 o1) → va_S A s.heap H1 locs1 → lv_has ls1 7 [(4, .int i), (3, .ref ao), (2, .ref (bd 0)), (1, .ref (ad 0)), (0, .ref b)] → W p l e room_1 s m #[Value.ref b] below meth c H1 locs1 (cN d1 (k + 1)) (sN d1 (k + 1)) (lw_Z below #[Value.ref b] s) (F0 m 760 ls1 [])) : W p l e room_1 s m #[Value.ref b] below meth c H locs (cN d k) (sN d k) (lw_Z below #[Value.ref b] s) (F0 m 335 ls []) := by
  have hP : va_P D vwCl (WX d K ad t ++ (WM K bd v ++ oC K ao o)) H := hP
  have hD : va_D A (WX d K ad t ++ (WM K bd v ++ oC K ao o)) := hD
  obtain ⟨p1, p2, p3, p4, p5, p6, p8⟩ := hp
  have p7 : (0 : Int) ≤ (t.1 0 1).toInt := (p1.1 0 1).1
  have p9 : ∀ i : Nat, (i : Int) < (v.1 0 2).toInt → (-128 : Int) ≤ ((v.2.2.1 1) i).toInt ∧ ((v.2.2.1 1) i).toInt ≤ 127 := fun i hi => by rw [← p8 i (by omega)]; exact p1.2.1 1 i
  refine lv_aload_n C.1 C.2.1 dL_law_335 rfl (lv_at hl 3 rfl) ?_
  refine f_Vi (As := []) (rest := []) C hP hD hS hA (T_X11_go l D K Z Y ad d t p1 p2) hE hZ (uwV m_64_12 m_64_13 m_64_14 m_1_2 m_64_15) (hdV 0 (by decide +kernel) rfl) ⟨Nat.le_of_ble_eq_true rfl, Nat.le_of_ble_eq_true rfl⟩ rfl rfl (ci := 10) (q0 := 0) rfl rfl rfl hl.1 (Nat.le_of_ble_eq_true rfl) dL_law_336 (hf_k hk (Nat.le_of_ble_eq_true rfl) (Nat.le_of_ble_eq_true rfl)) (fun r1 t1 H locs hw hP hD hS => ?_)
  obtain ⟨g1_0, g1_1, g1_2, g1_3⟩ := hw
  have f1_1 : (t1.1 0 1).toInt = (t.1 0 1).toInt := ti_eq (g1_1.1 0 1 rfl)
  have f1_2 : (t1.1 18 2).toInt = (t.1 18 2).toInt := ti_eq (g1_1.1 18 2 rfl)
  have w1 : t1.2.2.1 1 = t.2.2.1 1 := g1_1.2.2.1 1 rfl
  replace p1 := g1_0
  refine lv_pop C.1 C.2.1 dL_law_339 rfl ?_
  refine lv_aload_n C.1 C.2.1 dL_law_340 rfl (lv_at hl 2 rfl) ?_
  refine r_Vi (As := []) (rest := []) C hP hD hS hA (T_X12_go l D K Z Y bd v p3) hE hZ (uwV m_64_20 m_64_21 m_64_22 m_1_5 m_64_23) (hdV 0 (by decide +kernel) rfl) ⟨Nat.le_of_ble_eq_true rfl, Nat.le_of_ble_eq_true rfl⟩ rfl rfl (ci := 11) (q0 := 0) rfl rfl rfl hl.1 (Nat.le_of_ble_eq_true rfl) dL_law_341 (hf_b hk) (fun r2 v2 H locs hw hP hD hS => ?_)
  obtain ⟨g2_0, g2_1, g2_2, g2_3⟩ := hw
  have f2_2 : (v2.1 0 2).toInt = (v.1 0 2).toInt := ti_eq (g2_1.1 0 2 rfl)
  have w2 : v2.2.2.1 1 = v.2.2.1 1 := g2_1.2.2.1 1 rfl
  replace p3 := g2_0
  refine lv_pop C.1 C.2.1 dL_law_344 rfl ?_
  refine lv_goto (tgt := 760) C.1 C.2.1 dL_law_345 (by decide) ?_
  refine W.widen (cn_b) (sn_b) ?_
  exact kk t1 d v2 o _ _ _ ⟨p1, p2, p3, by omega, by omega, by omega, fun i hi => by rw [w1, w2]; exact p8 i (by omega)⟩ hP hD hS (lv_sub hl [0, 1, 2, 3, 4] rfl)
set_option maxHeartbeats 4000000 in
set_option maxRecDepth 100000 in
theorem law_8 {p : Program} {l : Launch} (htr : l.stackTraces = false) {e : Env} {s : State} {m : MethodId} {below : List Frame} {meth : Method} {c : Code} {b L : Nat} (hL : L ≤ 384) {xs : Nat → Int32} {D : va_G} {K : Nat → ClassId} {A : Nat → Prop} {Z Y : Nat → Nat} (C : kC p s m #[Value.ref b] c cL_law RL 7 D K) (hr : meth.sig.returnType = ret) (hlocks : meth.locks = false) (hX : XX s) (hE : XR Z s) (hZ : XQ Z Y A s s.heap) (hA : ∀ q, s.heap.size ≤ q → A q) (hA2 : ∀ q, A q → s.heap.size ≤ q) (hsc : va_X b L xs s s.heap) (hb : b < s.heap.size) (hbA : ¬ A b) {ad bd : Nat → Nat} {ao : Nat} {k : Nat} (hk : k < 64) {i : Int32} (hi : i.toInt = ((6 * k : Nat) : Int)) (hiL : 6 * k + 6 ≤ L) {t : tSt} {d : dSt} {v : tSt} {o : Nat → Int64} (hp : LwP k t d v) {H : Heap} {locs : List Loc} {ls : Array Slot} (hP : va_P D vwCl (LwW K ad bd ao t d v o) H) (hD : va_D A (LwW K ad bd ao t d v o)) (hS : va_S A s.heap H locs) (hl : lv_has ls 7 [(4, .int i), (3, .ref ao), (2, .ref (bd 0)), (1, .ref (ad 0)), (0, .ref b)]) (kk : ∀ (t1 : tSt) (d1 : dSt) (v1 : tSt) (o1 : Nat → Int64) (H1 : Heap) (locs1 : List Loc) (ls1 : Array Slot), LwP (k + 1) t1 d1 v1 → va_P D vwCl (LwW K ad bd ao t1 d1 v1 o1) H1 → va_D A (LwW K ad bd ao t1 d1 v1 o1) → va_S A s.heap H1 locs1 → lv_has ls1 7 [(4, .int i), (3, .ref ao), (2, .ref (bd 0)), (1, .ref (ad 0)), (0, .ref b)] → W p l e room_1 s m #[Value.ref b] below meth c H1 locs1 (cN d1 (k + 1)) (sN d1 (k + 1)) (lw_Z below #[Value.ref b] s) (F0 m 760 ls1 [])) : W p l e room_1 s m #[Value.ref b] below meth c H locs (cN d k) (sN d k) (lw_Z below #[Value.ref b] s) (F0 m 348 ls []) := by
  have hP : va_P D vwCl (WX d K ad t ++ (WM K bd v ++ oC K ao o)) H := hP
  have hD : va_D A (WX d K ad t ++ (WM K bd v ++ oC K ao o)) := hD
  obtain ⟨p1, p2, p3, p4, p5, p6, p8⟩ := hp
  have p7 : (0 : Int) ≤ (t.1 0 1).toInt := (p1.1 0 1).1
  have p9 : ∀ i : Nat, (i : Int) < (v.1 0 2).toInt → (-128 : Int) ≤ ((v.2.2.1 1) i).toInt ∧ ((v.2.2.1 1) i).toInt ≤ 127 := fun i hi => by rw [← p8 i (by omega)]; exact p1.2.1 1 i
  refine lv_aload_n C.1 C.2.1 dL_law_348 rfl (lv_at hl 3 rfl) ?_
  refine f_DVi (As := []) (rest := []) C hP hD hS hA (T_X11_deck l D K Z Y ad d t p1 p2) hE hZ hX (uwV m_65_0 m_65_1 m_65_2 m_1_2 m_65_3) (hdV 0 (by decide +kernel) rfl) ⟨Nat.le_of_ble_eq_true rfl, Nat.le_of_ble_eq_true rfl⟩ rfl rfl (ci := 10) (q0 := 0) rfl rfl rfl hl.1 (Nat.le_of_ble_eq_true rfl) dL_law_349 (hf_k hk (Nat.le_of_ble_eq_true rfl) (Nat.le_of_ble_eq_true rfl)) (fun r1 t1 dd H locs hw hP hD hS hle => ?_)
  obtain ⟨g1_0, g1_1, g1_2, g1_3, g1_4⟩ := hw
  have f1_1 : (t1.1 0 1).toInt = (t.1 0 1).toInt := ti_eq (g1_1.1 0 1 rfl)
  have f1_2 : (t1.1 18 2).toInt = (t.1 18 2).toInt := ti_eq (g1_1.1 18 2 rfl)
  have w1 : t1.2.2.1 1 = t.2.2.1 1 := g1_1.2.2.1 1 rfl
  replace p1 := g1_0
  replace p2 := g1_2
  refine lv_pop C.1 C.2.1 dL_law_352 rfl ?_
  refine lv_aload_n C.1 C.2.1 dL_law_353 rfl (lv_at hl 2 rfl) ?_
  refine r_Vi (As := []) (rest := []) C hP hD hS hA (T_X12_deck l D K Z Y bd v p3) hE hZ (uwV m_66_0 m_66_1 m_66_2 m_1_5 m_66_3) (hdV 0 (by decide +kernel) rfl) ⟨Nat.le_of_ble_eq_true rfl, Nat.le_of_ble_eq_true rfl⟩ rfl rfl (ci := 11) (q0 := 0) rfl rfl rfl hl.1 (Nat.le_of_ble_eq_true rfl) dL_law_354 (hf_a hk hle) (fun r2 v2 H locs hw hP hD hS => ?_)
  obtain ⟨g2_0, g2_1, g2_2, g2_3⟩ := hw
  have f2_2 : (v2.1 0 2).toInt = (v.1 0 2).toInt := ti_eq (g2_1.1 0 2 rfl)
  have w2 : v2.2.2.1 1 = v.2.2.1 1 := g2_1.2.2.1 1 rfl
  replace p3 := g2_0
  refine lv_pop C.1 C.2.1 dL_law_357 rfl ?_
  refine lv_goto (tgt := 760) C.1 C.2.1 dL_law_358 (by decide) ?_
  refine W.widen (cn_a hle) (sn_a hle) ?_
  exact kk t1 dd v2 o _ _ _ ⟨p1, p2, p3, by omega, by omega, by omega, fun i hi => by rw [w1, w2]; exact p8 i (by omega)⟩ hP hD hS (lv_sub hl [0, 1, 2, 3, 4] rfl)
