section GCALL
variable {p : Program} {l : Launch} {e : Env} {R : Room} {s : State} {m : MethodId} {args : Array Value} {below : List Frame} {meth : Method} {c : Code} {H : Heap} {locs : List Loc} {cells slots mc ms : Nat} {Q : State → Prop}
variable {cc : ByteArray} {pc nL : Nat} {own : String} {ls : Array Slot} {rest st0 As : List Value} {D : va_G} {K : Nat → ClassId} {A : Nat → Prop} {b : Nat} {ws wc wr : va_W} {H0 : Heap} {S : Type} {W' : S → va_W}
variable {y : MethodName} {bytes : ByteArray} {maxL index : Nat} {ret : Option FieldType} {rm : Room} {X : State → Prop}
theorem g_Vi (C : kC p s m args c cc own nL D K) (hP : va_P D vwCl ws H) (hD : va_D A ws) (hS : va_S A H0 H locs) (hA : ∀ q, H0.size ≤ q → A q) {post : Int32 → S → Prop}
    (hM : uMet l y bytes maxL ret rm D K X (.ref b :: As) ws (QI D K post W') mc ms) (hX : Xok X) (hXs : X s) {Cn : String} (hg : GoodIn wsL_law (wsV own index Cn y (uws y bytes maxL ret))) (hd : y.cls = Cn ∧ y.cls ≠ "java/lang/invoke/MethodHandle" ∧ y.cls ≠ "java/lang/invoke/VarHandle" ∧ (parseMethodDescriptor y.desc).map (fun d => d.parameters.length) = some As.length) (hR : rm.frames + 1 ≤ R.frames ∧ 8 + (maxL + 11) + rm.locals ≤ R.locals) (hrc : rm.cells = mc) (hrs : rm.slots = ms) {ci : Nat} {T : u_T} {N : Nat} {fs : List Value} (hc : vwCl[ci]? = some (Cn, T, N)) {q0 : Nat} (he : ws[q0]? = some (b, .inr (ci, fs)))
    (hst : st0 = As.reverse ++ .ref b :: rest) (hls : ls.size = nL) (hcat : (rest.map fun v => v.category).sum ≤ 8) (hdg : decode cc pc = .ok (.invokevirtual index, 3)) (hf : cells + mc ≤ R.cells ∧ slots + ms ≤ R.slots)
    (kk : ∀ (r : Int32) (u : S) (H1 : Heap) (locs1 : List Loc), post r u → va_P D vwCl (W' u) H1 → va_D A (W' u) → va_S A H0 H1 locs1 → W p l e R s m args below meth c H1 locs1 (cells + mc) (slots + ms) Q (F0 m (pc + 3) ls (.int r :: rest))) : W p l e R s m args below meth c H locs cells slots Q (F0 m pc ls st0) := by
  have hPc : va_P D vwCl ws H := hP
  have hDc : va_D A ws := hD
  have hFc : ∀ q, va_A ws H.size q → A q := fun q h => h.elim (fun ⟨k, e, hk⟩ => hD.2 k _ hk) (fun h => hA q (Nat.le_trans hS.1 h))
  refine va_calli (va_runV (As := As) (rest := rest) ⟨C.1, C.2.1, C.2.2.1, C.2.2.2.1, C.2.2.2.2.1⟩ (hM H.size) (cwV As.length C.2.2.2.2.1 hg rfl hrc hrs hd hR) ⟨pre_blind hX, va_recv C.2.2.2.2.2 hPc hc he, k_pre C.2.2.2.2.2 hPc hDc hX hXs⟩ rfl rfl hls hst (lv_room hcat) hdg hf) hS (fun q _ h => hFc q h) hFc (fun r u t H1 locs1 ht hvm hw hB hz1 hk1 hS1 => ?_)
  obtain ⟨hP1, hK1, hD1⟩ := hB
  rw [ht] at hP1
  have hj : va_P D vwCl (W' u) H1 ∧ va_D A (W' u) := ⟨hP1, hD1.1, fun k q h => hFc _ (hD1.2 k q h)⟩
  exact kk r u H1 locs1 hw hj.1 hj.2 hS1
theorem g_Si (C : kC p s m args c cc own nL D K) (hP : va_P D vwCl ws H) (hD : va_D A ws) (hS : va_S A H0 H locs) (hA : ∀ q, H0.size ≤ q → A q) {post : Int32 → S → Prop}
    (hM : uMet l y bytes maxL ret rm D K X As ws (QI D K post W') mc ms) (hX : Xok X) (hXs : X s) (hg : GoodIn wsL_law (va_wsS own index y (uws y bytes maxL ret))) (hd : y.cls ≠ "java/lang/invoke/MethodHandle" ∧ y.cls ≠ "java/lang/invoke/VarHandle" ∧ (parseMethodDescriptor y.desc).map (fun d => d.parameters.length) = some As.length) (hR : rm.frames + 1 ≤ R.frames ∧ 8 + (maxL + 11) + rm.locals ≤ R.locals) (hrc : rm.cells = mc) (hrs : rm.slots = ms) 
    (hst : st0 = As.reverse ++ rest) (hls : ls.size = nL) (hcat : (rest.map fun v => v.category).sum ≤ 8) (hdg : decode cc pc = .ok (.invokestatic index, 3)) (hf : cells + mc ≤ R.cells ∧ slots + ms ≤ R.slots)
    (kk : ∀ (r : Int32) (u : S) (H1 : Heap) (locs1 : List Loc), post r u → va_P D vwCl (W' u) H1 → va_D A (W' u) → va_S A H0 H1 locs1 → W p l e R s m args below meth c H1 locs1 (cells + mc) (slots + ms) Q (F0 m (pc + 3) ls (.int r :: rest))) : W p l e R s m args below meth c H locs cells slots Q (F0 m pc ls st0) := by
  have hPc : va_P D vwCl ws H := hP
  have hDc : va_D A ws := hD
  have hFc : ∀ q, va_A ws H.size q → A q := fun q h => h.elim (fun ⟨k, e, hk⟩ => hD.2 k _ hk) (fun h => hA q (Nat.le_trans hS.1 h))
  refine va_calli (va_runS (As := As) (rest := rest) ⟨C.1, C.2.1, C.2.2.1, C.2.2.2.1, C.2.2.2.2.1⟩ (hM H.size) (va_cwS As.length C.2.2.2.2.1 hg rfl hrc hrs hd hR) ⟨pre_blind hX, k_pre C.2.2.2.2.2 hPc hDc hX hXs⟩ rfl rfl hls hst (lv_room hcat) hdg hf) hS (fun q _ h => hFc q h) hFc (fun r u t H1 locs1 ht hvm hw hB hz1 hk1 hS1 => ?_)
  obtain ⟨hP1, hK1, hD1⟩ := hB
  rw [ht] at hP1
  have hj : va_P D vwCl (W' u) H1 ∧ va_D A (W' u) := ⟨hP1, hD1.1, fun k q h => hFc _ (hD1.2 k q h)⟩
  exact kk r u H1 locs1 hw hj.1 hj.2 hS1
theorem g_Vl (C : kC p s m args c cc own nL D K) (hP : va_P D vwCl ws H) (hD : va_D A ws) (hS : va_S A H0 H locs) (hA : ∀ q, H0.size ≤ q → A q) {post : Int64 → S → Prop}
    (hM : uMet l y bytes maxL ret rm D K X (.ref b :: As) ws (QL D K post W') mc ms) (hX : Xok X) (hXs : X s) {Cn : String} (hg : GoodIn wsL_law (wsV own index Cn y (uws y bytes maxL ret))) (hd : y.cls = Cn ∧ y.cls ≠ "java/lang/invoke/MethodHandle" ∧ y.cls ≠ "java/lang/invoke/VarHandle" ∧ (parseMethodDescriptor y.desc).map (fun d => d.parameters.length) = some As.length) (hR : rm.frames + 1 ≤ R.frames ∧ 8 + (maxL + 11) + rm.locals ≤ R.locals) (hrc : rm.cells = mc) (hrs : rm.slots = ms) {ci : Nat} {T : u_T} {N : Nat} {fs : List Value} (hc : vwCl[ci]? = some (Cn, T, N)) {q0 : Nat} (he : ws[q0]? = some (b, .inr (ci, fs)))
    (hst : st0 = As.reverse ++ .ref b :: rest) (hls : ls.size = nL) (hcat : (rest.map fun v => v.category).sum ≤ 8) (hdg : decode cc pc = .ok (.invokevirtual index, 3)) (hf : cells + mc ≤ R.cells ∧ slots + ms ≤ R.slots)
    (kk : ∀ (r : Int64) (u : S) (H1 : Heap) (locs1 : List Loc), post r u → va_P D vwCl (W' u) H1 → va_D A (W' u) → va_S A H0 H1 locs1 → W p l e R s m args below meth c H1 locs1 (cells + mc) (slots + ms) Q (F0 m (pc + 3) ls (.long r :: rest))) : W p l e R s m args below meth c H locs cells slots Q (F0 m pc ls st0) := by
  have hPc : va_P D vwCl ws H := hP
  have hDc : va_D A ws := hD
  have hFc : ∀ q, va_A ws H.size q → A q := fun q h => h.elim (fun ⟨k, e, hk⟩ => hD.2 k _ hk) (fun h => hA q (Nat.le_trans hS.1 h))
  refine va_calll (va_runV (As := As) (rest := rest) ⟨C.1, C.2.1, C.2.2.1, C.2.2.2.1, C.2.2.2.2.1⟩ (hM H.size) (cwV As.length C.2.2.2.2.1 hg rfl hrc hrs hd hR) ⟨pre_blind hX, va_recv C.2.2.2.2.2 hPc hc he, k_pre C.2.2.2.2.2 hPc hDc hX hXs⟩ rfl rfl hls hst (lv_room hcat) hdg hf) hS (fun q _ h => hFc q h) hFc (fun r u t H1 locs1 ht hvm hw hB hz1 hk1 hS1 => ?_)
  obtain ⟨hP1, hK1, hD1⟩ := hB
  rw [ht] at hP1
  have hj : va_P D vwCl (W' u) H1 ∧ va_D A (W' u) := ⟨hP1, hD1.1, fun k q h => hFc _ (hD1.2 k q h)⟩
  exact kk r u H1 locs1 hw hj.1 hj.2 hS1
theorem g_Sl (C : kC p s m args c cc own nL D K) (hP : va_P D vwCl ws H) (hD : va_D A ws) (hS : va_S A H0 H locs) (hA : ∀ q, H0.size ≤ q → A q) {post : Int64 → S → Prop}
    (hM : uMet l y bytes maxL ret rm D K X As ws (QL D K post W') mc ms) (hX : Xok X) (hXs : X s) (hg : GoodIn wsL_law (va_wsS own index y (uws y bytes maxL ret))) (hd : y.cls ≠ "java/lang/invoke/MethodHandle" ∧ y.cls ≠ "java/lang/invoke/VarHandle" ∧ (parseMethodDescriptor y.desc).map (fun d => d.parameters.length) = some As.length) (hR : rm.frames + 1 ≤ R.frames ∧ 8 + (maxL + 11) + rm.locals ≤ R.locals) (hrc : rm.cells = mc) (hrs : rm.slots = ms) 
    (hst : st0 = As.reverse ++ rest) (hls : ls.size = nL) (hcat : (rest.map fun v => v.category).sum ≤ 8) (hdg : decode cc pc = .ok (.invokestatic index, 3)) (hf : cells + mc ≤ R.cells ∧ slots + ms ≤ R.slots)
    (kk : ∀ (r : Int64) (u : S) (H1 : Heap) (locs1 : List Loc), post r u → va_P D vwCl (W' u) H1 → va_D A (W' u) → va_S A H0 H1 locs1 → W p l e R s m args below meth c H1 locs1 (cells + mc) (slots + ms) Q (F0 m (pc + 3) ls (.long r :: rest))) : W p l e R s m args below meth c H locs cells slots Q (F0 m pc ls st0) := by
  have hPc : va_P D vwCl ws H := hP
  have hDc : va_D A ws := hD
  have hFc : ∀ q, va_A ws H.size q → A q := fun q h => h.elim (fun ⟨k, e, hk⟩ => hD.2 k _ hk) (fun h => hA q (Nat.le_trans hS.1 h))
  refine va_calll (va_runS (As := As) (rest := rest) ⟨C.1, C.2.1, C.2.2.1, C.2.2.2.1, C.2.2.2.2.1⟩ (hM H.size) (va_cwS As.length C.2.2.2.2.1 hg rfl hrc hrs hd hR) ⟨pre_blind hX, k_pre C.2.2.2.2.2 hPc hDc hX hXs⟩ rfl rfl hls hst (lv_room hcat) hdg hf) hS (fun q _ h => hFc q h) hFc (fun r u t H1 locs1 ht hvm hw hB hz1 hk1 hS1 => ?_)
  obtain ⟨hP1, hK1, hD1⟩ := hB
  rw [ht] at hP1
  have hj : va_P D vwCl (W' u) H1 ∧ va_D A (W' u) := ⟨hP1, hD1.1, fun k q h => hFc _ (hD1.2 k q h)⟩
  exact kk r u H1 locs1 hw hj.1 hj.2 hS1
theorem g_Vv (C : kC p s m args c cc own nL D K) (hP : va_P D vwCl ws H) (hD : va_D A ws) (hS : va_S A H0 H locs) (hA : ∀ q, H0.size ≤ q → A q) {post : S → Prop}
    (hM : uMet l y bytes maxL ret rm D K X (.ref b :: As) ws (QV D K post W') mc ms) (hX : Xok X) (hXs : X s) {Cn : String} (hg : GoodIn wsL_law (wsV own index Cn y (uws y bytes maxL ret))) (hd : y.cls = Cn ∧ y.cls ≠ "java/lang/invoke/MethodHandle" ∧ y.cls ≠ "java/lang/invoke/VarHandle" ∧ (parseMethodDescriptor y.desc).map (fun d => d.parameters.length) = some As.length) (hR : rm.frames + 1 ≤ R.frames ∧ 8 + (maxL + 11) + rm.locals ≤ R.locals) (hrc : rm.cells = mc) (hrs : rm.slots = ms) {ci : Nat} {T : u_T} {N : Nat} {fs : List Value} (hc : vwCl[ci]? = some (Cn, T, N)) {q0 : Nat} (he : ws[q0]? = some (b, .inr (ci, fs)))
    (hst : st0 = As.reverse ++ .ref b :: rest) (hls : ls.size = nL) (hcat : (rest.map fun v => v.category).sum ≤ 8) (hdg : decode cc pc = .ok (.invokevirtual index, 3)) (hf : cells + mc ≤ R.cells ∧ slots + ms ≤ R.slots)
    (kk : ∀ (u : S) (H1 : Heap) (locs1 : List Loc), post u → va_P D vwCl (W' u) H1 → va_D A (W' u) → va_S A H0 H1 locs1 → W p l e R s m args below meth c H1 locs1 (cells + mc) (slots + ms) Q (F0 m (pc + 3) ls (rest))) : W p l e R s m args below meth c H locs cells slots Q (F0 m pc ls st0) := by
  have hPc : va_P D vwCl ws H := hP
  have hDc : va_D A ws := hD
  have hFc : ∀ q, va_A ws H.size q → A q := fun q h => h.elim (fun ⟨k, e, hk⟩ => hD.2 k _ hk) (fun h => hA q (Nat.le_trans hS.1 h))
  refine va_callv (va_runV (As := As) (rest := rest) ⟨C.1, C.2.1, C.2.2.1, C.2.2.2.1, C.2.2.2.2.1⟩ (hM H.size) (cwV As.length C.2.2.2.2.1 hg rfl hrc hrs hd hR) ⟨pre_blind hX, va_recv C.2.2.2.2.2 hPc hc he, k_pre C.2.2.2.2.2 hPc hDc hX hXs⟩ rfl rfl hls hst (lv_room hcat) hdg hf) hS (fun q _ h => hFc q h) hFc (fun u t H1 locs1 ht hvm hw hB hz1 hk1 hS1 => ?_)
  obtain ⟨hP1, hK1, hD1⟩ := hB
  rw [ht] at hP1
  have hj : va_P D vwCl (W' u) H1 ∧ va_D A (W' u) := ⟨hP1, hD1.1, fun k q h => hFc _ (hD1.2 k q h)⟩
  exact kk u H1 locs1 hw hj.1 hj.2 hS1
theorem g_Sv (C : kC p s m args c cc own nL D K) (hP : va_P D vwCl ws H) (hD : va_D A ws) (hS : va_S A H0 H locs) (hA : ∀ q, H0.size ≤ q → A q) {post : S → Prop}
    (hM : uMet l y bytes maxL ret rm D K X As ws (QV D K post W') mc ms) (hX : Xok X) (hXs : X s) (hg : GoodIn wsL_law (va_wsS own index y (uws y bytes maxL ret))) (hd : y.cls ≠ "java/lang/invoke/MethodHandle" ∧ y.cls ≠ "java/lang/invoke/VarHandle" ∧ (parseMethodDescriptor y.desc).map (fun d => d.parameters.length) = some As.length) (hR : rm.frames + 1 ≤ R.frames ∧ 8 + (maxL + 11) + rm.locals ≤ R.locals) (hrc : rm.cells = mc) (hrs : rm.slots = ms) 
    (hst : st0 = As.reverse ++ rest) (hls : ls.size = nL) (hcat : (rest.map fun v => v.category).sum ≤ 8) (hdg : decode cc pc = .ok (.invokestatic index, 3)) (hf : cells + mc ≤ R.cells ∧ slots + ms ≤ R.slots)
    (kk : ∀ (u : S) (H1 : Heap) (locs1 : List Loc), post u → va_P D vwCl (W' u) H1 → va_D A (W' u) → va_S A H0 H1 locs1 → W p l e R s m args below meth c H1 locs1 (cells + mc) (slots + ms) Q (F0 m (pc + 3) ls (rest))) : W p l e R s m args below meth c H locs cells slots Q (F0 m pc ls st0) := by
  have hPc : va_P D vwCl ws H := hP
  have hDc : va_D A ws := hD
  have hFc : ∀ q, va_A ws H.size q → A q := fun q h => h.elim (fun ⟨k, e, hk⟩ => hD.2 k _ hk) (fun h => hA q (Nat.le_trans hS.1 h))
  refine va_callv (va_runS (As := As) (rest := rest) ⟨C.1, C.2.1, C.2.2.1, C.2.2.2.1, C.2.2.2.2.1⟩ (hM H.size) (va_cwS As.length C.2.2.2.2.1 hg rfl hrc hrs hd hR) ⟨pre_blind hX, k_pre C.2.2.2.2.2 hPc hDc hX hXs⟩ rfl rfl hls hst (lv_room hcat) hdg hf) hS (fun q _ h => hFc q h) hFc (fun u t H1 locs1 ht hvm hw hB hz1 hk1 hS1 => ?_)
  obtain ⟨hP1, hK1, hD1⟩ := hB
  rw [ht] at hP1
  have hj : va_P D vwCl (W' u) H1 ∧ va_D A (W' u) := ⟨hP1, hD1.1, fun k q h => hFc _ (hD1.2 k q h)⟩
  exact kk u H1 locs1 hw hj.1 hj.2 hS1
theorem g_Vr (C : kC p s m args c cc own nL D K) (hP : va_P D vwCl ws H) (hD : va_D A ws) (hS : va_S A H0 H locs) (hA : ∀ q, H0.size ≤ q → A q) {post : S → Prop} {ra : S → Nat}
    (hM : uMet l y bytes maxL ret rm D K X (.ref b :: As) ws (QR D K post ra W') mc ms) (hX : Xok X) (hXs : X s) {Cn : String} (hg : GoodIn wsL_law (wsV own index Cn y (uws y bytes maxL ret))) (hd : y.cls = Cn ∧ y.cls ≠ "java/lang/invoke/MethodHandle" ∧ y.cls ≠ "java/lang/invoke/VarHandle" ∧ (parseMethodDescriptor y.desc).map (fun d => d.parameters.length) = some As.length) (hR : rm.frames + 1 ≤ R.frames ∧ 8 + (maxL + 11) + rm.locals ≤ R.locals) (hrc : rm.cells = mc) (hrs : rm.slots = ms) {ci : Nat} {T : u_T} {N : Nat} {fs : List Value} (hc : vwCl[ci]? = some (Cn, T, N)) {q0 : Nat} (he : ws[q0]? = some (b, .inr (ci, fs)))
    (hst : st0 = As.reverse ++ .ref b :: rest) (hls : ls.size = nL) (hcat : (rest.map fun v => v.category).sum ≤ 8) (hdg : decode cc pc = .ok (.invokevirtual index, 3)) (hf : cells + mc ≤ R.cells ∧ slots + ms ≤ R.slots)
    (kk : ∀ (u : S) (H1 : Heap) (locs1 : List Loc), post u → va_P D vwCl (W' u) H1 → va_D A (W' u) → va_S A H0 H1 locs1 → W p l e R s m args below meth c H1 locs1 (cells + mc) (slots + ms) Q (F0 m (pc + 3) ls (.ref (ra u) :: rest))) : W p l e R s m args below meth c H locs cells slots Q (F0 m pc ls st0) := by
  have hPc : va_P D vwCl ws H := hP
  have hDc : va_D A ws := hD
  have hFc : ∀ q, va_A ws H.size q → A q := fun q h => h.elim (fun ⟨k, e, hk⟩ => hD.2 k _ hk) (fun h => hA q (Nat.le_trans hS.1 h))
  refine va_callr (va_runV (As := As) (rest := rest) ⟨C.1, C.2.1, C.2.2.1, C.2.2.2.1, C.2.2.2.2.1⟩ (hM H.size) (cwV As.length C.2.2.2.2.1 hg rfl hrc hrs hd hR) ⟨pre_blind hX, va_recv C.2.2.2.2.2 hPc hc he, k_pre C.2.2.2.2.2 hPc hDc hX hXs⟩ rfl rfl hls hst (lv_room hcat) hdg hf) hS (fun q _ h => hFc q h) hFc (fun u ra1 t H1 locs1 ht hvm hw hB hz1 hk1 hS1 => ?_)
  obtain ⟨rfl, hP1, hK1, hD1⟩ := hB
  rw [ht] at hP1
  have hj : va_P D vwCl (W' u) H1 ∧ va_D A (W' u) := ⟨hP1, hD1.1, fun k q h => hFc _ (hD1.2 k q h)⟩
  exact kk u H1 locs1 hw hj.1 hj.2 hS1
theorem g_Sr (C : kC p s m args c cc own nL D K) (hP : va_P D vwCl ws H) (hD : va_D A ws) (hS : va_S A H0 H locs) (hA : ∀ q, H0.size ≤ q → A q) {post : S → Prop} {ra : S → Nat}
    (hM : uMet l y bytes maxL ret rm D K X As ws (QR D K post ra W') mc ms) (hX : Xok X) (hXs : X s) (hg : GoodIn wsL_law (va_wsS own index y (uws y bytes maxL ret))) (hd : y.cls ≠ "java/lang/invoke/MethodHandle" ∧ y.cls ≠ "java/lang/invoke/VarHandle" ∧ (parseMethodDescriptor y.desc).map (fun d => d.parameters.length) = some As.length) (hR : rm.frames + 1 ≤ R.frames ∧ 8 + (maxL + 11) + rm.locals ≤ R.locals) (hrc : rm.cells = mc) (hrs : rm.slots = ms) 
    (hst : st0 = As.reverse ++ rest) (hls : ls.size = nL) (hcat : (rest.map fun v => v.category).sum ≤ 8) (hdg : decode cc pc = .ok (.invokestatic index, 3)) (hf : cells + mc ≤ R.cells ∧ slots + ms ≤ R.slots)
    (kk : ∀ (u : S) (H1 : Heap) (locs1 : List Loc), post u → va_P D vwCl (W' u) H1 → va_D A (W' u) → va_S A H0 H1 locs1 → W p l e R s m args below meth c H1 locs1 (cells + mc) (slots + ms) Q (F0 m (pc + 3) ls (.ref (ra u) :: rest))) : W p l e R s m args below meth c H locs cells slots Q (F0 m pc ls st0) := by
  have hPc : va_P D vwCl ws H := hP
  have hDc : va_D A ws := hD
  have hFc : ∀ q, va_A ws H.size q → A q := fun q h => h.elim (fun ⟨k, e, hk⟩ => hD.2 k _ hk) (fun h => hA q (Nat.le_trans hS.1 h))
  refine va_callr (va_runS (As := As) (rest := rest) ⟨C.1, C.2.1, C.2.2.1, C.2.2.2.1, C.2.2.2.2.1⟩ (hM H.size) (va_cwS As.length C.2.2.2.2.1 hg rfl hrc hrs hd hR) ⟨pre_blind hX, k_pre C.2.2.2.2.2 hPc hDc hX hXs⟩ rfl rfl hls hst (lv_room hcat) hdg hf) hS (fun q _ h => hFc q h) hFc (fun u ra1 t H1 locs1 ht hvm hw hB hz1 hk1 hS1 => ?_)
  obtain ⟨rfl, hP1, hK1, hD1⟩ := hB
  rw [ht] at hP1
  have hj : va_P D vwCl (W' u) H1 ∧ va_D A (W' u) := ⟨hP1, hD1.1, fun k q h => hFc _ (hD1.2 k q h)⟩
  exact kk u H1 locs1 hw hj.1 hj.2 hS1
end GCALL
section GRET
variable {p : Program} {l : Launch} {e : Env} {R : Room} {s : State} {m : MethodId} {args : Array Value} {below : List Frame} {meth : Method} {c : Code} {H : Heap} {locs : List Loc} {cells slots mc ms : Nat}
variable {cc : ByteArray} {pc nL : Nat} {own : String} {ls : Array Slot} {D : va_G} {K : Nat → ClassId} {A : Nat → Prop} {ws : va_W} {S : Type} {W' : S → va_W}
theorem g_iret (C : kC p s m args c cc own nL D K) {ty : FieldType} (hr : meth.sig.returnType = some ty) (hlocks : meth.locks = false) (hP : va_P D vwCl ws H) (hD : va_D A ws) (hS : va_S A s.heap H locs) {post : Int32 → S → Prop} {r : Int32} (hn : narrow ty (.int r) = .int r) (u : S) (hw : ws = W' u) (hpost : post r u) (hc : cells ≤ mc) (hsl : slots ≤ ms) (hdg : decode cc pc = .ok (.ireturn, 1)) :
    W p l e R s m args below meth c H locs cells slots (MQ below (QI D K post W' A) args s mc ms A) (F0 m pc ls [.int r]) := by
  subst hw
  refine W.widen hc hsl ?_
  exact W.zret C.1 C.2.1 hr hn (fun t ht hW => ⟨⟨r, u, rfl, hpost, by rw [ht]; exact hP, va_K.moved hW.alike C.2.2.2.2.2, hD⟩, hS.F ht⟩) hS.2.2 hdg hlocks
theorem g_lret (C : kC p s m args c cc own nL D K) (hr : meth.sig.returnType = some .long) (hlocks : meth.locks = false) (hP : va_P D vwCl ws H) (hD : va_D A ws) (hS : va_S A s.heap H locs) {post : Int64 → S → Prop} {r : Int64} (u : S) (hw : ws = W' u) (hpost : post r u) (hc : cells ≤ mc) (hsl : slots ≤ ms) (hdg : decode cc pc = .ok (.lreturn, 1)) :
    W p l e R s m args below meth c H locs cells slots (MQ below (QL D K post W' A) args s mc ms A) (F0 m pc ls [.long r]) := by
  subst hw
  refine W.widen hc hsl ?_
  exact W.lret C.1 C.2.1 hr (fun t ht hW => ⟨⟨r, u, rfl, hpost, by rw [ht]; exact hP, va_K.moved hW.alike C.2.2.2.2.2, hD⟩, hS.F ht⟩) hS.2.2 hdg hlocks
theorem g_vret (C : kC p s m args c cc own nL D K) (hr : meth.sig.returnType = none) (hlocks : meth.locks = false) (hP : va_P D vwCl ws H) (hD : va_D A ws) (hS : va_S A s.heap H locs) {post : S → Prop} (u : S) (hw : ws = W' u) (hpost : post u) (hc : cells ≤ mc) (hsl : slots ≤ ms) (hdg : decode cc pc = .ok (.return_, 1)) :
    W p l e R s m args below meth c H locs cells slots (MQ below (QV D K post W' A) args s mc ms A) (F0 m pc ls []) := by
  subst hw
  refine W.widen hc hsl ?_
  exact W.vret C.1 C.2.1 hr (fun t ht hW => ⟨⟨u, rfl, hpost, by rw [ht]; exact hP, va_K.moved hW.alike C.2.2.2.2.2, hD⟩, hS.F ht⟩) hS.2.2 hdg hlocks
end GRET
/-- numbers by their values -/
theorem i_lt {a b : Int32} (h : a < b) : a.toInt < b.toInt := Int32.lt_iff_toInt_lt.mp h
theorem i_nlt {a b : Int32} (h : ¬ a < b) : b.toInt ≤ a.toInt := Int.not_lt.mp fun q => h (Int32.lt_iff_toInt_lt.mpr q)
theorem i_le {a b : Int32} (h : a ≤ b) : a.toInt ≤ b.toInt := Int32.le_iff_toInt_le.mp h
theorem i_nle {a b : Int32} (h : ¬ a ≤ b) : b.toInt < a.toInt := Int.not_le.mp fun q => h (Int32.le_iff_toInt_le.mpr q)
theorem i_eq {a b : Int32} (h : a = b) : a.toInt = b.toInt := congrArg Int32.toInt h
theorem i_ne {a b : Int32} (h : ¬ a = b) : ¬ a.toInt = b.toInt := fun q => h (Int32.toInt_inj.mp q)
theorem i_rng (a : Int32) : -2147483648 ≤ a.toInt ∧ a.toInt ≤ 2147483647 := ⟨Int32.le_toInt a, by have := Int32.toInt_lt a; omega⟩
theorem nar01 {r : Int32} (h0 : 0 ≤ r.toInt) (h1 : r.toInt ≤ 1) : narrow .boolean (.int r) = .int r := by
  have h : r = 0 ∨ r = 1 := by
    rcases (by omega : r.toInt = 0 ∨ r.toInt = 1) with h | h
    · exact Or.inl (Int32.toInt_inj.mp h)
    · exact Or.inr (Int32.toInt_inj.mp h)
  rcases h with rfl | rfl <;> rfl
theorem fit01 {r : Int32} (h0 : 0 ≤ r.toInt) (h1 : r.toInt ≤ 1) : fits .boolean (.int r) = true := by
  have h : r = 0 ∨ r = 1 := by
    rcases (by omega : r.toInt = 0 ∨ r.toInt = 1) with h | h
    · exact Or.inl (Int32.toInt_inj.mp h)
    · exact Or.inr (Int32.toInt_inj.mp h)
  rcases h with rfl | rfl <;> rfl
theorem nar_byte (x : Int32) : (-128 : Int) ≤ (x.toInt8.toInt32).toInt ∧ (x.toInt8.toInt32).toInt ≤ 127 := by
  rw [Int8.toInt_toInt32]
  exact ⟨Int8.le_toInt _, by have := Int8.toInt_lt x.toInt8; omega⟩
theorem nar_boolean (x : Int32) : (0 : Int) ≤ (x &&& 1).toInt ∧ (x &&& 1).toInt ≤ 1 := by
  have h := Jvm.Kit.i32_mask x 1 (k := 1) (by decide) (by decide)
  omega
theorem z_rem (x y : Int32) : (x - (x / y) * y).toInt = x.toInt.tmod y.toInt := by
  have a := (x % y).toInt_lt
  have b := (x % y).le_toInt
  rw [Int32.toInt_mod] at a b
  rw [Int32.toInt_sub, Int32.toInt_mul, Int32.toInt_div, Int.bmod_mul_bmod, Int.sub_bmod_bmod, Int.mul_comm, ← Int.tmod_def]
  exact Jvm.Kit.bmod32 b a
theorem z_remp {x y : Int32} {k : Int} (hk : y.toInt = k) (hx : 0 ≤ x.toInt) : (x - (x / y) * y).toInt = x.toInt % k := by
  rw [z_rem, hk, Int.tmod_eq_emod_of_nonneg hx]
theorem z_remb {x y : Int32} {k : Int} (hk : y.toInt = k) (h0 : 0 < k) : -k < (x - (x / y) * y).toInt ∧ (x - (x / y) * y).toInt < k := by
  rw [z_rem, hk]; exact tmod_bounds h0
theorem z_divp {x y : Int32} {k : Int} (hk : y.toInt = k) (h0 : 0 < k) (hx : 0 ≤ x.toInt) : (x / y).toInt = x.toInt / k := by
  rw [Jvm.Kit.i32_div (by omega), hk, Int.tdiv_eq_ediv_of_nonneg hx]
theorem cmp_rng (x y : Int64) : (-1 : Int) ≤ (lg_cmp x y).toInt ∧ (lg_cmp x y).toInt ≤ 1 := by
  unfold lg_cmp
  split
  · decide
  · split <;> decide
/-- the numbers of a side's cells: fields (int, long), rows (int, byte, boolean; long) -/
abbrev tSt : Type := (Nat → Nat → Int32) × (Nat → Nat → Int64) × (Nat → Nat → Int32) × (Nat → Nat → Int64)
def uI (t : tSt) (j k : Nat) (v : Int32) : tSt := (fun a b => if a = j then (if b = k then v else t.1 a b) else t.1 a b, t.2)
def uJ (t : tSt) (j k : Nat) (v : Int64) : tSt := (t.1, (fun a b => if a = j then (if b = k then v else t.2.1 a b) else t.2.1 a b), t.2.2)
def uB (t : tSt) (j i : Nat) (v : Int32) : tSt := (t.1, t.2.1, (fun a => if a = j then upd (t.2.2.1 j) i v else t.2.2.1 a), t.2.2.2)
def uG (t : tSt) (j i : Nat) (v : Int64) : tSt := (t.1, t.2.1, t.2.2.1, (fun a => if a = j then vp_updL (t.2.2.2 j) i v else t.2.2.2 a))
def fB (t : tSt) (j : Nat) (v : Int32) : tSt := (t.1, t.2.1, (fun a => if a = j then (fun _ => v) else t.2.2.1 a), t.2.2.2)
def fG (t : tSt) (j : Nat) (v : Int64) : tSt := (t.1, t.2.1, t.2.2.1, (fun a => if a = j then (fun _ => v) else t.2.2.2 a))
def tb (T : List (List (Int × Int))) (j k : Nat) : Int × Int := (T.getD j []).getD k (-2147483648, 2147483647)
def ta (T : List (Int × Int)) (j : Nat) : Int × Int := T.getD j (-2147483648, 2147483647)
def okI (T : List (List (Int × Int))) (t : tSt) : Prop := ∀ j k, (tb T j k).1 ≤ (t.1 j k).toInt ∧ (t.1 j k).toInt ≤ (tb T j k).2
def okB (T : List (Int × Int)) (t : tSt) : Prop := ∀ j i, (ta T j).1 ≤ (t.2.2.1 j i).toInt ∧ (t.2.2.1 j i).toInt ≤ (ta T j).2
theorem okI_I {T : List (List (Int × Int))} {t : tSt} (h : okI T t) (j k : Nat) (v : Int32) (hv : (tb T j k).1 ≤ v.toInt ∧ v.toInt ≤ (tb T j k).2) : okI T (uI t j k v) := by
  intro a b
  show _ ≤ (if a = j then (if b = k then v else t.1 a b) else t.1 a b).toInt ∧ (if a = j then (if b = k then v else t.1 a b) else t.1 a b).toInt ≤ _
  by_cases ha : a = j
  · by_cases hb : b = k
    · subst ha; subst hb; simpa using hv
    · simpa [ha, hb] using h j b
  · simpa [ha] using h a b
theorem okB_B {T : List (Int × Int)} {t : tSt} (h : okB T t) (j i : Nat) (v : Int32) (hv : (ta T j).1 ≤ v.toInt ∧ v.toInt ≤ (ta T j).2) : okB T (uB t j i v) := by
  intro a b
  show _ ≤ ((if a = j then upd (t.2.2.1 j) i v else t.2.2.1 a) b).toInt ∧ ((if a = j then upd (t.2.2.1 j) i v else t.2.2.1 a) b).toInt ≤ _
  by_cases ha : a = j
  · subst ha
    by_cases hb : b = i
    · subst hb; simpa [pk_us] using hv
    · simpa [pk_un hb] using h a b
  · simpa [ha] using h a b
theorem okB_f {T : List (Int × Int)} {t : tSt} (h : okB T t) (j : Nat) (v : Int32) (hv : (ta T j).1 ≤ v.toInt ∧ v.toInt ≤ (ta T j).2) : okB T (fB t j v) := by
  intro a b
  show _ ≤ ((if a = j then (fun _ => v) else t.2.2.1 a) b).toInt ∧ ((if a = j then (fun _ => v) else t.2.2.1 a) b).toInt ≤ _
  by_cases ha : a = j
  · subst ha; simpa using hv
  · simpa [ha] using h a b
/-- what a method leaves as it was: the fields that the list does not name -/
def frI (mod : List (Nat × Nat)) (t u : tSt) : Prop := ∀ j k, (mod.contains (j, k)) = false → u.1 j k = t.1 j k
theorem frI_rf {mod : List (Nat × Nat)} {t : tSt} : frI mod t t := fun _ _ _ => rfl
theorem frI_I {mod : List (Nat × Nat)} {t u : tSt} (h : frI mod t u) (j k : Nat) (v : Int32) (hm : mod.contains (j, k) = true) : frI mod t (uI u j k v) := by
  intro a b hab
  show (if a = j then (if b = k then v else u.1 a b) else u.1 a b) = _
  by_cases ha : a = j
  · by_cases hb : b = k
    · subst ha; subst hb; rw [hm] at hab; cases hab
    · simpa [ha, hb] using h j b (by rw [← ha]; exact hab)
  · simpa [ha] using h a b hab
theorem frI_tr {m1 m2 : List (Nat × Nat)} {t u w : tSt} (h : frI m2 t u) (h1 : frI m1 u w) (hs : m1.all (fun q => m2.contains q) = true) : frI m2 t w := by
  intro j k hjk
  have : m1.contains (j, k) = false := by
    cases hc : m1.contains (j, k)
    · rfl
    · have := List.all_eq_true.mp hs (j, k) (List.contains_iff_mem.mp hc)
      rw [hjk] at this; cases this
  rw [h1 j k this]; exact h j k hjk
