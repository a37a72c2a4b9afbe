
theorem ti_iadd {x y : Int32} (h1 : -2147483648 ≤ x.toInt + y.toInt) (h2 : x.toInt + y.toInt < 2147483648) : (x + y).toInt = x.toInt + y.toInt := (Int32.toInt_add x y).trans (Int.bmod_eq_of_le (by omega) (by omega))
theorem ti_isub {x y : Int32} (h1 : -2147483648 ≤ x.toInt - y.toInt) (h2 : x.toInt - y.toInt < 2147483648) : (x - y).toInt = x.toInt - y.toInt := (Int32.toInt_sub x y).trans (Int.bmod_eq_of_le (by omega) (by omega))
theorem ti_imul {x y : Int32} (h1 : -2147483648 ≤ x.toInt * y.toInt) (h2 : x.toInt * y.toInt < 2147483648) : (x * y).toInt = x.toInt * y.toInt := (Int32.toInt_mul x y).trans (Int.bmod_eq_of_le (by omega) (by omega))
/-- two contents that agree within the length are one -/
theorem arr_eq {D : va_G} {ws : va_W} {q a n : Nat} {cA : ClassId} {f g : Nat → Int32} {H : Heap} (h : va_P D vwCl (ws.set q (a, .inl (cA, n, .inl f))) H) (e : ∀ j, j < n → f j = g j) : va_P D vwCl (ws.set q (a, .inl (cA, n, .inl g))) H := by
  have hc : vp_cell cA (n, .inl f) = vp_cell cA (n, .inl g) := by
    show arrV cA n (fun j => .int (f j)) = arrV cA n (fun j => .int (g j))
    unfold arrV
    congr 1
    congr 1
    funext j
    show Value.int (f j.val) = Value.int (g j.val)
    rw [e j.val j.isLt]
  intro k x hx
  by_cases hk : k = q
  · subst hk
    by_cases hl : k < ws.length
    · rw [List.getElem?_set_self hl] at hx
      cases hx
      have h1 := h k _ (List.getElem?_set_self hl)
      show H[a]? = some (vp_cell cA (n, .inl g))
      rw [← hc]; exact h1
    · rw [List.getElem?_eq_none (by rw [List.length_set]; omega)] at hx
      cases hx
  · rw [List.getElem?_set_ne (fun e => hk e.symm)] at hx
    exact h k x (by rw [List.getElem?_set_ne (fun e => hk e.symm)]; exact hx)
theorem arr_eqL {D : va_G} {ws : va_W} {q a n : Nat} {cA : ClassId} {f g : Nat → Int64} {H : Heap} (h : va_P D vwCl (ws.set q (a, .inl (cA, n, .inr (.inl f)))) H) (e : ∀ j, j < n → f j = g j) : va_P D vwCl (ws.set q (a, .inl (cA, n, .inr (.inl g)))) H := by
  have hc : vp_cell cA (n, .inr (.inl f)) = vp_cell cA (n, .inr (.inl g)) := by
    show arrV cA n (fun j => .long (f j)) = arrV cA n (fun j => .long (g j))
    unfold arrV
    congr 1
    congr 1
    funext j
    show Value.long (f j.val) = Value.long (g j.val)
    rw [e j.val j.isLt]
  intro k x hx
  by_cases hk : k = q
  · subst hk
    by_cases hl : k < ws.length
    · rw [List.getElem?_set_self hl] at hx
      cases hx
      have h1 := h k _ (List.getElem?_set_self hl)
      show H[a]? = some (vp_cell cA (n, .inr (.inl g)))
      rw [← hc]; exact h1
    · rw [List.getElem?_eq_none (by rw [List.length_set]; omega)] at hx
      cases hx
  · rw [List.getElem?_set_ne (fun e => hk e.symm)] at hx
    exact h k x (by rw [List.getElem?_set_ne (fun e => hk e.symm)]; exact hx)
theorem ws_at {ws : va_W} {q : Nat} {a : Nat} {x y : va_E} (h : ws[q]? = some (a, x)) : (ws.set q (a, y))[q]? = some (a, y) := List.getElem?_set_self (List.getElem?_eq_some_iff.mp h).1
theorem ws_ne {ws : va_W} {q k : Nat} {x : Nat × va_E} {y : Option (Nat × va_E)} (hk : q ≠ k) (h : ws[k]? = y) : (ws.set q x)[k]? = y := by rw [List.getElem?_set_ne hk]; exact h
theorem upd_lt {f : Nat → Int32} {i : Nat} {v : Int32} (h : ∀ j, j < i → f j = v) : ∀ j, j < i + 1 → upd f i v j = v := by
  intro j hj
  by_cases e : j = i
  · subst e; exact pk_us
  · rw [pk_un e]; exact h j (by omega)
theorem updL_lt {f : Nat → Int64} {i : Nat} {v : Int64} (h : ∀ j, j < i → f j = v) : ∀ j, j < i + 1 → vp_updL f i v j = v := by
  intro j hj
  by_cases e : j = i
  · subst e; exact pk_uLs
  · rw [pk_uLn e]; exact h j (by omega)
section LOOP
variable {p : Program} {l : Launch} {e : Env} {R : Room} {s : State} {m : MethodId} {args : Array Value} {below : List Frame} {meth : Method} {c : Code} {cells slots : Nat} {Q : State → Prop}
variable {cc : ByteArray} {nL : Nat} {own : String} {rest : List Value} {D : va_G} {K : Nat → ClassId} {A : Nat → Prop} {H0 : Heap}

/-- for (k = 0; k < n; k++) this.row[k] = v -/
theorem k_loopI (C : kC p s m args c cc own nL D K) {h h2 h3 ex idx : Nat} {off off2 : Int} (n : Nat) (hn : n < 2 ^ 31) (v v' : Int32) (hv' : v = v') {ws : va_W} {q0 q1 a0 a1 ci N k : Nat} {Cn : String} {T : u_T} {fs : List Value} {f0 : Nat → Int32} (hq : q1 ≠ q0) (he : ws[q0]? = some (a0, .inr (ci, fs))) (hc : vwCl[ci]? = some (Cn, T, N)) (hin : ∀ w ∈ u_ws Cn T N, w ∈ wsL_law) (hk : k < N) (hl : Cond.fieldLink own idx (T k).1 (T k).2.1 (T k).2.2.1 ∈ wsL_law) (hv : fs[k]? = some (.ref a1)) (ha : ws[q1]? = some (a1, .inl (K 0, n, .inl f0))) (hnl : 1 < nL)
    (d0 : decode cc h = .ok (.iload_n 1, 1)) (push : ∀ (H : Heap) (locs : List Loc) (ls : Array Slot) (st : List Value), W p l e R s m args below meth c H locs cells slots Q (F0 m h2 ls (.int (nI n) :: st)) → W p l e R s m args below meth c H locs cells slots Q (F0 m (h + 1) ls st)) (d2 : decode cc h2 = .ok (.if_icmp .ge off, 3)) (t2 : (h2 : Int) + off = (ex : Int)) (d3 : decode cc (h2 + 3) = .ok (.aload_n 0, 1)) (d4 : decode cc (h2 + 4) = .ok (.getfield idx, 3)) (d5 : decode cc (h2 + 7) = .ok (.iload_n 1, 1)) (pushv : ∀ (H : Heap) (locs : List Loc) (ls : Array Slot) (st : List Value), W p l e R s m args below meth c H locs cells slots Q (F0 m h3 ls (.int v :: st)) → W p l e R s m args below meth c H locs cells slots Q (F0 m (h2 + 8) ls st)) (d7 : decode cc h3 = .ok (.iastore, 1)) (d8 : decode cc (h3 + 1) = .ok (.iinc 1 1, 3)) (d9 : decode cc (h3 + 4) = .ok (.goto off2, 3)) (t9 : (((h3 + 4 : Nat)) : Int) + off2 = (h : Int))
    (kk : ∀ (H : Heap) (locs : List Loc) (ls : Array Slot), va_P D vwCl (ws.set q1 (a1, .inl (K 0, n, .inl (fun _ => v')))) H → va_D A (ws.set q1 (a1, .inl (K 0, n, .inl (fun _ => v')))) → va_S A H0 H locs → lv_has ls nL [(1, .int (nI n)), (0, .ref a0)] → W p l e R s m args below meth c H locs cells slots Q (F0 m ex ls rest)) :
    ∀ (H : Heap) (locs : List Loc) (ls : Array Slot), va_P D vwCl ws H → va_D A ws → va_S A H0 H locs → lv_has ls nL [(1, .int 0), (0, .ref a0)] → W p l e R s m args below meth c H locs cells slots Q (F0 m h ls rest) := by
  have gen : ∀ (r i : Nat) (f : Nat → Int32), i + r = n → (∀ j, j < i → f j = v') → ∀ (H : Heap) (locs : List Loc) (ls : Array Slot), va_P D vwCl (ws.set q1 (a1, .inl (K 0, n, .inl f))) H → va_D A (ws.set q1 (a1, .inl (K 0, n, .inl f))) → va_S A H0 H locs → lv_has ls nL [(1, .int (nI i)), (0, .ref a0)] → W p l e R s m args below meth c H locs cells slots Q (F0 m h ls rest) := by
    intro r
    induction r with
    | zero =>
      intro i f hi hf H locs ls hP hD hS hls
      have hin' : i = n := by omega
      subst hin'
      refine lv_iload_n C.1 C.2.1 d0 rfl (lv_at hls 0 rfl) ?_
      refine push H locs ls _ ?_
      refine lv_icmp_ge C.1 C.2.1 d2 t2 (fun _ => ?_) (fun hh => absurd (nI_le (Nat.le_refl i) hn) hh)
      exact kk H locs ls (arr_eq hP (fun j hj => hf j hj)) (by have := hD.set (e := .inl (K 0, i, .inl (fun _ => v'))) (ws_at ha); rw [List.set_set] at this; exact this) hS hls
    | succ r ih =>
      intro i f hi hf H locs ls hP hD hS hls
      have hlt : i < n := by omega
      refine lv_iload_n C.1 C.2.1 d0 rfl (lv_at hls 0 rfl) ?_
      refine push H locs ls _ ?_
      refine lv_icmp_ge C.1 C.2.1 d2 t2 (fun hh => absurd hh (nI_ge hlt hn)) (fun _ => ?_)
      refine lv_aload_n C.1 C.2.1 d3 rfl (lv_at hls 1 rfl) ?_
      refine k_get C hP q0 (ws_ne hq he) hc hin k hk hl hv d4 ?_
      refine lv_iload_n C.1 C.2.1 d5 rfl (lv_at hls 0 rfl) ?_
      refine pushv H locs ls _ ?_
      refine k_ist (ws' := ws.set q1 (a1, .inl (K 0, n, .inl (upd f i v')))) C hP hD hS q1 (ws_at ha) (vp_in_nI hlt hn) (nI_clamp (by omega)) hv' (by rw [List.set_set]) d7 (fun H locs hP hD hS => ?_)
      refine lv_iinc (v := nI (i + 1)) (lv' := [(1, .int (nI (i + 1))), (0, .ref a0)]) C.1 C.2.1 d8 hls (k := 0) rfl (nI_1 i) hnl rfl (fun ls hls => ?_)
      refine lv_goto C.1 C.2.1 d9 t9 ?_
      exact ih (i + 1) (upd f i v') (by omega) (upd_lt hf) H locs ls hP hD hS hls
  intro H locs ls hP hD hS hls
  have e0 : ws.set q1 (a1, .inl (K 0, n, .inl f0)) = ws := by
    apply List.ext_getElem?
    intro j
    by_cases hj : j = q1
    · subst hj; rw [ws_at ha]; exact ha.symm
    · rw [List.getElem?_set_ne (fun e => hj e.symm)]
  refine gen n 0 f0 (by omega) (fun j hj => absurd hj (Nat.not_lt_zero j)) H locs ls (by rw [e0]; exact hP) (by rw [e0]; exact hD) hS ?_
  rw [nI_0]; exact hls

/-- for (k = 0; k < n; k++) this.row[k] = v -/
theorem k_loopB (C : kC p s m args c cc own nL D K) {h h2 h3 ex idx : Nat} {off off2 : Int} (n : Nat) (hn : n < 2 ^ 31) (v v' : Int32) (hv' : vp_nar .byte v = v') {ws : va_W} {q0 q1 a0 a1 ci N k : Nat} {Cn : String} {T : u_T} {fs : List Value} {f0 : Nat → Int32} (hq : q1 ≠ q0) (he : ws[q0]? = some (a0, .inr (ci, fs))) (hc : vwCl[ci]? = some (Cn, T, N)) (hin : ∀ w ∈ u_ws Cn T N, w ∈ wsL_law) (hk : k < N) (hl : Cond.fieldLink own idx (T k).1 (T k).2.1 (T k).2.2.1 ∈ wsL_law) (hv : fs[k]? = some (.ref a1)) (ha : ws[q1]? = some (a1, .inl (K 2, n, .inl f0))) (hnl : 1 < nL)
    (d0 : decode cc h = .ok (.iload_n 1, 1)) (push : ∀ (H : Heap) (locs : List Loc) (ls : Array Slot) (st : List Value), W p l e R s m args below meth c H locs cells slots Q (F0 m h2 ls (.int (nI n) :: st)) → W p l e R s m args below meth c H locs cells slots Q (F0 m (h + 1) ls st)) (d2 : decode cc h2 = .ok (.if_icmp .ge off, 3)) (t2 : (h2 : Int) + off = (ex : Int)) (d3 : decode cc (h2 + 3) = .ok (.aload_n 0, 1)) (d4 : decode cc (h2 + 4) = .ok (.getfield idx, 3)) (d5 : decode cc (h2 + 7) = .ok (.iload_n 1, 1)) (pushv : ∀ (H : Heap) (locs : List Loc) (ls : Array Slot) (st : List Value), W p l e R s m args below meth c H locs cells slots Q (F0 m h3 ls (.int v :: st)) → W p l e R s m args below meth c H locs cells slots Q (F0 m (h2 + 8) ls st)) (d7 : decode cc h3 = .ok (.bastore, 1)) (d8 : decode cc (h3 + 1) = .ok (.iinc 1 1, 3)) (d9 : decode cc (h3 + 4) = .ok (.goto off2, 3)) (t9 : (((h3 + 4 : Nat)) : Int) + off2 = (h : Int))
    (kk : ∀ (H : Heap) (locs : List Loc) (ls : Array Slot), va_P D vwCl (ws.set q1 (a1, .inl (K 2, n, .inl (fun _ => v')))) H → va_D A (ws.set q1 (a1, .inl (K 2, n, .inl (fun _ => v')))) → va_S A H0 H locs → lv_has ls nL [(1, .int (nI n)), (0, .ref a0)] → W p l e R s m args below meth c H locs cells slots Q (F0 m ex ls rest)) :
    ∀ (H : Heap) (locs : List Loc) (ls : Array Slot), va_P D vwCl ws H → va_D A ws → va_S A H0 H locs → lv_has ls nL [(1, .int 0), (0, .ref a0)] → W p l e R s m args below meth c H locs cells slots Q (F0 m h ls rest) := by
  have gen : ∀ (r i : Nat) (f : Nat → Int32), i + r = n → (∀ j, j < i → f j = v') → ∀ (H : Heap) (locs : List Loc) (ls : Array Slot), va_P D vwCl (ws.set q1 (a1, .inl (K 2, n, .inl f))) H → va_D A (ws.set q1 (a1, .inl (K 2, n, .inl f))) → va_S A H0 H locs → lv_has ls nL [(1, .int (nI i)), (0, .ref a0)] → W p l e R s m args below meth c H locs cells slots Q (F0 m h ls rest) := by
    intro r
    induction r with
    | zero =>
      intro i f hi hf H locs ls hP hD hS hls
      have hin' : i = n := by omega
      subst hin'
      refine lv_iload_n C.1 C.2.1 d0 rfl (lv_at hls 0 rfl) ?_
      refine push H locs ls _ ?_
      refine lv_icmp_ge C.1 C.2.1 d2 t2 (fun _ => ?_) (fun hh => absurd (nI_le (Nat.le_refl i) hn) hh)
      exact kk H locs ls (arr_eq hP (fun j hj => hf j hj)) (by have := hD.set (e := .inl (K 2, i, .inl (fun _ => v'))) (ws_at ha); rw [List.set_set] at this; exact this) hS hls
    | succ r ih =>
      intro i f hi hf H locs ls hP hD hS hls
      have hlt : i < n := by omega
      refine lv_iload_n C.1 C.2.1 d0 rfl (lv_at hls 0 rfl) ?_
      refine push H locs ls _ ?_
      refine lv_icmp_ge C.1 C.2.1 d2 t2 (fun hh => absurd hh (nI_ge hlt hn)) (fun _ => ?_)
      refine lv_aload_n C.1 C.2.1 d3 rfl (lv_at hls 1 rfl) ?_
      refine k_get C hP q0 (ws_ne hq he) hc hin k hk hl hv d4 ?_
      refine lv_iload_n C.1 C.2.1 d5 rfl (lv_at hls 0 rfl) ?_
      refine pushv H locs ls _ ?_
      refine k_bst (ws' := ws.set q1 (a1, .inl (K 2, n, .inl (upd f i v')))) C hP hD hS q1 (ws_at ha) (vp_in_nI hlt hn) (nI_clamp (by omega)) hv' (by rw [List.set_set]) d7 (fun H locs hP hD hS => ?_)
      refine lv_iinc (v := nI (i + 1)) (lv' := [(1, .int (nI (i + 1))), (0, .ref a0)]) C.1 C.2.1 d8 hls (k := 0) rfl (nI_1 i) hnl rfl (fun ls hls => ?_)
      refine lv_goto C.1 C.2.1 d9 t9 ?_
      exact ih (i + 1) (upd f i v') (by omega) (upd_lt hf) H locs ls hP hD hS hls
  intro H locs ls hP hD hS hls
  have e0 : ws.set q1 (a1, .inl (K 2, n, .inl f0)) = ws := by
    apply List.ext_getElem?
    intro j
    by_cases hj : j = q1
    · subst hj; rw [ws_at ha]; exact ha.symm
    · rw [List.getElem?_set_ne (fun e => hj e.symm)]
  refine gen n 0 f0 (by omega) (fun j hj => absurd hj (Nat.not_lt_zero j)) H locs ls (by rw [e0]; exact hP) (by rw [e0]; exact hD) hS ?_
  rw [nI_0]; exact hls

/-- for (k = 0; k < n; k++) this.row[k] = v -/
theorem k_loopZ (C : kC p s m args c cc own nL D K) {h h2 h3 ex idx : Nat} {off off2 : Int} (n : Nat) (hn : n < 2 ^ 31) (v v' : Int32) (hv' : vp_nar .boolean v = v') {ws : va_W} {q0 q1 a0 a1 ci N k : Nat} {Cn : String} {T : u_T} {fs : List Value} {f0 : Nat → Int32} (hq : q1 ≠ q0) (he : ws[q0]? = some (a0, .inr (ci, fs))) (hc : vwCl[ci]? = some (Cn, T, N)) (hin : ∀ w ∈ u_ws Cn T N, w ∈ wsL_law) (hk : k < N) (hl : Cond.fieldLink own idx (T k).1 (T k).2.1 (T k).2.2.1 ∈ wsL_law) (hv : fs[k]? = some (.ref a1)) (ha : ws[q1]? = some (a1, .inl (K 3, n, .inl f0))) (hnl : 1 < nL)
    (d0 : decode cc h = .ok (.iload_n 1, 1)) (push : ∀ (H : Heap) (locs : List Loc) (ls : Array Slot) (st : List Value), W p l e R s m args below meth c H locs cells slots Q (F0 m h2 ls (.int (nI n) :: st)) → W p l e R s m args below meth c H locs cells slots Q (F0 m (h + 1) ls st)) (d2 : decode cc h2 = .ok (.if_icmp .ge off, 3)) (t2 : (h2 : Int) + off = (ex : Int)) (d3 : decode cc (h2 + 3) = .ok (.aload_n 0, 1)) (d4 : decode cc (h2 + 4) = .ok (.getfield idx, 3)) (d5 : decode cc (h2 + 7) = .ok (.iload_n 1, 1)) (pushv : ∀ (H : Heap) (locs : List Loc) (ls : Array Slot) (st : List Value), W p l e R s m args below meth c H locs cells slots Q (F0 m h3 ls (.int v :: st)) → W p l e R s m args below meth c H locs cells slots Q (F0 m (h2 + 8) ls st)) (d7 : decode cc h3 = .ok (.bastore, 1)) (d8 : decode cc (h3 + 1) = .ok (.iinc 1 1, 3)) (d9 : decode cc (h3 + 4) = .ok (.goto off2, 3)) (t9 : (((h3 + 4 : Nat)) : Int) + off2 = (h : Int))
    (kk : ∀ (H : Heap) (locs : List Loc) (ls : Array Slot), va_P D vwCl (ws.set q1 (a1, .inl (K 3, n, .inl (fun _ => v')))) H → va_D A (ws.set q1 (a1, .inl (K 3, n, .inl (fun _ => v')))) → va_S A H0 H locs → lv_has ls nL [(1, .int (nI n)), (0, .ref a0)] → W p l e R s m args below meth c H locs cells slots Q (F0 m ex ls rest)) :
    ∀ (H : Heap) (locs : List Loc) (ls : Array Slot), va_P D vwCl ws H → va_D A ws → va_S A H0 H locs → lv_has ls nL [(1, .int 0), (0, .ref a0)] → W p l e R s m args below meth c H locs cells slots Q (F0 m h ls rest) := by
  have gen : ∀ (r i : Nat) (f : Nat → Int32), i + r = n → (∀ j, j < i → f j = v') → ∀ (H : Heap) (locs : List Loc) (ls : Array Slot), va_P D vwCl (ws.set q1 (a1, .inl (K 3, n, .inl f))) H → va_D A (ws.set q1 (a1, .inl (K 3, n, .inl f))) → va_S A H0 H locs → lv_has ls nL [(1, .int (nI i)), (0, .ref a0)] → W p l e R s m args below meth c H locs cells slots Q (F0 m h ls rest) := by
    intro r
    induction r with
    | zero =>
      intro i f hi hf H locs ls hP hD hS hls
      have hin' : i = n := by omega
      subst hin'
      refine lv_iload_n C.1 C.2.1 d0 rfl (lv_at hls 0 rfl) ?_
      refine push H locs ls _ ?_
      refine lv_icmp_ge C.1 C.2.1 d2 t2 (fun _ => ?_) (fun hh => absurd (nI_le (Nat.le_refl i) hn) hh)
      exact kk H locs ls (arr_eq hP (fun j hj => hf j hj)) (by have := hD.set (e := .inl (K 3, i, .inl (fun _ => v'))) (ws_at ha); rw [List.set_set] at this; exact this) hS hls
    | succ r ih =>
      intro i f hi hf H locs ls hP hD hS hls
      have hlt : i < n := by omega
      refine lv_iload_n C.1 C.2.1 d0 rfl (lv_at hls 0 rfl) ?_
      refine push H locs ls _ ?_
      refine lv_icmp_ge C.1 C.2.1 d2 t2 (fun hh => absurd hh (nI_ge hlt hn)) (fun _ => ?_)
      refine lv_aload_n C.1 C.2.1 d3 rfl (lv_at hls 1 rfl) ?_
      refine k_get C hP q0 (ws_ne hq he) hc hin k hk hl hv d4 ?_
      refine lv_iload_n C.1 C.2.1 d5 rfl (lv_at hls 0 rfl) ?_
      refine pushv H locs ls _ ?_
      refine k_zst (ws' := ws.set q1 (a1, .inl (K 3, n, .inl (upd f i v')))) C hP hD hS q1 (ws_at ha) (vp_in_nI hlt hn) (nI_clamp (by omega)) hv' (by rw [List.set_set]) d7 (fun H locs hP hD hS => ?_)
      refine lv_iinc (v := nI (i + 1)) (lv' := [(1, .int (nI (i + 1))), (0, .ref a0)]) C.1 C.2.1 d8 hls (k := 0) rfl (nI_1 i) hnl rfl (fun ls hls => ?_)
      refine lv_goto C.1 C.2.1 d9 t9 ?_
      exact ih (i + 1) (upd f i v') (by omega) (upd_lt hf) H locs ls hP hD hS hls
  intro H locs ls hP hD hS hls
  have e0 : ws.set q1 (a1, .inl (K 3, n, .inl f0)) = ws := by
    apply List.ext_getElem?
    intro j
    by_cases hj : j = q1
    · subst hj; rw [ws_at ha]; exact ha.symm
    · rw [List.getElem?_set_ne (fun e => hj e.symm)]
  refine gen n 0 f0 (by omega) (fun j hj => absurd hj (Nat.not_lt_zero j)) H locs ls (by rw [e0]; exact hP) (by rw [e0]; exact hD) hS ?_
  rw [nI_0]; exact hls
end LOOP
