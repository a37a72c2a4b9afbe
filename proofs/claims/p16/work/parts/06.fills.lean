theorem dJ7_fill_d0a16_0 : decode cJ7_fill_d0a16 0 = .ok (.iconst 0, 1) := by decide +kernel
theorem dJ7_fill_d0a16_1 : decode cJ7_fill_d0a16 1 = .ok (.istore_n 3, 1) := by decide +kernel
theorem dJ7_fill_d0a16_2 : decode cJ7_fill_d0a16 2 = .ok (.aload_n 0, 1) := by decide +kernel
theorem dJ7_fill_d0a16_3 : decode cJ7_fill_d0a16 3 = .ok (.arraylength, 1) := by decide +kernel
theorem dJ7_fill_d0a16_4 : decode cJ7_fill_d0a16 4 = .ok (.istore 4, 2) := by decide +kernel
theorem dJ7_fill_d0a16_6 : decode cJ7_fill_d0a16 6 = .ok (.iload_n 3, 1) := by decide +kernel
theorem dJ7_fill_d0a16_7 : decode cJ7_fill_d0a16 7 = .ok (.iload 4, 2) := by decide +kernel
theorem dJ7_fill_d0a16_9 : decode cJ7_fill_d0a16 9 = .ok (.if_icmp .ge 13, 3) := by decide +kernel
theorem dJ7_fill_d0a16_12 : decode cJ7_fill_d0a16 12 = .ok (.aload_n 0, 1) := by decide +kernel
theorem dJ7_fill_d0a16_13 : decode cJ7_fill_d0a16 13 = .ok (.iload_n 3, 1) := by decide +kernel
theorem dJ7_fill_d0a16_14 : decode cJ7_fill_d0a16 14 = .ok (.lload_n 1, 1) := by decide +kernel
theorem dJ7_fill_d0a16_15 : decode cJ7_fill_d0a16 15 = .ok (.lastore, 1) := by decide +kernel
theorem dJ7_fill_d0a16_16 : decode cJ7_fill_d0a16 16 = .ok (.iinc 3 1, 3) := by decide +kernel
theorem dJ7_fill_d0a16_19 : decode cJ7_fill_d0a16 19 = .ok (.goto (-13), 3) := by decide +kernel
theorem dJ7_fill_d0a16_22 : decode cJ7_fill_d0a16 22 = .ok (.return_, 1) := by decide +kernel
theorem dJ7_fill_53178_0 : decode cJ7_fill_53178 0 = .ok (.iconst 0, 1) := by decide +kernel
theorem dJ7_fill_53178_1 : decode cJ7_fill_53178 1 = .ok (.istore_n 2, 1) := by decide +kernel
theorem dJ7_fill_53178_2 : decode cJ7_fill_53178 2 = .ok (.aload_n 0, 1) := by decide +kernel
theorem dJ7_fill_53178_3 : decode cJ7_fill_53178 3 = .ok (.arraylength, 1) := by decide +kernel
theorem dJ7_fill_53178_4 : decode cJ7_fill_53178 4 = .ok (.istore_n 3, 1) := by decide +kernel
theorem dJ7_fill_53178_5 : decode cJ7_fill_53178 5 = .ok (.iload_n 2, 1) := by decide +kernel
theorem dJ7_fill_53178_6 : decode cJ7_fill_53178 6 = .ok (.iload_n 3, 1) := by decide +kernel
theorem dJ7_fill_53178_7 : decode cJ7_fill_53178 7 = .ok (.if_icmp .ge 13, 3) := by decide +kernel
theorem dJ7_fill_53178_10 : decode cJ7_fill_53178 10 = .ok (.aload_n 0, 1) := by decide +kernel
theorem dJ7_fill_53178_11 : decode cJ7_fill_53178 11 = .ok (.iload_n 2, 1) := by decide +kernel
theorem dJ7_fill_53178_12 : decode cJ7_fill_53178 12 = .ok (.iload_n 1, 1) := by decide +kernel
theorem dJ7_fill_53178_13 : decode cJ7_fill_53178 13 = .ok (.iastore, 1) := by decide +kernel
theorem dJ7_fill_53178_14 : decode cJ7_fill_53178 14 = .ok (.iinc 2 1, 3) := by decide +kernel
theorem dJ7_fill_53178_17 : decode cJ7_fill_53178 17 = .ok (.goto (-12), 3) := by decide +kernel
theorem dJ7_fill_53178_20 : decode cJ7_fill_53178 20 = .ok (.return_, 1) := by decide +kernel
theorem dJ7_fill_031fb_0 : decode cJ7_fill_031fb 0 = .ok (.iconst 0, 1) := by decide +kernel
theorem dJ7_fill_031fb_1 : decode cJ7_fill_031fb 1 = .ok (.istore_n 2, 1) := by decide +kernel
theorem dJ7_fill_031fb_2 : decode cJ7_fill_031fb 2 = .ok (.aload_n 0, 1) := by decide +kernel
theorem dJ7_fill_031fb_3 : decode cJ7_fill_031fb 3 = .ok (.arraylength, 1) := by decide +kernel
theorem dJ7_fill_031fb_4 : decode cJ7_fill_031fb 4 = .ok (.istore_n 3, 1) := by decide +kernel
theorem dJ7_fill_031fb_5 : decode cJ7_fill_031fb 5 = .ok (.iload_n 2, 1) := by decide +kernel
theorem dJ7_fill_031fb_6 : decode cJ7_fill_031fb 6 = .ok (.iload_n 3, 1) := by decide +kernel
theorem dJ7_fill_031fb_7 : decode cJ7_fill_031fb 7 = .ok (.if_icmp .ge 13, 3) := by decide +kernel
theorem dJ7_fill_031fb_10 : decode cJ7_fill_031fb 10 = .ok (.aload_n 0, 1) := by decide +kernel
theorem dJ7_fill_031fb_11 : decode cJ7_fill_031fb 11 = .ok (.iload_n 2, 1) := by decide +kernel
theorem dJ7_fill_031fb_12 : decode cJ7_fill_031fb 12 = .ok (.iload_n 1, 1) := by decide +kernel
theorem dJ7_fill_031fb_13 : decode cJ7_fill_031fb 13 = .ok (.bastore, 1) := by decide +kernel
theorem dJ7_fill_031fb_14 : decode cJ7_fill_031fb 14 = .ok (.iinc 2 1, 3) := by decide +kernel
theorem dJ7_fill_031fb_17 : decode cJ7_fill_031fb 17 = .ok (.goto (-12), 3) := by decide +kernel
theorem dJ7_fill_031fb_20 : decode cJ7_fill_031fb 20 = .ok (.return_, 1) := by decide +kernel

set_option maxHeartbeats 4000000 in
set_option maxRecDepth 100000 in
/-- Arrays.fill -/
theorem c_fillI (l : Launch) (D : va_G) (K : Nat → ClassId) (a0 n : Nat) (hn : n < 2 ^ 31) (f0 : Nat → Int32) (v v' : Int32) (hv' : v = v') : uMet l yJ7_fill_53178 cJ7_fill_53178 4 none (rmD 0 0 0) D K X0 [.ref a0, .int v] [(a0, .inl (K 0, n, .inl f0))] (QV D K (fun (u : Nat → Nat) => True) (fun (u : Nat → Nat) => [(a0, .inl (K 0, n, .inl (fun _ => v')))])) 0 0 := by
  refine k_met RJ7 ⟨rfl, by decide +kernel⟩ (Nat.le_of_ble_eq_true rfl) ?_
  intro p e s m below meth c A ls C hX hr hlocks hin hA hP hD hS hl
  have hl : lv_has ls 4 [(0, .ref a0), (1, .int v)] := hl
  refine lv_iconst (v := 0) C.1 C.2.1 dJ7_fill_53178_0 (by decide) ?_
  refine lv_istore_n (lv' := [(2, .int 0), (0, .ref a0), (1, .int v)]) C.1 C.2.1 dJ7_fill_53178_1 rfl hl (by decide) rfl (fun ls hl => ?_)
  refine lv_aload_n C.1 C.2.1 dJ7_fill_53178_2 rfl (lv_at hl 1 rfl) ?_
  refine k_len (v := nI n) C hP 0 0 rfl rfl rfl dJ7_fill_53178_3 ?_
  refine lv_istore_n (lv' := [(3, .int (nI n)), (2, .int 0), (0, .ref a0), (1, .int v)]) C.1 C.2.1 dJ7_fill_53178_4 rfl hl (by decide) rfl (fun ls hl => ?_)
  have gen : ∀ (r i : Nat) (f : Nat → Int32), i + r = n → (∀ j, j < i → f j = v') → ∀ (H : Heap) (locs : List Loc) (ls : Array Slot), va_P D vwCl [(a0, .inl (K 0, n, .inl f))] H → va_D A [(a0, .inl (K 0, n, .inl f))] → va_S A s.heap H locs → lv_has ls 4 [(2, .int (nI i)), (3, .int (nI n)), (0, .ref a0), (1, .int v)] → W p l e (rmD 0 0 0) s m [.ref a0, .int v].toArray below meth c H locs 0 0 (MQ below (QV D K (fun (u : Nat → Nat) => True) (fun (u : Nat → Nat) => [(a0, .inl (K 0, n, .inl (fun _ => v')))]) A) [.ref a0, .int v].toArray s 0 0 A) (F0 m 5 ls []) := by
    intro r
    induction r with
    | zero =>
      intro i f hi hf H locs ls hP hD hS hl
      have hin' : i = n := by omega
      subst hin'
      refine lv_iload_n C.1 C.2.1 dJ7_fill_53178_5 rfl (lv_at hl 0 rfl) ?_
      refine lv_iload_n C.1 C.2.1 dJ7_fill_53178_6 rfl (lv_at hl 1 rfl) ?_
      refine lv_icmp_ge (tgt := 20) C.1 C.2.1 dJ7_fill_53178_7 (by decide) (fun _ => ?_) (fun hh => absurd (nI_le (Nat.le_refl i) hn) hh)
      have hP : va_P D vwCl [(a0, .inl (K 0, i, .inl (fun _ => v')))] H := arr_eq (ws := [(a0, .inl (K 0, i, .inl f))]) (q := 0) hP (fun j hj => hf j hj)
      have hD : va_D A [(a0, .inl (K 0, i, .inl (fun _ => v')))] := hD.set (p := 0) (e := .inl (K 0, i, .inl (fun _ => v'))) rfl
      exact k_vret C hr hlocks hP hD hS (fun _ => 0) [0] rfl rfl trivial (Nat.le_refl _) (Nat.le_refl _) dJ7_fill_53178_20
    | succ r ih =>
      intro i f hi hf H locs ls hP hD hS hl
      have hlt : i < n := by omega
      refine lv_iload_n C.1 C.2.1 dJ7_fill_53178_5 rfl (lv_at hl 0 rfl) ?_
      refine lv_iload_n C.1 C.2.1 dJ7_fill_53178_6 rfl (lv_at hl 1 rfl) ?_
      refine lv_icmp_ge (tgt := 20) C.1 C.2.1 dJ7_fill_53178_7 (by decide) (fun hh => absurd hh (nI_ge hlt hn)) (fun _ => ?_)
      refine lv_aload_n C.1 C.2.1 dJ7_fill_53178_10 rfl (lv_at hl 2 rfl) ?_
      refine lv_iload_n C.1 C.2.1 dJ7_fill_53178_11 rfl (lv_at hl 0 rfl) ?_
      refine lv_iload_n C.1 C.2.1 dJ7_fill_53178_12 rfl (lv_at hl 3 rfl) ?_
      refine k_ist (ws' := [(a0, .inl (K 0, n, .inl (upd f i v')))]) C hP hD hS 0 rfl (vp_in_nI hlt hn) (nI_clamp (by omega)) hv' rfl dJ7_fill_53178_13 (fun H locs hP hD hS => ?_)
      refine lv_iinc (v := nI (i + 1)) (lv' := [(2, .int (nI (i + 1))), (3, .int (nI n)), (0, .ref a0), (1, .int v)]) C.1 C.2.1 dJ7_fill_53178_14 hl (k := 0) rfl (nI_1 i) (by decide) rfl (fun ls hl => ?_)
      refine lv_goto (tgt := 5) C.1 C.2.1 dJ7_fill_53178_17 (by decide) ?_
      exact ih (i + 1) (upd f i v') (by omega) (upd_lt hf) H locs ls hP hD hS hl
  exact gen n 0 f0 (by omega) (fun j hj => absurd hj (Nat.not_lt_zero j)) _ _ _ hP hD hS (by rw [nI_0]; exact lv_sub hl [1, 0, 2, 3] rfl)

set_option maxHeartbeats 4000000 in
set_option maxRecDepth 100000 in
/-- Arrays.fill -/
theorem c_fillB (l : Launch) (D : va_G) (K : Nat → ClassId) (a0 n : Nat) (hn : n < 2 ^ 31) (f0 : Nat → Int32) (v v' : Int32) (hv' : vp_nar .byte v = v') : uMet l yJ7_fill_031fb cJ7_fill_031fb 4 none (rmD 0 0 0) D K X0 [.ref a0, .int v] [(a0, .inl (K 2, n, .inl f0))] (QV D K (fun (u : Nat → Nat) => True) (fun (u : Nat → Nat) => [(a0, .inl (K 2, n, .inl (fun _ => v')))])) 0 0 := by
  refine k_met RJ7 ⟨rfl, by decide +kernel⟩ (Nat.le_of_ble_eq_true rfl) ?_
  intro p e s m below meth c A ls C hX hr hlocks hin hA hP hD hS hl
  have hl : lv_has ls 4 [(0, .ref a0), (1, .int v)] := hl
  refine lv_iconst (v := 0) C.1 C.2.1 dJ7_fill_031fb_0 (by decide) ?_
  refine lv_istore_n (lv' := [(2, .int 0), (0, .ref a0), (1, .int v)]) C.1 C.2.1 dJ7_fill_031fb_1 rfl hl (by decide) rfl (fun ls hl => ?_)
  refine lv_aload_n C.1 C.2.1 dJ7_fill_031fb_2 rfl (lv_at hl 1 rfl) ?_
  refine k_len (v := nI n) C hP 0 2 rfl rfl rfl dJ7_fill_031fb_3 ?_
  refine lv_istore_n (lv' := [(3, .int (nI n)), (2, .int 0), (0, .ref a0), (1, .int v)]) C.1 C.2.1 dJ7_fill_031fb_4 rfl hl (by decide) rfl (fun ls hl => ?_)
  have gen : ∀ (r i : Nat) (f : Nat → Int32), i + r = n → (∀ j, j < i → f j = v') → ∀ (H : Heap) (locs : List Loc) (ls : Array Slot), va_P D vwCl [(a0, .inl (K 2, n, .inl f))] H → va_D A [(a0, .inl (K 2, n, .inl f))] → va_S A s.heap H locs → lv_has ls 4 [(2, .int (nI i)), (3, .int (nI n)), (0, .ref a0), (1, .int v)] → W p l e (rmD 0 0 0) s m [.ref a0, .int v].toArray below meth c H locs 0 0 (MQ below (QV D K (fun (u : Nat → Nat) => True) (fun (u : Nat → Nat) => [(a0, .inl (K 2, n, .inl (fun _ => v')))]) A) [.ref a0, .int v].toArray s 0 0 A) (F0 m 5 ls []) := by
    intro r
    induction r with
    | zero =>
      intro i f hi hf H locs ls hP hD hS hl
      have hin' : i = n := by omega
      subst hin'
      refine lv_iload_n C.1 C.2.1 dJ7_fill_031fb_5 rfl (lv_at hl 0 rfl) ?_
      refine lv_iload_n C.1 C.2.1 dJ7_fill_031fb_6 rfl (lv_at hl 1 rfl) ?_
      refine lv_icmp_ge (tgt := 20) C.1 C.2.1 dJ7_fill_031fb_7 (by decide) (fun _ => ?_) (fun hh => absurd (nI_le (Nat.le_refl i) hn) hh)
      have hP : va_P D vwCl [(a0, .inl (K 2, i, .inl (fun _ => v')))] H := arr_eq (ws := [(a0, .inl (K 2, i, .inl f))]) (q := 0) hP (fun j hj => hf j hj)
      have hD : va_D A [(a0, .inl (K 2, i, .inl (fun _ => v')))] := hD.set (p := 0) (e := .inl (K 2, i, .inl (fun _ => v'))) rfl
      exact k_vret C hr hlocks hP hD hS (fun _ => 0) [0] rfl rfl trivial (Nat.le_refl _) (Nat.le_refl _) dJ7_fill_031fb_20
    | succ r ih =>
      intro i f hi hf H locs ls hP hD hS hl
      have hlt : i < n := by omega
      refine lv_iload_n C.1 C.2.1 dJ7_fill_031fb_5 rfl (lv_at hl 0 rfl) ?_
      refine lv_iload_n C.1 C.2.1 dJ7_fill_031fb_6 rfl (lv_at hl 1 rfl) ?_
      refine lv_icmp_ge (tgt := 20) C.1 C.2.1 dJ7_fill_031fb_7 (by decide) (fun hh => absurd hh (nI_ge hlt hn)) (fun _ => ?_)
      refine lv_aload_n C.1 C.2.1 dJ7_fill_031fb_10 rfl (lv_at hl 2 rfl) ?_
      refine lv_iload_n C.1 C.2.1 dJ7_fill_031fb_11 rfl (lv_at hl 0 rfl) ?_
      refine lv_iload_n C.1 C.2.1 dJ7_fill_031fb_12 rfl (lv_at hl 3 rfl) ?_
      refine k_bst (ws' := [(a0, .inl (K 2, n, .inl (upd f i v')))]) C hP hD hS 0 rfl (vp_in_nI hlt hn) (nI_clamp (by omega)) hv' rfl dJ7_fill_031fb_13 (fun H locs hP hD hS => ?_)
      refine lv_iinc (v := nI (i + 1)) (lv' := [(2, .int (nI (i + 1))), (3, .int (nI n)), (0, .ref a0), (1, .int v)]) C.1 C.2.1 dJ7_fill_031fb_14 hl (k := 0) rfl (nI_1 i) (by decide) rfl (fun ls hl => ?_)
      refine lv_goto (tgt := 5) C.1 C.2.1 dJ7_fill_031fb_17 (by decide) ?_
      exact ih (i + 1) (upd f i v') (by omega) (upd_lt hf) H locs ls hP hD hS hl
  exact gen n 0 f0 (by omega) (fun j hj => absurd hj (Nat.not_lt_zero j)) _ _ _ hP hD hS (by rw [nI_0]; exact lv_sub hl [1, 0, 2, 3] rfl)

set_option maxHeartbeats 4000000 in
set_option maxRecDepth 100000 in
/-- Arrays.fill -/
theorem c_fillL (l : Launch) (D : va_G) (K : Nat → ClassId) (a0 n : Nat) (hn : n < 2 ^ 31) (f0 : Nat → Int64) (v v' : Int64) (hv' : v = v') : uMet l yJ7_fill_d0a16 cJ7_fill_d0a16 5 none (rmD 0 0 0) D K X0 [.ref a0, .long v] [(a0, .inl (K 1, n, .inr (.inl f0)))] (QV D K (fun (u : Nat → Nat) => True) (fun (u : Nat → Nat) => [(a0, .inl (K 1, n, .inr (.inl (fun _ => v'))))])) 0 0 := by
  refine k_met RJ7 ⟨rfl, by decide +kernel⟩ (Nat.le_of_ble_eq_true rfl) ?_
  intro p e s m below meth c A ls C hX hr hlocks hin hA hP hD hS hl
  have hl : lv_has ls 5 [(0, .ref a0), (1, .long v)] := hl
  refine lv_iconst (v := 0) C.1 C.2.1 dJ7_fill_d0a16_0 (by decide) ?_
  refine lv_istore_n (lv' := [(3, .int 0), (0, .ref a0), (1, .long v)]) C.1 C.2.1 dJ7_fill_d0a16_1 rfl hl (by decide) rfl (fun ls hl => ?_)
  refine lv_aload_n C.1 C.2.1 dJ7_fill_d0a16_2 rfl (lv_at hl 1 rfl) ?_
  refine k_len (v := nI n) C hP 0 1 rfl rfl rfl dJ7_fill_d0a16_3 ?_
  refine lv_istore (lv' := [(4, .int (nI n)), (3, .int 0), (0, .ref a0), (1, .long v)]) C.1 C.2.1 dJ7_fill_d0a16_4 hl (by decide) rfl (fun ls hl => ?_)
  have gen : ∀ (r i : Nat) (f : Nat → Int64), i + r = n → (∀ j, j < i → f j = v') → ∀ (H : Heap) (locs : List Loc) (ls : Array Slot), va_P D vwCl [(a0, .inl (K 1, n, .inr (.inl f)))] H → va_D A [(a0, .inl (K 1, n, .inr (.inl f)))] → va_S A s.heap H locs → lv_has ls 5 [(3, .int (nI i)), (4, .int (nI n)), (0, .ref a0), (1, .long v)] → W p l e (rmD 0 0 0) s m [.ref a0, .long v].toArray below meth c H locs 0 0 (MQ below (QV D K (fun (u : Nat → Nat) => True) (fun (u : Nat → Nat) => [(a0, .inl (K 1, n, .inr (.inl (fun _ => v'))))]) A) [.ref a0, .long v].toArray s 0 0 A) (F0 m 6 ls []) := by
    intro r
    induction r with
    | zero =>
      intro i f hi hf H locs ls hP hD hS hl
      have hin' : i = n := by omega
      subst hin'
      refine lv_iload_n C.1 C.2.1 dJ7_fill_d0a16_6 rfl (lv_at hl 0 rfl) ?_
      refine lv_iload C.1 C.2.1 dJ7_fill_d0a16_7 (lv_at hl 1 rfl) ?_
      refine lv_icmp_ge (tgt := 22) C.1 C.2.1 dJ7_fill_d0a16_9 (by decide) (fun _ => ?_) (fun hh => absurd (nI_le (Nat.le_refl i) hn) hh)
      have hP : va_P D vwCl [(a0, .inl (K 1, i, .inr (.inl (fun _ => v'))))] H := arr_eqL (ws := [(a0, .inl (K 1, i, .inr (.inl f)))]) (q := 0) hP (fun j hj => hf j hj)
      have hD : va_D A [(a0, .inl (K 1, i, .inr (.inl (fun _ => v'))))] := hD.set (p := 0) (e := .inl (K 1, i, .inr (.inl (fun _ => v')))) rfl
      exact k_vret C hr hlocks hP hD hS (fun _ => 0) [0] rfl rfl trivial (Nat.le_refl _) (Nat.le_refl _) dJ7_fill_d0a16_22
    | succ r ih =>
      intro i f hi hf H locs ls hP hD hS hl
      have hlt : i < n := by omega
      refine lv_iload_n C.1 C.2.1 dJ7_fill_d0a16_6 rfl (lv_at hl 0 rfl) ?_
      refine lv_iload C.1 C.2.1 dJ7_fill_d0a16_7 (lv_at hl 1 rfl) ?_
      refine lv_icmp_ge (tgt := 22) C.1 C.2.1 dJ7_fill_d0a16_9 (by decide) (fun hh => absurd hh (nI_ge hlt hn)) (fun _ => ?_)
      refine lv_aload_n C.1 C.2.1 dJ7_fill_d0a16_12 rfl (lv_at hl 2 rfl) ?_
      refine lv_iload_n C.1 C.2.1 dJ7_fill_d0a16_13 rfl (lv_at hl 0 rfl) ?_
      refine lv_lload_n C.1 C.2.1 dJ7_fill_d0a16_14 rfl (lv_at hl 3 rfl) ?_
      refine k_lst (ws' := [(a0, .inl (K 1, n, .inr (.inl (vp_updL f i v'))))]) C hP hD hS 0 rfl (vp_in_nI hlt hn) (nI_clamp (by omega)) hv' rfl dJ7_fill_d0a16_15 (fun H locs hP hD hS => ?_)
      refine lv_iinc (v := nI (i + 1)) (lv' := [(3, .int (nI (i + 1))), (4, .int (nI n)), (0, .ref a0), (1, .long v)]) C.1 C.2.1 dJ7_fill_d0a16_16 hl (k := 0) rfl (nI_1 i) (by decide) rfl (fun ls hl => ?_)
      refine lv_goto (tgt := 6) C.1 C.2.1 dJ7_fill_d0a16_19 (by decide) ?_
      exact ih (i + 1) (vp_updL f i v') (by omega) (updL_lt hf) H locs ls hP hD hS hl
  exact gen n 0 f0 (by omega) (fun j hj => absurd hj (Nat.not_lt_zero j)) _ _ _ hP hD hS (by rw [nI_0]; exact lv_sub hl [1, 0, 2, 3] rfl)
