theorem cn_0 {d : dSt} {k : Nat} : cN d k ≤ cN d (k + 1) := by unfold cN; omega
theorem sn_0 {d : dSt} {k : Nat} : sN d k ≤ sN d (k + 1) := by unfold sN; omega
theorem ix_0 {i : Int32} {n L : Nat} (hi : i.toInt = (n : Int)) (h : n < L) : vp_in i L ∧ i.toNatClampNeg = n := by
  have h2 : i.toNatClampNeg = n := by
    show i.toInt.toNat = n
    rw [hi]; omega
  refine ⟨fun hq => ?_, h2⟩
  rcases hq with hq | hq
  · have h3 : i.toInt < 0 := i_lt hq
    omega
  · omega
theorem len6 {L : Nat} (hL : L ≤ 384) : (Int32.ofNat L - 6).toInt = (L : Int) - 6 := by
  have h1 : (Int32.ofNat L).toInt = (L : Int) := Int32.toInt_ofNat_of_lt (by omega)
  have h2 : (6 : Int32).toInt = 6 := rfl
  rw [Int32.toInt_sub, h1, h2]
  exact Int.bmod_eq_of_le (by omega) (by omega)
theorem law_end {p : Program} {l : Launch} {e : Env} {s : State} {m : MethodId} {below : List Frame} {meth : Method} {c : Code} {b : Nat} {D : va_G} {K : Nat → ClassId} {A : Nat → Prop} (C : kC p s m #[Value.ref b] c cL_law RL 7 D K) (hr : meth.sig.returnType = ret) (hlocks : meth.locks = false) (hA2 : ∀ q, A q → s.heap.size ≤ q) {H : Heap} {locs : List Loc} {ls : Array Slot} {cells slots : Nat} (hc : cells ≤ 600128) (hs : slots ≤ 7301098) (hS : va_S A s.heap H locs) : W p l e room_1 s m #[Value.ref b] below meth c H locs cells slots (lw_Z below #[Value.ref b] s) (F0 m 766 ls []) := by
  refine lv_iconst (v := 1) C.1 C.2.1 dL_law_766 (by decide) ?_
  refine W.widen hc hs ?_
  refine va_forget (fun q hq => hA2 _ (hS.2.2 q hq)) ?_
  exact lw_ret C.1 C.2.1 hr hlocks dL_law_767
theorem law_next {p : Program} {l : Launch} {e : Env} {s : State} {m : MethodId} {below : List Frame} {meth : Method} {c : Code} {b : Nat} {D : va_G} {K : Nat → ClassId} (C : kC p s m #[Value.ref b] c cL_law RL 7 D K) {ad bd : Nat → Nat} {ao : Nat} {H : Heap} {locs : List Loc} {ls : Array Slot} {cells slots : Nat} {k : Nat} {i : Int32} (hi : i.toInt = ((6 * k : Nat) : Int)) (hk : k < 64) (hl : lv_has ls 7 [(4, .int i), (3, .ref ao), (2, .ref (bd 0)), (1, .ref (ad 0)), (0, .ref b)]) (kk : ∀ (ls1 : Array Slot) (i1 : Int32), i1.toInt = ((6 * (k + 1) : Nat) : Int) → lv_has ls1 7 [(4, .int i1), (3, .ref ao), (2, .ref (bd 0)), (1, .ref (ad 0)), (0, .ref b)] → W p l e room_1 s m #[Value.ref b] below meth c H locs cells slots (lw_Z below #[Value.ref b] s) (F0 m 23 ls1 [])) : W p l e room_1 s m #[Value.ref b] below meth c H locs cells slots (lw_Z below #[Value.ref b] s) (F0 m 760 ls []) := by
  refine lv_iinc (v := i + Int32.ofInt 6) (lv' := [(4, .int (i + Int32.ofInt 6)), (3, .ref ao), (2, .ref (bd 0)), (1, .ref (ad 0)), (0, .ref b)]) C.1 C.2.1 dL_law_760 hl (k := 0) rfl rfl (by decide) rfl (fun ls hl => ?_)
  refine lv_goto (tgt := 23) C.1 C.2.1 dL_law_763 (by decide) ?_
  refine kk _ _ ?_ hl
  have h2 : (Int32.ofInt 6).toInt = 6 := rfl
  rw [Int32.toInt_add, hi, h2]
  have h3 : ((6 * (k + 1) : Nat) : Int) = ((6 * k : Nat) : Int) + 6 := by omega
  rw [h3]
  exact Int.bmod_eq_of_le (by omega) (by omega)
set_option maxHeartbeats 4000000 in
set_option maxRecDepth 100000 in
theorem law_step {p : Program} {l : Launch} (htr : l.stackTraces = false) {e : Env} {s : State} {m : MethodId} {below : List Frame} {meth : Method} {c : Code} {b L : Nat} (hL : L ≤ 384) {xs : Nat → Int32} {D : va_G} {K : Nat → ClassId} {A : Nat → Prop} {Z Y : Nat → Nat} (C : kC p s m #[Value.ref b] c cL_law RL 7 D K) (hr : meth.sig.returnType = ret) (hlocks : meth.locks = false) (hX : XX s) (hE : XR Z s) (hZ : XQ Z Y A s s.heap) (hA : ∀ q, s.heap.size ≤ q → A q) (hA2 : ∀ q, A q → s.heap.size ≤ q) (hsc : va_X b L xs s s.heap) (hb : b < s.heap.size) (hbA : ¬ A b) {ad bd : Nat → Nat} {ao : Nat} {k : Nat} (hk64 : k ≤ 64) {i : Int32} (hi : i.toInt = ((6 * k : Nat) : Int)) {t : tSt} {d : dSt} {v : tSt} {o : Nat → Int64} (hp : LwP k t d v) {H : Heap} {locs : List Loc} {ls : Array Slot} (hP : va_P D vwCl (LwW K ad bd ao t d v o) H) (hD : va_D A (LwW K ad bd ao t d v o)) (hS : va_S A s.heap H locs) (hl : lv_has ls 7 [(4, .int i), (3, .ref ao), (2, .ref (bd 0)), (1, .ref (ad 0)), (0, .ref b)]) (ih : k < 64 → ∀ (i1 : Int32), i1.toInt = ((6 * (k + 1) : Nat) : Int) → ∀ (t1 : tSt) (d1 : dSt) (v1 : tSt) (o1 : Nat → Int64) (H1 : Heap) (locs1 : List Loc) (ls1 : Array Slot), LwP (k + 1) t1 d1 v1 → va_P D vwCl (LwW K ad bd ao t1 d1 v1 o1) H1 → va_D A (LwW K ad bd ao t1 d1 v1 o1) → va_S A s.heap H1 locs1 → lv_has ls1 7 [(4, .int i1), (3, .ref ao), (2, .ref (bd 0)), (1, .ref (ad 0)), (0, .ref b)] → W p l e room_1 s m #[Value.ref b] below meth c H1 locs1 (cN d1 (k + 1)) (sN d1 (k + 1)) (lw_Z below #[Value.ref b] s) (F0 m 23 ls1 [])) : W p l e room_1 s m #[Value.ref b] below meth c H locs (cN d k) (sN d k) (lw_Z below #[Value.ref b] s) (F0 m 23 ls []) := by
  refine lv_iload C.1 C.2.1 dL_law_23 (lv_at hl 0 rfl) ?_
  refine lv_aload_n C.1 C.2.1 dL_law_25 rfl (lv_at hl 4 rfl) ?_
  refine va_slen C.1 C.2.1 hsc hb hbA hS dL_law_26 ?_
  refine lv_bipush (v := 6) C.1 C.2.1 dL_law_27 (by decide) ?_
  refine k_isub (v := Int32.ofNat L - 6) C rfl dL_law_29 ?_
  refine lv_icmp_gt (tgt := 766) C.1 C.2.1 dL_law_30 (by decide) (fun _ => law_end C hr hlocks hA2 (cs_le hk64).1 (cs_le hk64).2 hS) (fun hn => ?_)
  have hq6 : 6 * k + 6 ≤ L := by
    have hq7 := i_nlt hn
    rw [len6 hL, hi] at hq7
    omega
  have hk : k < 64 := by omega
  refine lv_aload_n C.1 C.2.1 dL_law_33 rfl (lv_at hl 4 rfl) ?_
  refine lv_iload C.1 C.2.1 dL_law_34 (lv_at hl 0 rfl) ?_
  refine va_sld C.1 C.2.1 hsc hb hbA hS (ix_0 hi (show 6 * k < L by omega)).1 dL_law_36 ?_
  refine lv_bipush (v := 31) C.1 C.2.1 dL_law_37 (by decide) ?_
  obtain ⟨z, hz⟩ : ∃ z, xs i.toNatClampNeg &&& 31 = z := ⟨_, rfl⟩
  refine k_iand (v := z) C hz dL_law_39 ?_
  have kk : ∀ (t1 : tSt) (d1 : dSt) (v1 : tSt) (o1 : Nat → Int64) (H1 : Heap) (locs1 : List Loc) (ls1 : Array Slot), LwP (k + 1) t1 d1 v1 → va_P D vwCl (LwW K ad bd ao t1 d1 v1 o1) H1 → va_D A (LwW K ad bd ao t1 d1 v1 o1) → va_S A s.heap H1 locs1 → lv_has ls1 7 [(4, .int i), (3, .ref ao), (2, .ref (bd 0)), (1, .ref (ad 0)), (0, .ref b)] → W p l e room_1 s m #[Value.ref b] below meth c H1 locs1 (cN d1 (k + 1)) (sN d1 (k + 1)) (lw_Z below #[Value.ref b] s) (F0 m 760 ls1 []) := fun t1 d1 v1 o1 H1 locs1 ls1 a1 a2 a3 a4 a5 => law_next C hi hk a5 (fun ls2 i2 b1 b2 => ih hk i2 b1 t1 d1 v1 o1 H1 locs1 ls2 a1 a2 a3 a4 b2)
  by_cases h0 : z = 0
  · subst h0; exact lv_tableIn (tgt := 160) (off := 120) C.1 C.2.1 dL_law_40 (by decide) (by decide) (by decide +kernel) (by decide) (law_0 htr hL C hr hlocks hX hE hZ hA hA2 hsc hb hbA hk hi hq6 hp hP hD hS hl kk)
  by_cases h1 : z = 1
  · subst h1; exact lv_tableIn (tgt := 233) (off := 193) C.1 C.2.1 dL_law_40 (by decide) (by decide) (by decide +kernel) (by decide) (law_1 htr hL C hr hlocks hX hE hZ hA hA2 hsc hb hbA hk hi hq6 hp hP hD hS hl kk)
  by_cases h2 : z = 2
  · subst h2; exact lv_tableIn (tgt := 258) (off := 218) C.1 C.2.1 dL_law_40 (by decide) (by decide) (by decide +kernel) (by decide) (law_2 htr hL C hr hlocks hX hE hZ hA hA2 hsc hb hbA hk hi hq6 hp hP hD hS hl kk)
  by_cases h3 : z = 3
  · subst h3; exact lv_tableIn (tgt := 271) (off := 231) C.1 C.2.1 dL_law_40 (by decide) (by decide) (by decide +kernel) (by decide) (law_3 htr hL C hr hlocks hX hE hZ hA hA2 hsc hb hbA hk hi hq6 hp hP hD hS hl kk)
  by_cases h4 : z = 4
  · subst h4; exact lv_tableIn (tgt := 284) (off := 244) C.1 C.2.1 dL_law_40 (by decide) (by decide) (by decide +kernel) (by decide) (law_4 htr hL C hr hlocks hX hE hZ hA hA2 hsc hb hbA hk hi hq6 hp hP hD hS hl kk)
  by_cases h5 : z = 5
  · subst h5; exact lv_tableIn (tgt := 297) (off := 257) C.1 C.2.1 dL_law_40 (by decide) (by decide) (by decide +kernel) (by decide) (law_5 htr hL C hr hlocks hX hE hZ hA hA2 hsc hb hbA hk hi hq6 hp hP hD hS hl kk)
  by_cases h6 : z = 6
  · subst h6; exact lv_tableIn (tgt := 310) (off := 270) C.1 C.2.1 dL_law_40 (by decide) (by decide) (by decide +kernel) (by decide) (law_6 htr hL C hr hlocks hX hE hZ hA hA2 hsc hb hbA hk hi hq6 hp hP hD hS hl kk)
  by_cases h7 : z = 7
  · subst h7; exact lv_tableIn (tgt := 335) (off := 295) C.1 C.2.1 dL_law_40 (by decide) (by decide) (by decide +kernel) (by decide) (law_7 htr hL C hr hlocks hX hE hZ hA hA2 hsc hb hbA hk hi hq6 hp hP hD hS hl kk)
  by_cases h8 : z = 8
  · subst h8; exact lv_tableIn (tgt := 348) (off := 308) C.1 C.2.1 dL_law_40 (by decide) (by decide) (by decide +kernel) (by decide) (law_8 htr hL C hr hlocks hX hE hZ hA hA2 hsc hb hbA hk hi hq6 hp hP hD hS hl kk)
  by_cases h9 : z = 9
  · subst h9; exact lv_tableIn (tgt := 361) (off := 321) C.1 C.2.1 dL_law_40 (by decide) (by decide) (by decide +kernel) (by decide) (law_9 htr hL C hr hlocks hX hE hZ hA hA2 hsc hb hbA hk hi hq6 hp hP hD hS hl kk)
  by_cases h10 : z = 10
  · subst h10; exact lv_tableIn (tgt := 374) (off := 334) C.1 C.2.1 dL_law_40 (by decide) (by decide) (by decide +kernel) (by decide) (law_10 htr hL C hr hlocks hX hE hZ hA hA2 hsc hb hbA hk hi hq6 hp hP hD hS hl kk)
  by_cases h11 : z = 11
  · subst h11; exact lv_tableIn (tgt := 387) (off := 347) C.1 C.2.1 dL_law_40 (by decide) (by decide) (by decide +kernel) (by decide) (law_11 htr hL C hr hlocks hX hE hZ hA hA2 hsc hb hbA hk hi hq6 hp hP hD hS hl kk)
  by_cases h12 : z = 12
  · subst h12; exact lv_tableIn (tgt := 400) (off := 360) C.1 C.2.1 dL_law_40 (by decide) (by decide) (by decide +kernel) (by decide) (law_12 htr hL C hr hlocks hX hE hZ hA hA2 hsc hb hbA hk hi hq6 hp hP hD hS hl kk)
  by_cases h13 : z = 13
  · subst h13; exact lv_tableIn (tgt := 425) (off := 385) C.1 C.2.1 dL_law_40 (by decide) (by decide) (by decide +kernel) (by decide) (law_13 htr hL C hr hlocks hX hE hZ hA hA2 hsc hb hbA hk hi hq6 hp hP hD hS hl kk)
  by_cases h14 : z = 14
  · subst h14; exact lv_tableIn (tgt := 462) (off := 422) C.1 C.2.1 dL_law_40 (by decide) (by decide) (by decide +kernel) (by decide) (law_14 htr hL C hr hlocks hX hE hZ hA hA2 hsc hb hbA hk hi hq6 hp hP hD hS hl kk)
  by_cases h15 : z = 15
  · subst h15; exact lv_tableIn (tgt := 475) (off := 435) C.1 C.2.1 dL_law_40 (by decide) (by decide) (by decide +kernel) (by decide) (law_15 htr hL C hr hlocks hX hE hZ hA hA2 hsc hb hbA hk hi hq6 hp hP hD hS hl kk)
  by_cases h16 : z = 16
  · subst h16; exact lv_tableIn (tgt := 512) (off := 472) C.1 C.2.1 dL_law_40 (by decide) (by decide) (by decide +kernel) (by decide) (law_16 htr hL C hr hlocks hX hE hZ hA hA2 hsc hb hbA hk hi hq6 hp hP hD hS hl kk)
  by_cases h17 : z = 17
  · subst h17; exact lv_tableIn (tgt := 525) (off := 485) C.1 C.2.1 dL_law_40 (by decide) (by decide) (by decide +kernel) (by decide) (law_17 htr hL C hr hlocks hX hE hZ hA hA2 hsc hb hbA hk hi hq6 hp hP hD hS hl kk)
  by_cases h18 : z = 18
  · subst h18; exact lv_tableIn (tgt := 538) (off := 498) C.1 C.2.1 dL_law_40 (by decide) (by decide) (by decide +kernel) (by decide) (law_18 htr hL C hr hlocks hX hE hZ hA hA2 hsc hb hbA hk hi hq6 hp hP hD hS hl kk)
  by_cases h19 : z = 19
  · subst h19; exact lv_tableIn (tgt := 566) (off := 526) C.1 C.2.1 dL_law_40 (by decide) (by decide) (by decide +kernel) (by decide) (law_19 htr hL C hr hlocks hX hE hZ hA hA2 hsc hb hbA hk hi hq6 hp hP hD hS hl kk)
  by_cases h20 : z = 20
  · subst h20; exact lv_tableIn (tgt := 594) (off := 554) C.1 C.2.1 dL_law_40 (by decide) (by decide) (by decide +kernel) (by decide) (law_20 htr hL C hr hlocks hX hE hZ hA hA2 hsc hb hbA hk hi hq6 hp hP hD hS hl kk)
  by_cases h21 : z = 21
  · subst h21; exact lv_tableIn (tgt := 607) (off := 567) C.1 C.2.1 dL_law_40 (by decide) (by decide) (by decide +kernel) (by decide) (law_21 htr hL C hr hlocks hX hE hZ hA hA2 hsc hb hbA hk hi hq6 hp hP hD hS hl kk)
  by_cases h22 : z = 22
  · subst h22; exact lv_tableIn (tgt := 623) (off := 583) C.1 C.2.1 dL_law_40 (by decide) (by decide) (by decide +kernel) (by decide) (law_22 htr hL C hr hlocks hX hE hZ hA hA2 hsc hb hbA hk hi hq6 hp hP hD hS hl kk)
  by_cases h23 : z = 23
  · subst h23; exact lv_tableIn (tgt := 648) (off := 608) C.1 C.2.1 dL_law_40 (by decide) (by decide) (by decide +kernel) (by decide) (law_23 htr hL C hr hlocks hX hE hZ hA hA2 hsc hb hbA hk hi hq6 hp hP hD hS hl kk)
  by_cases h24 : z = 24
  · subst h24; exact lv_tableIn (tgt := 697) (off := 657) C.1 C.2.1 dL_law_40 (by decide) (by decide) (by decide +kernel) (by decide) (law_24 htr hL C hr hlocks hX hE hZ hA hA2 hsc hb hbA hk hi hq6 hp hP hD hS hl kk)
  by_cases h25 : z = 25
  · subst h25; exact lv_tableIn (tgt := 749) (off := 709) C.1 C.2.1 dL_law_40 (by decide) (by decide) (by decide +kernel) (by decide) (law_25 htr hL C hr hlocks hX hE hZ hA hA2 hsc hb hbA hk hi hq6 hp hP hD hS hl kk)
  have hne : z.toInt < 0 ∨ 25 < z.toInt := by
    have n0 : ¬ z.toInt = 0 := fun h => h0 (Int32.toInt_inj.mp h)
    have n1 : ¬ z.toInt = 1 := fun h => h1 (Int32.toInt_inj.mp h)
    have n2 : ¬ z.toInt = 2 := fun h => h2 (Int32.toInt_inj.mp h)
    have n3 : ¬ z.toInt = 3 := fun h => h3 (Int32.toInt_inj.mp h)
    have n4 : ¬ z.toInt = 4 := fun h => h4 (Int32.toInt_inj.mp h)
    have n5 : ¬ z.toInt = 5 := fun h => h5 (Int32.toInt_inj.mp h)
    have n6 : ¬ z.toInt = 6 := fun h => h6 (Int32.toInt_inj.mp h)
    have n7 : ¬ z.toInt = 7 := fun h => h7 (Int32.toInt_inj.mp h)
    have n8 : ¬ z.toInt = 8 := fun h => h8 (Int32.toInt_inj.mp h)
    have n9 : ¬ z.toInt = 9 := fun h => h9 (Int32.toInt_inj.mp h)
    have n10 : ¬ z.toInt = 10 := fun h => h10 (Int32.toInt_inj.mp h)
    have n11 : ¬ z.toInt = 11 := fun h => h11 (Int32.toInt_inj.mp h)
    have n12 : ¬ z.toInt = 12 := fun h => h12 (Int32.toInt_inj.mp h)
    have n13 : ¬ z.toInt = 13 := fun h => h13 (Int32.toInt_inj.mp h)
    have n14 : ¬ z.toInt = 14 := fun h => h14 (Int32.toInt_inj.mp h)
    have n15 : ¬ z.toInt = 15 := fun h => h15 (Int32.toInt_inj.mp h)
    have n16 : ¬ z.toInt = 16 := fun h => h16 (Int32.toInt_inj.mp h)
    have n17 : ¬ z.toInt = 17 := fun h => h17 (Int32.toInt_inj.mp h)
    have n18 : ¬ z.toInt = 18 := fun h => h18 (Int32.toInt_inj.mp h)
    have n19 : ¬ z.toInt = 19 := fun h => h19 (Int32.toInt_inj.mp h)
    have n20 : ¬ z.toInt = 20 := fun h => h20 (Int32.toInt_inj.mp h)
    have n21 : ¬ z.toInt = 21 := fun h => h21 (Int32.toInt_inj.mp h)
    have n22 : ¬ z.toInt = 22 := fun h => h22 (Int32.toInt_inj.mp h)
    have n23 : ¬ z.toInt = 23 := fun h => h23 (Int32.toInt_inj.mp h)
    have n24 : ¬ z.toInt = 24 := fun h => h24 (Int32.toInt_inj.mp h)
    have n25 : ¬ z.toInt = 25 := fun h => h25 (Int32.toInt_inj.mp h)
    omega
  exact lv_tableOut (tgt := 760) C.1 C.2.1 dL_law_40 hne (by decide) (W.widen cn_0 sn_0 (kk t d v o H locs ls hp.up hP hD hS hl))
set_option maxHeartbeats 4000000 in
set_option maxRecDepth 100000 in
theorem law_loop {p : Program} {l : Launch} (htr : l.stackTraces = false) {e : Env} {s : State} {m : MethodId} {below : List Frame} {meth : Method} {c : Code} {b L : Nat} (hL : L ≤ 384) {xs : Nat → Int32} {D : va_G} {K : Nat → ClassId} {A : Nat → Prop} {Z Y : Nat → Nat} (C : kC p s m #[Value.ref b] c cL_law RL 7 D K) (hr : meth.sig.returnType = ret) (hlocks : meth.locks = false) (hX : XX s) (hE : XR Z s) (hZ : XQ Z Y A s s.heap) (hA : ∀ q, s.heap.size ≤ q → A q) (hA2 : ∀ q, A q → s.heap.size ≤ q) (hsc : va_X b L xs s s.heap) (hb : b < s.heap.size) (hbA : ¬ A b) {ad bd : Nat → Nat} {ao : Nat} : ∀ (n k : Nat), k + n = 64 → ∀ (i : Int32), i.toInt = ((6 * k : Nat) : Int) → ∀ (t : tSt) (d : dSt) (v : tSt) (o : Nat → Int64) (H : Heap) (locs : List Loc) (ls : Array Slot), LwP k t d v → va_P D vwCl (LwW K ad bd ao t d v o) H → va_D A (LwW K ad bd ao t d v o) → va_S A s.heap H locs → lv_has ls 7 [(4, .int i), (3, .ref ao), (2, .ref (bd 0)), (1, .ref (ad 0)), (0, .ref b)] → W p l e room_1 s m #[Value.ref b] below meth c H locs (cN d k) (sN d k) (lw_Z below #[Value.ref b] s) (F0 m 23 ls []) := by
  intro n
  induction n with
  | zero =>
    intro k hkn i hi t d v o H locs ls hp hP hD hS hl
    exact law_step htr hL C hr hlocks hX hE hZ hA hA2 hsc hb hbA (by omega) hi hp hP hD hS hl (fun h => absurd h (by omega))
  | succ n ih =>
    intro k hkn i hi t d v o H locs ls hp hP hD hS hl
    exact law_step htr hL C hr hlocks hX hE hZ hA hA2 hsc hb hbA (by omega) hi hp hP hD hS hl (fun _ i1 h1 t1 d1 v1 o1 H1 locs1 ls1 b1 b2 b3 b4 b5 => ih (k + 1) (by omega) i1 h1 t1 d1 v1 o1 H1 locs1 ls1 b1 b2 b3 b4 b5)
