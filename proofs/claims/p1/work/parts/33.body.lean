set_option maxHeartbeats 4000000 in
set_option maxRecDepth 100000 in
theorem law_body {p : Program} {l : Launch} (htr : l.stackTraces = false) {e : Env} {s : State} {m : MethodId} {below : List Frame} {meth : Method} {c : Code} {b : Nat} {L : Nat} (hL : L ≤ 6) {xs : Nat → Int32} {D : va_G} {K : Nat → ClassId} {A : Nat → Prop} (C : kC p s m #[Value.ref b] c cL_law RL 7 D K) (hr : meth.sig.returnType = ret) (hlocks : meth.locks = false) (hX : XX s) (hE : XE s) (hZ : XZ A s s.heap) (hA : ∀ q, s.heap.size ≤ q → A q) (hA2 : ∀ q, A q → s.heap.size ≤ q) (hsc : va_X b L xs s s.heap) (hb : b < s.heap.size) (hbA : ¬ A b) (u v : Nat → Nat) (xa ya oa : Nat) {H : Heap} {locs : List Loc} {ls : Array Slot} (hP : va_P D vwCl (W0 K u v xa ya oa) H) (hD : va_D A (W0 K u v xa ya oa)) (hS : va_S A s.heap H locs) (hl : lv_has ls 7 [(4, .int 0), (3, .ref oa), (2, .ref ya), (1, .ref xa), (0, .ref b)]) : W p l e room_1 s m #[Value.ref b] below meth c H locs 98 445732 (lw_Z below #[Value.ref b] s) (F0 m 23 ls []) := by
  refine lv_iload C.1 C.2.1 dL_law_23 (lv_at hl 0 rfl) ?_
  refine lv_aload_n C.1 C.2.1 dL_law_25 rfl (lv_at hl 4 rfl) ?_
  refine va_slen C.1 C.2.1 hsc hb hbA hS dL_law_26 ?_
  refine lv_bipush (v := 6) C.1 C.2.1 dL_law_27 (by decide) ?_
  refine k_isub (v := Int32.ofNat L - 6) C rfl dL_law_29 ?_
  refine lv_icmp_gt (tgt := 879) C.1 C.2.1 dL_law_30 (by decide) (fun _ => law_end C hr hlocks hA2 (Nat.le_of_ble_eq_true rfl) (Nat.le_of_ble_eq_true rfl) hS) (fun hn => ?_)
  have h6 : L = 6 := by
    have key : ∀ k, k < 6 → Int32.ofNat k - 6 < 0 := by decide
    rcases Nat.lt_or_ge L 6 with h | h
    · exact absurd (key L h) hn
    · omega
  subst h6
  refine lv_aload_n C.1 C.2.1 dL_law_33 rfl (lv_at hl 4 rfl) ?_
  refine lv_iload C.1 C.2.1 dL_law_34 (lv_at hl 0 rfl) ?_
  refine k_sld (v := xs 0) (j := 0) C hsc hb hbA hS (vin (by decide)) (by decide) rfl dL_law_36 ?_
  refine lv_bipush (v := 31) C.1 C.2.1 dL_law_37 (by decide) ?_
  obtain ⟨z, hz⟩ : ∃ z, xs 0 &&& 31 = z := ⟨_, rfl⟩
  refine k_iand (v := z) C hz dL_law_39 ?_
  by_cases h0 : z = 0
  · subst h0; exact lv_tableIn (tgt := 160) (off := 120) C.1 C.2.1 dL_law_40 (by decide) (by decide) (by decide +kernel) (by decide) (law_0 htr C hr hlocks hX hE hZ hA hA2 hsc hb hbA _ _ _ _ _ rfl rfl rfl rfl rfl u v xa ya oa hP hD hS hl)
  by_cases h1 : z = 1
  · subst h1; exact lv_tableIn (tgt := 233) (off := 193) C.1 C.2.1 dL_law_40 (by decide) (by decide) (by decide +kernel) (by decide) (law_1 htr C hr hlocks hX hE hZ hA hA2 hsc hb hbA _ _ _ _ _ rfl rfl rfl rfl rfl u v xa ya oa hP hD hS hl)
  by_cases h2 : z = 2
  · subst h2; exact lv_tableIn (tgt := 258) (off := 218) C.1 C.2.1 dL_law_40 (by decide) (by decide) (by decide +kernel) (by decide) (law_2 htr C hr hlocks hX hE hZ hA hA2 hsc hb hbA _ _ _ _ _ rfl rfl rfl rfl rfl u v xa ya oa hP hD hS hl)
  by_cases h3 : z = 3
  · subst h3; exact lv_tableIn (tgt := 271) (off := 231) C.1 C.2.1 dL_law_40 (by decide) (by decide) (by decide +kernel) (by decide) (law_3 htr C hr hlocks hX hE hZ hA hA2 hsc hb hbA _ _ _ _ _ rfl rfl rfl rfl rfl u v xa ya oa hP hD hS hl)
  by_cases h4 : z = 4
  · subst h4; exact lv_tableIn (tgt := 284) (off := 244) C.1 C.2.1 dL_law_40 (by decide) (by decide) (by decide +kernel) (by decide) (law_4 htr C hr hlocks hX hE hZ hA hA2 hsc hb hbA _ _ _ _ _ rfl rfl rfl rfl rfl u v xa ya oa hP hD hS hl)
  by_cases h5 : z = 5
  · subst h5; exact lv_tableIn (tgt := 297) (off := 257) C.1 C.2.1 dL_law_40 (by decide) (by decide) (by decide +kernel) (by decide) (law_5 htr C hr hlocks hX hE hZ hA hA2 hsc hb hbA _ _ _ _ _ rfl rfl rfl rfl rfl u v xa ya oa hP hD hS hl)
  by_cases h6 : z = 6
  · subst h6; exact lv_tableIn (tgt := 310) (off := 270) C.1 C.2.1 dL_law_40 (by decide) (by decide) (by decide +kernel) (by decide) (law_6 htr C hr hlocks hX hE hZ hA hA2 hsc hb hbA _ _ _ _ _ rfl rfl rfl rfl rfl u v xa ya oa hP hD hS hl)
  by_cases h7 : z = 7
  · subst h7; exact lv_tableIn (tgt := 335) (off := 295) C.1 C.2.1 dL_law_40 (by decide) (by decide) (by decide +kernel) (by decide) (law_7 htr C hr hlocks hX hE hZ hA hA2 hsc hb hbA _ _ _ _ _ rfl rfl rfl rfl rfl u v xa ya oa hP hD hS hl)
  by_cases h8 : z = 8
  · subst h8; exact lv_tableIn (tgt := 348) (off := 308) C.1 C.2.1 dL_law_40 (by decide) (by decide) (by decide +kernel) (by decide) (law_8 htr C hr hlocks hX hE hZ hA hA2 hsc hb hbA _ _ _ _ _ rfl rfl rfl rfl rfl u v xa ya oa hP hD hS hl)
  by_cases h9 : z = 9
  · subst h9; exact lv_tableIn (tgt := 361) (off := 321) C.1 C.2.1 dL_law_40 (by decide) (by decide) (by decide +kernel) (by decide) (law_9 htr C hr hlocks hX hE hZ hA hA2 hsc hb hbA _ _ _ _ _ rfl rfl rfl rfl rfl u v xa ya oa hP hD hS hl)
  by_cases h10 : z = 10
  · subst h10; exact lv_tableIn (tgt := 374) (off := 334) C.1 C.2.1 dL_law_40 (by decide) (by decide) (by decide +kernel) (by decide) (law_10 htr C hr hlocks hX hE hZ hA hA2 hsc hb hbA _ _ _ _ _ rfl rfl rfl rfl rfl u v xa ya oa hP hD hS hl)
  by_cases h11 : z = 11
  · subst h11; exact lv_tableIn (tgt := 387) (off := 347) C.1 C.2.1 dL_law_40 (by decide) (by decide) (by decide +kernel) (by decide) (law_11 htr C hr hlocks hX hE hZ hA hA2 hsc hb hbA _ _ _ _ _ rfl rfl rfl rfl rfl u v xa ya oa hP hD hS hl)
  by_cases h12 : z = 12
  · subst h12; exact lv_tableIn (tgt := 400) (off := 360) C.1 C.2.1 dL_law_40 (by decide) (by decide) (by decide +kernel) (by decide) (law_12 htr C hr hlocks hX hE hZ hA hA2 hsc hb hbA _ _ _ _ _ rfl rfl rfl rfl rfl u v xa ya oa hP hD hS hl)
  by_cases h13 : z = 13
  · subst h13; exact lv_tableIn (tgt := 425) (off := 385) C.1 C.2.1 dL_law_40 (by decide) (by decide) (by decide +kernel) (by decide) (law_13 htr C hr hlocks hX hE hZ hA hA2 hsc hb hbA _ _ _ _ _ rfl rfl rfl rfl rfl u v xa ya oa hP hD hS hl)
  by_cases h14 : z = 14
  · subst h14; exact lv_tableIn (tgt := 462) (off := 422) C.1 C.2.1 dL_law_40 (by decide) (by decide) (by decide +kernel) (by decide) (law_14 htr C hr hlocks hX hE hZ hA hA2 hsc hb hbA _ _ _ _ _ rfl rfl rfl rfl rfl u v xa ya oa hP hD hS hl)
  by_cases h15 : z = 15
  · subst h15; exact lv_tableIn (tgt := 475) (off := 435) C.1 C.2.1 dL_law_40 (by decide) (by decide) (by decide +kernel) (by decide) (law_15 htr C hr hlocks hX hE hZ hA hA2 hsc hb hbA _ _ _ _ _ rfl rfl rfl rfl rfl u v xa ya oa hP hD hS hl)
  by_cases h16 : z = 16
  · subst h16; exact lv_tableIn (tgt := 512) (off := 472) C.1 C.2.1 dL_law_40 (by decide) (by decide) (by decide +kernel) (by decide) (law_16 htr C hr hlocks hX hE hZ hA hA2 hsc hb hbA _ _ _ _ _ rfl rfl rfl rfl rfl u v xa ya oa hP hD hS hl)
  by_cases h17 : z = 17
  · subst h17; exact lv_tableIn (tgt := 525) (off := 485) C.1 C.2.1 dL_law_40 (by decide) (by decide) (by decide +kernel) (by decide) (law_17 htr C hr hlocks hX hE hZ hA hA2 hsc hb hbA _ _ _ _ _ rfl rfl rfl rfl rfl u v xa ya oa hP hD hS hl)
  by_cases h18 : z = 18
  · subst h18; exact lv_tableIn (tgt := 538) (off := 498) C.1 C.2.1 dL_law_40 (by decide) (by decide) (by decide +kernel) (by decide) (law_18 htr C hr hlocks hX hE hZ hA hA2 hsc hb hbA _ _ _ _ _ rfl rfl rfl rfl rfl u v xa ya oa hP hD hS hl)
  by_cases h19 : z = 19
  · subst h19; exact lv_tableIn (tgt := 594) (off := 554) C.1 C.2.1 dL_law_40 (by decide) (by decide) (by decide +kernel) (by decide) (law_19 htr C hr hlocks hX hE hZ hA hA2 hsc hb hbA _ _ _ _ _ rfl rfl rfl rfl rfl u v xa ya oa hP hD hS hl)
  by_cases h20 : z = 20
  · subst h20; exact lv_tableIn (tgt := 650) (off := 610) C.1 C.2.1 dL_law_40 (by decide) (by decide) (by decide +kernel) (by decide) (law_20 htr C hr hlocks hX hE hZ hA hA2 hsc hb hbA _ _ _ _ _ rfl rfl rfl rfl rfl u v xa ya oa hP hD hS hl)
  by_cases h21 : z = 21
  · subst h21; exact lv_tableIn (tgt := 664) (off := 624) C.1 C.2.1 dL_law_40 (by decide) (by decide) (by decide +kernel) (by decide) (law_21 htr C hr hlocks hX hE hZ hA hA2 hsc hb hbA _ _ _ _ _ rfl rfl rfl rfl rfl u v xa ya oa hP hD hS hl)
  by_cases h22 : z = 22
  · subst h22; exact lv_tableIn (tgt := 708) (off := 668) C.1 C.2.1 dL_law_40 (by decide) (by decide) (by decide +kernel) (by decide) (law_22 htr C hr hlocks hX hE hZ hA hA2 hsc hb hbA _ _ _ _ _ rfl rfl rfl rfl rfl u v xa ya oa hP hD hS hl)
  by_cases h23 : z = 23
  · subst h23; exact lv_tableIn (tgt := 733) (off := 693) C.1 C.2.1 dL_law_40 (by decide) (by decide) (by decide +kernel) (by decide) (law_23 htr C hr hlocks hX hE hZ hA hA2 hsc hb hbA _ _ _ _ _ rfl rfl rfl rfl rfl u v xa ya oa hP hD hS hl)
  by_cases h24 : z = 24
  · subst h24; exact lv_tableIn (tgt := 782) (off := 742) C.1 C.2.1 dL_law_40 (by decide) (by decide) (by decide +kernel) (by decide) (law_24 htr C hr hlocks hX hE hZ hA hA2 hsc hb hbA _ _ _ _ _ rfl rfl rfl rfl rfl u v xa ya oa hP hD hS hl)
  by_cases h25 : z = 25
  · subst h25; exact lv_tableIn (tgt := 862) (off := 822) C.1 C.2.1 dL_law_40 (by decide) (by decide) (by decide +kernel) (by decide) (law_25 htr C hr hlocks hX hE hZ hA hA2 hsc hb hbA _ _ _ _ _ rfl rfl rfl rfl rfl u v xa ya oa hP hD hS hl)
  have hne : z.toInt < 0 ∨ 25 < z.toInt := by
    have n0 : ¬ z.toInt = 0 := fun h => h0 (Int32.toInt_inj.mp h)
    have n1 : ¬ z.toInt = 1 := fun h => h1 (Int32.toInt_inj.mp h)
    have n2 : ¬ z.toInt = 2 := fun h => h2 (Int32.toInt_inj.mp h)
    have n3 : ¬ z.toInt = 3 := fun h => h3 (Int32.toInt_inj.mp h)
    have n4 : ¬ z.toInt = 4 := fun h => h4 (Int32.toInt_inj.mp h)
    have n5 : ¬ z.toInt = 5 := fun h => h5 (Int32.toInt_inj.mp h)
    have n6 : ¬ z.toInt = 6 := fun h => h6 (Int32.toInt_inj.mp h)
    have n7 : ¬ z.toInt = 7 := fun h => h7 (Int32.toInt_inj.mp h)
    have n8 : ¬ z.toInt = 8 := fun h => h8 (Int32.toInt_inj.mp h)
    have n9 : ¬ z.toInt = 9 := fun h => h9 (Int32.toInt_inj.mp h)
    have n10 : ¬ z.toInt = 10 := fun h => h10 (Int32.toInt_inj.mp h)
    have n11 : ¬ z.toInt = 11 := fun h => h11 (Int32.toInt_inj.mp h)
    have n12 : ¬ z.toInt = 12 := fun h => h12 (Int32.toInt_inj.mp h)
    have n13 : ¬ z.toInt = 13 := fun h => h13 (Int32.toInt_inj.mp h)
    have n14 : ¬ z.toInt = 14 := fun h => h14 (Int32.toInt_inj.mp h)
    have n15 : ¬ z.toInt = 15 := fun h => h15 (Int32.toInt_inj.mp h)
    have n16 : ¬ z.toInt = 16 := fun h => h16 (Int32.toInt_inj.mp h)
    have n17 : ¬ z.toInt = 17 := fun h => h17 (Int32.toInt_inj.mp h)
    have n18 : ¬ z.toInt = 18 := fun h => h18 (Int32.toInt_inj.mp h)
    have n19 : ¬ z.toInt = 19 := fun h => h19 (Int32.toInt_inj.mp h)
    have n20 : ¬ z.toInt = 20 := fun h => h20 (Int32.toInt_inj.mp h)
    have n21 : ¬ z.toInt = 21 := fun h => h21 (Int32.toInt_inj.mp h)
    have n22 : ¬ z.toInt = 22 := fun h => h22 (Int32.toInt_inj.mp h)
    have n23 : ¬ z.toInt = 23 := fun h => h23 (Int32.toInt_inj.mp h)
    have n24 : ¬ z.toInt = 24 := fun h => h24 (Int32.toInt_inj.mp h)
    have n25 : ¬ z.toInt = 25 := fun h => h25 (Int32.toInt_inj.mp h)
    omega
  exact lv_tableOut (tgt := 873) C.1 C.2.1 dL_law_40 hne (by decide) (law_tail C hr hlocks hA2 hsc hb hbA (Nat.le_of_ble_eq_true rfl) (Nat.le_of_ble_eq_true rfl) hS (lv_sub hl [0, 4] rfl))
