theorem dJ6_compare_7cf53_0 : decode cJ6_compare_7cf53 0 = .ok (.iload_n 0, 1) := by decide +kernel
theorem dJ6_compare_7cf53_1 : decode cJ6_compare_7cf53 1 = .ok (.iload_n 1, 1) := by decide +kernel
theorem dJ6_compare_7cf53_10 : decode cJ6_compare_7cf53 10 = .ok (.iload_n 1, 1) := by decide +kernel
theorem dJ6_compare_7cf53_11 : decode cJ6_compare_7cf53 11 = .ok (.if_icmp .ne 7, 3) := by decide +kernel
theorem dJ6_compare_7cf53_14 : decode cJ6_compare_7cf53 14 = .ok (.iconst 0, 1) := by decide +kernel
theorem dJ6_compare_7cf53_15 : decode cJ6_compare_7cf53 15 = .ok (.goto 4, 3) := by decide +kernel
theorem dJ6_compare_7cf53_18 : decode cJ6_compare_7cf53 18 = .ok (.iconst 1, 1) := by decide +kernel
theorem dJ6_compare_7cf53_19 : decode cJ6_compare_7cf53 19 = .ok (.ireturn, 1) := by decide +kernel
theorem dJ6_compare_7cf53_2 : decode cJ6_compare_7cf53 2 = .ok (.if_icmp .ge 7, 3) := by decide +kernel
theorem dJ6_compare_7cf53_5 : decode cJ6_compare_7cf53 5 = .ok (.iconst (-1), 1) := by decide +kernel
theorem dJ6_compare_7cf53_6 : decode cJ6_compare_7cf53 6 = .ok (.goto 13, 3) := by decide +kernel
theorem dJ6_compare_7cf53_9 : decode cJ6_compare_7cf53 9 = .ok (.iload_n 0, 1) := by decide +kernel
theorem List.set_eq_of_getElem? {α : Type} {l : List α} {q : Nat} {x : α} (h : l[q]? = some x) : l.set q x = l := by
  obtain ⟨hq, e⟩ := List.getElem?_eq_some_iff.mp h
  rw [← e]; exact List.set_getElem_self hq
theorem mx_r {x y v : Int32} (h : v = if x < y then y else x) : (x.toInt ≤ y.toInt ∧ v.toInt = y.toInt) ∨ (y.toInt ≤ x.toInt ∧ v.toInt = x.toInt) := by
  by_cases q : x < y
  · rw [h, if_pos q]; exact Or.inl ⟨Int.le_of_lt (i_lt q), rfl⟩
  · rw [h, if_neg q]; exact Or.inr ⟨i_nlt q, rfl⟩
theorem mn_r {x y v : Int32} (h : v = if y < x then y else x) : (y.toInt ≤ x.toInt ∧ v.toInt = y.toInt) ∨ (x.toInt ≤ y.toInt ∧ v.toInt = x.toInt) := by
  by_cases q : y < x
  · rw [h, if_pos q]; exact Or.inl ⟨Int.le_of_lt (i_lt q), rfl⟩
  · rw [h, if_neg q]; exact Or.inr ⟨i_nlt q, rfl⟩
/-- a row changed as a whole -/
def uF (t : tSt) (j : Nat) (f : Nat → Int32) : tSt := (t.1, t.2.1, (fun a => if a = j then f else t.2.2.1 a), t.2.2.2)
theorem okB_F {T : List (Int × Int)} {t : tSt} (h : okB T t) (j : Nat) {f : Nat → Int32} (hf : ∀ i, (ta T j).1 ≤ (f i).toInt ∧ (f i).toInt ≤ (ta T j).2) : okB T (uF t j f) := by
  intro a b
  show _ ≤ ((if a = j then f else t.2.2.1 a) b).toInt ∧ ((if a = j then f else t.2.2.1 a) b).toInt ≤ _
  by_cases ha : a = j
  · subst ha; simpa using hf b
  · simpa [ha] using h a b
theorem cpy_r {f g : Nat → Int32} {a b n : Nat} {lo hi : Int} (hf : ∀ i, lo ≤ (f i).toInt ∧ (f i).toInt ≤ hi) (hg : ∀ i, lo ≤ (g i).toInt ∧ (g i).toInt ≤ hi) : ∀ i, lo ≤ (va_cpy f g a b n i).toInt ∧ (va_cpy f g a b n i).toInt ≤ hi := by
  intro i
  unfold va_cpy
  split
  · exact hf _
  · exact hg _
theorem frA_F {mi mj : List (Nat × Nat)} {mb mg : List Nat} {t u : tSt} (h : frA mi mj mb mg t u) (j : Nat) (f : Nat → Int32) (hm : mb.contains j = true) : frA mi mj mb mg t (uF u j f) := by
  refine ⟨h.1, h.2.1, fun a hab => ?_, h.2.2.2⟩
  show (if a = j then f else u.2.2.1 a) = _
  by_cases ha : a = j
  · subst ha; rw [hm] at hab; cases hab
  · simpa [ha] using h.2.2.1 a hab
theorem frA_fB {mi mj : List (Nat × Nat)} {mb mg : List Nat} {t u : tSt} (h : frA mi mj mb mg t u) (j : Nat) (v : Int32) (hm : mb.contains j = true) : frA mi mj mb mg t (fB u j v) := by
  refine ⟨h.1, h.2.1, fun a hab => ?_, h.2.2.2⟩
  show (if a = j then (fun _ => v) else u.2.2.1 a) = _
  by_cases ha : a = j
  · subst ha; rw [hm] at hab; cases hab
  · simpa [ha] using h.2.2.1 a hab
theorem frA_fG {mi mj : List (Nat × Nat)} {mb mg : List Nat} {t u : tSt} (h : frA mi mj mb mg t u) (j : Nat) (v : Int64) (hm : mg.contains j = true) : frA mi mj mb mg t (fG u j v) := by
  refine ⟨h.1, h.2.1, h.2.2.1, fun a hab => ?_⟩
  show (if a = j then (fun _ => v) else u.2.2.2 a) = _
  by_cases ha : a = j
  · subst ha; rw [hm] at hab; cases hab
  · simpa [ha] using h.2.2.2 a hab
/-- the cells that are made late: which of them are there, and what they hold: 900 lines of paper, 16 tapes and disks, the reader's pool, the monitor's image -/
abbrev dSt : Type := (Nat → Option Nat) × (Nat → Nat → Int32)
def dKd (k : Nat) : Nat := if k < 900 then 2 else if k < 916 then 0 else if k < 917 then 2 else 0
def dN (k : Nat) : Nat := if k < 900 then 120 else if k < 916 then 6400 else if k < 917 then 32400 else 4000
def dynW (K : Nat → ClassId) (d : dSt) : va_W := (List.range 918).filterMap (fun k => (d.1 k).map (fun a => (a, .inl (K (dKd k), dN k, .inl (d.2 k)))))
/-- a row of late cells: so many places from the place b on -/
def dR (d : dSt) (b n : Nat) : Nat → Option Nat := fun i => if i < n then d.1 (b + i) else none
/-- a late cell that is new, at q; the content of a late cell changed -/
def nD (d : dSt) (k q : Nat) : dSt := (fun j => if j = k then some q else d.1 j, fun j => if j = k then (fun _ => 0) else d.2 j)
def cD (d : dSt) (k : Nat) (f : Nat → Int32) : dSt := (d.1, fun j => if j = k then f else d.2 j)
/-- the reader's pool holds bytes -/
def okD (d : dSt) : Prop := ∀ i, (-128 : Int) ≤ (d.2 916 i).toInt ∧ (d.2 916 i).toInt ≤ 127
theorem cmp_r (x y : Int32) : (-1 : Int) ≤ (if x < y then (-1 : Int32) else if x = y then 0 else 1).toInt ∧ (if x < y then (-1 : Int32) else if x = y then 0 else 1).toInt ≤ 1 := by
  split
  · decide
  · split <;> decide
set_option maxHeartbeats 4000000 in
set_option maxRecDepth 100000 in
theorem TJ_fillI (l : Launch) (D : va_G) (K : Nat → ClassId) (Z Y : Nat → Nat) (ws : va_W) (q a0 n : Nat) (hn : n < 2 ^ 31) (f0 : Nat → Int32) (v v' : Int32) (he : ws[q]? = some (a0, .inl (K 0, n, .inl f0))) (hv' : v = v') : tMet l yJ7_fill_53178 cJ7_fill_53178 4 none (rmD 0 0 0) D K Z Y [.ref a0, .int v] ws (QV D K (fun (u : Unit) => True) (fun (u : Unit) => ws.set q (a0, .inl (K 0, n, .inl (fun _ => v'))))) 0 0 := by
  refine t_met RJ7 ⟨rfl, by decide +kernel⟩ (Nat.le_of_ble_eq_true rfl) ?_
  intro p e s m below meth c A ls C hE hZ hr hlocks hA hP hD hS hl
  have hl : lv_has ls 4 [(0, .ref a0), (1, .int v)] := hl
  refine lv_iconst (v := 0) C.1 C.2.1 dJ7_fill_53178_0 (by decide) ?_
  refine lv_istore_n (lv' := [(2, .int 0), (0, .ref a0), (1, .int v)]) C.1 C.2.1 dJ7_fill_53178_1 rfl hl (by decide) rfl (fun ls hl => ?_)
  refine lv_aload_n C.1 C.2.1 dJ7_fill_53178_2 rfl (lv_at hl 1 rfl) ?_
  refine k_len (v := nI n) C hP q 0 he rfl rfl dJ7_fill_53178_3 ?_
  refine lv_istore_n (lv' := [(3, .int (nI n)), (2, .int 0), (0, .ref a0), (1, .int v)]) C.1 C.2.1 dJ7_fill_53178_4 rfl hl (by decide) rfl (fun ls hl => ?_)
  have gen : ∀ (r i : Nat) (f : Nat → Int32), i + r = n → (∀ j, j < i → f j = v') → ∀ (H : Heap) (locs : List Loc) (ls : Array Slot), va_P D vwCl (ws.set q (a0, .inl (K 0, n, .inl f))) H → va_D A (ws.set q (a0, .inl (K 0, n, .inl f))) → va_S A s.heap H locs → lv_has ls 4 [(2, .int (nI i)), (3, .int (nI n)), (0, .ref a0), (1, .int v)] → W p l e (rmD 0 0 0) s m [.ref a0, .int v].toArray below meth c H locs 0 0 (MQ below (QV D K (fun (u : Unit) => True) (fun (u : Unit) => ws.set q (a0, .inl (K 0, n, .inl (fun _ => v')))) A) [.ref a0, .int v].toArray s 0 0 A) (F0 m 5 ls []) := by
    intro r
    induction r with
    | zero =>
      intro i f hi hf H locs ls hP hD hS hl
      have hin' : i = n := by omega
      subst hin'
      refine lv_iload_n C.1 C.2.1 dJ7_fill_53178_5 rfl (lv_at hl 0 rfl) ?_
      refine lv_iload_n C.1 C.2.1 dJ7_fill_53178_6 rfl (lv_at hl 1 rfl) ?_
      refine lv_icmp_ge (tgt := 20) C.1 C.2.1 dJ7_fill_53178_7 (by decide) (fun _ => ?_) (fun hh => absurd (nI_le (Nat.le_refl i) hn) hh)
      have hP : va_P D vwCl (ws.set q (a0, .inl (K 0, i, .inl (fun _ => v')))) H := arr_eq hP (fun j hj => hf j hj)
      have hD : va_D A (ws.set q (a0, .inl (K 0, i, .inl (fun _ => v')))) := by have h9 := hD.set (p := q) (e := .inl (K 0, i, .inl (fun _ => v'))) (ws_at he); rw [List.set_set] at h9; exact h9
      exact g_vret C hr hlocks hP hD hS () rfl trivial (Nat.le_refl _) (Nat.le_refl _) dJ7_fill_53178_20
    | succ r ih =>
      intro i f hi hf H locs ls hP hD hS hl
      have hlt : i < n := by omega
      refine lv_iload_n C.1 C.2.1 dJ7_fill_53178_5 rfl (lv_at hl 0 rfl) ?_
      refine lv_iload_n C.1 C.2.1 dJ7_fill_53178_6 rfl (lv_at hl 1 rfl) ?_
      refine lv_icmp_ge (tgt := 20) C.1 C.2.1 dJ7_fill_53178_7 (by decide) (fun hh => absurd hh (nI_ge hlt hn)) (fun _ => ?_)
      refine lv_aload_n C.1 C.2.1 dJ7_fill_53178_10 rfl (lv_at hl 2 rfl) ?_
      refine lv_iload_n C.1 C.2.1 dJ7_fill_53178_11 rfl (lv_at hl 0 rfl) ?_
      refine lv_iload_n C.1 C.2.1 dJ7_fill_53178_12 rfl (lv_at hl 3 rfl) ?_
      refine k_ist (ws' := ws.set q (a0, .inl (K 0, n, .inl (upd f i v')))) C hP hD hS q (ws_at he) (vp_in_nI hlt hn) (nI_clamp (by omega)) hv' (List.set_set _) dJ7_fill_53178_13 (fun H locs hP hD hS => ?_)
      refine lv_iinc (v := nI (i + 1)) (lv' := [(2, .int (nI (i + 1))), (3, .int (nI n)), (0, .ref a0), (1, .int v)]) C.1 C.2.1 dJ7_fill_53178_14 hl (k := 0) rfl (nI_1 i) (by decide) rfl (fun ls hl => ?_)
      refine lv_goto (tgt := 5) C.1 C.2.1 dJ7_fill_53178_17 (by decide) ?_
      exact ih (i + 1) (upd f i v') (by omega) (upd_lt hf) H locs ls hP hD hS hl
  have h0 : ws.set q (a0, .inl (K 0, n, .inl f0)) = ws := List.set_eq_of_getElem? he
  exact gen n 0 f0 (by omega) (fun j hj => absurd hj (Nat.not_lt_zero j)) _ _ _ (by rw [h0]; exact hP) (by rw [h0]; exact hD) hS (by rw [nI_0]; exact lv_sub hl [1, 0, 2, 3] rfl)

set_option maxHeartbeats 4000000 in
set_option maxRecDepth 100000 in
theorem TJ_fillB (l : Launch) (D : va_G) (K : Nat → ClassId) (Z Y : Nat → Nat) (ws : va_W) (q a0 n : Nat) (hn : n < 2 ^ 31) (f0 : Nat → Int32) (v v' : Int32) (he : ws[q]? = some (a0, .inl (K 2, n, .inl f0))) (hv' : vp_nar .byte v = v') : tMet l yJ7_fill_031fb cJ7_fill_031fb 4 none (rmD 0 0 0) D K Z Y [.ref a0, .int v] ws (QV D K (fun (u : Unit) => True) (fun (u : Unit) => ws.set q (a0, .inl (K 2, n, .inl (fun _ => v'))))) 0 0 := by
  refine t_met RJ7 ⟨rfl, by decide +kernel⟩ (Nat.le_of_ble_eq_true rfl) ?_
  intro p e s m below meth c A ls C hE hZ hr hlocks hA hP hD hS hl
  have hl : lv_has ls 4 [(0, .ref a0), (1, .int v)] := hl
  refine lv_iconst (v := 0) C.1 C.2.1 dJ7_fill_031fb_0 (by decide) ?_
  refine lv_istore_n (lv' := [(2, .int 0), (0, .ref a0), (1, .int v)]) C.1 C.2.1 dJ7_fill_031fb_1 rfl hl (by decide) rfl (fun ls hl => ?_)
  refine lv_aload_n C.1 C.2.1 dJ7_fill_031fb_2 rfl (lv_at hl 1 rfl) ?_
  refine k_len (v := nI n) C hP q 2 he rfl rfl dJ7_fill_031fb_3 ?_
  refine lv_istore_n (lv' := [(3, .int (nI n)), (2, .int 0), (0, .ref a0), (1, .int v)]) C.1 C.2.1 dJ7_fill_031fb_4 rfl hl (by decide) rfl (fun ls hl => ?_)
  have gen : ∀ (r i : Nat) (f : Nat → Int32), i + r = n → (∀ j, j < i → f j = v') → ∀ (H : Heap) (locs : List Loc) (ls : Array Slot), va_P D vwCl (ws.set q (a0, .inl (K 2, n, .inl f))) H → va_D A (ws.set q (a0, .inl (K 2, n, .inl f))) → va_S A s.heap H locs → lv_has ls 4 [(2, .int (nI i)), (3, .int (nI n)), (0, .ref a0), (1, .int v)] → W p l e (rmD 0 0 0) s m [.ref a0, .int v].toArray below meth c H locs 0 0 (MQ below (QV D K (fun (u : Unit) => True) (fun (u : Unit) => ws.set q (a0, .inl (K 2, n, .inl (fun _ => v')))) A) [.ref a0, .int v].toArray s 0 0 A) (F0 m 5 ls []) := by
    intro r
    induction r with
    | zero =>
      intro i f hi hf H locs ls hP hD hS hl
      have hin' : i = n := by omega
      subst hin'
      refine lv_iload_n C.1 C.2.1 dJ7_fill_031fb_5 rfl (lv_at hl 0 rfl) ?_
      refine lv_iload_n C.1 C.2.1 dJ7_fill_031fb_6 rfl (lv_at hl 1 rfl) ?_
      refine lv_icmp_ge (tgt := 20) C.1 C.2.1 dJ7_fill_031fb_7 (by decide) (fun _ => ?_) (fun hh => absurd (nI_le (Nat.le_refl i) hn) hh)
      have hP : va_P D vwCl (ws.set q (a0, .inl (K 2, i, .inl (fun _ => v')))) H := arr_eq hP (fun j hj => hf j hj)
      have hD : va_D A (ws.set q (a0, .inl (K 2, i, .inl (fun _ => v')))) := by have h9 := hD.set (p := q) (e := .inl (K 2, i, .inl (fun _ => v'))) (ws_at he); rw [List.set_set] at h9; exact h9
      exact g_vret C hr hlocks hP hD hS () rfl trivial (Nat.le_refl _) (Nat.le_refl _) dJ7_fill_031fb_20
    | succ r ih =>
      intro i f hi hf H locs ls hP hD hS hl
      have hlt : i < n := by omega
      refine lv_iload_n C.1 C.2.1 dJ7_fill_031fb_5 rfl (lv_at hl 0 rfl) ?_
      refine lv_iload_n C.1 C.2.1 dJ7_fill_031fb_6 rfl (lv_at hl 1 rfl) ?_
      refine lv_icmp_ge (tgt := 20) C.1 C.2.1 dJ7_fill_031fb_7 (by decide) (fun hh => absurd hh (nI_ge hlt hn)) (fun _ => ?_)
      refine lv_aload_n C.1 C.2.1 dJ7_fill_031fb_10 rfl (lv_at hl 2 rfl) ?_
      refine lv_iload_n C.1 C.2.1 dJ7_fill_031fb_11 rfl (lv_at hl 0 rfl) ?_
      refine lv_iload_n C.1 C.2.1 dJ7_fill_031fb_12 rfl (lv_at hl 3 rfl) ?_
      refine k_bst (ws' := ws.set q (a0, .inl (K 2, n, .inl (upd f i v')))) C hP hD hS q (ws_at he) (vp_in_nI hlt hn) (nI_clamp (by omega)) hv' (List.set_set _) dJ7_fill_031fb_13 (fun H locs hP hD hS => ?_)
      refine lv_iinc (v := nI (i + 1)) (lv' := [(2, .int (nI (i + 1))), (3, .int (nI n)), (0, .ref a0), (1, .int v)]) C.1 C.2.1 dJ7_fill_031fb_14 hl (k := 0) rfl (nI_1 i) (by decide) rfl (fun ls hl => ?_)
      refine lv_goto (tgt := 5) C.1 C.2.1 dJ7_fill_031fb_17 (by decide) ?_
      exact ih (i + 1) (upd f i v') (by omega) (upd_lt hf) H locs ls hP hD hS hl
  have h0 : ws.set q (a0, .inl (K 2, n, .inl f0)) = ws := List.set_eq_of_getElem? he
  exact gen n 0 f0 (by omega) (fun j hj => absurd hj (Nat.not_lt_zero j)) _ _ _ (by rw [h0]; exact hP) (by rw [h0]; exact hD) hS (by rw [nI_0]; exact lv_sub hl [1, 0, 2, 3] rfl)

set_option maxHeartbeats 4000000 in
set_option maxRecDepth 100000 in
theorem TJ_fillL (l : Launch) (D : va_G) (K : Nat → ClassId) (Z Y : Nat → Nat) (ws : va_W) (q a0 n : Nat) (hn : n < 2 ^ 31) (f0 : Nat → Int64) (v v' : Int64) (he : ws[q]? = some (a0, .inl (K 1, n, .inr (.inl f0)))) (hv' : v = v') : tMet l yJ7_fill_d0a16 cJ7_fill_d0a16 5 none (rmD 0 0 0) D K Z Y [.ref a0, .long v] ws (QV D K (fun (u : Unit) => True) (fun (u : Unit) => ws.set q (a0, .inl (K 1, n, .inr (.inl (fun _ => v')))))) 0 0 := by
  refine t_met RJ7 ⟨rfl, by decide +kernel⟩ (Nat.le_of_ble_eq_true rfl) ?_
  intro p e s m below meth c A ls C hE hZ hr hlocks hA hP hD hS hl
  have hl : lv_has ls 5 [(0, .ref a0), (1, .long v)] := hl
  refine lv_iconst (v := 0) C.1 C.2.1 dJ7_fill_d0a16_0 (by decide) ?_
  refine lv_istore_n (lv' := [(3, .int 0), (0, .ref a0), (1, .long v)]) C.1 C.2.1 dJ7_fill_d0a16_1 rfl hl (by decide) rfl (fun ls hl => ?_)
  refine lv_aload_n C.1 C.2.1 dJ7_fill_d0a16_2 rfl (lv_at hl 1 rfl) ?_
  refine k_len (v := nI n) C hP q 1 he rfl rfl dJ7_fill_d0a16_3 ?_
  refine lv_istore (lv' := [(4, .int (nI n)), (3, .int 0), (0, .ref a0), (1, .long v)]) C.1 C.2.1 dJ7_fill_d0a16_4 hl (by decide) rfl (fun ls hl => ?_)
  have gen : ∀ (r i : Nat) (f : Nat → Int64), i + r = n → (∀ j, j < i → f j = v') → ∀ (H : Heap) (locs : List Loc) (ls : Array Slot), va_P D vwCl (ws.set q (a0, .inl (K 1, n, .inr (.inl f)))) H → va_D A (ws.set q (a0, .inl (K 1, n, .inr (.inl f)))) → va_S A s.heap H locs → lv_has ls 5 [(3, .int (nI i)), (4, .int (nI n)), (0, .ref a0), (1, .long v)] → W p l e (rmD 0 0 0) s m [.ref a0, .long v].toArray below meth c H locs 0 0 (MQ below (QV D K (fun (u : Unit) => True) (fun (u : Unit) => ws.set q (a0, .inl (K 1, n, .inr (.inl (fun _ => v'))))) A) [.ref a0, .long v].toArray s 0 0 A) (F0 m 6 ls []) := by
    intro r
    induction r with
    | zero =>
      intro i f hi hf H locs ls hP hD hS hl
      have hin' : i = n := by omega
      subst hin'
      refine lv_iload_n C.1 C.2.1 dJ7_fill_d0a16_6 rfl (lv_at hl 0 rfl) ?_
      refine lv_iload C.1 C.2.1 dJ7_fill_d0a16_7 (lv_at hl 1 rfl) ?_
      refine lv_icmp_ge (tgt := 22) C.1 C.2.1 dJ7_fill_d0a16_9 (by decide) (fun _ => ?_) (fun hh => absurd (nI_le (Nat.le_refl i) hn) hh)
      have hP : va_P D vwCl (ws.set q (a0, .inl (K 1, i, .inr (.inl (fun _ => v'))))) H := arr_eqL hP (fun j hj => hf j hj)
      have hD : va_D A (ws.set q (a0, .inl (K 1, i, .inr (.inl (fun _ => v'))))) := by have h9 := hD.set (p := q) (e := .inl (K 1, i, .inr (.inl (fun _ => v')))) (ws_at he); rw [List.set_set] at h9; exact h9
      exact g_vret C hr hlocks hP hD hS () rfl trivial (Nat.le_refl _) (Nat.le_refl _) dJ7_fill_d0a16_22
    | succ r ih =>
      intro i f hi hf H locs ls hP hD hS hl
      have hlt : i < n := by omega
      refine lv_iload_n C.1 C.2.1 dJ7_fill_d0a16_6 rfl (lv_at hl 0 rfl) ?_
      refine lv_iload C.1 C.2.1 dJ7_fill_d0a16_7 (lv_at hl 1 rfl) ?_
      refine lv_icmp_ge (tgt := 22) C.1 C.2.1 dJ7_fill_d0a16_9 (by decide) (fun hh => absurd hh (nI_ge hlt hn)) (fun _ => ?_)
      refine lv_aload_n C.1 C.2.1 dJ7_fill_d0a16_12 rfl (lv_at hl 2 rfl) ?_
      refine lv_iload_n C.1 C.2.1 dJ7_fill_d0a16_13 rfl (lv_at hl 0 rfl) ?_
      refine lv_lload_n C.1 C.2.1 dJ7_fill_d0a16_14 rfl (lv_at hl 3 rfl) ?_
      refine k_lst (ws' := ws.set q (a0, .inl (K 1, n, .inr (.inl (vp_updL f i v'))))) C hP hD hS q (ws_at he) (vp_in_nI hlt hn) (nI_clamp (by omega)) hv' (List.set_set _) dJ7_fill_d0a16_15 (fun H locs hP hD hS => ?_)
      refine lv_iinc (v := nI (i + 1)) (lv' := [(3, .int (nI (i + 1))), (4, .int (nI n)), (0, .ref a0), (1, .long v)]) C.1 C.2.1 dJ7_fill_d0a16_16 hl (k := 0) rfl (nI_1 i) (by decide) rfl (fun ls hl => ?_)
      refine lv_goto (tgt := 6) C.1 C.2.1 dJ7_fill_d0a16_19 (by decide) ?_
      exact ih (i + 1) (vp_updL f i v') (by omega) (updL_lt hf) H locs ls hP hD hS hl
  have h0 : ws.set q (a0, .inl (K 1, n, .inr (.inl f0))) = ws := List.set_eq_of_getElem? he
  exact gen n 0 f0 (by omega) (fun j hj => absurd hj (Nat.not_lt_zero j)) _ _ _ (by rw [h0]; exact hP) (by rw [h0]; exact hD) hS (by rw [nI_0]; exact lv_sub hl [1, 0, 2, 3] rfl)

theorem TJ_compare (l : Launch) (D : va_G) (K : Nat → ClassId) (Z Y : Nat → Nat) (ws : va_W) (x z : Int32) : tMet l yJ6_compare_7cf53 cJ6_compare_7cf53 2 (some .int) (rmD 0 0 0) D K Z Y [.int x, .int z] ws (QI D K (fun (r : Int32) (_ : Unit) => (-1 : Int) ≤ r.toInt ∧ r.toInt ≤ 1) (fun (_ : Unit) => ws)) 0 0 := by
  refine t_met RJ6 ⟨rfl, by decide +kernel⟩ (Nat.le_of_ble_eq_true rfl) ?_
  intro p e s m below meth c A ls C hE hZ hr hlocks hA hP hD hS hl
  have hl : lv_has ls 2 [(0, .int x), (1, .int z)] := hl
  refine lv_iload_n C.1 C.2.1 dJ6_compare_7cf53_0 rfl (lv_at hl 0 rfl) ?_
  refine lv_iload_n C.1 C.2.1 dJ6_compare_7cf53_1 rfl (lv_at hl 1 rfl) ?_
  refine lv_icmp_ge (tgt := 9) C.1 C.2.1 dJ6_compare_7cf53_2 (by decide) (fun _ => ?_) (fun _ => ?_)
  · refine lv_iload_n C.1 C.2.1 dJ6_compare_7cf53_9 rfl (lv_at hl 0 rfl) ?_
    refine lv_iload_n C.1 C.2.1 dJ6_compare_7cf53_10 rfl (lv_at hl 1 rfl) ?_
    refine lv_icmp_ne (tgt := 18) C.1 C.2.1 dJ6_compare_7cf53_11 (by decide) (fun _ => ?_) (fun _ => ?_)
    · refine lv_iconst (v := 1) C.1 C.2.1 dJ6_compare_7cf53_18 (by decide) ?_
      exact g_iret C hr hlocks hP hD hS rfl () rfl ⟨by decide, by decide⟩ (Nat.le_of_ble_eq_true rfl) (Nat.le_of_ble_eq_true rfl) dJ6_compare_7cf53_19
    · refine lv_iconst (v := 0) C.1 C.2.1 dJ6_compare_7cf53_14 (by decide) ?_
      refine lv_goto (tgt := 19) C.1 C.2.1 dJ6_compare_7cf53_15 (by decide) ?_
      exact g_iret C hr hlocks hP hD hS rfl () rfl ⟨by decide, by decide⟩ (Nat.le_of_ble_eq_true rfl) (Nat.le_of_ble_eq_true rfl) dJ6_compare_7cf53_19
  · refine lv_iconst (v := -1) C.1 C.2.1 dJ6_compare_7cf53_5 (by decide) ?_
    refine lv_goto (tgt := 19) C.1 C.2.1 dJ6_compare_7cf53_6 (by decide) ?_
    exact g_iret C hr hlocks hP hD hS rfl () rfl ⟨by decide, by decide⟩ (Nat.le_of_ble_eq_true rfl) (Nat.le_of_ble_eq_true rfl) dJ6_compare_7cf53_19
