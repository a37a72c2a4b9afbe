/-! ===== the law: what stands at its loop's head ===== -/
def d00 : dSt := (fun _ => none, fun _ _ => 0)
def cN (d : dSt) (k : Nat) : Nat := 98 + newC d00 d + k
def sN (d : dSt) (k : Nat) : Nat := 445732 + newS d00 d + 6 * k
def LwP (k : Nat) (t : tSt) (d : dSt) (v : tSt) : Prop := okX t ∧ okD d ∧ okM v ∧ (t.1 0 1).toInt = (v.1 0 2).toInt ∧ (t.1 0 1).toInt ≤ 20 * (k : Int) ∧ (t.1 18 2).toInt + (t.1 0 1).toInt ≤ 1281 + 21 * (k : Int) ∧ ∀ i : Nat, (i : Int) < (t.1 0 1).toInt → (t.2.2.1 1) i = (v.2.2.1 1) i
def oC (K : Nat → ClassId) (ao : Nat) (o : Nat → Int64) : va_W := [(ao, .inl (K 1, 1, .inr (.inl o)))]
def LwW (K : Nat → ClassId) (ad bd : Nat → Nat) (ao : Nat) (t : tSt) (d : dSt) (v : tSt) (o : Nat → Int64) : va_W := WX d K ad t ++ (WM K bd v ++ oC K ao o)
theorem d00_le {d : dSt} : dLe d00 d := fun k a h => nomatch (show (none : Option Nat) = some a from h)
theorem LwP.up {k : Nat} {t v : tSt} {d : dSt} (h : LwP k t d v) : LwP (k + 1) t d v := by
  obtain ⟨h1, h2, h3, h4, h5, h6, h7⟩ := h
  exact ⟨h1, h2, h3, h4, by omega, by omega, h7⟩
theorem cn_a {d d1 : dSt} {k : Nat} (h : dLe d d1) : cN d k + newC d d1 + 0 ≤ cN d1 (k + 1) := by
  unfold cN; rw [newC_tr d00_le h]; omega
theorem cn_b {d : dSt} {k : Nat} : cN d k + 0 + 0 ≤ cN d (k + 1) := by unfold cN; omega
theorem cn_c {d : dSt} {k : Nat} : cN d k + 1 + 0 ≤ cN d (k + 1) := by unfold cN; omega
theorem sn_a {d d1 : dSt} {k : Nat} (h : dLe d d1) : sN d k + newS d d1 + 0 ≤ sN d1 (k + 1) := by
  unfold sN; rw [newS_tr d00_le h]; omega
theorem sn_b {d : dSt} {k : Nat} : sN d k + 0 + 0 ≤ sN d (k + 1) := by unfold sN; omega
theorem sn_c {d : dSt} {k : Nat} : sN d k + 6 + 0 ≤ sN d (k + 1) := by unfold sN; omega
theorem cN_le {d : dSt} {k mc : Nat} (hk : k ≤ 64) (hm : mc ≤ 20000) : cN d k + mc ≤ 600128 := by
  have h1 := newC_le d00 d
  unfold cN; omega
theorem sN_le {d : dSt} {k ms : Nat} (hk : k ≤ 64) (hm : ms ≤ 4000000) : sN d k + ms ≤ 7301098 := by
  have h1 := newS_le (d := d00) (d1 := d)
  unfold sN; omega
theorem cs_le {d : dSt} {k : Nat} (hk : k ≤ 64) : cN d k ≤ 600128 ∧ sN d k ≤ 7301098 := by
  have h1 := cN_le (d := d) (mc := 0) hk (Nat.zero_le _)
  have h2 := sN_le (d := d) (ms := 0) hk (Nat.zero_le _)
  omega
theorem rm_c : room_1.cells = 600128 := rfl
theorem rm_s : room_1.slots = 7301098 := rfl
theorem hf_k {d : dSt} {k mc ms : Nat} (hk : k < 64) (hm : mc ≤ 20000) (hs : ms ≤ 4000000) : cN d k + mc ≤ room_1.cells ∧ sN d k + ms ≤ room_1.slots := by
  rw [rm_c, rm_s]
  exact ⟨cN_le (by omega) hm, sN_le (by omega) hs⟩
theorem hf_a {d d1 : dSt} {k : Nat} (hk : k < 64) (h : dLe d d1) : cN d k + newC d d1 + 0 ≤ room_1.cells ∧ sN d k + newS d d1 + 0 ≤ room_1.slots := by
  rw [rm_c, rm_s]
  have h1 := cs_le (d := d1) (k := k + 1) (by omega)
  exact ⟨Nat.le_trans (cn_a h) h1.1, Nat.le_trans (sn_a h) h1.2⟩
theorem hf_b {d : dSt} {k : Nat} (hk : k < 64) : cN d k + 0 + 0 ≤ room_1.cells ∧ sN d k + 0 + 0 ≤ room_1.slots := by
  rw [rm_c, rm_s]
  have h1 := cs_le (d := d) (k := k + 1) (by omega)
  exact ⟨Nat.le_trans cn_b h1.1, Nat.le_trans sn_b h1.2⟩
theorem hf_c {d : dSt} {k : Nat} (hk : k < 64) : cN d k + 1 + 0 ≤ room_1.cells ∧ sN d k + 6 + 0 ≤ room_1.slots := by
  rw [rm_c, rm_s]
  have h1 := cs_le (d := d) (k := k + 1) (by omega)
  exact ⟨Nat.le_trans cn_c h1.1, Nat.le_trans sn_c h1.2⟩
theorem ix_in {i jv : Int32} {n j L : Nat} (hi : i.toInt = (n : Int)) (hj : jv.toInt = (j : Int)) (h : n + j < L) (hL : L ≤ 384) : vp_in (i + jv) L ∧ (i + jv).toNatClampNeg = n + j := by
  have h1 : (i + jv).toInt = (n : Int) + (j : Int) := by
    rw [Int32.toInt_add, hi, hj]
    exact Int.bmod_eq_of_le (by omega) (by omega)
  have h2 : (i + jv).toNatClampNeg = n + j := by
    show (i + jv).toInt.toNat = n + j
    rw [h1]; omega
  refine ⟨fun hq => ?_, h2⟩
  rcases hq with hq | hq
  · have h3 : (i + jv).toInt < 0 := i_lt hq
    omega
  · omega
section LROW
variable {p : Program} {l : Launch} {e : Env} {R : Room} {s : State} {m : MethodId} {args : Array Value} {below : List Frame} {meth : Method} {c : Code} {H : Heap} {locs : List Loc} {cells slots mc ms : Nat} {Q : State → Prop}
variable {cc : ByteArray} {pc nL : Nat} {own : String} {ls : Array Slot} {rest st0 As : List Value} {D : va_G} {K : Nat → ClassId} {A : Nat → Prop} {b : Nat} {w1 wm wo : va_W} {S : Type} {Wa Wb : S → va_W}
variable {y : MethodName} {bytes : ByteArray} {maxL index : Nat} {ret : Option FieldType} {rm : Room} {Z Y : Nat → Nat}
/-- script[i + j] -/
theorem l_rd {H0 : Heap} (C : kC p s m args c cc own nL D K) {L n j k0 k4 : Nat} {xs : Nat → Int32} (hX : va_X b L xs s H0) (hbl : b < H0.size) (hbA : ¬ A b) (hS : va_S A H0 H locs) (hL : L ≤ 384) {i : Int32} {jn : Int} {lv : List (Nat × Value)} (hl : lv_has ls nL lv) (h0 : lv[k0]? = some (0, .ref b)) (h4 : lv[k4]? = some (4, .int i)) (hi : i.toInt = (n : Int)) (hj : (Int32.ofInt jn).toInt = (j : Int)) (hn : n + j < L)
    (d0 : decode cc pc = .ok (.aload_n 0, 1)) (d1 : decode cc (pc + 1) = .ok (.iload 4, 2)) (d2 : decode cc (pc + 3) = .ok (.iconst jn, 1)) (d3 : decode cc (pc + 4) = .ok (.iadd, 1)) (d4 : decode cc (pc + 5) = .ok (.iaload, 1))
    (kk : W p l e R s m args below meth c H locs cells slots Q (F0 m (pc + 6) ls (.int (xs (n + j)) :: rest))) : W p l e R s m args below meth c H locs cells slots Q (F0 m pc ls rest) := by
  obtain ⟨q1, q2⟩ := ix_in hi hj hn hL
  refine lv_aload_n C.1 C.2.1 d0 rfl (lv_at hl k0 h0) ?_
  refine lv_iload C.1 C.2.1 d1 (lv_at hl k4 h4) ?_
  refine lv_iconst C.1 C.2.1 d2 rfl ?_
  refine k_iadd C rfl d3 ?_
  refine va_sld C.1 C.2.1 hX hbl hbA hS q1 d4 ?_
  rw [q2]
  exact kk
theorem l_Hi (C : kC p s m args c cc own nL D K) (hP : va_P D vwCl (w1 ++ (wm ++ wo)) H) (hD : va_D A (w1 ++ (wm ++ wo))) (hS : va_S A s.heap H locs) (hA : ∀ q, s.heap.size ≤ q → A q) {post : Int32 → S → Prop} (hE : XR Z s) (hZ : XQ Z Y A s s.heap) {hh : List (Nat × Nat × Nat × Nat)}
    (hM : htMet l y bytes maxL ret hh rm D K Z Y As (w1 ++ wo) (QI D K post (fun u => Wa u ++ Wb u)) mc ms) (v1 : Cond.methodLink own index y ∈ wsL_law) (v2 : Cond.static y ∈ wsL_law) (v3 : Cond.initialized y.cls ∈ wsL_law) (v4 : Cond.codeWith y bytes maxL ret hh ∈ wsL_law) (hd : y.cls ≠ "java/lang/invoke/MethodHandle" ∧ y.cls ≠ "java/lang/invoke/VarHandle" ∧ (parseMethodDescriptor y.desc).map (fun d => d.parameters.length) = some As.length) (hR : rm.frames + 1 ≤ R.frames ∧ 8 + (maxL + 11) + rm.locals ≤ R.locals) (hrc : rm.cells = mc) (hrs : rm.slots = ms)
    (hst : st0 = As.reverse ++ rest) (hls : ls.size = nL) (hcat : (rest.map fun v => v.category).sum ≤ 8) (hdg : decode cc pc = .ok (.invokestatic index, 3)) (hf : cells + mc ≤ R.cells ∧ slots + ms ≤ R.slots)
    (kk : ∀ (r : Int32) (u : S) (H1 : Heap) (locs1 : List Loc), post r u → va_P D vwCl (Wa u ++ (wm ++ Wb u)) H1 → va_D A (Wa u ++ (wm ++ Wb u)) → va_S A s.heap H1 locs1 → W p l e R s m args below meth c H1 locs1 (cells + mc) (slots + ms) Q (F0 m (pc + 3) ls (.int r :: rest))) : W p l e R s m args below meth c H locs cells slots Q (F0 m pc ls st0) := by
  have pm : ∀ a b2 c2 : va_W, (a ++ (b2 ++ c2)).Perm ((a ++ c2) ++ b2) := fun a b2 c2 => by
    rw [List.append_assoc]
    exact List.Perm.append_left a List.perm_append_comm
  exact ht_Si C (va_P_perm hP (pm _ _ _)) (va_D_perm hD (pm _ _ _)) hS hA hE hZ hM v1 v2 v3 v4 hd hR hrc hrs hst hls hcat hdg hf (fun r u H1 locs1 hw hP1 hD1 hS1 => kk r u H1 locs1 hw (va_P_perm hP1 (pm _ _ _).symm) (va_D_perm hD1 (pm _ _ _).symm) hS1)
end LROW
theorem app_at {a c : va_W} {q : Nat × va_E} : (a ++ q :: c)[a.length]? = some q := by rw [List.getElem?_append_right (Nat.le_refl _), Nat.sub_self]; rfl
theorem app_set {a c : va_W} {q r : Nat × va_E} : (a ++ q :: c).set a.length r = a ++ r :: c := by rw [List.set_append_right _ _ (Nat.le_refl _), Nat.sub_self]; rfl
/-! ===== the state behind the constructors ===== -/
def z00 : tSt := (fun _ _ => 0, fun _ _ => 0, fun _ _ => 0, fun _ _ => 0)
def t00 : tSt := fB (fB (fB (uI z00 4 8 9) 34 32) 37 32) 40 32
def v00 : tSt := uI (uI z00 0 6 1) 0 9 9
def has0 (e : Int × Int) : Bool := decide (e.1 ≤ 0) && decide (0 ≤ e.2)
theorem has0_at {r : List (Int × Int)} (h : r.all has0 = true) (k : Nat) : (r.getD k (-2147483648, 2147483647)).1 ≤ 0 ∧ 0 ≤ (r.getD k (-2147483648, 2147483647)).2 := by
  rw [List.getD_eq_getElem?_getD]
  cases e : r[k]? with
  | none => decide
  | some x =>
    have h1 := List.all_eq_true.mp h x (List.mem_of_getElem? e)
    unfold has0 at h1
    rw [Bool.and_eq_true, decide_eq_true_eq, decide_eq_true_eq] at h1
    exact h1
theorem okI0 {T : List (List (Int × Int))} (h : T.all (fun r => r.all has0) = true) : okI T z00 := by
  intro j k
  show (tb T j k).1 ≤ 0 ∧ 0 ≤ (tb T j k).2
  unfold tb
  refine has0_at ?_ k
  rw [List.getD_eq_getElem?_getD]
  cases e : T[j]? with
  | none => rfl
  | some x => exact List.all_eq_true.mp h x (List.mem_of_getElem? e)
theorem okB0 {T : List (Int × Int)} (h : T.all has0 = true) : okB T z00 := fun j _ => has0_at h j
theorem okX00 : okX t00 := ⟨show okI okXI (uI z00 4 8 9) from okI_I (okI0 (by decide +kernel)) 4 8 9 (by decide +kernel), okB_f (okB_f (okB_f (show okB okXB (uI z00 4 8 9) from okB0 (by decide +kernel)) 34 32 (by decide +kernel)) 37 32 (by decide +kernel)) 40 32 (by decide +kernel), trivial⟩
theorem okM00 : okM v00 := by
  refine ⟨okI_I (okI_I (okI0 (by decide +kernel)) 0 6 1 (by decide +kernel)) 0 9 9 (by decide +kernel), show okB okMB z00 from okB0 (by decide +kernel), ?_, ?_, ?_, ?_, ?_, trivial⟩
  · intro u _ h
    exact absurd rfl h
  · intro c hc
    have h1 : (c : Int) < 0 := hc
    omega
  · intro i
    exact Or.inr ⟨(by decide : (-3999 : Int) ≤ 0), (by decide : (0 : Int) ≤ 3999)⟩
  · decide
  · exact ⟨⟨(by decide : (-2147483648 : Int) ≤ 0), (by decide : (0 : Int) ≤ 2147483647)⟩, fun h => absurd h (by decide)⟩
theorem okD00 : okD d00 := fun _ => ⟨(by decide : (-128 : Int) ≤ 0), (by decide : (0 : Int) ≤ 127)⟩
theorem LwP00 : LwP 0 t00 d00 v00 := ⟨okX00, okD00, okM00, by decide, by decide, by decide, fun i hi => absurd (show (i : Int) < (t00.1 0 1).toInt from hi) (by have e9 : (t00.1 0 1).toInt = 0 := (by decide); omega)⟩
theorem dR00 {b n : Nat} : dR d00 b n = fun _ => none := by
  funext i
  unfold dR d00
  split <;> rfl
theorem dyn00 {K : Nat → ClassId} : dynW K d00 = [] := by
  unfold dynW
  rw [List.filterMap_eq_nil_iff]
  intro a _
  rfl
theorem WX00 {K : Nat → ClassId} {ad : Nat → Nat} {t : tSt} : WX d00 K ad t = SX .null .null (fun _ => none) (fun _ => none) (fun _ => none) (fun _ => none) K ad t := by
  unfold WX
  rw [dR00, dR00, dR00, dR00, dyn00, List.append_nil]
  rfl
