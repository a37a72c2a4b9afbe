/-! ===== calls out of the law ===== -/
def newS (d d1 : dSt) : Nat := ((newK d d1).map dN).sum
theorem filter_sumw {w : Nat → Nat} (p q r : Nat → Bool) (hpq : ∀ x, r x = (p x || q x)) (hd : ∀ x, (p x && q x) = false) : ∀ L : List Nat, ((L.filter r).map w).sum = ((L.filter p).map w).sum + ((L.filter q).map w).sum := by
  intro L
  induction L with
  | nil => rfl
  | cons x L ih =>
    have h1 := hpq x
    have h2 := hd x
    cases hp : p x <;> cases hq : q x <;> simp [List.filter_cons, h1, hp, hq, ih] at h2 ⊢ <;> omega
theorem newS_tr {d d1 d2 : dSt} (h : dLe d d1) (h1 : dLe d1 d2) : newS d d2 = newS d d1 + newS d1 d2 := by
  unfold newS newK
  refine filter_sumw _ _ _ (fun k => ?_) (fun k => ?_) _
  · cases e : d.1 k with
    | some a => rw [h k a e]; simp
    | none =>
      cases e1 : d1.1 k with
      | none => simp
      | some b => rw [h1 k b e1]; simp
  · cases e : d.1 k with
    | some a => simp
    | none => cases e1 : d1.1 k <;> simp
theorem newS_le {d d1 : dSt} : newS d d1 ≤ 246800 := Nat.le_trans (fil_sum _) (Nat.le_of_eq dN_sum)
theorem sum_cut {H H1 : Heap} {S : Nat} (hS : S ≤ H.size) (hz : H.size ≤ H1.size) (hk : SzK H H1) : sumS H1 S = sumS H S + sumS H1 H.size := by
  rw [drop_sum, drop_sum, drop_sum, show H1.size - S = (H.size - S) + (H1.size - H.size) by omega, ← List.range'_append_1, List.map_append, List.sum_append, show S + (H.size - S) = H.size by omega]
  congr 2
  refine List.map_congr_left (fun a ha => ?_)
  have h1 := (List.mem_range'_1.mp ha)
  exact hk a (by omega)
theorem late_new {D : va_G} {K : Nat → ClassId} {ad : Nat → Nat} {t : tSt} {d0 d1 : dSt} {A : Nat → Prop} {H : Heap} {S : Nat} (hP : va_P D vwCl (WX d1 K ad t) H) (hD : va_D A (WX d1 K ad t)) (hH : H.size ≤ S + newC d0 d1) (hf : dFr S d0 d1) : sumS H S ≤ newS d0 d1 := by
  rw [drop_sum]
  have hm : ∀ k ∈ newK d0 d1, k < 918 ∧ d0.1 k = none ∧ ∃ a, d1.1 k = some a ∧ H[a]? = some (vp_cell (K (dKd k)) (dN k, .inl (d1.2 k))) := by
    intro k hk
    unfold newK at hk
    obtain ⟨h1, h2⟩ := List.mem_filter.mp hk
    have h3 : k < 918 := List.mem_range.mp h1
    rw [Bool.and_eq_true] at h2
    have h4 : d0.1 k = none := Option.isNone_iff_eq_none.mp h2.1
    obtain ⟨a, h5⟩ := Option.isSome_iff_exists.mp h2.2
    obtain ⟨q, h6, -⟩ := WX_pos (K := K) (ad := ad) (t := t) h3 h5
    exact ⟨h3, h4, a, h5, hP q _ h6⟩
  have hlen : ((newK d0 d1).filterMap d1.1).length = newC d0 d1 := fm_len _ (fun k hk => by obtain ⟨-, -, a, h, -⟩ := hm k hk; rw [h]; rfl)
  have hnd : ((newK d0 d1).filterMap d1.1).Nodup := by
    have h1 := va_D_nd hD
    have h2 : ((WX d1 K ad t).map Prod.fst) = (SX (va_rf (d1.1 916)) (va_rf (d1.1 917)) (dR d1 0 300) (dR d1 300 300) (dR d1 600 300) (dR d1 900 16) K ad t).map Prod.fst ++ (dynW K d1).map Prod.fst := List.map_append
    rw [h2, dyn_fst] at h1
    have h3 := (List.nodup_append.mp h1).2.1
    exact h3.sublist (List.Sublist.filterMap _ (List.filter_sublist))
  refine Nat.le_trans (pig_sum (H.size - S) ((newK d0 d1).filterMap d1.1) hnd (fun x hx => ?_) (by rw [hlen]; omega)) ?_
  · obtain ⟨k, hk, e⟩ := List.mem_filterMap.mp hx
    obtain ⟨-, h2, a, h3, h4⟩ := hm k hk
    rw [h3] at e
    have e1 : a = x := Option.some.inj e
    subst e1
    have h5 := (Array.getElem?_eq_some_iff.mp h4).1
    have h6 := hf k a h2 h3
    omega
  · rw [fm_sum (w := dN) _ (fun k hk => by
      obtain ⟨-, -, a, h3, h4⟩ := hm k hk
      exact ⟨a, h3, by rw [h4]; exact cell_sz⟩)]
    exact Nat.le_refl _
section FROW
variable {p : Program} {l : Launch} {e : Env} {R : Room} {s : State} {m : MethodId} {args : Array Value} {below : List Frame} {meth : Method} {c : Code} {H : Heap} {locs : List Loc} {cells slots mc ms : Nat} {Q : State → Prop}
variable {cc : ByteArray} {pc nL : Nat} {own : String} {ls : Array Slot} {rest st0 As : List Value} {D : va_G} {K : Nat → ClassId} {A : Nat → Prop} {b : Nat} {wx wc wr : va_W} {S : Type} {W' : S → va_W}
variable {y : MethodName} {bytes : ByteArray} {maxL index : Nat} {ret : Option FieldType} {rm : Room}
variable {Z Y : Nat → Nat} {ad : Nat → Nat} {d1 : dSt} {t1 : tSt}
theorem f_Vi (C : kC p s m args c cc own nL D K) (hP : va_P D vwCl (wc ++ wr) H) (hD : va_D A (wc ++ wr)) (hS : va_S A s.heap H locs) (hA : ∀ q, s.heap.size ≤ q → A q) {post : Int32 → S → Prop}
    (hM : tMet l y bytes maxL ret rm D K Z Y (.ref b :: As) wc (QI D K post W') mc ms) (hE : XR Z s) (hZ : XQ Z Y A s s.heap) {Cn : String} (hg : GoodIn wsL_law (wsV own index Cn y (uws y bytes maxL ret))) (hd : y.cls = Cn ∧ y.cls ≠ "java/lang/invoke/MethodHandle" ∧ y.cls ≠ "java/lang/invoke/VarHandle" ∧ (parseMethodDescriptor y.desc).map (fun d => d.parameters.length) = some As.length) (hR : rm.frames + 1 ≤ R.frames ∧ 8 + (maxL + 11) + rm.locals ≤ R.locals) (hrc : rm.cells = mc) (hrs : rm.slots = ms) {ci : Nat} {T : u_T} {N : Nat} {fs : List Value} (hc : vwCl[ci]? = some (Cn, T, N)) {q0 : Nat} (he : wc[q0]? = some (b, .inr (ci, fs)))
    (hst : st0 = As.reverse ++ .ref b :: rest) (hls : ls.size = nL) (hcat : (rest.map fun v => v.category).sum ≤ 8) (hdg : decode cc pc = .ok (.invokevirtual index, 3)) (hf : cells + mc ≤ R.cells ∧ slots + ms ≤ R.slots)
    (kk : ∀ (r : Int32) (u : S) (H1 : Heap) (locs1 : List Loc), post r u → va_P D vwCl (W' u ++ wr) H1 → va_D A (W' u ++ wr) → va_S A s.heap H1 locs1 → W p l e R s m args below meth c H1 locs1 (cells + mc) (slots + ms) Q (F0 m (pc + 3) ls (.int r :: rest))) : W p l e R s m args below meth c H locs cells slots Q (F0 m pc ls st0) := by
  have hPc := fr_P hP
  have hDc := fr_D hD
  have hFc := fr_F hDc hS hA
  refine va_calli (va_runV (As := As) (rest := rest) ⟨C.1, C.2.1, C.2.2.1, C.2.2.2.1, C.2.2.2.2.1⟩ (hM H.size) (cwV As.length C.2.2.2.2.1 hg rfl hrc hrs hd hR) ⟨preT_blind, va_recv C.2.2.2.2.2 hPc hc he, preT_at C.2.2.2.2.2 hPc hDc hE hZ hS hFc⟩ rfl rfl hls hst (lv_room hcat) hdg hf) hS (fun q _ h => hFc q h) hFc (fun r u t H1 locs1 ht hvm hw hB hz1 hk1 hS1 => ?_)
  obtain ⟨hP1, hK1, hD1⟩ := hB
  rw [ht] at hP1
  have hj := fr_join hP hD hk1 hFc hP1 hD1
  exact kk r u H1 locs1 hw hj.1 hj.2 hS1
theorem r_Vi (C : kC p s m args c cc own nL D K) (hP : va_P D vwCl (wx ++ (wc ++ wr)) H) (hD : va_D A (wx ++ (wc ++ wr))) (hS : va_S A s.heap H locs) (hA : ∀ q, s.heap.size ≤ q → A q) {post : Int32 → S → Prop}
    (hM : tMet l y bytes maxL ret rm D K Z Y (.ref b :: As) wc (QI D K post W') mc ms) (hE : XR Z s) (hZ : XQ Z Y A s s.heap) {Cn : String} (hg : GoodIn wsL_law (wsV own index Cn y (uws y bytes maxL ret))) (hd : y.cls = Cn ∧ y.cls ≠ "java/lang/invoke/MethodHandle" ∧ y.cls ≠ "java/lang/invoke/VarHandle" ∧ (parseMethodDescriptor y.desc).map (fun d => d.parameters.length) = some As.length) (hR : rm.frames + 1 ≤ R.frames ∧ 8 + (maxL + 11) + rm.locals ≤ R.locals) (hrc : rm.cells = mc) (hrs : rm.slots = ms) {ci : Nat} {T : u_T} {N : Nat} {fs : List Value} (hc : vwCl[ci]? = some (Cn, T, N)) {q0 : Nat} (he : wc[q0]? = some (b, .inr (ci, fs)))
    (hst : st0 = As.reverse ++ .ref b :: rest) (hls : ls.size = nL) (hcat : (rest.map fun v => v.category).sum ≤ 8) (hdg : decode cc pc = .ok (.invokevirtual index, 3)) (hf : cells + mc ≤ R.cells ∧ slots + ms ≤ R.slots)
    (kk : ∀ (r : Int32) (u : S) (H1 : Heap) (locs1 : List Loc), post r u → va_P D vwCl (wx ++ (W' u ++ wr)) H1 → va_D A (wx ++ (W' u ++ wr)) → va_S A s.heap H1 locs1 → W p l e R s m args below meth c H1 locs1 (cells + mc) (slots + ms) Q (F0 m (pc + 3) ls (.int r :: rest))) : W p l e R s m args below meth c H locs cells slots Q (F0 m pc ls st0) :=
  f_Vi C (va_P_perm hP (List.perm_append_comm_assoc wx wc wr)) (va_D_perm hD (List.perm_append_comm_assoc wx wc wr)) hS hA hM hE hZ hg hd hR hrc hrs hc he hst hls hcat hdg hf (fun r u H1 locs1 hw hP1 hD1 hS1 => kk r u H1 locs1 hw (va_P_perm hP1 (List.perm_append_comm_assoc (W' u) wx wr)) (va_D_perm hD1 (List.perm_append_comm_assoc (W' u) wx wr)) hS1)
theorem f_Vl (C : kC p s m args c cc own nL D K) (hP : va_P D vwCl (wc ++ wr) H) (hD : va_D A (wc ++ wr)) (hS : va_S A s.heap H locs) (hA : ∀ q, s.heap.size ≤ q → A q) {post : Int64 → S → Prop}
    (hM : tMet l y bytes maxL ret rm D K Z Y (.ref b :: As) wc (QL D K post W') mc ms) (hE : XR Z s) (hZ : XQ Z Y A s s.heap) {Cn : String} (hg : GoodIn wsL_law (wsV own index Cn y (uws y bytes maxL ret))) (hd : y.cls = Cn ∧ y.cls ≠ "java/lang/invoke/MethodHandle" ∧ y.cls ≠ "java/lang/invoke/VarHandle" ∧ (parseMethodDescriptor y.desc).map (fun d => d.parameters.length) = some As.length) (hR : rm.frames + 1 ≤ R.frames ∧ 8 + (maxL + 11) + rm.locals ≤ R.locals) (hrc : rm.cells = mc) (hrs : rm.slots = ms) {ci : Nat} {T : u_T} {N : Nat} {fs : List Value} (hc : vwCl[ci]? = some (Cn, T, N)) {q0 : Nat} (he : wc[q0]? = some (b, .inr (ci, fs)))
    (hst : st0 = As.reverse ++ .ref b :: rest) (hls : ls.size = nL) (hcat : (rest.map fun v => v.category).sum ≤ 8) (hdg : decode cc pc = .ok (.invokevirtual index, 3)) (hf : cells + mc ≤ R.cells ∧ slots + ms ≤ R.slots)
    (kk : ∀ (r : Int64) (u : S) (H1 : Heap) (locs1 : List Loc), post r u → va_P D vwCl (W' u ++ wr) H1 → va_D A (W' u ++ wr) → va_S A s.heap H1 locs1 → W p l e R s m args below meth c H1 locs1 (cells + mc) (slots + ms) Q (F0 m (pc + 3) ls (.long r :: rest))) : W p l e R s m args below meth c H locs cells slots Q (F0 m pc ls st0) := by
  have hPc := fr_P hP
  have hDc := fr_D hD
  have hFc := fr_F hDc hS hA
  refine va_calll (va_runV (As := As) (rest := rest) ⟨C.1, C.2.1, C.2.2.1, C.2.2.2.1, C.2.2.2.2.1⟩ (hM H.size) (cwV As.length C.2.2.2.2.1 hg rfl hrc hrs hd hR) ⟨preT_blind, va_recv C.2.2.2.2.2 hPc hc he, preT_at C.2.2.2.2.2 hPc hDc hE hZ hS hFc⟩ rfl rfl hls hst (lv_room hcat) hdg hf) hS (fun q _ h => hFc q h) hFc (fun r u t H1 locs1 ht hvm hw hB hz1 hk1 hS1 => ?_)
  obtain ⟨hP1, hK1, hD1⟩ := hB
  rw [ht] at hP1
  have hj := fr_join hP hD hk1 hFc hP1 hD1
  exact kk r u H1 locs1 hw hj.1 hj.2 hS1
theorem r_Vl (C : kC p s m args c cc own nL D K) (hP : va_P D vwCl (wx ++ (wc ++ wr)) H) (hD : va_D A (wx ++ (wc ++ wr))) (hS : va_S A s.heap H locs) (hA : ∀ q, s.heap.size ≤ q → A q) {post : Int64 → S → Prop}
    (hM : tMet l y bytes maxL ret rm D K Z Y (.ref b :: As) wc (QL D K post W') mc ms) (hE : XR Z s) (hZ : XQ Z Y A s s.heap) {Cn : String} (hg : GoodIn wsL_law (wsV own index Cn y (uws y bytes maxL ret))) (hd : y.cls = Cn ∧ y.cls ≠ "java/lang/invoke/MethodHandle" ∧ y.cls ≠ "java/lang/invoke/VarHandle" ∧ (parseMethodDescriptor y.desc).map (fun d => d.parameters.length) = some As.length) (hR : rm.frames + 1 ≤ R.frames ∧ 8 + (maxL + 11) + rm.locals ≤ R.locals) (hrc : rm.cells = mc) (hrs : rm.slots = ms) {ci : Nat} {T : u_T} {N : Nat} {fs : List Value} (hc : vwCl[ci]? = some (Cn, T, N)) {q0 : Nat} (he : wc[q0]? = some (b, .inr (ci, fs)))
    (hst : st0 = As.reverse ++ .ref b :: rest) (hls : ls.size = nL) (hcat : (rest.map fun v => v.category).sum ≤ 8) (hdg : decode cc pc = .ok (.invokevirtual index, 3)) (hf : cells + mc ≤ R.cells ∧ slots + ms ≤ R.slots)
    (kk : ∀ (r : Int64) (u : S) (H1 : Heap) (locs1 : List Loc), post r u → va_P D vwCl (wx ++ (W' u ++ wr)) H1 → va_D A (wx ++ (W' u ++ wr)) → va_S A s.heap H1 locs1 → W p l e R s m args below meth c H1 locs1 (cells + mc) (slots + ms) Q (F0 m (pc + 3) ls (.long r :: rest))) : W p l e R s m args below meth c H locs cells slots Q (F0 m pc ls st0) :=
  f_Vl C (va_P_perm hP (List.perm_append_comm_assoc wx wc wr)) (va_D_perm hD (List.perm_append_comm_assoc wx wc wr)) hS hA hM hE hZ hg hd hR hrc hrs hc he hst hls hcat hdg hf (fun r u H1 locs1 hw hP1 hD1 hS1 => kk r u H1 locs1 hw (va_P_perm hP1 (List.perm_append_comm_assoc (W' u) wx wr)) (va_D_perm hD1 (List.perm_append_comm_assoc (W' u) wx wr)) hS1)
theorem f_Vv (C : kC p s m args c cc own nL D K) (hP : va_P D vwCl (wc ++ wr) H) (hD : va_D A (wc ++ wr)) (hS : va_S A s.heap H locs) (hA : ∀ q, s.heap.size ≤ q → A q) {post : S → Prop}
    (hM : tMet l y bytes maxL ret rm D K Z Y (.ref b :: As) wc (QV D K post W') mc ms) (hE : XR Z s) (hZ : XQ Z Y A s s.heap) {Cn : String} (hg : GoodIn wsL_law (wsV own index Cn y (uws y bytes maxL ret))) (hd : y.cls = Cn ∧ y.cls ≠ "java/lang/invoke/MethodHandle" ∧ y.cls ≠ "java/lang/invoke/VarHandle" ∧ (parseMethodDescriptor y.desc).map (fun d => d.parameters.length) = some As.length) (hR : rm.frames + 1 ≤ R.frames ∧ 8 + (maxL + 11) + rm.locals ≤ R.locals) (hrc : rm.cells = mc) (hrs : rm.slots = ms) {ci : Nat} {T : u_T} {N : Nat} {fs : List Value} (hc : vwCl[ci]? = some (Cn, T, N)) {q0 : Nat} (he : wc[q0]? = some (b, .inr (ci, fs)))
    (hst : st0 = As.reverse ++ .ref b :: rest) (hls : ls.size = nL) (hcat : (rest.map fun v => v.category).sum ≤ 8) (hdg : decode cc pc = .ok (.invokevirtual index, 3)) (hf : cells + mc ≤ R.cells ∧ slots + ms ≤ R.slots)
    (kk : ∀ (u : S) (H1 : Heap) (locs1 : List Loc), post u → va_P D vwCl (W' u ++ wr) H1 → va_D A (W' u ++ wr) → va_S A s.heap H1 locs1 → W p l e R s m args below meth c H1 locs1 (cells + mc) (slots + ms) Q (F0 m (pc + 3) ls (rest))) : W p l e R s m args below meth c H locs cells slots Q (F0 m pc ls st0) := by
  have hPc := fr_P hP
  have hDc := fr_D hD
  have hFc := fr_F hDc hS hA
  refine va_callv (va_runV (As := As) (rest := rest) ⟨C.1, C.2.1, C.2.2.1, C.2.2.2.1, C.2.2.2.2.1⟩ (hM H.size) (cwV As.length C.2.2.2.2.1 hg rfl hrc hrs hd hR) ⟨preT_blind, va_recv C.2.2.2.2.2 hPc hc he, preT_at C.2.2.2.2.2 hPc hDc hE hZ hS hFc⟩ rfl rfl hls hst (lv_room hcat) hdg hf) hS (fun q _ h => hFc q h) hFc (fun u t H1 locs1 ht hvm hw hB hz1 hk1 hS1 => ?_)
  obtain ⟨hP1, hK1, hD1⟩ := hB
  rw [ht] at hP1
  have hj := fr_join hP hD hk1 hFc hP1 hD1
  exact kk u H1 locs1 hw hj.1 hj.2 hS1
theorem r_Vv (C : kC p s m args c cc own nL D K) (hP : va_P D vwCl (wx ++ (wc ++ wr)) H) (hD : va_D A (wx ++ (wc ++ wr))) (hS : va_S A s.heap H locs) (hA : ∀ q, s.heap.size ≤ q → A q) {post : S → Prop}
    (hM : tMet l y bytes maxL ret rm D K Z Y (.ref b :: As) wc (QV D K post W') mc ms) (hE : XR Z s) (hZ : XQ Z Y A s s.heap) {Cn : String} (hg : GoodIn wsL_law (wsV own index Cn y (uws y bytes maxL ret))) (hd : y.cls = Cn ∧ y.cls ≠ "java/lang/invoke/MethodHandle" ∧ y.cls ≠ "java/lang/invoke/VarHandle" ∧ (parseMethodDescriptor y.desc).map (fun d => d.parameters.length) = some As.length) (hR : rm.frames + 1 ≤ R.frames ∧ 8 + (maxL + 11) + rm.locals ≤ R.locals) (hrc : rm.cells = mc) (hrs : rm.slots = ms) {ci : Nat} {T : u_T} {N : Nat} {fs : List Value} (hc : vwCl[ci]? = some (Cn, T, N)) {q0 : Nat} (he : wc[q0]? = some (b, .inr (ci, fs)))
    (hst : st0 = As.reverse ++ .ref b :: rest) (hls : ls.size = nL) (hcat : (rest.map fun v => v.category).sum ≤ 8) (hdg : decode cc pc = .ok (.invokevirtual index, 3)) (hf : cells + mc ≤ R.cells ∧ slots + ms ≤ R.slots)
    (kk : ∀ (u : S) (H1 : Heap) (locs1 : List Loc), post u → va_P D vwCl (wx ++ (W' u ++ wr)) H1 → va_D A (wx ++ (W' u ++ wr)) → va_S A s.heap H1 locs1 → W p l e R s m args below meth c H1 locs1 (cells + mc) (slots + ms) Q (F0 m (pc + 3) ls (rest))) : W p l e R s m args below meth c H locs cells slots Q (F0 m pc ls st0) :=
  f_Vv C (va_P_perm hP (List.perm_append_comm_assoc wx wc wr)) (va_D_perm hD (List.perm_append_comm_assoc wx wc wr)) hS hA hM hE hZ hg hd hR hrc hrs hc he hst hls hcat hdg hf (fun u H1 locs1 hw hP1 hD1 hS1 => kk u H1 locs1 hw (va_P_perm hP1 (List.perm_append_comm_assoc (W' u) wx wr)) (va_D_perm hD1 (List.perm_append_comm_assoc (W' u) wx wr)) hS1)
theorem f_DVi (C : kC p s m args c cc own nL D K) (hP : va_P D vwCl (WX d1 K ad t1 ++ wr) H) (hD : va_D A (WX d1 K ad t1 ++ wr)) (hS : va_S A s.heap H locs) (hA : ∀ q, s.heap.size ≤ q → A q) {post : Int32 → tSt → dSt → Prop}
    (hM : dMet l y bytes maxL ret rm D K Z Y (.ref b :: As) (WX d1 K ad t1) (QDI D K ad d1 post) mc ms) (hE : XR Z s) (hZ : XQ Z Y A s s.heap) (hX : XX s) {Cn : String} (hg : GoodIn wsL_law (wsV own index Cn y (uws y bytes maxL ret))) (hd : y.cls = Cn ∧ y.cls ≠ "java/lang/invoke/MethodHandle" ∧ y.cls ≠ "java/lang/invoke/VarHandle" ∧ (parseMethodDescriptor y.desc).map (fun d => d.parameters.length) = some As.length) (hR : rm.frames + 1 ≤ R.frames ∧ 8 + (maxL + 11) + rm.locals ≤ R.locals) (hrc : rm.cells = mc) (hrs : rm.slots = ms) {ci : Nat} {T : u_T} {N : Nat} {fs : List Value} (hc : vwCl[ci]? = some (Cn, T, N)) {q0 : Nat} (he : (WX d1 K ad t1)[q0]? = some (b, .inr (ci, fs)))
    (hst : st0 = As.reverse ++ .ref b :: rest) (hls : ls.size = nL) (hcat : (rest.map fun v => v.category).sum ≤ 8) (hdg : decode cc pc = .ok (.invokevirtual index, 3)) (hf : cells + mc ≤ R.cells ∧ slots + ms ≤ R.slots)
    (kk : ∀ (r : Int32) (t2 : tSt) (d2 : dSt) (H1 : Heap) (locs1 : List Loc), post r t2 d2 → va_P D vwCl (WX d2 K ad t2 ++ wr) H1 → va_D A (WX d2 K ad t2 ++ wr) → va_S A s.heap H1 locs1 → dLe d1 d2 → W p l e R s m args below meth c H1 locs1 (cells + newC d1 d2) (slots + newS d1 d2) Q (F0 m (pc + 3) ls (.int r :: rest))) : W p l e R s m args below meth c H locs cells slots Q (F0 m pc ls st0) := by
  have hPc := fr_P hP
  have hDc := fr_D hD
  have hFc := fr_F hDc hS hA
  refine W.grown (fun h1 h2 => ?_)
  refine va_calli (S := tSt × dSt) (a := (Value.ref b :: As).toArray) (post := fun r (u : tSt × dSt) => post r u.1 u.2) (B := fun u t => BD D K ad d1 H.size (va_A (WX d1 K ad t1) H.size) u t ∧ SzK H t.heap) (va_Run_w (va_runV (As := As) (rest := rest) ⟨C.1, C.2.1, C.2.2.1, C.2.2.2.1, C.2.2.2.2.1⟩ (hM H.size) (cwV As.length C.2.2.2.2.1 hg rfl hrc hrs hd hR) ⟨preD_blind, va_recv C.2.2.2.2.2 hPc hc he, preD_at C.2.2.2.2.2 hPc hDc hE hZ hX hS hFc⟩ rfl rfl hls hst (lv_room hcat) hdg hf) (fun st oc t h0 h => ⟨h.1.1.elim fun r hr => hr.elim fun u hu => ⟨r, u, hu.1, hu.2.1, hu.2.2, by rw [← h0]; exact h.2⟩, h.1.2⟩)) hS (fun q _ h => hFc q h) hFc (fun r u t H1 locs1 ht hvm hw hB hz1 hk1 hS1 => ?_)
  obtain ⟨⟨⟨hP1, hK1, hD1⟩, hsz, hl1, hf1⟩, hkp⟩ := hB
  rw [ht] at hP1 hsz hkp
  have hj := fr_join hP hD hk1 hFc hP1 hD1
  have h3 := late_new hP1 hD1 hsz hf1
  have h4 := sum_cut hS.1 hz1 hkp
  exact W.tighten (by omega) (by omega) (kk r u.1 u.2 H1 locs1 hw hj.1 hj.2 hS1 hl1)
theorem f_DVv (C : kC p s m args c cc own nL D K) (hP : va_P D vwCl (WX d1 K ad t1 ++ wr) H) (hD : va_D A (WX d1 K ad t1 ++ wr)) (hS : va_S A s.heap H locs) (hA : ∀ q, s.heap.size ≤ q → A q) {post : tSt → dSt → Prop}
    (hM : dMet l y bytes maxL ret rm D K Z Y (.ref b :: As) (WX d1 K ad t1) (QDV D K ad d1 post) mc ms) (hE : XR Z s) (hZ : XQ Z Y A s s.heap) (hX : XX s) {Cn : String} (hg : GoodIn wsL_law (wsV own index Cn y (uws y bytes maxL ret))) (hd : y.cls = Cn ∧ y.cls ≠ "java/lang/invoke/MethodHandle" ∧ y.cls ≠ "java/lang/invoke/VarHandle" ∧ (parseMethodDescriptor y.desc).map (fun d => d.parameters.length) = some As.length) (hR : rm.frames + 1 ≤ R.frames ∧ 8 + (maxL + 11) + rm.locals ≤ R.locals) (hrc : rm.cells = mc) (hrs : rm.slots = ms) {ci : Nat} {T : u_T} {N : Nat} {fs : List Value} (hc : vwCl[ci]? = some (Cn, T, N)) {q0 : Nat} (he : (WX d1 K ad t1)[q0]? = some (b, .inr (ci, fs)))
    (hst : st0 = As.reverse ++ .ref b :: rest) (hls : ls.size = nL) (hcat : (rest.map fun v => v.category).sum ≤ 8) (hdg : decode cc pc = .ok (.invokevirtual index, 3)) (hf : cells + mc ≤ R.cells ∧ slots + ms ≤ R.slots)
    (kk : ∀ (t2 : tSt) (d2 : dSt) (H1 : Heap) (locs1 : List Loc), post t2 d2 → va_P D vwCl (WX d2 K ad t2 ++ wr) H1 → va_D A (WX d2 K ad t2 ++ wr) → va_S A s.heap H1 locs1 → dLe d1 d2 → W p l e R s m args below meth c H1 locs1 (cells + newC d1 d2) (slots + newS d1 d2) Q (F0 m (pc + 3) ls (rest))) : W p l e R s m args below meth c H locs cells slots Q (F0 m pc ls st0) := by
  have hPc := fr_P hP
  have hDc := fr_D hD
  have hFc := fr_F hDc hS hA
  refine W.grown (fun h1 h2 => ?_)
  refine va_callv (S := tSt × dSt) (a := (Value.ref b :: As).toArray) (post := fun (u : tSt × dSt) => post u.1 u.2) (B := fun u t => BD D K ad d1 H.size (va_A (WX d1 K ad t1) H.size) u t ∧ SzK H t.heap) (va_Run_w (va_runV (As := As) (rest := rest) ⟨C.1, C.2.1, C.2.2.1, C.2.2.2.1, C.2.2.2.2.1⟩ (hM H.size) (cwV As.length C.2.2.2.2.1 hg rfl hrc hrs hd hR) ⟨preD_blind, va_recv C.2.2.2.2.2 hPc hc he, preD_at C.2.2.2.2.2 hPc hDc hE hZ hX hS hFc⟩ rfl rfl hls hst (lv_room hcat) hdg hf) (fun st oc t h0 h => ⟨h.1.1.elim fun u hu => ⟨u, hu.1, hu.2.1, hu.2.2, by rw [← h0]; exact h.2⟩, h.1.2⟩)) hS (fun q _ h => hFc q h) hFc (fun u t H1 locs1 ht hvm hw hB hz1 hk1 hS1 => ?_)
  obtain ⟨⟨⟨hP1, hK1, hD1⟩, hsz, hl1, hf1⟩, hkp⟩ := hB
  rw [ht] at hP1 hsz hkp
  have hj := fr_join hP hD hk1 hFc hP1 hD1
  have h3 := late_new hP1 hD1 hsz hf1
  have h4 := sum_cut hS.1 hz1 hkp
  exact W.tighten (by omega) (by omega) (kk u.1 u.2 H1 locs1 hw hj.1 hj.2 hS1 hl1)
end FROW
