/-! ===== methods of the class that throw, over the whole world; frames of calls out of the law ===== -/
def txMet (l : Launch) (y : MethodName) (c : ByteArray) (n : Nat) (r : Option FieldType) (rm : Room) (D : va_G) (K : Nat → ClassId) (Z Y : Nat → Nat) (av : List Value) (ws : va_W) (Q : (Nat → Prop) → Array Value → State → Outcome → State → Prop) (X : (Nat → Prop) → String → State → State → Prop) (mc ms : Nat) : Prop :=
  ∀ sz, vx_Met l y (uws y c n r) rm (va_Pc av (PreT D K Z Y ws sz)) (Q (va_A ws sz)) (X (va_A ws sz)) mc ms (va_A ws sz)
def XCt {S : Type} (D : va_G) (K : Nat → ClassId) (px : S → Prop) (W' : S → va_W) (A : Nat → Prop) : String → State → State → Prop := vx_X (S := S) px (fun E u st => E = NSE ∧ PostW D K A (W' u) st) A
def htMet (l : Launch) (y : MethodName) (c : ByteArray) (n : Nat) (r : Option FieldType) (hh : List (Nat × Nat × Nat × Nat)) (rm : Room) (D : va_G) (K : Nat → ClassId) (Z Y : Nat → Nat) (av : List Value) (ws : va_W) (Q : (Nat → Prop) → Array Value → State → Outcome → State → Prop) (mc ms : Nat) : Prop :=
  ∀ sz, Met l y (uwsH y c n r hh) rm (va_Pc av (PreT D K Z Y ws sz)) (Q (va_A ws sz)) mc ms (va_A ws sz)
section TXM
variable {l : Launch} {D : va_G} {K : Nat → ClassId} {Z Y : Nat → Nat}
theorem tx_met {y : MethodName} {cc : ByteArray} {n : Nat} {r : Option FieldType} {rm : Room} {av : List Value} {ws : va_W} {Q : (Nat → Prop) → Array Value → State → Outcome → State → Prop} {X : (Nat → Prop) → String → State → State → Prop} {mc ms : Nat}
    (own : String) (hy : y.cls = own ∧ plainName y.cls = true) (hav : (lg_sl av).length ≤ n)
    (body : ∀ (p : Program) (e : Env) (s : State) (m : MethodId) (below : List Frame) (meth : Method) (c : Code) (A : Nat → Prop) (ls : Array Slot), kC p s m av.toArray c cc own n D K → XR Z s → XQ Z Y A s s.heap → (∀ x ∈ c.exceptionTable.toList, False) → meth.sig.returnType = r → meth.locks = false → (∀ q : Nat, s.heap.size ≤ q → A q) → va_P D vwCl ws s.heap → va_D A ws → va_S A s.heap s.heap [] → lv_has ls n (lv_args 0 av) →
      W p l e rm s m av.toArray below meth c s.heap [] 0 0 (vx_MQ below (Q A) (X A) av.toArray s mc ms A) (F0 m 0 ls [])) : txMet l y cc n r rm D K Z Y av ws Q X mc ms := by
  intro sz
  refine vx_ofW (cc := cc) (maxL := n) (ret := r) hy.2 rfl ?_
  intro p e s m args below meth c s₁ B hml ht hv
  obtain ⟨rfl, ⟨hsz, hP, hK, hD0⟩, hX, hZ⟩ := hv
  have hts := atoms_spec (ws := uws y cc n r) B.pre
  have hown : s.vm.findClass own = some m.cls := by rw [← hy.1]; exact findClass_of_methodNamed B.named
  subst hsz
  have hl := lv_entry av (n := n) hav
  rw [lg_entry_eq]
  exact body p e s m below meth c (va_A ws s.heap.size) _ ⟨B.exec, B.bytes, hml, hown, fun w h => hts w (List.mem_cons_of_mem _ h), hK⟩ hX hZ ht B.returns B.notSynchronized (fun q h => Or.inr h) hP (hD0.self) va_S.rf hl
theorem ht_met {y : MethodName} {cc : ByteArray} {n : Nat} {r : Option FieldType} {hh : List (Nat × Nat × Nat × Nat)} {rm : Room} {av : List Value} {ws : va_W} {Q : (Nat → Prop) → Array Value → State → Outcome → State → Prop} {mc ms : Nat}
    (own : String) (hy : y.cls = own ∧ plainName y.cls = true) (hav : (lg_sl av).length ≤ n)
    (body : ∀ (p : Program) (e : Env) (s : State) (m : MethodId) (below : List Frame) (meth : Method) (c : Code) (A : Nat → Prop) (ls : Array Slot), kC p s m av.toArray c cc own n D K → XR Z s → XQ Z Y A s s.heap → c.exceptionTable.toList = tableOf hh → meth.sig.returnType = r → meth.locks = false → (∀ q : Nat, s.heap.size ≤ q → A q) → va_P D vwCl ws s.heap → va_D A ws → va_S A s.heap s.heap [] → lv_has ls n (lv_args 0 av) →
      W p l e rm s m av.toArray below meth c s.heap [] 0 0 (MQ below (Q A) av.toArray s mc ms A) (F0 m 0 ls [])) : htMet l y cc n r hh rm D K Z Y av ws Q mc ms := by
  intro sz
  refine MetFree.of_bodyS (code := cc) (maxLocals := n) (ret := r) hy.2 ?_ ?_
  · intro args s m h hn
    obtain ⟨m9, meth, c, hn9, h1, h2, h3, h4, -, h5, h6, -⟩ := Cond.codeWith_spec (atoms_spec (ws := uwsH y cc n r hh) h _ List.mem_cons_self)
    cases hn.symm.trans hn9
    exact ⟨meth, c, h1, h2, h3, h4, h5, h6⟩
  · intro p e s m args below meth c s₁ B hml hv _
    have hh0 : s₁.heap = s.heap := by rw [B.state]; rfl
    obtain ⟨rfl, ⟨hsz, hP, hK, hD0⟩, hX, hZ⟩ := hv
    have hts := atoms_spec (ws := uwsH y cc n r hh) B.pre
    have htb : c.exceptionTable.toList = tableOf hh := vx_table (x := y) B (hts _ List.mem_cons_self)
    have hown : s.vm.findClass own = some m.cls := by rw [← hy.1]; exact findClass_of_methodNamed B.named
    subst hsz
    have hl := lv_entry av (n := n) hav
    have K0 := body p e s m below meth c (va_A ws s.heap.size) _ ⟨B.exec, B.bytes, hml, hown, fun w h => hts w (List.mem_cons_of_mem _ h), hK⟩ hX hZ htb B.returns B.notSynchronized (fun q h => Or.inr h) hP (hD0.self) va_S.rf hl
    rw [← lg_entry_eq] at K0
    obtain ⟨t, a1, o, b1, b2, b3⟩ := K0 s₁ hh0 (Stand.of_body B)
    exact ⟨t, o, a1, b1, b2, ⟨b3.1, b3.2⟩⟩
end TXM
/-- a part of the world is handed over, the rest stays -/
theorem fr_join {D : va_G} {A : Nat → Prop} {wc wr wj : va_W} {H H1 : Heap} (hP : va_P D vwCl (wc ++ wr) H) (hD : va_D A (wc ++ wr)) (hk : ∀ q : Nat, q < H.size → ¬ va_A wc H.size q → H1[q]? = H[q]?) (hF : ∀ q, va_A wc H.size q → A q) (hP1 : va_P D vwCl wj H1) (hD1 : va_D (va_A wc H.size) wj) : va_P D vwCl (wj ++ wr) H1 ∧ va_D A (wj ++ wr) := by
  have at2 : ∀ (k : Nat) (q : Nat × va_E), wr[k]? = some q → (wc ++ wr)[wc.length + k]? = some q := fun k q h => by
    rw [List.getElem?_append_right (by omega), show wc.length + k - wc.length = k by omega]
    exact h
  have apart : ∀ (k : Nat) (q : Nat × va_E), wr[k]? = some q → q.1 < H.size ∧ ¬ va_A wc H.size q.1 := fun k q h => by
    have hl := (hP _ q (at2 k q h)).lt
    refine ⟨hl, fun h0 => ?_⟩
    rcases h0 with ⟨k2, e, h2⟩ | h2
    · have hlt : k2 < wc.length := (List.getElem?_eq_some_iff.mp h2).1
      have h3 : (wc ++ wr)[k2]? = some (q.1, e) := by rw [List.getElem?_append_left hlt]; exact h2
      have h4 := hD.1 _ _ _ _ (at2 k q h) h3 rfl
      omega
    · omega
  refine ⟨hP1.app (fun k q hq => (hP _ q (at2 k q hq)).kept (hk q.1 (apart k q hq).1 (apart k q hq).2)), va_D.app (hD1.weaken (fun k q _ h => hF q.1 h)) ⟨fun i j x y hx hy hxy => ?_, fun k q hq => hD.2 _ q (at2 k q hq)⟩ (fun i j x y hx hy hxy => ?_)⟩
  · have := hD.1 _ _ _ _ (at2 i x hx) (at2 j y hy) hxy
    omega
  · exact (apart j y hy).2 (by rw [← hxy]; exact hD1.2 i x hx)
theorem fr_P {D : va_G} {wc wr : va_W} {H : Heap} (hP : va_P D vwCl (wc ++ wr) H) : va_P D vwCl wc H := fun k q h => hP k q (by rw [List.getElem?_append_left (List.getElem?_eq_some_iff.mp h).1]; exact h)
theorem fr_D {A : Nat → Prop} {wc wr : va_W} (hD : va_D A (wc ++ wr)) : va_D A wc :=
  ⟨fun i j x y hx hy h => hD.1 i j x y (by rw [List.getElem?_append_left (List.getElem?_eq_some_iff.mp hx).1]; exact hx) (by rw [List.getElem?_append_left (List.getElem?_eq_some_iff.mp hy).1]; exact hy) h, fun k q h => hD.2 k q (by rw [List.getElem?_append_left (List.getElem?_eq_some_iff.mp h).1]; exact h)⟩
theorem fr_F {A : Nat → Prop} {wc : va_W} {H0 H : Heap} {locs : List Loc} (hD : va_D A wc) (hS : va_S A H0 H locs) (hA : ∀ q, H0.size ≤ q → A q) : ∀ q, va_A wc H.size q → A q := fun q h => h.elim (fun ⟨k, e, hk⟩ => hD.2 k _ hk) (fun h => hA q (Nat.le_trans hS.1 h))
section TXC
variable {p : Program} {l : Launch} {e : Env} {R : Room} {s : State} {m : MethodId} {args : Array Value} {below : List Frame} {meth : Method} {c : Code} {H : Heap} {locs : List Loc} {cells slots mc ms : Nat} {Q : State → Prop}
variable {cc : ByteArray} {pc nL : Nat} {own : String} {ls : Array Slot} {rest st0 As : List Value} {D : va_G} {K : Nat → ClassId} {A : Nat → Prop} {b : Nat} {ws wc wr : va_W} {S SX : Type} {W' : S → va_W} {WX' : SX → va_W}
variable {y : MethodName} {bytes : ByteArray} {maxL index : Nat} {ret : Option FieldType} {rm : Room} {Qc : Array Value → State → Outcome → State → Prop}
variable {Z Y : Nat → Nat}
theorem tx_throw (C : kC p s m args c cc RX11 nL D K) (hl : l.stackTraces = false) (hE : XR Z s) (hZ : XQ Z Y A s s.heap) (ht : ∀ x ∈ c.exceptionTable.toList, False) (hlocks : meth.locks = false) (hP : va_P D vwCl ws H) (hD : va_D A ws) (hS : va_S A s.heap H locs) (hls : ls.size = nL) {px : SX → Prop} (u : SX) (hw : ws = WX' u) (hpx : px u)
    (h1 : Cond.classLink RX11 223 NSE ∈ wsL_law) (h2 : Cond.initialized NSE ∈ wsL_law)
    (d0 : decode cc pc = .ok (.new 223, 3)) (d3 : decode cc (pc + 3) = .ok (.dup, 1)) (d4 : decode cc (pc + 4) = .ok (.invokespecial 225, 3)) (d7 : decode cc (pc + 7) = .ok (.athrow, 1))
    (hRf : 5 < R.frames) (hRl : (rest.map fun v => v.category).sum + 81 ≤ R.locals) (hRc : cells + 1 ≤ R.cells) (hRs : slots + 6 ≤ R.slots) (hc : cells + 1 ≤ mc) (hs : slots + 6 ≤ ms) :
    W p l e R s m args below meth c H locs cells slots (vx_MQ below Qc (XCt D K px WX' A) args s mc ms A) (F0 m pc ls rest) := by
  subst hw
  refine vx_throw0 (own := RX11) (cls := NSE) (names := nmE) (ik := 223) (ic := 225) (A := A) C.1 C.2.1 hl C.2.2.2.1 (by decide +kernel) (by decide +kernel) (C.2.2.2.2.1 _ h1) (C.2.2.2.2.1 _ h2) ?_ nse_ot hZ.2.2.2.2.2.1 hZ.2.2.2.2.2.2 hS (by rw [C.2.2.1]; exact hls) d0 d3 d4 d7 (fun x hx => (ht x hx).elim) hRf hRl hRc hRs hlocks ?_ hS.2.2 hc hs
  · refine vx_hat (fun w hw => C.2.2.2.2.1 w (List.mem_append_right _ hw)) nse_bad (vx_c (va_Nw.use rfl hE.1.1) (vx_c (va_Nw.use rfl hE.1.2.1) (vx_c (va_Nw.use rfl hE.1.2.2.1) (vx_c (va_Nw.use rfl hE.1.2.2.2) vx_n))))
  · intro t hal hz hk
    exact ⟨u, hpx, ⟨rfl, hP.kept (fun k q hq => hk q.1 (hP k q hq).lt), va_K.moved hal C.2.2.2.2.2, hD⟩, Nat.le_trans hS.1 hz, fun q h1 h2 => (hk q (Nat.lt_of_lt_of_le h1 hS.1)).trans (hS.2.1 q h1 h2)⟩
/-- a helper of the law calls a method that may throw -/
theorem tx_Vi (C : kC p s m args c cc own nL D K) (hP : va_P D vwCl (wc ++ wr) H) (hD : va_D A (wc ++ wr)) (hS : va_S A s.heap H locs) (hA : ∀ q, s.heap.size ≤ q → A q) {post : Int32 → S → Prop} {px : SX → Prop} (hE : XR Z s) (hZ : XQ Z Y A s s.heap)
    (hM : txMet l y bytes maxL ret rm D K Z Y (.ref b :: As) wc (QI D K post W') (XCt D K px WX') mc ms) {Cn : String} (hg : GoodIn wsL_law (wsV own index Cn y (uws y bytes maxL ret))) (hd : y.cls = Cn ∧ y.cls ≠ "java/lang/invoke/MethodHandle" ∧ y.cls ≠ "java/lang/invoke/VarHandle" ∧ (parseMethodDescriptor y.desc).map (fun d => d.parameters.length) = some As.length) (hR : rm.frames + 1 ≤ R.frames ∧ 8 + (maxL + 11) + rm.locals ≤ R.locals) (hrc : rm.cells = mc) (hrs : rm.slots = ms)
    {q0 ci : Nat} {Tn : u_T} {Nn : Nat} {fs : List Value} (hc : vwCl[ci]? = some (Cn, Tn, Nn)) (he : wc[q0]? = some (b, .inr (ci, fs)))
    (hst : st0 = As.reverse ++ .ref b :: rest) (hls : ls.size = nL) (hcat : (rest.map fun v => v.category).sum ≤ 8) (hdg : decode cc pc = .ok (.invokevirtual index, 3)) (hf : cells + mc ≤ R.cells ∧ slots + ms ≤ R.slots)
    (kx : ∀ (ce : Cell) (q9 : Addr) (u : SX) (H1 : Heap) (locs1 : List Loc), px u → va_P D vwCl (WX' u ++ wr) H1 → va_D A (WX' u ++ wr) → va_S A s.heap H1 locs1 → H1[q9]? = some ce → ce.vm = .none → s.vm.findClass NSE = some ce.cls → vx_W p l e R s m args below meth c H1 locs1 (cells + mc) (slots + ms) Q (F0 m pc ls rest) q9)
    (kk : ∀ (r : Int32) (u : S) (H1 : Heap) (locs1 : List Loc), post r u → va_P D vwCl (W' u ++ wr) H1 → va_D A (W' u ++ wr) → va_S A s.heap H1 locs1 → W p l e R s m args below meth c H1 locs1 (cells + mc) (slots + ms) Q (F0 m (pc + 3) ls (.int r :: rest))) : W p l e R s m args below meth c H locs cells slots Q (F0 m pc ls st0) := by
  have hPc := fr_P hP
  have hDc := fr_D hD
  have hFc := fr_F hDc hS hA
  refine vx_calli (vx_runV (As := As) (rest := rest) ⟨C.1, C.2.1, C.2.2.1, C.2.2.2.1, C.2.2.2.2.1⟩ (hM H.size) (cwV As.length C.2.2.2.2.1 hg rfl hrc hrs hd hR) ⟨preT_blind, va_recv C.2.2.2.2.2 hPc hc he, preT_at C.2.2.2.2.2 hPc hDc hE hZ hS hFc⟩ rfl rfl hls hst (lv_room hcat) hdg hf) hS (fun q _ h => hFc q h) hFc (fun q _ h => hFc q h) (fun E ce q9 u t H1 locs1 ht hvm hw hB hz1 hk1 hS1 h9 hv9 hcl => ?_) (fun r u t H1 locs1 ht hvm hw hB hz1 hk1 hS1 => ?_)
  · obtain ⟨rfl, hP1, hK1, hD1⟩ := hB
    rw [ht] at hP1
    have hj := fr_join hP hD hk1 hFc hP1 hD1
    exact kx ce q9 u H1 locs1 hw hj.1 hj.2 hS1 h9 hv9 hcl
  · obtain ⟨hP1, hK1, hD1⟩ := hB
    rw [ht] at hP1
    have hj := fr_join hP hD hk1 hFc hP1 hD1
    exact kk r u H1 locs1 hw hj.1 hj.2 hS1
/-- the law calls a helper that catches -/
theorem ht_Si (C : kC p s m args c cc own nL D K) (hP : va_P D vwCl (wc ++ wr) H) (hD : va_D A (wc ++ wr)) (hS : va_S A s.heap H locs) (hA : ∀ q, s.heap.size ≤ q → A q) {post : Int32 → S → Prop} (hE : XR Z s) (hZ : XQ Z Y A s s.heap) {hh : List (Nat × Nat × Nat × Nat)}
    (hM : htMet l y bytes maxL ret hh rm D K Z Y As wc (QI D K post W') mc ms) (w1 : Cond.methodLink own index y ∈ wsL_law) (w2 : Cond.static y ∈ wsL_law) (w3 : Cond.initialized y.cls ∈ wsL_law) (w4 : Cond.codeWith y bytes maxL ret hh ∈ wsL_law) (hd : y.cls ≠ "java/lang/invoke/MethodHandle" ∧ y.cls ≠ "java/lang/invoke/VarHandle" ∧ (parseMethodDescriptor y.desc).map (fun d => d.parameters.length) = some As.length) (hR : rm.frames + 1 ≤ R.frames ∧ 8 + (maxL + 11) + rm.locals ≤ R.locals) (hrc : rm.cells = mc) (hrs : rm.slots = ms)
    (hst : st0 = As.reverse ++ rest) (hls : ls.size = nL) (hcat : (rest.map fun v => v.category).sum ≤ 8) (hdg : decode cc pc = .ok (.invokestatic index, 3)) (hf : cells + mc ≤ R.cells ∧ slots + ms ≤ R.slots)
    (kk : ∀ (r : Int32) (u : S) (H1 : Heap) (locs1 : List Loc), post r u → va_P D vwCl (W' u ++ wr) H1 → va_D A (W' u ++ wr) → va_S A s.heap H1 locs1 → W p l e R s m args below meth c H1 locs1 (cells + mc) (slots + ms) Q (F0 m (pc + 3) ls (.int r :: rest))) : W p l e R s m args below meth c H locs cells slots Q (F0 m pc ls st0) := by
  have hPc := fr_P hP
  have hDc := fr_D hD
  have hFc := fr_F hDc hS hA
  have hg : GoodIn wsL_law (va_wsS own index y (uwsH y bytes maxL ret hh)) := by
    unfold va_wsS
    refine goodIn_app (fun w hw => ?_) (fun w hw => (List.mem_cons.mp hw).elim (fun e => by rw [e]; exact ⟨w4, uU_good w4⟩) (fun h => ⟨h, uU_good h⟩))
    simp only [List.mem_cons, List.not_mem_nil, or_false] at hw
    rcases hw with rfl | rfl | rfl
    · exact ⟨w1, uU_good w1⟩
    · exact ⟨w2, uU_good w2⟩
    · exact ⟨w3, uU_good w3⟩
  refine va_calli (vx_runSW (As := As) (rest := rest) ⟨C.1, C.2.1, C.2.2.1, C.2.2.2.1, C.2.2.2.2.1⟩ (hM H.size) (vx_cwSW As.length C.2.2.2.2.1 hg rfl hrc hrs hd hR) ⟨preT_blind, preT_at C.2.2.2.2.2 hPc hDc hE hZ hS hFc⟩ rfl rfl hls hst (lv_room hcat) hdg hf) hS (fun q _ h => hFc q h) hFc (fun r u t H1 locs1 ht hvm hw hB hz1 hk1 hS1 => ?_)
  obtain ⟨hP1, hK1, hD1⟩ := hB
  rw [ht] at hP1
  have hj := fr_join hP hD hk1 hFc hP1 hD1
  exact kk r u H1 locs1 hw hj.1 hj.2 hS1
end TXC
