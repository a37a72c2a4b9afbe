/-! ===== methods that throw NoSuchElementException, and the law's helpers that catch it ===== -/
abbrev NSE : String := "java/util/NoSuchElementException"
abbrev nmE : List String := ["java/lang/RuntimeException", "java/lang/Exception"]
abbrev B0 : List Cond := [Cond.castable NSE NSE, Cond.declares (Bundle.init0 "java/lang/RuntimeException"), Cond.declares (Bundle.init0 "java/lang/Exception"), Cond.declares (Bundle.init0 Bundle.tN)]
def XE (U : State) : Prop := va_Nw (Cond.castable NSE NSE) U ∧ va_Nw (Cond.declares (Bundle.init0 "java/lang/RuntimeException")) U ∧ va_Nw (Cond.declares (Bundle.init0 "java/lang/Exception")) U ∧ va_Nw (Cond.declares (Bundle.init0 Bundle.tN)) U
theorem XE_ok : Xok XE := fun _ _ hW h => ⟨va_Nw.warmC hW h.1, va_Nw.warmD hW h.2.1, va_Nw.warmD hW h.2.2.1, va_Nw.warmD hW h.2.2.2⟩
def XZ (A : Nat → Prop) (U : State) (H : Heap) : Prop := vx_Zq Bundle.tN "UNASSIGNED_STACK" Bundle.steD A U H ∧ vx_Zq Bundle.tN "SUPPRESSED_SENTINEL" Bundle.listD A U H
abbrev XC0 (px : Prop) (A : Nat → Prop) : String → State → State → Prop := vx_X (S := Unit) (fun _ => px) (fun E _ _ => E = NSE) A
def PreX (D : va_G) (K : Nat → ClassId) (ws : va_W) (sz : Nat) (U : State) : Prop := PreW D K ws sz U ∧ XE U ∧ XZ (va_A ws sz) U U.heap
def xMet (l : Launch) (y : MethodName) (c : ByteArray) (n : Nat) (r : Option FieldType) (rm : Room) (D : va_G) (K : Nat → ClassId) (av : List Value) (ws : va_W) (Q : (Nat → Prop) → Array Value → State → Outcome → State → Prop) (px : Prop) (mc ms : Nat) : Prop :=
  ∀ sz, vx_Met l y (uws y c n r) rm (va_Pc av (PreX D K ws sz)) (Q (va_A ws sz)) (XC0 px (va_A ws sz)) mc ms (va_A ws sz)
def uwsH (y : MethodName) (c : ByteArray) (n : Nat) (r : Option FieldType) (hh : List (Nat × Nat × Nat × Nat)) : List Cond := Cond.codeWith y c n r hh :: wsL_law
def hMet (l : Launch) (y : MethodName) (c : ByteArray) (n : Nat) (r : Option FieldType) (hh : List (Nat × Nat × Nat × Nat)) (rm : Room) (D : va_G) (K : Nat → ClassId) (av : List Value) (ws : va_W) (Q : (Nat → Prop) → Array Value → State → Outcome → State → Prop) (mc ms : Nat) : Prop :=
  ∀ sz, Met l y (uwsH y c n r hh) rm (va_Pc av (PreX D K ws sz)) (Q (va_A ws sz)) mc ms (va_A ws sz)
theorem preX_blind {D : va_G} {K : Nat → ClassId} {av : List Value} {ws : va_W} {sz : Nat} : FrameBlind (va_Pc av (PreX D K ws sz)) := by
  intro a U g mk q
  obtain ⟨q0, ⟨q1, qP, qK, qD⟩, qX, qZ⟩ := q
  have hA : U.vm.Alike (U.calling g mk a).vm := Vm.Alike.refl U.vm
  exact ⟨q0, ⟨q1, qP, va_K.moved (u := U) (U := U.calling g mk a) hA qK, qD⟩, XE_ok U _ (State.WarmedH.refl U) qX, vx_Zq.moved hA qZ.1, vx_Zq.moved hA qZ.2⟩
theorem preX_at {D : va_G} {K : Nat → ClassId} {av : List Value} {s : State} {wc : va_W} {A : Nat → Prop} {H : Heap} {locs : List Loc} (hK : va_K D vwCl (TY K) s) (hPc : va_P D vwCl wc H) (hDc : va_D A wc) (hE : XE s) (hZ : XZ A s s.heap) (hS : va_S A s.heap H locs) (hF : ∀ q, va_A wc H.size q → A q) :
    ∀ U : State, U.heap = H → s.WarmedH U.vm → va_Pc av (PreX D K wc H.size) av.toArray U := by
  intro U hU hW
  have z : ∀ {n d : String}, vx_Zq Bundle.tN n d A s s.heap → vx_Zq Bundle.tN n d (va_A wc H.size) U U.heap := fun h => by
    rw [hU]
    exact vx_Zq.moved hW.alike (vx_Zq.narrow (vx_Zq.kept h (fun a h1 h2 => hS.2.1 a h1 h2)) hF)
  exact ⟨rfl, ⟨by rw [hU], by rw [hU]; exact hPc, va_K.moved hW.alike hK, hDc.weaken (fun _ _ _ _ => trivial)⟩, XE_ok _ _ hW hE, z hZ.1, z hZ.2⟩
theorem va_P0 {D : va_G} {H : Heap} : va_P D vwCl [] H := fun k x h => nomatch (show (none : Option (Nat × va_E)) = some x from h)
theorem va_D0 {A : Nat → Prop} : va_D A [] := ⟨fun i j p q h => (nomatch (show (none : Option (Nat × va_E)) = some p from h)), fun k q h => (nomatch (show (none : Option (Nat × va_E)) = some q from h))⟩
section XM
variable {l : Launch} {D : va_G} {K : Nat → ClassId}
theorem x_met {y : MethodName} {cc : ByteArray} {n : Nat} {r : Option FieldType} {rm : Room} {av : List Value} {ws : va_W} {Q : (Nat → Prop) → Array Value → State → Outcome → State → Prop} {px : Prop} {mc ms : Nat}
    (own : String) (hy : y.cls = own ∧ plainName y.cls = true) (hav : (lg_sl av).length ≤ n)
    (body : ∀ (p : Program) (e : Env) (s : State) (m : MethodId) (below : List Frame) (meth : Method) (c : Code) (A : Nat → Prop) (ls : Array Slot), kC p s m av.toArray c cc own n D K → XE s → XZ A s s.heap → (∀ x ∈ c.exceptionTable.toList, False) → meth.sig.returnType = r → meth.locks = false → (∀ q : Nat, s.heap.size ≤ q → A q) → va_P D vwCl ws s.heap → va_D A ws → va_S A s.heap s.heap [] → lv_has ls n (lv_args 0 av) →
      W p l e rm s m av.toArray below meth c s.heap [] 0 0 (vx_MQ below (Q A) (XC0 px A) av.toArray s mc ms A) (F0 m 0 ls [])) : xMet l y cc n r rm D K av ws Q px mc ms := by
  intro sz
  refine vx_ofW (cc := cc) (maxL := n) (ret := r) hy.2 rfl ?_
  intro p e s m args below meth c s₁ B hml ht hv
  obtain ⟨rfl, ⟨hsz, hP, hK, hD0⟩, hX, hZ⟩ := hv
  have hts := atoms_spec (ws := uws y cc n r) B.pre
  have hown : s.vm.findClass own = some m.cls := by rw [← hy.1]; exact findClass_of_methodNamed B.named
  subst hsz
  have hl := lv_entry av (n := n) hav
  rw [lg_entry_eq]
  exact body p e s m below meth c (va_A ws s.heap.size) _ ⟨B.exec, B.bytes, hml, hown, fun w h => hts w (List.mem_cons_of_mem _ h), hK⟩ hX hZ ht B.returns B.notSynchronized (fun q h => Or.inr h) hP (hD0.self) va_S.rf hl
theorem h_met {y : MethodName} {cc : ByteArray} {n : Nat} {r : Option FieldType} {hh : List (Nat × Nat × Nat × Nat)} {rm : Room} {av : List Value} {ws : va_W} {Q : (Nat → Prop) → Array Value → State → Outcome → State → Prop} {mc ms : Nat}
    (own : String) (hy : y.cls = own ∧ plainName y.cls = true) (hav : (lg_sl av).length ≤ n)
    (body : ∀ (p : Program) (e : Env) (s : State) (m : MethodId) (below : List Frame) (meth : Method) (c : Code) (A : Nat → Prop) (ls : Array Slot), kC p s m av.toArray c cc own n D K → XE s → XZ A s s.heap → c.exceptionTable.toList = tableOf hh → meth.sig.returnType = r → meth.locks = false → (∀ q : Nat, s.heap.size ≤ q → A q) → va_P D vwCl ws s.heap → va_D A ws → va_S A s.heap s.heap [] → lv_has ls n (lv_args 0 av) →
      W p l e rm s m av.toArray below meth c s.heap [] 0 0 (MQ below (Q A) av.toArray s mc ms A) (F0 m 0 ls [])) : hMet l y cc n r hh rm D K av ws Q mc ms := by
  intro sz
  refine MetFree.of_bodyS (code := cc) (maxLocals := n) (ret := r) hy.2 ?_ ?_
  · intro args s m h hn
    obtain ⟨m9, meth, c, hn9, h1, h2, h3, h4, -, h5, h6, -⟩ := Cond.codeWith_spec (atoms_spec (ws := uwsH y cc n r hh) h _ List.mem_cons_self)
    cases hn.symm.trans hn9
    exact ⟨meth, c, h1, h2, h3, h4, h5, h6⟩
  · intro p e s m args below meth c s₁ B hml hv _
    have hh0 : s₁.heap = s.heap := by rw [B.state]; rfl
    obtain ⟨rfl, ⟨hsz, hP, hK, hD0⟩, hX, hZ⟩ := hv
    have hts := atoms_spec (ws := uwsH y cc n r hh) B.pre
    have htb : c.exceptionTable.toList = tableOf hh := vx_table (x := y) B (hts _ List.mem_cons_self)
    have hown : s.vm.findClass own = some m.cls := by rw [← hy.1]; exact findClass_of_methodNamed B.named
    subst hsz
    have hl := lv_entry av (n := n) hav
    have K0 := body p e s m below meth c (va_A ws s.heap.size) _ ⟨B.exec, B.bytes, hml, hown, fun w h => hts w (List.mem_cons_of_mem _ h), hK⟩ hX hZ htb B.returns B.notSynchronized (fun q h => Or.inr h) hP (hD0.self) va_S.rf hl
    rw [← lg_entry_eq] at K0
    obtain ⟨t, a1, o, b1, b2, b3⟩ := K0 s₁ hh0 (Stand.of_body B)
    exact ⟨t, o, a1, b1, b2, ⟨b3.1, b3.2⟩⟩
end XM
theorem nse_ot : ∀ w ∈ Cond.classLink RX11 223 NSE :: Cond.initialized NSE :: vx_at0 RX11 225 NSE nmE, vx_ot w = true := by decide +kernel
theorem nse_bad : ∀ w ∈ (vx_at0 RX11 225 NSE nmE).filter (fun w => !goodWord w), w ∈ B0 := by decide +kernel
section XT
variable {p : Program} {l : Launch} {e : Env} {R : Room} {s : State} {m : MethodId} {args : Array Value} {below : List Frame} {meth : Method} {c : Code} {H : Heap} {locs : List Loc} {cells slots mc ms : Nat} {Q : State → Prop}
variable {cc : ByteArray} {pc nL : Nat} {ls : Array Slot} {rest st0 As : List Value} {D : va_G} {K : Nat → ClassId} {A : Nat → Prop} {b : Nat} {ws wc wr : va_W} {S : Type} {W' : S → va_W}
variable {y : MethodName} {bytes : ByteArray} {maxL index : Nat} {ret : Option FieldType} {rm : Room} {px : Prop} {Qc : Array Value → State → Outcome → State → Prop}
theorem x_throw (C : kC p s m args c cc RX11 nL D K) (hl : l.stackTraces = false) (hE : XE s) (hZ : XZ A s s.heap) (ht : ∀ x ∈ c.exceptionTable.toList, False) (hlocks : meth.locks = false) (hS : va_S A s.heap H locs) (hls : ls.size = nL) (hpx : px)
    (h1 : Cond.classLink RX11 223 NSE ∈ wsL_law) (h2 : Cond.initialized NSE ∈ wsL_law)
    (d0 : decode cc pc = .ok (.new 223, 3)) (d3 : decode cc (pc + 3) = .ok (.dup, 1)) (d4 : decode cc (pc + 4) = .ok (.invokespecial 225, 3)) (d7 : decode cc (pc + 7) = .ok (.athrow, 1))
    (hRf : 5 < R.frames) (hRl : (rest.map fun v => v.category).sum + 81 ≤ R.locals) (hRc : cells + 1 ≤ R.cells) (hRs : slots + 6 ≤ R.slots) (hc : cells + 1 ≤ mc) (hs : slots + 6 ≤ ms) :
    W p l e R s m args below meth c H locs cells slots (vx_MQ below Qc (XC0 px A) args s mc ms A) (F0 m pc ls rest) := by
  refine vx_throw0 (own := RX11) (cls := NSE) (names := nmE) (ik := 223) (ic := 225) (A := A) C.1 C.2.1 hl C.2.2.2.1 (by decide +kernel) (by decide +kernel) (C.2.2.2.2.1 _ h1) (C.2.2.2.2.1 _ h2) ?_ nse_ot hZ.1 hZ.2 hS (by rw [C.2.2.1]; exact hls) d0 d3 d4 d7 (fun x hx => (ht x hx).elim) hRf hRl hRc hRs hlocks ?_ hS.2.2 hc hs
  · refine vx_hat (fun w hw => C.2.2.2.2.1 w (List.mem_append_right _ hw)) nse_bad (vx_c (va_Nw.use rfl hE.1) (vx_c (va_Nw.use rfl hE.2.1) (vx_c (va_Nw.use rfl hE.2.2.1) (vx_c (va_Nw.use rfl hE.2.2.2) vx_n))))
  · intro t _ hz hk
    exact ⟨(), hpx, rfl, Nat.le_trans hS.1 hz, fun q h1 h2 => (hk q (Nat.lt_of_lt_of_le h1 hS.1)).trans (hS.2.1 q h1 h2)⟩
theorem x_Vi {own : String} (C : kC p s m args c cc own nL D K) (hP : va_P D vwCl ws H) (hD : va_D A ws) (hS : va_S A s.heap H locs) (hA : ∀ q, s.heap.size ≤ q → A q) {post : Int32 → S → Prop} (hE : XE s) (hZ : XZ A s s.heap)
    (hM : xMet l y bytes maxL ret rm D K (.ref b :: As) wc (QI D K post W') px mc ms) {Cn : String} (hg : GoodIn wsL_law (wsV own index Cn y (uws y bytes maxL ret))) (hd : y.cls = Cn ∧ y.cls ≠ "java/lang/invoke/MethodHandle" ∧ y.cls ≠ "java/lang/invoke/VarHandle" ∧ (parseMethodDescriptor y.desc).map (fun d => d.parameters.length) = some As.length) (hR : rm.frames + 1 ≤ R.frames ∧ 8 + (maxL + 11) + rm.locals ≤ R.locals) (hrc : rm.cells = mc) (hrs : rm.slots = ms)
    {q0 ci : Nat} {Tn : u_T} {Nn : Nat} {fs : List Value} (hc : vwCl[ci]? = some (Cn, Tn, Nn)) (he : wc[q0]? = some (b, .inr (ci, fs))) {isC isR : List Nat} (hp : Part ws wc wr isC isR)
    (hst : st0 = As.reverse ++ .ref b :: rest) (hls : ls.size = nL) (hcat : (rest.map fun v => v.category).sum ≤ 8) (hdg : decode cc pc = .ok (.invokevirtual index, 3)) (hf : cells + mc ≤ R.cells ∧ slots + ms ≤ R.slots)
    (kx : ∀ (ce : Cell) (q9 : Addr) (H1 : Heap) (locs1 : List Loc), px → va_P D vwCl wr H1 → va_D A wr → va_S A s.heap H1 locs1 → H1[q9]? = some ce → ce.vm = .none → s.vm.findClass NSE = some ce.cls → vx_W p l e R s m args below meth c H1 locs1 (cells + mc) (slots + ms) Q (F0 m pc ls rest) q9)
    (kk : ∀ (r : Int32) (u : S) (H1 : Heap) (locs1 : List Loc), post r u → va_P D vwCl (wr ++ W' u) H1 → va_D A (wr ++ W' u) → va_S A s.heap H1 locs1 → W p l e R s m args below meth c H1 locs1 (cells + mc) (slots + ms) Q (F0 m (pc + 3) ls (.int r :: rest))) : W p l e R s m args below meth c H locs cells slots Q (F0 m pc ls st0) := by
  have hPc : va_P D vwCl wc H := va_sub' hP isC hp.1
  have hDc : va_D A wc := hD.sub isC hp.2.2.1 hp.1
  have hFc := va_free hD hS hA isC hp.1
  refine vx_calli (vx_runV (As := As) (rest := rest) ⟨C.1, C.2.1, C.2.2.1, C.2.2.2.1, C.2.2.2.2.1⟩ (hM H.size) (cwV As.length C.2.2.2.2.1 hg rfl hrc hrs hd hR) ⟨preX_blind, va_recv C.2.2.2.2.2 hPc hc he, preX_at C.2.2.2.2.2 hPc hDc hE hZ hS hFc⟩ rfl rfl hls hst (lv_room hcat) hdg hf) hS (fun q _ h => hFc q h) hFc (fun q _ h => hFc q h) (fun E ce q9 u t H1 locs1 ht hvm hw hB hz1 hk1 hS1 h9 hv9 hcl => ?_) (fun r u t H1 locs1 ht hvm hw hB hz1 hk1 hS1 => ?_)
  · subst hB
    have hj := k_join (A1 := A) (wj := []) hP hD hp hk1 hFc va_P0 va_D0
    rw [List.append_nil] at hj
    exact kx ce q9 H1 locs1 hw hj.1 hj.2 hS1 h9 hv9 hcl
  · obtain ⟨hP1, hK1, hD1⟩ := hB
    rw [ht] at hP1
    have hj := k_join (A1 := A) hP hD hp hk1 hFc hP1 hD1
    exact kk r u H1 locs1 hw hj.1 hj.2 hS1
/-- the law calls a helper that catches -/
theorem h_Si {own : String} (C : kC p s m args c cc own nL D K) (hP : va_P D vwCl ws H) (hD : va_D A ws) (hS : va_S A s.heap H locs) (hA : ∀ q, s.heap.size ≤ q → A q) {post : Int32 → S → Prop} (hE : XE s) (hZ : XZ A s s.heap) {hh : List (Nat × Nat × Nat × Nat)}
    (hM : hMet l y bytes maxL ret hh rm D K As wc (QI D K post W') mc ms) (w1 : Cond.methodLink own index y ∈ wsL_law) (w2 : Cond.static y ∈ wsL_law) (w3 : Cond.initialized y.cls ∈ wsL_law) (w4 : Cond.codeWith y bytes maxL ret hh ∈ wsL_law) (hd : y.cls ≠ "java/lang/invoke/MethodHandle" ∧ y.cls ≠ "java/lang/invoke/VarHandle" ∧ (parseMethodDescriptor y.desc).map (fun d => d.parameters.length) = some As.length) (hR : rm.frames + 1 ≤ R.frames ∧ 8 + (maxL + 11) + rm.locals ≤ R.locals) (hrc : rm.cells = mc) (hrs : rm.slots = ms) {isC isR : List Nat} (hp : Part ws wc wr isC isR)
    (hst : st0 = As.reverse ++ rest) (hls : ls.size = nL) (hcat : (rest.map fun v => v.category).sum ≤ 8) (hdg : decode cc pc = .ok (.invokestatic index, 3)) (hf : cells + mc ≤ R.cells ∧ slots + ms ≤ R.slots)
    (kk : ∀ (r : Int32) (u : S) (H1 : Heap) (locs1 : List Loc), post r u → va_P D vwCl (wr ++ W' u) H1 → va_D A (wr ++ W' u) → va_S A s.heap H1 locs1 → W p l e R s m args below meth c H1 locs1 (cells + mc) (slots + ms) Q (F0 m (pc + 3) ls (.int r :: rest))) : W p l e R s m args below meth c H locs cells slots Q (F0 m pc ls st0) := by
  have hPc : va_P D vwCl wc H := va_sub' hP isC hp.1
  have hDc : va_D A wc := hD.sub isC hp.2.2.1 hp.1
  have hFc := va_free hD hS hA isC hp.1
  have hg : GoodIn wsL_law (va_wsS own index y (uwsH y bytes maxL ret hh)) := by
    unfold va_wsS
    refine goodIn_app (fun w hw => ?_) (fun w hw => (List.mem_cons.mp hw).elim (fun e => by rw [e]; exact ⟨w4, uU_good w4⟩) (fun h => ⟨h, uU_good h⟩))
    simp only [List.mem_cons, List.not_mem_nil, or_false] at hw
    rcases hw with rfl | rfl | rfl
    · exact ⟨w1, uU_good w1⟩
    · exact ⟨w2, uU_good w2⟩
    · exact ⟨w3, uU_good w3⟩
  refine va_calli (vx_runSW (As := As) (rest := rest) ⟨C.1, C.2.1, C.2.2.1, C.2.2.2.1, C.2.2.2.2.1⟩ (hM H.size) (vx_cwSW As.length C.2.2.2.2.1 hg rfl hrc hrs hd hR) ⟨preX_blind, preX_at C.2.2.2.2.2 hPc hDc hE hZ hS hFc⟩ rfl rfl hls hst (lv_room hcat) hdg hf) hS (fun q _ h => hFc q h) hFc (fun r u t H1 locs1 ht hvm hw hB hz1 hk1 hS1 => ?_)
  obtain ⟨hP1, hK1, hD1⟩ := hB
  rw [ht] at hP1
  have hj := k_join (A1 := A) hP hD hp hk1 hFc hP1 hD1
  exact kk r u H1 locs1 hw hj.1 hj.2 hS1
end XT
