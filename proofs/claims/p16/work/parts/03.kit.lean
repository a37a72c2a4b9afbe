/-! ===== the rows of this claim: every contract asks the law's own good words, and tells its world as a list of cells ===== -/
def uws (y : MethodName) (c : ByteArray) (n : Nat) (r : Option FieldType) : List Cond := Cond.code y c n r :: wsL_law
theorem uU_all : wsL_law.all goodWord = true := by decide +kernel
theorem uU_good {w : Cond} (h : w ∈ wsL_law) : (w.onTables && w.keeps) = true ∨ ∃ ty, w = .arrayClass ty := good_of_word (List.all_eq_true.mp uU_all w h)
theorem uws_good {y : MethodName} {c : ByteArray} {n : Nat} {r : Option FieldType} (h : Cond.code y c n r ∈ wsL_law) : GoodIn wsL_law (uws y c n r) := fun w hw => (List.mem_cons.mp hw).elim (fun e => by rw [e]; exact ⟨h, uU_good h⟩) (fun h => ⟨h, uU_good h⟩)
theorem uwV {own C : String} {idx n : Nat} {y : MethodName} {c : ByteArray} {r : Option FieldType} (h1 : Cond.methodLink own idx y ∈ wsL_law) (h2 : Cond.instanceMethod y ∈ wsL_law) (h3 : Cond.selects C y y ∈ wsL_law) (h4 : Cond.initialized C ∈ wsL_law) (h5 : Cond.code y c n r ∈ wsL_law) : GoodIn wsL_law (wsV own idx C y (uws y c n r)) := by
  unfold wsV
  refine goodIn_app (fun w hw => ?_) (uws_good h5)
  simp only [List.mem_cons, List.not_mem_nil, or_false] at hw
  rcases hw with rfl | rfl | rfl | rfl
  · exact ⟨h1, uU_good h1⟩
  · exact ⟨h2, uU_good h2⟩
  · exact ⟨h3, uU_good h3⟩
  · exact ⟨h4, uU_good h4⟩
theorem uwS {own : String} {idx n : Nat} {y : MethodName} {c : ByteArray} {r : Option FieldType} (h1 : Cond.methodLink own idx y ∈ wsL_law) (h2 : Cond.static y ∈ wsL_law) (h4 : Cond.initialized y.cls ∈ wsL_law) (h5 : Cond.code y c n r ∈ wsL_law) : GoodIn wsL_law (va_wsS own idx y (uws y c n r)) := by
  unfold va_wsS
  refine goodIn_app (fun w hw => ?_) (uws_good h5)
  simp only [List.mem_cons, List.not_mem_nil, or_false] at hw
  rcases hw with rfl | rfl | rfl
  · exact ⟨h1, uU_good h1⟩
  · exact ⟨h2, uU_good h2⟩
  · exact ⟨h4, uU_good h4⟩
/-- the classes of the arrays: int, long, byte, boolean, byte[], int[] -/
abbrev TY (K : Nat → ClassId) : List (ClassId × FieldType) := [(K 0, .int), (K 1, .long), (K 2, .byte), (K 3, .boolean), (K 4, .array .byte), (K 5, .array .int)]
def PreW (D : va_G) (K : Nat → ClassId) (ws : va_W) (sz : Nat) (U : State) : Prop := U.heap.size = sz ∧ va_P D vwCl ws U.heap ∧ va_K D vwCl (TY K) U ∧ va_D (fun _ => True) ws
def PostW (D : va_G) (K : Nat → ClassId) (A : Nat → Prop) (ws : va_W) (t : State) : Prop := va_P D vwCl ws t.heap ∧ va_K D vwCl (TY K) t ∧ va_D A ws
/-- a room: so many frames deep, so many cells and slots -/
def rmD (d mc ms : Nat) : Room := { frames := d, cells := mc, slots := ms, locals := 40 * d }
def QI {S : Type} (D : va_G) (K : Nat → ClassId) (post : Int32 → S → Prop) (W' : S → va_W) (A : Nat → Prop) : Array Value → State → Outcome → State → Prop := va_Qi post (fun u t => PostW D K A (W' u) t) A
def QL {S : Type} (D : va_G) (K : Nat → ClassId) (post : Int64 → S → Prop) (W' : S → va_W) (A : Nat → Prop) : Array Value → State → Outcome → State → Prop := va_Ql post (fun u t => PostW D K A (W' u) t) A
def QV {S : Type} (D : va_G) (K : Nat → ClassId) (post : S → Prop) (W' : S → va_W) (A : Nat → Prop) : Array Value → State → Outcome → State → Prop := va_Qv post (fun u t => PostW D K A (W' u) t) A
def QR {S : Type} (D : va_G) (K : Nat → ClassId) (post : S → Prop) (ra : S → Nat) (W' : S → va_W) (A : Nat → Prop) : Array Value → State → Outcome → State → Prop := va_Qr post (fun u a t => a = ra u ∧ PostW D K A (W' u) t) A
/-- a method's contract: its words, its world, what Q says of its end (Q knows which cells it may change) -/
def uMet (l : Launch) (y : MethodName) (c : ByteArray) (n : Nat) (r : Option FieldType) (rm : Room) (D : va_G) (K : Nat → ClassId) (X : State → Prop) (av : List Value) (ws : va_W) (Q : (Nat → Prop) → Array Value → State → Outcome → State → Prop) (mc ms : Nat) : Prop :=
  ∀ sz, Met l y (uws y c n r) rm (va_Pc av (fun U => PreW D K ws sz U ∧ X U)) (Q (va_A ws sz)) mc ms (va_A ws sz)
abbrev X0 : State → Prop := fun _ => True
/-- what a premise of a contract must be: told by the tables, whatever was warmed -/
def Xok (X : State → Prop) : Prop := ∀ u U : State, u.WarmedH U.vm → X u → X U
theorem X0_ok : Xok X0 := fun _ _ _ _ => trivial
/-- what stays through a body: the machine, the code, the words, the classes -/
def kC (p : Program) (s : State) (m : MethodId) (args : Array Value) (c : Code) (cc : ByteArray) (own : String) (nL : Nat) (D : va_G) (K : Nat → ClassId) : Prop :=
  p.tables.exec = Jvm.exec ∧ c.code = cc ∧ c.maxLocals = nL ∧ s.vm.findClass own = some m.cls ∧ (∀ w ∈ wsL_law, w.before args s = true) ∧ va_K D vwCl (TY K) s
theorem sn {l : List Value} {i j : Nat} {x v : Value} (h : i ≠ j) (e : l[j]? = some v) : (l.set i x)[j]? = some v := by rw [List.getElem?_set_ne h]; exact e
theorem ss {l : List Value} {j : Nat} {x : Value} (e : j < l.length) : (l.set j x)[j]? = some x := by rw [List.getElem?_set_self e]
theorem sl {l : List Value} {i n : Nat} {x : Value} (e : l.length = n) : (l.set i x).length = n := by rw [List.length_set]; exact e
theorem sk {l : List Value} {i n : Nat} (e : l.length = n) (h : i < n) : i < l.length := by rw [e]; exact h
section UM
variable {l : Launch} {D : va_G} {K : Nat → ClassId}
theorem k_met {y : MethodName} {cc : ByteArray} {n : Nat} {r : Option FieldType} {rm : Room} {X : State → Prop} {av : List Value} {ws : va_W} {Q : (Nat → Prop) → Array Value → State → Outcome → State → Prop} {mc ms : Nat}
    (own : String) (hy : y.cls = own ∧ plainName y.cls = true) (hav : (lg_sl av).length ≤ n)
    (body : ∀ (p : Program) (e : Env) (s : State) (m : MethodId) (below : List Frame) (meth : Method) (c : Code) (A : Nat → Prop) (ls : Array Slot), kC p s m av.toArray c cc own n D K → X s → meth.sig.returnType = r → meth.locks = false → meth.name = y.name → (∀ q : Nat, s.heap.size ≤ q → A q) → va_P D vwCl ws s.heap → va_D A ws → va_S A s.heap s.heap [] → lv_has ls n (lv_args 0 av) →
      W p l e rm s m av.toArray below meth c s.heap [] 0 0 (MQ below (Q A) av.toArray s mc ms A) (F0 m 0 ls [])) : uMet l y cc n r rm D K X av ws Q mc ms := by
  intro sz
  refine Met.ofW (cc := cc) (maxL := n) (ret := r) hy.2 rfl ?_
  intro p e s m args below meth c s₁ B hml hv
  obtain ⟨rfl, ⟨hsz, hP, hK, hD0⟩, hX⟩ := hv
  have hts := atoms_spec (ws := uws y cc n r) B.pre
  have hown : s.vm.findClass own = some m.cls := by rw [← hy.1]; exact findClass_of_methodNamed B.named
  subst hsz
  have hl := lv_entry av (n := n) hav
  rw [lg_entry_eq]
  exact body p e s m below meth c (va_A ws s.heap.size) _ ⟨B.exec, B.bytes, hml, hown, fun w h => hts w (List.mem_cons_of_mem _ h), hK⟩ hX B.returns B.notSynchronized (name_of_methodNamed B.named B.method).1 (fun q h => Or.inr h) hP (hD0.self) va_S.rf hl
end UM
section KR
variable {p : Program} {l : Launch} {e : Env} {R : Room} {s : State} {m : MethodId} {args : Array Value} {below : List Frame} {meth : Method} {c : Code} {H : Heap} {locs : List Loc} {cells slots : Nat} {Q : State → Prop}
variable {cc : ByteArray} {pc nL : Nat} {own : String} {ls : Array Slot} {rest : List Value} {D : va_G} {K : Nat → ClassId} {A : Nat → Prop} {a : Nat} {ws ws' : va_W} {H0 : Heap}
theorem k_get (C : kC p s m args c cc own nL D K) (hP : va_P D vwCl ws H) (q0 : Nat) {ci N index : Nat} {Cn : String} {T : u_T} {fs : List Value} (he : ws[q0]? = some (a, .inr (ci, fs))) (hc : vwCl[ci]? = some (Cn, T, N)) (hin : ∀ w ∈ u_ws Cn T N, w ∈ wsL_law) (k : Nat) (hk : k < N) (hl : Cond.fieldLink own index (T k).1 (T k).2.1 (T k).2.2.1 ∈ wsL_law) {v : Value} (hv : fs[k]? = some v) (hdg : decode cc pc = .ok (.getfield index, 3))
    (kk : W p l e R s m args below meth c H locs cells slots Q (F0 m (pc + 3) ls (v :: rest))) : W p l e R s m args below meth c H locs cells slots Q (F0 m pc ls (.ref a :: rest)) :=
  va_get C.1 C.2.1 C.2.2.2.2.1 hin C.2.2.2.1 C.2.2.2.2.2 hP q0 he hc k hk (C.2.2.2.2.1 _ hl) (fun _ h => h) hv hdg kk
theorem k_put (C : kC p s m args c cc own nL D K) (hP : va_P D vwCl ws H) (hD : va_D A ws) (hS : va_S A H0 H locs) (q0 : Nat) {ci N index : Nat} {Cn : String} {T : u_T} {fs : List Value} (he : ws[q0]? = some (a, .inr (ci, fs))) (hc : vwCl[ci]? = some (Cn, T, N)) (hin : ∀ w ∈ u_ws Cn T N, w ∈ wsL_law) {ty : Nat → FieldType} (hty : ∀ k, k < N → parseFieldDescriptor (T k).2.2.1 = some (ty k)) (hnm : ∀ a, a < N → ∀ b, b < N → a ≠ b → (T a).2.1 ≠ (T b).2.1) (k : Nat) (hk : k < N) (hl : Cond.fieldLink own index (T k).1 (T k).2.1 (T k).2.2.1 ∈ wsL_law) (hfin : (T k).2.2.2 = false) {v : Value} (hn : narrow (ty k) v = v) (hfit : fits (ty k) v = true) (hlen : fs.length = N) (hw : ws.set q0 (a, .inr (ci, fs.set k v)) = ws') (hdg : decode cc pc = .ok (.putfield index, 3))
    (kk : ∀ (H1 : Heap) (locs1 : List Loc), va_P D vwCl ws' H1 → va_D A ws' → va_S A H0 H1 locs1 → W p l e R s m args below meth c H1 locs1 cells slots Q (F0 m (pc + 3) ls rest)) : W p l e R s m args below meth c H locs cells slots Q (F0 m pc ls (v :: .ref a :: rest)) := by
  subst hw
  exact va_put C.1 C.2.1 C.2.2.2.2.1 hin ty hty hnm C.2.2.2.1 C.2.2.2.2.2 hP hD hS q0 he hc k hk (C.2.2.2.2.1 _ hl) (fun _ h => h) hfin (hty k hk) hn hfit (sk hlen hk) hdg kk
theorem k_putF (C : kC p s m args c cc own nL D K) (hP : va_P D vwCl ws H) (hD : va_D A ws) (hS : va_S A H0 H locs) (q0 : Nat) {ci N index : Nat} {Cn : String} {T : u_T} {fs : List Value} (he : ws[q0]? = some (a, .inr (ci, fs))) (hc : vwCl[ci]? = some (Cn, T, N)) (hin : ∀ w ∈ u_ws Cn T N, w ∈ wsL_law) {ty : Nat → FieldType} (hty : ∀ k, k < N → parseFieldDescriptor (T k).2.2.1 = some (ty k)) (hnm : ∀ a, a < N → ∀ b, b < N → a ≠ b → (T a).2.1 ≠ (T b).2.1) (k : Nat) (hk : k < N) (hl : Cond.fieldLink own index (T k).1 (T k).2.1 (T k).2.2.1 ∈ wsL_law) (hfin : (T k).2.2.2 = true) (hini : meth.name = "<init>") (hdecl : (T k).1 = own) {v : Value} (hn : narrow (ty k) v = v) (hfit : fits (ty k) v = true) (hlen : fs.length = N) (hw : ws.set q0 (a, .inr (ci, fs.set k v)) = ws') (hdg : decode cc pc = .ok (.putfield index, 3))
    (kk : ∀ (H1 : Heap) (locs1 : List Loc), va_P D vwCl ws' H1 → va_D A ws' → va_S A H0 H1 locs1 → W p l e R s m args below meth c H1 locs1 cells slots Q (F0 m (pc + 3) ls rest)) : W p l e R s m args below meth c H locs cells slots Q (F0 m pc ls (v :: .ref a :: rest)) := by
  subst hw
  exact va_putF C.1 C.2.1 C.2.2.2.2.1 hin ty hty hnm C.2.2.2.1 C.2.2.2.2.2 hP hD hS q0 he hc k hk (C.2.2.2.2.1 _ hl) (fun _ h => h) hfin hini hdecl (hty k hk) hn hfit (sk hlen hk) hdg kk
theorem k_ild (C : kC p s m args c cc own nL D K) (hP : va_P D vwCl ws H) (q0 : Nat) {n : Nat} {f : Nat → Int32} (ha : ws[q0]? = some (a, .inl (K 0, n, .inl f))) {i v : Int32} (hin : vp_in i n) (hv : f i.toNatClampNeg = v) (hdg : decode cc pc = .ok (.iaload, 1))
    (kk : W p l e R s m args below meth c H locs cells slots Q (F0 m (pc + 1) ls (.int v :: rest))) : W p l e R s m args below meth c H locs cells slots Q (F0 m pc ls (.int i :: .ref a :: rest)) := by
  subst hv; exact va_iald C.1 C.2.1 C.2.2.2.2.2 hP q0 0 ha rfl hin hdg kk
theorem k_bld (C : kC p s m args c cc own nL D K) (hP : va_P D vwCl ws H) (q0 : Nat) {n : Nat} {f : Nat → Int32} (ha : ws[q0]? = some (a, .inl (K 2, n, .inl f))) {i v : Int32} (hin : vp_in i n) (hv : f i.toNatClampNeg = v) (hdg : decode cc pc = .ok (.baload, 1))
    (kk : W p l e R s m args below meth c H locs cells slots Q (F0 m (pc + 1) ls (.int v :: rest))) : W p l e R s m args below meth c H locs cells slots Q (F0 m pc ls (.int i :: .ref a :: rest)) := by
  subst hv; exact va_bald C.1 C.2.1 C.2.2.2.2.2 hP q0 2 ha rfl hin hdg kk
theorem k_zld (C : kC p s m args c cc own nL D K) (hP : va_P D vwCl ws H) (q0 : Nat) {n : Nat} {f : Nat → Int32} (ha : ws[q0]? = some (a, .inl (K 3, n, .inl f))) {i v : Int32} (hin : vp_in i n) (hv : f i.toNatClampNeg = v) (hdg : decode cc pc = .ok (.baload, 1))
    (kk : W p l e R s m args below meth c H locs cells slots Q (F0 m (pc + 1) ls (.int v :: rest))) : W p l e R s m args below meth c H locs cells slots Q (F0 m pc ls (.int i :: .ref a :: rest)) := by
  subst hv; exact va_zald C.1 C.2.1 C.2.2.2.2.2 hP q0 3 ha rfl hin hdg kk
theorem k_lld (C : kC p s m args c cc own nL D K) (hP : va_P D vwCl ws H) (q0 : Nat) {n : Nat} {f : Nat → Int64} (ha : ws[q0]? = some (a, .inl (K 1, n, .inr (.inl f)))) {i : Int32} {v : Int64} (hin : vp_in i n) (hv : f i.toNatClampNeg = v) (hdg : decode cc pc = .ok (.laload, 1))
    (kk : W p l e R s m args below meth c H locs cells slots Q (F0 m (pc + 1) ls (.long v :: rest))) : W p l e R s m args below meth c H locs cells slots Q (F0 m pc ls (.int i :: .ref a :: rest)) := by
  subst hv; exact va_lald C.1 C.2.1 C.2.2.2.2.2 hP q0 1 ha rfl hin hdg kk
theorem k_ist (C : kC p s m args c cc own nL D K) (hP : va_P D vwCl ws H) (hD : va_D A ws) (hS : va_S A H0 H locs) (q0 : Nat) {n : Nat} {f : Nat → Int32} (ha : ws[q0]? = some (a, .inl (K 0, n, .inl f))) {i x x' : Int32} {j : Nat} (hin : vp_in i n) (hj : i.toNatClampNeg = j) (hx' : x = x') (hw : ws.set q0 (a, .inl (K 0, n, .inl (upd f j x'))) = ws') (hdg : decode cc pc = .ok (.iastore, 1))
    (kk : ∀ (H1 : Heap) (locs1 : List Loc), va_P D vwCl ws' H1 → va_D A ws' → va_S A H0 H1 locs1 → W p l e R s m args below meth c H1 locs1 cells slots Q (F0 m (pc + 1) ls rest)) : W p l e R s m args below meth c H locs cells slots Q (F0 m pc ls (.int x :: .int i :: .ref a :: rest)) := by
  subst hw; subst hj; subst hx'; exact va_iast C.1 C.2.1 C.2.2.2.2.2 hP hD hS q0 0 ha rfl hin hdg kk
theorem k_bst (C : kC p s m args c cc own nL D K) (hP : va_P D vwCl ws H) (hD : va_D A ws) (hS : va_S A H0 H locs) (q0 : Nat) {n : Nat} {f : Nat → Int32} (ha : ws[q0]? = some (a, .inl (K 2, n, .inl f))) {i x x' : Int32} {j : Nat} (hin : vp_in i n) (hj : i.toNatClampNeg = j) (hx' : vp_nar .byte x = x') (hw : ws.set q0 (a, .inl (K 2, n, .inl (upd f j x'))) = ws') (hdg : decode cc pc = .ok (.bastore, 1))
    (kk : ∀ (H1 : Heap) (locs1 : List Loc), va_P D vwCl ws' H1 → va_D A ws' → va_S A H0 H1 locs1 → W p l e R s m args below meth c H1 locs1 cells slots Q (F0 m (pc + 1) ls rest)) : W p l e R s m args below meth c H locs cells slots Q (F0 m pc ls (.int x :: .int i :: .ref a :: rest)) := by
  subst hw; subst hj; subst hx'; exact va_bast C.1 C.2.1 C.2.2.2.2.2 hP hD hS q0 2 ha rfl hin hdg kk
theorem k_zst (C : kC p s m args c cc own nL D K) (hP : va_P D vwCl ws H) (hD : va_D A ws) (hS : va_S A H0 H locs) (q0 : Nat) {n : Nat} {f : Nat → Int32} (ha : ws[q0]? = some (a, .inl (K 3, n, .inl f))) {i x x' : Int32} {j : Nat} (hin : vp_in i n) (hj : i.toNatClampNeg = j) (hx' : vp_nar .boolean x = x') (hw : ws.set q0 (a, .inl (K 3, n, .inl (upd f j x'))) = ws') (hdg : decode cc pc = .ok (.bastore, 1))
    (kk : ∀ (H1 : Heap) (locs1 : List Loc), va_P D vwCl ws' H1 → va_D A ws' → va_S A H0 H1 locs1 → W p l e R s m args below meth c H1 locs1 cells slots Q (F0 m (pc + 1) ls rest)) : W p l e R s m args below meth c H locs cells slots Q (F0 m pc ls (.int x :: .int i :: .ref a :: rest)) := by
  subst hw; subst hj; subst hx'; exact va_zast C.1 C.2.1 C.2.2.2.2.2 hP hD hS q0 3 ha rfl hin hdg kk
theorem k_lst (C : kC p s m args c cc own nL D K) (hP : va_P D vwCl ws H) (hD : va_D A ws) (hS : va_S A H0 H locs) (q0 : Nat) {n : Nat} {f : Nat → Int64} (ha : ws[q0]? = some (a, .inl (K 1, n, .inr (.inl f)))) {i : Int32} {x x' : Int64} {j : Nat} (hin : vp_in i n) (hj : i.toNatClampNeg = j) (hx' : x = x') (hw : ws.set q0 (a, .inl (K 1, n, .inr (.inl (vp_updL f j x')))) = ws') (hdg : decode cc pc = .ok (.lastore, 1))
    (kk : ∀ (H1 : Heap) (locs1 : List Loc), va_P D vwCl ws' H1 → va_D A ws' → va_S A H0 H1 locs1 → W p l e R s m args below meth c H1 locs1 cells slots Q (F0 m (pc + 1) ls rest)) : W p l e R s m args below meth c H locs cells slots Q (F0 m pc ls (.long x :: .int i :: .ref a :: rest)) := by
  subst hw; subst hj; subst hx'; exact va_last C.1 C.2.1 C.2.2.2.2.2 hP hD hS q0 1 ha rfl hin hdg kk
theorem k_len (C : kC p s m args c cc own nL D K) (hP : va_P D vwCl ws H) (q0 t0 : Nat) {x : vp_A} (ha : ws[q0]? = some (a, .inl (K t0, x))) {ty : FieldType} (ht : (TY K)[t0]? = some (K t0, ty)) {v : Int32} (hv : Int32.ofNat x.1 = v) (hdg : decode cc pc = .ok (.arraylength, 1))
    (kk : W p l e R s m args below meth c H locs cells slots Q (F0 m (pc + 1) ls (.int v :: rest))) : W p l e R s m args below meth c H locs cells slots Q (F0 m pc ls (.ref a :: rest)) :=
  va_alen C.1 C.2.1 C.2.2.2.2.2 hP q0 t0 ha ht hv hdg kk
/-- a new array of a primitive type, of the class that the table has -/
theorem k_newa (C : kC p s m args c cc own nL D K) (hP : va_P D vwCl ws H) (hD : va_D A ws) (hS : va_S A H0 H locs) (hA : ∀ q, H0.size ≤ q → A q) (t0 : Nat) {atype : ArrayType} {ty : FieldType} (hty : newarray.typeOf atype = ty) (ht : (TY K)[t0]? = some (K t0, ty)) (hra : ∀ cA : ClassId, va_RA s cA ty = (s.vm.findClass ("[" ++ ty.toString) = some cA)) (harr : Cond.arrayClass (newarray.typeOf atype) ∈ wsL_law)
    {n : Int32} {N' : Nat} {a0 : vp_A} (ha : ∀ cA : ClassId, vp_cell cA a0 = arrV cA N' (fun _ => defaultValue ty)) (hn : ¬ n < 0) (hN : n.toNatClampNeg = N') (hbytes : N' * componentBytes ty ≤ 536870912) (hcells : cells + 1 ≤ R.cells) (hslots : slots + N' ≤ R.slots) (hdg : decode cc pc = .ok (.newarray atype, 2))
    (kk : ∀ (q : Nat) (H1 : Heap), va_P D vwCl (ws ++ [(q, .inl (K t0, a0))]) H1 → va_D A (ws ++ [(q, .inl (K t0, a0))]) → va_S A H0 H1 locs →
      W p l e R s m args below meth c H1 locs (cells + 1) (slots + N') Q (F0 m (pc + 2) ls (.ref q :: rest))) : W p l e R s m args below meth c H locs cells slots Q (F0 m pc ls (.int n :: rest)) := by
  refine va_newa C.1 C.2.1 (C.2.2.2.2.1 _ harr) hty C.2.2.2.2.2 hP hD hS hA ha hn hN hbytes hcells hslots hdg (fun q cA H1 hK1 hP1 hD1 hS1 => ?_)
  have h1 := (hK1.2 (TY K).length (cA, ty) (by simp)).2
  have h2 := (C.2.2.2.2.2.2 t0 _ ht).2
  rw [hra] at h1 h2
  have he : cA = K t0 := Option.some.inj (h1.symm.trans h2)
  subst he
  exact kk q H1 hP1 hD1 hS1
theorem k_new {N ci index : Nat} {Cn : String} {T : u_T} (C : kC p s m args c cc own nL D K) (hP : va_P D vwCl ws H) (hD : va_D A ws) (hS : va_S A H0 H locs) (hA : ∀ q, H0.size ≤ q → A q) (hc : vwCl[ci]? = some (Cn, T, N)) (hin : ∀ w ∈ u_ws Cn T N, w ∈ wsL_law) {ty : Nat → FieldType} (hty : ∀ k, k < N → parseFieldDescriptor (T k).2.2.1 = some (ty k)) (hcl : Cond.classLink own index Cn ∈ wsL_law) (hinst : Cond.instantiable Cn N ∈ wsL_law) (hini : Cond.initialized Cn ∈ wsL_law)
    {fs : List Value} (hfs : fs = (List.range N).map (fun j => defaultValue (ty j))) (hcells : cells + 1 ≤ R.cells) (hslots : slots + N ≤ R.slots) (hdg : decode cc pc = .ok (.new index, 3))
    (kk : ∀ (q : Nat) (H1 : Heap), va_P D vwCl (ws ++ [(q, .inr (ci, fs))]) H1 → va_D A (ws ++ [(q, .inr (ci, fs))]) → va_S A H0 H1 locs →
      W p l e R s m args below meth c H1 locs (cells + 1) (slots + N) Q (F0 m (pc + 3) ls (.ref q :: rest))) : W p l e R s m args below meth c H locs cells slots Q (F0 m pc ls rest) := by
  subst hfs
  refine va_new C.1 C.2.1 C.2.2.2.2.1 hin ty hty C.2.2.2.1 (C.2.2.2.2.1 _ hcl) (C.2.2.2.2.1 _ hinst) (C.2.2.2.2.1 _ hini) C.2.2.2.2.2 hP hD hS hA hc (fun j hj => ?_) hcells hslots hdg kk
  simp [vp_V, hj]
theorem k_objInit (C : kC p s m args c cc own nL D K) (hls : ls.size = nL) {idx : Nat} (hl : Cond.methodLink own idx objectInit ∈ wsL_law) (hi : Cond.instanceMethod objectInit ∈ wsL_law) (hco : Cond.code objectInit ⟨#[0xb1]⟩ 1 none ∈ wsL_law) (hd : decode cc pc = .ok (.invokespecial idx, 3)) (hframes : 1 ≤ R.frames) (hlocals : (rest.map fun v => v.category).sum + 12 ≤ R.locals)
    (kk : W p l e R s m args below meth c H locs cells slots Q (F0 m (pc + 3) ls rest)) : W p l e R s m args below meth c H locs cells slots Q (F0 m pc ls (.ref a :: rest)) :=
  W.objInit C.1 C.2.1 C.2.2.2.1 (C.2.2.2.2.1 _ hl) (C.2.2.2.2.1 _ hi) (C.2.2.2.2.1 _ hco) rfl (by rw [C.2.2.1]; exact hls) rfl hd hframes (by show 2 * 0 + _ + 12 ≤ _; omega) kk
theorem k_iadd (C : kC p s m args c cc own nL D K) {x y v : Int32} (hv : x + y = v) (hdg : decode cc pc = .ok (.iadd, 1)) (kk : W p l e R s m args below meth c H locs cells slots Q (F0 m (pc + 1) ls (.int v :: rest))) : W p l e R s m args below meth c H locs cells slots Q (F0 m pc ls (.int y :: .int x :: rest)) := by
  subst hv; exact lv_iadd C.1 C.2.1 hdg kk
theorem k_isub (C : kC p s m args c cc own nL D K) {x y v : Int32} (hv : x - y = v) (hdg : decode cc pc = .ok (.isub, 1)) (kk : W p l e R s m args below meth c H locs cells slots Q (F0 m (pc + 1) ls (.int v :: rest))) : W p l e R s m args below meth c H locs cells slots Q (F0 m pc ls (.int y :: .int x :: rest)) := by
  subst hv; exact lv_isub C.1 C.2.1 hdg kk
theorem k_imul (C : kC p s m args c cc own nL D K) {x y v : Int32} (hv : x * y = v) (hdg : decode cc pc = .ok (.imul, 1)) (kk : W p l e R s m args below meth c H locs cells slots Q (F0 m (pc + 1) ls (.int v :: rest))) : W p l e R s m args below meth c H locs cells slots Q (F0 m pc ls (.int y :: .int x :: rest)) := by
  subst hv; exact lv_imul C.1 C.2.1 hdg kk
theorem k_iand (C : kC p s m args c cc own nL D K) {x y v : Int32} (hv : x &&& y = v) (hdg : decode cc pc = .ok (.iand, 1)) (kk : W p l e R s m args below meth c H locs cells slots Q (F0 m (pc + 1) ls (.int v :: rest))) : W p l e R s m args below meth c H locs cells slots Q (F0 m pc ls (.int y :: .int x :: rest)) := by
  subst hv; exact lv_iand C.1 C.2.1 hdg kk
theorem k_ior (C : kC p s m args c cc own nL D K) {x y v : Int32} (hv : x ||| y = v) (hdg : decode cc pc = .ok (.ior, 1)) (kk : W p l e R s m args below meth c H locs cells slots Q (F0 m (pc + 1) ls (.int v :: rest))) : W p l e R s m args below meth c H locs cells slots Q (F0 m pc ls (.int y :: .int x :: rest)) := by
  subst hv; exact lv_ior C.1 C.2.1 hdg kk
theorem k_ixor (C : kC p s m args c cc own nL D K) {x y v : Int32} (hv : x ^^^ y = v) (hdg : decode cc pc = .ok (.ixor, 1)) (kk : W p l e R s m args below meth c H locs cells slots Q (F0 m (pc + 1) ls (.int v :: rest))) : W p l e R s m args below meth c H locs cells slots Q (F0 m pc ls (.int y :: .int x :: rest)) := by
  subst hv; exact lv_ixor C.1 C.2.1 hdg kk
theorem k_ishl (C : kC p s m args c cc own nL D K) {x y v : Int32} (hv : x <<< (y &&& 31) = v) (hdg : decode cc pc = .ok (.ishl, 1)) (kk : W p l e R s m args below meth c H locs cells slots Q (F0 m (pc + 1) ls (.int v :: rest))) : W p l e R s m args below meth c H locs cells slots Q (F0 m pc ls (.int y :: .int x :: rest)) := by
  subst hv; exact lv_ishl C.1 C.2.1 hdg kk
theorem k_ishr (C : kC p s m args c cc own nL D K) {x y v : Int32} (hv : x >>> (y &&& 31) = v) (hdg : decode cc pc = .ok (.ishr, 1)) (kk : W p l e R s m args below meth c H locs cells slots Q (F0 m (pc + 1) ls (.int v :: rest))) : W p l e R s m args below meth c H locs cells slots Q (F0 m pc ls (.int y :: .int x :: rest)) := by
  subst hv; exact lv_ishr C.1 C.2.1 hdg kk
theorem k_idiv (C : kC p s m args c cc own nL D K) {x y v : Int32} (hne : ¬ y = 0) (hv : x / y = v) (hdg : decode cc pc = .ok (.idiv, 1)) (kk : W p l e R s m args below meth c H locs cells slots Q (F0 m (pc + 1) ls (.int v :: rest))) : W p l e R s m args below meth c H locs cells slots Q (F0 m pc ls (.int y :: .int x :: rest)) := by
  subst hv; exact lv_idiv C.1 C.2.1 hdg hne kk
theorem k_irem (C : kC p s m args c cc own nL D K) {x y v : Int32} (hne : ¬ y = 0) (hv : x - x / y * y = v) (hdg : decode cc pc = .ok (.irem, 1)) (kk : W p l e R s m args below meth c H locs cells slots Q (F0 m (pc + 1) ls (.int v :: rest))) : W p l e R s m args below meth c H locs cells slots Q (F0 m pc ls (.int y :: .int x :: rest)) := by
  subst hv; exact lv_irem C.1 C.2.1 hdg hne kk
theorem k_ladd (C : kC p s m args c cc own nL D K) {x y v : Int64} (hv : x + y = v) (hdg : decode cc pc = .ok (.ladd, 1)) (kk : W p l e R s m args below meth c H locs cells slots Q (F0 m (pc + 1) ls (.long v :: rest))) : W p l e R s m args below meth c H locs cells slots Q (F0 m pc ls (.long y :: .long x :: rest)) := by
  subst hv; exact lv_ladd C.1 C.2.1 hdg kk
theorem k_lsub (C : kC p s m args c cc own nL D K) {x y v : Int64} (hv : x - y = v) (hdg : decode cc pc = .ok (.lsub, 1)) (kk : W p l e R s m args below meth c H locs cells slots Q (F0 m (pc + 1) ls (.long v :: rest))) : W p l e R s m args below meth c H locs cells slots Q (F0 m pc ls (.long y :: .long x :: rest)) := by
  subst hv; exact lv_lsub C.1 C.2.1 hdg kk
theorem k_lmul (C : kC p s m args c cc own nL D K) {x y v : Int64} (hv : x * y = v) (hdg : decode cc pc = .ok (.lmul, 1)) (kk : W p l e R s m args below meth c H locs cells slots Q (F0 m (pc + 1) ls (.long v :: rest))) : W p l e R s m args below meth c H locs cells slots Q (F0 m pc ls (.long y :: .long x :: rest)) := by
  subst hv; exact lv_lmul C.1 C.2.1 hdg kk
theorem k_ldiv (C : kC p s m args c cc own nL D K) {x y v : Int64} (hne : ¬ y = 0) (hv : x / y = v) (hdg : decode cc pc = .ok (.ldiv, 1)) (kk : W p l e R s m args below meth c H locs cells slots Q (F0 m (pc + 1) ls (.long v :: rest))) : W p l e R s m args below meth c H locs cells slots Q (F0 m pc ls (.long y :: .long x :: rest)) := by
  subst hv; exact lv_ldiv C.1 C.2.1 hdg hne kk
theorem k_lrem (C : kC p s m args c cc own nL D K) {x y v : Int64} (hne : ¬ y = 0) (hv : x - x / y * y = v) (hdg : decode cc pc = .ok (.lrem, 1)) (kk : W p l e R s m args below meth c H locs cells slots Q (F0 m (pc + 1) ls (.long v :: rest))) : W p l e R s m args below meth c H locs cells slots Q (F0 m pc ls (.long y :: .long x :: rest)) := by
  subst hv; exact lv_lrem C.1 C.2.1 hdg hne kk
theorem k_ineg (C : kC p s m args c cc own nL D K) {x v : Int32} (hv : -x = v) (hdg : decode cc pc = .ok (.ineg, 1)) (kk : W p l e R s m args below meth c H locs cells slots Q (F0 m (pc + 1) ls (.int v :: rest))) : W p l e R s m args below meth c H locs cells slots Q (F0 m pc ls (.int x :: rest)) := by
  subst hv; exact lv_ineg C.1 C.2.1 hdg kk
theorem k_lcmp (C : kC p s m args c cc own nL D K) {x y : Int64} {v : Int32} (hv : lg_cmp x y = v) (hdg : decode cc pc = .ok (.lcmp, 1)) (kk : W p l e R s m args below meth c H locs cells slots Q (F0 m (pc + 1) ls (.int v :: rest))) : W p l e R s m args below meth c H locs cells slots Q (F0 m pc ls (.long y :: .long x :: rest)) := by
  subst hv; exact W.lcmp C.1 C.2.1 hdg kk
theorem vin {i : Int32} {n : Nat} (h : ¬ (i < 0 ∨ n ≤ i.toNatClampNeg)) : vp_in i n := h
theorem k_mmax (C : kC p s m args c cc own nL D K) (hls : ls.size = nL) {index : Nat} (h1 : Cond.methodLink own index Lib.Math.max.name ∈ wsL_law) (h2 : Cond.static Lib.Math.max.name ∈ wsL_law) (h3 : Cond.initialized "java/lang/Math" ∈ wsL_law) (h4 : Cond.code Lib.Math.max.name Lib.Math.max.code 2 (some .int) ∈ wsL_law) (hframes : 1 ≤ R.frames) (hlocals : (rest.map fun v => v.category).sum + 13 ≤ R.locals) (hc : cells ≤ R.cells) (hs : slots ≤ R.slots) {x y v : Int32} (hv : (if x < y then y else x) = v) (hdg : decode cc pc = .ok (.invokestatic index, 3)) (kk : W p l e R s m args below meth c H locs cells slots Q (F0 m (pc + 3) ls (.int v :: rest))) : W p l e R s m args below meth c H locs cells slots Q (F0 m pc ls (.int y :: .int x :: rest)) := by
  subst hv; exact va_mmax C.1 C.2.1 (by rw [C.2.2.1, hls]) C.2.2.2.1 (C.2.2.2.2.1 _ h1) (C.2.2.2.2.1 _ h2) (C.2.2.2.2.1 _ h3) (C.2.2.2.2.1 _ h4) hframes hlocals hc hs hdg kk
theorem k_mmin (C : kC p s m args c cc own nL D K) (hls : ls.size = nL) {index : Nat} (h1 : Cond.methodLink own index Lib.Math.min.name ∈ wsL_law) (h2 : Cond.static Lib.Math.min.name ∈ wsL_law) (h3 : Cond.initialized "java/lang/Math" ∈ wsL_law) (h4 : Cond.code Lib.Math.min.name Lib.Math.min.code 2 (some .int) ∈ wsL_law) (hframes : 1 ≤ R.frames) (hlocals : (rest.map fun v => v.category).sum + 13 ≤ R.locals) (hc : cells ≤ R.cells) (hs : slots ≤ R.slots) {x y v : Int32} (hv : (if y < x then y else x) = v) (hdg : decode cc pc = .ok (.invokestatic index, 3)) (kk : W p l e R s m args below meth c H locs cells slots Q (F0 m (pc + 3) ls (.int v :: rest))) : W p l e R s m args below meth c H locs cells slots Q (F0 m pc ls (.int y :: .int x :: rest)) := by
  subst hv; exact va_mmin C.1 C.2.1 (by rw [C.2.2.1, hls]) C.2.2.2.1 (C.2.2.2.2.1 _ h1) (C.2.2.2.2.1 _ h2) (C.2.2.2.2.1 _ h3) (C.2.2.2.2.1 _ h4) hframes hlocals hc hs hdg kk
theorem k_copy (C : kC p s m args c cc own nL D K) (hls : ls.size = nL) (hP : va_P D vwCl ws H) (hD : va_D A ws) (hS : va_S A H0 H locs) (q0 q1 t0 : Nat) {a0 n0 n1 : Nat} {f g : Nat → Int32} {ty : FieldType} (ha0 : ws[q0]? = some (a0, .inl (K t0, n0, .inl f))) (ha1 : ws[q1]? = some (a, .inl (K t0, n1, .inl g))) (ht0 : (TY K)[t0]? = some (K t0, ty)) (hprim : refKind ty = false) {sp dp n : Int32} {sp' dp' n' : Nat} (h1 : ¬ sp < 0) (h2 : ¬ dp < 0) (h3 : ¬ n < 0) (e1 : sp.toNatClampNeg = sp') (e2 : dp.toNatClampNeg = dp') (e3 : n.toNatClampNeg = n') (h4 : sp' + n' ≤ n0) (h5 : dp' + n' ≤ n1) (hfit : ∀ i, i < n' → fits ty (.int (f (sp' + i))) = true) {index : Nat} (w1 : Cond.methodLink own index arraycopyName ∈ wsL_law) (w2 : Cond.native arraycopyName ∈ wsL_law) (w3 : Cond.static arraycopyName ∈ wsL_law) (w4 : Cond.initialized "java/lang/System" ∈ wsL_law) (hframes : 1 ≤ R.frames) (hlocals : (rest.map fun v => v.category).sum + (nativeFrameWords "java/lang/System" "arraycopy" 5 + 11) ≤ R.locals) (hw : ws.set q1 (a, .inl (K t0, n1, .inl (va_cpy f g sp' dp' n'))) = ws') (hdg : decode cc pc = .ok (.invokestatic index, 3)) (kk : ∀ (H1 : Heap) (locs1 : List Loc), va_P D vwCl ws' H1 → va_D A ws' → va_S A H0 H1 locs1 → W p l e R s m args below meth c H1 locs1 cells slots Q (F0 m (pc + 3) ls rest)) : W p l e R s m args below meth c H locs cells slots Q (F0 m pc ls (.int n :: .int dp :: .ref a :: .int sp :: .ref a0 :: rest)) := by
  subst hw; subst e1; subst e2; subst e3; exact va_copyi C.1 C.2.1 (by rw [C.2.2.1, hls]) C.2.2.2.1 (C.2.2.2.2.1 _ w1) (C.2.2.2.2.1 _ w2) (C.2.2.2.2.1 _ w3) (C.2.2.2.2.1 _ w4) C.2.2.2.2.2 hP hD hS q0 q1 t0 t0 ha0 ha1 ht0 ht0 hprim h1 h2 h3 h4 h5 hfit hframes hlocals hdg kk
end KR
section KE
variable {p : Program} {l : Launch} {e : Env} {R : Room} {s : State} {m : MethodId} {args : Array Value} {below : List Frame} {meth : Method} {c : Code} {H : Heap} {locs : List Loc} {cells slots mc ms : Nat}
variable {cc : ByteArray} {pc nL : Nat} {own : String} {ls : Array Slot} {D : va_G} {K : Nat → ClassId} {A : Nat → Prop} {ws : va_W} {S : Type} {W' : S → va_W}
theorem va_sub' {D : va_G} {ws ws' : va_W} {H : Heap} (h : va_P D vwCl ws H) (is : List Nat) (hs : is.map (fun i => ws[i]?) = ws'.map some) : va_P D vwCl ws' H := by
  refine h.sub is ?_
  have : ∀ (is : List Nat) (ws' : va_W), is.map (fun i => ws[i]?) = ws'.map some → is.filterMap (fun i => ws[i]?) = ws' := by
    intro is
    induction is with
    | nil => intro ws' h; cases ws' with
      | nil => rfl
      | cons a b => simp at h
    | cons i is ih => intro ws' h; cases ws' with
      | nil => simp at h
      | cons a b =>
        simp only [List.map_cons, List.cons.injEq] at h
        rw [List.filterMap_cons, h.1]
        simp only
        rw [ih b h.2]
  exact this is ws' hs
theorem k_iret (C : kC p s m args c cc own nL D K) {ty : FieldType} (hr : meth.sig.returnType = some ty) (hlocks : meth.locks = false) (hP : va_P D vwCl ws H) (hD : va_D A ws) (hS : va_S A s.heap H locs) {post : Int32 → S → Prop} {r : Int32} (hn : narrow ty (.int r) = .int r) (u : S) (is : List Nat) (hs : is.map (fun i => ws[i]?) = (W' u).map some) (hnd : va_nd is = true) (hpost : post r u) (hc : cells ≤ mc) (hsl : slots ≤ ms) (hdg : decode cc pc = .ok (.ireturn, 1)) :
    W p l e R s m args below meth c H locs cells slots (MQ below (QI D K post W' A) args s mc ms A) (F0 m pc ls [.int r]) := by
  refine W.widen hc hsl ?_
  exact W.zret C.1 C.2.1 hr hn (fun t ht hW => ⟨⟨r, u, rfl, hpost, by rw [ht]; exact va_sub' hP is hs, va_K.moved hW.alike C.2.2.2.2.2, hD.sub is hnd hs⟩, hS.F ht⟩) hS.2.2 hdg hlocks
theorem k_lret (C : kC p s m args c cc own nL D K) (hr : meth.sig.returnType = some .long) (hlocks : meth.locks = false) (hP : va_P D vwCl ws H) (hD : va_D A ws) (hS : va_S A s.heap H locs) {post : Int64 → S → Prop} {r : Int64} (u : S) (is : List Nat) (hs : is.map (fun i => ws[i]?) = (W' u).map some) (hnd : va_nd is = true) (hpost : post r u) (hc : cells ≤ mc) (hsl : slots ≤ ms) (hdg : decode cc pc = .ok (.lreturn, 1)) :
    W p l e R s m args below meth c H locs cells slots (MQ below (QL D K post W' A) args s mc ms A) (F0 m pc ls [.long r]) := by
  refine W.widen hc hsl ?_
  exact W.lret C.1 C.2.1 hr (fun t ht hW => ⟨⟨r, u, rfl, hpost, by rw [ht]; exact va_sub' hP is hs, va_K.moved hW.alike C.2.2.2.2.2, hD.sub is hnd hs⟩, hS.F ht⟩) hS.2.2 hdg hlocks
theorem k_vret (C : kC p s m args c cc own nL D K) (hr : meth.sig.returnType = none) (hlocks : meth.locks = false) (hP : va_P D vwCl ws H) (hD : va_D A ws) (hS : va_S A s.heap H locs) {post : S → Prop} (u : S) (is : List Nat) (hs : is.map (fun i => ws[i]?) = (W' u).map some) (hnd : va_nd is = true) (hpost : post u) (hc : cells ≤ mc) (hsl : slots ≤ ms) (hdg : decode cc pc = .ok (.return_, 1)) :
    W p l e R s m args below meth c H locs cells slots (MQ below (QV D K post W' A) args s mc ms A) (F0 m pc ls []) := by
  refine W.widen hc hsl ?_
  exact W.vret C.1 C.2.1 hr (fun t ht hW => ⟨⟨u, rfl, hpost, by rw [ht]; exact va_sub' hP is hs, va_K.moved hW.alike C.2.2.2.2.2, hD.sub is hnd hs⟩, hS.F ht⟩) hS.2.2 hdg hlocks
theorem k_aret (C : kC p s m args c cc own nL D K) {rt : FieldType} (hr : meth.sig.returnType = some rt) (hrt : (∃ n, rt = .object n) ∨ ∃ t, rt = .array t) (hlocks : meth.locks = false) (hP : va_P D vwCl ws H) (hD : va_D A ws) (hS : va_S A s.heap H locs) {post : S → Prop} {ra : S → Nat} {r : Nat} (u : S) (hra : r = ra u) (is : List Nat) (hs : is.map (fun i => ws[i]?) = (W' u).map some) (hnd : va_nd is = true) (hpost : post u) (hc : cells ≤ mc) (hsl : slots ≤ ms) (hdg : decode cc pc = .ok (.areturn, 1)) :
    W p l e R s m args below meth c H locs cells slots (MQ below (QR D K post ra W' A) args s mc ms A) (F0 m pc ls [.ref r]) := by
  refine W.widen hc hsl ?_
  exact W.aret C.1 C.2.1 hr hrt (Or.inr ⟨r, rfl⟩) (fun t ht hW => ⟨⟨u, r, rfl, hpost, hra, by rw [ht]; exact va_sub' hP is hs, va_K.moved hW.alike C.2.2.2.2.2, hD.sub is hnd hs⟩, hS.F ht⟩) hS.2.2 hdg hlocks
end KE
