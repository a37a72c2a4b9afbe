theorem hdV {y : MethodName} {Cn : String} {As : List Value} (n : Nat) (h : y.cls = Cn ∧ y.cls ≠ "java/lang/invoke/MethodHandle" ∧ y.cls ≠ "java/lang/invoke/VarHandle" ∧ (parseMethodDescriptor y.desc).map (fun d => d.parameters.length) = some n) (hn : As.length = n) : y.cls = Cn ∧ y.cls ≠ "java/lang/invoke/MethodHandle" ∧ y.cls ≠ "java/lang/invoke/VarHandle" ∧ (parseMethodDescriptor y.desc).map (fun d => d.parameters.length) = some As.length := by
  rw [hn]; exact h
theorem hdS {y : MethodName} {As : List Value} (n : Nat) (h : y.cls ≠ "java/lang/invoke/MethodHandle" ∧ y.cls ≠ "java/lang/invoke/VarHandle" ∧ (parseMethodDescriptor y.desc).map (fun d => d.parameters.length) = some n) (hn : As.length = n) : y.cls ≠ "java/lang/invoke/MethodHandle" ∧ y.cls ≠ "java/lang/invoke/VarHandle" ∧ (parseMethodDescriptor y.desc).map (fun d => d.parameters.length) = some As.length := by
  rw [hn]; exact h
theorem asg_refl (vm : Vm) (c : ClassId) : vm.assignable c c = true := by
  show vm.assignableAux (255 + 1) c c = true
  unfold Vm.assignableAux
  rw [beq_self_eq_true, Bool.true_or]
/-- what the tables say beyond the good words: two private constructors of nest mates, two classes of arrays of arrays -/
def XX (U : State) : Prop := va_Nw (.methodLinkNest RX11 28 yX8_init "SixBitBoard") U ∧ va_Nw (.methodLinkNest RX10 39 yX6_init "SixBitBoard") U ∧ (Cond.arrayOver (.array .byte)).before #[] U = true ∧ (Cond.arrayOver (.array .int)).before #[] U = true
theorem ao_moved {t : FieldType} {u U : State} (hvm : u.vm.Alike U.vm) (h : (Cond.arrayOver (.array t)).before #[] u = true) : (Cond.arrayOver (.array t)).before #[] U = true := by
  obtain ⟨comp, c, k, h1, h2, h3, h4, h5⟩ := arrayOverA_spec h
  obtain ⟨k', hk', he⟩ := hvm.2.2 _ _ h3
  have hi : (U.vm.classes.findIdx? fun (x : Class) => match x.kind with | .array component _ => component == comp | _ => false) = some c := by
    have e1 := va_idx_bare U.vm comp
    have e2 := va_idx_bare u.vm comp
    have e3 : U.vm.bare = u.vm.bare := hvm.bare_eq
    rw [e3] at e1
    exact (e1.symm.trans e2).trans h2
  have hkind : k'.kind = .array comp (.array t) := by rw [he]; exact h4
  have f1 : U.vm.findClass (FieldType.array t).toString = some comp := by rw [hvm.findClass]; exact h1
  have f2 : U.vm.findClass ("[" ++ (FieldType.array t).toString) = some c := by rw [hvm.findClass]; exact h5
  unfold Cond.before Cond.holds
  simp only [Cond.value]
  rw [f1, Option.bind_some]
  refine (congrArg (fun o : Option Nat => (o.bind (fun c => (U.vm.classes[c]?).map fun (k : Class) => match k.kind with | .array _ ty => decide (ty = FieldType.array t) && decide (U.vm.findClass ("[" ++ (FieldType.array t).toString) = some c) | _ => false) == some true)) hi).trans ?_
  simp [hk', hkind, f2]
theorem XX_ok : Xok XX := fun _ _ hW h => ⟨va_Nw.warmM hW h.1, va_Nw.warmM hW h.2.1, ao_moved hW.alike h.2.2.1, ao_moved hW.alike h.2.2.2⟩
section KA
variable {p : Program} {l : Launch} {e : Env} {R : Room} {s : State} {m : MethodId} {args : Array Value} {below : List Frame} {meth : Method} {c : Code} {H : Heap} {locs : List Loc} {cells slots : Nat} {Q : State → Prop}
variable {cc : ByteArray} {pc nL : Nat} {own : String} {ls : Array Slot} {rest : List Value} {D : va_G} {K : Nat → ClassId} {A : Nat → Prop} {a : Nat} {ws ws' : va_W} {H0 : Heap}
theorem k_anew (C : kC p s m args c cc own nL D K) (hP : va_P D vwCl ws H) (hD : va_D A ws) (hS : va_S A H0 H locs) (hA : ∀ q, H0.size ≤ q → A q) (t0 : Nat) {t : FieldType} {nm : String} {index : Nat} (hnm : (FieldType.array t).toString = nm) (ht : (TY K)[t0]? = some (K t0, .array t)) (hcl : Cond.classLink own index nm ∈ wsL_law) (hover : (Cond.arrayOver (.array t)).before #[] s = true)
    {n : Int32} {N' : Nat} (hn : ¬ n < 0) (hN : n.toNatClampNeg = N') (hbytes : N' * 4 ≤ 536870912) (hcells : cells + 1 ≤ R.cells) (hslots : slots + N' ≤ R.slots) (hdg : decode cc pc = .ok (.anewarray index, 3))
    (kk : ∀ (q : Nat) (H1 : Heap), va_P D vwCl (ws ++ [(q, .inl (K t0, N', .inr (.inr (.inr (.inr (fun _ => none))))))]) H1 → va_D A (ws ++ [(q, .inl (K t0, N', .inr (.inr (.inr (.inr (fun _ => none))))))]) → va_S A H0 H1 locs →
      W p l e R s m args below meth c H1 locs (cells + 1) (slots + N') Q (F0 m (pc + 3) ls (.ref q :: rest))) : W p l e R s m args below meth c H locs cells slots Q (F0 m pc ls (.int n :: rest)) := by
  subst hN
  subst hnm
  refine W.anewA C.1 C.2.1 C.2.2.2.1 (C.2.2.2.2.1 _ hcl) (show (Cond.arrayOver (.array t)).before args s = true from hover) rfl hdg rfl hn hbytes hcells hslots fun cA kA comp f1 f2 f3 f4 => ?_
  have he : cA = K t0 := Option.some.inj (f1.symm.trans (C.2.2.2.2.2.2 t0 _ ht).2)
  subst he
  generalize hH1 : H.push ({ cls := K t0, slots := Array.replicate n.toNatClampNeg .null, vm := .none } : Cell) = H1
  have z1 : H1.size = H.size + 1 := by rw [← hH1, Array.size_push]
  have e1 : H1[H.size]? = some (arrV (K t0) n.toNatClampNeg (fun _ => .null)) := by rw [← hH1, Array.getElem?_push_size, ← arrV_new]
  have o1 : ∀ q : Nat, q < H.size → H1[q]? = H[q]? := fun q hq => by rw [← hH1, Array.getElem?_push, if_neg (Nat.ne_of_lt hq)]
  have hk : ∀ (k : Nat) (x : Nat × va_E), ws[k]? = some x → H1[x.1]? = H[x.1]? := fun k x hx => o1 x.1 ((hP k x hx).lt)
  refine kk H.size H1 ((hP.kept hk).app (fun k x hx => ?_)) (hD.push hP rfl (hA _ hS.1)) ⟨Nat.le_trans hS.1 (by omega), fun x h1 h2 => (o1 x (Nat.lt_of_lt_of_le h1 hS.1)).trans (hS.2.1 x h1 h2), hS.2.2⟩
  have hz : k < 1 := (List.getElem?_eq_some_iff.mp hx).1
  rw [show k = 0 by omega] at hx
  cases hx
  show H1[H.size]? = some (vp_cell _ _)
  rw [vp_cell_q]
  exact e1
theorem k_ald (C : kC p s m args c cc own nL D K) (hP : va_P D vwCl ws H) (q0 t0 : Nat) {t : FieldType} {n : Nat} {f : Nat → Option Nat} (ha : ws[q0]? = some (a, .inl (K t0, n, .inr (.inr (.inr (.inr f)))))) (ht : (TY K)[t0]? = some (K t0, .array t)) {i : Int32} (hin : vp_in i n) {w : Value} (hw : va_rf (f i.toNatClampNeg) = w) (hdg : decode cc pc = .ok (.aaload, 1))
    (kk : W p l e R s m args below meth c H locs cells slots Q (F0 m (pc + 1) ls (w :: rest))) : W p l e R s m args below meth c H locs cells slots Q (F0 m pc ls (.int i :: .ref a :: rest)) := by
  subst hw
  have hlt : i.toNatClampNeg < n := Nat.not_le.mp fun q => hin (Or.inr q)
  exact W.aald (v := va_rf (f i.toNatClampNeg)) (ty := .array t) C.1 C.2.1 (hP q0 _ ha) ((C.2.2.2.2.2.2 t0 _ ht).1 n (fun j => va_rf (f j))) rfl (fun q => by cases q) (by show ¬ (i < 0 ∨ (arrV _ _ _).slots.size ≤ _); rw [arrV_size]; exact hin) (by show (arrV _ _ _).slots[_]? = _; rw [arrV_read _ _ hlt]) rfl rfl hdg kk
/-- an array is put into an array of arrays -/
theorem k_ast (C : kC p s m args c cc own nL D K) (hP : va_P D vwCl ws H) (hD : va_D A ws) (hS : va_S A H0 H locs) (q0 t0 q1 t1 : Nat) {t : FieldType} {n v : Nat} {f : Nat → Option Nat} {x : vp_A} (ha : ws[q0]? = some (a, .inl (K t0, n, .inr (.inr (.inr (.inr f)))))) (ht : (TY K)[t0]? = some (K t0, .array t)) (hv : ws[q1]? = some (v, .inl (K t1, x))) (ht1 : (TY K)[t1]? = some (K t1, t)) (hra : va_RA s (K t1) t = (s.vm.findClass (FieldType.array t).toString = some (K t1))) (hover : (Cond.arrayOver (.array t)).before #[] s = true) {i : Int32} {j : Nat} (hin : vp_in i n) (hj : i.toNatClampNeg = j) (hw : ws.set q0 (a, .inl (K t0, n, .inr (.inr (.inr (.inr (va_up f j (some v))))))) = ws') (hdg : decode cc pc = .ok (.aastore, 1))
    (kk : ∀ (H1 : Heap) (locs1 : List Loc), va_P D vwCl ws' H1 → va_D A ws' → va_S A H0 H1 locs1 → W p l e R s m args below meth c H1 locs1 cells slots Q (F0 m (pc + 1) ls rest)) : W p l e R s m args below meth c H locs cells slots Q (F0 m pc ls (.ref v :: .int i :: .ref a :: rest)) := by
  subst hw
  subst hj
  have hlt : i.toNatClampNeg < n := Nat.not_le.mp fun q => hin (Or.inr q)
  have h0 : ¬ i < 0 := fun q => hin (Or.inl q)
  obtain ⟨comp, cA, kA, g1, -, g3, g4, g5⟩ := arrayOverA_spec hover
  have e0 : cA = K t0 := Option.some.inj (g5.symm.trans (C.2.2.2.2.2.2 t0 _ ht).2)
  subst e0
  have h1 := (C.2.2.2.2.2.2 t1 _ ht1).2
  rw [hra] at h1
  have e1 : comp = K t1 := Option.some.inj (g1.symm.trans h1)
  subst e1
  obtain ⟨kV, hkV, -⟩ := Vm.findClass_spec h1
  have hcv : ∃ cv : Cell, H[v]? = some cv ∧ cv.cls = K t1 ∧ cv.vm = .none := by
    have h9 := hP q1 _ hv
    refine ⟨_, h9, ?_, ?_⟩ <;> (rcases x with ⟨xn, xf | xf | xf | xf | xf⟩ <;> rfl)
  obtain ⟨cv, hc1, hc2, hc3⟩ := hcv
  refine W.aast C.1 C.2.1 (hP q0 _ ha) (fun q h => by cases h) (fun h => by cases h) g3 g4 rfl hkV ⟨h0, by show _ < (arrV _ _ _).slots.size; rw [arrV_size]; exact hlt⟩ hc1 (fun q h => by rw [hc3] at h; cases h) (by rw [hc2]; exact hkV) (by rw [hc2]; exact asg_refl _ _) rfl rfl hdg fun H1 e z oq => ?_
  refine kk H1 _ (hP.set hD ha ?_ oq) (hD.set ha) (hS.put z oq (hD.2 q0 _ ha))
  show H1[a]? = some (vp_cell _ _)
  rw [e]
  rw [vp_cell_q, vp_cell_q, arrV_store]
  congr 2
  funext q
  by_cases hq : q = i.toNatClampNeg
  · subst hq
    simp [updV, va_up, va_rf]
  · simp [updV, va_up, hq]
end KA
