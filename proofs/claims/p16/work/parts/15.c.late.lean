/-! ===== the room of cells that are made late ===== -/
section TIGHT
variable {p : Program} {l : Launch} {e : Env} {R : Room} {s : State} {m : MethodId} {args : Array Value} {below : List Frame} {meth : Method} {c : Code} {H : Heap} {locs : List Loc} {cells slots : Nat} {Q : State → Prop}
/-- the slots of the cells behind the first so many -/
def sumS (H : Heap) (k : Nat) : Nat := ((H.toList.drop k).map (·.slots.size)).sum
theorem W.tighten {g : JFrame} {k n : Nat} (h1 : H.size ≤ s.heap.size + k) (h2 : sumS H s.heap.size ≤ n) (kk : W p l e R s m args below meth c H locs k n Q g) : W p l e R s m args below meth c H locs cells slots Q g := by
  intro T hT X
  refine kk T hT { X with same := ?_ }
  obtain ⟨a, b, c1, d, e1, f⟩ := X.same
  have hh : (T.setVm s.vm).heap = H := hT
  refine ⟨a, b, by rw [hh]; exact h1, d, ?_, f⟩
  rw [hh]; exact h2
theorem W.grown {g : JFrame} (kk : H.size ≤ s.heap.size + cells → sumS H s.heap.size ≤ slots → W p l e R s m args below meth c H locs cells slots Q g) : W p l e R s m args below meth c H locs cells slots Q g := by
  intro T hT X
  have hh : (T.setVm s.vm).heap = H := hT
  obtain ⟨a, b, c1, d, e1, f⟩ := X.same
  rw [hh] at c1 e1
  exact kk c1 e1 T hT X
/-- the slots of one cell -/
def szA (H : Heap) (a : Nat) : Nat := ((H[a]?).map (fun (c : Cell) => c.slots.size)).getD 0
def SzK (H H1 : Heap) : Prop := ∀ a, a < H.size → szA H1 a = szA H a
theorem W.keeps {g : JFrame} (kk : SzK s.heap H → W p l e R s m args below meth c H locs cells slots Q g) : W p l e R s m args below meth c H locs cells slots Q g := by
  intro T hT X
  have hh : (T.setVm s.vm).heap = H := hT
  obtain ⟨-, -, -, -, -, f⟩ := X.same
  refine kk (fun a ha => ?_) T hT X
  obtain ⟨c9, h1, -, h3, -⟩ := f a _ (Array.getElem?_eq_getElem ha)
  rw [hh] at h1
  unfold szA
  rw [h1, Array.getElem?_eq_getElem ha]
  exact h3
theorem va_Run_w {mc ms : Nat} {g : JFrame} {rest : List Value} {Qa Qb : State → Outcome → State → Prop} {free : Addr → Prop} (h : va_Run p l e R s m args below meth c H locs cells slots mc ms g rest Qa free) (hq : ∀ st oc t, st.heap = H → Qa st oc t → Qb st oc t) : va_Run p l e R s m args below meth c H locs cells slots mc ms g rest Qb free := by
  intro T hT X
  obtain ⟨v, st0, t, T9, L, h0, X9, hL, e1, e2, q, st⟩ := h T hT X
  exact ⟨v, st0, t, T9, L, h0, X9, hL, e1, e2, hq _ _ _ h0 q, st⟩
end TIGHT
theorem sum_erase {f : Nat → Nat} {m : Nat} : ∀ {L : List Nat}, m ∈ L → (L.map f).sum = f m + ((L.erase m).map f).sum := by
  intro L
  induction L with
  | nil => intro h; cases h
  | cons x L ih =>
    intro h
    by_cases e : x = m
    · subst e
      rw [List.erase_cons_head]
      simp
    · have hm : m ∈ L := by
        rcases List.mem_cons.mp h with q | q
        · exact absurd q.symm e
        · exact q
      rw [List.erase_cons_tail (by simpa using e)]
      simp only [List.map_cons, List.sum_cons]
      rw [ih hm]
      omega
theorem pig_len {S : Nat} : ∀ (n : Nat) (L : List Nat), L.Nodup → (∀ x ∈ L, S ≤ x ∧ x < S + n) → L.length ≤ n := by
  intro n
  induction n with
  | zero =>
    intro L _ h
    cases L with
    | nil => exact Nat.le_refl _
    | cons x L => have := h x List.mem_cons_self; omega
  | succ n ih =>
    intro L hn h
    by_cases hm : S + n ∈ L
    · have h1 := ih (L.erase (S + n)) (hn.erase _) (fun x hx => by
        have h2 := (List.Nodup.mem_erase_iff hn).mp hx
        have h3 := h x h2.2
        have := h2.1
        omega)
      rw [List.length_erase_of_mem hm] at h1
      omega
    · have h1 := ih L hn (fun x hx => by
        have h3 := h x hx
        have h4 : x ≠ S + n := by
          intro e
          rw [e] at hx
          exact hm hx
        omega)
      omega
theorem pig_sum {S : Nat} {f : Nat → Nat} : ∀ (n : Nat) (L : List Nat), L.Nodup → (∀ x ∈ L, S ≤ x ∧ x < S + n) → n ≤ L.length → ((List.range' S n).map f).sum ≤ (L.map f).sum := by
  intro n
  induction n with
  | zero => intro L _ _ _; simp
  | succ n ih =>
    intro L hn h hl
    by_cases hm : S + n ∈ L
    · have h1 := ih (L.erase (S + n)) (hn.erase _) (fun x hx => by
        have h2 := (List.Nodup.mem_erase_iff hn).mp hx
        have h3 := h x h2.2
        have := h2.1
        omega) (by rw [List.length_erase_of_mem hm]; omega)
      rw [sum_erase hm, List.range'_concat]
      simp only [List.map_append, List.sum_append, List.map_cons, List.map_nil, List.sum_cons, List.sum_nil]
      have e1 : S + 1 * n = S + n := by omega
      rw [e1]
      omega
    · have h1 := pig_len (S := S) n L hn (fun x hx => by
        have h3 := h x hx
        have h4 : x ≠ S + n := by
          intro e
          rw [e] at hx
          exact hm hx
        omega)
      omega
/-- which late cells are new -/
def newK (d d1 : dSt) : List Nat := (List.range 918).filter (fun k => (d.1 k).isNone && (d1.1 k).isSome)
def newC (d d1 : dSt) : Nat := (newK d d1).length
/-- what was there stays there -/
def dLe (d d1 : dSt) : Prop := ∀ k a, d.1 k = some a → d1.1 k = some a
def dFr (S : Nat) (d d1 : dSt) : Prop := ∀ k a, d.1 k = none → d1.1 k = some a → S ≤ a
theorem dLe_rf {d : dSt} : dLe d d := fun _ _ h => h
theorem dLe_tr {d d1 d2 : dSt} (h : dLe d d1) (h1 : dLe d1 d2) : dLe d d2 := fun k a q => h1 k a (h k a q)
theorem dFr_rf {S : Nat} {d : dSt} : dFr S d d := fun k a q z => by rw [q] at z; cases z
theorem dFr_tr {S S1 : Nat} {d d1 d2 : dSt} (hl : dLe d1 d2) (h : dFr S d d1) (h1 : dFr S1 d1 d2) (hs : S ≤ S1) : dFr S d d2 := by
  intro k a q z
  cases e : d1.1 k with
  | none => exact Nat.le_trans hs (h1 k a e z)
  | some b1 =>
    have h9 := hl k b1 e
    rw [h9] at z
    have h8 : b1 = a := Option.some.inj z
    rw [← h8]
    exact h k b1 q e
theorem newC_rf {d : dSt} : newC d d = 0 := by
  unfold newC newK
  rw [List.filter_eq_nil_iff.mpr]
  · rfl
  · intro k _
    cases h : d.1 k <;> simp [h]
theorem newC_le (d d1 : dSt) : newC d d1 ≤ 918 := by
  unfold newC newK
  exact Nat.le_trans (List.length_filter_le _ _) (by rw [List.length_range]; exact Nat.le_refl _)
theorem filter_len {α : Type} (p q r : α → Bool) (hpq : ∀ x, r x = (p x || q x)) (hd : ∀ x, (p x && q x) = false) : ∀ L : List α, (L.filter r).length = (L.filter p).length + (L.filter q).length := by
  intro L
  induction L with
  | nil => rfl
  | cons x L ih =>
    have h1 := hpq x
    have h2 := hd x
    cases hp : p x <;> cases hq : q x <;> simp [List.filter_cons, h1, hp, hq, ih] at h2 ⊢ <;> omega
theorem newC_tr {d d1 d2 : dSt} (h : dLe d d1) (h1 : dLe d1 d2) : newC d d2 = newC d d1 + newC d1 d2 := by
  unfold newC newK
  refine filter_len _ _ _ (fun k => ?_) (fun k => ?_) _
  · cases e : d.1 k with
    | some a => rw [h k a e]; simp
    | none =>
      cases e1 : d1.1 k with
      | none => simp
      | some b => rw [h1 k b e1]; simp
  · cases e : d.1 k with
    | some a => simp
    | none => cases e1 : d1.1 k <;> simp

/-! ===== late cells in the world ===== -/
def dF (K : Nat → ClassId) (d : dSt) (k : Nat) : Option (Nat × va_E) := (d.1 k).map (fun a => (a, .inl (K (dKd k), dN k, .inl (d.2 k))))
theorem range_cut {k n : Nat} (hk : k < n) : List.range n = List.range k ++ k :: List.range' (k + 1) (n - 1 - k) := by
  have h1 : n = k + ((n - 1 - k) + 1) := by omega
  rw [List.range_eq_range', List.range_eq_range']
  conv => lhs; rw [h1]
  rw [← List.range'_append_1, Nat.zero_add, List.range'_succ]
theorem dyn_cut {K : Nat → ClassId} {d : dSt} {k : Nat} (hk : k < 918) : dynW K d = (List.range k).filterMap (dF K d) ++ ((dF K d k).toList ++ (List.range' (k + 1) (917 - k)).filterMap (dF K d)) := by
  show (List.range 918).filterMap (dF K d) = _
  rw [range_cut hk, List.filterMap_append]
  congr 1
  rw [List.filterMap_cons]
  cases h : dF K d k <;> rfl
theorem fm_eq {f g : Nat → Option (Nat × va_E)} : ∀ {L : List Nat}, (∀ x ∈ L, f x = g x) → L.filterMap f = L.filterMap g := by
  intro L
  induction L with
  | nil => intro _; rfl
  | cons x L ih =>
    intro h
    rw [List.filterMap_cons, List.filterMap_cons, h x List.mem_cons_self, ih (fun y hy => h y (List.mem_cons_of_mem _ hy))]
theorem dF_ne {K : Nat → ClassId} {d d1 : dSt} {j : Nat} (h : d1.1 j = d.1 j) (h2 : d1.2 j = d.2 j) : dF K d1 j = dF K d j := by
  unfold dF; rw [h, h2]
theorem lo_fm {K : Nat → ClassId} {d d1 : dSt} {k : Nat} (h : ∀ j, j ≠ k → d1.1 j = d.1 j ∧ d1.2 j = d.2 j) : (List.range k).filterMap (dF K d1) = (List.range k).filterMap (dF K d) := by
  refine fm_eq (fun x hx => ?_)
  have hx1 : x < k := List.mem_range.mp hx
  exact dF_ne (h x (by omega)).1 (h x (by omega)).2
theorem hi_fm {K : Nat → ClassId} {d d1 : dSt} {k n : Nat} (h : ∀ j, j ≠ k → d1.1 j = d.1 j ∧ d1.2 j = d.2 j) : (List.range' (k + 1) n).filterMap (dF K d1) = (List.range' (k + 1) n).filterMap (dF K d) := by
  refine fm_eq (fun x hx => ?_)
  have hx1 : k + 1 ≤ x := (List.mem_range'_1.mp hx).1
  exact dF_ne (h x (by omega)).1 (h x (by omega)).2
theorem cD_ne {d : dSt} {k : Nat} {f : Nat → Int32} : ∀ j, j ≠ k → (cD d k f).1 j = d.1 j ∧ (cD d k f).2 j = d.2 j := fun j hj => ⟨rfl, if_neg hj⟩
theorem nD_ne {d : dSt} {k q : Nat} : ∀ j, j ≠ k → (nD d k q).1 j = d.1 j ∧ (nD d k q).2 j = d.2 j := fun j hj => ⟨if_neg hj, if_neg hj⟩
theorem dyn_pos {K : Nat → ClassId} {d : dSt} {k a : Nat} (hk : k < 918) (h : d.1 k = some a) : ∃ q, (dynW K d)[q]? = some (a, .inl (K (dKd k), dN k, .inl (d.2 k))) ∧ ∀ f, (dynW K d).set q (a, .inl (K (dKd k), dN k, .inl f)) = dynW K (cD d k f) := by
  have e0 : dF K d k = some (a, .inl (K (dKd k), dN k, .inl (d.2 k))) := by unfold dF; rw [h]; rfl
  have e1 : ∀ f, dF K (cD d k f) k = some (a, .inl (K (dKd k), dN k, .inl f)) := by
    intro f
    unfold dF
    rw [show (cD d k f).1 k = some a from h, show (cD d k f).2 k = f from if_pos rfl]
    rfl
  refine ⟨((List.range k).filterMap (dF K d)).length, ?_, fun f => ?_⟩
  · rw [dyn_cut hk, e0, List.getElem?_append_right (Nat.le_refl _), Nat.sub_self]
    rfl
  · rw [dyn_cut hk, dyn_cut (d := cD d k f) hk, e0, e1, lo_fm cD_ne, hi_fm cD_ne, List.set_append_right _ _ (Nat.le_refl _), Nat.sub_self]
    rfl
theorem dyn_new {K : Nat → ClassId} {d : dSt} {k q : Nat} (hk : k < 918) (h : d.1 k = none) : (dynW K d ++ ([(q, .inl (K (dKd k), dN k, .inl (fun _ => 0)))] : va_W)).Perm (dynW K (nD d k q)) := by
  have e0 : dF K d k = none := by unfold dF; rw [h]; rfl
  have e1 : dF K (nD d k q) k = some (q, .inl (K (dKd k), dN k, .inl (fun _ => 0))) := by
    unfold dF
    rw [show (nD d k q).1 k = some q from if_pos rfl, show (nD d k q).2 k = (fun _ => 0) from if_pos rfl]
    rfl
  rw [dyn_cut hk, dyn_cut (d := nD d k q) hk, e0, e1, lo_fm nD_ne, hi_fm nD_ne, List.append_assoc]
  refine List.Perm.append_left _ ?_
  show (([] ++ _) ++ [_] : va_W).Perm ([_] ++ _)
  rw [List.nil_append]
  exact List.perm_append_comm
theorem va_P_perm {D : va_G} {ws ws' : va_W} {H : Heap} (h : va_P D vwCl ws H) (hp : ws.Perm ws') : va_P D vwCl ws' H := by
  intro k x hx
  have h1 : x ∈ ws := hp.symm.mem_iff.mp (List.mem_of_getElem? hx)
  obtain ⟨j, hj⟩ := List.getElem?_of_mem h1
  exact h j x hj
theorem va_D_nd {A : Nat → Prop} {ws : va_W} (h : va_D A ws) : (ws.map Prod.fst).Nodup := by
  refine List.pairwise_iff_getElem.mpr (fun i j hi hj hij hc => ?_)
  rw [List.length_map] at hi hj
  rw [List.getElem_map, List.getElem_map] at hc
  have h1 := h.1 i j _ _ (List.getElem?_eq_getElem hi) (List.getElem?_eq_getElem hj) hc
  omega
theorem nd_va_D {A : Nat → Prop} {ws : va_W} (h : (ws.map Prod.fst).Nodup) (hA : ∀ x ∈ ws, A x.1) : va_D A ws := by
  refine ⟨fun i j x y hx hy e => ?_, fun k x hx => hA x (List.mem_of_getElem? hx)⟩
  have h0 := List.pairwise_iff_getElem.mp h
  obtain ⟨lx, ex⟩ := List.getElem?_eq_some_iff.mp hx
  obtain ⟨ly, ey⟩ := List.getElem?_eq_some_iff.mp hy
  have li : i < (ws.map Prod.fst).length := by rw [List.length_map]; exact lx
  have lj : j < (ws.map Prod.fst).length := by rw [List.length_map]; exact ly
  have h1 : (ws.map Prod.fst)[i] = x.1 := by rw [List.getElem_map, ex]
  have h2 : (ws.map Prod.fst)[j] = y.1 := by rw [List.getElem_map, ey]
  rcases Nat.lt_trichotomy i j with q | q | q
  · exact absurd (h1.trans (e.trans h2.symm)) (h0 i j li lj q)
  · exact q
  · exact absurd (h2.trans (e.symm.trans h1.symm)) (h0 j i lj li q)
theorem va_D_perm {A : Nat → Prop} {ws ws' : va_W} (h : va_D A ws) (hp : ws.Perm ws') : va_D A ws' := by
  refine nd_va_D ((hp.map Prod.fst).nodup_iff.mp (va_D_nd h)) (fun x hx => ?_)
  obtain ⟨j, hj⟩ := List.getElem?_of_mem (hp.symm.mem_iff.mp hx)
  exact h.2 j x hj
theorem SX_len {r916 r917 : Value} {f0 f300 f600 f900 : Nat → Option Nat} {K : Nat → ClassId} {ad : Nat → Nat} {t : tSt} : (SX r916 r917 f0 f300 f600 f900 K ad t).length = 52 := rfl
theorem WX_pos {K : Nat → ClassId} {ad : Nat → Nat} {t : tSt} {d : dSt} {k a : Nat} (hk : k < 918) (h : d.1 k = some a) : ∃ q, (WX d K ad t)[q]? = some (a, .inl (K (dKd k), dN k, .inl (d.2 k))) ∧ ∀ f, (WX d K ad t).set q (a, .inl (K (dKd k), dN k, .inl f)) = WX (cD d k f) K ad t := by
  obtain ⟨q, h1, h2⟩ := dyn_pos (K := K) hk h
  refine ⟨52 + q, ?_, fun f => ?_⟩
  · show (SX _ _ _ _ _ _ K ad t ++ dynW K d)[52 + q]? = _
    rw [List.getElem?_append_right (by rw [SX_len]; omega), SX_len, show 52 + q - 52 = q by omega]
    exact h1
  · show (SX _ _ _ _ _ _ K ad t ++ dynW K d).set (52 + q) _ = SX _ _ _ _ _ _ K ad t ++ dynW K (cD d k f)
    rw [List.set_append_right _ _ (by rw [SX_len]; omega), SX_len, show 52 + q - 52 = q by omega, h2 f]
    rfl
theorem dR_up {d : dSt} {b n i q : Nat} (hi : i < n) : va_up (dR d b n) i (some q) = dR (nD d (b + i) q) b n := by
  funext j
  unfold va_up dR nD
  by_cases hj : j = i
  · subst hj
    simp [hi]
  · by_cases hn : j < n
    · simp [hj, hn]
    · simp [hj, hn]
theorem dR_no {d : dSt} {b n k q : Nat} (h : k < b ∨ b + n ≤ k) : dR d b n = dR (nD d k q) b n := by
  funext j
  unfold dR nD
  by_cases hn : j < n
  · have : b + j ≠ k := by omega
    simp [hn, this]
  · simp [hn]
theorem n1_no {d : dSt} {k q j : Nat} (h : j ≠ k) : d.1 j = (nD d k q).1 j := (if_neg h).symm
def WXS0 (d : dSt) (K : Nat → ClassId) (ad : Nat → Nat) (t : tSt) (g : Nat → Option Nat) : va_W := SX (va_rf (d.1 916)) (va_rf (d.1 917)) g (dR d 300 300) (dR d 600 300) (dR d 900 16) K ad t
def WXS300 (d : dSt) (K : Nat → ClassId) (ad : Nat → Nat) (t : tSt) (g : Nat → Option Nat) : va_W := SX (va_rf (d.1 916)) (va_rf (d.1 917)) (dR d 0 300) g (dR d 600 300) (dR d 900 16) K ad t
def WXS600 (d : dSt) (K : Nat → ClassId) (ad : Nat → Nat) (t : tSt) (g : Nat → Option Nat) : va_W := SX (va_rf (d.1 916)) (va_rf (d.1 917)) (dR d 0 300) (dR d 300 300) g (dR d 900 16) K ad t
def WXS900 (d : dSt) (K : Nat → ClassId) (ad : Nat → Nat) (t : tSt) (g : Nat → Option Nat) : va_W := SX (va_rf (d.1 916)) (va_rf (d.1 917)) (dR d 0 300) (dR d 300 300) (dR d 600 300) g K ad t
theorem WX_new0 {K : Nat → ClassId} {ad : Nat → Nat} {t : tSt} {d : dSt} {i q : Nat} (hi : i < 300) (h : d.1 (0 + i) = none) : ((WX d K ad t ++ ([(q, .inl (K 2, 120, .inl (fun _ => 0)))] : va_W)).set 32 (ad 32, .inl (K 4, 300, .inr (.inr (.inr (.inr (va_up (dR d 0 300) i (some q)))))))).Perm (WX (nD d (0 + i) q) K ad t) := by
  have hk : dKd (0 + i) = 2 ∧ dN (0 + i) = 120 := by unfold dKd dN; constructor <;> (repeat' split) <;> omega
  have hq := dyn_new (K := K) (d := d) (k := 0 + i) (q := q) (by omega) h
  rw [hk.1, hk.2] at hq
  have e1 : (WX d K ad t ++ ([(q, .inl (K 2, 120, .inl (fun _ => 0)))] : va_W)).set 32 (ad 32, .inl (K 4, 300, .inr (.inr (.inr (.inr (va_up (dR d 0 300) i (some q))))))) = WXS0 d K ad t (va_up (dR d 0 300) i (some q)) ++ (dynW K d ++ ([(q, .inl (K 2, 120, .inl (fun _ => 0)))] : va_W)) := by
    show ((SX _ _ _ _ _ _ K ad t ++ dynW K d) ++ _).set 32 _ = _
    rw [List.append_assoc, List.set_append_left _ _ (by rw [SX_len]; decide)]
    rfl
  rw [e1, dR_up hi]
  show (SX _ _ _ _ _ _ K ad t ++ _).Perm (SX _ _ _ _ _ _ K ad t ++ _)
  rw [show dR d 300 300 = _ from dR_no (d := d) (b := 300) (n := 300) (k := 0 + i) (q := q) (by omega), show dR d 600 300 = _ from dR_no (d := d) (b := 600) (n := 300) (k := 0 + i) (q := q) (by omega), show dR d 900 16 = _ from dR_no (d := d) (b := 900) (n := 16) (k := 0 + i) (q := q) (by omega), n1_no (d := d) (k := 0 + i) (q := q) (j := 916) (by omega), n1_no (d := d) (k := 0 + i) (q := q) (j := 917) (by omega)]
  exact List.Perm.append_left _ hq
theorem WX_new300 {K : Nat → ClassId} {ad : Nat → Nat} {t : tSt} {d : dSt} {i q : Nat} (hi : i < 300) (h : d.1 (300 + i) = none) : ((WX d K ad t ++ ([(q, .inl (K 2, 120, .inl (fun _ => 0)))] : va_W)).set 35 (ad 35, .inl (K 4, 300, .inr (.inr (.inr (.inr (va_up (dR d 300 300) i (some q)))))))).Perm (WX (nD d (300 + i) q) K ad t) := by
  have hk : dKd (300 + i) = 2 ∧ dN (300 + i) = 120 := by unfold dKd dN; constructor <;> (repeat' split) <;> omega
  have hq := dyn_new (K := K) (d := d) (k := 300 + i) (q := q) (by omega) h
  rw [hk.1, hk.2] at hq
  have e1 : (WX d K ad t ++ ([(q, .inl (K 2, 120, .inl (fun _ => 0)))] : va_W)).set 35 (ad 35, .inl (K 4, 300, .inr (.inr (.inr (.inr (va_up (dR d 300 300) i (some q))))))) = WXS300 d K ad t (va_up (dR d 300 300) i (some q)) ++ (dynW K d ++ ([(q, .inl (K 2, 120, .inl (fun _ => 0)))] : va_W)) := by
    show ((SX _ _ _ _ _ _ K ad t ++ dynW K d) ++ _).set 35 _ = _
    rw [List.append_assoc, List.set_append_left _ _ (by rw [SX_len]; decide)]
    rfl
  rw [e1, dR_up hi]
  show (SX _ _ _ _ _ _ K ad t ++ _).Perm (SX _ _ _ _ _ _ K ad t ++ _)
  rw [show dR d 0 300 = _ from dR_no (d := d) (b := 0) (n := 300) (k := 300 + i) (q := q) (by omega), show dR d 600 300 = _ from dR_no (d := d) (b := 600) (n := 300) (k := 300 + i) (q := q) (by omega), show dR d 900 16 = _ from dR_no (d := d) (b := 900) (n := 16) (k := 300 + i) (q := q) (by omega), n1_no (d := d) (k := 300 + i) (q := q) (j := 916) (by omega), n1_no (d := d) (k := 300 + i) (q := q) (j := 917) (by omega)]
  exact List.Perm.append_left _ hq
theorem WX_new600 {K : Nat → ClassId} {ad : Nat → Nat} {t : tSt} {d : dSt} {i q : Nat} (hi : i < 300) (h : d.1 (600 + i) = none) : ((WX d K ad t ++ ([(q, .inl (K 2, 120, .inl (fun _ => 0)))] : va_W)).set 38 (ad 38, .inl (K 4, 300, .inr (.inr (.inr (.inr (va_up (dR d 600 300) i (some q)))))))).Perm (WX (nD d (600 + i) q) K ad t) := by
  have hk : dKd (600 + i) = 2 ∧ dN (600 + i) = 120 := by unfold dKd dN; constructor <;> (repeat' split) <;> omega
  have hq := dyn_new (K := K) (d := d) (k := 600 + i) (q := q) (by omega) h
  rw [hk.1, hk.2] at hq
  have e1 : (WX d K ad t ++ ([(q, .inl (K 2, 120, .inl (fun _ => 0)))] : va_W)).set 38 (ad 38, .inl (K 4, 300, .inr (.inr (.inr (.inr (va_up (dR d 600 300) i (some q))))))) = WXS600 d K ad t (va_up (dR d 600 300) i (some q)) ++ (dynW K d ++ ([(q, .inl (K 2, 120, .inl (fun _ => 0)))] : va_W)) := by
    show ((SX _ _ _ _ _ _ K ad t ++ dynW K d) ++ _).set 38 _ = _
    rw [List.append_assoc, List.set_append_left _ _ (by rw [SX_len]; decide)]
    rfl
  rw [e1, dR_up hi]
  show (SX _ _ _ _ _ _ K ad t ++ _).Perm (SX _ _ _ _ _ _ K ad t ++ _)
  rw [show dR d 0 300 = _ from dR_no (d := d) (b := 0) (n := 300) (k := 600 + i) (q := q) (by omega), show dR d 300 300 = _ from dR_no (d := d) (b := 300) (n := 300) (k := 600 + i) (q := q) (by omega), show dR d 900 16 = _ from dR_no (d := d) (b := 900) (n := 16) (k := 600 + i) (q := q) (by omega), n1_no (d := d) (k := 600 + i) (q := q) (j := 916) (by omega), n1_no (d := d) (k := 600 + i) (q := q) (j := 917) (by omega)]
  exact List.Perm.append_left _ hq
theorem WX_new900 {K : Nat → ClassId} {ad : Nat → Nat} {t : tSt} {d : dSt} {i q : Nat} (hi : i < 16) (h : d.1 (900 + i) = none) : ((WX d K ad t ++ ([(q, .inl (K 0, 6400, .inl (fun _ => 0)))] : va_W)).set 11 (ad 11, .inl (K 5, 16, .inr (.inr (.inr (.inr (va_up (dR d 900 16) i (some q)))))))).Perm (WX (nD d (900 + i) q) K ad t) := by
  have hk : dKd (900 + i) = 0 ∧ dN (900 + i) = 6400 := by unfold dKd dN; constructor <;> (repeat' split) <;> omega
  have hq := dyn_new (K := K) (d := d) (k := 900 + i) (q := q) (by omega) h
  rw [hk.1, hk.2] at hq
  have e1 : (WX d K ad t ++ ([(q, .inl (K 0, 6400, .inl (fun _ => 0)))] : va_W)).set 11 (ad 11, .inl (K 5, 16, .inr (.inr (.inr (.inr (va_up (dR d 900 16) i (some q))))))) = WXS900 d K ad t (va_up (dR d 900 16) i (some q)) ++ (dynW K d ++ ([(q, .inl (K 0, 6400, .inl (fun _ => 0)))] : va_W)) := by
    show ((SX _ _ _ _ _ _ K ad t ++ dynW K d) ++ _).set 11 _ = _
    rw [List.append_assoc, List.set_append_left _ _ (by rw [SX_len]; decide)]
    rfl
  rw [e1, dR_up hi]
  show (SX _ _ _ _ _ _ K ad t ++ _).Perm (SX _ _ _ _ _ _ K ad t ++ _)
  rw [show dR d 0 300 = _ from dR_no (d := d) (b := 0) (n := 300) (k := 900 + i) (q := q) (by omega), show dR d 300 300 = _ from dR_no (d := d) (b := 300) (n := 300) (k := 900 + i) (q := q) (by omega), show dR d 600 300 = _ from dR_no (d := d) (b := 600) (n := 300) (k := 900 + i) (q := q) (by omega), n1_no (d := d) (k := 900 + i) (q := q) (j := 916) (by omega), n1_no (d := d) (k := 900 + i) (q := q) (j := 917) (by omega)]
  exact List.Perm.append_left _ hq

theorem drop_sum (H : Heap) (S : Nat) : sumS H S = ((List.range' S (H.size - S)).map (fun a => ((H[a]?).map (fun (c : Cell) => c.slots.size)).getD 0)).sum := by
  unfold sumS
  congr 1
  refine List.ext_getElem ?_ (fun i h1 h2 => ?_)
  · simp
  · rw [List.getElem_map, List.getElem_map, List.getElem_drop, List.getElem_range', Nat.one_mul]
    have hl : S + i < H.size := by
      rw [List.length_map, List.length_drop, Array.length_toList] at h1
      omega
    rw [Array.getElem?_eq_getElem hl]
    rfl
theorem fm_len {f : Nat → Option Nat} : ∀ (L : List Nat), (∀ k ∈ L, (f k).isSome = true) → (L.filterMap f).length = L.length := by
  intro L
  induction L with
  | nil => intro _; rfl
  | cons x L ih =>
    intro h
    have hx := h x List.mem_cons_self
    rw [List.filterMap_cons]
    cases e : f x with
    | none => rw [e] at hx; cases hx
    | some v => show _ + 1 = _ + 1; rw [ih (fun y hy => h y (List.mem_cons_of_mem _ hy))]
theorem fm_sum {f : Nat → Option Nat} {g w : Nat → Nat} : ∀ (L : List Nat), (∀ k ∈ L, ∃ a, f k = some a ∧ g a = w k) → ((L.filterMap f).map g).sum = (L.map w).sum := by
  intro L
  induction L with
  | nil => intro _; rfl
  | cons x L ih =>
    intro h
    obtain ⟨a, h1, h2⟩ := h x List.mem_cons_self
    rw [List.filterMap_cons, h1]
    simp only [List.map_cons, List.sum_cons]
    rw [h2, ih (fun y hy => h y (List.mem_cons_of_mem _ hy))]
theorem fil_sum {w : Nat → Nat} {c : Nat → Bool} : ∀ (L : List Nat), ((L.filter c).map w).sum ≤ (L.map w).sum := by
  intro L
  induction L with
  | nil => exact Nat.le_refl _
  | cons x L ih =>
    rw [List.filter_cons]
    split
    · simp only [List.map_cons, List.sum_cons]; omega
    · simp only [List.map_cons, List.sum_cons]; omega
theorem dN_sum : ((List.range 918).map dN).sum = 246800 := by decide +kernel
theorem dyn_fst {K : Nat → ClassId} {d : dSt} : (dynW K d).map Prod.fst = (List.range 918).filterMap d.1 := by
  unfold dynW
  rw [List.map_filterMap]
  congr 1
  funext k
  cases d.1 k <;> rfl
theorem cell_sz {cA : ClassId} {n : Nat} {f : Nat → Int32} : (vp_cell cA (n, .inl f)).slots.size = n := by
  show (arrV cA n (fun j => .int (f j))).slots.size = n
  exact arrV_size ..
theorem late_sum {D : va_G} {K : Nat → ClassId} {ad : Nat → Nat} {t : tSt} {d0 d1 : dSt} {A : Nat → Prop} {H : Heap} {S : Nat} (hP : va_P D vwCl (WX d1 K ad t) H) (hD : va_D A (WX d1 K ad t)) (hH : H.size ≤ S + newC d0 d1) (hf : dFr S d0 d1) : sumS H S ≤ 246800 := by
  rw [drop_sum]
  have hm : ∀ k ∈ newK d0 d1, k < 918 ∧ d0.1 k = none ∧ ∃ a, d1.1 k = some a ∧ H[a]? = some (vp_cell (K (dKd k)) (dN k, .inl (d1.2 k))) := by
    intro k hk
    unfold newK at hk
    obtain ⟨h1, h2⟩ := List.mem_filter.mp hk
    have h3 : k < 918 := List.mem_range.mp h1
    rw [Bool.and_eq_true] at h2
    have h4 : d0.1 k = none := Option.isNone_iff_eq_none.mp h2.1
    obtain ⟨a, h5⟩ := Option.isSome_iff_exists.mp h2.2
    obtain ⟨q, h6, -⟩ := WX_pos (K := K) (ad := ad) (t := t) h3 h5
    exact ⟨h3, h4, a, h5, hP q _ h6⟩
  have hlen : ((newK d0 d1).filterMap d1.1).length = newC d0 d1 := fm_len _ (fun k hk => by obtain ⟨-, -, a, h, -⟩ := hm k hk; rw [h]; rfl)
  have hnd : ((newK d0 d1).filterMap d1.1).Nodup := by
    have h1 := va_D_nd hD
    have h2 : ((WX d1 K ad t).map Prod.fst) = (SX (va_rf (d1.1 916)) (va_rf (d1.1 917)) (dR d1 0 300) (dR d1 300 300) (dR d1 600 300) (dR d1 900 16) K ad t).map Prod.fst ++ (dynW K d1).map Prod.fst := List.map_append
    rw [h2, dyn_fst] at h1
    have h3 := (List.nodup_append.mp h1).2.1
    exact h3.sublist (List.Sublist.filterMap _ (List.filter_sublist))
  refine Nat.le_trans (pig_sum (H.size - S) ((newK d0 d1).filterMap d1.1) hnd (fun x hx => ?_) (by rw [hlen]; omega)) ?_
  · obtain ⟨k, hk, e⟩ := List.mem_filterMap.mp hx
    obtain ⟨-, h2, a, h3, h4⟩ := hm k hk
    rw [h3] at e
    have e1 : a = x := Option.some.inj e
    subst e1
    have h5 := (Array.getElem?_eq_some_iff.mp h4).1
    have h6 := hf k a h2 h3
    omega
  · rw [fm_sum (w := dN) _ (fun k hk => by
      obtain ⟨-, -, a, h3, h4⟩ := hm k hk
      exact ⟨a, h3, by rw [h4]; exact cell_sz⟩)]
    exact Nat.le_trans (fil_sum _) (Nat.le_of_eq dN_sum)
theorem nD_at {d : dSt} {k q : Nat} : (nD d k q).1 k = some q := if_pos rfl
theorem nD_le {d : dSt} {k q : Nat} (h : d.1 k = none) : dLe d (nD d k q) := by
  intro j a hj
  have : j ≠ k := by intro e; rw [e, h] at hj; cases hj
  exact (nD_ne j this).1.trans hj
theorem nD_fr {d : dSt} {k q S : Nat} (hq : S ≤ q) : dFr S d (nD d k q) := by
  intro j a h1 h2
  by_cases e : j = k
  · rw [e] at h2
    have : some q = some a := (if_pos rfl : (nD d k q).1 k = some q).symm.trans h2
    rw [← Option.some.inj this]; exact hq
  · rw [(nD_ne j e).1, h1] at h2; cases h2
theorem nD_one {d : dSt} {k q : Nat} (hk : k < 918) (h : d.1 k = none) : newC d (nD d k q) = 1 := by
  unfold newC newK
  have e : (fun j => (d.1 j).isNone && ((nD d k q).1 j).isSome) = fun j => j == k := by
    funext j
    by_cases ej : j = k
    · subst ej
      rw [h, show (nD d j q).1 j = some q from if_pos rfl]
      simp
    · rw [(nD_ne j ej).1]
      cases d.1 j <;> simp [ej]
  rw [e, range_cut hk, List.filter_append, List.filter_cons, List.filter_eq_nil_iff.mpr (fun x hx => by have hx1 : x < k := List.mem_range.mp hx; simp; omega), List.filter_eq_nil_iff.mpr (fun x hx => by have hx1 : k + 1 ≤ x := (List.mem_range'_1.mp hx).1; simp; omega)]
  simp
theorem cD_le {d : dSt} {k : Nat} {f : Nat → Int32} : dLe d (cD d k f) := fun _ _ h => h
theorem cD_fr {S : Nat} {d : dSt} {k : Nat} {f : Nat → Int32} : dFr S d (cD d k f) := fun j a h1 h2 => by
  have h3 : d.1 j = some a := h2
  rw [h1] at h3; cases h3
theorem cD_new {d d1 : dSt} {k : Nat} {f : Nat → Int32} : newC d (cD d1 k f) = newC d d1 := rfl
/-! ===== contracts of methods that may make late cells ===== -/
def PreD (D : va_G) (K : Nat → ClassId) (Z Y : Nat → Nat) (ws : va_W) (sz : Nat) (U : State) : Prop := PreT D K Z Y ws sz U ∧ XX U
def dMet (l : Launch) (y : MethodName) (c : ByteArray) (n : Nat) (r : Option FieldType) (rm : Room) (D : va_G) (K : Nat → ClassId) (Z Y : Nat → Nat) (av : List Value) (ws : va_W) (Q : Nat → (Nat → Prop) → Array Value → State → Outcome → State → Prop) (mc ms : Nat) : Prop :=
  ∀ sz, Met l y (uws y c n r) rm (va_Pc av (PreD D K Z Y ws sz)) (Q sz (va_A ws sz)) mc ms (va_A ws sz)
theorem preD_blind {D : va_G} {K : Nat → ClassId} {Z Y : Nat → Nat} {av : List Value} {ws : va_W} {sz : Nat} : FrameBlind (va_Pc av (PreD D K Z Y ws sz)) := by
  intro a U g mk q
  obtain ⟨q0, q1, q2⟩ := q
  have h := preT_blind (D := D) (K := K) (Z := Z) (Y := Y) (av := av) (ws := ws) (sz := sz) a U g mk ⟨q0, q1⟩
  exact ⟨h.1, h.2, XX_ok U _ (State.WarmedH.refl U) q2⟩
theorem preD_at {D : va_G} {K : Nat → ClassId} {Z Y : Nat → Nat} {av : List Value} {s : State} {wc : va_W} {A : Nat → Prop} {H : Heap} {locs : List Loc} (hK : va_K D vwCl (TY K) s) (hPc : va_P D vwCl wc H) (hDc : va_D A wc) (hE : XR Z s) (hZ : XQ Z Y A s s.heap) (hX : XX s) (hS : va_S A s.heap H locs) (hF : ∀ q, va_A wc H.size q → A q) :
    ∀ U : State, U.heap = H → s.WarmedH U.vm → va_Pc av (PreD D K Z Y wc H.size) av.toArray U := fun U hU hW =>
  ⟨rfl, (preT_at (av := av) hK hPc hDc hE hZ hS hF U hU hW).2, XX_ok _ _ hW hX⟩
def BD (D : va_G) (K : Nat → ClassId) (ad : Nat → Nat) (d : dSt) (sz : Nat) (A : Nat → Prop) (u : tSt × dSt) (t : State) : Prop := PostW D K A (WX u.2 K ad u.1) t ∧ t.heap.size ≤ sz + newC d u.2 ∧ dLe d u.2 ∧ dFr sz d u.2
def QDI (D : va_G) (K : Nat → ClassId) (ad : Nat → Nat) (d : dSt) (post : Int32 → tSt → dSt → Prop) (sz : Nat) (A : Nat → Prop) : Array Value → State → Outcome → State → Prop := fun a st oc t => va_Qi (fun r (u : tSt × dSt) => post r u.1 u.2) (BD D K ad d sz A) A a st oc t ∧ SzK st.heap t.heap
def QDV (D : va_G) (K : Nat → ClassId) (ad : Nat → Nat) (d : dSt) (post : tSt → dSt → Prop) (sz : Nat) (A : Nat → Prop) : Array Value → State → Outcome → State → Prop := fun a st oc t => va_Qv (fun (u : tSt × dSt) => post u.1 u.2) (BD D K ad d sz A) A a st oc t ∧ SzK st.heap t.heap
section DM
variable {l : Launch} {D : va_G} {K : Nat → ClassId} {Z Y : Nat → Nat}
theorem d_met {y : MethodName} {cc : ByteArray} {n : Nat} {r : Option FieldType} {rm : Room} {av : List Value} {ws : va_W} {Q : Nat → (Nat → Prop) → Array Value → State → Outcome → State → Prop} {mc ms : Nat}
    (d : dSt) (own : String) (hy : y.cls = own ∧ plainName y.cls = true) (hav : (lg_sl av).length ≤ n)
    (body : ∀ (p : Program) (e : Env) (s : State) (m : MethodId) (below : List Frame) (meth : Method) (c : Code) (A : Nat → Prop) (ls : Array Slot), kC p s m av.toArray c cc own n D K → XR Z s → XQ Z Y A s s.heap → XX s → meth.sig.returnType = r → meth.locks = false → (∀ q : Nat, s.heap.size ≤ q → A q) → va_P D vwCl ws s.heap → va_D A ws → va_S A s.heap s.heap [] → lv_has ls n (lv_args 0 av) →
      W p l e rm s m av.toArray below meth c s.heap [] (newC d d) 246800 (MQ below (Q s.heap.size A) av.toArray s mc ms A) (F0 m 0 ls [])) : dMet l y cc n r rm D K Z Y av ws Q mc ms := by
  intro sz
  refine Met.ofW (cc := cc) (maxL := n) (ret := r) hy.2 rfl ?_
  intro p e s m args below meth c s₁ B hml hv
  obtain ⟨rfl, ⟨⟨hsz, hP, hK, hD0⟩, hX, hZ⟩, hXX⟩ := hv
  have hts := atoms_spec (ws := uws y cc n r) B.pre
  have hown : s.vm.findClass own = some m.cls := by rw [← hy.1]; exact findClass_of_methodNamed B.named
  subst hsz
  have hl := lv_entry av (n := n) hav
  rw [lg_entry_eq]
  exact W.widen (Nat.zero_le (newC d d)) (Nat.zero_le 246800) <| body p e s m below meth c (va_A ws s.heap.size) _ ⟨B.exec, B.bytes, hml, hown, fun w h => hts w (List.mem_cons_of_mem _ h), hK⟩ hX hZ hXX B.returns B.notSynchronized (fun q h => Or.inr h) hP (hD0.self) va_S.rf hl
end DM
section DROW
variable {p : Program} {l : Launch} {e : Env} {R : Room} {s : State} {m : MethodId} {args : Array Value} {below : List Frame} {meth : Method} {c : Code} {H : Heap} {locs : List Loc} {mc ms : Nat} {Q : State → Prop}
variable {cc : ByteArray} {pc nL : Nat} {own : String} {ls : Array Slot} {rest st0 As : List Value} {D : va_G} {K : Nat → ClassId} {A : Nat → Prop} {b : Nat} {ad : Nat → Nat} {d d1 : dSt} {t1 : tSt}
variable {y : MethodName} {bytes : ByteArray} {maxL index : Nat} {ret : Option FieldType} {rm : Room}
variable {Z Y : Nat → Nat}
theorem k_newq {ws : va_W} {cells slots : Nat} {H0 : Heap} (C : kC p s m args c cc own nL D K) (hP : va_P D vwCl ws H) (hD : va_D A ws) (hS : va_S A H0 H locs) (hA : ∀ q, H0.size ≤ q → A q) (t0 : Nat) {atype : ArrayType} {ty : FieldType} (hty : newarray.typeOf atype = ty) (ht : (TY K)[t0]? = some (K t0, ty)) (hra : ∀ cA : ClassId, va_RA s cA ty = (s.vm.findClass ("[" ++ ty.toString) = some cA)) (harr : Cond.arrayClass (newarray.typeOf atype) ∈ wsL_law)
    {n : Int32} {N' : Nat} {a0 : vp_A} (ha : ∀ cA : ClassId, vp_cell cA a0 = arrV cA N' (fun _ => defaultValue ty)) (hn : ¬ n < 0) (hN : n.toNatClampNeg = N') (hbytes : N' * componentBytes ty ≤ 536870912) (hcells : cells + 1 ≤ R.cells) (hslots : slots + N' ≤ R.slots) (hdg : decode cc pc = .ok (.newarray atype, 2))
    (kk : ∀ (q : Nat) (_ : q = H.size) (H1 : Heap), va_P D vwCl (ws ++ [(q, .inl (K t0, a0))]) H1 → va_D A (ws ++ [(q, .inl (K t0, a0))]) → va_S A H0 H1 locs →
      W p l e R s m args below meth c H1 locs (cells + 1) (slots + N') Q (F0 m (pc + 2) ls (.ref q :: rest))) : W p l e R s m args below meth c H locs cells slots Q (F0 m pc ls (.int n :: rest)) := by
  subst hty
  refine va_newaK C.1 C.2.1 (C.2.2.2.2.1 _ harr) rfl hdg rfl hn hN hbytes hcells hslots rfl fun H1 cA e1 z1 o1 hAr hNm => ?_
  have h1 : va_RA s cA (newarray.typeOf atype) := by cases atype <;> exact hNm
  have h2 := (C.2.2.2.2.2.2 t0 _ ht).2
  rw [hra] at h1 h2
  have he : cA = K t0 := Option.some.inj (h1.symm.trans h2)
  subst he
  have hk : ∀ (k : Nat) (x : Nat × va_E), ws[k]? = some x → H1[x.1]? = H[x.1]? := fun k x hx => o1 x.1 ((hP k x hx).lt)
  refine kk H.size rfl H1 ((hP.kept hk).app (fun k x hx => ?_)) (hD.push hP rfl (hA _ hS.1)) ⟨Nat.le_trans hS.1 (by omega), fun x h1 h2 => (o1 x (Nat.lt_of_lt_of_le h1 hS.1)).trans (hS.2.1 x h1 h2), hS.2.2⟩
  have hz : k < 1 := (List.getElem?_eq_some_iff.mp hx).1
  rw [show k = 0 by omega] at hx
  cases hx
  show H1[H.size]? = some (vp_cell _ _)
  rw [ha]
  exact e1
theorem g_Diret (C : kC p s m args c cc own nL D K) {ty : FieldType} (hr : meth.sig.returnType = some ty) (hlocks : meth.locks = false) (hP : va_P D vwCl (WX d1 K ad t1) H) (hD : va_D A (WX d1 K ad t1)) (hS : va_S A s.heap H locs) {post : Int32 → tSt → dSt → Prop} {r : Int32} (hn : narrow ty (.int r) = .int r) (hpost : post r t1 d1) (hle : dLe d d1) (hdf : dFr s.heap.size d d1) (hc : 918 ≤ mc) (hsl : 246800 ≤ ms) (hdg : decode cc pc = .ok (.ireturn, 1)) :
    W p l e R s m args below meth c H locs (newC d d1) 246800 (MQ below (QDI D K ad d post s.heap.size A) args s mc ms A) (F0 m pc ls [.int r]) := by
  refine W.grown (fun h1 _ => ?_)
  refine W.keeps (fun hkp => ?_)
  refine W.widen (Nat.le_trans (newC_le _ _) hc) hsl ?_
  exact W.zret C.1 C.2.1 hr hn (fun t ht hW => ⟨⟨⟨r, (t1, d1), rfl, hpost, ⟨by rw [ht]; exact hP, va_K.moved hW.alike C.2.2.2.2.2, hD⟩, by rw [ht]; exact h1, hle, hdf⟩, hS.F ht⟩, by rw [ht]; exact hkp⟩) hS.2.2 hdg hlocks
theorem g_Dvret (C : kC p s m args c cc own nL D K) (hr : meth.sig.returnType = none) (hlocks : meth.locks = false) (hP : va_P D vwCl (WX d1 K ad t1) H) (hD : va_D A (WX d1 K ad t1)) (hS : va_S A s.heap H locs) {post : tSt → dSt → Prop} (hpost : post t1 d1) (hle : dLe d d1) (hdf : dFr s.heap.size d d1) (hc : 918 ≤ mc) (hsl : 246800 ≤ ms) (hdg : decode cc pc = .ok (.return_, 1)) :
    W p l e R s m args below meth c H locs (newC d d1) 246800 (MQ below (QDV D K ad d post s.heap.size A) args s mc ms A) (F0 m pc ls []) := by
  refine W.grown (fun h1 _ => ?_)
  refine W.keeps (fun hkp => ?_)
  refine W.widen (Nat.le_trans (newC_le _ _) hc) hsl ?_
  exact W.vret C.1 C.2.1 hr (fun t ht hW => ⟨⟨⟨(t1, d1), rfl, hpost, ⟨by rw [ht]; exact hP, va_K.moved hW.alike C.2.2.2.2.2, hD⟩, by rw [ht]; exact h1, hle, hdf⟩, hS.F ht⟩, by rw [ht]; exact hkp⟩) hS.2.2 hdg hlocks
theorem g_DVi (C : kC p s m args c cc own nL D K) (hP : va_P D vwCl (WX d1 K ad t1) H) (hD : va_D A (WX d1 K ad t1)) (hS : va_S A s.heap H locs) (hA : ∀ q, s.heap.size ≤ q → A q) {post : Int32 → tSt → dSt → Prop}
    (hM : dMet l y bytes maxL ret rm D K Z Y (.ref b :: As) (WX d1 K ad t1) (QDI D K ad d1 post) mc ms) (hE : XR Z s) (hZ : XQ Z Y A s s.heap) (hX : XX s) (hle : dLe d d1) (hdf : dFr s.heap.size d d1) {Cn : String} (hg : GoodIn wsL_law (wsV own index Cn y (uws y bytes maxL ret))) (hd : y.cls = Cn ∧ y.cls ≠ "java/lang/invoke/MethodHandle" ∧ y.cls ≠ "java/lang/invoke/VarHandle" ∧ (parseMethodDescriptor y.desc).map (fun d => d.parameters.length) = some As.length) (hR : rm.frames + 1 ≤ R.frames ∧ 8 + (maxL + 11) + rm.locals ≤ R.locals) (hrc : rm.cells = mc) (hrs : rm.slots = ms) {ci : Nat} {T : u_T} {N : Nat} {fs : List Value} (hc : vwCl[ci]? = some (Cn, T, N)) {q0 : Nat} (he : (WX d1 K ad t1)[q0]? = some (b, .inr (ci, fs)))
    (hst : st0 = As.reverse ++ .ref b :: rest) (hls : ls.size = nL) (hcat : (rest.map fun v => v.category).sum ≤ 8) (hdg : decode cc pc = .ok (.invokevirtual index, 3)) (hf : 918 + mc ≤ R.cells ∧ 246800 + ms ≤ R.slots)
    (kk : ∀ (r : Int32) (t2 : tSt) (d2 : dSt) (H1 : Heap) (locs1 : List Loc), post r t2 d2 → va_P D vwCl (WX d2 K ad t2) H1 → va_D A (WX d2 K ad t2) → va_S A s.heap H1 locs1 → dLe d1 d2 → dLe d d2 → dFr s.heap.size d d2 → W p l e R s m args below meth c H1 locs1 (newC d d2) 246800 Q (F0 m (pc + 3) ls (.int r :: rest))) : W p l e R s m args below meth c H locs (newC d d1) 246800 Q (F0 m pc ls st0) := by
  have hFc : ∀ q, va_A (WX d1 K ad t1) H.size q → A q := fun q h => h.elim (fun ⟨k, e, hk⟩ => hD.2 k _ hk) (fun h => hA q (Nat.le_trans hS.1 h))
  refine W.grown (fun h1 _ => ?_)
  refine va_calli (S := tSt × dSt) (post := fun r (u : tSt × dSt) => post r u.1 u.2) (B := BD D K ad d1 H.size (va_A (WX d1 K ad t1) H.size)) (va_Run_w (va_runV (As := As) (rest := rest) ⟨C.1, C.2.1, C.2.2.1, C.2.2.2.1, C.2.2.2.2.1⟩ (hM H.size) (cwV As.length C.2.2.2.2.1 hg rfl hrc hrs hd hR) ⟨preD_blind, va_recv C.2.2.2.2.2 hP hc he, preD_at C.2.2.2.2.2 hP hD hE hZ hX hS hFc⟩ rfl rfl hls hst (lv_room hcat) hdg ⟨Nat.le_trans (Nat.add_le_add_right (newC_le _ _) _) hf.1, hf.2⟩) (fun _ _ _ _ h => h.1)) hS (fun q _ h => hFc q h) hFc (fun r u t H1 locs1 ht hvm hw hB hz1 hk1 hS1 => ?_)
  obtain ⟨⟨hP1, hK1, hD1⟩, hsz, hl1, hf1⟩ := hB
  rw [ht] at hP1 hsz
  have hD2 : va_D A (WX u.2 K ad u.1) := ⟨hD1.1, fun k q h => hFc _ (hD1.2 k q h)⟩
  have hdf2 := dFr_tr hl1 hdf hf1 hS.1
  have hz2 : H1.size ≤ s.heap.size + newC d u.2 := by rw [newC_tr hle hl1]; omega
  exact W.tighten hz2 (late_sum hP1 hD2 hz2 hdf2) (kk r u.1 u.2 H1 locs1 hw hP1 hD2 hS1 hl1 (dLe_tr hle hl1) hdf2)
theorem g_DVv (C : kC p s m args c cc own nL D K) (hP : va_P D vwCl (WX d1 K ad t1) H) (hD : va_D A (WX d1 K ad t1)) (hS : va_S A s.heap H locs) (hA : ∀ q, s.heap.size ≤ q → A q) {post : tSt → dSt → Prop}
    (hM : dMet l y bytes maxL ret rm D K Z Y (.ref b :: As) (WX d1 K ad t1) (QDV D K ad d1 post) mc ms) (hE : XR Z s) (hZ : XQ Z Y A s s.heap) (hX : XX s) (hle : dLe d d1) (hdf : dFr s.heap.size d d1) {Cn : String} (hg : GoodIn wsL_law (wsV own index Cn y (uws y bytes maxL ret))) (hd : y.cls = Cn ∧ y.cls ≠ "java/lang/invoke/MethodHandle" ∧ y.cls ≠ "java/lang/invoke/VarHandle" ∧ (parseMethodDescriptor y.desc).map (fun d => d.parameters.length) = some As.length) (hR : rm.frames + 1 ≤ R.frames ∧ 8 + (maxL + 11) + rm.locals ≤ R.locals) (hrc : rm.cells = mc) (hrs : rm.slots = ms) {ci : Nat} {T : u_T} {N : Nat} {fs : List Value} (hc : vwCl[ci]? = some (Cn, T, N)) {q0 : Nat} (he : (WX d1 K ad t1)[q0]? = some (b, .inr (ci, fs)))
    (hst : st0 = As.reverse ++ .ref b :: rest) (hls : ls.size = nL) (hcat : (rest.map fun v => v.category).sum ≤ 8) (hdg : decode cc pc = .ok (.invokevirtual index, 3)) (hf : 918 + mc ≤ R.cells ∧ 246800 + ms ≤ R.slots)
    (kk : ∀ (t2 : tSt) (d2 : dSt) (H1 : Heap) (locs1 : List Loc), post t2 d2 → va_P D vwCl (WX d2 K ad t2) H1 → va_D A (WX d2 K ad t2) → va_S A s.heap H1 locs1 → dLe d1 d2 → dLe d d2 → dFr s.heap.size d d2 → W p l e R s m args below meth c H1 locs1 (newC d d2) 246800 Q (F0 m (pc + 3) ls (rest))) : W p l e R s m args below meth c H locs (newC d d1) 246800 Q (F0 m pc ls st0) := by
  have hFc : ∀ q, va_A (WX d1 K ad t1) H.size q → A q := fun q h => h.elim (fun ⟨k, e, hk⟩ => hD.2 k _ hk) (fun h => hA q (Nat.le_trans hS.1 h))
  refine W.grown (fun h1 _ => ?_)
  refine va_callv (S := tSt × dSt) (post := fun (u : tSt × dSt) => post u.1 u.2) (B := BD D K ad d1 H.size (va_A (WX d1 K ad t1) H.size)) (va_Run_w (va_runV (As := As) (rest := rest) ⟨C.1, C.2.1, C.2.2.1, C.2.2.2.1, C.2.2.2.2.1⟩ (hM H.size) (cwV As.length C.2.2.2.2.1 hg rfl hrc hrs hd hR) ⟨preD_blind, va_recv C.2.2.2.2.2 hP hc he, preD_at C.2.2.2.2.2 hP hD hE hZ hX hS hFc⟩ rfl rfl hls hst (lv_room hcat) hdg ⟨Nat.le_trans (Nat.add_le_add_right (newC_le _ _) _) hf.1, hf.2⟩) (fun _ _ _ _ h => h.1)) hS (fun q _ h => hFc q h) hFc (fun u t H1 locs1 ht hvm hw hB hz1 hk1 hS1 => ?_)
  obtain ⟨⟨hP1, hK1, hD1⟩, hsz, hl1, hf1⟩ := hB
  rw [ht] at hP1 hsz
  have hD2 : va_D A (WX u.2 K ad u.1) := ⟨hD1.1, fun k q h => hFc _ (hD1.2 k q h)⟩
  have hdf2 := dFr_tr hl1 hdf hf1 hS.1
  have hz2 : H1.size ≤ s.heap.size + newC d u.2 := by rw [newC_tr hle hl1]; omega
  exact W.tighten hz2 (late_sum hP1 hD2 hz2 hdf2) (kk u.1 u.2 H1 locs1 hw hP1 hD2 hS1 hl1 (dLe_tr hle hl1) hdf2)
theorem k_late0 (C : kC p s m args c cc own nL D K) (hP : va_P D vwCl (WX d1 K ad t1) H) (hD : va_D A (WX d1 K ad t1)) (hS : va_S A s.heap H locs) (hA : ∀ q, s.heap.size ≤ q → A q) (hX : XX s) (hle : dLe d d1) (hdf : dFr s.heap.size d d1) (harr : Cond.arrayClass (newarray.typeOf .byte) ∈ wsL_law) {i : Int32} (hin : vp_in i 300) (hno : d1.1 (0 + i.toNatClampNeg) = none) (hR : 918 ≤ R.cells ∧ 280000 ≤ R.slots) (hdg : decode cc pc = .ok (.newarray .byte, 2)) (hdg1 : decode cc (pc + 2) = .ok (.aastore, 1))
    (kk : ∀ (q : Nat) (H1 : Heap) (locs1 : List Loc), va_P D vwCl (WX (nD d1 (0 + i.toNatClampNeg) q) K ad t1) H1 → va_D A (WX (nD d1 (0 + i.toNatClampNeg) q) K ad t1) → va_S A s.heap H1 locs1 → dLe d (nD d1 (0 + i.toNatClampNeg) q) → dFr s.heap.size d (nD d1 (0 + i.toNatClampNeg) q) → W p l e R s m args below meth c H1 locs1 (newC d (nD d1 (0 + i.toNatClampNeg) q)) 246800 Q (F0 m (pc + 3) ls rest)) : W p l e R s m args below meth c H locs (newC d d1) 246800 Q (F0 m pc ls (.int 120 :: .int i :: .ref (ad 32) :: rest)) := by
  have hlt : i.toNatClampNeg < 300 := Nat.not_le.mp fun q => hin (Or.inr q)
  have hk : 0 + i.toNatClampNeg < 918 := by omega
  have hc1 : ∀ q, newC d (nD d1 (0 + i.toNatClampNeg) q) = newC d d1 + 1 := fun q => by rw [newC_tr hle (nD_le hno), nD_one hk hno]
  refine k_newq (atype := .byte) (ty := .byte) (a0 := (120, .inl (fun _ => 0))) C hP hD hS hA 2 rfl rfl (fun _ => rfl) harr (fun _ => rfl) (by decide) (by decide) (by decide) (by rw [← hc1 0]; exact Nat.le_trans (newC_le _ _) hR.1) (Nat.le_trans (Nat.le_of_ble_eq_true rfl) hR.2) hdg (fun q hqe H1 hP1 hD1 hS1 => ?_)
  have hq : s.heap.size ≤ q := by rw [hqe]; exact hS.1
  refine k_ast C hP1 hD1 hS1 32 4 (WX d1 K ad t1).length 2 rfl rfl (by rw [List.getElem?_append_right (Nat.le_refl _), Nat.sub_self]; rfl) rfl rfl hX.2.2.1 hin rfl rfl hdg1 (fun H2 locs2 hP2 hD2 hS2 => ?_)
  have hp := WX_new0 (K := K) (ad := ad) (t := t1) (q := q) hlt hno
  have hP3 := va_P_perm hP2 hp
  have hD3 := va_D_perm hD2 hp
  have hle3 := dLe_tr hle (nD_le (q := q) hno)
  have hdf3 := dFr_tr (nD_le (q := q) hno) hdf (nD_fr hq) (Nat.le_refl _)
  refine W.grown (fun h1 _ => ?_)
  rw [← hc1 q] at h1
  exact W.tighten h1 (late_sum hP3 hD3 h1 hdf3) (kk q H2 locs2 hP3 hD3 hS2 hle3 hdf3)
theorem k_late300 (C : kC p s m args c cc own nL D K) (hP : va_P D vwCl (WX d1 K ad t1) H) (hD : va_D A (WX d1 K ad t1)) (hS : va_S A s.heap H locs) (hA : ∀ q, s.heap.size ≤ q → A q) (hX : XX s) (hle : dLe d d1) (hdf : dFr s.heap.size d d1) (harr : Cond.arrayClass (newarray.typeOf .byte) ∈ wsL_law) {i : Int32} (hin : vp_in i 300) (hno : d1.1 (300 + i.toNatClampNeg) = none) (hR : 918 ≤ R.cells ∧ 280000 ≤ R.slots) (hdg : decode cc pc = .ok (.newarray .byte, 2)) (hdg1 : decode cc (pc + 2) = .ok (.aastore, 1))
    (kk : ∀ (q : Nat) (H1 : Heap) (locs1 : List Loc), va_P D vwCl (WX (nD d1 (300 + i.toNatClampNeg) q) K ad t1) H1 → va_D A (WX (nD d1 (300 + i.toNatClampNeg) q) K ad t1) → va_S A s.heap H1 locs1 → dLe d (nD d1 (300 + i.toNatClampNeg) q) → dFr s.heap.size d (nD d1 (300 + i.toNatClampNeg) q) → W p l e R s m args below meth c H1 locs1 (newC d (nD d1 (300 + i.toNatClampNeg) q)) 246800 Q (F0 m (pc + 3) ls rest)) : W p l e R s m args below meth c H locs (newC d d1) 246800 Q (F0 m pc ls (.int 120 :: .int i :: .ref (ad 35) :: rest)) := by
  have hlt : i.toNatClampNeg < 300 := Nat.not_le.mp fun q => hin (Or.inr q)
  have hk : 300 + i.toNatClampNeg < 918 := by omega
  have hc1 : ∀ q, newC d (nD d1 (300 + i.toNatClampNeg) q) = newC d d1 + 1 := fun q => by rw [newC_tr hle (nD_le hno), nD_one hk hno]
  refine k_newq (atype := .byte) (ty := .byte) (a0 := (120, .inl (fun _ => 0))) C hP hD hS hA 2 rfl rfl (fun _ => rfl) harr (fun _ => rfl) (by decide) (by decide) (by decide) (by rw [← hc1 0]; exact Nat.le_trans (newC_le _ _) hR.1) (Nat.le_trans (Nat.le_of_ble_eq_true rfl) hR.2) hdg (fun q hqe H1 hP1 hD1 hS1 => ?_)
  have hq : s.heap.size ≤ q := by rw [hqe]; exact hS.1
  refine k_ast C hP1 hD1 hS1 35 4 (WX d1 K ad t1).length 2 rfl rfl (by rw [List.getElem?_append_right (Nat.le_refl _), Nat.sub_self]; rfl) rfl rfl hX.2.2.1 hin rfl rfl hdg1 (fun H2 locs2 hP2 hD2 hS2 => ?_)
  have hp := WX_new300 (K := K) (ad := ad) (t := t1) (q := q) hlt hno
  have hP3 := va_P_perm hP2 hp
  have hD3 := va_D_perm hD2 hp
  have hle3 := dLe_tr hle (nD_le (q := q) hno)
  have hdf3 := dFr_tr (nD_le (q := q) hno) hdf (nD_fr hq) (Nat.le_refl _)
  refine W.grown (fun h1 _ => ?_)
  rw [← hc1 q] at h1
  exact W.tighten h1 (late_sum hP3 hD3 h1 hdf3) (kk q H2 locs2 hP3 hD3 hS2 hle3 hdf3)
theorem k_late600 (C : kC p s m args c cc own nL D K) (hP : va_P D vwCl (WX d1 K ad t1) H) (hD : va_D A (WX d1 K ad t1)) (hS : va_S A s.heap H locs) (hA : ∀ q, s.heap.size ≤ q → A q) (hX : XX s) (hle : dLe d d1) (hdf : dFr s.heap.size d d1) (harr : Cond.arrayClass (newarray.typeOf .byte) ∈ wsL_law) {i : Int32} (hin : vp_in i 300) (hno : d1.1 (600 + i.toNatClampNeg) = none) (hR : 918 ≤ R.cells ∧ 280000 ≤ R.slots) (hdg : decode cc pc = .ok (.newarray .byte, 2)) (hdg1 : decode cc (pc + 2) = .ok (.aastore, 1))
    (kk : ∀ (q : Nat) (H1 : Heap) (locs1 : List Loc), va_P D vwCl (WX (nD d1 (600 + i.toNatClampNeg) q) K ad t1) H1 → va_D A (WX (nD d1 (600 + i.toNatClampNeg) q) K ad t1) → va_S A s.heap H1 locs1 → dLe d (nD d1 (600 + i.toNatClampNeg) q) → dFr s.heap.size d (nD d1 (600 + i.toNatClampNeg) q) → W p l e R s m args below meth c H1 locs1 (newC d (nD d1 (600 + i.toNatClampNeg) q)) 246800 Q (F0 m (pc + 3) ls rest)) : W p l e R s m args below meth c H locs (newC d d1) 246800 Q (F0 m pc ls (.int 120 :: .int i :: .ref (ad 38) :: rest)) := by
  have hlt : i.toNatClampNeg < 300 := Nat.not_le.mp fun q => hin (Or.inr q)
  have hk : 600 + i.toNatClampNeg < 918 := by omega
  have hc1 : ∀ q, newC d (nD d1 (600 + i.toNatClampNeg) q) = newC d d1 + 1 := fun q => by rw [newC_tr hle (nD_le hno), nD_one hk hno]
  refine k_newq (atype := .byte) (ty := .byte) (a0 := (120, .inl (fun _ => 0))) C hP hD hS hA 2 rfl rfl (fun _ => rfl) harr (fun _ => rfl) (by decide) (by decide) (by decide) (by rw [← hc1 0]; exact Nat.le_trans (newC_le _ _) hR.1) (Nat.le_trans (Nat.le_of_ble_eq_true rfl) hR.2) hdg (fun q hqe H1 hP1 hD1 hS1 => ?_)
  have hq : s.heap.size ≤ q := by rw [hqe]; exact hS.1
  refine k_ast C hP1 hD1 hS1 38 4 (WX d1 K ad t1).length 2 rfl rfl (by rw [List.getElem?_append_right (Nat.le_refl _), Nat.sub_self]; rfl) rfl rfl hX.2.2.1 hin rfl rfl hdg1 (fun H2 locs2 hP2 hD2 hS2 => ?_)
  have hp := WX_new600 (K := K) (ad := ad) (t := t1) (q := q) hlt hno
  have hP3 := va_P_perm hP2 hp
  have hD3 := va_D_perm hD2 hp
  have hle3 := dLe_tr hle (nD_le (q := q) hno)
  have hdf3 := dFr_tr (nD_le (q := q) hno) hdf (nD_fr hq) (Nat.le_refl _)
  refine W.grown (fun h1 _ => ?_)
  rw [← hc1 q] at h1
  exact W.tighten h1 (late_sum hP3 hD3 h1 hdf3) (kk q H2 locs2 hP3 hD3 hS2 hle3 hdf3)
theorem k_late900 (C : kC p s m args c cc own nL D K) (hP : va_P D vwCl (WX d1 K ad t1) H) (hD : va_D A (WX d1 K ad t1)) (hS : va_S A s.heap H locs) (hA : ∀ q, s.heap.size ≤ q → A q) (hX : XX s) (hle : dLe d d1) (hdf : dFr s.heap.size d d1) (harr : Cond.arrayClass (newarray.typeOf .int) ∈ wsL_law) {i : Int32} (hin : vp_in i 16) (hno : d1.1 (900 + i.toNatClampNeg) = none) (hR : 918 ≤ R.cells ∧ 280000 ≤ R.slots) (hdg : decode cc pc = .ok (.newarray .int, 2)) (hdg1 : decode cc (pc + 2) = .ok (.aastore, 1))
    (kk : ∀ (q : Nat) (H1 : Heap) (locs1 : List Loc), va_P D vwCl (WX (nD d1 (900 + i.toNatClampNeg) q) K ad t1) H1 → va_D A (WX (nD d1 (900 + i.toNatClampNeg) q) K ad t1) → va_S A s.heap H1 locs1 → dLe d (nD d1 (900 + i.toNatClampNeg) q) → dFr s.heap.size d (nD d1 (900 + i.toNatClampNeg) q) → W p l e R s m args below meth c H1 locs1 (newC d (nD d1 (900 + i.toNatClampNeg) q)) 246800 Q (F0 m (pc + 3) ls rest)) : W p l e R s m args below meth c H locs (newC d d1) 246800 Q (F0 m pc ls (.int 6400 :: .int i :: .ref (ad 11) :: rest)) := by
  have hlt : i.toNatClampNeg < 16 := Nat.not_le.mp fun q => hin (Or.inr q)
  have hk : 900 + i.toNatClampNeg < 918 := by omega
  have hc1 : ∀ q, newC d (nD d1 (900 + i.toNatClampNeg) q) = newC d d1 + 1 := fun q => by rw [newC_tr hle (nD_le hno), nD_one hk hno]
  refine k_newq (atype := .int) (ty := .int) (a0 := (6400, .inl (fun _ => 0))) C hP hD hS hA 0 rfl rfl (fun _ => rfl) harr (fun _ => rfl) (by decide) (by decide) (by decide) (by rw [← hc1 0]; exact Nat.le_trans (newC_le _ _) hR.1) (Nat.le_trans (Nat.le_of_ble_eq_true rfl) hR.2) hdg (fun q hqe H1 hP1 hD1 hS1 => ?_)
  have hq : s.heap.size ≤ q := by rw [hqe]; exact hS.1
  refine k_ast C hP1 hD1 hS1 11 5 (WX d1 K ad t1).length 0 rfl rfl (by rw [List.getElem?_append_right (Nat.le_refl _), Nat.sub_self]; rfl) rfl rfl hX.2.2.2 hin rfl rfl hdg1 (fun H2 locs2 hP2 hD2 hS2 => ?_)
  have hp := WX_new900 (K := K) (ad := ad) (t := t1) (q := q) hlt hno
  have hP3 := va_P_perm hP2 hp
  have hD3 := va_D_perm hD2 hp
  have hle3 := dLe_tr hle (nD_le (q := q) hno)
  have hdf3 := dFr_tr (nD_le (q := q) hno) hdf (nD_fr hq) (Nat.le_refl _)
  refine W.grown (fun h1 _ => ?_)
  rw [← hc1 q] at h1
  exact W.tighten h1 (late_sum hP3 hD3 h1 hdf3) (kk q H2 locs2 hP3 hD3 hS2 hle3 hdf3)
theorem WX_new916 {K : Nat → ClassId} {ad : Nat → Nat} {t1 : tSt} {d : dSt} {q : Nat} (h : d.1 916 = none) : ((WX d K ad t1 ++ ([(q, .inl (K 2, 32400, .inl (fun _ => 0)))] : va_W)).set 18 (ad 18, .inr (5, [.ref q, .int (t1.1 18 1), .int (t1.1 18 2), .int (t1.1 18 3)]))).Perm (WX (nD d 916 q) K ad t1) := by
  have hq := dyn_new (K := K) (d := d) (k := 916) (q := q) (by omega) h
  rw [show dKd 916 = 2 from rfl, show dN 916 = 32400 from rfl] at hq
  have e1 : (WX d K ad t1 ++ ([(q, .inl (K 2, 32400, .inl (fun _ => 0)))] : va_W)).set 18 (ad 18, .inr (5, [.ref q, .int (t1.1 18 1), .int (t1.1 18 2), .int (t1.1 18 3)])) = SX (.ref q) (va_rf (d.1 917)) (dR d 0 300) (dR d 300 300) (dR d 600 300) (dR d 900 16) K ad t1 ++ (dynW K d ++ ([(q, .inl (K 2, 32400, .inl (fun _ => 0)))] : va_W)) := by
    show ((SX _ _ _ _ _ _ K ad t1 ++ dynW K d) ++ _).set 18 _ = _
    rw [List.append_assoc, List.set_append_left _ _ (by rw [SX_len]; decide)]
    rfl
  rw [e1]
  show (SX _ _ _ _ _ _ K ad t1 ++ _).Perm (SX _ _ _ _ _ _ K ad t1 ++ _)
  rw [nD_at, ← n1_no (d := d) (k := 916) (q := q) (j := 917) (by omega), ← dR_no (d := d) (b := 0) (n := 300) (k := 916) (q := q) (by omega), ← dR_no (d := d) (b := 300) (n := 300) (k := 916) (q := q) (by omega), ← dR_no (d := d) (b := 600) (n := 300) (k := 916) (q := q) (by omega), ← dR_no (d := d) (b := 900) (n := 16) (k := 916) (q := q) (by omega)]
  exact List.Perm.append_left _ hq
theorem k_late916 (C : kC p s m args c cc own nL D K) (hP : va_P D vwCl (WX d1 K ad t1) H) (hD : va_D A (WX d1 K ad t1)) (hS : va_S A s.heap H locs) (hA : ∀ q, s.heap.size ≤ q → A q) (hle : dLe d d1) (hdf : dFr s.heap.size d d1) (harr : Cond.arrayClass (newarray.typeOf .byte) ∈ wsL_law) (hl : Cond.fieldLink own index "SixBitBoard$Reader" "pool" "[B" ∈ wsL_law) (hno : d1.1 916 = none) (hR : 918 ≤ R.cells ∧ 280000 ≤ R.slots) (hdg : decode cc pc = .ok (.newarray .byte, 2)) (hdg1 : decode cc (pc + 2) = .ok (.putfield index, 3))
    (kk : ∀ (q : Nat) (H1 : Heap) (locs1 : List Loc), va_P D vwCl (WX (nD d1 916 q) K ad t1) H1 → va_D A (WX (nD d1 916 q) K ad t1) → va_S A s.heap H1 locs1 → dLe d (nD d1 916 q) → dFr s.heap.size d (nD d1 916 q) → W p l e R s m args below meth c H1 locs1 (newC d (nD d1 916 q)) 246800 Q (F0 m (pc + 5) ls rest)) : W p l e R s m args below meth c H locs (newC d d1) 246800 Q (F0 m pc ls (.int 32400 :: .ref (ad 18) :: rest)) := by
  have hc1 : ∀ q, newC d (nD d1 916 q) = newC d d1 + 1 := fun q => by rw [newC_tr hle (nD_le hno), nD_one (by omega) hno]
  refine k_newq (atype := .byte) (ty := .byte) (a0 := (32400, .inl (fun _ => 0))) C hP hD hS hA 2 rfl rfl (fun _ => rfl) harr (fun _ => rfl) (by decide) (by decide) (by decide) (by rw [← hc1 0]; exact Nat.le_trans (newC_le _ _) hR.1) (Nat.le_trans (Nat.le_of_ble_eq_true rfl) hR.2) hdg (fun q hqe H1 hP1 hD1 hS1 => ?_)
  have hq : s.heap.size ≤ q := by rw [hqe]; exact hS.1
  refine k_put (v := .ref q) (fs := [va_rf (d1.1 916), .int (t1.1 18 1), .int (t1.1 18 2), .int (t1.1 18 3)]) C hP1 hD1 hS1 18 rfl rfl inlX6 tyX6_ok nmX6 0 (by decide) hl rfl rfl rfl rfl rfl hdg1 (fun H2 locs2 hP2 hD2 hS2 => ?_)
  have hp := WX_new916 (K := K) (ad := ad) (t1 := t1) (q := q) hno
  have hP3 := va_P_perm hP2 hp
  have hD3 := va_D_perm hD2 hp
  have hle3 := dLe_tr hle (nD_le (q := q) hno)
  have hdf3 := dFr_tr (nD_le (q := q) hno) hdf (nD_fr hq) (Nat.le_refl _)
  refine W.grown (fun h1 _ => ?_)
  rw [← hc1 q] at h1
  exact W.tighten h1 (late_sum hP3 hD3 h1 hdf3) (kk q H2 locs2 hP3 hD3 hS2 hle3 hdf3)
theorem WX_new917 {K : Nat → ClassId} {ad : Nat → Nat} {t1 : tSt} {d : dSt} {q : Nat} (h : d.1 917 = none) : ((WX d K ad t1 ++ ([(q, .inl (K 0, 4000, .inl (fun _ => 0)))] : va_W)).set 7 (ad 7, .inr (2, [.ref (ad 29), .ref (ad 30), .int (t1.1 7 2), .int (t1.1 7 3), .int (t1.1 7 4), .int (t1.1 7 5), .int (t1.1 7 6), .int (t1.1 7 7), .int (t1.1 7 8), .int (t1.1 7 9), .int (t1.1 7 10), .ref (ad 31), .int (t1.1 7 12), .ref q, .int (t1.1 7 14), .int (t1.1 7 15)]))).Perm (WX (nD d 917 q) K ad t1) := by
  have hq := dyn_new (K := K) (d := d) (k := 917) (q := q) (by omega) h
  rw [show dKd 917 = 0 from rfl, show dN 917 = 4000 from rfl] at hq
  have e1 : (WX d K ad t1 ++ ([(q, .inl (K 0, 4000, .inl (fun _ => 0)))] : va_W)).set 7 (ad 7, .inr (2, [.ref (ad 29), .ref (ad 30), .int (t1.1 7 2), .int (t1.1 7 3), .int (t1.1 7 4), .int (t1.1 7 5), .int (t1.1 7 6), .int (t1.1 7 7), .int (t1.1 7 8), .int (t1.1 7 9), .int (t1.1 7 10), .ref (ad 31), .int (t1.1 7 12), .ref q, .int (t1.1 7 14), .int (t1.1 7 15)])) = SX (va_rf (d.1 916)) (.ref q) (dR d 0 300) (dR d 300 300) (dR d 600 300) (dR d 900 16) K ad t1 ++ (dynW K d ++ ([(q, .inl (K 0, 4000, .inl (fun _ => 0)))] : va_W)) := by
    show ((SX _ _ _ _ _ _ K ad t1 ++ dynW K d) ++ _).set 7 _ = _
    rw [List.append_assoc, List.set_append_left _ _ (by rw [SX_len]; decide)]
    rfl
  rw [e1]
  show (SX _ _ _ _ _ _ K ad t1 ++ _).Perm (SX _ _ _ _ _ _ K ad t1 ++ _)
  rw [nD_at, ← n1_no (d := d) (k := 917) (q := q) (j := 916) (by omega), ← dR_no (d := d) (b := 0) (n := 300) (k := 917) (q := q) (by omega), ← dR_no (d := d) (b := 300) (n := 300) (k := 917) (q := q) (by omega), ← dR_no (d := d) (b := 600) (n := 300) (k := 917) (q := q) (by omega), ← dR_no (d := d) (b := 900) (n := 16) (k := 917) (q := q) (by omega)]
  exact List.Perm.append_left _ hq
theorem k_late917 (C : kC p s m args c cc own nL D K) (hP : va_P D vwCl (WX d1 K ad t1) H) (hD : va_D A (WX d1 K ad t1)) (hS : va_S A s.heap H locs) (hA : ∀ q, s.heap.size ≤ q → A q) (hle : dLe d d1) (hdf : dFr s.heap.size d d1) (harr : Cond.arrayClass (newarray.typeOf .int) ∈ wsL_law) (hl : Cond.fieldLink own index "SixBitBoard$Monitor" "image" "[I" ∈ wsL_law) (hno : d1.1 917 = none) (hR : 918 ≤ R.cells ∧ 280000 ≤ R.slots) (hdg : decode cc pc = .ok (.newarray .int, 2)) (hdg1 : decode cc (pc + 2) = .ok (.putfield index, 3))
    (kk : ∀ (q : Nat) (H1 : Heap) (locs1 : List Loc), va_P D vwCl (WX (nD d1 917 q) K ad t1) H1 → va_D A (WX (nD d1 917 q) K ad t1) → va_S A s.heap H1 locs1 → dLe d (nD d1 917 q) → dFr s.heap.size d (nD d1 917 q) → W p l e R s m args below meth c H1 locs1 (newC d (nD d1 917 q)) 246800 Q (F0 m (pc + 5) ls rest)) : W p l e R s m args below meth c H locs (newC d d1) 246800 Q (F0 m pc ls (.int 4000 :: .ref (ad 7) :: rest)) := by
  have hc1 : ∀ q, newC d (nD d1 917 q) = newC d d1 + 1 := fun q => by rw [newC_tr hle (nD_le hno), nD_one (by omega) hno]
  refine k_newq (atype := .int) (ty := .int) (a0 := (4000, .inl (fun _ => 0))) C hP hD hS hA 0 rfl rfl (fun _ => rfl) harr (fun _ => rfl) (by decide) (by decide) (by decide) (by rw [← hc1 0]; exact Nat.le_trans (newC_le _ _) hR.1) (Nat.le_trans (Nat.le_of_ble_eq_true rfl) hR.2) hdg (fun q hqe H1 hP1 hD1 hS1 => ?_)
  have hq : s.heap.size ≤ q := by rw [hqe]; exact hS.1
  refine k_put (v := .ref q) (fs := [.ref (ad 29), .ref (ad 30), .int (t1.1 7 2), .int (t1.1 7 3), .int (t1.1 7 4), .int (t1.1 7 5), .int (t1.1 7 6), .int (t1.1 7 7), .int (t1.1 7 8), .int (t1.1 7 9), .int (t1.1 7 10), .ref (ad 31), .int (t1.1 7 12), va_rf (d1.1 917), .int (t1.1 7 14), .int (t1.1 7 15)]) C hP1 hD1 hS1 7 rfl rfl inlX3 tyX3_ok nmX3 13 (by decide) hl rfl rfl rfl rfl rfl hdg1 (fun H2 locs2 hP2 hD2 hS2 => ?_)
  have hp := WX_new917 (K := K) (ad := ad) (t1 := t1) (q := q) hno
  have hP3 := va_P_perm hP2 hp
  have hD3 := va_D_perm hD2 hp
  have hle3 := dLe_tr hle (nD_le (q := q) hno)
  have hdf3 := dFr_tr (nD_le (q := q) hno) hdf (nD_fr hq) (Nat.le_refl _)
  refine W.grown (fun h1 _ => ?_)
  rw [← hc1 q] at h1
  exact W.tighten h1 (late_sum hP3 hD3 h1 hdf3) (kk q H2 locs2 hP3 hD3 hS2 hle3 hdf3)
end DROW

theorem opt_or (o : Option Nat) : o = none ∨ ∃ a, o = some a := by
  cases o with
  | none => exact Or.inl rfl
  | some a => exact Or.inr ⟨a, rfl⟩
theorem rf_eq {d : dSt} {k a : Nat} (h : d.1 k = some a) : some (va_rf (d.1 k)) = some (Value.ref a) := by rw [h]; rfl
theorem vin_lt {i : Int32} {n : Nat} (h : vp_in i n) : i.toNatClampNeg < n := Nat.not_le.mp fun q => h (Or.inr q)
theorem rf_n {d : dSt} {b n : Nat} {i : Int32} (hin : vp_in i n) : va_rf (dR d b n i.toNatClampNeg) = va_rf (d.1 (b + i.toNatClampNeg)) := by
  unfold dR; rw [if_pos (vin_lt hin)]
theorem rf_at {d : dSt} {b n a : Nat} {i : Int32} (hin : vp_in i n) (h : d.1 (b + i.toNatClampNeg) = some a) : va_rf (dR d b n i.toNatClampNeg) = .ref a := by
  rw [rf_n hin, h]; rfl
theorem okD_n {d : dSt} {k q : Nat} (h : okD d) : okD (nD d k q) := by
  intro i
  by_cases e : 916 = k
  · have e1 : (nD d k q).2 916 = (fun _ => (0 : Int32)) := if_pos e
    rw [e1]
    exact (show (-128 : Int) ≤ (0 : Int32).toInt ∧ (0 : Int32).toInt ≤ 127 from ⟨by decide, by decide⟩)
  · have e1 : (nD d k q).2 916 = d.2 916 := if_neg e
    rw [e1]
    exact h i
theorem okD_c {d : dSt} {k : Nat} {f : Nat → Int32} (h : okD d) (hk : ¬ 916 = k) : okD (cD d k f) := by
  intro i
  have e1 : (cD d k f).2 916 = d.2 916 := if_neg hk
  rw [e1]
  exact h i
theorem okD_c9 {d : dSt} {f : Nat → Int32} (h : ∀ i, (-128 : Int) ≤ (f i).toInt ∧ (f i).toInt ≤ 127) : okD (cD d 916 f) := h
theorem upd_r {f : Nat → Int32} {k : Nat} {v : Int32} (h : ∀ i, (-128 : Int) ≤ (f i).toInt ∧ (f i).toInt ≤ 127) (hv : (-128 : Int) ≤ v.toInt ∧ v.toInt ≤ 127) : ∀ i, (-128 : Int) ≤ (upd f k v i).toInt ∧ (upd f k v i).toInt ≤ 127 := by
  intro i
  by_cases e : i = k
  · subst e; rw [pk_us]; exact hv
  · rw [pk_un e]; exact h i
theorem WX_at0 {K : Nat → ClassId} {ad : Nat → Nat} {t : tSt} {d : dSt} {i a : Nat} (hi : i < 300) (h : d.1 (0 + i) = some a) : ∃ q, (WX d K ad t)[q]? = some (a, .inl (K 2, 120, .inl (d.2 (0 + i)))) ∧ ∀ f, (WX d K ad t).set q (a, .inl (K 2, 120, .inl f)) = WX (cD d (0 + i) f) K ad t := by
  have hk : dKd (0 + i) = 2 ∧ dN (0 + i) = 120 := by unfold dKd dN; constructor <;> (repeat' split) <;> omega
  have h1 := WX_pos (K := K) (ad := ad) (t := t) (k := 0 + i) (by omega) h
  rw [hk.1, hk.2] at h1
  exact h1
theorem WX_at300 {K : Nat → ClassId} {ad : Nat → Nat} {t : tSt} {d : dSt} {i a : Nat} (hi : i < 300) (h : d.1 (300 + i) = some a) : ∃ q, (WX d K ad t)[q]? = some (a, .inl (K 2, 120, .inl (d.2 (300 + i)))) ∧ ∀ f, (WX d K ad t).set q (a, .inl (K 2, 120, .inl f)) = WX (cD d (300 + i) f) K ad t := by
  have hk : dKd (300 + i) = 2 ∧ dN (300 + i) = 120 := by unfold dKd dN; constructor <;> (repeat' split) <;> omega
  have h1 := WX_pos (K := K) (ad := ad) (t := t) (k := 300 + i) (by omega) h
  rw [hk.1, hk.2] at h1
  exact h1
theorem WX_at600 {K : Nat → ClassId} {ad : Nat → Nat} {t : tSt} {d : dSt} {i a : Nat} (hi : i < 300) (h : d.1 (600 + i) = some a) : ∃ q, (WX d K ad t)[q]? = some (a, .inl (K 2, 120, .inl (d.2 (600 + i)))) ∧ ∀ f, (WX d K ad t).set q (a, .inl (K 2, 120, .inl f)) = WX (cD d (600 + i) f) K ad t := by
  have hk : dKd (600 + i) = 2 ∧ dN (600 + i) = 120 := by unfold dKd dN; constructor <;> (repeat' split) <;> omega
  have h1 := WX_pos (K := K) (ad := ad) (t := t) (k := 600 + i) (by omega) h
  rw [hk.1, hk.2] at h1
  exact h1
theorem WX_at900 {K : Nat → ClassId} {ad : Nat → Nat} {t : tSt} {d : dSt} {i a : Nat} (hi : i < 16) (h : d.1 (900 + i) = some a) : ∃ q, (WX d K ad t)[q]? = some (a, .inl (K 0, 6400, .inl (d.2 (900 + i)))) ∧ ∀ f, (WX d K ad t).set q (a, .inl (K 0, 6400, .inl f)) = WX (cD d (900 + i) f) K ad t := by
  have hk : dKd (900 + i) = 0 ∧ dN (900 + i) = 6400 := by unfold dKd dN; constructor <;> (repeat' split) <;> omega
  have h1 := WX_pos (K := K) (ad := ad) (t := t) (k := 900 + i) (by omega) h
  rw [hk.1, hk.2] at h1
  exact h1
theorem WX_at916 {K : Nat → ClassId} {ad : Nat → Nat} {t : tSt} {d : dSt} {a : Nat} (h : d.1 916 = some a) : ∃ q, (WX d K ad t)[q]? = some (a, .inl (K 2, 32400, .inl (d.2 916))) ∧ ∀ f, (WX d K ad t).set q (a, .inl (K 2, 32400, .inl f)) = WX (cD d 916 f) K ad t := WX_pos (by omega) h
theorem WX_at917 {K : Nat → ClassId} {ad : Nat → Nat} {t : tSt} {d : dSt} {a : Nat} (h : d.1 917 = some a) : ∃ q, (WX d K ad t)[q]? = some (a, .inl (K 0, 4000, .inl (d.2 917))) ∧ ∀ f, (WX d K ad t).set q (a, .inl (K 0, 4000, .inl f)) = WX (cD d 917 f) K ad t := WX_pos (by omega) h
section NUL
variable {p : Program} {l : Launch} {e : Env} {R : Room} {s : State} {m : MethodId} {args : Array Value} {below : List Frame} {meth : Method} {c : Code} {H : Heap} {locs : List Loc} {cells slots pc : Nat} {Q : State → Prop} {cc : ByteArray} {ls : Array Slot} {rest : List Value} {o : Option Nat}
theorem n_ifnonnullS (hexec : p.tables.exec = Jvm.exec) (hb : c.code = cc) {x : Nat} (ho : o = some x) {off : Int} {tgt : Nat} (hdg : decode cc pc = .ok (.ifnonnull off, 3)) (ht : (pc : Int) + off = (tgt : Int)) (k : W p l e R s m args below meth c H locs cells slots Q (F0 m tgt ls rest)) : W p l e R s m args below meth c H locs cells slots Q (F0 m pc ls (va_rf o :: rest)) := by
  subst ho; exact lv_ifnonnull hexec hb hdg ht k
theorem n_ifnonnullN (hexec : p.tables.exec = Jvm.exec) (hb : c.code = cc) (ho : o = none) {off : Int} (hdg : decode cc pc = .ok (.ifnonnull off, 3)) (k : W p l e R s m args below meth c H locs cells slots Q (F0 m (pc + 3) ls rest)) : W p l e R s m args below meth c H locs cells slots Q (F0 m pc ls (va_rf o :: rest)) := by
  subst ho; exact lv_ifnonnullN hexec hb hdg k
theorem n_ifnullN (hexec : p.tables.exec = Jvm.exec) (hb : c.code = cc) (ho : o = none) {off : Int} {tgt : Nat} (hdg : decode cc pc = .ok (.ifnull off, 3)) (ht : (pc : Int) + off = (tgt : Int)) (k : W p l e R s m args below meth c H locs cells slots Q (F0 m tgt ls rest)) : W p l e R s m args below meth c H locs cells slots Q (F0 m pc ls (va_rf o :: rest)) := by
  subst ho; exact lv_ifnullN hexec hb hdg ht k
theorem n_ifnullS (hexec : p.tables.exec = Jvm.exec) (hb : c.code = cc) {x : Nat} (ho : o = some x) {off : Int} (hdg : decode cc pc = .ok (.ifnull off, 3)) (k : W p l e R s m args below meth c H locs cells slots Q (F0 m (pc + 3) ls rest)) : W p l e R s m args below meth c H locs cells slots Q (F0 m pc ls (va_rf o :: rest)) := by
  subst ho; exact lv_ifnull hexec hb hdg k
end NUL
section HCALL
variable {p : Program} {l : Launch} {e : Env} {R : Room} {s : State} {m : MethodId} {args : Array Value} {below : List Frame} {meth : Method} {c : Code} {H : Heap} {locs : List Loc} {cells slots : Nat} {Q : State → Prop}
variable {cc : ByteArray} {pc nL : Nat} {own : String} {ls : Array Slot} {rest st0 As : List Value} {D : va_G} {K : Nat → ClassId} {A : Nat → Prop} {b : Nat} {ws wc wr : va_W} {H0 : Heap} {S : Type} {W' : S → va_W}
variable {y : MethodName} {bytes : ByteArray} {maxL index : Nat} {ret : Option FieldType} {rm : Room} {X : State → Prop}
variable {Z Y : Nat → Nat}
theorem hz_Vi (C : kC p s m args c cc own nL D K) (hP : va_P D vwCl ws H) (hD : va_D A ws) (hS : va_S A s.heap H locs) (hA : ∀ q, s.heap.size ≤ q → A q) {post : Int32 → S → Prop}
    (hM : tMet l y bytes maxL ret rm D K Z Y (.ref b :: As) ws (QI D K post W') 0 0) (hE : XR Z s) (hZ : XQ Z Y A s s.heap) {Cn : String} (hg : GoodIn wsL_law (wsV own index Cn y (uws y bytes maxL ret))) (hd : y.cls = Cn ∧ y.cls ≠ "java/lang/invoke/MethodHandle" ∧ y.cls ≠ "java/lang/invoke/VarHandle" ∧ (parseMethodDescriptor y.desc).map (fun d => d.parameters.length) = some As.length) (hR : rm.frames + 1 ≤ R.frames ∧ 8 + (maxL + 11) + rm.locals ≤ R.locals) (hrc : rm.cells = 0) (hrs : rm.slots = 0) {ci : Nat} {T : u_T} {N : Nat} {fs : List Value} (hc : vwCl[ci]? = some (Cn, T, N)) {q0 : Nat} (he : ws[q0]? = some (b, .inr (ci, fs)))
    (hst : st0 = As.reverse ++ .ref b :: rest) (hls : ls.size = nL) (hcat : (rest.map fun v => v.category).sum ≤ 8) (hdg : decode cc pc = .ok (.invokevirtual index, 3)) (hf : cells ≤ R.cells ∧ slots ≤ R.slots)
    (kk : ∀ (r : Int32) (u : S) (H1 : Heap) (locs1 : List Loc), post r u → va_P D vwCl (W' u) H1 → va_D A (W' u) → va_S A s.heap H1 locs1 → W p l e R s m args below meth c H1 locs1 cells slots Q (F0 m (pc + 3) ls (.int r :: rest))) : W p l e R s m args below meth c H locs cells slots Q (F0 m pc ls st0) := g_Vi (mc := 0) (ms := 0) C hP hD hS hA hM hE hZ hg hd hR hrc hrs hc he hst hls hcat hdg hf kk
theorem hz_Ti (C : kC p s m args c cc own nL D K) (hP : va_P D vwCl ws H) (hD : va_D A ws) (hS : va_S A s.heap H locs) (hA : ∀ q, s.heap.size ≤ q → A q) {post : Int32 → S → Prop}
    (hM : tMet l y bytes maxL ret rm D K Z Y (.ref b :: As) ws (QI D K post W') 0 0) (hE : XR Z s) (hZ : XQ Z Y A s s.heap) (hg : GoodIn wsL_law (wsV own index "java/lang/String" y (uws y bytes maxL ret))) (hd : y.cls = "java/lang/String" ∧ y.cls ≠ "java/lang/invoke/MethodHandle" ∧ y.cls ≠ "java/lang/invoke/VarHandle" ∧ (parseMethodDescriptor y.desc).map (fun d => d.parameters.length) = some As.length) (hR : rm.frames + 1 ≤ R.frames ∧ 8 + (maxL + 11) + rm.locals ≤ R.locals) (hrc : rm.cells = 0) (hrs : rm.slots = 0) {i0 : Nat} (hi0 : i0 < 41) (hb0 : b = Z i0)
    (hst : st0 = As.reverse ++ .ref b :: rest) (hls : ls.size = nL) (hcat : (rest.map fun v => v.category).sum ≤ 8) (hdg : decode cc pc = .ok (.invokevirtual index, 3)) (hf : cells ≤ R.cells ∧ slots ≤ R.slots)
    (kk : ∀ (r : Int32) (u : S) (H1 : Heap) (locs1 : List Loc), post r u → va_P D vwCl (W' u) H1 → va_D A (W' u) → va_S A s.heap H1 locs1 → W p l e R s m args below meth c H1 locs1 cells slots Q (F0 m (pc + 3) ls (.int r :: rest))) : W p l e R s m args below meth c H locs cells slots Q (F0 m pc ls st0) := g_Ti (mc := 0) (ms := 0) C hP hD hS hA hM hE hZ hg hd hR hrc hrs hi0 hb0 hst hls hcat hdg hf kk
theorem hz_Si (C : kC p s m args c cc own nL D K) (hP : va_P D vwCl ws H) (hD : va_D A ws) (hS : va_S A s.heap H locs) (hA : ∀ q, s.heap.size ≤ q → A q) {post : Int32 → S → Prop}
    (hM : tMet l y bytes maxL ret rm D K Z Y As ws (QI D K post W') 0 0) (hE : XR Z s) (hZ : XQ Z Y A s s.heap) (hg : GoodIn wsL_law (va_wsS own index y (uws y bytes maxL ret))) (hd : y.cls ≠ "java/lang/invoke/MethodHandle" ∧ y.cls ≠ "java/lang/invoke/VarHandle" ∧ (parseMethodDescriptor y.desc).map (fun d => d.parameters.length) = some As.length) (hR : rm.frames + 1 ≤ R.frames ∧ 8 + (maxL + 11) + rm.locals ≤ R.locals) (hrc : rm.cells = 0) (hrs : rm.slots = 0) 
    (hst : st0 = As.reverse ++ rest) (hls : ls.size = nL) (hcat : (rest.map fun v => v.category).sum ≤ 8) (hdg : decode cc pc = .ok (.invokestatic index, 3)) (hf : cells ≤ R.cells ∧ slots ≤ R.slots)
    (kk : ∀ (r : Int32) (u : S) (H1 : Heap) (locs1 : List Loc), post r u → va_P D vwCl (W' u) H1 → va_D A (W' u) → va_S A s.heap H1 locs1 → W p l e R s m args below meth c H1 locs1 cells slots Q (F0 m (pc + 3) ls (.int r :: rest))) : W p l e R s m args below meth c H locs cells slots Q (F0 m pc ls st0) := g_Si (mc := 0) (ms := 0) C hP hD hS hA hM hE hZ hg hd hR hrc hrs hst hls hcat hdg hf kk
theorem hz_Vl (C : kC p s m args c cc own nL D K) (hP : va_P D vwCl ws H) (hD : va_D A ws) (hS : va_S A s.heap H locs) (hA : ∀ q, s.heap.size ≤ q → A q) {post : Int64 → S → Prop}
    (hM : tMet l y bytes maxL ret rm D K Z Y (.ref b :: As) ws (QL D K post W') 0 0) (hE : XR Z s) (hZ : XQ Z Y A s s.heap) {Cn : String} (hg : GoodIn wsL_law (wsV own index Cn y (uws y bytes maxL ret))) (hd : y.cls = Cn ∧ y.cls ≠ "java/lang/invoke/MethodHandle" ∧ y.cls ≠ "java/lang/invoke/VarHandle" ∧ (parseMethodDescriptor y.desc).map (fun d => d.parameters.length) = some As.length) (hR : rm.frames + 1 ≤ R.frames ∧ 8 + (maxL + 11) + rm.locals ≤ R.locals) (hrc : rm.cells = 0) (hrs : rm.slots = 0) {ci : Nat} {T : u_T} {N : Nat} {fs : List Value} (hc : vwCl[ci]? = some (Cn, T, N)) {q0 : Nat} (he : ws[q0]? = some (b, .inr (ci, fs)))
    (hst : st0 = As.reverse ++ .ref b :: rest) (hls : ls.size = nL) (hcat : (rest.map fun v => v.category).sum ≤ 8) (hdg : decode cc pc = .ok (.invokevirtual index, 3)) (hf : cells ≤ R.cells ∧ slots ≤ R.slots)
    (kk : ∀ (r : Int64) (u : S) (H1 : Heap) (locs1 : List Loc), post r u → va_P D vwCl (W' u) H1 → va_D A (W' u) → va_S A s.heap H1 locs1 → W p l e R s m args below meth c H1 locs1 cells slots Q (F0 m (pc + 3) ls (.long r :: rest))) : W p l e R s m args below meth c H locs cells slots Q (F0 m pc ls st0) := g_Vl (mc := 0) (ms := 0) C hP hD hS hA hM hE hZ hg hd hR hrc hrs hc he hst hls hcat hdg hf kk
theorem hz_Sl (C : kC p s m args c cc own nL D K) (hP : va_P D vwCl ws H) (hD : va_D A ws) (hS : va_S A s.heap H locs) (hA : ∀ q, s.heap.size ≤ q → A q) {post : Int64 → S → Prop}
    (hM : tMet l y bytes maxL ret rm D K Z Y As ws (QL D K post W') 0 0) (hE : XR Z s) (hZ : XQ Z Y A s s.heap) (hg : GoodIn wsL_law (va_wsS own index y (uws y bytes maxL ret))) (hd : y.cls ≠ "java/lang/invoke/MethodHandle" ∧ y.cls ≠ "java/lang/invoke/VarHandle" ∧ (parseMethodDescriptor y.desc).map (fun d => d.parameters.length) = some As.length) (hR : rm.frames + 1 ≤ R.frames ∧ 8 + (maxL + 11) + rm.locals ≤ R.locals) (hrc : rm.cells = 0) (hrs : rm.slots = 0) 
    (hst : st0 = As.reverse ++ rest) (hls : ls.size = nL) (hcat : (rest.map fun v => v.category).sum ≤ 8) (hdg : decode cc pc = .ok (.invokestatic index, 3)) (hf : cells ≤ R.cells ∧ slots ≤ R.slots)
    (kk : ∀ (r : Int64) (u : S) (H1 : Heap) (locs1 : List Loc), post r u → va_P D vwCl (W' u) H1 → va_D A (W' u) → va_S A s.heap H1 locs1 → W p l e R s m args below meth c H1 locs1 cells slots Q (F0 m (pc + 3) ls (.long r :: rest))) : W p l e R s m args below meth c H locs cells slots Q (F0 m pc ls st0) := g_Sl (mc := 0) (ms := 0) C hP hD hS hA hM hE hZ hg hd hR hrc hrs hst hls hcat hdg hf kk
theorem hz_Vv (C : kC p s m args c cc own nL D K) (hP : va_P D vwCl ws H) (hD : va_D A ws) (hS : va_S A s.heap H locs) (hA : ∀ q, s.heap.size ≤ q → A q) {post : S → Prop}
    (hM : tMet l y bytes maxL ret rm D K Z Y (.ref b :: As) ws (QV D K post W') 0 0) (hE : XR Z s) (hZ : XQ Z Y A s s.heap) {Cn : String} (hg : GoodIn wsL_law (wsV own index Cn y (uws y bytes maxL ret))) (hd : y.cls = Cn ∧ y.cls ≠ "java/lang/invoke/MethodHandle" ∧ y.cls ≠ "java/lang/invoke/VarHandle" ∧ (parseMethodDescriptor y.desc).map (fun d => d.parameters.length) = some As.length) (hR : rm.frames + 1 ≤ R.frames ∧ 8 + (maxL + 11) + rm.locals ≤ R.locals) (hrc : rm.cells = 0) (hrs : rm.slots = 0) {ci : Nat} {T : u_T} {N : Nat} {fs : List Value} (hc : vwCl[ci]? = some (Cn, T, N)) {q0 : Nat} (he : ws[q0]? = some (b, .inr (ci, fs)))
    (hst : st0 = As.reverse ++ .ref b :: rest) (hls : ls.size = nL) (hcat : (rest.map fun v => v.category).sum ≤ 8) (hdg : decode cc pc = .ok (.invokevirtual index, 3)) (hf : cells ≤ R.cells ∧ slots ≤ R.slots)
    (kk : ∀ (u : S) (H1 : Heap) (locs1 : List Loc), post u → va_P D vwCl (W' u) H1 → va_D A (W' u) → va_S A s.heap H1 locs1 → W p l e R s m args below meth c H1 locs1 cells slots Q (F0 m (pc + 3) ls (rest))) : W p l e R s m args below meth c H locs cells slots Q (F0 m pc ls st0) := g_Vv (mc := 0) (ms := 0) C hP hD hS hA hM hE hZ hg hd hR hrc hrs hc he hst hls hcat hdg hf kk
theorem hz_Sv (C : kC p s m args c cc own nL D K) (hP : va_P D vwCl ws H) (hD : va_D A ws) (hS : va_S A s.heap H locs) (hA : ∀ q, s.heap.size ≤ q → A q) {post : S → Prop}
    (hM : tMet l y bytes maxL ret rm D K Z Y As ws (QV D K post W') 0 0) (hE : XR Z s) (hZ : XQ Z Y A s s.heap) (hg : GoodIn wsL_law (va_wsS own index y (uws y bytes maxL ret))) (hd : y.cls ≠ "java/lang/invoke/MethodHandle" ∧ y.cls ≠ "java/lang/invoke/VarHandle" ∧ (parseMethodDescriptor y.desc).map (fun d => d.parameters.length) = some As.length) (hR : rm.frames + 1 ≤ R.frames ∧ 8 + (maxL + 11) + rm.locals ≤ R.locals) (hrc : rm.cells = 0) (hrs : rm.slots = 0) 
    (hst : st0 = As.reverse ++ rest) (hls : ls.size = nL) (hcat : (rest.map fun v => v.category).sum ≤ 8) (hdg : decode cc pc = .ok (.invokestatic index, 3)) (hf : cells ≤ R.cells ∧ slots ≤ R.slots)
    (kk : ∀ (u : S) (H1 : Heap) (locs1 : List Loc), post u → va_P D vwCl (W' u) H1 → va_D A (W' u) → va_S A s.heap H1 locs1 → W p l e R s m args below meth c H1 locs1 cells slots Q (F0 m (pc + 3) ls (rest))) : W p l e R s m args below meth c H locs cells slots Q (F0 m pc ls st0) := g_Sv (mc := 0) (ms := 0) C hP hD hS hA hM hE hZ hg hd hR hrc hrs hst hls hcat hdg hf kk
theorem hz_Vr (C : kC p s m args c cc own nL D K) (hP : va_P D vwCl ws H) (hD : va_D A ws) (hS : va_S A s.heap H locs) (hA : ∀ q, s.heap.size ≤ q → A q) {post : S → Prop} {ra : S → Nat}
    (hM : tMet l y bytes maxL ret rm D K Z Y (.ref b :: As) ws (QR D K post ra W') 0 0) (hE : XR Z s) (hZ : XQ Z Y A s s.heap) {Cn : String} (hg : GoodIn wsL_law (wsV own index Cn y (uws y bytes maxL ret))) (hd : y.cls = Cn ∧ y.cls ≠ "java/lang/invoke/MethodHandle" ∧ y.cls ≠ "java/lang/invoke/VarHandle" ∧ (parseMethodDescriptor y.desc).map (fun d => d.parameters.length) = some As.length) (hR : rm.frames + 1 ≤ R.frames ∧ 8 + (maxL + 11) + rm.locals ≤ R.locals) (hrc : rm.cells = 0) (hrs : rm.slots = 0) {ci : Nat} {T : u_T} {N : Nat} {fs : List Value} (hc : vwCl[ci]? = some (Cn, T, N)) {q0 : Nat} (he : ws[q0]? = some (b, .inr (ci, fs)))
    (hst : st0 = As.reverse ++ .ref b :: rest) (hls : ls.size = nL) (hcat : (rest.map fun v => v.category).sum ≤ 8) (hdg : decode cc pc = .ok (.invokevirtual index, 3)) (hf : cells ≤ R.cells ∧ slots ≤ R.slots)
    (kk : ∀ (u : S) (H1 : Heap) (locs1 : List Loc), post u → va_P D vwCl (W' u) H1 → va_D A (W' u) → va_S A s.heap H1 locs1 → W p l e R s m args below meth c H1 locs1 cells slots Q (F0 m (pc + 3) ls (.ref (ra u) :: rest))) : W p l e R s m args below meth c H locs cells slots Q (F0 m pc ls st0) := g_Vr (mc := 0) (ms := 0) C hP hD hS hA hM hE hZ hg hd hR hrc hrs hc he hst hls hcat hdg hf kk
theorem hz_Sr (C : kC p s m args c cc own nL D K) (hP : va_P D vwCl ws H) (hD : va_D A ws) (hS : va_S A s.heap H locs) (hA : ∀ q, s.heap.size ≤ q → A q) {post : S → Prop} {ra : S → Nat}
    (hM : tMet l y bytes maxL ret rm D K Z Y As ws (QR D K post ra W') 0 0) (hE : XR Z s) (hZ : XQ Z Y A s s.heap) (hg : GoodIn wsL_law (va_wsS own index y (uws y bytes maxL ret))) (hd : y.cls ≠ "java/lang/invoke/MethodHandle" ∧ y.cls ≠ "java/lang/invoke/VarHandle" ∧ (parseMethodDescriptor y.desc).map (fun d => d.parameters.length) = some As.length) (hR : rm.frames + 1 ≤ R.frames ∧ 8 + (maxL + 11) + rm.locals ≤ R.locals) (hrc : rm.cells = 0) (hrs : rm.slots = 0) 
    (hst : st0 = As.reverse ++ rest) (hls : ls.size = nL) (hcat : (rest.map fun v => v.category).sum ≤ 8) (hdg : decode cc pc = .ok (.invokestatic index, 3)) (hf : cells ≤ R.cells ∧ slots ≤ R.slots)
    (kk : ∀ (u : S) (H1 : Heap) (locs1 : List Loc), post u → va_P D vwCl (W' u) H1 → va_D A (W' u) → va_S A s.heap H1 locs1 → W p l e R s m args below meth c H1 locs1 cells slots Q (F0 m (pc + 3) ls (.ref (ra u) :: rest))) : W p l e R s m args below meth c H locs cells slots Q (F0 m pc ls st0) := g_Sr (mc := 0) (ms := 0) C hP hD hS hA hM hE hZ hg hd hR hrc hrs hst hls hcat hdg hf kk
end HCALL
