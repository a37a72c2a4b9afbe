/-! ===== p16: rows that the contracts of lines and jobs use ===== -/
def gR (f : Nat → Int32) (j : Nat) : Int32 := if j < 80 then f j else 32
theorem sB_23 : sByt 0 = sByt 23 := by decide +kernel
theorem sIx_23 (c : Int32) : sIx 0 c = sIx 23 c := by unfold sIx; rw [sB_23]
theorem chr_id {w : Int32} (h : (0 : Int) ≤ w.toInt ∧ w.toInt ≤ 255) : (w.toUInt32 % 65536).toInt32 = w := by
  have key : ∀ k : Nat, k < 256 → ((Int32.ofNat k).toUInt32 % 65536).toInt32 = Int32.ofNat k := by decide +kernel
  have h1 : w = Int32.ofNat w.toInt.toNat := by
    refine Int32.toInt_inj.mp ?_
    rw [Int32.toInt_ofNat_of_lt (by omega)]
    omega
  rw [h1]
  exact key _ (by omega)
theorem bO_c {x w v r q : Int32} (hw : w = bU x) (hr : (0 : Int) ≤ w.toInt ∧ w.toInt ≤ 255) (e3 : q = if r < 0 then 0 else r) (e2 : r = sIx 0 v) (e1 : v = (w.toUInt32 % 65536).toInt32) : q = bO x := by
  rw [chr_id hr] at e1
  rw [e1, hw, sIx_23] at e2
  unfold bO
  rw [← e2]
  by_cases h : r < 0
  · rw [if_pos h] at e3
    have h1 : r.toInt < 0 := i_lt h
    rw [if_neg (by omega)]
    exact e3
  · rw [if_neg h] at e3
    have h1 : 0 ≤ r.toInt := i_nlt h
    rw [if_pos h1]
    exact e3
/-- isAt: a word at a column -/
def aW (f : Nat → Int32) (x : Int) (i : Nat) : Prop := ∀ k : Nat, k < (sByt i).length → x + (k : Int) < 80 ∧ f (x + (k : Int)).toNat = (sByt i).getD k 0
theorem aW_new {f : Nat → Int32} {x w v z r : Int32} {i k : Nat} (hk : (k : Int) = w.toInt) (hx : 0 ≤ x.toInt) (hc : z.toInt = r.toInt) (hv : v.toInt = x.toInt + w.toInt) (h80 : v.toInt < 80) (ez : z = f (v : Int32).toNatClampNeg) (er : r = (sByt i).getD (w : Int32).toNatClampNeg 0) : x.toInt + (k : Int) < 80 ∧ f (x.toInt + (k : Int)).toNat = (sByt i).getD k 0 := by
  refine ⟨by omega, ?_⟩
  have h1 : v.toNatClampNeg = (x.toInt + (k : Int)).toNat := by
    show v.toInt.toNat = _
    rw [hv, hk]
  have h2 : w.toNatClampNeg = k := by
    show w.toInt.toNat = k
    omega
  rw [← h1, ← ez, Int32.toInt_inj.mp hc, er, h2]
theorem aW_no {f : Nat → Int32} {x w v z r : Int32} {i : Nat} (h : aW f x.toInt i) (hx : 0 ≤ x.toInt) (hw : 0 ≤ w.toInt) (hl : w.toInt < sL i) (hc : ¬ z.toInt = r.toInt) (hv : v.toInt = x.toInt + w.toInt) (ez : z = f (v : Int32).toNatClampNeg) (er : r = (sByt i).getD (w : Int32).toNatClampNeg 0) : False := by
  have hq : sL i = ((sByt i).length : Int) := rfl
  have h0 := (h w.toInt.toNat (by omega)).2
  have h1 : v.toNatClampNeg = (x.toInt + ((w.toInt.toNat : Nat) : Int)).toNat := by
    show v.toInt.toNat = _
    rw [hv]
    omega
  have h2 : w.toNatClampNeg = w.toInt.toNat := rfl
  rw [← h1, ← h2, ← ez, ← er] at h0
  exact hc (congrArg Int32.toInt h0)
theorem aW_out {f : Nat → Int32} {x w v : Int32} {i : Nat} (h : aW f x.toInt i) (hw : 0 ≤ w.toInt) (hl : w.toInt < sL i) (hv : v.toInt = x.toInt + w.toInt) (h80 : 80 ≤ v.toInt) : False := by
  have hq : sL i = ((sByt i).length : Int) := rfl
  have h0 := (h w.toInt.toNat (by omega)).1
  omega
/-- isAt and blank behind, in the row's letters -/
theorem aW_wAt {f : Nat → Int32} {c i : Nat} (hnb : ∀ k : Nat, k < (sByt i).length → ¬ (sByt i).getD k 0 = 32) : aW f (c : Int) i ↔ wAt (gR f) c i := by
  constructor
  · intro h k hk
    have h0 := h k hk
    unfold gR
    rw [if_pos (by omega)]
    rw [show ((c : Int) + (k : Int)).toNat = c + k by omega] at h0
    exact h0.2
  · intro h k hk
    have h0 := h k hk
    unfold gR at h0
    by_cases h8 : c + k < 80
    · rw [if_pos h8] at h0
      refine ⟨by omega, ?_⟩
      rw [show ((c : Int) + (k : Int)).toNat = c + k by omega]
      exact h0
    · rw [if_neg h8] at h0
      exact absurd h0.symm (hnb k hk)
/-! advance: a line's end, a line's letters -/
theorem adv_ne {f : Nat → Int32} {w z : Int32} {j : Nat} (hj : (j : Int) = w.toInt) (hc : ¬ z.toInt = 10) (ez : z = f (w : Int32).toNatClampNeg) : ¬ f j = 10 := by
  have h1 : w.toNatClampNeg = j := by
    show w.toInt.toNat = j
    omega
  rw [h1] at ez
  intro h
  rw [h] at ez
  exact hc (by rw [ez]; rfl)
theorem adv_eq {f : Nat → Int32} {w z : Int32} (hc : z.toInt = 10) (ez : z = f (w : Int32).toNatClampNeg) : f w.toInt.toNat = 10 := by
  have h1 : f w.toInt.toNat = z := ez.symm
  rw [h1]
  exact Int32.toInt_inj.mp hc
theorem adv_end {f : Nat → Int32} {p n w : Int32} (hI : ∀ j : Nat, p.toInt ≤ (j : Int) → (j : Int) < w.toInt → (j : Int) < n.toInt ∧ ¬ f j = 10) (h0 : 0 ≤ p.toInt) (hp : p.toInt ≤ w.toInt) (h : n.toInt ≤ w.toInt ∨ f w.toInt.toNat = 10) : w.toInt = ((lE f n.toInt.toNat p.toInt.toNat : Nat) : Int) := by
  have h1 : lE f n.toInt.toNat p.toInt.toNat = w.toInt.toNat := by
    refine lE_uniq (by omega) (fun j h2 h3 => ?_) ?_
    · have := hI j (by omega) (by omega)
      exact ⟨by omega, this.2⟩
    · rcases h with e | e
      · exact Or.inl (by omega)
      · exact Or.inr e
  rw [h1]
  omega
theorem row_old {f : Nat → Int32} {w v x : Int32} {j : Nat} (h : (j : Int) < w.toInt) (hr : f j = x) : upd f (w : Int32).toNatClampNeg v j = x := by
  have hne : j ≠ w.toNatClampNeg := by
    intro e
    have : w.toNatClampNeg = w.toInt.toNat := rfl
    omega
  rw [pk_un hne]
  exact hr
theorem row_new {f : Nat → Int32} {w v x : Int32} {j : Nat} (h : (j : Int) = w.toInt) (hv : v = x) : upd f (w : Int32).toNatClampNeg v j = x := by
  have he : j = w.toNatClampNeg := by
    have : w.toNatClampNeg = w.toInt.toNat := rfl
    omega
  rw [he, pk_us]
  exact hv
theorem i2b_id {x : Int32} (h : (32 : Int) ≤ x.toInt ∧ x.toInt ≤ 126) : x.toInt8.toInt32 = x := by
  have key : ∀ k : Nat, k < 128 → (Int32.ofNat k).toInt8.toInt32 = Int32.ofNat k := by decide +kernel
  have h1 : x = Int32.ofNat x.toInt.toNat := by
    refine Int32.toInt_inj.mp ?_
    rw [Int32.toInt_ofNat_of_lt (by omega)]
    omega
  rw [h1]
  exact key _ (by omega)
theorem bO_r (x : Int32) : 0 ≤ (bO x).toInt ∧ (bO x).toInt ≤ 55 := by
  have h := sIx_r23 (bU x)
  unfold bO
  by_cases hc : 0 ≤ (sIx 23 (bU x)).toInt
  · rw [if_pos hc]; omega
  · rw [if_neg hc]; decide
/-- a letter of the line, as it is stored -/
theorem let_in {f : Nat → Int32} {p w v c r a q : Int32} {e j : Nat} (hj : (j : Int) = w.toInt) (hp : 0 ≤ p.toInt) (h80 : w.toInt < 80) (he : p.toInt + w.toInt < (e : Int)) (eq2 : q = vp_nar .byte a) (eq1 : a = r.toInt8.toInt32) (er : 0 ≤ c.toInt → c.toInt < 56 → r = (sByt 23).getD (c : Int32).toNatClampNeg 0) (ec : c = bO (f (v : Int32).toNatClampNeg)) (hv : v.toInt = p.toInt + w.toInt) : q = gT f p.toInt.toNat e j := by
  have hc := bO_r (f (v : Int32).toNatClampNeg)
  rw [← ec] at hc
  have hr2 := er (by omega) (by omega)
  have hl : sL 23 = 56 := rfl
  have hr : (32 : Int) ≤ r.toInt ∧ r.toInt ≤ 126 := by rw [hr2]; exact sByt_rr (by decide) (by omega) (by omega)
  have h2 : q = r := by
    rw [eq2, eq1]
    show (r.toInt8.toInt32).toInt8.toInt32 = r
    rw [i2b_id hr, i2b_id hr]
  rw [h2, hr2, ec]
  unfold gT
  rw [if_pos ⟨by omega, by omega⟩]
  have h1 : v.toNatClampNeg = p.toInt.toNat + j := by
    show v.toInt.toNat = _
    omega
  rw [h1]
theorem let_out {f : Nat → Int32} {p w a q : Int32} {e j : Nat} (hj : (j : Int) = w.toInt) (hp : 0 ≤ p.toInt) (he : (e : Int) ≤ p.toInt + w.toInt) (eq2 : q = vp_nar .byte a) (eq1 : a = (32 : Int32).toInt8.toInt32) : q = gT f p.toInt.toNat e j := by
  have h2 : q = 32 := by
    rw [eq2, eq1]
    decide
  unfold gT
  rw [if_neg (by omega), h2]
theorem gR_gT {f r : Nat → Int32} {a b : Nat} (h : ∀ j : Nat, j < 80 → r j = gT f a b j) : gR r = gT f a b := by
  funext j
  unfold gR
  by_cases hj : j < 80
  · rw [if_pos hj]; exact h j hj
  · rw [if_neg hj]
    unfold gT
    rw [if_neg (fun hq => hj hq.1)]
/-! options -/
theorem gR_blank {f : Nat → Int32} {w : Int32} (h0 : 0 ≤ w.toInt) : (80 ≤ w.toInt ∨ 0 ≤ w.toInt ∧ (f (w : Int32).toNatClampNeg).toInt = 32) ↔ gR f w.toInt.toNat = 32 := by
  unfold gR
  have e1 : w.toNatClampNeg = w.toInt.toNat := rfl
  by_cases h : w.toInt.toNat < 80
  · rw [if_pos h, e1]
    constructor
    · rintro (h1 | h1)
      · omega
      · exact Int32.toInt_inj.mp h1.2
    · intro h1
      exact Or.inr ⟨h0, by rw [h1]; rfl⟩
  · rw [if_neg h]
    exact ⟨fun _ => rfl, fun _ => Or.inl (by omega)⟩
theorem word_nb : ∀ i : Nat, 8 ≤ i → i < 17 → ∀ k : Nat, k < (sByt i).length → ¬ (sByt i).getD k 0 = 32 := by
  have key : ∀ i : Fin 17, 8 ≤ i.val → ∀ k : Fin 6, k.val < (sByt i.val).length → ¬ (sByt i.val).getD k.val 0 = 32 := by decide +kernel
  have len : ∀ i : Fin 17, 8 ≤ i.val → (sByt i.val).length ≤ 5 := by decide +kernel
  intro i h1 h2 k hk
  have := len ⟨i, h2⟩ h1
  exact key ⟨i, h2⟩ h1 ⟨k, by have h3 : (sByt i).length ≤ 5 := this; omega⟩ hk
theorem aW_word {f : Nat → Int32} {v : Int32} {c i : Nat} (hi : 8 ≤ i) (hi2 : i < 17) (hv : v.toInt = (c : Int)) : aW f v.toInt i ↔ wAt (gR f) c i := by
  rw [hv]
  exact aW_wAt (word_nb i hi hi2)
theorem op_t {f : Nat → Int32} {a k u : Nat} {w v x q : Int32} (hw : w.toInt = ((oN (gR f) a k : Nat) : Int)) (hk : k < 5) (hu : u = oW k) (b1 : 80 ≤ w.toInt ∨ 0 ≤ w.toInt ∧ (f (w : Int32).toNatClampNeg).toInt = 32) (b2 : aW f v.toInt u) (b3 : 80 ≤ x.toInt ∨ 0 ≤ x.toInt ∧ (f (x : Int32).toNatClampNeg).toInt = 32) (hv : v.toInt = w.toInt + 1) (hx : x.toInt = v.toInt + sL u) (hq : q.toInt = w.toInt + (1 + sL u)) : q.toInt = ((oN (gR f) a (k + 1) : Nat) : Int) := by
  have hl : sL u = ((sByt u).length : Int) := rfl
  have g1 := (gR_blank (f := f) (w := w) (by omega)).mp b1
  have g3 := (gR_blank (f := f) (w := x) (by omega)).mp b3
  have g2 := (aW_word (f := f) (v := v) (c := oN (gR f) a k + 1) (i := u) (by rw [hu]; unfold oW; omega) (by rw [hu]; unfold oW; omega) (by omega)).mp b2
  have e1 : w.toInt.toNat = oN (gR f) a k := by omega
  have e3 : x.toInt.toNat = oN (gR f) a k + 1 + (sByt u).length := by omega
  rw [e1] at g1
  rw [e3] at g3
  subst hu
  rw [oN_t ⟨g1, g2, g3⟩]
  omega
theorem op_f {f : Nat → Int32} {a k u : Nat} {w v x : Int32} (hw : w.toInt = ((oN (gR f) a k : Nat) : Int)) (hk : k < 5) (hu : u = oW k) (hv : v.toInt = w.toInt + 1) (hx : x.toInt = v.toInt + sL u) (h : ¬ ((80 ≤ w.toInt ∨ 0 ≤ w.toInt ∧ (f (w : Int32).toNatClampNeg).toInt = 32) ∧ aW f v.toInt u ∧ (80 ≤ x.toInt ∨ 0 ≤ x.toInt ∧ (f (x : Int32).toNatClampNeg).toInt = 32))) : w.toInt = ((oN (gR f) a (k + 1) : Nat) : Int) := by
  have hl : sL u = ((sByt u).length : Int) := rfl
  have e1 : w.toInt.toNat = oN (gR f) a k := by omega
  have e3 : x.toInt.toNat = oN (gR f) a k + 1 + (sByt u).length := by omega
  rw [oN_f]
  · exact hw
  · rintro ⟨g1, g2, g3⟩
    rw [← hu] at g2 g3
    refine h ⟨(gR_blank (by omega)).mpr (by rw [e1]; exact g1), ?_, (gR_blank (by omega)).mpr (by rw [e3]; exact g3)⟩
    exact (aW_word (c := oN (gR f) a k + 1) (by rw [hu]; unfold oW; omega) (by rw [hu]; unfold oW; omega) (by omega)).mpr g2
theorem op_f1 {f : Nat → Int32} {a k : Nat} {w : Int32} (hw : w.toInt = ((oN (gR f) a k : Nat) : Int)) (h : ¬ (80 ≤ w.toInt ∨ 0 ≤ w.toInt ∧ (f (w : Int32).toNatClampNeg).toInt = 32)) : w.toInt = ((oN (gR f) a (k + 1) : Nat) : Int) := by
  have e1 : w.toInt.toNat = oN (gR f) a k := by omega
  rw [oN_f]
  · exact hw
  · rintro ⟨g1, -⟩
    exact h ((gR_blank (by omega)).mpr (by rw [e1]; exact g1))
theorem op_f2 {f : Nat → Int32} {a k u : Nat} {w v : Int32} (hw : w.toInt = ((oN (gR f) a k : Nat) : Int)) (hk : k < 5) (hu : u = oW k) (h : ¬ aW f v.toInt u) (hv : v.toInt = w.toInt + 1) : w.toInt = ((oN (gR f) a (k + 1) : Nat) : Int) := by
  rw [oN_f]
  · exact hw
  · rintro ⟨-, g2, -⟩
    rw [← hu] at g2
    exact h ((aW_word (c := oN (gR f) a k + 1) (by rw [hu]; unfold oW; omega) (by rw [hu]; unfold oW; omega) (by omega)).mpr g2)
theorem op_f3 {f : Nat → Int32} {a k u : Nat} {w x : Int32} (hw : w.toInt = ((oN (gR f) a k : Nat) : Int)) (hu : u = oW k) (h : ¬ (80 ≤ x.toInt ∨ 0 ≤ x.toInt ∧ (f (x : Int32).toNatClampNeg).toInt = 32)) (hx : x.toInt = w.toInt + 1 + sL u) : w.toInt = ((oN (gR f) a (k + 1) : Nat) : Int) := by
  have hl : sL u = ((sByt u).length : Int) := rfl
  have e3 : x.toInt.toNat = oN (gR f) a k + 1 + (sByt u).length := by omega
  rw [oN_f]
  · exact hw
  · rintro ⟨-, -, g3⟩
    rw [← hu] at g3
    exact h ((gR_blank (by omega)).mpr (by rw [e3]; exact g3))
/-! the *JOB line -/
theorem job_word {f : Nat → Int32} : aW f 0 7 ↔ wBl (gR f) 0 25 := by
  have e7 : sByt 7 = sByt 25 ++ [32] := by decide +kernel
  have l7 : (sByt 7).length = 5 := by decide +kernel
  have l25 : (sByt 25).length = 4 := by decide +kernel
  have n25 : ∀ k : Nat, k < 4 → (sByt 7).getD k 0 = (sByt 25).getD k 0 := by decide +kernel
  have n4 : (sByt 7).getD 4 0 = 32 := by decide +kernel
  constructor
  · intro h
    refine ⟨fun k hk => ?_, ?_⟩
    · rw [l25] at hk
      have h0 := (h k (by rw [l7]; omega)).2
      rw [show ((0 : Int) + (k : Int)).toNat = 0 + k by omega, n25 k hk] at h0
      unfold gR
      rw [if_pos (by omega)]
      exact h0
    · have h0 := (h 4 (by rw [l7]; omega)).2
      rw [show ((0 : Int) + ((4 : Nat) : Int)).toNat = 4 by omega, n4] at h0
      rw [l25]
      exact h0
  · rintro ⟨h1, h2⟩ k hk
    rw [l7] at hk
    rw [l25] at h2
    refine ⟨by omega, ?_⟩
    rw [show ((0 : Int) + (k : Int)).toNat = k by omega]
    by_cases h4 : k < 4
    · have h0 := h1 k (by rw [l25]; exact h4)
      unfold gR at h0
      rw [if_pos (by omega), show 0 + k = k by omega] at h0
      rw [n25 k h4]
      exact h0
    · have e : k = 4 := by omega
      subst e
      rw [n4]
      exact h2
theorem gR_lt {f : Nat → Int32} {j : Nat} (h : j < 80) : gR f j = f j := if_pos h
/-- no job, or one: the class's last test -/
theorem isj {f : Nat → Int32} {s d o : Int32} (hw : aW f 0 7) (h0 : 0 ≤ s.toInt ∧ s.toInt ≤ 11) (h1 : 0 ≤ d.toInt ∧ d.toInt ≤ 6) (hs : ∀ j : Nat, (j : Int) < s.toInt → anL (f (5 + j))) (hs1 : s.toInt = 11 ∨ ¬ anL (f (5 + s.toInt.toNat))) (hd : ∀ j : Nat, (j : Int) < d.toInt → dgL (f (6 + s.toInt.toNat + j))) (hd1 : d.toInt = 6 ∨ ¬ dgL (f (6 + s.toInt.toNat + d.toInt.toNat))) (ho : 0 ≤ o.toInt ↔ oOK (gR f) (6 + s.toInt.toNat + d.toInt.toNat)) : jOK (gR f) ↔ (1 ≤ s.toInt ∧ s.toInt ≤ 10 ∧ f (5 + s.toInt.toNat) = 32 ∧ 1 ≤ d.toInt ∧ d.toInt ≤ 5 ∧ 0 ≤ o.toInt) := by
  have gs : ∀ j : Nat, j < s.toInt.toNat → anL (gR f (5 + j)) := fun j hj => by rw [gR_lt (by omega)]; exact hs j (by omega)
  have gd : ∀ j : Nat, j < d.toInt.toNat → dgL (gR f (6 + s.toInt.toNat + j)) := fun j hj => by rw [gR_lt (by omega)]; exact hd j (by omega)
  rcases hs1 with h11 | hs1
  · constructor
    · intro h
      exact absurd h (jOK_long (fun j hj => gs j (by omega)))
    · intro h
      omega
  · have hs2 : ¬ anL (gR f (5 + s.toInt.toNat)) := by rw [gR_lt (by omega)]; exact hs1
    rcases hd1 with h6 | hd1
    · constructor
      · intro h
        exact absurd h (jOK_digits gs hs2 (fun j hj => gd j (by omega)))
      · intro h
        omega
    · have hd2 : ¬ dgL (gR f (6 + s.toInt.toNat + d.toInt.toNat)) := by rw [gR_lt (by omega)]; exact hd1
      rw [jOK_iff (job_word.mp hw) gs hs2 gd hd2, gR_lt (by omega), ho]
      constructor
      · rintro ⟨a1, a2, a3, a4, a5, a6⟩
        exact ⟨by omega, by omega, a3, by omega, by omega, a6⟩
      · rintro ⟨a1, a2, a3, a4, a5, a6⟩
        exact ⟨by omega, by omega, a3, by omega, by omega, a6⟩
/-! cards -/
theorem ic_0 {f : Nat → Int32} {i : Nat} {r : Int32} (h1 : r.toInt = 1 ↔ aW f (0 : Int32).toInt i) (hr : ¬ r.toInt = 1) : (0 : Int) = 1 ↔ (aW f 0 i ∧ f (sByt i).length = 32) :=
  ⟨fun h => absurd h (by decide), fun h => absurd (h1.mpr h.1) hr⟩
theorem ic_00 {f : Nat → Int32} {i : Nat} {r x : Int32} (h2 : r.toInt = 1 ↔ (80 ≤ x.toInt ∨ 0 ≤ x.toInt ∧ (f (x : Int32).toNatClampNeg).toInt = 32)) (hx : x.toInt = sL i) (hr : ¬ r.toInt = 1) : (0 : Int) = 1 ↔ (aW f 0 i ∧ f (sByt i).length = 32) := by
  refine ⟨fun h => absurd h (by decide), fun h => absurd (h2.mpr ?_) hr⟩
  have hl : sL i = ((sByt i).length : Int) := rfl
  have e : x.toNatClampNeg = (sByt i).length := by
    show x.toInt.toNat = _
    omega
  exact Or.inr ⟨by omega, by rw [e, h.2]; rfl⟩
theorem ic_1 {f : Nat → Int32} {i : Nat} {r q x : Int32} (h1 : r.toInt = 1 ↔ aW f (0 : Int32).toInt i) (h2 : q.toInt = 1 ↔ (80 ≤ x.toInt ∨ 0 ≤ x.toInt ∧ (f (x : Int32).toNatClampNeg).toInt = 32)) (hx : x.toInt = sL i) (hr : r.toInt = 1) (hq : q.toInt = 1 ∧ sL i ≤ 5) : (1 : Int) = 1 ↔ (aW f 0 i ∧ f (sByt i).length = 32) := by
  refine ⟨fun _ => ⟨h1.mp hr, ?_⟩, fun _ => rfl⟩
  have hl : sL i = ((sByt i).length : Int) := rfl
  have e : x.toNatClampNeg = (sByt i).length := by
    show x.toInt.toNat = _
    omega
  rcases h2.mp hq.1 with h | h
  · omega
  · rw [e] at h
    exact Int32.toInt_inj.mp h.2
theorem rk_new {f : Nat → Int32} {w v z : Int32} {j : Nat} (hj : (j : Int) = w.toInt) (h : anL z) (hv : v.toInt = 5 + w.toInt) (ez : z = f (v : Int32).toNatClampNeg) : anL (f (5 + j)) := by
  have e : v.toNatClampNeg = 5 + j := by
    show v.toInt.toNat = _
    omega
  rw [← e, ← ez]
  exact h
theorem rk_no {f : Nat → Int32} {w v z : Int32} (hw : 0 ≤ w.toInt) (h : ¬ anL z) (hv : v.toInt = 5 + w.toInt) (ez : z = f (v : Int32).toNatClampNeg) : ¬ anL (f (5 + w.toInt.toNat)) := by
  have e : v.toNatClampNeg = 5 + w.toInt.toNat := by
    show v.toInt.toNat = _
    omega
  rw [← e, ← ez]
  exact h
theorem dg_new {f : Nat → Int32} {s w v : Int32} {j : Nat} (hj : (j : Int) = w.toInt) (hs : 0 ≤ s.toInt) (h : 0 ≤ v.toInt ∧ v.toInt < 80 ∧ 48 ≤ (f (v : Int32).toNatClampNeg).toInt ∧ (f (v : Int32).toNatClampNeg).toInt ≤ 57) (hv : v.toInt = 6 + s.toInt + w.toInt) : dgL (f (6 + s.toInt.toNat + j)) := by
  have e : v.toNatClampNeg = 6 + s.toInt.toNat + j := by
    show v.toInt.toNat = _
    omega
  rw [← e]
  exact h.2.2
theorem dg_no {f : Nat → Int32} {s w v : Int32} (hs : 0 ≤ s.toInt) (hw : 0 ≤ w.toInt) (h : ¬ (0 ≤ v.toInt ∧ v.toInt < 80 ∧ 48 ≤ (f (v : Int32).toNatClampNeg).toInt ∧ (f (v : Int32).toNatClampNeg).toInt ≤ 57)) (hv : v.toInt = 6 + s.toInt + w.toInt) (h80 : v.toInt < 80) : ¬ dgL (f (6 + s.toInt.toNat + w.toInt.toNat)) := by
  have e : v.toNatClampNeg = 6 + s.toInt.toNat + w.toInt.toNat := by
    show v.toInt.toNat = _
    omega
  rw [← e]
  exact fun hq => h ⟨by omega, h80, hq⟩
theorem isj2 {f : Nat → Int32} {s d o v : Int32} (ho : 0 ≤ o.toInt ↔ oOK (gR f) v.toInt.toNat) (hv : v.toInt = 6 + s.toInt + d.toInt) (hw : aW f 0 7) (h0 : 0 ≤ s.toInt ∧ s.toInt ≤ 11) (h1 : 0 ≤ d.toInt ∧ d.toInt ≤ 6) (hs : ∀ j : Nat, (j : Int) < s.toInt → anL (f (5 + j))) (hs1 : s.toInt = 11 ∨ ¬ anL (f (5 + s.toInt.toNat))) (hd : ∀ j : Nat, (j : Int) < d.toInt → dgL (f (6 + s.toInt.toNat + j))) (hd1 : d.toInt = 6 ∨ ¬ dgL (f (6 + s.toInt.toNat + d.toInt.toNat))) : jOK (gR f) ↔ (1 ≤ s.toInt ∧ s.toInt ≤ 10 ∧ f (5 + s.toInt.toNat) = 32 ∧ 1 ≤ d.toInt ∧ d.toInt ≤ 5 ∧ 0 ≤ o.toInt) := by
  have e : v.toInt.toNat = 6 + s.toInt.toNat + d.toInt.toNat := by omega
  rw [e] at ho
  exact isj hw h0 h1 hs hs1 hd hd1 ho
theorem isj_b {f : Nat → Int32} {s v : Int32} (h : f (5 + s.toInt.toNat) = 32) (hv : v.toInt = 5 + s.toInt) (hs : 0 ≤ s.toInt) : 80 ≤ v.toInt ∨ 0 ≤ v.toInt ∧ (f (v : Int32).toNatClampNeg).toInt = 32 := by
  have e : v.toNatClampNeg = 5 + s.toInt.toNat := by
    show v.toInt.toNat = _
    omega
  exact Or.inr ⟨by omega, by rw [e, h]; rfl⟩
theorem isj_c {f : Nat → Int32} {s v : Int32} (h : 80 ≤ v.toInt ∨ 0 ≤ v.toInt ∧ (f (v : Int32).toNatClampNeg).toInt = 32) (hv : v.toInt = 5 + s.toInt) (hs : 0 ≤ s.toInt) (h80 : v.toInt < 80) : f (5 + s.toInt.toNat) = 32 := by
  have e : v.toNatClampNeg = 5 + s.toInt.toNat := by
    show v.toInt.toNat = _
    omega
  rcases h with h | h
  · omega
  · rw [e] at h
    exact Int32.toInt_inj.mp h.2
/-! the deck's automaton -/
theorem card_w {f : Nat → Int32} {i j : Nat} (hi : 8 ≤ i) (hi2 : i < 17) (he : sByt i = sByt j) (hl : (sByt i).length ≤ 5) : (aW f 0 i ∧ f (sByt i).length = 32) ↔ wBl (gR f) 0 j := by
  unfold wBl
  rw [← (show wAt (gR f) 0 i ↔ wAt (gR f) 0 j from by unfold wAt; rw [he]), ← he, show (0 : Nat) + (sByt i).length = (sByt i).length by omega, gR_lt (by omega)]
  have h := aW_wAt (f := f) (c := 0) (i := i) (word_nb i hi hi2)
  exact ⟨fun q => ⟨h.mp q.1, q.2⟩, fun q => ⟨h.mpr q.1, q.2⟩⟩
theorem card_data {f : Nat → Int32} : (aW f 0 13 ∧ f (sByt 13).length = 32) ↔ wBl (gR f) 0 31 := card_w (by omega) (by omega) (by decide +kernel) (by decide +kernel)
theorem card_end {f : Nat → Int32} : (aW f 0 16 ∧ f (sByt 16).length = 32) ↔ wBl (gR f) 0 32 := card_w (by omega) (by omega) (by decide +kernel) (by decide +kernel)
theorem end_no_data {g : Nat → Int32} (h : wBl g 0 32) : ¬ wBl g 0 31 := by
  intro q
  have l1 : 1 < (sByt 32).length := by decide +kernel
  have l2 : 1 < (sByt 31).length := by decide +kernel
  have a := h.1 1 l1
  have b := q.1 1 l2
  rw [a] at b
  exact absurd b (by decide +kernel)
theorem stp_keep {g : Nat → Int32} {ph : Nat} (hj : ¬ jOK g) (h1 : ¬ ph = 1) (h2 : ph = 2 → ¬ wBl g 0 31) (h3 : ph = 3 → ¬ wBl g 0 32) : stp g ph = ph := by
  by_cases hd : wBl g 0 31
  · rw [stp_data hj hd, if_neg (fun q => q.elim h1 (fun e => h2 e hd))]
  · rw [stp_no hj hd (fun q => h3 q.2 q.1), if_neg h1]
theorem sk_step {f : Nat → Int32} {c ph ph2 : Nat} {p q n : Int32} (h : c = cc f n.toInt.toNat p.toInt.toNat ph) (h0 : 0 ≤ p.toInt) (hp : p.toInt < n.toInt) (hq : q.toInt = ((lE f n.toInt.toNat p.toInt.toNat : Nat) : Int) + 1) (hs : stp (gT f p.toInt.toNat (lE f n.toInt.toNat p.toInt.toNat)) ph = ph2) (h4 : ¬ ph2 = 4) : c = cc f n.toInt.toNat q.toInt.toNat ph2 := by
  have e : q.toInt.toNat = lE f n.toInt.toNat p.toInt.toNat + 1 := by omega
  rw [h, cc_step (by omega) (by rw [hs]; exact h4), hs, e]
theorem sk_done {f : Nat → Int32} {c : Nat} {p q n : Int32} (h : c = cc f n.toInt.toNat p.toInt.toNat 3) (h0 : 0 ≤ p.toInt) (hp : p.toInt < n.toInt) (hq : q.toInt = ((lE f n.toInt.toNat p.toInt.toNat : Nat) : Int) + 1) (hj : ¬ jOK (gT f p.toInt.toNat (lE f n.toInt.toNat p.toInt.toNat))) (he : wBl (gT f p.toInt.toNat (lE f n.toInt.toNat p.toInt.toNat)) 0 32) : c = 1 + cc f n.toInt.toNat q.toInt.toNat 0 := by
  have e : q.toInt.toNat = lE f n.toInt.toNat p.toInt.toNat + 1 := by omega
  rw [h, cc_done (by omega) (stp_end hj (end_no_data he) he), e]
theorem sk_none {f : Nat → Int32} {c ph : Nat} {p n : Int32} (h : c = cc f n.toInt.toNat p.toInt.toNat ph) (hp : n.toInt ≤ p.toInt) : c = 0 := by
  rw [h]
  exact cc_end (by omega)
/-- the tape's bytes -/
def bK (x : Int32) (k : Nat) : Int32 := (x >>> (Int32.ofNat (24 - 8 * k) &&& 31)).toInt8.toInt32
theorem bK_at {x w : Int32} {k : Nat} (hk : k < 4) (hw : w.toInt = 24 - 8 * (k : Int)) : (x >>> (w &&& 31)).toInt8.toInt32 = bK x k := by
  have e : w = Int32.ofNat (24 - 8 * k) := by
    refine Int32.toInt_inj.mp ?_
    rw [Int32.toInt_ofNat_of_lt (by omega)]
    omega
  unfold bK
  rw [e]
/-- what two tapes that agree have in common -/
theorem lE_congr {f g : Nat → Int32} {n p : Nat} (h : ∀ i, i < n → f i = g i) : lE f n p = lE g n p := by
  obtain ⟨a1, a2, a3⟩ := lnE_spec (f := g) (n := n) (n - p) p (Nat.le_refl _)
  refine lE_uniq a1 (fun j h1 h2 => ?_) ?_
  · have := a2 j h1 h2
    exact ⟨this.1, by rw [h j this.1]; exact this.2⟩
  · by_cases hn : n ≤ lE g n p
    · exact Or.inl hn
    · rcases a3 with e | e
      · exact Or.inl e
      · exact Or.inr (by rw [h _ (by show lE g n p < n; omega)]; exact e)
theorem lE_le {f : Nat → Int32} {n p : Nat} (h : p < n) : lE f n p ≤ n := by
  obtain ⟨a1, a2, -⟩ := lnE_spec (f := f) (n := n) (n - p) p (Nat.le_refl _)
  have e : lE f n p = lnE f n (n - p) p := rfl
  by_cases hq : lE f n p ≤ n
  · exact hq
  · have := (a2 n (by omega) (by omega)).1
    omega
theorem gT_congr {f g : Nat → Int32} {n a b : Nat} (h : ∀ i, i < n → f i = g i) (hb : b ≤ n) : gT f a b = gT g a b := by
  funext j
  unfold gT
  by_cases hj : j < 80 ∧ a + j < b
  · rw [if_pos hj, if_pos hj, h (a + j) (by omega)]
  · rw [if_neg hj, if_neg hj]
theorem cJ_congr {f g : Nat → Int32} {n : Nat} (h : ∀ i, i < n → f i = g i) : ∀ k p ph, cJ f n k p ph = cJ g n k p ph := by
  intro k
  induction k with
  | zero => intro p ph; rfl
  | succ k ih =>
    intro p ph
    rw [cJ, cJ]
    by_cases hp : p < n
    · rw [if_pos hp, if_pos hp, lE_congr h, gT_congr h (lE_le (f := g) hp), ih, ih]
    · rw [if_neg hp, if_neg hp]
theorem cc_congr {f g : Nat → Int32} {n p ph : Nat} (h : ∀ i, i < n → f i = g i) : cc f n p ph = cc g n p ph := cJ_congr h _ _ _
/-! seek: one line more -/
section SEEK
variable {f ρ : Nat → Int32} {c ph : Nat} {p q n r1 r2 : Int32}
theorem sk_job (h : c = cc f n.toInt.toNat p.toInt.toNat ph) (h0 : 0 ≤ p.toInt) (hp : p.toInt < n.toInt) (hq : q.toInt = ((lE f n.toInt.toNat p.toInt.toNat : Nat) : Int) + 1) (hg : gR ρ = gT f p.toInt.toNat (lE f n.toInt.toNat p.toInt.toNat)) (hj : r1.toInt = 1 ↔ jOK (gR ρ)) (hr : r1.toInt = 1) : c = cc f n.toInt.toNat q.toInt.toNat (1 : Int).toNat :=
  sk_step h h0 hp hq (stp_job (by rw [← hg]; exact hj.mp hr)) (by decide)
theorem sk_body (h : c = cc f n.toInt.toNat p.toInt.toNat ph) (h0 : 0 ≤ p.toInt) (hp : p.toInt < n.toInt) (hq : q.toInt = ((lE f n.toInt.toNat p.toInt.toNat : Nat) : Int) + 1) (hg : gR ρ = gT f p.toInt.toNat (lE f n.toInt.toNat p.toInt.toNat)) (hj : r1.toInt = 1 ↔ jOK (gR ρ)) (hr : ¬ r1.toInt = 1) (hph : ph = 1) (hb : r2.toInt = 3 ∧ (aW ρ 0 13 ∧ ρ (sByt 13).length = 32) ∨ r2.toInt = 2 ∧ ¬ (aW ρ 0 13 ∧ ρ (sByt 13).length = 32)) : c = cc f n.toInt.toNat q.toInt.toNat r2.toInt.toNat := by
  have hj2 : ¬ jOK (gT f p.toInt.toNat (lE f n.toInt.toNat p.toInt.toNat)) := by rw [← hg]; exact fun z => hr (hj.mpr z)
  subst hph
  rcases hb with ⟨h3, hd⟩ | ⟨h2, hd⟩
  · refine sk_step h h0 hp hq ?_ (by omega)
    rw [stp_data hj2 (by rw [← hg]; exact card_data.mp hd), if_pos (Or.inl rfl)]
    omega
  · refine sk_step h h0 hp hq ?_ (by omega)
    rw [stp_no hj2 (by rw [← hg]; exact fun z => hd (card_data.mpr z)) (fun z => absurd z.2 (by decide)), if_pos rfl]
    omega
theorem sk_data (h : c = cc f n.toInt.toNat p.toInt.toNat ph) (h0 : 0 ≤ p.toInt) (hp : p.toInt < n.toInt) (hq : q.toInt = ((lE f n.toInt.toNat p.toInt.toNat : Nat) : Int) + 1) (hg : gR ρ = gT f p.toInt.toNat (lE f n.toInt.toNat p.toInt.toNat)) (hj : r1.toInt = 1 ↔ jOK (gR ρ)) (hr : ¬ r1.toInt = 1) (hph : ph = 2) (hd : aW ρ 0 13 ∧ ρ (sByt 13).length = 32) (h3 : r2.toInt = 3) : c = cc f n.toInt.toNat q.toInt.toNat r2.toInt.toNat := by
  have hj2 : ¬ jOK (gT f p.toInt.toNat (lE f n.toInt.toNat p.toInt.toNat)) := by rw [← hg]; exact fun z => hr (hj.mpr z)
  subst hph
  refine sk_step h h0 hp hq ?_ (by omega)
  rw [stp_data hj2 (by rw [← hg]; exact card_data.mp hd), if_pos (Or.inr rfl)]
  omega
theorem sk_keep (h : c = cc f n.toInt.toNat p.toInt.toNat ph) (h0 : 0 ≤ p.toInt) (hp : p.toInt < n.toInt) (hq : q.toInt = ((lE f n.toInt.toNat p.toInt.toNat : Nat) : Int) + 1) (hg : gR ρ = gT f p.toInt.toNat (lE f n.toInt.toNat p.toInt.toNat)) (hj : r1.toInt = 1 ↔ jOK (gR ρ)) (hr : ¬ r1.toInt = 1) (h1 : ¬ ph = 1) (h4 : ¬ ph = 4) (h2 : ph = 2 → ¬ (aW ρ 0 13 ∧ ρ (sByt 13).length = 32)) (h3 : ph = 3 → ¬ (aW ρ 0 16 ∧ ρ (sByt 16).length = 32)) : c = cc f n.toInt.toNat q.toInt.toNat ph := by
  have hj2 : ¬ jOK (gT f p.toInt.toNat (lE f n.toInt.toNat p.toInt.toNat)) := by rw [← hg]; exact fun z => hr (hj.mpr z)
  refine sk_step h h0 hp hq (stp_keep hj2 h1 (fun e z => h2 e (card_data.mpr (by rw [hg]; exact z))) (fun e z => h3 e (card_end.mpr (by rw [hg]; exact z)))) h4
theorem sk_fin (h : c = cc f n.toInt.toNat p.toInt.toNat ph) (h0 : 0 ≤ p.toInt) (hp : p.toInt < n.toInt) (hq : q.toInt = ((lE f n.toInt.toNat p.toInt.toNat : Nat) : Int) + 1) (hg : gR ρ = gT f p.toInt.toNat (lE f n.toInt.toNat p.toInt.toNat)) (hj : r1.toInt = 1 ↔ jOK (gR ρ)) (hr : ¬ r1.toInt = 1) (hph : ph = 3) (he : aW ρ 0 16 ∧ ρ (sByt 16).length = 32) : c = 1 + cc f n.toInt.toNat q.toInt.toNat 0 := by
  have hj2 : ¬ jOK (gT f p.toInt.toNat (lE f n.toInt.toNat p.toInt.toNat)) := by rw [← hg]; exact fun z => hr (hj.mpr z)
  subst hph
  exact sk_done h h0 hp hq hj2 (by rw [← hg]; exact card_end.mp he)
end SEEK
theorem cc_at {f : Nat → Int32} {n : Nat} {x : Int} (h : x = 0) : cc f n 0 0 = cc f n x.toNat 0 := by rw [h]; rfl
theorem jc_up {a k c1 c2 : Nat} (h : a = k + c1) (h1 : c1 = 1 + c2) : a = k + 1 + c2 := by omega
theorem jc_on {f : Nat → Int32} {n a k : Nat} {x y : Int} (h : a = k + cc f n x.toNat 0) (e : y = x) : a = k + cc f n y.toNat 0 := by rw [e]; exact h
/-! feed: twenty bytes more -/
def fdT (r0 r5 : Nat → Int32) (n : Int) (x1 x2 x3 x4 x5 : Int32) : Prop := (∀ i : Nat, (i : Int) < n → r5 i = r0 i) ∧ ∀ m k : Nat, m < 5 → k < 4 → r5 (n.toNat + 4 * m + k) = bK ([x1, x2, x3, x4, x5].getD m 0) k
theorem fd_all {r0 r1 r2 r3 r4 r5 : Nat → Int32} {n n1 n2 n3 n4 : Int} {x1 x2 x3 x4 x5 : Int32} (h0 : 0 ≤ n) (e1 : n1 = n + 4) (e2 : n2 = n1 + 4) (e3 : n3 = n2 + 4) (e4 : n4 = n3 + 4)
    (a1 : ∀ i : Nat, (i : Int) < n → r1 i = r0 i) (b1 : ∀ k : Nat, k < 4 → r1 (n.toNat + k) = bK x1 k) (a2 : ∀ i : Nat, (i : Int) < n1 → r2 i = r1 i) (b2 : ∀ k : Nat, k < 4 → r2 (n1.toNat + k) = bK x2 k) (a3 : ∀ i : Nat, (i : Int) < n2 → r3 i = r2 i) (b3 : ∀ k : Nat, k < 4 → r3 (n2.toNat + k) = bK x3 k) (a4 : ∀ i : Nat, (i : Int) < n3 → r4 i = r3 i) (b4 : ∀ k : Nat, k < 4 → r4 (n3.toNat + k) = bK x4 k) (a5 : ∀ i : Nat, (i : Int) < n4 → r5 i = r4 i) (b5 : ∀ k : Nat, k < 4 → r5 (n4.toNat + k) = bK x5 k) : fdT r0 r5 n x1 x2 x3 x4 x5 := by
  refine ⟨fun i hi => ?_, fun m k hm hk => ?_⟩
  · rw [a5 i (by omega), a4 i (by omega), a3 i (by omega), a2 i (by omega), a1 i hi]
  · match m, hm with
    | 0, _ => rw [show n.toNat + 4 * 0 + k = n.toNat + k by omega, a5 _ (by omega), a4 _ (by omega), a3 _ (by omega), a2 _ (by omega)]; exact b1 k hk
    | 1, _ => rw [show n.toNat + 4 * 1 + k = n1.toNat + k by omega, a5 _ (by omega), a4 _ (by omega), a3 _ (by omega)]; exact b2 k hk
    | 2, _ => rw [show n.toNat + 4 * 2 + k = n2.toNat + k by omega, a5 _ (by omega), a4 _ (by omega)]; exact b3 k hk
    | 3, _ => rw [show n.toNat + 4 * 3 + k = n3.toNat + k by omega, a5 _ (by omega)]; exact b4 k hk
    | 4, _ => rw [show n.toNat + 4 * 4 + k = n4.toNat + k by omega]; exact b5 k hk
theorem fd_agree {r0 r5 s0 s5 : Nat → Int32} {n : Int} {x1 x2 x3 x4 x5 : Int32} (h0 : 0 ≤ n) (h : fdT r0 r5 n x1 x2 x3 x4 x5) (h2 : fdT s0 s5 n x1 x2 x3 x4 x5) (ha : ∀ i : Nat, (i : Int) < n → r0 i = s0 i) : ∀ i : Nat, (i : Int) < n + 20 → r5 i = s5 i := by
  intro i hi
  by_cases hn : (i : Int) < n
  · rw [h.1 i hn, h2.1 i hn, ha i hn]
  · have e : i = n.toNat + 4 * ((i - n.toNat) / 4) + (i - n.toNat) % 4 := by omega
    rw [e, h.2 _ _ (by omega) (by omega), h2.2 _ _ (by omega) (by omega)]
/-! the reference's letters -/
def gD (t : tSt) (y : Int32) (j : Nat) : Int32 := if j < 80 then fDeck t y (Int32.ofNat (j + 1)) else 32
theorem gD_80 {t : tSt} {y : Int32} : ∀ j : Nat, 80 ≤ j → gD t y j = 32 := fun j hj => if_neg (by omega)
theorem dec_1 {v : Int32} (h : 1 ≤ v.toInt) : (v - 1).toInt = v.toInt - 1 := by
  have h1 : (1 : Int32).toInt = 1 := rfl
  have h2 := Int32.toInt_lt v
  rw [Int32.toInt_sub, h1]
  exact Int.bmod_eq_of_le (by omega) (by omega)
theorem gD_at {t : tSt} {y v : Int32} {j : Nat} (h : v.toInt = (j : Int) + 1) : fDeck t y v = gD t y j := by
  have hlt := Int32.toInt_lt v
  by_cases hj : j < 80
  · unfold gD
    rw [if_pos hj]
    have e : v = Int32.ofNat (j + 1) := by
      refine Int32.toInt_inj.mp ?_
      rw [Int32.toInt_ofNat_of_lt (by omega)]
      omega
    rw [e]
  · rw [gD_80 j (by omega)]
    unfold fDeck gL
    have := dec_1 (v := v) (by omega)
    rw [if_neg (fun hq => by have := hq.1; omega)]
theorem iw_new {t : tSt} {y c w v r q : Int32} {a i k : Nat} (hk : (k : Int) = w.toInt) (ha : c.toInt = (a : Int) + 1) (hc : r.toInt = q.toInt) (hv : v.toInt = c.toInt + w.toInt) (er : r = fDeck t y v) (eq : q = (sByt i).getD (w : Int32).toNatClampNeg 0) : gD t y (a + k) = (sByt i).getD k 0 := by
  have e : w.toNatClampNeg = k := by
    show w.toInt.toNat = k
    omega
  rw [e] at eq
  rw [← gD_at (v := v) (by omega), ← er, ← eq]
  exact Int32.toInt_inj.mp hc
theorem iw_no {t : tSt} {y c w v r q : Int32} {a i : Nat} (h : wBl (gD t y) a i) (er : r = fDeck t y v) (eq : q = (sByt i).getD (w : Int32).toNatClampNeg 0) (hc : ¬ r.toInt = q.toInt) (hw : 0 ≤ w.toInt) (hl : w.toInt < sL i) (ha : c.toInt = (a : Int) + 1) (hv : v.toInt = c.toInt + w.toInt) : False := by
  have hq : sL i = ((sByt i).length : Int) := rfl
  have h0 := h.1 w.toInt.toNat (by omega)
  have e : w.toNatClampNeg = w.toInt.toNat := rfl
  rw [← gD_at (v := v) (by omega), ← er, ← e, ← eq] at h0
  exact hc (congrArg Int32.toInt h0)
theorem iw_bl {t : tSt} {y v r : Int32} {a i : Nat} (hv : v.toInt = (a : Int) + 1 + sL i) (er : r = fDeck t y v) : r = gD t y (a + (sByt i).length) := by
  have hq : sL i = ((sByt i).length : Int) := rfl
  rw [er]
  exact gD_at (by omega)
theorem iw_0 {g : Nat → Int32} {a i : Nat} (h : wBl g a i → False) : (0 : Int) = 1 ↔ wBl g a i := ⟨fun z => absurd z (by decide), fun z => (h z).elim⟩
theorem iw_00 {g : Nat → Int32} {a i : Nat} {r : Int32} (e : r = g (a + (sByt i).length)) (h : ¬ r.toInt = 32) : (0 : Int) = 1 ↔ wBl g a i := ⟨fun z => absurd z (by decide), fun z => absurd (by rw [e, z.2]; rfl) h⟩
theorem iw_1 {g : Nat → Int32} {a i : Nat} {r : Int32} (h1 : ∀ k : Nat, k < (sByt i).length → g (a + k) = (sByt i).getD k 0) (e : r = g (a + (sByt i).length)) (h : r.toInt = 32) : (1 : Int) = 1 ↔ wBl g a i := ⟨fun _ => ⟨h1, by rw [← e]; exact Int32.toInt_inj.mp h⟩, fun _ => rfl⟩
/-- a job's line up to its options -/
def jX (g : Nat → Int32) (s d : Nat) : Prop := wBl g 0 25 ∧ 1 ≤ s ∧ s ≤ 10 ∧ (∀ j : Nat, j < s → anL (g (5 + j))) ∧ g (5 + s) = 32 ∧ 1 ≤ d ∧ d ≤ 5 ∧ (∀ j : Nat, j < d → dgL (g (6 + s + j))) ∧ g (6 + s + d) = 32
theorem jX_iff {g : Nat → Int32} {s d : Nat} (h : jX g s d) : jOK g ↔ oOK g (6 + s + d) := by
  obtain ⟨h0, h1, h2, h3, h4, h5, h6, h7, h8⟩ := h
  rw [jOK_iff h0 h3 (by rw [h4]; exact an_nb) h7 (by rw [h8]; exact dg_nb)]
  exact ⟨fun z => z.2.2.2.2.2, fun z => ⟨h1, h2, h4, h5, h6, z⟩⟩
theorem oN_blank {g : Nat → Int32} {a : Nat} (h : g a = 32) : ∀ k, g (oN g a k) = 32 := by
  intro k
  induction k with
  | zero => exact h
  | succ k ih =>
    by_cases hc : g (oN g a k) = 32 ∧ wBl g (oN g a k + 1) (oW k)
    · rw [oN_t hc]; exact hc.2.2
    · rw [oN_f hc]; exact ih
theorem opt_same : ∀ k : Nat, k < 5 → sByt (26 + k) = sByt (oW k) := by decide +kernel
theorem wBl_same {g : Nat → Int32} {c i j : Nat} (e : sByt i = sByt j) : wBl g c i ↔ wBl g c j := by unfold wBl wAt; rw [e]
/-- an option is there, or not -/
theorem jo_t {g : Nat → Int32} {k u : Nat} {w v q : Int32} (h : ∃ s d : Nat, jX g s d ∧ w.toInt = ((oN g (6 + s + d) k : Nat) : Int) + 1) (hk : k < 5) (hu : u = 26 + k) (hv : v.toInt = w.toInt + 1) (hb : wBl g (v.toInt - 1).toNat u) (hq : q.toInt = w.toInt + (1 + sL u)) : ∃ s d : Nat, jX g s d ∧ q.toInt = ((oN g (6 + s + d) (k + 1) : Nat) : Int) + 1 := by
  obtain ⟨s, d, hx, hw⟩ := h
  refine ⟨s, d, hx, ?_⟩
  have hl : sL u = ((sByt u).length : Int) := rfl
  have e : (v.toInt - 1).toNat = oN g (6 + s + d) k + 1 := by omega
  rw [e] at hb
  subst hu
  have hb2 := (wBl_same (opt_same k hk)).mp hb
  rw [oN_t ⟨oN_blank hx.2.2.2.2.2.2.2.2 k, hb2⟩, ← opt_same k hk]
  omega
theorem jo_f {g : Nat → Int32} {k u : Nat} {w v : Int32} (h : ∃ s d : Nat, jX g s d ∧ w.toInt = ((oN g (6 + s + d) k : Nat) : Int) + 1) (hk : k < 5) (hu : u = 26 + k) (hv : v.toInt = w.toInt + 1) (hb : ¬ wBl g (v.toInt - 1).toNat u) : ∃ s d : Nat, jX g s d ∧ w.toInt = ((oN g (6 + s + d) (k + 1) : Nat) : Int) + 1 := by
  obtain ⟨s, d, hx, hw⟩ := h
  refine ⟨s, d, hx, ?_⟩
  have e : (v.toInt - 1).toNat = oN g (6 + s + d) k + 1 := by omega
  rw [e] at hb
  subst hu
  rw [oN_f (fun z => hb ((wBl_same (opt_same k hk)).mpr z.2))]
  exact hw
theorem jr_no0 {g : Nat → Int32} {s : Nat} (hs : ∀ j : Nat, j < s → anL (g (5 + j))) (hs1 : ¬ anL (g (5 + s))) (h : s < 1 ∨ 10 < s ∨ ¬ g (5 + s) = 32) : ¬ jOK g := by
  rintro ⟨-, s2, d2, a1, a2, a3, a4, -⟩
  have hse : s2 = s := by
    rcases Nat.lt_trichotomy s2 s with h0 | h0 | h0
    · exact absurd (hs s2 h0) (by rw [a4]; exact an_nb)
    · exact h0
    · exact absurd (a3 s h0) hs1
  subst hse
  rcases h with h | h | h
  · omega
  · omega
  · exact h a4
theorem jr_no1 {g : Nat → Int32} {s d : Nat} (h80 : ∀ j, 80 ≤ j → g j = 32) (hw : wBl g 0 25) (hs : ∀ j : Nat, j < s → anL (g (5 + j))) (hs1 : g (5 + s) = 32) (hd : ∀ j : Nat, j < d → dgL (g (6 + s + j))) (hd1 : d = 5 ∨ ¬ dgL (g (6 + s + d))) (h : d < 1 ∨ ¬ g (6 + s + d) = 32) : ¬ jOK g := by
  have hsn : ¬ anL (g (5 + s)) := by rw [hs1]; exact an_nb
  by_cases hq : dgL (g (6 + s + d))
  · rcases hd1 with e | e
    · subst e
      refine jOK_digits hs hsn (fun j hj => ?_)
      by_cases h5 : j < 5
      · exact hd j h5
      · rw [show j = 5 by omega]; exact hq
    · exact absurd hq e
  · rw [jOK_iff hw hs hsn hd hq]
    rintro ⟨-, -, -, a4, -, a6⟩
    rcases h with h | h
    · omega
    · exact h (oOK_first a6 h80)
/-! the reference's *JOB line -/
theorem jl {t : tSt} {y w r : Int32} (hl : r = fDeck t y w) (hw : 1 ≤ w.toInt) : r = gD t y (w.toInt - 1).toNat := by
  rw [hl]
  exact gD_at (by omega)
theorem jz {P : Prop} (h : ¬ P) : (0 : Int) = 1 ↔ P := ⟨fun z => absurd z (by decide), fun z => absurd z h⟩
theorem jy {P : Prop} (h : P) : (1 : Int) = 1 ↔ P := ⟨fun _ => h, fun _ => rfl⟩
theorem ja_new {g : Nat → Int32} {w : Int32} {j : Nat} (h : anL (g (w.toInt - 1).toNat)) (hj : (j : Int) = w.toInt - 6) : anL (g (5 + j)) := by
  rw [show (w.toInt - 1).toNat = 5 + j by omega] at h
  exact h
theorem ja_q {t : tSt} {y w r : Int32} (hl : r = fDeck t y w) (h : anL r) (hw : 1 ≤ w.toInt) : anL (gD t y (w.toInt - 1).toNat) := by
  rw [← jl hl hw]
  exact h
theorem ja_n {t : tSt} {y w r q : Int32} (h1 : r = fDeck t y w) (hg : ¬ (65 ≤ r.toInt ∧ r.toInt ≤ 90)) (h2 : q = fDeck t y w) (hd : ¬ (48 ≤ q.toInt ∧ q.toInt ≤ 57)) (hw : 1 ≤ w.toInt) : ¬ anL (gD t y (w.toInt - 1).toNat) := by
  have e : q = r := h2.trans h1.symm
  rw [e] at hd
  rw [← jl h1 hw]
  exact fun z => z.elim hg hd
theorem jr0 {g : Nat → Int32} {w : Int32} (hs : ∀ j : Nat, (j : Int) < w.toInt - 6 → anL (g (5 + j))) (hn : ¬ anL (g (w.toInt - 1).toNat)) (hw : 6 ≤ w.toInt) (h : w.toInt = 6 ∨ 16 < w.toInt ∨ ¬ g (w.toInt - 1).toNat = 32) : (0 : Int) = 1 ↔ jOK g := by
  have e : (w.toInt - 1).toNat = 5 + (w.toInt - 6).toNat := by omega
  rw [e] at hn h
  refine jz (jr_no0 (s := (w.toInt - 6).toNat) (fun j hj => hs j (by omega)) hn ?_)
  rcases h with h | h | h
  · exact Or.inl (by omega)
  · exact Or.inr (Or.inl (by omega))
  · exact Or.inr (Or.inr h)
theorem ja_b {t : tSt} {y w r v : Int32} (hl : r = fDeck t y w) (hr : r.toInt = 32) (hv : v.toInt = w.toInt + 1) (hw : 1 ≤ w.toInt) : gD t y (v.toInt - 2).toNat = 32 := by
  rw [show (v.toInt - 2).toNat = (w.toInt - 1).toNat by omega, ← jl hl hw]
  exact Int32.toInt_inj.mp hr
theorem jd_new {t : tSt} {y w a r : Int32} {j : Nat} (hl : r = fDeck t y w) (h : 48 ≤ r.toInt ∧ r.toInt ≤ 57) (hj : (j : Int) = w.toInt - a.toInt) (ha : 1 ≤ a.toInt) : dgL (gD t y ((a.toInt - 1).toNat + j)) := by
  rw [show (a.toInt - 1).toNat + j = (w.toInt - 1).toNat by omega, ← jl hl (by omega)]
  exact h
theorem jd_no {t : tSt} {y w r : Int32} (hl : r = fDeck t y w) (h : ¬ (48 ≤ r.toInt ∧ r.toInt ≤ 57)) (hw : 1 ≤ w.toInt) : ¬ dgL (gD t y (w.toInt - 1).toNat) := by
  rw [← jl hl hw]
  exact h
theorem jr1 {g : Nat → Int32} {w a : Int32} (h80 : ∀ j : Nat, 80 ≤ j → g j = 32) (hw : wBl g 0 25) (hs : ∀ j : Nat, (j : Int) < a.toInt - 7 → anL (g (5 + j))) (hb : g (a.toInt - 2).toNat = 32) (h8 : 8 ≤ a.toInt) (hd : ∀ j : Nat, (j : Int) < w.toInt - a.toInt → dgL (g ((a.toInt - 1).toNat + j))) (hle : a.toInt ≤ w.toInt) (hex : w.toInt = a.toInt + 5 ∨ ¬ dgL (g (w.toInt - 1).toNat)) (h : w.toInt = a.toInt ∨ ¬ g (w.toInt - 1).toNat = 32) : (0 : Int) = 1 ↔ jOK g := by
  have e1 : (a.toInt - 2).toNat = 5 + (a.toInt - 7).toNat := by omega
  have e2 : (a.toInt - 1).toNat = 6 + (a.toInt - 7).toNat := by omega
  have e3 : (w.toInt - 1).toNat = 6 + (a.toInt - 7).toNat + (w.toInt - a.toInt).toNat := by omega
  rw [e1] at hb
  rw [e3] at hex h
  refine jz (jr_no1 (s := (a.toInt - 7).toNat) (d := (w.toInt - a.toInt).toNat) h80 hw (fun j hj => hs j (by omega)) hb (fun j hj => ?_) ?_ ?_)
  · have := hd j (by omega)
    rw [e2] at this
    exact this
  · rcases hex with q | q
    · exact Or.inl (by omega)
    · exact Or.inr q
  · rcases h with q | q
    · exact Or.inl (by omega)
    · exact Or.inr q
theorem jx_in {g : Nat → Int32} {w a : Int32} (hw : wBl g 0 25) (hs : ∀ j : Nat, (j : Int) < a.toInt - 7 → anL (g (5 + j))) (hb : g (a.toInt - 2).toNat = 32) (h8 : 8 ≤ a.toInt ∧ a.toInt ≤ 17) (hd : ∀ j : Nat, (j : Int) < w.toInt - a.toInt → dgL (g ((a.toInt - 1).toNat + j))) (hle : a.toInt < w.toInt ∧ w.toInt ≤ a.toInt + 5) (h : g (w.toInt - 1).toNat = 32) : ∃ s d : Nat, jX g s d ∧ w.toInt = ((oN g (6 + s + d) (0 : Int).toNat : Nat) : Int) + 1 := by
  have e1 : (a.toInt - 2).toNat = 5 + (a.toInt - 7).toNat := by omega
  have e2 : (a.toInt - 1).toNat = 6 + (a.toInt - 7).toNat := by omega
  have e3 : (w.toInt - 1).toNat = 6 + (a.toInt - 7).toNat + (w.toInt - a.toInt).toNat := by omega
  rw [e1] at hb
  rw [e3] at h
  refine ⟨(a.toInt - 7).toNat, (w.toInt - a.toInt).toNat, ⟨hw, by omega, by omega, fun j hj => hs j (by omega), hb, by omega, by omega, fun j hj => ?_, h⟩, ?_⟩
  · have := hd j (by omega)
    rw [e2] at this
    exact this
  · show w.toInt = ((6 + (a.toInt - 7).toNat + (w.toInt - a.toInt).toNat : Nat) : Int) + 1
    omega
theorem jx_o {g : Nat → Int32} {w k : Int32} (h : ∃ s d : Nat, jX g s d ∧ w.toInt = ((oN g (6 + s + d) k.toInt.toNat : Nat) : Int) + 1) (hk : k.toInt = 5) : ∃ s d : Nat, jX g s d ∧ ((oN g (6 + s + d) 5 : Nat) : Int) + 1 ≤ w.toInt ∧ ∀ j : Nat, oN g (6 + s + d) 5 ≤ j → (j : Int) < w.toInt - 1 → g j = 32 := by
  obtain ⟨s, d, hx, hw⟩ := h
  rw [show k.toInt.toNat = 5 by omega] at hw
  exact ⟨s, d, hx, by omega, fun j h1 h2 => by omega⟩
theorem jx_n {g : Nat → Int32} {w v : Int32} (h : ∃ s d : Nat, jX g s d ∧ ((oN g (6 + s + d) 5 : Nat) : Int) + 1 ≤ w.toInt ∧ ∀ j : Nat, oN g (6 + s + d) 5 ≤ j → (j : Int) < w.toInt - 1 → g j = 32) (hv : v.toInt = w.toInt + 1) (hb : g (w.toInt - 1).toNat = 32) : ∃ s d : Nat, jX g s d ∧ ((oN g (6 + s + d) 5 : Nat) : Int) + 1 ≤ v.toInt ∧ ∀ j : Nat, oN g (6 + s + d) 5 ≤ j → (j : Int) < v.toInt - 1 → g j = 32 := by
  obtain ⟨s, d, hx, hw, hj⟩ := h
  refine ⟨s, d, hx, by omega, fun j h1 h2 => ?_⟩
  by_cases e : (j : Int) < w.toInt - 1
  · exact hj j h1 e
  · rw [show j = (w.toInt - 1).toNat by omega]
    exact hb
theorem jx_no {g : Nat → Int32} {w : Int32} (h : ∃ s d : Nat, jX g s d ∧ ((oN g (6 + s + d) 5 : Nat) : Int) + 1 ≤ w.toInt ∧ ∀ j : Nat, oN g (6 + s + d) 5 ≤ j → (j : Int) < w.toInt - 1 → g j = 32) (h8 : w.toInt < 81) (hb : ¬ g (w.toInt - 1).toNat = 32) : (0 : Int) = 1 ↔ jOK g := by
  obtain ⟨s, d, hx, hw, -⟩ := h
  refine jz (fun z => hb ?_)
  exact (jX_iff hx).mp z _ (by omega) (by omega)
theorem jx_yes {g : Nat → Int32} {w : Int32} (h : ∃ s d : Nat, jX g s d ∧ ((oN g (6 + s + d) 5 : Nat) : Int) + 1 ≤ w.toInt ∧ ∀ j : Nat, oN g (6 + s + d) 5 ≤ j → (j : Int) < w.toInt - 1 → g j = 32) (h8 : 81 ≤ w.toInt) : (1 : Int) = 1 ↔ jOK g := by
  obtain ⟨s, d, hx, -, hj⟩ := h
  exact jy ((jX_iff hx).mpr (fun j h1 h2 => hj j h1 (by omega)))
/-! the reference's deck: lines by number -/
def dkR (f dF dT : Nat → Int32) (K : Int) (n : Nat) : Prop := (∀ l : Nat, (l : Int) < K → 0 ≤ (dF l).toInt ∧ (dF l).toInt < (n : Int) ∧ (dT l).toInt = ((lE f n (dF l).toInt.toNat : Nat) : Int)) ∧ (∀ l : Nat, (l : Int) + 1 < K → (dF (l + 1)).toInt = (dT l).toInt + 1) ∧ ∀ l : Nat, (l : Int) + 1 = K → (n : Int) ≤ (dT l).toInt + 1
/-- the deck while it is laid: w is the next line's place -/
def dkI (f dF dT : Nat → Int32) (K w : Int) (n : Nat) : Prop := (∀ l : Nat, (l : Int) < K → 0 ≤ (dF l).toInt ∧ (dF l).toInt < (n : Int) ∧ (dT l).toInt = ((lE f n (dF l).toInt.toNat : Nat) : Int)) ∧ (∀ l : Nat, (l : Int) + 1 < K → (dF (l + 1)).toInt = (dT l).toInt + 1) ∧ (∀ l : Nat, (l : Int) + 1 = K → w = (dT l).toInt + 1) ∧ (0 < K → (dF 0).toInt = 0) ∧ (K = 0 → w = 0)
def pS (dF : Nat → Int32) (K : Int) (n l : Nat) : Nat := if (l : Int) < K then (dF l).toInt.toNat else n
theorem dkI_0 {f dF dT : Nat → Int32} {n : Nat} : dkI f dF dT 0 0 n := ⟨fun l h => by omega, fun l h => by omega, fun l h => by omega, fun h => by omega, fun _ => rfl⟩
theorem dkI_up {f dF dT : Nat → Int32} {k w r : Int32} {n : Nat} {K2 q2 : Int} (h : dkI f dF dT k.toInt w.toInt n) (hk : 0 ≤ k.toInt) (hw : 0 ≤ w.toInt ∧ w.toInt < (n : Int)) (hr : r.toInt = ((lE f n w.toInt.toNat : Nat) : Int)) (hK : K2 = k.toInt + 1) (hq : q2 = r.toInt + 1) : dkI f (upd dF (k : Int32).toNatClampNeg w) (upd dT (k : Int32).toNatClampNeg r) K2 q2 n := by
  obtain ⟨h1, h2, h3, h4, h5⟩ := h
  have e : k.toNatClampNeg = k.toInt.toNat := rfl
  have old : ∀ l : Nat, (l : Int) < k.toInt → upd dF (k : Int32).toNatClampNeg w l = dF l ∧ upd dT (k : Int32).toNatClampNeg r l = dT l := fun l hl => ⟨pk_un (by omega), pk_un (by omega)⟩
  have new : upd dF (k : Int32).toNatClampNeg w k.toInt.toNat = w ∧ upd dT (k : Int32).toNatClampNeg r k.toInt.toNat = r := ⟨pk_us, pk_us⟩
  refine ⟨fun l hl => ?_, fun l hl => ?_, fun l hl => ?_, fun _ => ?_, fun h0 => by omega⟩
  · by_cases hq : (l : Int) < k.toInt
    · rw [(old l hq).1, (old l hq).2]; exact h1 l hq
    · rw [show l = k.toInt.toNat by omega, new.1, new.2]
      exact ⟨hw.1, hw.2, hr⟩
  · by_cases hq : (l : Int) + 1 < k.toInt
    · rw [(old l (by omega)).2, (old (l + 1) (by omega)).1]; exact h2 l hq
    · rw [(old l (by omega)).2, show l + 1 = k.toInt.toNat by omega, new.1]
      exact h3 l (by omega)
  · rw [show l = k.toInt.toNat by omega, new.2]
    exact hq
  · by_cases hz : k.toInt = 0
    · rw [show (0 : Nat) = k.toInt.toNat by omega, new.1]
      exact h5 hz
    · rw [(old 0 (by omega)).1]; exact h4 (by omega)
theorem dkI_R {f dF dT : Nat → Int32} {K w : Int} {n : Nat} (h : dkI f dF dT K w n) (hw : (n : Int) ≤ w) : dkR f dF dT K n := ⟨h.1, h.2.1, fun l hl => by rw [← h.2.2.1 l hl]; exact hw⟩
theorem dkI_p {f dF dT : Nat → Int32} {K w : Int} {n : Nat} (h : dkI f dF dT K w n) (hw : (n : Int) ≤ w) (hK : 0 ≤ K) : cc f n 0 0 = cc f n (pS dF K n 0) 0 := by
  unfold pS
  by_cases hz : 0 < K
  · rw [if_pos (show ((0 : Nat) : Int) < K from hz), h.2.2.2.1 hz]; rfl
  · rw [if_neg (show ¬ ((0 : Nat) : Int) < K from hz), cc_end (Nat.le_refl n), cc_end (by have := h.2.2.2.2 (by omega); omega)]
section DECK
variable {f dF dT : Nat → Int32} {K : Int} {n l ph : Nat}
theorem ps_in (hl : (l : Int) < K) : pS dF K n l = (dF l).toInt.toNat := if_pos hl
theorem ps_out (hl : K ≤ (l : Int)) : pS dF K n l = n := if_neg (by omega)
theorem ps_z (hl : K ≤ (l : Int)) : cc f n (pS dF K n l) ph = 0 := by rw [ps_out hl]; exact cc_end (Nat.le_refl n)
theorem ps_next (h : dkR f dF dT K n) (hl : (l : Int) < K) : cc f n (lE f n (pS dF K n l) + 1) ph = cc f n (pS dF K n (l + 1)) ph := by
  obtain ⟨h1, h2, h3⟩ := h
  have a := h1 l hl
  rw [ps_in hl]
  by_cases hq : (l : Int) + 1 < K
  · rw [ps_in (show ((l + 1 : Nat) : Int) < K by omega), h2 l hq, a.2.2]
    congr 1
  · rw [ps_out (show K ≤ ((l + 1 : Nat) : Int) by omega), cc_end (Nat.le_refl n), cc_end]
    have := h3 l (by omega)
    omega
/-- the letters of line l -/
def gl (f dF dT : Nat → Int32) (l : Nat) : Nat → Int32 := gT f (dF l).toInt.toNat (dT l).toInt.toNat
theorem gl_eq (h : dkR f dF dT K n) (hl : (l : Int) < K) : gl f dF dT l = gT f (pS dF K n l) (lE f n (pS dF K n l)) := by
  have a := (h.1 l hl).2.2
  unfold gl
  rw [ps_in hl, a]
  rfl
theorem ps_lt (h : dkR f dF dT K n) (hl : (l : Int) < K) : pS dF K n l < n := by
  have a := h.1 l hl
  rw [ps_in hl]; omega
theorem ps_step (h : dkR f dF dT K n) (hl : (l : Int) < K) {ph2 : Nat} (hs : stp (gl f dF dT l) ph = ph2) (h4 : ¬ ph2 = 4) : cc f n (pS dF K n l) ph = cc f n (pS dF K n (l + 1)) ph2 := by
  rw [gl_eq h hl] at hs
  rw [cc_step (ps_lt h hl) (by rw [hs]; exact h4), hs, ps_next h hl]
theorem ps_done (h : dkR f dF dT K n) (hl : (l : Int) < K) (hs : stp (gl f dF dT l) ph = 4) : cc f n (pS dF K n l) ph = 1 + cc f n (pS dF K n (l + 1)) 0 := by
  rw [gl_eq h hl] at hs
  rw [cc_done (ps_lt h hl) hs, ps_next h hl]
theorem ps_job (h : dkR f dF dT K n) (hl : (l : Int) < K) (hj : jOK (gl f dF dT l)) : cc f n (pS dF K n l) ph = cc f n (pS dF K n (l + 1)) 1 := ps_step h hl (stp_job hj) (by decide)
/-- lines that are no card of the kind that is sought -/
theorem ps_skip1 (h : dkR f dF dT K n) : ∀ m a : Nat, ((a + m : Nat) : Int) ≤ K → (∀ i : Nat, a ≤ i → i < a + m → ¬ wBl (gl f dF dT i) 0 31 ∧ ¬ jOK (gl f dF dT i)) → cc f n (pS dF K n a) 2 = cc f n (pS dF K n (a + m)) 2 := by
  intro m
  induction m with
  | zero => intro a _ _; rfl
  | succ m ih =>
    intro a hK hi
    have q := hi a (Nat.le_refl _) (by omega)
    rw [ps_step h (by omega) (stp_keep q.2 (by decide) (fun _ => q.1) (fun e => absurd e (by decide))) (by decide), ih (a + 1) (by omega) (fun i h1 h2 => hi i (by omega) (by omega)), show a + 1 + m = a + (m + 1) by omega]
theorem ps_skip3 (h : dkR f dF dT K n) : ∀ m a : Nat, ((a + m : Nat) : Int) ≤ K → (∀ i : Nat, a ≤ i → i < a + m → ¬ wBl (gl f dF dT i) 0 32 ∧ ¬ jOK (gl f dF dT i)) → cc f n (pS dF K n a) 3 = cc f n (pS dF K n (a + m)) 3 := by
  intro m
  induction m with
  | zero => intro a _ _; rfl
  | succ m ih =>
    intro a hK hi
    have q := hi a (Nat.le_refl _) (by omega)
    rw [ps_step h (by omega) (stp_keep q.2 (by decide) (fun e => absurd e (by decide)) (fun _ => q.1)) (by decide), ih (a + 1) (by omega) (fun i h1 h2 => hi i (by omega) (by omega)), show a + 1 + m = a + (m + 1) by omega]
theorem job_no_data {g : Nat → Int32} (h : wBl g 0 31) : ¬ jOK g := by
  rintro ⟨q, -⟩
  have l1 : 1 < (sByt 25).length := by decide +kernel
  have l2 : 1 < (sByt 31).length := by decide +kernel
  have a := h.1 1 l2
  have b := q.1 1 l1
  rw [a] at b
  exact absurd b (by decide +kernel)
theorem job_no_end {g : Nat → Int32} (h : wBl g 0 32) : ¬ jOK g := by
  rintro ⟨q, -⟩
  have l1 : 1 < (sByt 25).length := by decide +kernel
  have l2 : 1 < (sByt 32).length := by decide +kernel
  have a := h.1 1 l2
  have b := q.1 1 l1
  rw [a] at b
  exact absurd b (by decide +kernel)
/-- behind a *JOB line: to the line that search finds -/
theorem ps_body (h : dkR f dF dT K n) {a d : Nat} (had : a ≤ d) (hd : (d : Int) ≤ K) (hi : ∀ i : Nat, a ≤ i → i < d → ¬ wBl (gl f dF dT i) 0 31 ∧ ¬ jOK (gl f dF dT i)) : ∃ ph : Nat, (ph = 1 ∨ ph = 2) ∧ cc f n (pS dF K n a) 1 = cc f n (pS dF K n d) ph := by
  by_cases e : a = d
  · exact ⟨1, Or.inl rfl, by rw [e]⟩
  · refine ⟨2, Or.inr rfl, ?_⟩
    have q := hi a (Nat.le_refl _) (by omega)
    have hs : stp (gl f dF dT a) 1 = 2 := by rw [stp_no q.2 q.1 (fun z => absurd z.2 (by decide)), if_pos rfl]
    rw [ps_step h (by omega) hs (by decide), ps_skip1 h (d - (a + 1)) (a + 1) (by omega) (fun i h1 h2 => hi i (by omega) (by omega)), show a + 1 + (d - (a + 1)) = d by omega]
/-- no data, or another job, or the deck's end -/
theorem ps_P23 (h : dkR f dF dT K n) {a d : Nat} (hl : (l : Int) < K) (hj : jOK (gl f dF dT l)) (ha : a = l + 1) (had : a ≤ d) (hd : (d : Int) ≤ K) (hi : ∀ i : Nat, a ≤ i → i < d → ¬ wBl (gl f dF dT i) 0 31 ∧ ¬ jOK (gl f dF dT i)) (hq : (d : Int) < K → jOK (gl f dF dT d)) : cc f n (pS dF K n l) 0 = cc f n (pS dF K n d) 0 := by
  subst ha
  obtain ⟨ph, -, e⟩ := ps_body h had hd hi
  rw [ps_job h hl hj, e]
  by_cases hz : (d : Int) < K
  · rw [ps_job (ph := ph) h hz (hq hz), ps_job (ph := 0) h hz (hq hz)]
  · rw [ps_z (by omega), ps_z (by omega)]
theorem ps_data (h : dkR f dF dT K n) {a d : Nat} (hl : (l : Int) < K) (hj : jOK (gl f dF dT l)) (ha : a = l + 1) (had : a ≤ d) (hd : (d : Int) < K) (hi : ∀ i : Nat, a ≤ i → i < d → ¬ wBl (gl f dF dT i) 0 31 ∧ ¬ jOK (gl f dF dT i)) (hw : wBl (gl f dF dT d) 0 31) : cc f n (pS dF K n l) 0 = cc f n (pS dF K n (d + 1)) 3 := by
  subst ha
  obtain ⟨ph, hp, e⟩ := ps_body h had (by omega) hi
  rw [ps_job h hl hj, e]
  refine ps_step h hd ?_ (by decide)
  rw [stp_data (job_no_data hw) hw, if_pos hp]
theorem ps_P45 (h : dkR f dF dT K n) {b e : Nat} {c : Nat} (hc : c = cc f n (pS dF K n b) 3) (hbe : b ≤ e) (he : (e : Int) ≤ K) (hi : ∀ i : Nat, b ≤ i → i < e → ¬ wBl (gl f dF dT i) 0 32 ∧ ¬ jOK (gl f dF dT i)) (hq : (e : Int) < K → jOK (gl f dF dT e)) : c = cc f n (pS dF K n e) 0 := by
  rw [hc, ps_skip3 h (e - b) b (by omega) (fun i h1 h2 => hi i h1 (by omega)), show b + (e - b) = e by omega]
  by_cases hz : (e : Int) < K
  · rw [ps_job (ph := 3) h hz (hq hz), ps_job (ph := 0) h hz (hq hz)]
  · rw [ps_z (by omega), ps_z (by omega)]
theorem ps_P6 (h : dkR f dF dT K n) {b e : Nat} {c : Nat} (hc : c = cc f n (pS dF K n b) 3) (hbe : b ≤ e) (he : (e : Int) < K) (hi : ∀ i : Nat, b ≤ i → i < e → ¬ wBl (gl f dF dT i) 0 32 ∧ ¬ jOK (gl f dF dT i)) (hw : wBl (gl f dF dT e) 0 32) : c = 1 + cc f n (pS dF K n (e + 1)) 0 := by
  rw [hc, ps_skip3 h (e - b) b (by omega) (fun i h1 h2 => hi i h1 (by omega)), show b + (e - b) = e by omega]
  exact ps_done h he (stp_end (job_no_end hw) (end_no_data hw) hw)
theorem ps_P1 (h : dkR f dF dT K n) (hl : (l : Int) < K) (hj : ¬ jOK (gl f dF dT l)) : cc f n (pS dF K n l) 0 = cc f n (pS dF K n (l + 1)) 0 := ps_step h hl (stp_keep hj (by decide) (fun e => absurd e (by decide)) (fun e => absurd e (by decide))) (by decide)
end DECK
theorem leP_lE {f : Nat → Int32} {a b r : Int32} (h : leP f a b r) (ha : 0 ≤ a.toInt) : r.toInt = ((lE f b.toInt.toNat a.toInt.toNat : Nat) : Int) := by
  obtain ⟨h1, h2, h3⟩ := h
  have e : lE f b.toInt.toNat a.toInt.toNat = r.toInt.toNat := by
    refine lE_uniq (by omega) (fun j hj1 hj2 => ?_) ?_
    · have hr := Int32.toInt_lt r
      have ej : (Int32.ofNat j).toInt = (j : Int) := Int32.toInt_ofNat_of_lt (by omega)
      have q := h2 (Int32.ofNat j) (by omega) (by omega)
      have en : (Int32.ofNat j).toNatClampNeg = j := by
        show (Int32.ofNat j).toInt.toNat = j
        omega
      rw [en] at q
      exact ⟨by omega, fun z => q.2 (by rw [z]; rfl)⟩
    · rcases h3 with q | q
      · exact Or.inl (by omega)
      · exact Or.inr (Int32.toInt_inj.mp q)
  rw [e]
  omega
theorem gD_same {t u : tSt} (h1 : t.2.2.1 36 = u.2.2.1 36) (h2 : t.2.2.1 37 = u.2.2.1 37) (h3 : t.2.2.1 38 = u.2.2.1 38) : gD t = gD u := by
  funext y j
  unfold gD fDeck
  rw [h1, h2, h3]
theorem gD_gl {t : tSt} {f : Nat → Int32} {K : Int} {n : Nat} (h : dkR f (t.2.2.1 37) (t.2.2.1 38) K n) (hn : n ≤ 1280) (hx : ∀ i : Nat, i < n → (t.2.2.1 36) i = f i) : ∀ y : Int32, 0 ≤ y.toInt → y.toInt < K → gD t y = gl f (t.2.2.1 37) (t.2.2.1 38) y.toInt.toNat := by
  intro y h0 hy
  have a := h.1 y.toInt.toNat (by omega)
  have ey : y.toNatClampNeg = y.toInt.toNat := rfl
  funext j
  unfold gl gT
  by_cases hj : j < 80
  · unfold gD
    rw [if_pos hj]
    unfold fDeck gL
    rw [ey]
    have e1 : (Int32.ofNat (j + 1)).toInt = (j : Int) + 1 := by rw [Int32.toInt_ofNat_of_lt (by omega)]; omega
    have e2 : (Int32.ofNat (j + 1) - 1).toInt = (j : Int) := by rw [dec_1 (by omega), e1]; omega
    have e3 : ((t.2.2.1 37) y.toInt.toNat + (Int32.ofNat (j + 1) - 1)).toInt = ((t.2.2.1 37) y.toInt.toNat).toInt + (j : Int) := by
      rw [Int32.toInt_add, e2]
      exact Int.bmod_eq_of_le (by omega) (by omega)
    have hle := lE_le (f := f) (n := n) (p := ((t.2.2.1 37) y.toInt.toNat).toInt.toNat) (by omega)
    by_cases hb : ((t.2.2.1 37) y.toInt.toNat).toInt.toNat + j < ((t.2.2.1 38) y.toInt.toNat).toInt.toNat
    · rw [if_pos ⟨by omega, by omega⟩, if_pos ⟨hj, hb⟩]
      have e4 : ((t.2.2.1 37) y.toInt.toNat + (Int32.ofNat (j + 1) - 1)).toNatClampNeg = ((t.2.2.1 37) y.toInt.toNat).toInt.toNat + j := by
        show ((t.2.2.1 37) y.toInt.toNat + (Int32.ofNat (j + 1) - 1)).toInt.toNat = _
        omega
      rw [e4, hx _ (by omega)]
    · rw [if_neg (fun q => hb (by have := q.2; omega)), if_neg (fun q => hb q.2)]
  · rw [gD_80 j (by omega), if_neg (fun q => hj q.1)]
theorem sr_nat {t : tSt} {f dF dT : Nat → Int32} {K : Int} {x r : Int32} {w : Nat} (h : ∀ i : Int32, x.toInt ≤ i.toInt → i.toInt < r.toInt → ¬ wBl (gD t i) 0 w ∧ ¬ jOK (gD t i)) (hg : ∀ y : Int32, 0 ≤ y.toInt → y.toInt < K → gD t y = gl f dF dT y.toInt.toNat) (hx : 0 ≤ x.toInt) (hr : r.toInt ≤ K) : ∀ i : Nat, x.toInt.toNat ≤ i → i < r.toInt.toNat → ¬ wBl (gl f dF dT i) 0 w ∧ ¬ jOK (gl f dF dT i) := by
  intro i h1 h2
  have hlt := Int32.toInt_lt r
  have ei : (Int32.ofNat i).toInt = (i : Int) := Int32.toInt_ofNat_of_lt (by omega)
  have q := h (Int32.ofNat i) (by omega) (by omega)
  rw [hg (Int32.ofNat i) (by omega) (by omega), show (Int32.ofNat i).toInt.toNat = i by omega] at q
  exact q
theorem jc_go {f dF dF2 : Nat → Int32} {K K2 : Int} {n l c m : Nat} (eF : dF2 = dF) (eK : K2 = K) (h : c = m + cc f n (pS dF K n l) 0) : c = m + cc f n (pS dF2 K2 n l) 0 := by
  subst eF; subst eK; exact h
section JP
variable {f dF dT : Nat → Int32} {K : Int} {n c m m2 : Nat} {w v x r y q : Int32}
theorem jP1 (h : c = m + cc f n (pS dF K n w.toInt.toNat) 0) (hR : dkR f dF dT K n) (hl : 0 ≤ w.toInt ∧ w.toInt < K) (hj : ¬ jOK (gl f dF dT w.toInt.toNat)) (em : m2 = m) (ev : v.toInt = w.toInt + 1) : c = m2 + cc f n (pS dF K n v.toInt.toNat) 0 := by
  rw [h, em, ps_P1 hR (by omega) hj, show v.toInt.toNat = w.toInt.toNat + 1 by omega]
theorem jP2 (h : c = m + cc f n (pS dF K n w.toInt.toNat) 0) (hR : dkR f dF dT K n) (hl : 0 ≤ w.toInt ∧ w.toInt < K) (hj : jOK (gl f dF dT w.toInt.toNat)) (hi : ∀ i : Nat, x.toInt.toNat ≤ i → i < r.toInt.toNat → ¬ wBl (gl f dF dT i) 0 31 ∧ ¬ jOK (gl f dF dT i)) (hx : x.toInt = w.toInt + 1 ∧ x.toInt ≤ r.toInt ∧ r.toInt ≤ K) (hq : r.toInt < K → jOK (gl f dF dT r.toInt.toNat)) (em : m2 = m) : c = m2 + cc f n (pS dF K n r.toInt.toNat) 0 := by
  rw [h, em, ps_P23 hR (by omega) hj (a := x.toInt.toNat) (d := r.toInt.toNat) (by omega) (by omega) (by omega) hi (fun z => hq (by omega))]
theorem jPd (h : c = m + cc f n (pS dF K n w.toInt.toNat) 0) (hR : dkR f dF dT K n) (hl : 0 ≤ w.toInt ∧ w.toInt < K) (hj : jOK (gl f dF dT w.toInt.toNat)) (hi : ∀ i : Nat, x.toInt.toNat ≤ i → i < r.toInt.toNat → ¬ wBl (gl f dF dT i) 0 31 ∧ ¬ jOK (gl f dF dT i)) (hx : x.toInt = w.toInt + 1 ∧ x.toInt ≤ r.toInt ∧ r.toInt < K) (hd : wBl (gl f dF dT r.toInt.toNat) 0 31) (hy : y.toInt = r.toInt + 1) : c = m + cc f n (pS dF K n y.toInt.toNat) 3 := by
  rw [h, ps_data hR (by omega) hj (a := x.toInt.toNat) (d := r.toInt.toNat) (by omega) (by omega) (by omega) hi hd, show y.toInt.toNat = r.toInt.toNat + 1 by omega]
theorem jP4 (h : c = m + cc f n (pS dF K n y.toInt.toNat) 3) (hR : dkR f dF dT K n) (hi : ∀ i : Nat, y.toInt.toNat ≤ i → i < q.toInt.toNat → ¬ wBl (gl f dF dT i) 0 32 ∧ ¬ jOK (gl f dF dT i)) (hx : 0 ≤ y.toInt ∧ y.toInt ≤ q.toInt ∧ q.toInt ≤ K) (hq : q.toInt < K → jOK (gl f dF dT q.toInt.toNat)) (em : m2 = m) : c = m2 + cc f n (pS dF K n q.toInt.toNat) 0 := by
  rw [h, em, ps_P45 (c := cc f n (pS dF K n y.toInt.toNat) 3) hR rfl (e := q.toInt.toNat) (by omega) (by omega) hi (fun z => hq (by omega))]
theorem jP6 (h : c = m + cc f n (pS dF K n y.toInt.toNat) 3) (hR : dkR f dF dT K n) (hi : ∀ i : Nat, y.toInt.toNat ≤ i → i < q.toInt.toNat → ¬ wBl (gl f dF dT i) 0 32 ∧ ¬ jOK (gl f dF dT i)) (hx : 0 ≤ y.toInt ∧ y.toInt ≤ q.toInt ∧ q.toInt < K) (he : wBl (gl f dF dT q.toInt.toNat) 0 32) (em : m2 = m + 1) (hv : v.toInt = q.toInt + 1) : c = m2 + cc f n (pS dF K n v.toInt.toNat) 0 := by
  rw [h, em, ps_P6 (c := cc f n (pS dF K n y.toInt.toNat) 3) hR rfl (e := q.toInt.toNat) (by omega) (by omega) hi he, show v.toInt.toNat = q.toInt.toNat + 1 by omega]
  omega
theorem jPz (h : c = m + cc f n (pS dF K n w.toInt.toNat) 0) (hw : K ≤ w.toInt ∧ 0 ≤ w.toInt) (hm : v.toInt = (m : Int)) : v.toInt = ((c : Nat) : Int) := by
  rw [h, ps_z (by omega)]
  omega
end JP
theorem bU_no {x v : Int32} (hv : v = x &&& 255) (h : ¬ (97 ≤ v.toInt ∧ v.toInt ≤ 122)) : v = bU x := by
  subst hv
  unfold bU
  rw [if_neg h]
theorem bU_dn {x v w : Int32} (hv : v = x &&& 255) (h : 97 ≤ v.toInt ∧ v.toInt ≤ 122) (hw : w = v + (-32)) : w = bU x := by
  subst hv
  unfold bU
  rw [if_pos h, hw, Int32.sub_eq_add_neg]
theorem or_bit {a k s v : Int32} (hv : v = a ||| s) (hs : s = 1 <<< (k &&& 31)) (ha : 0 ≤ a.toInt ∧ a.toInt ≤ 31) (hk : 0 ≤ k.toInt ∧ k.toInt ≤ 4) : 0 ≤ v.toInt ∧ v.toInt ≤ 31 := by
  have key : ∀ x : Fin 32, ∀ y : Fin 5, 0 ≤ (Int32.ofNat x.val ||| (1 <<< (Int32.ofNat y.val &&& 31))).toInt ∧ (Int32.ofNat x.val ||| (1 <<< (Int32.ofNat y.val &&& 31))).toInt ≤ 31 := by decide +kernel
  have e1 : a = Int32.ofNat a.toInt.toNat := by
    refine Int32.toInt_inj.mp ?_
    rw [Int32.toInt_ofNat_of_lt (by omega)]
    omega
  have e2 : k = Int32.ofNat k.toInt.toNat := by
    refine Int32.toInt_inj.mp ?_
    rw [Int32.toInt_ofNat_of_lt (by omega)]
    omega
  rw [hv, hs, e1, e2]
  exact key ⟨a.toInt.toNat, by omega⟩ ⟨k.toInt.toNat, by omega⟩
theorem on_go {g : Nat → Int32} {a : Nat} {w v u : Int32} (h : w.toInt = ((oN g a (u.toInt.toNat + 1) : Nat) : Int)) (hv : v.toInt = u.toInt + 1) (h0 : 0 ≤ u.toInt) : w.toInt = ((oN g a v.toInt.toNat : Nat) : Int) := by
  rw [show v.toInt.toNat = u.toInt.toNat + 1 by omega]
  exact h
theorem on_0 {g : Nat → Int32} {x : Int} (h : 0 ≤ x) : x = ((oN g x.toNat (0 : Int).toNat : Nat) : Int) := by
  show x = ((x.toNat : Nat) : Int)
  omega
theorem on_5 {g : Nat → Int32} {a : Nat} {w k : Int32} (h : w.toInt = ((oN g a k.toInt.toNat : Nat) : Int)) (hk : k.toInt = 5) : w.toInt = ((oN g a 5 : Nat) : Int) := by
  rw [show k.toInt.toNat = 5 by omega] at h
  exact h
theorem jc_nx {f : Nat → Int32} {n a : Nat} {w v : Int32} {x y : Int} (h : a = (w.toInt.toNat + 1) + cc f n x.toNat 0) (hv : v.toInt = w.toInt + 1) (h0 : 0 ≤ w.toInt) (e : y = x) : a = v.toInt.toNat + cc f n y.toNat 0 := by
  rw [e, show v.toInt.toNat = w.toInt.toNat + 1 by omega]
  exact h
theorem jc_st {f : Nat → Int32} {n : Nat} {x : Int} (h : x = 0) : cc f n 0 0 = (0 : Int).toNat + cc f n x.toNat 0 := by
  rw [h]
  show _ = 0 + cc f n 0 0
  omega
theorem jc_0 {a c : Nat} {w : Int32} (h : a = w.toInt.toNat + c) (hc : c = 0) (hw : 0 ≤ w.toInt) : w.toInt = ((a : Nat) : Int) := by omega
theorem jc_no {f : Nat → Int32} {n c : Nat} {w : Int32} (h : cc f n 0 0 = w.toInt.toNat + c) (hn : n ≤ 1280) (hw : 512 ≤ w.toInt) : False := by
  have hq := cc_le (f := f) (n := n) (n - 0) 0 0 (Nat.le_refl _) (by omega)
  have e : wP 0 = 0 := rfl
  omega
theorem b8_id (y : Int32) : (y.toInt8.toInt32).toInt8.toInt32 = y.toInt8.toInt32 := by simp
theorem bK_st {x w s a q : Int32} {k : Nat} (eq2 : q = vp_nar .byte a) (eq1 : a = s.toInt8.toInt32) (es : s = x >>> (w &&& 31)) (hk : k < 4) (hw : w.toInt = 24 - 8 * (k : Int)) : q = bK x k := by
  rw [eq2, eq1]
  show (s.toInt8.toInt32).toInt8.toInt32 = _
  rw [b8_id, es]
  exact bK_at hk hw
theorem uF_ne {t : tSt} {j k : Nat} {f : Nat → Int32} (h : (k == j) = false) : (uF t j f).2.2.1 k = t.2.2.1 k := by
  have : ¬ k = j := fun e => by rw [e] at h; simp at h
  exact if_neg this
theorem dkR_go {f dF dT dF2 dT2 : Nat → Int32} {K K2 : Int} {n : Nat} (eF : dF2 = dF) (eT : dT2 = dT) (eK : K2 = K) (h : dkR f dF dT K n) : dkR f dF2 dT2 K2 n := by
  subst eF; subst eT; subst eK; exact h
theorem jc_b {f dF : Nat → Int32} {K : Int} {n : Nat} (h : cc f n 0 0 = cc f n (pS dF K n 0) 0) : cc f n 0 0 = (0 : Int).toNat + cc f n (pS dF K n (0 : Int).toNat) 0 := by
  show _ = 0 + cc f n (pS dF K n 0) 0
  omega
theorem nar_id {x : Int32} (h : (-128 : Int) ≤ x.toInt ∧ x.toInt ≤ 127) : vp_nar .byte x = x := by
  have key : ∀ k : Nat, k < 256 → (Int32.ofNat k - 128).toInt8.toInt32 = Int32.ofNat k - 128 := by decide +kernel
  have h1 : x = Int32.ofNat (x.toInt + 128).toNat - 128 := by
    refine Int32.toInt_inj.mp ?_
    have e0 : (128 : Int32).toInt = 128 := rfl
    rw [Int32.toInt_sub, Int32.toInt_ofNat_of_lt (by omega), e0]
    exact ((Int.bmod_eq_of_le (by omega) (by omega)).trans (by omega)).symm
  show x.toInt8.toInt32 = x
  rw [h1]
  exact key _ (by omega)
theorem row_nar {f g : Nat → Int32} {w v : Int32} {j : Nat} (h : (j : Int) = w.toInt) (hv : v = vp_nar .byte (g (w : Int32).toNatClampNeg)) (hb : (-128 : Int) ≤ (g j).toInt ∧ (g j).toInt ≤ 127) : upd f (w : Int32).toNatClampNeg v j = g j := by
  have he : (w : Int32).toNatClampNeg = j := by
    show w.toInt.toNat = j
    omega
  refine row_new h ?_
  rw [hv, he]
  exact nar_id hb
