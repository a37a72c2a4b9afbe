/-! ===== p16: lines and jobs of a deck, as functions of the tape ===== -/
def anL (x : Int32) : Prop := (65 ≤ x.toInt ∧ x.toInt ≤ 90) ∨ (48 ≤ x.toInt ∧ x.toInt ≤ 57)
def dgL (x : Int32) : Prop := 48 ≤ x.toInt ∧ x.toInt ≤ 57
/-- the word i stands at column c -/
def wAt (g : Nat → Int32) (c i : Nat) : Prop := ∀ k : Nat, k < (sByt i).length → g (c + k) = (sByt i).getD k 0
def wBl (g : Nat → Int32) (c i : Nat) : Prop := wAt g c i ∧ g (c + (sByt i).length) = 32
/-- the words of the options, as the class has them -/
def oW (k : Nat) : Nat := 8 + k
noncomputable def oN (g : Nat → Int32) (a : Nat) : Nat → Nat
  | 0 => a
  | k + 1 => @ite Nat (g (oN g a k) = 32 ∧ wBl g (oN g a k + 1) (oW k)) (Classical.propDecidable _) (oN g a k + 1 + (sByt (oW k)).length) (oN g a k)
def oOK (g : Nat → Int32) (a : Nat) : Prop := ∀ j : Nat, oN g a 5 ≤ j → j < 80 → g j = 32
def jOK (g : Nat → Int32) : Prop := wBl g 0 25 ∧ ∃ s d : Nat, 1 ≤ s ∧ s ≤ 10 ∧ (∀ j : Nat, j < s → anL (g (5 + j))) ∧ g (5 + s) = 32 ∧ 1 ≤ d ∧ d ≤ 5 ∧ (∀ j : Nat, j < d → dgL (g (6 + s + j))) ∧ ¬ dgL (g (6 + s + d)) ∧ oOK g (6 + s + d)
theorem oN_t {g : Nat → Int32} {a k : Nat} (h : g (oN g a k) = 32 ∧ wBl g (oN g a k + 1) (oW k)) : oN g a (k + 1) = oN g a k + 1 + (sByt (oW k)).length := by
  rw [oN]; exact if_pos h
theorem oN_f {g : Nat → Int32} {a k : Nat} (h : ¬ (g (oN g a k) = 32 ∧ wBl g (oN g a k + 1) (oW k))) : oN g a (k + 1) = oN g a k := by
  rw [oN]; exact if_neg h
theorem oN_ge {g : Nat → Int32} {a : Nat} : ∀ k, a ≤ oN g a k := by
  intro k
  induction k with
  | zero => exact Nat.le_refl _
  | succ k ih =>
    by_cases h : g (oN g a k) = 32 ∧ wBl g (oN g a k + 1) (oW k)
    · rw [oN_t h]; omega
    · rw [oN_f h]; exact ih
/-- behind the options, whatever they are, the first column is blank or an option's own blank stood there -/
theorem oN_first {g : Nat → Int32} {a : Nat} : ∀ k, oN g a k = a ∨ g a = 32 := by
  intro k
  induction k with
  | zero => exact Or.inl rfl
  | succ k ih =>
    by_cases h : g (oN g a k) = 32 ∧ wBl g (oN g a k + 1) (oW k)
    · rcases ih with e | e
      · exact Or.inr (by rw [← e]; exact h.1)
      · exact Or.inr e
    · rw [oN_f h]; exact ih
theorem oOK_first {g : Nat → Int32} {a : Nat} (h : oOK g a) (h80 : ∀ j, 80 ≤ j → g j = 32) : g a = 32 := by
  rcases oN_first (g := g) (a := a) 5 with e | e
  · by_cases hj : a < 80
    · exact h a (by omega) hj
    · exact h80 a (by omega)
  · exact e
theorem an_nb : ¬ anL 32 := by unfold anL; decide
theorem dg_nb : ¬ dgL 32 := by unfold dgL; decide
/-- the run of letters and the run of digits are what they are -/
theorem jOK_iff {g : Nat → Int32} {s d : Nat} (hw : wBl g 0 25) (hs : ∀ j : Nat, j < s → anL (g (5 + j))) (hs1 : ¬ anL (g (5 + s))) (hd : ∀ j : Nat, j < d → dgL (g (6 + s + j))) (hd1 : ¬ dgL (g (6 + s + d))) : jOK g ↔ (1 ≤ s ∧ s ≤ 10 ∧ g (5 + s) = 32 ∧ 1 ≤ d ∧ d ≤ 5 ∧ oOK g (6 + s + d)) := by
  constructor
  · rintro ⟨-, s2, d2, a1, a2, a3, a4, a5, a6, a7, a8, a9⟩
    have hse : s2 = s := by
      rcases Nat.lt_trichotomy s2 s with h | h | h
      · exact absurd (hs s2 h) (by rw [a4]; exact an_nb)
      · exact h
      · exact absurd (a3 s h) hs1
    subst hse
    have hde : d2 = d := by
      rcases Nat.lt_trichotomy d2 d with h | h | h
      · exact absurd (hd d2 h) a8
      · exact h
      · exact absurd (a7 d h) hd1
    subst hde
    exact ⟨a1, a2, a4, a5, a6, a9⟩
  · rintro ⟨a1, a2, a4, a5, a6, a9⟩
    exact ⟨hw, s, d, a1, a2, hs, a4, a5, a6, hd, hd1, a9⟩
/-- more letters than eleven: no job, by however many -/
theorem jOK_long {g : Nat → Int32} (h : ∀ j : Nat, j < 11 → anL (g (5 + j))) : ¬ jOK g := by
  rintro ⟨-, s2, d2, a1, a2, a3, a4, -⟩
  have := h s2 (by omega)
  rw [a4] at this
  exact an_nb this
theorem jOK_digits {g : Nat → Int32} {s : Nat} (hs : ∀ j : Nat, j < s → anL (g (5 + j))) (hs1 : ¬ anL (g (5 + s))) (h : ∀ j : Nat, j < 6 → dgL (g (6 + s + j))) : ¬ jOK g := by
  rintro ⟨-, s2, d2, a1, a2, a3, a4, a5, a6, a7, a8, -⟩
  have hse : s2 = s := by
    rcases Nat.lt_trichotomy s2 s with h0 | h0 | h0
    · exact absurd (hs s2 h0) (by rw [a4]; exact an_nb)
    · exact h0
    · exact absurd (a3 s h0) hs1
  subst hse
  exact a8 (h d2 (by omega))
/-! lines -/
def lnE (f : Nat → Int32) (n : Nat) : Nat → Nat → Nat
  | 0, p => p
  | k + 1, p => if p < n ∧ ¬ f p = 10 then lnE f n k (p + 1) else p
def lE (f : Nat → Int32) (n p : Nat) : Nat := lnE f n (n - p) p
theorem lnE_spec {f : Nat → Int32} {n : Nat} : ∀ k p, n - p ≤ k → p ≤ lnE f n k p ∧ (∀ j, p ≤ j → j < lnE f n k p → j < n ∧ ¬ f j = 10) ∧ (n ≤ lnE f n k p ∨ f (lnE f n k p) = 10) := by
  intro k
  induction k with
  | zero =>
    intro p h
    exact ⟨Nat.le_refl _, fun j h1 h2 => absurd h2 (by show ¬ j < p; omega), Or.inl (show n ≤ p by omega)⟩
  | succ k ih =>
    intro p h
    by_cases hc : p < n ∧ ¬ f p = 10
    · rw [lnE, if_pos hc]
      obtain ⟨i1, i2, i3⟩ := ih (p + 1) (by omega)
      refine ⟨by omega, fun j h1 h2 => ?_, i3⟩
      rcases Nat.eq_or_lt_of_le h1 with e | e
      · rw [← e]; exact hc
      · exact i2 j e h2
    · rw [lnE, if_neg hc]
      refine ⟨Nat.le_refl _, fun j h1 h2 => absurd h2 (by omega), ?_⟩
      by_cases hp : p < n
      · exact Or.inr (Decidable.byContradiction fun h9 => hc ⟨hp, h9⟩)
      · exact Or.inl (by omega)
theorem lE_uniq {f : Nat → Int32} {n p r : Nat} (h1 : p ≤ r) (h2 : ∀ j, p ≤ j → j < r → j < n ∧ ¬ f j = 10) (h3 : n ≤ r ∨ f r = 10) : lE f n p = r := by
  obtain ⟨a1, a2, a3⟩ := lnE_spec (f := f) (n := n) (n - p) p (Nat.le_refl _)
  show lnE f n (n - p) p = r
  rcases Nat.lt_trichotomy (lnE f n (n - p) p) r with h | h | h
  · have := h2 _ a1 h
    rcases a3 with e | e
    · omega
    · exact absurd e this.2
  · exact h
  · have := a2 _ h1 h
    rcases h3 with e | e
    · omega
    · exact absurd e this.2
theorem lE_ge {f : Nat → Int32} {n p : Nat} : p ≤ lE f n p := (lnE_spec (f := f) (n := n) (n - p) p (Nat.le_refl _)).1
/-- the letters of the line from a up to b -/
def gT (f : Nat → Int32) (a b : Nat) (j : Nat) : Int32 := if j < 80 ∧ a + j < b then (sByt 23).getD (bO (f (a + j))).toNatClampNeg 0 else 32
noncomputable def stp (g : Nat → Int32) (ph : Nat) : Nat :=
  @ite Nat (jOK g) (Classical.propDecidable _) 1 (@ite Nat (wBl g 0 31) (Classical.propDecidable _) (if ph = 1 ∨ ph = 2 then 3 else ph) (@ite Nat (wBl g 0 32 ∧ ph = 3) (Classical.propDecidable _) 4 (if ph = 1 then 2 else ph)))
noncomputable def cJ (f : Nat → Int32) (n : Nat) : Nat → Nat → Nat → Nat
  | 0, _, _ => 0
  | k + 1, p, ph => if p < n then (if stp (gT f p (lE f n p)) ph = 4 then 1 + cJ f n k (lE f n p + 1) 0 else cJ f n k (lE f n p + 1) (stp (gT f p (lE f n p)) ph)) else 0
noncomputable def cc (f : Nat → Int32) (n p ph : Nat) : Nat := cJ f n (n - p) p ph
theorem cJ_fuel {f : Nat → Int32} {n : Nat} : ∀ k m p ph, n - p ≤ k → n - p ≤ m → cJ f n k p ph = cJ f n m p ph := by
  intro k
  induction k with
  | zero =>
    intro m p ph h1 h2
    cases m with
    | zero => rfl
    | succ m => rw [cJ, cJ, if_neg (show ¬ p < n by omega)]
  | succ k ih =>
    intro m p ph h1 h2
    cases m with
    | zero => rw [cJ, cJ, if_neg (show ¬ p < n by omega)]
    | succ m =>
      have hge := lE_ge (f := f) (n := n) (p := p)
      rw [cJ, cJ, ih m _ 0 (by omega) (by omega), ih m _ (stp (gT f p (lE f n p)) ph) (by omega) (by omega)]
theorem cc_end {f : Nat → Int32} {n p ph : Nat} (h : n ≤ p) : cc f n p ph = 0 := by
  unfold cc
  rw [show n - p = 0 by omega]
  rfl
theorem cc_done {f : Nat → Int32} {n p ph : Nat} (h : p < n) (hs : stp (gT f p (lE f n p)) ph = 4) : cc f n p ph = 1 + cc f n (lE f n p + 1) 0 := by
  unfold cc
  have hge := lE_ge (f := f) (n := n) (p := p)
  rw [show n - p = (n - p - 1) + 1 by omega, cJ, if_pos h, if_pos hs, cJ_fuel (n - p - 1) (n - (lE f n p + 1)) _ _ (by omega) (by omega)]
theorem cc_step {f : Nat → Int32} {n p ph : Nat} (h : p < n) (hs : ¬ stp (gT f p (lE f n p)) ph = 4) : cc f n p ph = cc f n (lE f n p + 1) (stp (gT f p (lE f n p)) ph) := by
  unfold cc
  have hge := lE_ge (f := f) (n := n) (p := p)
  rw [show n - p = (n - p - 1) + 1 by omega, cJ, if_pos h, if_neg hs, cJ_fuel (n - p - 1) (n - (lE f n p + 1)) _ _ (by omega) (by omega)]
theorem stp_job {g : Nat → Int32} {ph : Nat} (h : jOK g) : stp g ph = 1 := if_pos h
theorem stp_data {g : Nat → Int32} {ph : Nat} (h : ¬ jOK g) (h1 : wBl g 0 31) : stp g ph = if ph = 1 ∨ ph = 2 then 3 else ph := (if_neg h).trans (if_pos h1)
theorem stp_end {g : Nat → Int32} (h : ¬ jOK g) (h1 : ¬ wBl g 0 31) (h2 : wBl g 0 32) : stp g 3 = 4 := (if_neg h).trans ((if_neg h1).trans (if_pos ⟨h2, rfl⟩))
theorem stp_no {g : Nat → Int32} {ph : Nat} (h : ¬ jOK g) (h1 : ¬ wBl g 0 31) (h2 : ¬ (wBl g 0 32 ∧ ph = 3)) : stp g ph = if ph = 1 then 2 else ph := (if_neg h).trans ((if_neg h1).trans (if_neg h2))
/-- how many lines are still wanted -/
def wP (ph : Nat) : Nat := if ph = 0 then 0 else if ph = 3 then 2 else 1
theorem cc_le {f : Nat → Int32} {n : Nat} : ∀ k p ph, n - p ≤ k → ph ≤ 3 → 3 * cc f n p ph ≤ (n - p) + wP ph := by
  intro k
  induction k with
  | zero =>
    intro p ph h _
    rw [cc_end (by omega)]
    omega
  | succ k ih =>
    intro p ph h hp
    by_cases hn : p < n
    · have hge := lE_ge (f := f) (n := n) (p := p)
      have key : ∀ q, q ≤ 3 → 3 * cc f n (lE f n p + 1) q ≤ (n - (lE f n p + 1)) + wP q := fun q hq => ih _ q (by omega) hq
      by_cases hj : jOK (gT f p (lE f n p))
      · rw [cc_step hn (by rw [stp_job hj]; decide), stp_job hj]
        have := key 1 (by omega)
        have e : wP 1 = 1 := rfl
        omega
      · by_cases hd : wBl (gT f p (lE f n p)) 0 31
        · have hs := stp_data (ph := ph) hj hd
          by_cases h12 : ph = 1 ∨ ph = 2
          · rw [if_pos h12] at hs
            rw [cc_step hn (by rw [hs]; decide), hs]
            have := key 3 (by omega)
            have e : wP 3 = 2 := rfl
            have e2 : wP ph = 1 := by rcases h12 with rfl | rfl <;> rfl
            omega
          · rw [if_neg h12] at hs
            rw [cc_step hn (by rw [hs]; omega), hs]
            have := key ph hp
            omega
        · by_cases he : wBl (gT f p (lE f n p)) 0 32 ∧ ph = 3
          · obtain ⟨he1, rfl⟩ := he
            rw [cc_done hn (stp_end hj hd he1)]
            have := key 0 (by omega)
            have e : wP 0 = 0 := rfl
            have e2 : wP 3 = 2 := rfl
            omega
          · have hs := stp_no (ph := ph) hj hd he
            by_cases h1 : ph = 1
            · subst h1
              rw [if_pos rfl] at hs
              rw [cc_step hn (by rw [hs]; decide), hs]
              have := key 2 (by omega)
              have e : wP 1 = 1 := rfl
              have e2 : wP 2 = 1 := rfl
              omega
            · rw [if_neg h1] at hs
              rw [cc_step hn (by rw [hs]; omega), hs]
              have := key ph hp
              omega
    · rw [cc_end (by omega)]
      omega
