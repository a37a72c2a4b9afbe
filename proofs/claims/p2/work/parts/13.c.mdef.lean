def WM (K : Nat → ClassId) (ad : Nat → Nat) (t : tSt) : va_W := [(ad 0, .inr (11, [.int (t.1 0 0), .ref (ad 1), .int (t.1 0 2), .ref (ad 2), .ref (ad 3), .int (t.1 0 5), .int (t.1 0 6), .int (t.1 0 7), .long (t.2.1 0 8), .int (t.1 0 9), .int (t.1 0 10), .int (t.1 0 11), .int (t.1 0 12), .long (t.2.1 0 13), .int (t.1 0 14), .int (t.1 0 15), .int (t.1 0 16), .int (t.1 0 17), .int (t.1 0 18), .ref (ad 4), .ref (ad 5), .ref (ad 6), .ref (ad 7), .ref (ad 8), .ref (ad 9), .ref (ad 10), .ref (ad 11), .ref (ad 12), .ref (ad 13), .ref (ad 14), .int (t.1 0 30), .int (t.1 0 31), .ref (ad 15), .ref (ad 16), .ref (ad 17), .int (t.1 0 35), .int (t.1 0 36), .ref (ad 18), .int (t.1 0 38), .ref (ad 19), .ref (ad 20), .int (t.1 0 41), .int (t.1 0 42), .int (t.1 0 43), .int (t.1 0 44), .int (t.1 0 45), .int (t.1 0 46), .int (t.1 0 47), .int (t.1 0 48), .ref (ad 21), .ref (ad 22), .int (t.1 0 51), .int (t.1 0 52), .ref (ad 23), .ref (ad 24), .ref (ad 25), .ref (ad 26), .ref (ad 27), .ref (ad 28), .ref (ad 29), .int (t.1 0 60), .ref (ad 30), .ref (ad 31), .ref (ad 32), .ref (ad 33), .ref (ad 34), .ref (ad 35), .int (t.1 0 67), .int (t.1 0 68), .int (t.1 0 69), .int (t.1 0 70), .int (t.1 0 71), .int (t.1 0 72), .int (t.1 0 73), .ref (ad 36), .ref (ad 37), .ref (ad 38), .int (t.1 0 77), .int (t.1 0 78), .int (t.1 0 79), .int (t.1 0 80), .int (t.1 0 81), .int (t.1 0 82), .int (t.1 0 83), .ref (ad 39), .ref (ad 40), .ref (ad 41), .ref (ad 42), .int (t.1 0 88), .ref (ad 43), .int (t.1 0 90), .int (t.1 0 91), .ref (ad 44), .int (t.1 0 93)])), (ad 1, .inl (K 2, 8192, .inl (t.2.2.1 1))), (ad 2, .inl (K 0, 7999, .inl (t.2.2.1 2))), (ad 3, .inl (K 0, 9, .inl (t.2.2.1 3))), (ad 4, .inl (K 1, 20, .inr (.inl (t.2.2.2 4)))), (ad 5, .inl (K 3, 20, .inl (t.2.2.1 5))), (ad 6, .inl (K 1, 20, .inr (.inl (t.2.2.2 6)))), (ad 7, .inl (K 0, 20, .inl (t.2.2.1 7))), (ad 8, .inl (K 0, 2000, .inl (t.2.2.1 8))), (ad 9, .inl (K 0, 8, .inl (t.2.2.1 9))), (ad 10, .inl (K 0, 102400, .inl (t.2.2.1 10))), (ad 11, .inl (K 2, 108000, .inl (t.2.2.1 11))), (ad 12, .inl (K 0, 900, .inl (t.2.2.1 12))), (ad 13, .inl (K 0, 3, .inl (t.2.2.1 13))), (ad 14, .inl (K 2, 240, .inl (t.2.2.1 14))), (ad 15, .inl (K 2, 49152, .inl (t.2.2.1 15))), (ad 16, .inl (K 0, 8600, .inl (t.2.2.1 16))), (ad 17, .inl (K 0, 8600, .inl (t.2.2.1 17))), (ad 18, .inl (K 2, 8192, .inl (t.2.2.1 18))), (ad 19, .inl (K 0, 8193, .inl (t.2.2.1 19))), (ad 20, .inl (K 0, 8193, .inl (t.2.2.1 20))), (ad 21, .inl (K 3, 7999, .inl (t.2.2.1 21))), (ad 22, .inl (K 0, 8193, .inl (t.2.2.1 22))), (ad 23, .inl (K 1, 1200, .inr (.inl (t.2.2.2 23)))), (ad 24, .inl (K 0, 1200, .inl (t.2.2.1 24))), (ad 25, .inl (K 3, 1200, .inl (t.2.2.1 25))), (ad 26, .inl (K 0, 1200, .inl (t.2.2.1 26))), (ad 27, .inl (K 0, 19200, .inl (t.2.2.1 27))), (ad 28, .inl (K 0, 10, .inl (t.2.2.1 28))), (ad 29, .inl (K 3, 10, .inl (t.2.2.1 29))), (ad 30, .inl (K 0, 1200, .inl (t.2.2.1 30))), (ad 31, .inl (K 0, 1200, .inl (t.2.2.1 31))), (ad 32, .inl (K 0, 1200, .inl (t.2.2.1 32))), (ad 33, .inl (K 0, 1200, .inl (t.2.2.1 33))), (ad 34, .inl (K 0, 1200, .inl (t.2.2.1 34))), (ad 35, .inl (K 3, 1200, .inl (t.2.2.1 35))), (ad 36, .inl (K 2, 8192, .inl (t.2.2.1 36))), (ad 37, .inl (K 0, 8193, .inl (t.2.2.1 37))), (ad 38, .inl (K 0, 8193, .inl (t.2.2.1 38))), (ad 39, .inl (K 0, 512, .inl (t.2.2.1 39))), (ad 40, .inl (K 0, 512, .inl (t.2.2.1 40))), (ad 41, .inl (K 0, 512, .inl (t.2.2.1 41))), (ad 42, .inl (K 0, 512, .inl (t.2.2.1 42))), (ad 43, .inl (K 0, 4000, .inl (t.2.2.1 43))), (ad 44, .inl (K 3, 1200, .inl (t.2.2.1 44)))]
/-! ===== words of the reference's contracts ===== -/
def vO (x : Int32) : Int32 := if (x &&& 1073741824).toInt = 0 then x else -(x &&& 1073741823)
def bU (x : Int32) : Int32 := if 97 ≤ (x &&& 255).toInt ∧ (x &&& 255).toInt ≤ 122 then (x &&& 255) - 32 else x &&& 255
def bO (x : Int32) : Int32 := if 0 ≤ (sIx 23 (bU x)).toInt then sIx 23 (bU x) else 0
def gL (f : Nat → Int32) (a b i : Int32) : Int32 := if i.toInt < 80 ∧ (a + i).toInt < b.toInt then (sByt 23).getD (bO (f (a + i).toNatClampNeg)).toNatClampNeg 0 else 32
/-- how many units have words coming -/
def cnt20 (f : Nat → Int32) : Nat → Nat
  | 0 => 0
  | n + 1 => cnt20 f n + (if (f n).toInt = 0 then 0 else 1)
theorem cnt20_le (f : Nat → Int32) : ∀ n, cnt20 f n ≤ n := by
  intro n
  induction n with
  | zero => exact Nat.le_refl _
  | succ n ih => rw [cnt20]; split <;> omega
theorem cnt20_ge (f : Nat → Int32) (i : Nat) (v : Int32) : ∀ n, n ≤ i → cnt20 (upd f i v) n = cnt20 f n := by
  intro n
  induction n with
  | zero => intro _; rfl
  | succ n ih => intro h; rw [cnt20, cnt20, ih (by omega), pk_un (by omega)]
theorem cnt20_z {f : Nat → Int32} {i : Nat} {v : Int32} (hf : (f i).toInt ≠ 0) (hv : v.toInt = 0) : ∀ n, i < n → cnt20 (upd f i v) n + 1 = cnt20 f n := by
  intro n
  induction n with
  | zero => intro h; omega
  | succ n ih =>
    intro h
    rw [cnt20, cnt20]
    by_cases e : n = i
    · subst e
      rw [cnt20_ge f n v n (Nat.le_refl _), pk_us, if_pos hv, if_neg hf]
    · rw [pk_un e, ← ih (by omega)]
      omega
/-- units whose words come have room for them -/
def iM1 (f g : Nat → Int32) : Prop := ∀ u : Nat, u < 20 → (f u).toInt ≠ 0 → -3999 ≤ (g u).toInt ∧ (u < 16 → (g u).toInt + 100 ≤ 4000) ∧ (16 ≤ u → (g u).toInt + 16 ≤ 4000)
theorem iM1_at {f g : Nat → Int32} (h : iM1 f g) (w : Int32) (h0 : 0 ≤ w.toInt) (h1 : w.toInt < 20) (hc : (f w.toNatClampNeg).toInt ≠ 0) : -3999 ≤ (g w.toNatClampNeg).toInt ∧ (w.toInt < 16 → (g w.toNatClampNeg).toInt + 100 ≤ 4000) ∧ (16 ≤ w.toInt → (g w.toNatClampNeg).toInt + 16 ≤ 4000) := by
  have e := clamp_eq h0
  obtain ⟨a, b, c⟩ := h w.toNatClampNeg (by omega) hc
  exact ⟨a, fun q => b (by omega), fun q => c (by omega)⟩
theorem iM1_off {f g : Nat → Int32} (h : iM1 f g) (i : Nat) {v : Int32} (hv : v.toInt = 0) : iM1 (upd f i v) g := by
  intro u hu hc
  by_cases e : u = i
  · subst e; rw [pk_us] at hc; exact absurd hv hc
  · rw [pk_un e] at hc; exact h u hu hc
theorem iM1_on {f g : Nat → Int32} (h : iM1 f g) (w : Int32) (h0 : 0 ≤ w.toInt) {v : Int32} (hg : -3999 ≤ (g w.toNatClampNeg).toInt ∧ (w.toInt < 16 → (g w.toNatClampNeg).toInt + 100 ≤ 4000) ∧ (16 ≤ w.toInt → (g w.toNatClampNeg).toInt + 16 ≤ 4000)) : iM1 (upd f w.toNatClampNeg v) g := by
  intro u hu hc
  have e0 := clamp_eq h0
  by_cases e : u = w.toNatClampNeg
  · subst e; exact ⟨hg.1, fun q => hg.2.1 (by omega), fun q => hg.2.2 (by omega)⟩
  · rw [pk_un e] at hc; exact h u hu hc
theorem iM1_to {f g : Nat → Int32} (h : iM1 f g) (w : Int32) (h0 : 0 ≤ w.toInt) {v : Int32} (hg : -3999 ≤ v.toInt ∧ (w.toInt < 16 → v.toInt + 100 ≤ 4000) ∧ (16 ≤ w.toInt → v.toInt + 16 ≤ 4000)) : iM1 f (upd g w.toNatClampNeg v) := by
  intro u hu hc
  have e0 := clamp_eq h0
  by_cases e : u = w.toNatClampNeg
  · subst e; rw [pk_us]; exact ⟨hg.1, fun q => hg.2.1 (by omega), fun q => hg.2.2 (by omega)⟩
  · rw [pk_un e]; exact h u hu hc
/-- cards are no longer than eighty -/
def iM2 (n : Int32) (f g : Nat → Int32) : Prop := ∀ c : Nat, (c : Int) < n.toInt → (f c).toInt ≤ (g c).toInt ∧ (g c).toInt ≤ (f c).toInt + 80
/-- a line's first word lies in the memory -/
def iM3 (f : Nat → Int32) : Prop := ∀ i : Nat, (f i).toInt = 10000 ∨ (-3999 ≤ (f i).toInt ∧ (f i).toInt ≤ 3999)
theorem iM3_u {f : Nat → Int32} (h : iM3 f) (i : Nat) {v : Int32} (hv : v.toInt = 10000 ∨ (-3999 ≤ v.toInt ∧ v.toInt ≤ 3999)) : iM3 (upd f i v) := by
  intro u
  by_cases e : u = i
  · subst e; rw [pk_us]; exact hv
  · rw [pk_un e]; exact h u
/-- in a job: the time keeps its limit, no unit is busy beyond it -/
def jM (j : Int32) (t m : Int64) (b : Nat → Int64) : Prop := (-2147483648 ≤ m.toInt ∧ m.toInt ≤ 2147483647) ∧ (j.toInt = 1 → 0 ≤ t.toInt ∧ (t.toInt ≤ m.toInt ∨ t.toInt = 0) ∧ ∀ u : Nat, u < 20 → (b u).toInt ≤ m.toInt + 1500 ∨ (b u).toInt ≤ 0)
theorem jM_b {j : Int32} {t m : Int64} {b : Nat → Int64} (h : jM j t m b) (i : Nat) {v : Int64} (hv : j.toInt = 1 → v.toInt ≤ m.toInt + 1500 ∨ v.toInt ≤ 0) : jM j t m (vp_updL b i v) := by
  refine ⟨h.1, fun hj => ⟨(h.2 hj).1, (h.2 hj).2.1, fun u hu => ?_⟩⟩
  by_cases e : u = i
  · subst e; rw [show vp_updL b u v u = v from if_pos rfl]; exact hv hj
  · rw [show vp_updL b i v u = b u from if_neg e]; exact (h.2 hj).2.2 u hu
theorem jM_at {j : Int32} {t m : Int64} {b : Nat → Int64} (h : jM j t m b) (w : Int32) (h0 : 0 ≤ w.toInt) (h1 : w.toInt < 20) : (-2147483648 ≤ m.toInt ∧ m.toInt ≤ 2147483647) ∧ (j.toInt = 1 → 0 ≤ t.toInt ∧ (t.toInt ≤ m.toInt ∨ t.toInt = 0) ∧ ((b w.toNatClampNeg).toInt ≤ m.toInt + 1500 ∨ (b w.toNatClampNeg).toInt ≤ 0)) :=
  ⟨h.1, fun hj => ⟨(h.2 hj).1, (h.2 hj).2.1, (h.2 hj).2.2 _ (by have := clamp_eq h0; omega)⟩⟩
def bz (b : Nat → Int64) (n : Int) : Prop := ∀ u : Nat, (u : Int) < n → (b u).toInt = 0
def cO (c p : Int32) (b t : Int64) : Int64 :=
  if c.toInt = 0 then 1 else if c.toInt < 3 then 2 else if c.toInt = 3 then 10 else if c.toInt = 4 then 12 else if c.toInt = 5 then (if p.toInt < 3 then 10 else 2) else if c.toInt = 6 then 2 else if c.toInt = 7 then 1 + 2 * p.toInt64 else if c.toInt < 34 then 2 else if 55 < c.toInt then 2 else if 34 < c.toInt ∧ c.toInt < 38 ∧ p.toInt < 20 ∧ t.toInt < b.toInt then 1 + (b - t) else 1 + 0
def st0 (x : Int32) : Int := if x.toInt = 0 then 1 else 0
theorem st0_r (x : Int32) : (x.toInt = 0 ∧ st0 x = 1) ∨ (¬ x.toInt = 0 ∧ st0 x = 0) := by
  unfold st0; split <;> omega
def fLet (t : tSt) (x : Int32) : Int32 := gL (t.2.2.1 18) ((t.2.2.1 19) (t.1 0 67).toNatClampNeg) ((t.2.2.1 20) (t.1 0 67).toNatClampNeg) (x - 1)
def fDeck (t : tSt) (y x : Int32) : Int32 := gL (t.2.2.1 36) ((t.2.2.1 37) y.toNatClampNeg) ((t.2.2.1 38) y.toNatClampNeg) (x - 1)
def okMI : List (List (Int × Int)) := [[(0, 1), (-2147483648, 2147483647), (0, 1280), (-2147483648, 2147483647), (-2147483648, 2147483647), (0, 1), (0, 7), (-2147483648, 2147483647), (-2147483648, 2147483647), (0, 10), (0, 1), (0, 1), (0, 1), (-2147483648, 2147483647), (0, 1), (-2147483648, 2147483647), (0, 63), (0, 63), (-2147483648, 2147483647), (-2147483648, 2147483647), (-2147483648, 2147483647), (-2147483648, 2147483647), (-2147483648, 2147483647), (-2147483648, 2147483647), (-2147483648, 2147483647), (-2147483648, 2147483647), (-2147483648, 2147483647), (-2147483648, 2147483647), (-2147483648, 2147483647), (-2147483648, 2147483647), (0, 120), (0, 1), (-2147483648, 2147483647), (-2147483648, 2147483647), (-2147483648, 2147483647), (0, 1280), (0, 1280), (-2147483648, 2147483647), (0, 1280), (-2147483648, 2147483647), (-2147483648, 2147483647), (0, 1280), (0, 1), (0, 8), (0, 4000), (-3999, 3999), (0, 1), (-3999, 4000), (-2147483648, 2147483647), (-2147483648, 2147483647), (-2147483648, 2147483647), (0, 1281), (0, 1200), (-2147483648, 2147483647), (-2147483648, 2147483647), (-2147483648, 2147483647), (-2147483648, 2147483647), (-2147483648, 2147483647), (-2147483648, 2147483647), (-2147483648, 2147483647), (0, 1200), (-2147483648, 2147483647), (-2147483648, 2147483647), (-2147483648, 2147483647), (-2147483648, 2147483647), (-2147483648, 2147483647), (-2147483648, 2147483647), (0, 1281), (0, 81), (0, 81), (0, 8), (-1, 2), (0, 1199), (-2147483648, 2147483647), (-2147483648, 2147483647), (-2147483648, 2147483647), (-2147483648, 2147483647), (0, 1280), (0, 6), (0, 81), (0, 31), (-2147483648, 2147483647), (0, 427), (0, 427), (-2147483648, 2147483647), (-2147483648, 2147483647), (-2147483648, 2147483647), (-2147483648, 2147483647), (0, 1), (-2147483648, 2147483647), (-3999, 3999), (-2147483648, 2147483647), (-2147483648, 2147483647), (0, 1280)]]
def okMB : List (Int × Int) := [(-2147483648, 2147483647), (-3999, 127), (-2147483648, 2147483647), (-2147483648, 2147483647), (-2147483648, 2147483647), (0, 1), (-2147483648, 2147483647), (-2147483648, 2147483647), (-2147483648, 2147483647), (0, 64), (-2147483648, 2147483647), (-3999, 127), (0, 120), (0, 300), (-3999, 127), (-3999, 127), (0, 32000), (0, 32000), (-3999, 127), (0, 1280), (0, 1280), (0, 1), (-3999, 10000), (-2147483648, 2147483647), (-2147483648, 2147483647), (0, 1), (0, 16), (0, 3999), (-2147483648, 2147483647), (0, 1), (-1, 2), (0, 1199), (0, 1281), (-3999, 3999), (-2147483648, 2147483647), (0, 1), (-3999, 127), (0, 1280), (0, 1280), (0, 4), (-1, 9), (-2147483648, 2147483647), (-2147483648, 2147483647), (-2147483648, 2147483647), (0, 1)]
def okM (t : tSt) : Prop := okI okMI t ∧ okB okMB t ∧ iM1 (t.2.2.1 5) (t.2.2.1 7) ∧ iM2 (t.1 0 36) (t.2.2.1 16) (t.2.2.1 17) ∧ iM3 (t.2.2.1 22) ∧ (t.1 0 35).toInt ≤ (t.1 0 36).toInt ∧ jM (t.1 0 12) (t.2.1 0 8) (t.2.1 0 13) (t.2.2.2 4) ∧ True
