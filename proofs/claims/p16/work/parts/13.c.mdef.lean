def WM (K : Nat → ClassId) (ad : Nat → Nat) (t : tSt) : va_W := [(ad 0, .inr (11, [.int (t.1 0 0), .ref (ad 1), .int (t.1 0 2), .ref (ad 2), .ref (ad 3), .int (t.1 0 5), .int (t.1 0 6), .int (t.1 0 7), .long (t.2.1 0 8), .int (t.1 0 9), .int (t.1 0 10), .int (t.1 0 11), .int (t.1 0 12), .long (t.2.1 0 13), .int (t.1 0 14), .int (t.1 0 15), .int (t.1 0 16), .int (t.1 0 17), .int (t.1 0 18), .ref (ad 4), .ref (ad 5), .ref (ad 6), .ref (ad 7), .ref (ad 8), .ref (ad 9), .ref (ad 10), .ref (ad 11), .ref (ad 12), .ref (ad 13), .ref (ad 14), .int (t.1 0 30), .int (t.1 0 31), .ref (ad 15), .ref (ad 16), .ref (ad 17), .int (t.1 0 35), .int (t.1 0 36), .ref (ad 18), .int (t.1 0 38), .ref (ad 19), .ref (ad 20), .int (t.1 0 41), .int (t.1 0 42), .int (t.1 0 43), .int (t.1 0 44), .int (t.1 0 45), .int (t.1 0 46), .int (t.1 0 47), .int (t.1 0 48), .ref (ad 21), .ref (ad 22), .int (t.1 0 51), .int (t.1 0 52), .ref (ad 23), .ref (ad 24), .ref (ad 25), .ref (ad 26), .ref (ad 27), .ref (ad 28), .ref (ad 29), .int (t.1 0 60), .ref (ad 30), .ref (ad 31), .ref (ad 32), .ref (ad 33), .ref (ad 34), .ref (ad 35), .int (t.1 0 67), .int (t.1 0 68), .int (t.1 0 69), .int (t.1 0 70), .int (t.1 0 71), .int (t.1 0 72), .int (t.1 0 73), .ref (ad 36), .ref (ad 37), .ref (ad 38), .int (t.1 0 77), .int (t.1 0 78), .int (t.1 0 79), .int (t.1 0 80), .int (t.1 0 81), .int (t.1 0 82), .int (t.1 0 83), .ref (ad 39), .ref (ad 40), .ref (ad 41), .ref (ad 42), .int (t.1 0 88), .ref (ad 43), .int (t.1 0 90), .int (t.1 0 91), .ref (ad 44), .int (t.1 0 93)])), (ad 1, .inl (K 2, 8192, .inl (t.2.2.1 1))), (ad 2, .inl (K 0, 7999, .inl (t.2.2.1 2))), (ad 3, .inl (K 0, 9, .inl (t.2.2.1 3))), (ad 4, .inl (K 1, 20, .inr (.inl (t.2.2.2 4)))), (ad 5, .inl (K 3, 20, .inl (t.2.2.1 5))), (ad 6, .inl (K 1, 20, .inr (.inl (t.2.2.2 6)))), (ad 7, .inl (K 0, 20, .inl (t.2.2.1 7))), (ad 8, .inl (K 0, 2000, .inl (t.2.2.1 8))), (ad 9, .inl (K 0, 8, .inl (t.2.2.1 9))), (ad 10, .inl (K 0, 102400, .inl (t.2.2.1 10))), (ad 11, .inl (K 2, 108000, .inl (t.2.2.1 11))), (ad 12, .inl (K 0, 900, .inl (t.2.2.1 12))), (ad 13, .inl (K 0, 3, .inl (t.2.2.1 13))), (ad 14, .inl (K 2, 240, .inl (t.2.2.1 14))), (ad 15, .inl (K 2, 49152, .inl (t.2.2.1 15))), (ad 16, .inl (K 0, 8600, .inl (t.2.2.1 16))), (ad 17, .inl (K 0, 8600, .inl (t.2.2.1 17))), (ad 18, .inl (K 2, 8192, .inl (t.2.2.1 18))), (ad 19, .inl (K 0, 8193, .inl (t.2.2.1 19))), (ad 20, .inl (K 0, 8193, .inl (t.2.2.1 20))), (ad 21, .inl (K 3, 7999, .inl (t.2.2.1 21))), (ad 22, .inl (K 0, 8193, .inl (t.2.2.1 22))), (ad 23, .inl (K 1, 1200, .inr (.inl (t.2.2.2 23)))), (ad 24, .inl (K 0, 1200, .inl (t.2.2.1 24))), (ad 25, .inl (K 3, 1200, .inl (t.2.2.1 25))), (ad 26, .inl (K 0, 1200, .inl (t.2.2.1 26))), (ad 27, .inl (K 0, 19200, .inl (t.2.2.1 27))), (ad 28, .inl (K 0, 10, .inl (t.2.2.1 28))), (ad 29, .inl (K 3, 10, .inl (t.2.2.1 29))), (ad 30, .inl (K 0, 1200, .inl (t.2.2.1 30))), (ad 31, .inl (K 0, 1200, .inl (t.2.2.1 31))), (ad 32, .inl (K 0, 1200, .inl (t.2.2.1 32))), (ad 33, .inl (K 0, 1200, .inl (t.2.2.1 33))), (ad 34, .inl (K 0, 1200, .inl (t.2.2.1 34))), (ad 35, .inl (K 3, 1200, .inl (t.2.2.1 35))), (ad 36, .inl (K 2, 8192, .inl (t.2.2.1 36))), (ad 37, .inl (K 0, 8193, .inl (t.2.2.1 37))), (ad 38, .inl (K 0, 8193, .inl (t.2.2.1 38))), (ad 39, .inl (K 0, 512, .inl (t.2.2.1 39))), (ad 40, .inl (K 0, 512, .inl (t.2.2.1 40))), (ad 41, .inl (K 0, 512, .inl (t.2.2.1 41))), (ad 42, .inl (K 0, 512, .inl (t.2.2.1 42))), (ad 43, .inl (K 0, 4000, .inl (t.2.2.1 43))), (ad 44, .inl (K 3, 1200, .inl (t.2.2.1 44)))]
/-! ===== words of the reference's contracts ===== -/
def vO (x : Int32) : Int32 := if (x &&& 1073741824).toInt = 0 then x else -(x &&& 1073741823)
def bU (x : Int32) : Int32 := if 97 ≤ (x &&& 255).toInt ∧ (x &&& 255).toInt ≤ 122 then (x &&& 255) - 32 else x &&& 255
def bO (x : Int32) : Int32 := if 0 ≤ (sIx 23 (bU x)).toInt then sIx 23 (bU x) else 0
def gL (f : Nat → Int32) (a b i : Int32) : Int32 := if i.toInt < 80 ∧ (a + i).toInt < b.toInt then (sByt 23).getD (bO (f (a + i).toNatClampNeg)).toNatClampNeg 0 else 32
/-- how many units have words coming -/
def cnt20 (f : Nat → Int32) : Nat → Nat
  | 0 => 0
  | n + 1 => cnt20 f n + (if (f n).toInt = 0 then 0 else 1)
theorem cnt20_le (f : Nat → Int32) : ∀ n, cnt20 f n ≤ n := by
  intro n
  induction n with
  | zero => exact Nat.le_refl _
  | succ n ih => rw [cnt20]; split <;> omega
theorem cnt20_ge (f : Nat → Int32) (i : Nat) (v : Int32) : ∀ n, n ≤ i → cnt20 (upd f i v) n = cnt20 f n := by
  intro n
  induction n with
  | zero => intro _; rfl
  | succ n ih => intro h; rw [cnt20, cnt20, ih (by omega), pk_un (by omega)]
theorem cnt20_z {f : Nat → Int32} {i : Nat} {v : Int32} (hf : (f i).toInt ≠ 0) (hv : v.toInt = 0) : ∀ n, i < n → cnt20 (upd f i v) n + 1 = cnt20 f n := by
  intro n
  induction n with
  | zero => intro h; omega
  | succ n ih =>
    intro h
    rw [cnt20, cnt20]
    by_cases e : n = i
    · subst e
      rw [cnt20_ge f n v n (Nat.le_refl _), pk_us, if_pos hv, if_neg hf]
    · rw [pk_un e, ← ih (by omega)]
      omega
/-- units whose words come have room for them -/
def iM1 (f g : Nat → Int32) : Prop := ∀ u : Nat, u < 20 → (f u).toInt ≠ 0 → -3999 ≤ (g u).toInt ∧ (u < 16 → (g u).toInt + 100 ≤ 4000) ∧ (16 ≤ u → u = 16 ∧ (g u).toInt + 16 ≤ 4000)
theorem iM1_at {f g : Nat → Int32} (h : iM1 f g) (w : Int32) (h0 : 0 ≤ w.toInt) (h1 : w.toInt < 20) (hc : (f w.toNatClampNeg).toInt ≠ 0) : -3999 ≤ (g w.toNatClampNeg).toInt ∧ (w.toInt < 16 → (g w.toNatClampNeg).toInt + 100 ≤ 4000) ∧ (16 ≤ w.toInt → w.toInt = 16 ∧ (g w.toNatClampNeg).toInt + 16 ≤ 4000) := by
  have e := clamp_eq h0
  obtain ⟨a, b, c⟩ := h w.toNatClampNeg (by omega) hc
  exact ⟨a, fun q => b (by omega), fun q => by have := c (by omega); omega⟩
theorem iM1_off {f g : Nat → Int32} (h : iM1 f g) (i : Nat) {v : Int32} (hv : v.toInt = 0) : iM1 (upd f i v) g := by
  intro u hu hc
  by_cases e : u = i
  · subst e; rw [pk_us] at hc; exact absurd hv hc
  · rw [pk_un e] at hc; exact h u hu hc
theorem iM1_on {f g : Nat → Int32} (h : iM1 f g) (w : Int32) (h0 : 0 ≤ w.toInt) {v : Int32} (hg : -3999 ≤ (g w.toNatClampNeg).toInt ∧ (w.toInt < 16 → (g w.toNatClampNeg).toInt + 100 ≤ 4000) ∧ (16 ≤ w.toInt → w.toInt = 16 ∧ (g w.toNatClampNeg).toInt + 16 ≤ 4000)) : iM1 (upd f w.toNatClampNeg v) g := by
  intro u hu hc
  have e0 := clamp_eq h0
  by_cases e : u = w.toNatClampNeg
  · subst e; exact ⟨hg.1, fun q => hg.2.1 (by omega), fun q => by have := hg.2.2 (by omega); omega⟩
  · rw [pk_un e] at hc; exact h u hu hc
theorem iM1_to {f g : Nat → Int32} (h : iM1 f g) (w : Int32) (h0 : 0 ≤ w.toInt) {v : Int32} (hg : -3999 ≤ v.toInt ∧ (w.toInt < 16 → v.toInt + 100 ≤ 4000) ∧ (16 ≤ w.toInt → w.toInt = 16 ∧ v.toInt + 16 ≤ 4000)) : iM1 f (upd g w.toNatClampNeg v) := by
  intro u hu hc
  have e0 := clamp_eq h0
  by_cases e : u = w.toNatClampNeg
  · subst e; rw [pk_us]; exact ⟨hg.1, fun q => hg.2.1 (by omega), fun q => by have := hg.2.2 (by omega); omega⟩
  · rw [pk_un e]; exact h u hu hc
/-- cards are no longer than eighty -/
def iM2 (n : Int32) (f g : Nat → Int32) : Prop := ∀ c : Nat, (c : Int) < n.toInt → (f c).toInt ≤ (g c).toInt ∧ (g c).toInt ≤ (f c).toInt + 80
/-- a line's first word lies in the memory -/
def iM3 (f : Nat → Int32) : Prop := ∀ i : Nat, (f i).toInt = 10000 ∨ (-3999 ≤ (f i).toInt ∧ (f i).toInt ≤ 3999)
theorem iM3_u {f : Nat → Int32} (h : iM3 f) (i : Nat) {v : Int32} (hv : v.toInt = 10000 ∨ (-3999 ≤ v.toInt ∧ v.toInt ≤ 3999)) : iM3 (upd f i v) := by
  intro u
  by_cases e : u = i
  · subst e; rw [pk_us]; exact hv
  · rw [pk_un e]; exact h u
/-- in a job: the time keeps its limit, no unit is busy beyond it -/
def jM (j : Int32) (t m : Int64) (b : Nat → Int64) : Prop := (-2147483648 ≤ m.toInt ∧ m.toInt ≤ 2147483647) ∧ (j.toInt = 1 → 0 ≤ t.toInt ∧ (t.toInt ≤ m.toInt ∨ t.toInt = 0) ∧ ∀ u : Nat, u < 20 → (b u).toInt ≤ m.toInt + 1500 ∨ (b u).toInt ≤ 0)
theorem jM_b {j : Int32} {t m : Int64} {b : Nat → Int64} (h : jM j t m b) (i : Nat) {v : Int64} (hv : j.toInt = 1 → v.toInt ≤ m.toInt + 1500 ∨ v.toInt ≤ 0) : jM j t m (vp_updL b i v) := by
  refine ⟨h.1, fun hj => ⟨(h.2 hj).1, (h.2 hj).2.1, fun u hu => ?_⟩⟩
  by_cases e : u = i
  · subst e; rw [show vp_updL b u v u = v from if_pos rfl]; exact hv hj
  · rw [show vp_updL b i v u = b u from if_neg e]; exact (h.2 hj).2.2 u hu
theorem jM_at {j : Int32} {t m : Int64} {b : Nat → Int64} (h : jM j t m b) (w : Int32) (h0 : 0 ≤ w.toInt) (h1 : w.toInt < 20) : (-2147483648 ≤ m.toInt ∧ m.toInt ≤ 2147483647) ∧ (j.toInt = 1 → 0 ≤ t.toInt ∧ (t.toInt ≤ m.toInt ∨ t.toInt = 0) ∧ ((b w.toNatClampNeg).toInt ≤ m.toInt + 1500 ∨ (b w.toNatClampNeg).toInt ≤ 0)) :=
  ⟨h.1, fun hj => ⟨(h.2 hj).1, (h.2 hj).2.1, (h.2 hj).2.2 _ (by have := clamp_eq h0; omega)⟩⟩
def bz (b : Nat → Int64) (n : Int) : Prop := ∀ u : Nat, (u : Int) < n → (b u).toInt = 0
def cO (c p : Int32) (b t : Int64) : Int64 :=
  if c.toInt = 0 then 1 else if c.toInt < 3 then 2 else if c.toInt = 3 then 10 else if c.toInt = 4 then 12 else if c.toInt = 5 then (if p.toInt < 3 then 10 else 2) else if c.toInt = 6 then 2 else if c.toInt = 7 then 1 + 2 * p.toInt64 else if c.toInt < 34 then 2 else if 55 < c.toInt then 2 else if 34 < c.toInt ∧ c.toInt < 38 ∧ p.toInt < 20 ∧ t.toInt < b.toInt then 1 + (b - t) else 1 + 0
def st0 (x : Int32) : Int := if x.toInt = 0 then 1 else 0
theorem st0_r (x : Int32) : (x.toInt = 0 ∧ st0 x = 1) ∨ (¬ x.toInt = 0 ∧ st0 x = 0) := by
  unfold st0; split <;> omega
def gdA (c p a : Int32) (g : Nat → Int32) : Prop :=
  ((c.toInt > 0 ∧ c.toInt < 5 ∨ c.toInt > 7 ∧ c.toInt < 34 ∨ c.toInt > 55) → -3999 ≤ a.toInt ∧ a.toInt ≤ 3999) ∧
  (c.toInt = 7 → p.toInt < 1 ∨ (-3999 ≤ a.toInt ∧ a.toInt + p.toInt ≤ 4000)) ∧
  (c.toInt = 7 → p.toInt < 1 ∨ (-3999 ≤ (vO (g (1 : Int32).toNatClampNeg)).toInt ∧ (vO (g (1 : Int32).toNatClampNeg)).toInt + p.toInt ≤ 4000)) ∧
  ((c.toInt = 36 ∨ c.toInt = 37) → p.toInt < 20 → -3999 ≤ a.toInt ∧ (p.toInt < 16 → a.toInt + 100 ≤ 4000) ∧ (p.toInt = 16 ∨ p.toInt = 17 → a.toInt + 16 ≤ 4000) ∧ (p.toInt = 18 → a.toInt + 24 ≤ 4000) ∧ (p.toInt = 19 → a.toInt + 14 ≤ 4000))
def gdU (c p : Int32) (g st : Nat → Int32) (cf cc : Int32) : Prop :=
  (34 ≤ c.toInt → c.toInt ≤ 38 → p.toInt ≤ 19) ∧
  ((c.toInt = 36 ∨ c.toInt = 37) → 8 ≤ p.toInt → p.toInt < 16 → 0 ≤ (vO (g (7 : Int32).toNatClampNeg)).toInt ∧ (vO (g (7 : Int32).toNatClampNeg)).toInt ≤ 63) ∧
  ((c.toInt = 36 ∨ c.toInt = 37) → p.toInt < 8 → (st p.toNatClampNeg).toInt < 64) ∧
  (c.toInt = 36 → p.toInt ≤ 16) ∧
  (c.toInt = 37 → ¬ p.toInt = 16) ∧
  (c.toInt = 36 → p.toInt = 16 → cf.toInt < cc.toInt)
theorem z_andr {x y : Int32} (h : 0 ≤ y.toInt) : (0 : Int) ≤ (x &&& y).toInt ∧ (x &&& y).toInt ≤ y.toInt := z_and x (k := y.toInt) rfl h
theorem uB_ne {t : tSt} {j k i : Nat} {v : Int32} (h : Nat.beq j k = false) : (uB t k i v).2.2.1 j = t.2.2.1 j := by
  have hne : j ≠ k := fun e => by rw [e, Nat.beq_refl] at h; cases h
  show (if j = k then upd (t.2.2.1 k) i v else t.2.2.1 j) = _
  rw [if_neg hne]
theorem uG_ne {t : tSt} {j k i : Nat} {v : Int64} (h : Nat.beq j k = false) : (uG t k i v).2.2.2 j = t.2.2.2 j := by
  have hne : j ≠ k := fun e => by rw [e, Nat.beq_refl] at h; cases h
  show (if j = k then vp_updL (t.2.2.2 k) i v else t.2.2.2 j) = _
  rw [if_neg hne]
theorem tl_mull {x y : Int64} {k : Int} (hk : x.toInt = k) (h1 : -9223372036854775808 ≤ k * y.toInt) (h2 : k * y.toInt < 9223372036854775808) : (x * y).toInt = k * y.toInt := by
  rw [Jvm.Kit.i64_mul (by rw [hk]; exact h1) (by rw [hk]; exact h2), hk]
theorem tl_mulr {x y : Int64} {k : Int} (hk : y.toInt = k) (h1 : -9223372036854775808 ≤ x.toInt * k) (h2 : x.toInt * k < 9223372036854775808) : (x * y).toInt = x.toInt * k := by
  rw [Jvm.Kit.i64_mul (by rw [hk]; exact h1) (by rw [hk]; exact h2), hk]
theorem tl_remb {x y : Int64} {k : Int} (hk : y.toInt = k) (h0 : 0 < k) : -k < (x - (x / y) * y).toInt ∧ (x - (x / y) * y).toInt < k := by
  rw [Jvm.Kit.i64_rem, hk]; exact tmod_bounds h0
theorem jM_n {j : Int32} {t m : Int64} {b : Nat → Int64} (h : jM j t m b) : (-2147483648 ≤ m.toInt ∧ m.toInt ≤ 2147483647) ∧ (j.toInt = 1 → 0 ≤ t.toInt ∧ (t.toInt ≤ m.toInt ∨ t.toInt = 0)) := ⟨h.1, fun hj => ⟨(h.2 hj).1, (h.2 hj).2.1⟩⟩
theorem z_shr {x y : Int32} (h : 0 ≤ x.toInt) : (0 : Int) ≤ (x >>> (y &&& 31)).toInt ∧ (x >>> (y &&& 31)).toInt ≤ x.toInt := by
  rw [Jvm.Kit.i32_shr x (y &&& 31) rfl]
  exact ⟨Int.ediv_nonneg h (Int.le_of_lt (Int.pow_pos (by decide))), Int.ediv_le_self _ h⟩
theorem z_andl {x y : Int32} (h : 0 ≤ x.toInt) : (0 : Int) ≤ (x &&& y).toInt ∧ (x &&& y).toInt ≤ x.toInt := by
  have e : x &&& y = y &&& x := by rw [Int32.and_comm]
  rw [e]; exact z_andr h
/-- powers of ten -/
def pw (b : Int) (u : Int64) (k : Int) : Prop := 0 ≤ k ∧ u.toInt = b ^ k.toNat
theorem pw_up {b : Int} {u c v : Int64} {k : Int} (h : pw b u k) (hc : c.toInt = b) (hv : v = c * u) (h0 : 0 ≤ b) (hb : b ^ (k.toNat + 1) < 9223372036854775808) : pw b v (k + 1) := by
  obtain ⟨h1, h2⟩ := h
  have e : (k + 1).toNat = k.toNat + 1 := by omega
  have e2 : c.toInt * u.toInt = b ^ (k.toNat + 1) := by rw [hc, h2, Int.pow_succ, Int.mul_comm]
  have hp : 0 ≤ b ^ (k.toNat + 1) := Int.pow_nonneg h0
  refine ⟨by omega, ?_⟩
  rw [hv, Jvm.Kit.i64_mul (by rw [e2]; omega) (by rw [e2]; exact hb), e2, e]
theorem pw_dn {b : Int} {u c v : Int64} {k : Int} (h : pw b u k) (hc : c.toInt = b) (hv : v = u / c) (h0 : 1 < b) (hk : 1 ≤ k) : pw b v (k - 1) := by
  obtain ⟨h1, h2⟩ := h
  have e : k.toNat = (k - 1).toNat + 1 := by omega
  refine ⟨by omega, ?_⟩
  have hu : 0 ≤ u.toInt := by rw [h2]; exact Int.pow_nonneg (by omega)
  rw [hv, Jvm.Kit.i64_div (by omega), Int.tdiv_eq_ediv_of_nonneg hu, hc, h2, e, Int.pow_succ, Int.mul_ediv_cancel _ (by omega)]
theorem pw_ne {b : Int} {u : Int64} {k : Int} (h : pw b u k) (h0 : 1 < b) : u ≠ 0 := by
  intro e
  have h2 := h.2
  rw [e] at h2
  have : (0 : Int64).toInt = 0 := rfl
  have hp : 0 < b ^ k.toNat := Int.pow_pos (by omega)
  omega
theorem p10 {k : Int} (h : k ≤ 17) : (10 : Int) ^ (k.toNat + 1) < 9223372036854775808 := by
  have h1 : k.toNat + 1 ≤ 18 := by omega
  have h2 : (10 : Nat) ^ (k.toNat + 1) ≤ 10 ^ 18 := Nat.pow_le_pow_right (by decide) h1
  have h3 : ((10 : Nat) ^ (k.toNat + 1) : Int) ≤ ((10 ^ 18 : Nat) : Int) := by exact_mod_cast h2
  have h4 : ((10 ^ 18 : Nat) : Int) < 9223372036854775808 := by decide
  exact Int.lt_of_le_of_lt (by exact_mod_cast h2) h4
theorem p37 {k : Int} (h : k ≤ 8) : (37 : Int) ^ (k.toNat + 1) < 9223372036854775808 := by
  have h1 : k.toNat + 1 ≤ 9 := by omega
  have h2 : (37 : Nat) ^ (k.toNat + 1) ≤ 37 ^ 9 := Nat.pow_le_pow_right (by decide) h1
  have h4 : ((37 ^ 9 : Nat) : Int) < 9223372036854775808 := by decide
  exact Int.lt_of_le_of_lt (by exact_mod_cast h2) h4
/-- lines lie one behind the other -/
def lnS (n : Int) (f g : Nat → Int32) : Prop := ∀ l : Nat, (l : Int) < n → (f l).toInt ≤ (g l).toInt ∧ ((l : Int) + 1 < n → (f (l + 1)).toInt = (g l).toInt + 1)
theorem lnS_cg {n n' : Int} {f f' g g' : Nat → Int32} (h : lnS n f g) (hn : n' = n) (hf : f' = f) (hg : g' = g) : lnS n' f' g' := by rw [hn, hf, hg]; exact h
theorem lnS_at {n : Int} {f g : Nat → Int32} (h : lnS n f g) (w : Int32) (h0 : 0 ≤ w.toInt) (h1 : w.toInt < n) : (f w.toNatClampNeg).toInt ≤ (g w.toNatClampNeg).toInt := (h w.toNatClampNeg (by have := clamp_eq h0; omega)).1
theorem lnS_nx {n : Int} {f g : Nat → Int32} (h : lnS n f g) (w v : Int32) (h0 : 0 ≤ w.toInt) (hv : v.toInt = w.toInt + 1) (h1 : v.toInt < n) : (f v.toNatClampNeg).toInt = (g w.toNatClampNeg).toInt + 1 := by
  have e0 := clamp_eq h0
  have e1 := clamp_eq (x := v) (by omega)
  have e : v.toNatClampNeg = w.toNatClampNeg + 1 := by omega
  rw [e]
  exact (h w.toNatClampNeg (by omega)).2 (by omega)
theorem lnS_b {n B : Int} {f g : Nat → Int32} (h : lnS n f g) (hb : ∀ i, (f i).toInt ≤ B) (w : Int32) (h0 : 0 ≤ w.toInt) (h1 : w.toInt + 1 < n) : (g w.toNatClampNeg).toInt + 1 ≤ B := by
  have e0 := clamp_eq h0
  have := (h w.toNatClampNeg (by omega)).2 (by omega)
  have := hb (w.toNatClampNeg + 1)
  omega
theorem lnS_0 {n : Int} {f g : Nat → Int32} (h : n = 0) : lnS n f g := fun l hl => absurd hl (by omega)
/-- one more line -/
theorem lnS_up {n : Int32} {m : Int} {f g : Nat → Int32} {a b : Int32} (h : lnS n.toInt f g) (h0 : 0 ≤ n.toInt) (hm : m = n.toInt + 1) (hab : a.toInt ≤ b.toInt) (hl : ∀ w : Int32, 0 ≤ w.toInt → w.toInt + 1 = n.toInt → a.toInt = (g w.toNatClampNeg).toInt + 1) : lnS m (upd f n.toNatClampNeg a) (upd g n.toNatClampNeg b) := by
  have e0 := clamp_eq h0
  intro l hlm
  by_cases e : l = n.toNatClampNeg
  · subst e; rw [pk_us, pk_us]; exact ⟨hab, fun q => absurd q (by omega)⟩
  · rw [pk_un e, pk_un e]
    obtain ⟨h1, h2⟩ := h l (by omega)
    refine ⟨h1, fun q => ?_⟩
    by_cases e2 : l + 1 = n.toNatClampNeg
    · rw [e2, pk_us]
      have q1 : ((Int32.ofNat l).toNatClampNeg : Int) = l := by
        have := i32_nat (n := l) (by have := n.toInt_lt; omega)
        rw [clamp_eq (by omega), this]
      have q2 : (Int32.ofNat l).toInt = l := i32_nat (by have := n.toInt_lt; omega)
      have := hl (Int32.ofNat l) (by omega) (by omega)
      have q3 : (Int32.ofNat l).toNatClampNeg = l := by omega
      rw [q3] at this; exact this
    · rw [pk_un e2]; exact h2 (by omega)
/-- where a line ends -/
def leP (f : Nat → Int32) (a b r : Int32) : Prop := a.toInt ≤ r.toInt ∧ (∀ j : Int32, a.toInt ≤ j.toInt → j.toInt < r.toInt → j.toInt < b.toInt ∧ ¬ (f j.toNatClampNeg).toInt = 10) ∧ (b.toInt ≤ r.toInt ∨ (f r.toNatClampNeg).toInt = 10)
theorem leP_u {f g : Nat → Int32} {a b r s : Int32} (h : leP f a b r) (h' : leP g a b s) (e : g = f) : r.toInt = s.toInt := by
  subst e
  rcases Int.lt_trichotomy r.toInt s.toInt with q | q | q
  · have := h'.2.1 r h.1 q
    rcases h.2.2 with z | z
    · omega
    · exact absurd z this.2
  · exact q
  · have := h.2.1 s h'.1 q
    rcases h'.2.2 with z | z
    · omega
    · exact absurd z this.2
/-- keys greater than one -/
def kc (f : Nat → Int64) : Nat → Int → Nat
  | 0, _ => 0
  | n + 1, k => kc f n k + (if k < (f n).toInt then 1 else 0)
theorem kc_le (f : Nat → Int64) (k : Int) : ∀ n, kc f n k ≤ n := by
  intro n
  induction n with
  | zero => exact Nat.le_refl _
  | succ n ih => rw [kc]; split <;> omega
theorem kc_mono (f : Nat → Int64) {k k' : Int} (h : k ≤ k') : ∀ n, kc f n k' ≤ kc f n k := by
  intro n
  induction n with
  | zero => exact Nat.le_refl _
  | succ n ih => rw [kc, kc]; (repeat' split) <;> omega
theorem kc_lt (f : Nat → Int64) {k : Int} {i : Nat} (hk : k < (f i).toInt) : ∀ n, i < n → kc f n (f i).toInt < kc f n k := by
  intro n
  induction n with
  | zero => intro h; omega
  | succ n ih =>
    intro h
    have hm := kc_mono f (Int.le_of_lt hk) n
    rw [kc, kc]
    by_cases e : n = i
    · subst e; rw [if_neg (Int.lt_irrefl _), if_pos hk]; omega
    · have := ih (by omega)
      (repeat' split) <;> omega
def kM (f : Nat → Int64) (n w : Int32) : Int := if w.toInt = -1 then 0 else 1 + (kc f n.toNatClampNeg (f w.toNatClampNeg).toInt : Int)
theorem kM_r (f : Nat → Int64) (n w : Int32) (hn : 0 ≤ n.toInt) : 0 ≤ kM f n w ∧ kM f n w ≤ n.toInt + 1 := by
  have := kc_le f (f w.toNatClampNeg).toInt n.toNatClampNeg
  have e := clamp_eq hn
  unfold kM; split <;> omega
theorem kM_lt (f : Nat → Int64) (n w v : Int32) (hn : 0 ≤ n.toInt) (hw : 0 ≤ w.toInt) (hv : v.toInt = -1 ∨ (0 ≤ v.toInt ∧ v.toInt < n.toInt ∧ (f w.toNatClampNeg).toInt < (f v.toNatClampNeg).toInt)) : kM f n v < kM f n w := by
  have e := clamp_eq hn
  unfold kM
  rw [if_neg (by omega : ¬ w.toInt = -1)]
  split
  · omega
  · rcases hv with hv | ⟨h1, h2, h3⟩
    · omega
    · have := kc_lt f h3 n.toNatClampNeg (by have := clamp_eq h1; omega)
      omega
theorem pw_eq {b : Int} {u : Int64} {k k' : Int} (h : pw b u k) (e : k' = k) : pw b u k' := by rw [e]; exact h
theorem jM_t {j : Int32} {t m : Int64} {b : Nat → Int64} (h : jM j t m b) {v : Int64} (hv : j.toInt = 1 → 0 ≤ v.toInt ∧ (v.toInt ≤ m.toInt ∨ v.toInt = 0)) : jM j v m b := ⟨h.1, fun hj => ⟨(hv hj).1, (hv hj).2, (h.2 hj).2.2⟩⟩
theorem jM_0 {j k : Int32} {t m : Int64} {b : Nat → Int64} (h : jM j t m b) (hk : k.toInt = 0) : jM k t m b := ⟨h.1, fun hj => absurd hj (by omega)⟩
theorem jM_s {j k : Int32} {t m n : Int64} {b : Nat → Int64} (h : jM j t m b) (ht : t.toInt = 0) (hb : bz b 20) (hn : -2147483648 ≤ n.toInt ∧ n.toInt ≤ 2147483647) : jM k t n b :=
  ⟨hn, fun _ => ⟨by omega, Or.inr ht, fun u hu => Or.inr (by have := hb u (by omega); omega)⟩⟩
theorem jM_m {j : Int32} {t m : Int64} {b : Nat → Int64} (h : jM j t m b) : -2147483648 ≤ m.toInt ∧ m.toInt ≤ 2147483647 := h.1
theorem bz_0 {b : Nat → Int64} {n : Int} (h : n ≤ 0) : bz b n := fun u hu => absurd hu (by omega)
theorem bz_up {b : Nat → Int64} {w : Int32} {n : Int} {v : Int64} (h : bz b w.toInt) (h0 : 0 ≤ w.toInt) (hv : v.toInt = 0) (hn : n = w.toInt + 1) : bz (vp_updL b w.toNatClampNeg v) n := by
  intro u hu
  have e0 := clamp_eq h0
  by_cases e : u = w.toNatClampNeg
  · subst e; rw [show vp_updL b w.toNatClampNeg v w.toNatClampNeg = v from if_pos rfl]; exact hv
  · rw [show vp_updL b w.toNatClampNeg v u = b u from if_neg e]; exact h u (by omega)
theorem bz_le {b : Nat → Int64} {n m : Int} (h : bz b n) (hm : m ≤ n) : bz b m := fun u hu => h u (by omega)
def lastLe (n : Int32) (g : Nat → Int32) (b : Int) : Prop := (n.toInt = 0 → 0 ≤ b) ∧ ∀ v : Int32, 0 ≤ v.toInt → v.toInt + 1 = n.toInt → (g v.toNatClampNeg).toInt ≤ b
theorem lastLe_le {n : Int32} {g : Nat → Int32} {b b' : Int} (h : lastLe n g b) (hb : b ≤ b') : lastLe n g b' := ⟨fun q => by have := h.1 q; omega, fun v h0 h1 => by have := h.2 v h0 h1; omega⟩
theorem lastLe_eq {n n' : Int32} {g g' : Nat → Int32} {b : Int} (h : lastLe n g b) (hn : n' = n) (hg : g' = g) : lastLe n' g' b := by rw [hn, hg]; exact h
theorem lastLe_0 {n : Int32} {g : Nat → Int32} {b : Int} (hn : n.toInt = 0) (hb : 0 ≤ b) : lastLe n g b := ⟨fun _ => hb, fun v h0 h1 => absurd h1 (by omega)⟩
theorem iM2_f {n : Int32} {f g : Nat → Int32} (h : iM2 n f g) {i : Nat} {v : Int32} (hi : n.toInt ≤ (i : Int)) : iM2 n (upd f i v) g := fun c hc => by rw [pk_un (by omega)]; exact h c hc
theorem iM2_g {n : Int32} {f g : Nat → Int32} (h : iM2 n f g) {i : Nat} {v : Int32} (hi : n.toInt ≤ (i : Int)) : iM2 n f (upd g i v) := fun c hc => by rw [pk_un (by omega)]; exact h c hc
theorem iM2_0 {n : Int32} {f g : Nat → Int32} (h : n.toInt ≤ 0) : iM2 n f g := fun c hc => absurd hc (by omega)
theorem iM2_up {n m : Int32} {f g : Nat → Int32} (h : iM2 n f g) (h0 : 0 ≤ n.toInt) (hm : m.toInt = n.toInt + 1) (hn : (f n.toNatClampNeg).toInt ≤ (g n.toNatClampNeg).toInt ∧ (g n.toNatClampNeg).toInt ≤ (f n.toNatClampNeg).toInt + 80) : iM2 m f g := by
  have e0 := clamp_eq h0
  intro c hc
  by_cases e : c = n.toNatClampNeg
  · rw [e]; exact hn
  · exact h c (by omega)
def iR (lo hi : Int) (f g : Nat → Int32) : Prop := ∀ c : Nat, lo ≤ (c : Int) → (c : Int) < hi → (f c).toInt ≤ (g c).toInt ∧ (g c).toInt ≤ (f c).toInt + 80
theorem iR_at {lo hi : Int} {f g : Nat → Int32} (h : iR lo hi f g) (w : Int32) (h0 : 0 ≤ w.toInt) (h1 : lo ≤ w.toInt) (h2 : w.toInt < hi) : (f w.toNatClampNeg).toInt ≤ (g w.toNatClampNeg).toInt ∧ (g w.toNatClampNeg).toInt ≤ (f w.toNatClampNeg).toInt + 80 := by
  have e0 := clamp_eq h0
  exact h _ (by omega) (by omega)
theorem iR_hi {lo lo' hi : Int} {f g : Nat → Int32} (h : iR lo hi f g) (w : Int32) {a b : Int32} (h0 : 0 ≤ w.toInt) (h1 : w.toInt < lo') (hl : lo ≤ lo') : iR lo' hi (upd f w.toNatClampNeg a) (upd g w.toNatClampNeg b) := by
  have e0 := clamp_eq h0
  intro c h2 h3
  rw [pk_un (by omega), pk_un (by omega)]
  exact h c (by omega) h3
theorem iR_lo {n : Int} {f g : Nat → Int32} (w : Int32) (h : iR 0 w.toInt f g) {a b : Int32} (h0 : 0 ≤ w.toInt) (hn : n = w.toInt + 1) (hab : a.toInt ≤ b.toInt ∧ b.toInt ≤ a.toInt + 80) : iR 0 n (upd f w.toNatClampNeg a) (upd g w.toNatClampNeg b) := by
  have e0 := clamp_eq h0
  intro c h2 h3
  by_cases e : c = w.toNatClampNeg
  · subst e; rw [pk_us, pk_us]; exact hab
  · rw [pk_un e, pk_un e]; exact h c h2 (by omega)
def fLet (t : tSt) (x : Int32) : Int32 := gL (t.2.2.1 18) ((t.2.2.1 19) (t.1 0 67).toNatClampNeg) ((t.2.2.1 20) (t.1 0 67).toNatClampNeg) (x - 1)
def fDeck (t : tSt) (y x : Int32) : Int32 := gL (t.2.2.1 36) ((t.2.2.1 37) y.toNatClampNeg) ((t.2.2.1 38) y.toNatClampNeg) (x - 1)
def okMI : List (List (Int × Int)) := [[(0, 1), (-2147483648, 2147483647), (0, 1280), (-2147483648, 2147483647), (-2147483648, 2147483647), (0, 1), (0, 7), (-2147483648, 2147483647), (-2147483648, 2147483647), (0, 10), (0, 1), (0, 1), (0, 1), (-2147483648, 2147483647), (0, 1), (-2147483648, 2147483647), (0, 63), (0, 63), (-2147483648, 2147483647), (-2147483648, 2147483647), (-2147483648, 2147483647), (-2147483648, 2147483647), (-2147483648, 2147483647), (-2147483648, 2147483647), (-2147483648, 2147483647), (-2147483648, 2147483647), (-2147483648, 2147483647), (-2147483648, 2147483647), (-2147483648, 2147483647), (-2147483648, 2147483647), (0, 120), (0, 1), (-2147483648, 2147483647), (-2147483648, 2147483647), (-2147483648, 2147483647), (0, 1700), (0, 1700), (-2147483648, 2147483647), (0, 1280), (-2147483648, 2147483647), (-2147483648, 2147483647), (0, 1280), (0, 1), (0, 8), (0, 4000), (-3999, 3999), (0, 1), (-3999, 4000), (-2147483648, 2147483647), (-2147483648, 2147483647), (-2147483648, 2147483647), (0, 1280), (0, 1200), (-2147483648, 2147483647), (-2147483648, 2147483647), (-2147483648, 2147483647), (-2147483648, 2147483647), (-2147483648, 2147483647), (-2147483648, 2147483647), (-2147483648, 2147483647), (0, 1200), (-2147483648, 2147483647), (-2147483648, 2147483647), (-2147483648, 2147483647), (-2147483648, 2147483647), (-2147483648, 2147483647), (-2147483648, 2147483647), (0, 1281), (0, 81), (0, 81), (0, 8), (-1, 2), (0, 1199), (-2147483648, 2147483647), (-2147483648, 2147483647), (-2147483648, 2147483647), (-2147483648, 2147483647), (0, 1280), (0, 6), (0, 81), (-2147483648, 2147483647), (-2147483648, 2147483647), (0, 427), (0, 427), (-2147483648, 2147483647), (-2147483648, 2147483647), (-2147483648, 2147483647), (-2147483648, 2147483647), (0, 1), (-2147483648, 2147483647), (-3999, 3999), (-2147483648, 2147483647), (-2147483648, 2147483647), (0, 1280)]]
def okMB : List (Int × Int) := [(-2147483648, 2147483647), (-3999, 127), (-2147483648, 2147483647), (-2147483648, 2147483647), (-2147483648, 2147483647), (0, 1), (-2147483648, 2147483647), (-2147483648, 2147483647), (-2147483648, 2147483647), (0, 64), (-2147483648, 2147483647), (-3999, 127), (0, 120), (0, 300), (-3999, 127), (-3999, 127), (0, 33300), (0, 33300), (-3999, 127), (0, 1280), (0, 1280), (0, 1), (-3999, 10000), (-2147483648, 2147483647), (-2147483648, 2147483647), (0, 1), (0, 16), (0, 3999), (-2147483648, 2147483647), (0, 1), (-1, 2), (0, 1199), (0, 1281), (-3999, 3999), (-2147483648, 2147483647), (0, 1), (-3999, 127), (0, 1280), (0, 1280), (0, 4), (-1, 9), (-2147483648, 2147483647), (-2147483648, 2147483647), (-2147483648, 2147483647), (0, 1)]
def okM (t : tSt) : Prop := okI okMI t ∧ okB okMB t ∧ iM1 (t.2.2.1 5) (t.2.2.1 7) ∧ iM2 (t.1 0 36) (t.2.2.1 16) (t.2.2.1 17) ∧ iM3 (t.2.2.1 22) ∧ (t.1 0 35).toInt ≤ (t.1 0 36).toInt ∧ jM (t.1 0 12) (t.2.1 0 8) (t.2.1 0 13) (t.2.2.2 4) ∧ True
def okM_g (t : tSt) : Prop := okI okMI t ∧ okB okMB t ∧ iM1 (t.2.2.1 5) (t.2.2.1 7) ∧ True ∧ iM3 (t.2.2.1 22) ∧ (t.1 0 35).toInt ≤ (t.1 0 36).toInt ∧ jM (t.1 0 12) (t.2.1 0 8) (t.2.1 0 13) (t.2.2.2 4) ∧ True
