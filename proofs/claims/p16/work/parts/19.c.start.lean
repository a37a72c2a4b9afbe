set_option maxHeartbeats 4000000 in
set_option maxRecDepth 100000 in
theorem whole_start {p : Program} {e : Env} {s : State} {m : MethodId} {below : List Frame} {meth : Method} {c : Code} (l : Launch) (htr : l.stackTraces = false) {b L : Nat} {xs : Nat → Int32} (hL : L ≤ 384) (C0 : lw_At p s m meth c b L xs) : W p l e room_1 s m #[Value.ref b] below meth c s.heap [] 0 0 (lw_Z below #[Value.ref b] s) (entryFrame m ([Value.ref b] : List Value).toArray 7) := by
  obtain ⟨hexec, hbc, hr, hml, hown, hts, hsc, hb, hlocks, hgv⟩ := C0
  have hts2 : ∀ w ∈ wsL_law, w.before #[Value.ref b] s = true := fun w h => hts w (wsL_law_in w h)
  obtain ⟨c0, i0, k0⟩ := u_known (C := RX0) (T := TX0) (N := 20) (n := 20) hts2 inlX0 (hts2 _ m_2_1)
  obtain ⟨c1, i1, k1⟩ := u_known (C := RX2) (T := TX2) (N := 16) (n := 16) hts2 inlX2 (hts2 _ m_1_22)
  obtain ⟨c2, i2, k2⟩ := u_known (C := RX3) (T := TX3) (N := 16) (n := 16) hts2 inlX3 (hts2 _ m_2_16)
  obtain ⟨c3, i3, k3⟩ := u_known (C := RX4) (T := TX4) (N := 4) (n := 4) hts2 inlX4 (hts2 _ m_3_19)
  obtain ⟨c4, i4, k4⟩ := u_known (C := RX5) (T := TX5) (N := 10) (n := 10) hts2 inlX5 (hts2 _ m_5_21)
  obtain ⟨c5, i5, k5⟩ := u_known (C := RX6) (T := TX6) (N := 4) (n := 4) hts2 inlX6 (hts2 _ m_3_15)
  obtain ⟨c6, i6, k6⟩ := u_known (C := RX7) (T := TX7) (N := 4) (n := 4) hts2 inlX7 (hts2 _ m_2_12)
  obtain ⟨c7, i7, k7⟩ := u_known (C := RX8) (T := TX8) (N := 13) (n := 13) hts2 inlX8 (hts2 _ m_2_4)
  obtain ⟨c8, i8, k8⟩ := u_known (C := RX9) (T := TX9) (N := 8) (n := 8) hts2 inlX9 (hts2 _ m_1_16)
  obtain ⟨c9, i9, k9⟩ := u_known (C := RX10) (T := TX10) (N := 13) (n := 13) hts2 inlX10 (hts2 _ m_1_19)
  obtain ⟨c10, i10, k10⟩ := u_known (C := RX11) (T := TX11) (N := 8) (n := 8) hts2 inlX11 (hts2 _ m_1_1)
  obtain ⟨c11, i11, k11⟩ := u_known (C := RX12) (T := TX12) (N := 94) (n := 94) hts2 inlX12 (hts2 _ m_1_4)
  obtain ⟨q0, kq0, cp0, f0, g0, j0⟩ := Cond.arrayClass_spec (hts2 _ m_1_13)
  obtain ⟨q1, kq1, cp1, f1, g1, j1⟩ := Cond.arrayClass_spec (hts2 _ m_1_6)
  obtain ⟨q2, kq2, cp2, f2, g2, j2⟩ := Cond.arrayClass_spec (hts2 _ m_1_14)
  obtain ⟨q3, kq3, cp3, f3, g3, j3⟩ := Cond.arrayClass_spec (hts2 _ m_3_10)
  have hw4 : (Cond.arrayOver (.array .byte)).before #[] s = true := hts (Cond.arrayOver (.array .byte)) (by decide +kernel)
  obtain ⟨cp4, q4, kq4, -, -, g4, j4, f4⟩ := arrayOverA_spec hw4
  have hw5 : (Cond.arrayOver (.array .int)).before #[] s = true := hts (Cond.arrayOver (.array .int)) (by decide +kernel)
  obtain ⟨cp5, q5, kq5, -, -, g5, j5, f5⟩ := arrayOverA_spec hw5
  obtain ⟨D, hD0⟩ : ∃ D : va_G, D = (fun k => [c0, c1, c2, c3, c4, c5, c6, c7, c8, c9, c10, c11].getD k 0, fun k => [i0, i1, i2, i3, i4, i5, i6, i7, i8, i9, i10, i11].getD k (fun _ => 0)) := ⟨_, rfl⟩
  obtain ⟨K, hK0⟩ : ∃ K : Nat → ClassId, K = fun k => [q0, q1, q2, q3, q4, q5].getD k 0 := ⟨_, rfl⟩
  have hK : va_K D vwCl (TY K) s := by
    subst hD0; subst hK0
    refine ⟨fun k q hq => ?_, fun k q hq => ?_⟩
    · match k, hq with
      | 0, hq => cases (show (some (RX0, TX0, 20) : Option vw_C) = some q from hq); exact k0
      | 1, hq => cases (show (some (RX2, TX2, 16) : Option vw_C) = some q from hq); exact k1
      | 2, hq => cases (show (some (RX3, TX3, 16) : Option vw_C) = some q from hq); exact k2
      | 3, hq => cases (show (some (RX4, TX4, 4) : Option vw_C) = some q from hq); exact k3
      | 4, hq => cases (show (some (RX5, TX5, 10) : Option vw_C) = some q from hq); exact k4
      | 5, hq => cases (show (some (RX6, TX6, 4) : Option vw_C) = some q from hq); exact k5
      | 6, hq => cases (show (some (RX7, TX7, 4) : Option vw_C) = some q from hq); exact k6
      | 7, hq => cases (show (some (RX8, TX8, 13) : Option vw_C) = some q from hq); exact k7
      | 8, hq => cases (show (some (RX9, TX9, 8) : Option vw_C) = some q from hq); exact k8
      | 9, hq => cases (show (some (RX10, TX10, 13) : Option vw_C) = some q from hq); exact k9
      | 10, hq => cases (show (some (RX11, TX11, 8) : Option vw_C) = some q from hq); exact k10
      | 11, hq => cases (show (some (RX12, TX12, 94) : Option vw_C) = some q from hq); exact k11
      | (n + 12), hq => cases (show (none : Option vw_C) = some q from hq)
    · match k, hq with
      | 0, hq => cases (show (some (q0, .int) : Option (ClassId × FieldType)) = some q from hq); exact ⟨fun n z => ⟨fun k h => (by cases h), kq0, g0, cp0, j0⟩, f0⟩
      | 1, hq => cases (show (some (q1, .long) : Option (ClassId × FieldType)) = some q from hq); exact ⟨fun n z => ⟨fun k h => (by cases h), kq1, g1, cp1, j1⟩, f1⟩
      | 2, hq => cases (show (some (q2, .byte) : Option (ClassId × FieldType)) = some q from hq); exact ⟨fun n z => ⟨fun k h => (by cases h), kq2, g2, cp2, j2⟩, f2⟩
      | 3, hq => cases (show (some (q3, .boolean) : Option (ClassId × FieldType)) = some q from hq); exact ⟨fun n z => ⟨fun k h => (by cases h), kq3, g3, cp3, j3⟩, f3⟩
      | 4, hq => cases (show (some (q4, .array .byte) : Option (ClassId × FieldType)) = some q from hq); exact ⟨fun n z => ⟨fun k h => (by cases h), kq4, g4, cp4, j4⟩, f4⟩
      | 5, hq => cases (show (some (q5, .array .int) : Option (ClassId × FieldType)) = some q from hq); exact ⟨fun n z => ⟨fun k h => (by cases h), kq5, g5, cp5, j5⟩, f5⟩
      | (n + 6), hq => cases (show (none : Option (ClassId × FieldType)) = some q from hq)
  have C : kC p s m #[Value.ref b] c cL_law RL 7 D K := ⟨hexec, hbc, hml, hown, hts2, hK⟩
  have hX : XX s := ⟨va_Nw.of rfl (hts (Cond.methodLinkNest RX11 28 yX8_init "SixBitBoard") (by decide +kernel)), va_Nw.of rfl (hts (Cond.methodLinkNest RX10 39 yX6_init "SixBitBoard") (by decide +kernel)), hw4, hw5⟩
  have hE : XE s := ⟨va_Nw.of rfl (hts _ (by decide +kernel)), va_Nw.of rfl (hts _ (by decide +kernel)), va_Nw.of rfl (hts _ (by decide +kernel)), va_Nw.of rfl (hts _ (by decide +kernel))⟩
  have hfl := flat_of_before _ hgv
  have hini : (Cond.initialized Bundle.tN).before #[Value.ref b] s = true := hts _ (by decide +kernel)
  have hZ : XZ (fun q => s.heap.size ≤ q) s s.heap := ⟨vx_Zqof (hts (Cond.laysStatic Bundle.tN "UNASSIGNED_STACK" Bundle.steD) (by decide +kernel)) hini (hfl (Cond.isRef (.static Bundle.tN "UNASSIGNED_STACK" Bundle.steD)) (by decide +kernel)) (fun a h => Nat.not_le.mpr h), vx_Zqof (hts (Cond.laysStatic Bundle.tN "SUPPRESSED_SENTINEL" Bundle.listD) (by decide +kernel)) hini (hfl (Cond.isRef (.static Bundle.tN "SUPPRESSED_SENTINEL" Bundle.listD)) (by decide +kernel)) (fun a h => Nat.not_le.mpr h)⟩
  obtain ⟨Z, Y, hE2, hZ2⟩ := start_XQ hts hfl hE hZ (hts2 _ m_1_5) (fun a h => Nat.not_le.mpr h)
  have hl := lv_entry [Value.ref b] (n := 7) (Nat.le_of_ble_eq_true rfl)
  rw [lg_entry_eq]
  exact law_enter (A := fun q => s.heap.size ≤ q) htr hL C hr hlocks hX hE2 hZ2 (fun _ h => h) (fun _ h => h) hsc hb (Nat.not_le.mpr hb) va_P0 va_D0 va_S.rf hl
