theorem dJ0_charAt_5068e_0 : decode cJ0_charAt_5068e 0 = .ok (.aload_n 0, 1) := by decide +kernel
theorem dJ0_charAt_5068e_1 : decode cJ0_charAt_5068e 1 = .ok (.invokevirtual 492, 3) := by decide +kernel
theorem dJ0_charAt_5068e_11 : decode cJ0_charAt_5068e 11 = .ok (.iload_n 1, 1) := by decide +kernel
theorem dJ0_charAt_5068e_12 : decode cJ0_charAt_5068e 12 = .ok (.invokestatic 495, 3) := by decide +kernel
theorem dJ0_charAt_5068e_15 : decode cJ0_charAt_5068e 15 = .ok (.ireturn, 1) := by decide +kernel
theorem dJ0_charAt_5068e_4 : decode cJ0_charAt_5068e 4 = .ok (.ifCond .eq 12, 3) := by decide +kernel
theorem dJ0_charAt_5068e_7 : decode cJ0_charAt_5068e 7 = .ok (.aload_n 0, 1) := by decide +kernel
theorem dJ0_charAt_5068e_8 : decode cJ0_charAt_5068e 8 = .ok (.getfield 9, 3) := by decide +kernel
theorem dJ0_checkIndex_df160_0 : decode cJ0_checkIndex_df160 0 = .ok (.iload_n 0, 1) := by decide +kernel
theorem dJ0_checkIndex_df160_1 : decode cJ0_checkIndex_df160 1 = .ok (.iload_n 1, 1) := by decide +kernel
theorem dJ0_checkIndex_df160_2 : decode cJ0_checkIndex_df160 2 = .ok (.getstatic 1053, 3) := by decide +kernel
theorem dJ0_checkIndex_df160_5 : decode cJ0_checkIndex_df160 5 = .ok (.invokestatic 1059, 3) := by decide +kernel
theorem dJ0_checkIndex_df160_8 : decode cJ0_checkIndex_df160 8 = .ok (.pop, 1) := by decide +kernel
theorem dJ0_checkIndex_df160_9 : decode cJ0_checkIndex_df160 9 = .ok (.return_, 1) := by decide +kernel
theorem dJ0_coder_7d493_0 : decode cJ0_coder_7d493 0 = .ok (.getstatic 38, 3) := by decide +kernel
theorem dJ0_coder_7d493_10 : decode cJ0_coder_7d493 10 = .ok (.goto 4, 3) := by decide +kernel
theorem dJ0_coder_7d493_14 : decode cJ0_coder_7d493 14 = .ok (.ireturn, 1) := by decide +kernel
theorem dJ0_coder_7d493_3 : decode cJ0_coder_7d493 3 = .ok (.ifCond .eq 10, 3) := by decide +kernel
theorem dJ0_coder_7d493_6 : decode cJ0_coder_7d493 6 = .ok (.aload_n 0, 1) := by decide +kernel
theorem dJ0_coder_7d493_7 : decode cJ0_coder_7d493 7 = .ok (.getfield 15, 3) := by decide +kernel
theorem dJ0_indexOf_0f7a4_0 : decode cJ0_indexOf_0f7a4 0 = .ok (.aload_n 0, 1) := by decide +kernel
theorem dJ0_indexOf_0f7a4_1 : decode cJ0_indexOf_0f7a4 1 = .ok (.iload_n 1, 1) := by decide +kernel
theorem dJ0_indexOf_0f7a4_2 : decode cJ0_indexOf_0f7a4 2 = .ok (.iconst 0, 1) := by decide +kernel
theorem dJ0_indexOf_0f7a4_3 : decode cJ0_indexOf_0f7a4 3 = .ok (.invokevirtual 633, 3) := by decide +kernel
theorem dJ0_indexOf_0f7a4_6 : decode cJ0_indexOf_0f7a4 6 = .ok (.ireturn, 1) := by decide +kernel
theorem dJ0_indexOf_7cf53_0 : decode cJ0_indexOf_7cf53 0 = .ok (.aload_n 0, 1) := by decide +kernel
theorem dJ0_indexOf_7cf53_1 : decode cJ0_indexOf_7cf53 1 = .ok (.invokevirtual 492, 3) := by decide +kernel
theorem dJ0_indexOf_7cf53_11 : decode cJ0_indexOf_7cf53 11 = .ok (.iload_n 1, 1) := by decide +kernel
theorem dJ0_indexOf_7cf53_12 : decode cJ0_indexOf_7cf53 12 = .ok (.iload_n 2, 1) := by decide +kernel
theorem dJ0_indexOf_7cf53_13 : decode cJ0_indexOf_7cf53 13 = .ok (.aload_n 0, 1) := by decide +kernel
theorem dJ0_indexOf_7cf53_14 : decode cJ0_indexOf_7cf53 14 = .ok (.invokevirtual 505, 3) := by decide +kernel
theorem dJ0_indexOf_7cf53_17 : decode cJ0_indexOf_7cf53 17 = .ok (.invokestatic 637, 3) := by decide +kernel
theorem dJ0_indexOf_7cf53_20 : decode cJ0_indexOf_7cf53 20 = .ok (.goto 16, 3) := by decide +kernel
theorem dJ0_indexOf_7cf53_36 : decode cJ0_indexOf_7cf53 36 = .ok (.ireturn, 1) := by decide +kernel
theorem dJ0_indexOf_7cf53_4 : decode cJ0_indexOf_7cf53 4 = .ok (.ifCond .eq 19, 3) := by decide +kernel
theorem dJ0_indexOf_7cf53_7 : decode cJ0_indexOf_7cf53 7 = .ok (.aload_n 0, 1) := by decide +kernel
theorem dJ0_indexOf_7cf53_8 : decode cJ0_indexOf_7cf53 8 = .ok (.getfield 9, 3) := by decide +kernel
theorem dJ0_isLatin1_aae02_0 : decode cJ0_isLatin1_aae02 0 = .ok (.getstatic 38, 3) := by decide +kernel
theorem dJ0_isLatin1_aae02_10 : decode cJ0_isLatin1_aae02 10 = .ok (.ifCond .ne 7, 3) := by decide +kernel
theorem dJ0_isLatin1_aae02_13 : decode cJ0_isLatin1_aae02 13 = .ok (.iconst 1, 1) := by decide +kernel
theorem dJ0_isLatin1_aae02_14 : decode cJ0_isLatin1_aae02 14 = .ok (.goto 4, 3) := by decide +kernel
theorem dJ0_isLatin1_aae02_18 : decode cJ0_isLatin1_aae02 18 = .ok (.ireturn, 1) := by decide +kernel
theorem dJ0_isLatin1_aae02_3 : decode cJ0_isLatin1_aae02 3 = .ok (.ifCond .eq 14, 3) := by decide +kernel
theorem dJ0_isLatin1_aae02_6 : decode cJ0_isLatin1_aae02 6 = .ok (.aload_n 0, 1) := by decide +kernel
theorem dJ0_isLatin1_aae02_7 : decode cJ0_isLatin1_aae02 7 = .ok (.getfield 15, 3) := by decide +kernel
theorem dJ0_length_8abf5_0 : decode cJ0_length_8abf5 0 = .ok (.aload_n 0, 1) := by decide +kernel
theorem dJ0_length_8abf5_1 : decode cJ0_length_8abf5 1 = .ok (.getfield 9, 3) := by decide +kernel
theorem dJ0_length_8abf5_10 : decode cJ0_length_8abf5 10 = .ok (.ireturn, 1) := by decide +kernel
theorem dJ0_length_8abf5_4 : decode cJ0_length_8abf5 4 = .ok (.arraylength, 1) := by decide +kernel
theorem dJ0_length_8abf5_5 : decode cJ0_length_8abf5 5 = .ok (.aload_n 0, 1) := by decide +kernel
theorem dJ0_length_8abf5_6 : decode cJ0_length_8abf5 6 = .ok (.invokevirtual 335, 3) := by decide +kernel
theorem dJ0_length_8abf5_9 : decode cJ0_length_8abf5 9 = .ok (.ishr, 1) := by decide +kernel
theorem dJ1_canEncode_9a6ad_0 : decode cJ1_canEncode_9a6ad 0 = .ok (.iload_n 0, 1) := by decide +kernel
theorem dJ1_canEncode_9a6ad_1 : decode cJ1_canEncode_9a6ad 1 = .ok (.ifCond .lt 14, 3) := by decide +kernel
theorem dJ1_canEncode_9a6ad_11 : decode cJ1_canEncode_9a6ad 11 = .ok (.iconst 1, 1) := by decide +kernel
theorem dJ1_canEncode_9a6ad_12 : decode cJ1_canEncode_9a6ad 12 = .ok (.goto 4, 3) := by decide +kernel
theorem dJ1_canEncode_9a6ad_15 : decode cJ1_canEncode_9a6ad 15 = .ok (.iconst 0, 1) := by decide +kernel
theorem dJ1_canEncode_9a6ad_16 : decode cJ1_canEncode_9a6ad 16 = .ok (.ireturn, 1) := by decide +kernel
theorem dJ1_canEncode_9a6ad_4 : decode cJ1_canEncode_9a6ad 4 = .ok (.iload_n 0, 1) := by decide +kernel
theorem dJ1_canEncode_9a6ad_5 : decode cJ1_canEncode_9a6ad 5 = .ok (.sipush 255, 3) := by decide +kernel
theorem dJ1_canEncode_9a6ad_8 : decode cJ1_canEncode_9a6ad 8 = .ok (.if_icmp .gt 7, 3) := by decide +kernel
theorem dJ1_charAt_3b067_0 : decode cJ1_charAt_3b067 0 = .ok (.iload_n 1, 1) := by decide +kernel
theorem dJ1_charAt_3b067_1 : decode cJ1_charAt_3b067 1 = .ok (.aload_n 0, 1) := by decide +kernel
theorem dJ1_charAt_3b067_12 : decode cJ1_charAt_3b067 12 = .ok (.iand, 1) := by decide +kernel
theorem dJ1_charAt_3b067_13 : decode cJ1_charAt_3b067 13 = .ok (.i2c, 1) := by decide +kernel
theorem dJ1_charAt_3b067_14 : decode cJ1_charAt_3b067 14 = .ok (.ireturn, 1) := by decide +kernel
theorem dJ1_charAt_3b067_2 : decode cJ1_charAt_3b067 2 = .ok (.arraylength, 1) := by decide +kernel
theorem dJ1_charAt_3b067_3 : decode cJ1_charAt_3b067 3 = .ok (.invokestatic 9, 3) := by decide +kernel
theorem dJ1_charAt_3b067_6 : decode cJ1_charAt_3b067 6 = .ok (.aload_n 0, 1) := by decide +kernel
theorem dJ1_charAt_3b067_7 : decode cJ1_charAt_3b067 7 = .ok (.iload_n 1, 1) := by decide +kernel
theorem dJ1_charAt_3b067_8 : decode cJ1_charAt_3b067 8 = .ok (.baload, 1) := by decide +kernel
theorem dJ1_charAt_3b067_9 : decode cJ1_charAt_3b067 9 = .ok (.sipush 255, 3) := by decide +kernel
theorem dJ1_indexOfChar_4cfef_0 : decode cJ1_indexOfChar_4cfef 0 = .ok (.iload_n 1, 1) := by decide +kernel
theorem dJ1_indexOfChar_4cfef_1 : decode cJ1_indexOfChar_4cfef 1 = .ok (.i2b, 1) := by decide +kernel
theorem dJ1_indexOfChar_4cfef_10 : decode cJ1_indexOfChar_4cfef 10 = .ok (.if_icmp .ge 21, 3) := by decide +kernel
theorem dJ1_indexOfChar_4cfef_13 : decode cJ1_indexOfChar_4cfef 13 = .ok (.aload_n 0, 1) := by decide +kernel
theorem dJ1_indexOfChar_4cfef_14 : decode cJ1_indexOfChar_4cfef 14 = .ok (.iload 5, 2) := by decide +kernel
theorem dJ1_indexOfChar_4cfef_16 : decode cJ1_indexOfChar_4cfef 16 = .ok (.baload, 1) := by decide +kernel
theorem dJ1_indexOfChar_4cfef_17 : decode cJ1_indexOfChar_4cfef 17 = .ok (.iload 4, 2) := by decide +kernel
theorem dJ1_indexOfChar_4cfef_19 : decode cJ1_indexOfChar_4cfef 19 = .ok (.if_icmp .ne 6, 3) := by decide +kernel
theorem dJ1_indexOfChar_4cfef_2 : decode cJ1_indexOfChar_4cfef 2 = .ok (.istore 4, 2) := by decide +kernel
theorem dJ1_indexOfChar_4cfef_22 : decode cJ1_indexOfChar_4cfef 22 = .ok (.iload 5, 2) := by decide +kernel
theorem dJ1_indexOfChar_4cfef_24 : decode cJ1_indexOfChar_4cfef 24 = .ok (.ireturn, 1) := by decide +kernel
theorem dJ1_indexOfChar_4cfef_25 : decode cJ1_indexOfChar_4cfef 25 = .ok (.iinc 5 1, 3) := by decide +kernel
theorem dJ1_indexOfChar_4cfef_28 : decode cJ1_indexOfChar_4cfef 28 = .ok (.goto (-21), 3) := by decide +kernel
theorem dJ1_indexOfChar_4cfef_31 : decode cJ1_indexOfChar_4cfef 31 = .ok (.iconst (-1), 1) := by decide +kernel
theorem dJ1_indexOfChar_4cfef_32 : decode cJ1_indexOfChar_4cfef 32 = .ok (.ireturn, 1) := by decide +kernel
theorem dJ1_indexOfChar_4cfef_4 : decode cJ1_indexOfChar_4cfef 4 = .ok (.iload_n 2, 1) := by decide +kernel
theorem dJ1_indexOfChar_4cfef_5 : decode cJ1_indexOfChar_4cfef 5 = .ok (.istore 5, 2) := by decide +kernel
theorem dJ1_indexOfChar_4cfef_7 : decode cJ1_indexOfChar_4cfef 7 = .ok (.iload 5, 2) := by decide +kernel
theorem dJ1_indexOfChar_4cfef_9 : decode cJ1_indexOfChar_4cfef 9 = .ok (.iload_n 3, 1) := by decide +kernel
theorem dJ1_indexOf_4cfef_0 : decode cJ1_indexOf_4cfef 0 = .ok (.iload_n 1, 1) := by decide +kernel
theorem dJ1_indexOf_4cfef_1 : decode cJ1_indexOf_4cfef 1 = .ok (.invokestatic 88, 3) := by decide +kernel
theorem dJ1_indexOf_4cfef_10 : decode cJ1_indexOf_4cfef 10 = .ok (.iconst 0, 1) := by decide +kernel
theorem dJ1_indexOf_4cfef_11 : decode cJ1_indexOf_4cfef 11 = .ok (.invokestatic 92, 3) := by decide +kernel
theorem dJ1_indexOf_4cfef_14 : decode cJ1_indexOf_4cfef 14 = .ok (.istore_n 2, 1) := by decide +kernel
theorem dJ1_indexOf_4cfef_15 : decode cJ1_indexOf_4cfef 15 = .ok (.iload_n 3, 1) := by decide +kernel
theorem dJ1_indexOf_4cfef_16 : decode cJ1_indexOf_4cfef 16 = .ok (.aload_n 0, 1) := by decide +kernel
theorem dJ1_indexOf_4cfef_17 : decode cJ1_indexOf_4cfef 17 = .ok (.arraylength, 1) := by decide +kernel
theorem dJ1_indexOf_4cfef_18 : decode cJ1_indexOf_4cfef 18 = .ok (.invokestatic 38, 3) := by decide +kernel
theorem dJ1_indexOf_4cfef_21 : decode cJ1_indexOf_4cfef 21 = .ok (.istore_n 3, 1) := by decide +kernel
theorem dJ1_indexOf_4cfef_22 : decode cJ1_indexOf_4cfef 22 = .ok (.iload_n 2, 1) := by decide +kernel
theorem dJ1_indexOf_4cfef_23 : decode cJ1_indexOf_4cfef 23 = .ok (.iload_n 3, 1) := by decide +kernel
theorem dJ1_indexOf_4cfef_24 : decode cJ1_indexOf_4cfef 24 = .ok (.if_icmp .lt 5, 3) := by decide +kernel
theorem dJ1_indexOf_4cfef_29 : decode cJ1_indexOf_4cfef 29 = .ok (.aload_n 0, 1) := by decide +kernel
theorem dJ1_indexOf_4cfef_30 : decode cJ1_indexOf_4cfef 30 = .ok (.iload_n 1, 1) := by decide +kernel
theorem dJ1_indexOf_4cfef_31 : decode cJ1_indexOf_4cfef 31 = .ok (.iload_n 2, 1) := by decide +kernel
theorem dJ1_indexOf_4cfef_32 : decode cJ1_indexOf_4cfef 32 = .ok (.iload_n 3, 1) := by decide +kernel
theorem dJ1_indexOf_4cfef_33 : decode cJ1_indexOf_4cfef 33 = .ok (.invokestatic 95, 3) := by decide +kernel
theorem dJ1_indexOf_4cfef_36 : decode cJ1_indexOf_4cfef 36 = .ok (.ireturn, 1) := by decide +kernel
theorem dJ1_indexOf_4cfef_4 : decode cJ1_indexOf_4cfef 4 = .ok (.ifCond .ne 5, 3) := by decide +kernel
theorem dJ1_indexOf_4cfef_7 : decode cJ1_indexOf_4cfef 7 = .ok (.iconst (-1), 1) := by decide +kernel
theorem dJ1_indexOf_4cfef_8 : decode cJ1_indexOf_4cfef 8 = .ok (.ireturn, 1) := by decide +kernel
theorem dJ1_indexOf_4cfef_9 : decode cJ1_indexOf_4cfef 9 = .ok (.iload_n 2, 1) := by decide +kernel
theorem dJ3_checkIndex_8e157_0 : decode cJ3_checkIndex_8e157 0 = .ok (.iload_n 0, 1) := by decide +kernel
theorem dJ3_checkIndex_8e157_1 : decode cJ3_checkIndex_8e157 1 = .ok (.ifCond .lt 8, 3) := by decide +kernel
theorem dJ3_checkIndex_8e157_16 : decode cJ3_checkIndex_8e157 16 = .ok (.iload_n 0, 1) := by decide +kernel
theorem dJ3_checkIndex_8e157_17 : decode cJ3_checkIndex_8e157 17 = .ok (.ireturn, 1) := by decide +kernel
theorem dJ3_checkIndex_8e157_4 : decode cJ3_checkIndex_8e157 4 = .ok (.iload_n 0, 1) := by decide +kernel
theorem dJ3_checkIndex_8e157_5 : decode cJ3_checkIndex_8e157 5 = .ok (.iload_n 1, 1) := by decide +kernel
theorem dJ3_checkIndex_8e157_6 : decode cJ3_checkIndex_8e157 6 = .ok (.if_icmp .lt 10, 3) := by decide +kernel
/-! ===== numbers ===== -/
theorem nar_char (x : Int32) : (0 : Int) ≤ ((x.toUInt32 % 65536).toInt32).toInt ∧ ((x.toUInt32 % 65536).toInt32).toInt ≤ 65535 := by
  have h : (x.toUInt32 % 65536).toNat < 65536 := by
    rw [UInt32.toNat_mod]; exact Nat.mod_lt _ (by decide)
  have e : ((x.toUInt32 % 65536).toInt32).toInt = ((x.toUInt32 % 65536).toNat : Int) := by
    show ((x.toUInt32 % 65536).toInt32.toBitVec).toInt = _
    have e1 : (x.toUInt32 % 65536).toInt32.toBitVec = (x.toUInt32 % 65536).toBitVec := rfl
    rw [e1, BitVec.toInt_eq_toNat_of_lt (by show 2 * (x.toUInt32 % 65536).toNat < 2 ^ 32; omega)]
    rfl
  rw [e]; omega
theorem z_and (x : Int32) {y : Int32} {k : Int} (hk : y.toInt = k) (h0 : 0 ≤ k) : (0 : Int) ≤ (x &&& y).toInt ∧ (x &&& y).toInt ≤ k := by
  have hy : y.toBitVec.toInt = k := hk
  have hm : y.toBitVec.msb = false := by
    cases h : y.toBitVec.msb
    · rfl
    · have := BitVec.toInt_neg_of_msb_true h; omega
  have hyn : (y.toBitVec.toNat : Int) = k := by rw [← hy, BitVec.toInt_eq_toNat_of_msb hm]
  have hmx : (x.toBitVec &&& y.toBitVec).msb = false := by rw [BitVec.msb_and, hm, Bool.and_false]
  have e : (x &&& y).toInt = ((x.toBitVec &&& y.toBitVec).toNat : Int) := by
    show (x.toBitVec &&& y.toBitVec).toInt = _
    rw [BitVec.toInt_eq_toNat_of_msb hmx]
  have hle : (x.toBitVec &&& y.toBitVec).toNat ≤ y.toBitVec.toNat := by rw [BitVec.toNat_and]; exact Nat.and_le_right
  rw [e]; omega
theorem z_nn {x : Int32} (h : 0 ≤ x.toInt) : x.toBitVec.msb = false ∧ x.toInt = (x.toBitVec.toNat : Int) := by
  have hm : x.toBitVec.msb = false := by
    cases q : x.toBitVec.msb
    · rfl
    · have := BitVec.toInt_neg_of_msb_true q
      have h' : 0 ≤ x.toBitVec.toInt := h
      omega
  exact ⟨hm, by show x.toBitVec.toInt = _; rw [BitVec.toInt_eq_toNat_of_msb hm]⟩
theorem z_or {x y : Int32} {k : Nat} (hk : k < 32) (h0 : 0 ≤ x.toInt) (h1 : x.toInt < 2 ^ k) (h2 : 0 ≤ y.toInt) (h3 : y.toInt < 2 ^ k) : (0 : Int) ≤ (x ||| y).toInt ∧ (x ||| y).toInt ≤ 2 ^ k - 1 := by
  obtain ⟨mx, ex⟩ := z_nn h0
  obtain ⟨my, ey⟩ := z_nn h2
  have hm : (x.toBitVec ||| y.toBitVec).msb = false := by rw [BitVec.msb_or, mx, my]; rfl
  have e : (x ||| y).toInt = ((x.toBitVec ||| y.toBitVec).toNat : Int) := by
    show (x.toBitVec ||| y.toBitVec).toInt = _
    rw [BitVec.toInt_eq_toNat_of_msb hm]
  have b1 : x.toBitVec.toNat < 2 ^ k := by rw [ex] at h1; exact_mod_cast h1
  have b2 : y.toBitVec.toNat < 2 ^ k := by rw [ey] at h3; exact_mod_cast h3
  have hl : (x.toBitVec ||| y.toBitVec).toNat < 2 ^ k := by rw [BitVec.toNat_or]; exact Nat.or_lt_two_pow b1 b2
  have hl' : ((x.toBitVec ||| y.toBitVec).toNat : Int) < 2 ^ k := by exact_mod_cast hl
  rw [e]; omega
theorem z_xor {x y : Int32} {k : Nat} (hk : k < 32) (h0 : 0 ≤ x.toInt) (h1 : x.toInt < 2 ^ k) (h2 : 0 ≤ y.toInt) (h3 : y.toInt < 2 ^ k) : (0 : Int) ≤ (x ^^^ y).toInt ∧ (x ^^^ y).toInt ≤ 2 ^ k - 1 := by
  obtain ⟨mx, ex⟩ := z_nn h0
  obtain ⟨my, ey⟩ := z_nn h2
  have hm : (x.toBitVec ^^^ y.toBitVec).msb = false := by rw [BitVec.msb_xor, mx, my]; rfl
  have e : (x ^^^ y).toInt = ((x.toBitVec ^^^ y.toBitVec).toNat : Int) := by
    show (x.toBitVec ^^^ y.toBitVec).toInt = _
    rw [BitVec.toInt_eq_toNat_of_msb hm]
  have b1 : x.toBitVec.toNat < 2 ^ k := by rw [ex] at h1; exact_mod_cast h1
  have b2 : y.toBitVec.toNat < 2 ^ k := by rw [ey] at h3; exact_mod_cast h3
  have hl : (x.toBitVec ^^^ y.toBitVec).toNat < 2 ^ k := by rw [BitVec.toNat_xor]; exact Nat.xor_lt_two_pow b1 b2
  have hl' : ((x.toBitVec ^^^ y.toBitVec).toNat : Int) < 2 ^ k := by exact_mod_cast hl
  rw [e]; omega
theorem cmp_iff (x y : Int64) : ((lg_cmp x y).toInt < 0 ↔ x.toInt < y.toInt) ∧ ((lg_cmp x y).toInt = 0 ↔ x.toInt = y.toInt) := by
  unfold lg_cmp
  split
  · rename_i h
    have h' : y.toInt < x.toInt := Int64.lt_iff_toInt_lt.mp h
    have : (1 : Int32).toInt = 1 := rfl
    omega
  · rename_i h
    have h' : ¬ y.toInt < x.toInt := fun q => h (Int64.lt_iff_toInt_lt.mpr q)
    split
    · rename_i h2
      have : (0 : Int32).toInt = 0 := rfl
      subst h2; omega
    · rename_i h2
      have h2' : ¬ x.toInt = y.toInt := fun q => h2 (Int64.toInt_inj.mp q)
      have : (-1 : Int32).toInt = -1 := rfl
      omega
theorem i32_nat {n : Nat} (h : n < 2147483648) : (Int32.ofNat n).toInt = n := Int32.toInt_ofNat_of_lt h
theorem clamp_eq {x : Int32} (h : 0 ≤ x.toInt) : (x.toNatClampNeg : Int) = x.toInt := by
  show ((x.toInt.toNat : Nat) : Int) = _
  omega
section LW
variable {p : Program} {l : Launch} {e : Env} {R : Room} {s : State} {m : MethodId} {args : Array Value} {below : List Frame} {meth : Method} {c : Code} {H : Heap} {locs : List Loc} {cells slots : Nat} {Q : State → Prop}
variable {cc : ByteArray} {pc : Nat} {ls : Array Slot} {rest : List Value}
theorem lw_land (hexec : p.tables.exec = Jvm.exec) (hb : c.code = cc) {x y v : Int64} (hdg : decode cc pc = .ok (.land, 1)) (hv : x &&& y = v) (k : W p l e R s m args below meth c H locs cells slots Q (F0 m (pc + 1) ls (.long v :: rest))) : W p l e R s m args below meth c H locs cells slots Q (F0 m pc ls (.long y :: .long x :: rest)) := by
  subst hv; exact lv_land hexec hb hdg k
theorem lw_lor (hexec : p.tables.exec = Jvm.exec) (hb : c.code = cc) {x y v : Int64} (hdg : decode cc pc = .ok (.lor, 1)) (hv : x ||| y = v) (k : W p l e R s m args below meth c H locs cells slots Q (F0 m (pc + 1) ls (.long v :: rest))) : W p l e R s m args below meth c H locs cells slots Q (F0 m pc ls (.long y :: .long x :: rest)) := by
  subst hv; exact lv_lor hexec hb hdg k
theorem va_ldcwS (hexec : p.tables.exec = Jvm.exec) (hb : c.code = cc) {own tx : String} {index q : Nat} (hown : s.vm.findClass own = some m.cls) (hZ : vk_R own index tx q s) (hdg : decode cc pc = .ok (.ldc_w index, 3))
    (k : W p l e R s m args below meth c H locs cells slots Q (F0 m (pc + 3) ls (.ref q :: rest))) : W p l e R s m args below meth c H locs cells slots Q (F0 m pc ls rest) := by
  intro T hT X
  obtain ⟨t, a1, b1⟩ := k T hT X
  refine ⟨t, ?_, b1⟩
  obtain ⟨k0, cf, i, a', hk, hcf, hcp, -, hr, hev'⟩ := Cond.stringRef_spec hown hZ.1
  cases hZ.2.symm.trans hev'
  obtain ⟨k', hk', he⟩ := X.warmed.alike.2.2 _ _ hk
  have hr' : k'.resolved[index]? = some (some (.string q)) := by
    rcases X.warmed.entry hk hk' index with h | ⟨h, -⟩
    · rw [h]; exact hr
    · rw [hr] at h; cases h
  have hdg' : decode c.code (F0 m pc ls rest).pc = .ok (.ldc_w index, 3) := by rw [hb]; exact hdg
  jvm_step X.here [hexec, hdg', ldc_w.wp_string (e := e) (s := T) (f := F0 m pc ls rest) X.here.top hk' (by rw [he]; exact hcf) hcp hr']
  exact a1
end LW
/-! ===== the string constants by their places ===== -/
def sL (i : Nat) : Int := ((sByt i).length : Int)
def sS (i : Nat) : Prop := i < 41 ∧ 1 ≤ sL i ∧ sL i ≤ 5
theorem sS_lt {i : Nat} (h : sS i) : i < 41 := h.1
theorem sS_len {i : Nat} (h : sS i) : 1 ≤ sL i ∧ sL i ≤ 5 := h.2
theorem sAll : ∀ i : Nat, i < 41 → (sByt i).length < 2000 ∧ ∀ b ∈ sByt i, (32 : Int) ≤ b.toInt ∧ b.toInt ≤ 126 := by decide +kernel
theorem sGet {i j : Nat} (hi : i < 41) (hj : j < (sByt i).length) : (32 : Int) ≤ ((sByt i).getD j 0).toInt ∧ ((sByt i).getD j 0).toInt ≤ 126 := by
  rw [List.getD_eq_getElem?_getD, List.getElem?_eq_getElem hj]
  exact (sAll i hi).2 _ (List.getElem_mem hj)
theorem sByt_rr {i : Nat} {x : Int32} (hi : i < 41) (h0 : 0 ≤ x.toInt) (h1 : x.toInt < sL i) : (32 : Int) ≤ ((sByt i).getD x.toNatClampNeg 0).toInt ∧ ((sByt i).getD x.toNatClampNeg 0).toInt ≤ 126 :=
  sGet hi (by have := clamp_eq h0; unfold sL at h1; omega)
theorem sByt_r (i : Nat) {x : Int32} (hi : i < 41) (h0 : 0 ≤ x.toInt) (h1 : x.toInt < sL i) : (32 : Int) ≤ ((sByt i).getD x.toNatClampNeg 0).toInt ∧ ((sByt i).getD x.toNatClampNeg 0).toInt ≤ 126 := sByt_rr hi h0 h1
def sIxF (c : Int32) : List Int32 → Nat → Int32
  | [], _ => -1
  | b :: l, k => if b = c then Int32.ofNat k else sIxF c l (k + 1)
def sIx (i : Nat) (c : Int32) : Int32 := if c.toInt < 0 ∨ 255 < c.toInt then -1 else sIxF c.toInt8.toInt32 (sByt i) 0
theorem sIxF_r (c : Int32) : ∀ (l : List Int32) (k : Nat), k + l.length < 2000000 → (-1 : Int) ≤ (sIxF c l k).toInt ∧ (sIxF c l k).toInt < (k + l.length : Nat) ∨ (l = [] ∧ sIxF c l k = -1) := by
  intro l
  induction l with
  | nil => intro k _; exact Or.inr ⟨rfl, rfl⟩
  | cons b l ih =>
    intro k hk
    left
    rw [sIxF]
    rw [List.length_cons] at hk ⊢
    split
    · rw [i32_nat (by omega)]; omega
    · rcases ih (k + 1) (by omega) with h | ⟨-, h⟩
      · omega
      · rw [h]; have : (-1 : Int32).toInt = -1 := rfl
        omega
theorem sIx_rr {i : Nat} (hi : i < 41) (c : Int32) : (-1 : Int) ≤ (sIx i c).toInt ∧ (sIx i c).toInt < sL i ∨ sIx i c = -1 := by
  unfold sIx
  split
  · exact Or.inr rfl
  · rcases sIxF_r c.toInt8.toInt32 (sByt i) 0 (by have := (sAll i hi).1; omega) with h | ⟨-, h⟩
    · left; unfold sL; omega
    · exact Or.inr h
theorem sIx_b (i : Nat) (n : Int) (c : Int32) (hi : i < 41) (hn : sL i = n) (h1 : 1 ≤ n) : (-1 : Int) ≤ (sIx i c).toInt ∧ (sIx i c).toInt ≤ n - 1 := by
  rcases sIx_rr hi c with h | h
  · omega
  · rw [h]; have : (-1 : Int32).toInt = -1 := rfl
    omega
theorem cCod_all : ∀ b ∈ cCod, (0 : Int) ≤ b.toInt ∧ b.toInt ≤ 6000 := by decide +kernel
theorem cCod_r (j : Nat) : (0 : Int) ≤ (cCod.getD j 0).toInt ∧ (cCod.getD j 0).toInt ≤ 6000 := by
  rw [List.getD_eq_getElem?_getD]
  cases h : cCod[j]? with
  | none => exact ⟨by decide, by decide⟩
  | some b => exact cCod_all b (List.mem_of_getElem? h)
set_option maxRecDepth 20000 in
theorem sIx_r0 (c : Int32) : (-1 : Int) ≤ (sIx 0 c).toInt ∧ (sIx 0 c).toInt ≤ 55 := sIx_b 0 56 c (by decide) rfl (by decide)
set_option maxRecDepth 20000 in
theorem sIx_r1 (c : Int32) : (-1 : Int) ≤ (sIx 1 c).toInt ∧ (sIx 1 c).toInt ≤ 63 := sIx_b 1 64 c (by decide) rfl (by decide)
set_option maxRecDepth 20000 in
theorem sIx_r2 (c : Int32) : (-1 : Int) ≤ (sIx 2 c).toInt ∧ (sIx 2 c).toInt ≤ 123 := sIx_b 2 124 c (by decide) rfl (by decide)
set_option maxRecDepth 20000 in
theorem sIx_r3 (c : Int32) : (-1 : Int) ≤ (sIx 3 c).toInt ∧ (sIx 3 c).toInt ≤ 39 := sIx_b 3 40 c (by decide) rfl (by decide)
set_option maxRecDepth 20000 in
theorem sIx_r4 (c : Int32) : (-1 : Int) ≤ (sIx 4 c).toInt ∧ (sIx 4 c).toInt ≤ 191 := sIx_b 4 192 c (by decide) rfl (by decide)
set_option maxRecDepth 20000 in
theorem sIx_r5 (c : Int32) : (-1 : Int) ≤ (sIx 5 c).toInt ∧ (sIx 5 c).toInt ≤ 159 := sIx_b 5 160 c (by decide) rfl (by decide)
set_option maxRecDepth 20000 in
theorem sIx_r6 (c : Int32) : (-1 : Int) ≤ (sIx 6 c).toInt ∧ (sIx 6 c).toInt ≤ 47 := sIx_b 6 48 c (by decide) rfl (by decide)
set_option maxRecDepth 20000 in
theorem sIx_r23 (c : Int32) : (-1 : Int) ≤ (sIx 23 c).toInt ∧ (sIx 23 c).toInt ≤ 55 := sIx_b 23 56 c (by decide) rfl (by decide)
set_option maxRecDepth 20000 in
theorem sIx_r24 (c : Int32) : (-1 : Int) ≤ (sIx 24 c).toInt ∧ (sIx 24 c).toInt ≤ 627 := sIx_b 24 628 c (by decide) rfl (by decide)
theorem TJ_coder (l : Launch) (D : va_G) (K : Nat → ClassId) (Z Y : Nat → Nat) (ws : va_W) (i : Nat) (hi : i < 41) : tMet l yJ0_coder_7d493 cJ0_coder_7d493 1 (some .byte) (rmD 0 0 0) D K Z Y [.ref (Z i)] ws (QI D K (fun (r : Int32) (_ : Unit) => r = 0) (fun (_ : Unit) => ws)) 0 0 := by
  refine t_met RJ0 ⟨rfl, by decide +kernel⟩ (Nat.le_of_ble_eq_true rfl) ?_
  intro p e s m below meth c A ls C hE hZ hr hlocks hA hP hD hS hl
  have hl : lv_has ls 1 [(0, .ref (Z i))] := hl
  refine va_gets C.1 C.2.1 hZ.2.1 hS C.2.2.2.1 (C.2.2.2.2.1 _ m_14_19) (fun _ h => h) dJ0_coder_7d493_0 ?_
  refine lv_if_eq (tgt := 13) C.1 C.2.1 dJ0_coder_7d493_3 (by decide) (fun h => absurd h (by decide)) (fun _ => ?_)
  refine lv_aload_n C.1 C.2.1 dJ0_coder_7d493_6 rfl (lv_at hl 0 rfl) ?_
  refine vk_getf C.1 C.2.1 (hZ.1 i hi).2.1 hS C.2.2.2.1 (C.2.2.2.2.1 _ m_14_20) (fun _ h => h) dJ0_coder_7d493_7 ?_
  refine lv_goto (tgt := 14) C.1 C.2.1 dJ0_coder_7d493_10 (by decide) ?_
  exact g_iret C hr hlocks hP hD hS rfl () rfl rfl (Nat.le_of_ble_eq_true rfl) (Nat.le_of_ble_eq_true rfl) dJ0_coder_7d493_14
theorem TJ_isLatin1 (l : Launch) (D : va_G) (K : Nat → ClassId) (Z Y : Nat → Nat) (ws : va_W) (i : Nat) (hi : i < 41) : tMet l yJ0_isLatin1_aae02 cJ0_isLatin1_aae02 1 (some .boolean) (rmD 0 0 0) D K Z Y [.ref (Z i)] ws (QI D K (fun (r : Int32) (_ : Unit) => r = 1) (fun (_ : Unit) => ws)) 0 0 := by
  refine t_met RJ0 ⟨rfl, by decide +kernel⟩ (Nat.le_of_ble_eq_true rfl) ?_
  intro p e s m below meth c A ls C hE hZ hr hlocks hA hP hD hS hl
  have hl : lv_has ls 1 [(0, .ref (Z i))] := hl
  refine va_gets C.1 C.2.1 hZ.2.1 hS C.2.2.2.1 (C.2.2.2.2.1 _ m_14_19) (fun _ h => h) dJ0_isLatin1_aae02_0 ?_
  refine lv_if_eq (tgt := 17) C.1 C.2.1 dJ0_isLatin1_aae02_3 (by decide) (fun h => absurd h (by decide)) (fun _ => ?_)
  refine lv_aload_n C.1 C.2.1 dJ0_isLatin1_aae02_6 rfl (lv_at hl 0 rfl) ?_
  refine vk_getf C.1 C.2.1 (hZ.1 i hi).2.1 hS C.2.2.2.1 (C.2.2.2.2.1 _ m_14_20) (fun _ h => h) dJ0_isLatin1_aae02_7 ?_
  refine lv_if_ne (tgt := 17) C.1 C.2.1 dJ0_isLatin1_aae02_10 (by decide) (fun h => absurd rfl h) (fun _ => ?_)
  refine lv_iconst (v := 1) C.1 C.2.1 dJ0_isLatin1_aae02_13 (by decide) ?_
  refine lv_goto (tgt := 18) C.1 C.2.1 dJ0_isLatin1_aae02_14 (by decide) ?_
  exact g_iret C hr hlocks hP hD hS rfl () rfl rfl (Nat.le_of_ble_eq_true rfl) (Nat.le_of_ble_eq_true rfl) dJ0_isLatin1_aae02_18
theorem TJ_length (l : Launch) (D : va_G) (K : Nat → ClassId) (Z Y : Nat → Nat) (ws : va_W) (i : Nat) (hi : i < 41) : tMet l yJ0_length_8abf5 cJ0_length_8abf5 1 (some .int) (rmD 1 0 0) D K Z Y [.ref (Z i)] ws (QI D K (fun (r : Int32) (_ : Unit) => r.toInt = sL i) (fun (_ : Unit) => ws)) 0 0 := by
  refine t_met RJ0 ⟨rfl, by decide +kernel⟩ (Nat.le_of_ble_eq_true rfl) ?_
  intro p e s m below meth c A ls C hE hZ hr hlocks hA hP hD hS hl
  have hl : lv_has ls 1 [(0, .ref (Z i))] := hl
  refine lv_aload_n C.1 C.2.1 dJ0_length_8abf5_0 rfl (lv_at hl 0 rfl) ?_
  refine vk_getf C.1 C.2.1 (hZ.1 i hi).2.2.1 hS C.2.2.2.1 (C.2.2.2.2.1 _ m_14_14) (fun _ h => h) dJ0_length_8abf5_1 ?_
  refine va_tlen (v := Int32.ofNat (sByt i).length) C.1 C.2.1 (hZ.1 i hi).2.2.2 hS rfl dJ0_length_8abf5_4 ?_
  refine lv_aload_n C.1 C.2.1 dJ0_length_8abf5_5 rfl (lv_at hl 0 rfl) ?_
  refine g_Ti (As := []) (rest := [.int (Int32.ofNat (sByt i).length)]) C hP hD hS hA (TJ_coder l D K Z Y ws i hi) hE hZ (uwV m_15_1 m_15_2 m_15_3 m_14_8 m_15_4) (hdV 0 (by decide +kernel) rfl) ⟨Nat.le_of_ble_eq_true rfl, Nat.le_of_ble_eq_true rfl⟩ rfl rfl (i0 := i) hi rfl rfl hl.1 (Nat.le_of_ble_eq_true rfl) dJ0_length_8abf5_6 ⟨Nat.le_of_ble_eq_true rfl, Nat.le_of_ble_eq_true rfl⟩ (fun r u H locs hw hP hD hS => ?_)
  have hw : r = 0 := hw
  subst hw
  obtain ⟨v, ev⟩ : ∃ z, z = (Int32.ofNat (sByt i).length) >>> ((0 : Int32) &&& 31) := ⟨_, rfl⟩
  have hv : v.toInt = sL i := by
    rw [ev, Jvm.Kit.i32_shr _ _ (k := 0) (by decide), i32_nat (by have := (sAll i hi).1; omega)]
    unfold sL; omega
  refine k_ishr (v := v) C ev.symm dJ0_length_8abf5_9 ?_
  exact g_iret C hr hlocks hP hD hS rfl () rfl hv (Nat.le_of_ble_eq_true rfl) (Nat.le_of_ble_eq_true rfl) dJ0_length_8abf5_10
theorem TJ_check3 (l : Launch) (D : va_G) (K : Nat → ClassId) (Z Y : Nat → Nat) (ws : va_W) (x n : Int32) (b : Value) (hb1 : b = .null ∨ ∃ q, b = .ref q) (hx : 0 ≤ x.toInt ∧ x.toInt < n.toInt) : tMet l yJ3_checkIndex_8e157 cJ3_checkIndex_8e157 3 (some .int) (rmD 0 0 0) D K Z Y [.int x, .int n, b] ws (QI D K (fun (r : Int32) (_ : Unit) => True) (fun (_ : Unit) => ws)) 0 0 := by
  refine t_met RJ3 ⟨rfl, by decide +kernel⟩ (by rcases hb1 with rfl | ⟨q, rfl⟩ <;> exact Nat.le_of_ble_eq_true rfl) ?_
  intro p e s m below meth c A ls C hE hZ hr hlocks hA hP hD hS hl
  have hl : lv_has ls 3 [(0, .int x), (1, .int n), (2, b)] := hl
  refine lv_iload_n C.1 C.2.1 dJ3_checkIndex_8e157_0 rfl (lv_at hl 0 rfl) ?_
  refine lv_if_lt (tgt := 9) C.1 C.2.1 dJ3_checkIndex_8e157_1 (by decide) (fun h => False.elim (by have := i_lt h; have e : (0 : Int32).toInt = 0 := rfl; omega)) (fun _ => ?_)
  refine lv_iload_n C.1 C.2.1 dJ3_checkIndex_8e157_4 rfl (lv_at hl 0 rfl) ?_
  refine lv_iload_n C.1 C.2.1 dJ3_checkIndex_8e157_5 rfl (lv_at hl 1 rfl) ?_
  refine lv_icmp_lt (tgt := 16) C.1 C.2.1 dJ3_checkIndex_8e157_6 (by decide) (fun _ => ?_) (fun h => False.elim (by have := i_nlt h; omega))
  refine lv_iload_n C.1 C.2.1 dJ3_checkIndex_8e157_16 rfl (lv_at hl 0 rfl) ?_
  exact g_iret C hr hlocks hP hD hS rfl () rfl trivial (Nat.le_of_ble_eq_true rfl) (Nat.le_of_ble_eq_true rfl) dJ3_checkIndex_8e157_17
theorem TJ_check0 (l : Launch) (D : va_G) (K : Nat → ClassId) (Z Y : Nat → Nat) (ws : va_W) (x n : Int32) (hx : 0 ≤ x.toInt ∧ x.toInt < n.toInt) : tMet l yJ0_checkIndex_df160 cJ0_checkIndex_df160 2 none (rmD 1 0 0) D K Z Y [.int x, .int n] ws (QV D K (fun (_ : Unit) => True) (fun (_ : Unit) => ws)) 0 0 := by
  refine t_met RJ0 ⟨rfl, by decide +kernel⟩ (Nat.le_of_ble_eq_true rfl) ?_
  intro p e s m below meth c A ls C hE hZ hr hlocks hA hP hD hS hl
  have hl : lv_has ls 2 [(0, .int x), (1, .int n)] := hl
  obtain ⟨b, hb1, hb2⟩ : ∃ b : Value, (b = .null ∨ ∃ q, b = .ref q) ∧ va_Z "jdk/internal/util/Preconditions" "SIOOBE_FORMATTER" "Ljava/util/function/BiFunction;" b A s s.heap := by
    rcases hZ.2.2.1 with h | ⟨q, h⟩
    · exact ⟨.null, Or.inl rfl, h⟩
    · exact ⟨.ref q, Or.inr ⟨q, rfl⟩, h⟩
  refine lv_iload_n C.1 C.2.1 dJ0_checkIndex_df160_0 rfl (lv_at hl 0 rfl) ?_
  refine lv_iload_n C.1 C.2.1 dJ0_checkIndex_df160_1 rfl (lv_at hl 1 rfl) ?_
  refine va_gets C.1 C.2.1 hb2 hS C.2.2.2.1 (C.2.2.2.2.1 _ m_16_12) (fun _ h => h) dJ0_checkIndex_df160_2 ?_
  refine g_Si (As := [.int x, .int n, b]) (rest := []) C hP hD hS hA (TJ_check3 l D K Z Y ws x n b hb1 hx) hE hZ (uwS m_18_6 m_18_7 m_16_15 m_18_8) (hdS 3 (by decide +kernel) rfl) ⟨Nat.le_of_ble_eq_true rfl, Nat.le_of_ble_eq_true rfl⟩ rfl rfl rfl hl.1 (Nat.le_of_ble_eq_true rfl) dJ0_checkIndex_df160_5 ⟨Nat.le_of_ble_eq_true rfl, Nat.le_of_ble_eq_true rfl⟩ (fun r u H locs hw hP hD hS => ?_)
  refine lv_pop C.1 C.2.1 dJ0_checkIndex_df160_8 rfl ?_
  exact g_vret C hr hlocks hP hD hS () rfl trivial (Nat.le_of_ble_eq_true rfl) (Nat.le_of_ble_eq_true rfl) dJ0_checkIndex_df160_9
theorem TJ_charAt1 (l : Launch) (D : va_G) (K : Nat → ClassId) (Z Y : Nat → Nat) (ws : va_W) (i : Nat) (hi : i < 41) (x : Int32) (hx : 0 ≤ x.toInt ∧ x.toInt < sL i) : tMet l yJ1_charAt_3b067 cJ1_charAt_3b067 2 (some .char) (rmD 2 0 0) D K Z Y [.ref (Y i), .int x] ws (QI D K (fun (r : Int32) (_ : Unit) => r = (sByt i).getD x.toNatClampNeg 0) (fun (_ : Unit) => ws)) 0 0 := by
  refine t_met RJ1 ⟨rfl, by decide +kernel⟩ (Nat.le_of_ble_eq_true rfl) ?_
  intro p e s m below meth c A ls C hE hZ hr hlocks hA hP hD hS hl
  have hl : lv_has ls 2 [(0, .ref (Y i)), (1, .int x)] := hl
  have hn : (Int32.ofNat (sByt i).length).toInt = sL i := i32_nat (by have := (sAll i hi).1; omega)
  refine lv_iload_n C.1 C.2.1 dJ1_charAt_3b067_0 rfl (lv_at hl 1 rfl) ?_
  refine lv_aload_n C.1 C.2.1 dJ1_charAt_3b067_1 rfl (lv_at hl 0 rfl) ?_
  refine va_tlen (v := Int32.ofNat (sByt i).length) C.1 C.2.1 (hZ.1 i hi).2.2.2 hS rfl dJ1_charAt_3b067_2 ?_
  refine g_Sv (As := [.int x, .int (Int32.ofNat (sByt i).length)]) (rest := []) C hP hD hS hA (TJ_check0 l D K Z Y ws x _ (by omega)) hE hZ (uwS m_18_3 m_18_4 m_14_8 m_18_5) (hdS 2 (by decide +kernel) rfl) ⟨Nat.le_of_ble_eq_true rfl, Nat.le_of_ble_eq_true rfl⟩ rfl rfl rfl hl.1 (Nat.le_of_ble_eq_true rfl) dJ1_charAt_3b067_3 ⟨Nat.le_of_ble_eq_true rfl, Nat.le_of_ble_eq_true rfl⟩ (fun u H locs hw hP hD hS => ?_)
  refine lv_aload_n C.1 C.2.1 dJ1_charAt_3b067_6 rfl (lv_at hl 0 rfl) ?_
  refine lv_iload_n C.1 C.2.1 dJ1_charAt_3b067_7 rfl (lv_at hl 1 rfl) ?_
  obtain ⟨v, ev⟩ : ∃ z, z = (sByt i).getD x.toNatClampNeg 0 := ⟨_, rfl⟩
  have hv : (32 : Int) ≤ v.toInt ∧ v.toInt ≤ 126 := by rw [ev]; exact sByt_rr hi hx.1 hx.2
  refine va_tb C.1 C.2.1 (hZ.1 i hi).2.2.2 hS (vp_in_iff.mpr ⟨hx.1, by have := clamp_eq hx.1; unfold sL at hx; omega⟩) (congrArg Value.int ev.symm) dJ1_charAt_3b067_8 ?_
  refine lv_sipush (v := 255) C.1 C.2.1 dJ1_charAt_3b067_9 (by decide) ?_
  have e1 : v &&& 255 = v := by
    apply Int32.toInt_inj.mp
    rw [Jvm.Kit.i32_mask _ _ (k := 8) (by decide) (by decide)]
    omega
  refine k_iand (v := v) C e1 dJ1_charAt_3b067_12 ?_
  have e2 : (v.toUInt32 % 65536).toInt32 = v := by
    have e := sc_c2 v
    rw [e1] at e
    exact e
  have e3 : narrow .char (.int v) = .int v := by
    have e := sc_nar v
    rw [e1] at e
    exact e
  refine lv_i2c (v := v) C.1 C.2.1 dJ1_charAt_3b067_13 e2 ?_
  exact g_iret C hr hlocks hP hD hS e3 () rfl ev (Nat.le_of_ble_eq_true rfl) (Nat.le_of_ble_eq_true rfl) dJ1_charAt_3b067_14
theorem TJ_charAt (l : Launch) (D : va_G) (K : Nat → ClassId) (Z Y : Nat → Nat) (ws : va_W) (i : Nat) (hi : i < 41) (x : Int32) (hx : 0 ≤ x.toInt ∧ x.toInt < sL i) : tMet l yJ0_charAt_5068e cJ0_charAt_5068e 2 (some .char) (rmD 3 0 0) D K Z Y [.ref (Z i), .int x] ws (QI D K (fun (r : Int32) (_ : Unit) => r = (sByt i).getD x.toNatClampNeg 0) (fun (_ : Unit) => ws)) 0 0 := by
  refine t_met RJ0 ⟨rfl, by decide +kernel⟩ (Nat.le_of_ble_eq_true rfl) ?_
  intro p e s m below meth c A ls C hE hZ hr hlocks hA hP hD hS hl
  have hl : lv_has ls 2 [(0, .ref (Z i)), (1, .int x)] := hl
  refine lv_aload_n C.1 C.2.1 dJ0_charAt_5068e_0 rfl (lv_at hl 0 rfl) ?_
  refine g_Ti (As := []) (rest := []) C hP hD hS hA (TJ_isLatin1 l D K Z Y ws i hi) hE hZ (uwV m_14_15 m_14_16 m_14_17 m_14_8 m_14_18) (hdV 0 (by decide +kernel) rfl) ⟨Nat.le_of_ble_eq_true rfl, Nat.le_of_ble_eq_true rfl⟩ rfl rfl (i0 := i) hi rfl rfl hl.1 (Nat.le_of_ble_eq_true rfl) dJ0_charAt_5068e_1 ⟨Nat.le_of_ble_eq_true rfl, Nat.le_of_ble_eq_true rfl⟩ (fun r u H locs hw hP hD hS => ?_)
  have hw : r = 1 := hw
  subst hw
  refine lv_if_eq (tgt := 16) C.1 C.2.1 dJ0_charAt_5068e_4 (by decide) (fun h => absurd h (by decide)) (fun _ => ?_)
  refine lv_aload_n C.1 C.2.1 dJ0_charAt_5068e_7 rfl (lv_at hl 0 rfl) ?_
  refine vk_getf C.1 C.2.1 (hZ.1 i hi).2.2.1 hS C.2.2.2.1 (C.2.2.2.2.1 _ m_14_14) (fun _ h => h) dJ0_charAt_5068e_8 ?_
  refine lv_iload_n C.1 C.2.1 dJ0_charAt_5068e_11 rfl (lv_at hl 1 rfl) ?_
  refine g_Si (As := [.ref (Y i), .int x]) (rest := []) C hP hD hS hA (TJ_charAt1 l D K Z Y ws i hi x hx) hE hZ (uwS m_18_0 m_18_1 m_15_7 m_18_2) (hdS 2 (by decide +kernel) rfl) ⟨Nat.le_of_ble_eq_true rfl, Nat.le_of_ble_eq_true rfl⟩ rfl rfl rfl hl.1 (Nat.le_of_ble_eq_true rfl) dJ0_charAt_5068e_12 ⟨Nat.le_of_ble_eq_true rfl, Nat.le_of_ble_eq_true rfl⟩ (fun r u H locs hw hP hD hS => ?_)
  have hw : r = (sByt i).getD x.toNatClampNeg 0 := hw
  have hv : (32 : Int) ≤ r.toInt ∧ r.toInt ≤ 126 := by rw [hw]; exact sByt_rr hi hx.1 hx.2
  have e1 : r &&& 255 = r := by
    apply Int32.toInt_inj.mp
    rw [Jvm.Kit.i32_mask _ _ (k := 8) (by decide) (by decide)]
    omega
  have e3 : narrow .char (.int r) = .int r := by
    have e := sc_nar r
    rw [e1] at e
    exact e
  exact g_iret C hr hlocks hP hD hS e3 () rfl hw (Nat.le_of_ble_eq_true rfl) (Nat.le_of_ble_eq_true rfl) dJ0_charAt_5068e_15
theorem TJ_canEncode (l : Launch) (D : va_G) (K : Nat → ClassId) (Z Y : Nat → Nat) (ws : va_W) (x : Int32) : tMet l yJ1_canEncode_9a6ad cJ1_canEncode_9a6ad 1 (some .boolean) (rmD 0 0 0) D K Z Y [.int x] ws (QI D K (fun (r : Int32) (_ : Unit) => (r = 0 ∧ (x.toInt < 0 ∨ 255 < x.toInt)) ∨ (r = 1 ∧ ¬ (x.toInt < 0 ∨ 255 < x.toInt))) (fun (_ : Unit) => ws)) 0 0 := by
  refine t_met RJ1 ⟨rfl, by decide +kernel⟩ (Nat.le_of_ble_eq_true rfl) ?_
  intro p e s m below meth c A ls C hE hZ hr hlocks hA hP hD hS hl
  have hl : lv_has ls 1 [(0, .int x)] := hl
  have e0 : (0 : Int32).toInt = 0 := rfl
  have e255 : (255 : Int32).toInt = 255 := rfl
  refine lv_iload_n C.1 C.2.1 dJ1_canEncode_9a6ad_0 rfl (lv_at hl 0 rfl) ?_
  refine lv_if_lt (tgt := 15) C.1 C.2.1 dJ1_canEncode_9a6ad_1 (by decide) (fun h => ?_) (fun h => ?_)
  · have h := i_lt h
    refine lv_iconst (v := 0) C.1 C.2.1 dJ1_canEncode_9a6ad_15 (by decide) ?_
    exact g_iret C hr hlocks hP hD hS rfl () rfl (Or.inl ⟨rfl, by omega⟩) (Nat.le_of_ble_eq_true rfl) (Nat.le_of_ble_eq_true rfl) dJ1_canEncode_9a6ad_16
  · have h := i_nlt h
    refine lv_iload_n C.1 C.2.1 dJ1_canEncode_9a6ad_4 rfl (lv_at hl 0 rfl) ?_
    refine lv_sipush (v := 255) C.1 C.2.1 dJ1_canEncode_9a6ad_5 (by decide) ?_
    refine lv_icmp_gt (tgt := 15) C.1 C.2.1 dJ1_canEncode_9a6ad_8 (by decide) (fun h => ?_) (fun h => ?_)
    · have h := i_lt h
      refine lv_iconst (v := 0) C.1 C.2.1 dJ1_canEncode_9a6ad_15 (by decide) ?_
      exact g_iret C hr hlocks hP hD hS rfl () rfl (Or.inl ⟨rfl, by omega⟩) (Nat.le_of_ble_eq_true rfl) (Nat.le_of_ble_eq_true rfl) dJ1_canEncode_9a6ad_16
    · have h := i_nlt h
      refine lv_iconst (v := 1) C.1 C.2.1 dJ1_canEncode_9a6ad_11 (by decide) ?_
      refine lv_goto (tgt := 16) C.1 C.2.1 dJ1_canEncode_9a6ad_12 (by decide) ?_
      exact g_iret C hr hlocks hP hD hS rfl () rfl (Or.inr ⟨rfl, by omega⟩) (Nat.le_of_ble_eq_true rfl) (Nat.le_of_ble_eq_true rfl) dJ1_canEncode_9a6ad_16
set_option maxHeartbeats 4000000 in
theorem TJ_indexOfChar (l : Launch) (D : va_G) (K : Nat → ClassId) (Z Y : Nat → Nat) (ws : va_W) (i : Nat) (hi : i < 41) (x : Int32) : tMet l yJ1_indexOfChar_4cfef cJ1_indexOfChar_4cfef 6 (some .int) (rmD 0 0 0) D K Z Y [.ref (Y i), .int x, .int 0, .int (Int32.ofNat (sByt i).length)] ws (QI D K (fun (r : Int32) (_ : Unit) => r = sIxF x.toInt8.toInt32 (sByt i) 0) (fun (_ : Unit) => ws)) 0 0 := by
  refine t_met RJ1 ⟨rfl, by decide +kernel⟩ (Nat.le_of_ble_eq_true rfl) ?_
  intro p e s m below meth c A ls C hE hZ hr hlocks hA hP hD hS hl
  have hl : lv_has ls 6 [(0, .ref (Y i)), (1, .int x), (2, .int 0), (3, .int (Int32.ofNat (sByt i).length))] := hl
  have hlen := (sAll i hi).1
  have hn : (Int32.ofNat (sByt i).length).toInt = ((sByt i).length : Int) := i32_nat (by omega)
  have L7 : ∀ (l0 : List Int32) (k : Nat) (H : Heap) (locs : List Loc) (ls : Array Slot), (sByt i).drop k = l0 → k ≤ (sByt i).length → sIxF x.toInt8.toInt32 (sByt i) 0 = sIxF x.toInt8.toInt32 l0 k → va_P D vwCl ws H → va_D A ws → va_S A s.heap H locs → lv_has ls 6 [(0, .ref (Y i)), (3, .int (Int32.ofNat (sByt i).length)), (4, .int x.toInt8.toInt32), (5, .int (Int32.ofNat k))] → W p l e (rmD 0 0 0) s m [.ref (Y i), .int x, .int 0, .int (Int32.ofNat (sByt i).length)].toArray below meth c H locs 0 0 (MQ below (QI D K (fun (r : Int32) (_ : Unit) => r = sIxF x.toInt8.toInt32 (sByt i) 0) (fun (_ : Unit) => ws) A) [.ref (Y i), .int x, .int 0, .int (Int32.ofNat (sByt i).length)].toArray s 0 0 A) (F0 m 7 ls []) := by
    intro l0
    induction l0 with
    | nil =>
      intro k H locs ls hd hk hs hP hD hS hl
      have hkl : (sByt i).length ≤ k := List.drop_eq_nil_iff.mp hd
      have hkn : (Int32.ofNat k).toInt = (k : Int) := i32_nat (by omega)
      refine lv_iload C.1 C.2.1 dJ1_indexOfChar_4cfef_7 (lv_at hl 3 rfl) ?_
      refine lv_iload_n C.1 C.2.1 dJ1_indexOfChar_4cfef_9 rfl (lv_at hl 1 rfl) ?_
      refine lv_icmp_ge (tgt := 31) C.1 C.2.1 dJ1_indexOfChar_4cfef_10 (by decide) (fun h => ?_) (fun h => False.elim (by have := i_nle h; omega))
      refine lv_iconst (v := -1) C.1 C.2.1 dJ1_indexOfChar_4cfef_31 (by decide) ?_
      exact g_iret C hr hlocks hP hD hS rfl () rfl (by rw [hs]; rfl) (Nat.le_of_ble_eq_true rfl) (Nat.le_of_ble_eq_true rfl) dJ1_indexOfChar_4cfef_32
    | cons b l0 ih =>
      intro k H locs ls hd hk hs hP hD hS hl
      have hkl : k < (sByt i).length := by
        rcases Nat.lt_or_ge k (sByt i).length with q | q
        · exact q
        · rw [List.drop_eq_nil_iff.mpr q] at hd; cases hd
      have hkn : (Int32.ofNat k).toInt = (k : Int) := i32_nat (by omega)
      have hcl : (Int32.ofNat k).toNatClampNeg = k := by have := clamp_eq (x := Int32.ofNat k) (by omega); omega
      have hb : (sByt i).getD k 0 = b := by
        rw [List.getD_eq_getElem?_getD]
        have e := congrArg (fun q => q[0]?) hd
        simp at e
        rw [e]; rfl
      have hdr : (sByt i).drop (k + 1) = l0 := by
        have e := congrArg List.tail hd
        rw [List.tail_drop] at e
        exact e
      refine lv_iload C.1 C.2.1 dJ1_indexOfChar_4cfef_7 (lv_at hl 3 rfl) ?_
      refine lv_iload_n C.1 C.2.1 dJ1_indexOfChar_4cfef_9 rfl (lv_at hl 1 rfl) ?_
      refine lv_icmp_ge (tgt := 31) C.1 C.2.1 dJ1_indexOfChar_4cfef_10 (by decide) (fun h => False.elim (by have := i_le h; omega)) (fun h => ?_)
      refine lv_aload_n C.1 C.2.1 dJ1_indexOfChar_4cfef_13 rfl (lv_at hl 0 rfl) ?_
      refine lv_iload C.1 C.2.1 dJ1_indexOfChar_4cfef_14 (lv_at hl 3 rfl) ?_
      refine va_tb C.1 C.2.1 (hZ.1 i hi).2.2.2 hS (vp_in_iff.mpr ⟨by omega, by omega⟩) (congrArg Value.int ((congrArg (fun q => (sByt i).getD q 0) hcl).trans hb)) dJ1_indexOfChar_4cfef_16 ?_
      refine lv_iload C.1 C.2.1 dJ1_indexOfChar_4cfef_17 (lv_at hl 2 rfl) ?_
      rw [sIxF] at hs
      refine lv_icmp_ne (tgt := 25) C.1 C.2.1 dJ1_indexOfChar_4cfef_19 (by decide) (fun h => ?_) (fun h => ?_)
      · rw [if_neg h] at hs
        refine lv_iinc (v := Int32.ofNat (k + 1)) (lv' := [(5, .int (Int32.ofNat (k + 1))), (0, .ref (Y i)), (3, .int (Int32.ofNat (sByt i).length)), (4, .int x.toInt8.toInt32)]) C.1 C.2.1 dJ1_indexOfChar_4cfef_25 hl (k := 3) rfl (by apply Int32.toInt_inj.mp; rw [i32_nat (by omega), ti_iadd (by have e1 : (Int32.ofInt 1).toInt = 1 := rfl; omega) (by have e1 : (Int32.ofInt 1).toInt = 1 := rfl; omega), hkn]; have e1 : (Int32.ofInt 1).toInt = 1 := rfl; omega) (by decide) rfl (fun ls hl => ?_)
        refine lv_goto (tgt := 7) C.1 C.2.1 dJ1_indexOfChar_4cfef_28 (by decide) ?_
        exact ih (k + 1) _ _ _ hdr (by omega) hs hP hD hS (lv_sub hl [1, 2, 3, 0] rfl)
      · rw [if_pos h] at hs
        refine lv_iload C.1 C.2.1 dJ1_indexOfChar_4cfef_22 (lv_at hl 3 rfl) ?_
        exact g_iret C hr hlocks hP hD hS rfl () rfl hs.symm (Nat.le_of_ble_eq_true rfl) (Nat.le_of_ble_eq_true rfl) dJ1_indexOfChar_4cfef_24
  refine lv_iload_n C.1 C.2.1 dJ1_indexOfChar_4cfef_0 rfl (lv_at hl 1 rfl) ?_
  refine lv_i2b (v := x.toInt8.toInt32) C.1 C.2.1 dJ1_indexOfChar_4cfef_1 rfl ?_
  refine lv_istore (lv' := [(4, .int x.toInt8.toInt32), (0, .ref (Y i)), (1, .int x), (2, .int 0), (3, .int (Int32.ofNat (sByt i).length))]) C.1 C.2.1 dJ1_indexOfChar_4cfef_2 hl (by decide) rfl (fun ls hl => ?_)
  refine lv_iload_n C.1 C.2.1 dJ1_indexOfChar_4cfef_4 rfl (lv_at hl 3 rfl) ?_
  refine lv_istore (lv' := [(5, .int 0), (4, .int x.toInt8.toInt32), (0, .ref (Y i)), (1, .int x), (2, .int 0), (3, .int (Int32.ofNat (sByt i).length))]) C.1 C.2.1 dJ1_indexOfChar_4cfef_5 hl (by decide) rfl (fun ls hl => ?_)
  exact L7 _ 0 _ _ _ rfl (Nat.zero_le _) rfl hP hD hS (lv_sub hl [2, 5, 1, 0] rfl)
set_option maxHeartbeats 4000000 in
theorem TJ_indexOf1 (l : Launch) (D : va_G) (K : Nat → ClassId) (Z Y : Nat → Nat) (ws : va_W) (i : Nat) (hi : i < 41) (h1 : 1 ≤ sL i) (x : Int32) : tMet l yJ1_indexOf_4cfef cJ1_indexOf_4cfef 4 (some .int) (rmD 1 0 0) D K Z Y [.ref (Y i), .int x, .int 0, .int (Int32.ofNat (sByt i).length)] ws (QI D K (fun (r : Int32) (_ : Unit) => r = sIx i x) (fun (_ : Unit) => ws)) 0 0 := by
  refine t_met RJ1 ⟨rfl, by decide +kernel⟩ (Nat.le_of_ble_eq_true rfl) ?_
  intro p e s m below meth c A ls C hE hZ hr hlocks hA hP hD hS hl
  have hl : lv_has ls 4 [(0, .ref (Y i)), (1, .int x), (2, .int 0), (3, .int (Int32.ofNat (sByt i).length))] := hl
  have hlen := (sAll i hi).1
  have hn : (Int32.ofNat (sByt i).length).toInt = ((sByt i).length : Int) := i32_nat (by omega)
  refine lv_iload_n C.1 C.2.1 dJ1_indexOf_4cfef_0 rfl (lv_at hl 1 rfl) ?_
  refine g_Si (As := [.int x]) (rest := []) C hP hD hS hA (TJ_canEncode l D K Z Y ws x) hE hZ (uwS m_15_11 m_15_12 m_15_7 m_15_13) (hdS 1 (by decide +kernel) rfl) ⟨Nat.le_of_ble_eq_true rfl, Nat.le_of_ble_eq_true rfl⟩ rfl rfl rfl hl.1 (Nat.le_of_ble_eq_true rfl) dJ1_indexOf_4cfef_1 ⟨Nat.le_of_ble_eq_true rfl, Nat.le_of_ble_eq_true rfl⟩ (fun r u H locs hw hP hD hS => ?_)
  have hw : (r = 0 ∧ (x.toInt < 0 ∨ 255 < x.toInt)) ∨ (r = 1 ∧ ¬ (x.toInt < 0 ∨ 255 < x.toInt)) := hw
  rcases hw with ⟨rfl, hc0⟩ | ⟨rfl, hc0⟩
  · refine lv_if_ne (tgt := 9) C.1 C.2.1 dJ1_indexOf_4cfef_4 (by decide) (fun h => absurd rfl h) (fun _ => ?_)
    refine lv_iconst (v := -1) C.1 C.2.1 dJ1_indexOf_4cfef_7 (by decide) ?_
    exact g_iret C hr hlocks hP hD hS rfl () rfl (show (-1 : Int32) = sIx i x from (if_pos hc0).symm) (Nat.le_of_ble_eq_true rfl) (Nat.le_of_ble_eq_true rfl) dJ1_indexOf_4cfef_8
  refine lv_if_ne (tgt := 9) C.1 C.2.1 dJ1_indexOf_4cfef_4 (by decide) (fun _ => ?_) (fun h => absurd h (by decide))
  refine lv_iload_n C.1 C.2.1 dJ1_indexOf_4cfef_9 rfl (lv_at hl 2 rfl) ?_
  refine lv_iconst (v := 0) C.1 C.2.1 dJ1_indexOf_4cfef_10 (by decide) ?_
  refine k_mmax (v := 0) C hl.1 m_15_9 m_12_14 m_12_15 m_12_16 (Nat.le_of_ble_eq_true rfl) (Nat.le_of_ble_eq_true rfl) (Nat.le_of_ble_eq_true rfl) (Nat.le_of_ble_eq_true rfl) (by decide) dJ1_indexOf_4cfef_11 ?_
  refine lv_istore_n (lv' := [(2, .int 0), (0, .ref (Y i)), (1, .int x), (3, .int (Int32.ofNat (sByt i).length))]) C.1 C.2.1 dJ1_indexOf_4cfef_14 rfl hl (by decide) rfl (fun ls hl => ?_)
  refine lv_iload_n C.1 C.2.1 dJ1_indexOf_4cfef_15 rfl (lv_at hl 3 rfl) ?_
  refine lv_aload_n C.1 C.2.1 dJ1_indexOf_4cfef_16 rfl (lv_at hl 1 rfl) ?_
  refine va_tlen (v := Int32.ofNat (sByt i).length) C.1 C.2.1 (hZ.1 i hi).2.2.2 hS rfl dJ1_indexOf_4cfef_17 ?_
  refine k_mmin (v := (Int32.ofNat (sByt i).length)) C hl.1 m_15_10 m_12_19 m_12_15 m_12_20 (Nat.le_of_ble_eq_true rfl) (Nat.le_of_ble_eq_true rfl) (Nat.le_of_ble_eq_true rfl) (Nat.le_of_ble_eq_true rfl) (ite_self _) dJ1_indexOf_4cfef_18 ?_
  refine lv_istore_n (lv' := [(3, .int (Int32.ofNat (sByt i).length)), (2, .int 0), (0, .ref (Y i)), (1, .int x)]) C.1 C.2.1 dJ1_indexOf_4cfef_21 rfl hl (by decide) rfl (fun ls hl => ?_)
  refine lv_iload_n C.1 C.2.1 dJ1_indexOf_4cfef_22 rfl (lv_at hl 1 rfl) ?_
  refine lv_iload_n C.1 C.2.1 dJ1_indexOf_4cfef_23 rfl (lv_at hl 0 rfl) ?_
  refine lv_icmp_lt (tgt := 29) C.1 C.2.1 dJ1_indexOf_4cfef_24 (by decide) (fun _ => ?_) (fun h => False.elim (by have := i_nlt h; have e : (0 : Int32).toInt = 0 := rfl; unfold sL at h1; omega))
  refine lv_aload_n C.1 C.2.1 dJ1_indexOf_4cfef_29 rfl (lv_at hl 2 rfl) ?_
  refine lv_iload_n C.1 C.2.1 dJ1_indexOf_4cfef_30 rfl (lv_at hl 3 rfl) ?_
  refine lv_iload_n C.1 C.2.1 dJ1_indexOf_4cfef_31 rfl (lv_at hl 1 rfl) ?_
  refine lv_iload_n C.1 C.2.1 dJ1_indexOf_4cfef_32 rfl (lv_at hl 0 rfl) ?_
  refine g_Si (As := [.ref (Y i), .int x, .int 0, .int (Int32.ofNat (sByt i).length)]) (rest := []) C hP hD hS hA (TJ_indexOfChar l D K Z Y ws i hi x) hE hZ (uwS m_15_14 m_15_15 m_15_7 m_15_16) (hdS 4 (by decide +kernel) rfl) ⟨Nat.le_of_ble_eq_true rfl, Nat.le_of_ble_eq_true rfl⟩ rfl rfl rfl hl.1 (Nat.le_of_ble_eq_true rfl) dJ1_indexOf_4cfef_33 ⟨Nat.le_of_ble_eq_true rfl, Nat.le_of_ble_eq_true rfl⟩ (fun r u H locs hw2 hP hD hS => ?_)
  exact g_iret C hr hlocks hP hD hS rfl () rfl (show r = sIx i x from Eq.trans hw2 (if_neg hc0).symm) (Nat.le_of_ble_eq_true rfl) (Nat.le_of_ble_eq_true rfl) dJ1_indexOf_4cfef_36
set_option maxHeartbeats 4000000 in
theorem TJ_indexOf2 (l : Launch) (D : va_G) (K : Nat → ClassId) (Z Y : Nat → Nat) (ws : va_W) (i : Nat) (hi : i < 41) (h1 : 1 ≤ sL i) (x : Int32) : tMet l yJ0_indexOf_7cf53 cJ0_indexOf_7cf53 3 (some .int) (rmD 3 0 0) D K Z Y [.ref (Z i), .int x, .int 0] ws (QI D K (fun (r : Int32) (_ : Unit) => r = sIx i x) (fun (_ : Unit) => ws)) 0 0 := by
  refine t_met RJ0 ⟨rfl, by decide +kernel⟩ (Nat.le_of_ble_eq_true rfl) ?_
  intro p e s m below meth c A ls C hE hZ hr hlocks hA hP hD hS hl
  have hl : lv_has ls 3 [(0, .ref (Z i)), (1, .int x), (2, .int 0)] := hl
  have hlen := (sAll i hi).1
  have hn : (Int32.ofNat (sByt i).length).toInt = ((sByt i).length : Int) := i32_nat (by omega)
  refine lv_aload_n C.1 C.2.1 dJ0_indexOf_7cf53_0 rfl (lv_at hl 0 rfl) ?_
  refine g_Ti (As := []) (rest := []) C hP hD hS hA (TJ_isLatin1 l D K Z Y ws i hi) hE hZ (uwV m_14_15 m_14_16 m_14_17 m_14_8 m_14_18) (hdV 0 (by decide +kernel) rfl) ⟨Nat.le_of_ble_eq_true rfl, Nat.le_of_ble_eq_true rfl⟩ rfl rfl (i0 := i) hi rfl rfl hl.1 (Nat.le_of_ble_eq_true rfl) dJ0_indexOf_7cf53_1 ⟨Nat.le_of_ble_eq_true rfl, Nat.le_of_ble_eq_true rfl⟩ (fun r u H locs hw hP hD hS => ?_)
  have hw : r = 1 := hw
  subst hw
  refine lv_if_eq (tgt := 23) C.1 C.2.1 dJ0_indexOf_7cf53_4 (by decide) (fun h => absurd h (by decide)) (fun _ => ?_)
  refine lv_aload_n C.1 C.2.1 dJ0_indexOf_7cf53_7 rfl (lv_at hl 0 rfl) ?_
  refine vk_getf C.1 C.2.1 (hZ.1 i hi).2.2.1 hS C.2.2.2.1 (C.2.2.2.2.1 _ m_14_14) (fun _ h => h) dJ0_indexOf_7cf53_8 ?_
  refine lv_iload_n C.1 C.2.1 dJ0_indexOf_7cf53_11 rfl (lv_at hl 1 rfl) ?_
  refine lv_iload_n C.1 C.2.1 dJ0_indexOf_7cf53_12 rfl (lv_at hl 2 rfl) ?_
  refine lv_aload_n C.1 C.2.1 dJ0_indexOf_7cf53_13 rfl (lv_at hl 0 rfl) ?_
  refine g_Ti (As := []) (rest := [.int 0, .int x, .ref (Y i)]) C hP hD hS hA (TJ_length l D K Z Y ws i hi) hE hZ (uwV m_14_21 m_14_22 m_14_23 m_14_8 m_15_0) (hdV 0 (by decide +kernel) rfl) ⟨Nat.le_of_ble_eq_true rfl, Nat.le_of_ble_eq_true rfl⟩ rfl rfl (i0 := i) hi rfl rfl hl.1 (Nat.le_of_ble_eq_true rfl) dJ0_indexOf_7cf53_14 ⟨Nat.le_of_ble_eq_true rfl, Nat.le_of_ble_eq_true rfl⟩ (fun r u H locs hw hP hD hS => ?_)
  have hw : r = Int32.ofNat (sByt i).length := Int32.toInt_inj.mp (by rw [hn]; exact hw)
  subst hw
  refine g_Si (As := [.ref (Y i), .int x, .int 0, .int (Int32.ofNat (sByt i).length)]) (rest := []) C hP hD hS hA (TJ_indexOf1 l D K Z Y ws i hi h1 x) hE hZ (uwS m_15_5 m_15_6 m_15_7 m_15_8) (hdS 4 (by decide +kernel) rfl) ⟨Nat.le_of_ble_eq_true rfl, Nat.le_of_ble_eq_true rfl⟩ rfl rfl rfl hl.1 (Nat.le_of_ble_eq_true rfl) dJ0_indexOf_7cf53_17 ⟨Nat.le_of_ble_eq_true rfl, Nat.le_of_ble_eq_true rfl⟩ (fun r u H locs hw2 hP hD hS => ?_)
  refine lv_goto (tgt := 36) C.1 C.2.1 dJ0_indexOf_7cf53_20 (by decide) ?_
  exact g_iret C hr hlocks hP hD hS rfl () rfl hw2 (Nat.le_of_ble_eq_true rfl) (Nat.le_of_ble_eq_true rfl) dJ0_indexOf_7cf53_36
theorem TJ_indexOf (l : Launch) (D : va_G) (K : Nat → ClassId) (Z Y : Nat → Nat) (ws : va_W) (i : Nat) (hi : i < 41) (h1 : 1 ≤ sL i) (x : Int32) : tMet l yJ0_indexOf_0f7a4 cJ0_indexOf_0f7a4 2 (some .int) (rmD 4 0 0) D K Z Y [.ref (Z i), .int x] ws (QI D K (fun (r : Int32) (_ : Unit) => r = sIx i x) (fun (_ : Unit) => ws)) 0 0 := by
  refine t_met RJ0 ⟨rfl, by decide +kernel⟩ (Nat.le_of_ble_eq_true rfl) ?_
  intro p e s m below meth c A ls C hE hZ hr hlocks hA hP hD hS hl
  have hl : lv_has ls 2 [(0, .ref (Z i)), (1, .int x)] := hl
  refine lv_aload_n C.1 C.2.1 dJ0_indexOf_0f7a4_0 rfl (lv_at hl 0 rfl) ?_
  refine lv_iload_n C.1 C.2.1 dJ0_indexOf_0f7a4_1 rfl (lv_at hl 1 rfl) ?_
  refine lv_iconst (v := 0) C.1 C.2.1 dJ0_indexOf_0f7a4_2 (by decide) ?_
  refine g_Ti (As := [.int x, .int 0]) (rest := []) C hP hD hS hA (TJ_indexOf2 l D K Z Y ws i hi h1 x) hE hZ (uwV m_14_10 m_14_11 m_14_12 m_14_8 m_14_13) (hdV 2 (by decide +kernel) rfl) ⟨Nat.le_of_ble_eq_true rfl, Nat.le_of_ble_eq_true rfl⟩ rfl rfl (i0 := i) hi rfl rfl hl.1 (Nat.le_of_ble_eq_true rfl) dJ0_indexOf_0f7a4_3 ⟨Nat.le_of_ble_eq_true rfl, Nat.le_of_ble_eq_true rfl⟩ (fun r u H locs hw hP hD hS => ?_)
  exact g_iret C hr hlocks hP hD hS rfl () rfl hw (Nat.le_of_ble_eq_true rfl) (Nat.le_of_ble_eq_true rfl) dJ0_indexOf_0f7a4_6
