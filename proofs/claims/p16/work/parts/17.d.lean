theorem dX2_advance_0 : decode cX2_advance 0 = .ok (.aload_n 0, 1) := by decide +kernel
theorem dX2_advance_1 : decode cX2_advance 1 = .ok (.aload_n 0, 1) := by decide +kernel
theorem dX2_advance_102 : decode cX2_advance 102 = .ok (.invokevirtual 90, 3) := by decide +kernel
theorem dX2_advance_105 : decode cX2_advance 105 = .ok (.goto 4, 3) := by decide +kernel
theorem dX2_advance_108 : decode cX2_advance 108 = .ok (.lconst 0, 1) := by decide +kernel
theorem dX2_advance_109 : decode cX2_advance 109 = .ok (.lstore_n 2, 1) := by decide +kernel
theorem dX2_advance_11 : decode cX2_advance 11 = .ok (.aload_n 0, 1) := by decide +kernel
theorem dX2_advance_110 : decode cX2_advance 110 = .ok (.aload_n 0, 1) := by decide +kernel
theorem dX2_advance_111 : decode cX2_advance 111 = .ok (.invokevirtual 94, 3) := by decide +kernel
theorem dX2_advance_114 : decode cX2_advance 114 = .ok (.i2l, 1) := by decide +kernel
theorem dX2_advance_115 : decode cX2_advance 115 = .ok (.lload_n 2, 1) := by decide +kernel
theorem dX2_advance_116 : decode cX2_advance 116 = .ok (.ladd, 1) := by decide +kernel
theorem dX2_advance_117 : decode cX2_advance 117 = .ok (.lstore 4, 2) := by decide +kernel
theorem dX2_advance_119 : decode cX2_advance 119 = .ok (.iload_n 1, 1) := by decide +kernel
theorem dX2_advance_12 : decode cX2_advance 12 = .ok (.iconst 2, 1) := by decide +kernel
theorem dX2_advance_120 : decode cX2_advance 120 = .ok (.ifCond .eq 29, 3) := by decide +kernel
theorem dX2_advance_123 : decode cX2_advance 123 = .ok (.lload 4, 2) := by decide +kernel
theorem dX2_advance_125 : decode cX2_advance 125 = .ok (.aload_n 0, 1) := by decide +kernel
theorem dX2_advance_126 : decode cX2_advance 126 = .ok (.getfield 19, 3) := by decide +kernel
theorem dX2_advance_129 : decode cX2_advance 129 = .ok (.sipush 3989, 3) := by decide +kernel
theorem dX2_advance_13 : decode cX2_advance 13 = .ok (.invokevirtual 66, 3) := by decide +kernel
theorem dX2_advance_132 : decode cX2_advance 132 = .ok (.iaload, 1) := by decide +kernel
theorem dX2_advance_133 : decode cX2_advance 133 = .ok (.invokestatic 98, 3) := by decide +kernel
theorem dX2_advance_136 : decode cX2_advance 136 = .ok (.i2l, 1) := by decide +kernel
theorem dX2_advance_137 : decode cX2_advance 137 = .ok (.lcmp, 1) := by decide +kernel
theorem dX2_advance_138 : decode cX2_advance 138 = .ok (.ifCond .le 11, 3) := by decide +kernel
theorem dX2_advance_141 : decode cX2_advance 141 = .ok (.aload_n 0, 1) := by decide +kernel
theorem dX2_advance_142 : decode cX2_advance 142 = .ok (.bipush 9, 2) := by decide +kernel
theorem dX2_advance_144 : decode cX2_advance 144 = .ok (.invokevirtual 103, 3) := by decide +kernel
theorem dX2_advance_147 : decode cX2_advance 147 = .ok (.iconst 0, 1) := by decide +kernel
theorem dX2_advance_148 : decode cX2_advance 148 = .ok (.ireturn, 1) := by decide +kernel
theorem dX2_advance_149 : decode cX2_advance 149 = .ok (.aload_n 0, 1) := by decide +kernel
theorem dX2_advance_150 : decode cX2_advance 150 = .ok (.getfield 47, 3) := by decide +kernel
theorem dX2_advance_153 : decode cX2_advance 153 = .ok (.lload 4, 2) := by decide +kernel
theorem dX2_advance_155 : decode cX2_advance 155 = .ok (.ladd, 1) := by decide +kernel
theorem dX2_advance_156 : decode cX2_advance 156 = .ok (.aload_n 0, 1) := by decide +kernel
theorem dX2_advance_157 : decode cX2_advance 157 = .ok (.getfield 59, 3) := by decide +kernel
theorem dX2_advance_16 : decode cX2_advance 16 = .ok (.iconst 0, 1) := by decide +kernel
theorem dX2_advance_160 : decode cX2_advance 160 = .ok (.lcmp, 1) := by decide +kernel
theorem dX2_advance_161 : decode cX2_advance 161 = .ok (.ifCond .le 21, 3) := by decide +kernel
theorem dX2_advance_164 : decode cX2_advance 164 = .ok (.aload_n 0, 1) := by decide +kernel
theorem dX2_advance_165 : decode cX2_advance 165 = .ok (.bipush 9, 2) := by decide +kernel
theorem dX2_advance_167 : decode cX2_advance 167 = .ok (.putfield 15, 3) := by decide +kernel
theorem dX2_advance_17 : decode cX2_advance 17 = .ok (.ireturn, 1) := by decide +kernel
theorem dX2_advance_170 : decode cX2_advance 170 = .ok (.aload_n 0, 1) := by decide +kernel
theorem dX2_advance_171 : decode cX2_advance 171 = .ok (.getfield 22, 3) := by decide +kernel
theorem dX2_advance_174 : decode cX2_advance 174 = .ok (.ldc2_w 57, 3) := by decide +kernel
theorem dX2_advance_177 : decode cX2_advance 177 = .ok (.invokevirtual 106, 3) := by decide +kernel
theorem dX2_advance_18 : decode cX2_advance 18 = .ok (.aload_n 0, 1) := by decide +kernel
theorem dX2_advance_180 : decode cX2_advance 180 = .ok (.iconst 0, 1) := by decide +kernel
theorem dX2_advance_181 : decode cX2_advance 181 = .ok (.ireturn, 1) := by decide +kernel
theorem dX2_advance_182 : decode cX2_advance 182 = .ok (.aload_n 0, 1) := by decide +kernel
theorem dX2_advance_183 : decode cX2_advance 183 = .ok (.invokevirtual 110, 3) := by decide +kernel
theorem dX2_advance_186 : decode cX2_advance 186 = .ok (.istore 6, 2) := by decide +kernel
theorem dX2_advance_188 : decode cX2_advance 188 = .ok (.iload 6, 2) := by decide +kernel
theorem dX2_advance_19 : decode cX2_advance 19 = .ok (.aload_n 0, 1) := by decide +kernel
theorem dX2_advance_190 : decode cX2_advance 190 = .ok (.ifCond .eq 11, 3) := by decide +kernel
theorem dX2_advance_193 : decode cX2_advance 193 = .ok (.aload_n 0, 1) := by decide +kernel
theorem dX2_advance_194 : decode cX2_advance 194 = .ok (.iload 6, 2) := by decide +kernel
theorem dX2_advance_196 : decode cX2_advance 196 = .ok (.invokevirtual 66, 3) := by decide +kernel
theorem dX2_advance_199 : decode cX2_advance 199 = .ok (.iconst 0, 1) := by decide +kernel
theorem dX2_advance_2 : decode cX2_advance 2 = .ok (.getfield 44, 3) := by decide +kernel
theorem dX2_advance_20 : decode cX2_advance 20 = .ok (.getfield 44, 3) := by decide +kernel
theorem dX2_advance_200 : decode cX2_advance 200 = .ok (.ireturn, 1) := by decide +kernel
theorem dX2_advance_201 : decode cX2_advance 201 = .ok (.aload_n 0, 1) := by decide +kernel
theorem dX2_advance_202 : decode cX2_advance 202 = .ok (.aload_n 0, 1) := by decide +kernel
theorem dX2_advance_203 : decode cX2_advance 203 = .ok (.getfield 47, 3) := by decide +kernel
theorem dX2_advance_206 : decode cX2_advance 206 = .ok (.lload_n 2, 1) := by decide +kernel
theorem dX2_advance_207 : decode cX2_advance 207 = .ok (.ladd, 1) := by decide +kernel
theorem dX2_advance_208 : decode cX2_advance 208 = .ok (.invokevirtual 113, 3) := by decide +kernel
theorem dX2_advance_211 : decode cX2_advance 211 = .ok (.aload_n 0, 1) := by decide +kernel
theorem dX2_advance_212 : decode cX2_advance 212 = .ok (.dup, 1) := by decide +kernel
theorem dX2_advance_213 : decode cX2_advance 213 = .ok (.getfield 47, 3) := by decide +kernel
theorem dX2_advance_216 : decode cX2_advance 216 = .ok (.lload 4, 2) := by decide +kernel
theorem dX2_advance_218 : decode cX2_advance 218 = .ok (.ladd, 1) := by decide +kernel
theorem dX2_advance_219 : decode cX2_advance 219 = .ok (.putfield 47, 3) := by decide +kernel
theorem dX2_advance_222 : decode cX2_advance 222 = .ok (.aload_n 0, 1) := by decide +kernel
theorem dX2_advance_223 : decode cX2_advance 223 = .ok (.getfield 22, 3) := by decide +kernel
theorem dX2_advance_226 : decode cX2_advance 226 = .ok (.aload_n 0, 1) := by decide +kernel
theorem dX2_advance_227 : decode cX2_advance 227 = .ok (.getfield 47, 3) := by decide +kernel
theorem dX2_advance_23 : decode cX2_advance 23 = .ok (.putfield 70, 3) := by decide +kernel
theorem dX2_advance_230 : decode cX2_advance 230 = .ok (.invokevirtual 106, 3) := by decide +kernel
theorem dX2_advance_233 : decode cX2_advance 233 = .ok (.iload_n 1, 1) := by decide +kernel
theorem dX2_advance_234 : decode cX2_advance 234 = .ok (.ifCond .eq 24, 3) := by decide +kernel
theorem dX2_advance_237 : decode cX2_advance 237 = .ok (.aload_n 0, 1) := by decide +kernel
theorem dX2_advance_238 : decode cX2_advance 238 = .ok (.getfield 19, 3) := by decide +kernel
theorem dX2_advance_241 : decode cX2_advance 241 = .ok (.sipush 3989, 3) := by decide +kernel
theorem dX2_advance_244 : decode cX2_advance 244 = .ok (.aload_n 0, 1) := by decide +kernel
theorem dX2_advance_245 : decode cX2_advance 245 = .ok (.getfield 19, 3) := by decide +kernel
theorem dX2_advance_248 : decode cX2_advance 248 = .ok (.sipush 3989, 3) := by decide +kernel
theorem dX2_advance_251 : decode cX2_advance 251 = .ok (.iaload, 1) := by decide +kernel
theorem dX2_advance_252 : decode cX2_advance 252 = .ok (.lload 4, 2) := by decide +kernel
theorem dX2_advance_254 : decode cX2_advance 254 = .ok (.invokestatic 116, 3) := by decide +kernel
theorem dX2_advance_257 : decode cX2_advance 257 = .ok (.iastore, 1) := by decide +kernel
theorem dX2_advance_258 : decode cX2_advance 258 = .ok (.aload_n 0, 1) := by decide +kernel
theorem dX2_advance_259 : decode cX2_advance 259 = .ok (.getfield 84, 3) := by decide +kernel
theorem dX2_advance_26 : decode cX2_advance 26 = .ok (.aload_n 0, 1) := by decide +kernel
theorem dX2_advance_262 : decode cX2_advance 262 = .ok (.iconst 5, 1) := by decide +kernel
theorem dX2_advance_263 : decode cX2_advance 263 = .ok (.if_icmp .ne 16, 3) := by decide +kernel
theorem dX2_advance_266 : decode cX2_advance 266 = .ok (.aload_n 0, 1) := by decide +kernel
theorem dX2_advance_267 : decode cX2_advance 267 = .ok (.getfield 87, 3) := by decide +kernel
theorem dX2_advance_27 : decode cX2_advance 27 = .ok (.aload_n 0, 1) := by decide +kernel
theorem dX2_advance_270 : decode cX2_advance 270 = .ok (.iconst 2, 1) := by decide +kernel
theorem dX2_advance_271 : decode cX2_advance 271 = .ok (.if_icmp .ne 8, 3) := by decide +kernel
theorem dX2_advance_274 : decode cX2_advance 274 = .ok (.aload_n 0, 1) := by decide +kernel
theorem dX2_advance_275 : decode cX2_advance 275 = .ok (.iconst 0, 1) := by decide +kernel
theorem dX2_advance_276 : decode cX2_advance 276 = .ok (.invokevirtual 66, 3) := by decide +kernel
theorem dX2_advance_279 : decode cX2_advance 279 = .ok (.iconst 1, 1) := by decide +kernel
theorem dX2_advance_28 : decode cX2_advance 28 = .ok (.aload_n 0, 1) := by decide +kernel
theorem dX2_advance_280 : decode cX2_advance 280 = .ok (.ireturn, 1) := by decide +kernel
theorem dX2_advance_29 : decode cX2_advance 29 = .ok (.getfield 44, 3) := by decide +kernel
theorem dX2_advance_32 : decode cX2_advance 32 = .ok (.invokevirtual 73, 3) := by decide +kernel
theorem dX2_advance_35 : decode cX2_advance 35 = .ok (.putfield 77, 3) := by decide +kernel
theorem dX2_advance_38 : decode cX2_advance 38 = .ok (.aload_n 0, 1) := by decide +kernel
theorem dX2_advance_39 : decode cX2_advance 39 = .ok (.invokevirtual 80, 3) := by decide +kernel
theorem dX2_advance_42 : decode cX2_advance 42 = .ok (.ifCond .ne 10, 3) := by decide +kernel
theorem dX2_advance_45 : decode cX2_advance 45 = .ok (.aload_n 0, 1) := by decide +kernel
theorem dX2_advance_46 : decode cX2_advance 46 = .ok (.iconst 1, 1) := by decide +kernel
theorem dX2_advance_47 : decode cX2_advance 47 = .ok (.invokevirtual 66, 3) := by decide +kernel
theorem dX2_advance_5 : decode cX2_advance 5 = .ok (.invokevirtual 62, 3) := by decide +kernel
theorem dX2_advance_50 : decode cX2_advance 50 = .ok (.iconst 0, 1) := by decide +kernel
theorem dX2_advance_51 : decode cX2_advance 51 = .ok (.ireturn, 1) := by decide +kernel
theorem dX2_advance_52 : decode cX2_advance 52 = .ok (.aload_n 0, 1) := by decide +kernel
theorem dX2_advance_53 : decode cX2_advance 53 = .ok (.getfield 51, 3) := by decide +kernel
theorem dX2_advance_56 : decode cX2_advance 56 = .ok (.ifCond .eq 14, 3) := by decide +kernel
theorem dX2_advance_59 : decode cX2_advance 59 = .ok (.aload_n 0, 1) := by decide +kernel
theorem dX2_advance_60 : decode cX2_advance 60 = .ok (.getfield 54, 3) := by decide +kernel
theorem dX2_advance_63 : decode cX2_advance 63 = .ok (.ifCond .ne 7, 3) := by decide +kernel
theorem dX2_advance_66 : decode cX2_advance 66 = .ok (.iconst 1, 1) := by decide +kernel
theorem dX2_advance_67 : decode cX2_advance 67 = .ok (.goto 4, 3) := by decide +kernel
theorem dX2_advance_70 : decode cX2_advance 70 = .ok (.iconst 0, 1) := by decide +kernel
theorem dX2_advance_71 : decode cX2_advance 71 = .ok (.istore_n 1, 1) := by decide +kernel
theorem dX2_advance_72 : decode cX2_advance 72 = .ok (.aload_n 0, 1) := by decide +kernel
theorem dX2_advance_73 : decode cX2_advance 73 = .ok (.getfield 84, 3) := by decide +kernel
theorem dX2_advance_76 : decode cX2_advance 76 = .ok (.bipush 35, 2) := by decide +kernel
theorem dX2_advance_78 : decode cX2_advance 78 = .ok (.if_icmp .lt 30, 3) := by decide +kernel
theorem dX2_advance_8 : decode cX2_advance 8 = .ok (.ifCond .ne 10, 3) := by decide +kernel
theorem dX2_advance_81 : decode cX2_advance 81 = .ok (.aload_n 0, 1) := by decide +kernel
theorem dX2_advance_82 : decode cX2_advance 82 = .ok (.getfield 84, 3) := by decide +kernel
theorem dX2_advance_85 : decode cX2_advance 85 = .ok (.bipush 37, 2) := by decide +kernel
theorem dX2_advance_87 : decode cX2_advance 87 = .ok (.if_icmp .gt 21, 3) := by decide +kernel
theorem dX2_advance_90 : decode cX2_advance 90 = .ok (.aload_n 0, 1) := by decide +kernel
theorem dX2_advance_91 : decode cX2_advance 91 = .ok (.getfield 22, 3) := by decide +kernel
theorem dX2_advance_94 : decode cX2_advance 94 = .ok (.aload_n 0, 1) := by decide +kernel
theorem dX2_advance_95 : decode cX2_advance 95 = .ok (.getfield 87, 3) := by decide +kernel
theorem dX2_advance_98 : decode cX2_advance 98 = .ok (.aload_n 0, 1) := by decide +kernel
theorem dX2_advance_99 : decode cX2_advance 99 = .ok (.getfield 47, 3) := by decide +kernel
set_option maxHeartbeats 4000000 in
set_option maxRecDepth 100000 in
theorem T_X2_advance (l : Launch) (D : va_G) (K : Nat → ClassId) (Z Y : Nat → Nat) (ad : Nat → Nat) (d : dSt) (t : tSt) (hok : okX t) (hod : okD d)  : dMet l yX2_advance cX2_advance 7 (some .boolean) (rmD 10 11000 3080000) D K Z Y [.ref (ad 4)] ((WX d) K ad t) (QDI D K ad d (fun (r : Int32) (u : tSt) (dd : dSt) => okX u ∧ frA [(3, 8), (4, 3), (4, 4), (4, 5), (4, 8), (4, 10), (4, 11), (4, 12), (4, 13), (4, 14), (4, 15), (18, 1), (18, 3), (19, 3), (20, 3), (21, 3)] [(4, 6)] [10, 11, 12, 15, 16, 17, 22, 32, 33, 34, 35, 36, 37, 38, 39, 40] [13, 14] t u ∧ okD dd ∧ (0 : Int) ≤ r.toInt ∧ r.toInt ≤ 1)) 11000 3080000 := by
  refine d_met d RX2 ⟨rfl, by decide +kernel⟩ (Nat.le_of_ble_eq_true rfl) ?_
  intro p e s m below meth c A ls C hE hZ hX hr hlocks hA hP hD hS hl
  have hl : lv_has ls 7 [(0, .ref (ad 4))] := hl
  have hle : dLe d d := dLe_rf
  have hdf : dFr s.heap.size d d := dFr_rf
  have hokt := hok
  have hfr : frA [(3, 8), (4, 3), (4, 4), (4, 5), (4, 8), (4, 10), (4, 11), (4, 12), (4, 13), (4, 14), (4, 15), (18, 1), (18, 3), (19, 3), (20, 3), (21, 3)] [(4, 6)] [10, 11, 12, 15, 16, 17, 22, 32, 33, 34, 35, 36, 37, 38, 39, 40] [13, 14] t t := frA_rf
  have L_258 : ∀ (t1 : tSt) (d1 : dSt) (w258_1 : Int32) (w258_2 : Int64) (w258_4 : Int64) (w258_6 : Int32) (H : Heap) (locs : List Loc) (ls : Array Slot), okX t1 → frA [(3, 8), (4, 3), (4, 4), (4, 5), (4, 8), (4, 10), (4, 11), (4, 12), (4, 13), (4, 14), (4, 15), (18, 1), (18, 3), (19, 3), (20, 3), (21, 3)] [(4, 6)] [10, 11, 12, 15, 16, 17, 22, 32, 33, 34, 35, 36, 37, 38, 39, 40] [13, 14] t t1 → okD d1 → dLe d d1 → dFr s.heap.size d d1 → (0 : Int) ≤ w258_1.toInt ∧ w258_1.toInt ≤ 1 → (0 : Int) ≤ w258_6.toInt ∧ w258_6.toInt ≤ 0 → va_P D vwCl ((WX d1) K ad t1) H → va_D A ((WX d1) K ad t1) → va_S A s.heap H locs → lv_has ls 7 [(0, .ref (ad 4)), (1, .int w258_1), (2, .long w258_2), (4, .long w258_4), (6, .int w258_6)] → W p l e (rmD 10 11000 3080000) s m [.ref (ad 4)].toArray below meth c H locs (newC d d1) 246800 (MQ below (QDI D K ad d (fun (r : Int32) (u : tSt) (dd : dSt) => okX u ∧ frA [(3, 8), (4, 3), (4, 4), (4, 5), (4, 8), (4, 10), (4, 11), (4, 12), (4, 13), (4, 14), (4, 15), (18, 1), (18, 3), (19, 3), (20, 3), (21, 3)] [(4, 6)] [10, 11, 12, 15, 16, 17, 22, 32, 33, 34, 35, 36, 37, 38, 39, 40] [13, 14] t u ∧ okD dd ∧ (0 : Int) ≤ r.toInt ∧ r.toInt ≤ 1) s.heap.size A) [.ref (ad 4)].toArray s 11000 3080000 A) (F0 m 258 ls []) := by
    intro t1 d1 w258_1 w258_2 w258_4 w258_6 H locs ls hok hfr hod hle hdf hw258_1 hw258_6 hP hD hS hl
    refine lv_aload_n C.1 C.2.1 dX2_advance_258 rfl (lv_at hl 0 rfl) ?_
    have h_1 : (0 : Int) ≤ (t1.1 4 13).toInt ∧ (t1.1 4 13).toInt ≤ 63 := hok.1 4 13
    refine k_get (v := .int (t1.1 4 13)) C hP 4 rfl rfl inlX2 13 (by decide) m_45_18 rfl dX2_advance_259 ?_
    refine lv_iconst (v := 5) C.1 C.2.1 dX2_advance_262 (by decide) ?_
    refine lv_icmp_ne (tgt := 279) C.1 C.2.1 dX2_advance_263 (by decide) (fun c_2 => ?_) (fun c_2 => ?_)
    · replace c_2 : ¬ (t1.1 4 13).toInt = 5 := i_ne c_2
      refine lv_iconst (v := 1) C.1 C.2.1 dX2_advance_279 (by decide) ?_
      exact g_Diret C hr hlocks hP hD hS (by decide) ⟨hok, hfr, hod, by decide, by decide⟩ hle hdf (Nat.le_of_ble_eq_true rfl) (Nat.le_of_ble_eq_true rfl) dX2_advance_280
    · replace c_2 : (t1.1 4 13).toInt = 5 := i_eq c_2
      refine lv_aload_n C.1 C.2.1 dX2_advance_266 rfl (lv_at hl 0 rfl) ?_
      have h_3 : (0 : Int) ≤ (t1.1 4 14).toInt ∧ (t1.1 4 14).toInt ≤ 63 := hok.1 4 14
      refine k_get (v := .int (t1.1 4 14)) C hP 4 rfl rfl inlX2 14 (by decide) m_45_19 rfl dX2_advance_267 ?_
      refine lv_iconst (v := 2) C.1 C.2.1 dX2_advance_270 (by decide) ?_
      refine lv_icmp_ne (tgt := 279) C.1 C.2.1 dX2_advance_271 (by decide) (fun c_4 => ?_) (fun c_4 => ?_)
      · replace c_4 : ¬ (t1.1 4 14).toInt = 2 := i_ne c_4
        refine lv_iconst (v := 1) C.1 C.2.1 dX2_advance_279 (by decide) ?_
        exact g_Diret C hr hlocks hP hD hS (by decide) ⟨hok, hfr, hod, by decide, by decide⟩ hle hdf (Nat.le_of_ble_eq_true rfl) (Nat.le_of_ble_eq_true rfl) dX2_advance_280
      · replace c_4 : (t1.1 4 14).toInt = 2 := i_eq c_4
        refine lv_aload_n C.1 C.2.1 dX2_advance_274 rfl (lv_at hl 0 rfl) ?_
        refine lv_iconst (v := 0) C.1 C.2.1 dX2_advance_275 (by decide) ?_
        refine hz_Vv (As := [.int 0]) (rest := []) C hP hD hS hA (T_X2_stop l D K Z Y ad d1 t1 hok 0 (show (0 : Int) ≤ (0 : Int32).toInt ∧ (0 : Int32).toInt ≤ 7 from ⟨by decide, by decide⟩)) hE hZ (uwV m_46_0 m_46_1 m_46_2 m_1_23 m_46_3) (hdV 1 (by decide +kernel) rfl) ⟨Nat.le_of_ble_eq_true rfl, Nat.le_of_ble_eq_true rfl⟩ rfl rfl (ci := 1) (q0 := 4) rfl rfl rfl hl.1 (Nat.le_of_ble_eq_true rfl) dX2_advance_276 ⟨Nat.le_trans (newC_le _ _) (Nat.le_of_ble_eq_true rfl), (Nat.le_of_ble_eq_true rfl)⟩ (fun t_5 H locs hw hP hD hS => ?_)
        obtain ⟨hok, f_7⟩ := hw
        have hfr : frA [(3, 8), (4, 3), (4, 4), (4, 5), (4, 8), (4, 10), (4, 11), (4, 12), (4, 13), (4, 14), (4, 15), (18, 1), (18, 3), (19, 3), (20, 3), (21, 3)] [(4, 6)] [10, 11, 12, 15, 16, 17, 22, 32, 33, 34, 35, 36, 37, 38, 39, 40] [13, 14] t t_5 := frA_tr hfr f_7 rfl
        have h_8 : (t_5.1 4 13).toInt = (t1.1 4 13).toInt := ti_eq (f_7.1 4 13 rfl)
        have h_9 : (t_5.1 4 14).toInt = (t1.1 4 14).toInt := ti_eq (f_7.1 4 14 rfl)
        refine lv_iconst (v := 1) C.1 C.2.1 dX2_advance_279 (by decide) ?_
        exact g_Diret C hr hlocks hP hD hS (by decide) ⟨hok, hfr, hod, by decide, by decide⟩ hle hdf (Nat.le_of_ble_eq_true rfl) (Nat.le_of_ble_eq_true rfl) dX2_advance_280
  have L_149 : ∀ (t1 : tSt) (d1 : dSt) (w149_1 : Int32) (w149_2 : Int64) (w149_4 : Int64) (H : Heap) (locs : List Loc) (ls : Array Slot), okX t1 → frA [(3, 8), (4, 3), (4, 4), (4, 5), (4, 8), (4, 10), (4, 11), (4, 12), (4, 13), (4, 14), (4, 15), (18, 1), (18, 3), (19, 3), (20, 3), (21, 3)] [(4, 6)] [10, 11, 12, 15, 16, 17, 22, 32, 33, 34, 35, 36, 37, 38, 39, 40] [13, 14] t t1 → okD d1 → dLe d d1 → dFr s.heap.size d d1 → (0 : Int) ≤ w149_1.toInt ∧ w149_1.toInt ≤ 1 → va_P D vwCl ((WX d1) K ad t1) H → va_D A ((WX d1) K ad t1) → va_S A s.heap H locs → lv_has ls 7 [(0, .ref (ad 4)), (1, .int w149_1), (2, .long w149_2), (4, .long w149_4)] → W p l e (rmD 10 11000 3080000) s m [.ref (ad 4)].toArray below meth c H locs (newC d d1) 246800 (MQ below (QDI D K ad d (fun (r : Int32) (u : tSt) (dd : dSt) => okX u ∧ frA [(3, 8), (4, 3), (4, 4), (4, 5), (4, 8), (4, 10), (4, 11), (4, 12), (4, 13), (4, 14), (4, 15), (18, 1), (18, 3), (19, 3), (20, 3), (21, 3)] [(4, 6)] [10, 11, 12, 15, 16, 17, 22, 32, 33, 34, 35, 36, 37, 38, 39, 40] [13, 14] t u ∧ okD dd ∧ (0 : Int) ≤ r.toInt ∧ r.toInt ≤ 1) s.heap.size A) [.ref (ad 4)].toArray s 11000 3080000 A) (F0 m 149 ls []) := by
    intro t1 d1 w149_1 w149_2 w149_4 H locs ls hok hfr hod hle hdf hw149_1 hP hD hS hl
    refine lv_aload_n C.1 C.2.1 dX2_advance_149 rfl (lv_at hl 0 rfl) ?_
    refine k_get (v := .long (t1.2.1 4 6)) C hP 4 rfl rfl inlX2 6 (by decide) m_11_7 rfl dX2_advance_150 ?_
    refine lv_lload C.1 C.2.1 dX2_advance_153 (lv_at hl 3 rfl) ?_
    obtain ⟨v_10, e_11⟩ : ∃ z, z = ((t1.2.1 4 6) : Int64) + (w149_4 : Int64) := ⟨_, rfl⟩
    refine k_ladd (v := v_10) C e_11.symm dX2_advance_155 ?_
    refine lv_aload_n C.1 C.2.1 dX2_advance_156 rfl (lv_at hl 0 rfl) ?_
    refine k_get (v := .long (t1.2.1 4 7)) C hP 4 rfl rfl inlX2 7 (by decide) m_28_17 rfl dX2_advance_157 ?_
    obtain ⟨v_12, e_13⟩ : ∃ z, z = lg_cmp (v_10 : Int64) (t1.2.1 4 7) := ⟨_, rfl⟩
    have h_14 : (-1 : Int) ≤ v_12.toInt ∧ v_12.toInt ≤ 1 := by rw [e_13]; exact cmp_rng _ _
    refine k_lcmp (v := v_12) C e_13.symm dX2_advance_160 ?_
    refine lv_if_le (tgt := 182) C.1 C.2.1 dX2_advance_161 (by decide) (fun c_15 => ?_) (fun c_15 => ?_)
    · replace c_15 : v_12.toInt ≤ 0 := i_le c_15
      refine lv_aload_n C.1 C.2.1 dX2_advance_182 rfl (lv_at hl 0 rfl) ?_
      refine hz_Vi (As := []) (rest := []) C hP hD hS hA (T_X2_faultAhead l D K Z Y ad d1 t1 hok hod ) hE hZ (uwV m_48_7 m_48_8 m_48_9 m_1_23 m_48_10) (hdV 0 (by decide +kernel) rfl) ⟨Nat.le_of_ble_eq_true rfl, Nat.le_of_ble_eq_true rfl⟩ rfl rfl (ci := 1) (q0 := 4) rfl rfl rfl hl.1 (Nat.le_of_ble_eq_true rfl) dX2_advance_183 ⟨Nat.le_trans (newC_le _ _) (Nat.le_of_ble_eq_true rfl), (Nat.le_of_ble_eq_true rfl)⟩ (fun r_17 t_16 H locs hw hP hD hS => ?_)
      obtain ⟨h_19, h_20⟩ := hw
      refine lv_istore (lv' := [(6, .int r_17), (0, .ref (ad 4)), (1, .int w149_1), (2, .long w149_2), (4, .long w149_4)]) C.1 C.2.1 dX2_advance_186 hl (by decide) rfl (fun ls hl => ?_)
      have hl : lv_has ls 7 [(0, .ref (ad 4)), (1, .int w149_1), (2, .long w149_2), (4, .long w149_4), (6, .int r_17)] := lv_sub hl [1, 2, 3, 4, 0] rfl
      refine lv_iload C.1 C.2.1 dX2_advance_188 (lv_at hl 4 rfl) ?_
      refine lv_if_eq (tgt := 201) C.1 C.2.1 dX2_advance_190 (by decide) (fun c_21 => ?_) (fun c_21 => ?_)
      · replace c_21 : r_17.toInt = 0 := i_eq c_21
        refine lv_aload_n C.1 C.2.1 dX2_advance_201 rfl (lv_at hl 0 rfl) ?_
        refine lv_aload_n C.1 C.2.1 dX2_advance_202 rfl (lv_at hl 0 rfl) ?_
        refine k_get (v := .long (t1.2.1 4 6)) C hP 4 rfl rfl inlX2 6 (by decide) m_11_7 rfl dX2_advance_203 ?_
        refine lv_lload_n C.1 C.2.1 dX2_advance_206 rfl (lv_at hl 2 rfl) ?_
        obtain ⟨v_22, e_23⟩ : ∃ z, z = ((t1.2.1 4 6) : Int64) + (w149_2 : Int64) := ⟨_, rfl⟩
        refine k_ladd (v := v_22) C e_23.symm dX2_advance_207 ?_
        refine g_DVv (As := [.long v_22]) (rest := []) C hP hD hS hA (T_X2_perform l D K Z Y ad d1 t1 hok hod (v_22)) hE hZ hX hle hdf (uwV m_50_11 m_50_12 m_50_13 m_1_23 m_50_14) (hdV 1 (by decide +kernel) rfl) ⟨Nat.le_of_ble_eq_true rfl, Nat.le_of_ble_eq_true rfl⟩ rfl rfl (ci := 1) (q0 := 4) rfl rfl rfl hl.1 (Nat.le_of_ble_eq_true rfl) dX2_advance_208 ⟨Nat.le_of_ble_eq_true rfl, Nat.le_of_ble_eq_true rfl⟩ (fun t_24 d_26 H locs hw hP hD hS hln hle hdf => ?_)
        obtain ⟨hok, f_27, hod⟩ := hw
        have hfr : frA [(3, 8), (4, 3), (4, 4), (4, 5), (4, 8), (4, 10), (4, 11), (4, 12), (4, 13), (4, 14), (4, 15), (18, 1), (18, 3), (19, 3), (20, 3), (21, 3)] [(4, 6)] [10, 11, 12, 15, 16, 17, 22, 32, 33, 34, 35, 36, 37, 38, 39, 40] [13, 14] t t_24 := frA_tr hfr f_27 rfl
        refine lv_aload_n C.1 C.2.1 dX2_advance_211 rfl (lv_at hl 0 rfl) ?_
        refine lv_dup C.1 C.2.1 dX2_advance_212 rfl ?_
        refine k_get (v := .long (t_24.2.1 4 6)) C hP 4 rfl rfl inlX2 6 (by decide) m_11_7 rfl dX2_advance_213 ?_
        refine lv_lload C.1 C.2.1 dX2_advance_216 (lv_at hl 3 rfl) ?_
        obtain ⟨v_28, e_29⟩ : ∃ z, z = ((t_24.2.1 4 6) : Int64) + (w149_4 : Int64) := ⟨_, rfl⟩
        refine k_ladd (v := v_28) C e_29.symm dX2_advance_218 ?_
        refine k_put (ws' := (WX d_26) K ad (uJ t_24 4 6 v_28)) (v := .long v_28) C hP hD hS 4 rfl rfl inlX2 tyX2_ok nmX2 6 (by decide) m_11_7 rfl rfl rfl rfl rfl dX2_advance_219 (fun H locs hP hD hS => ?_)
        have hok : okX (uJ t_24 4 6 v_28) := ⟨hok.1, hok.2.1, trivial⟩
        have hfr : frA [(3, 8), (4, 3), (4, 4), (4, 5), (4, 8), (4, 10), (4, 11), (4, 12), (4, 13), (4, 14), (4, 15), (18, 1), (18, 3), (19, 3), (20, 3), (21, 3)] [(4, 6)] [10, 11, 12, 15, 16, 17, 22, 32, 33, 34, 35, 36, 37, 38, 39, 40] [13, 14] t (uJ t_24 4 6 v_28) := frA_J hfr 4 6 _ rfl
        refine lv_aload_n C.1 C.2.1 dX2_advance_222 rfl (lv_at hl 0 rfl) ?_
        refine k_get (v := .ref (ad 3)) C hP 4 rfl rfl inlX2 2 (by decide) m_4_19 rfl dX2_advance_223 ?_
        refine lv_aload_n C.1 C.2.1 dX2_advance_226 rfl (lv_at hl 0 rfl) ?_
        refine k_get (v := .long v_28) C hP 4 rfl rfl inlX2 6 (by decide) m_11_7 rfl dX2_advance_227 ?_
        refine hz_Vv (As := [.long v_28]) (rest := []) C hP hD hS hA (T_X10_settle l D K Z Y ad d_26 (uJ t_24 4 6 v_28) hok (v_28)) hE hZ (uwV m_46_12 m_46_13 m_46_14 m_1_20 m_46_15) (hdV 1 (by decide +kernel) rfl) ⟨Nat.le_of_ble_eq_true rfl, Nat.le_of_ble_eq_true rfl⟩ rfl rfl (ci := 9) (q0 := 3) rfl rfl rfl hl.1 (Nat.le_of_ble_eq_true rfl) dX2_advance_230 ⟨Nat.le_trans (newC_le _ _) (Nat.le_of_ble_eq_true rfl), (Nat.le_of_ble_eq_true rfl)⟩ (fun t_30 H locs hw hP hD hS => ?_)
        obtain ⟨hok, f_32⟩ := hw
        have hfr : frA [(3, 8), (4, 3), (4, 4), (4, 5), (4, 8), (4, 10), (4, 11), (4, 12), (4, 13), (4, 14), (4, 15), (18, 1), (18, 3), (19, 3), (20, 3), (21, 3)] [(4, 6)] [10, 11, 12, 15, 16, 17, 22, 32, 33, 34, 35, 36, 37, 38, 39, 40] [13, 14] t t_30 := frA_tr hfr f_32 rfl
        refine lv_iload_n C.1 C.2.1 dX2_advance_233 rfl (lv_at hl 1 rfl) ?_
        refine lv_if_eq (tgt := 258) C.1 C.2.1 dX2_advance_234 (by decide) (fun c_33 => ?_) (fun c_33 => ?_)
        · replace c_33 : w149_1.toInt = 0 := i_eq c_33
          exact L_258 t_30 d_26 w149_1 w149_2 w149_4 r_17 _ _ _ hok hfr hod hle hdf ⟨by omega, by omega⟩ ⟨by omega, by omega⟩ hP hD hS (lv_sub hl [0, 1, 2, 3, 4] rfl)
        · replace c_33 : ¬ w149_1.toInt = 0 := i_ne c_33
          refine lv_aload_n C.1 C.2.1 dX2_advance_237 rfl (lv_at hl 0 rfl) ?_
          refine k_get (v := .ref (ad 10)) C hP 4 rfl rfl inlX2 0 (by decide) m_4_18 rfl dX2_advance_238 ?_
          refine lv_sipush (v := 3989) C.1 C.2.1 dX2_advance_241 (by decide) ?_
          refine lv_aload_n C.1 C.2.1 dX2_advance_244 rfl (lv_at hl 0 rfl) ?_
          refine k_get (v := .ref (ad 10)) C hP 4 rfl rfl inlX2 0 (by decide) m_4_18 rfl dX2_advance_245 ?_
          refine lv_sipush (v := 3989) C.1 C.2.1 dX2_advance_248 (by decide) ?_
          obtain ⟨v_34, e_35⟩ : ∃ z, z = (t_30.2.2.1 10 (3989 : Int32).toNatClampNeg) := ⟨_, rfl⟩
          refine k_ild (v := v_34) C hP 10 rfl (vin (by decide)) e_35.symm dX2_advance_251 ?_
          refine lv_lload C.1 C.2.1 dX2_advance_252 (lv_at hl 3 rfl) ?_
          refine hz_Si (As := [.int v_34, .long w149_4]) (rest := [.int 3989, .ref (ad 10)]) C hP hD hS hA (T_X2_less l D K Z Y ad d_26 t_30 hok (v_34) (w149_4)) hE hZ (uwS m_54_18 m_54_19 m_1_23 m_54_20) (hdS 2 (by decide +kernel) rfl) ⟨Nat.le_of_ble_eq_true rfl, Nat.le_of_ble_eq_true rfl⟩ rfl rfl rfl hl.1 (Nat.le_of_ble_eq_true rfl) dX2_advance_254 ⟨Nat.le_trans (newC_le _ _) (Nat.le_of_ble_eq_true rfl), (Nat.le_of_ble_eq_true rfl)⟩ (fun r_37 t_36 H locs hw hP hD hS => ?_)
          obtain ⟨h_39, h_40⟩ := hw
          refine k_ist (ws' := (WX d_26) K ad (uB t_30 10 (3989 : Int32).toNatClampNeg r_37)) (x' := r_37) C hP hD hS 10 rfl (vin (by decide)) rfl rfl rfl dX2_advance_257 (fun H locs hP hD hS => ?_)
          have hok : okX (uB t_30 10 (3989 : Int32).toNatClampNeg r_37) := ⟨hok.1, okB_B hok.2.1 10 _ r_37 (show (-2147483648 : Int) ≤ (r_37 : Int32).toInt ∧ (r_37 : Int32).toInt ≤ 2147483647 from (i_rng _)), trivial⟩
          have hfr : frA [(3, 8), (4, 3), (4, 4), (4, 5), (4, 8), (4, 10), (4, 11), (4, 12), (4, 13), (4, 14), (4, 15), (18, 1), (18, 3), (19, 3), (20, 3), (21, 3)] [(4, 6)] [10, 11, 12, 15, 16, 17, 22, 32, 33, 34, 35, 36, 37, 38, 39, 40] [13, 14] t (uB t_30 10 (3989 : Int32).toNatClampNeg r_37) := frA_B hfr 10 _ _ rfl
          exact L_258 (uB t_30 10 (3989 : Int32).toNatClampNeg r_37) d_26 w149_1 w149_2 w149_4 r_17 _ _ _ hok hfr hod hle hdf ⟨by omega, by omega⟩ ⟨by omega, by omega⟩ hP hD hS (lv_sub hl [0, 1, 2, 3, 4] rfl)
      · replace c_21 : ¬ r_17.toInt = 0 := i_ne c_21
        refine lv_aload_n C.1 C.2.1 dX2_advance_193 rfl (lv_at hl 0 rfl) ?_
        refine lv_iload C.1 C.2.1 dX2_advance_194 (lv_at hl 4 rfl) ?_
        refine hz_Vv (As := [.int r_17]) (rest := []) C hP hD hS hA (T_X2_stop l D K Z Y ad d1 t1 hok (r_17) (show (0 : Int) ≤ (r_17 : Int32).toInt ∧ (r_17 : Int32).toInt ≤ 7 from ⟨by omega, by omega⟩)) hE hZ (uwV m_46_0 m_46_1 m_46_2 m_1_23 m_46_3) (hdV 1 (by decide +kernel) rfl) ⟨Nat.le_of_ble_eq_true rfl, Nat.le_of_ble_eq_true rfl⟩ rfl rfl (ci := 1) (q0 := 4) rfl rfl rfl hl.1 (Nat.le_of_ble_eq_true rfl) dX2_advance_196 ⟨Nat.le_trans (newC_le _ _) (Nat.le_of_ble_eq_true rfl), (Nat.le_of_ble_eq_true rfl)⟩ (fun t_41 H locs hw hP hD hS => ?_)
        obtain ⟨hok, f_43⟩ := hw
        have hfr : frA [(3, 8), (4, 3), (4, 4), (4, 5), (4, 8), (4, 10), (4, 11), (4, 12), (4, 13), (4, 14), (4, 15), (18, 1), (18, 3), (19, 3), (20, 3), (21, 3)] [(4, 6)] [10, 11, 12, 15, 16, 17, 22, 32, 33, 34, 35, 36, 37, 38, 39, 40] [13, 14] t t_41 := frA_tr hfr f_43 rfl
        refine lv_iconst (v := 0) C.1 C.2.1 dX2_advance_199 (by decide) ?_
        exact g_Diret C hr hlocks hP hD hS (by decide) ⟨hok, hfr, hod, by decide, by decide⟩ hle hdf (Nat.le_of_ble_eq_true rfl) (Nat.le_of_ble_eq_true rfl) dX2_advance_200
    · replace c_15 : 0 < v_12.toInt := i_nle c_15
      refine lv_aload_n C.1 C.2.1 dX2_advance_164 rfl (lv_at hl 0 rfl) ?_
      refine lv_bipush (v := 9) C.1 C.2.1 dX2_advance_165 (by decide) ?_
      refine k_put (ws' := (WX d1) K ad (uI t1 4 8 9)) (v := .int 9) C hP hD hS 4 rfl rfl inlX2 tyX2_ok nmX2 8 (by decide) m_4_17 rfl rfl rfl rfl rfl dX2_advance_167 (fun H locs hP hD hS => ?_)
      have hok : okX (uI t1 4 8 9) := ⟨okI_I hok.1 4 8 9 (show (0 : Int) ≤ (9 : Int32).toInt ∧ (9 : Int32).toInt ≤ 9 from ⟨by decide, by decide⟩), hok.2.1, trivial⟩
      have hfr : frA [(3, 8), (4, 3), (4, 4), (4, 5), (4, 8), (4, 10), (4, 11), (4, 12), (4, 13), (4, 14), (4, 15), (18, 1), (18, 3), (19, 3), (20, 3), (21, 3)] [(4, 6)] [10, 11, 12, 15, 16, 17, 22, 32, 33, 34, 35, 36, 37, 38, 39, 40] [13, 14] t (uI t1 4 8 9) := frA_I hfr 4 8 _ rfl
      refine lv_aload_n C.1 C.2.1 dX2_advance_170 rfl (lv_at hl 0 rfl) ?_
      refine k_get (v := .ref (ad 3)) C hP 4 rfl rfl inlX2 2 (by decide) m_4_19 rfl dX2_advance_171 ?_
      refine lv_ldc2 (v := 1152921504606846976) C.1 C.2.1 C.2.2.2.1 (C.2.2.2.2.1 _ m_28_16) dX2_advance_174 ?_
      refine hz_Vv (As := [.long 1152921504606846976]) (rest := []) C hP hD hS hA (T_X10_settle l D K Z Y ad d1 (uI t1 4 8 9) hok 1152921504606846976) hE hZ (uwV m_46_12 m_46_13 m_46_14 m_1_20 m_46_15) (hdV 1 (by decide +kernel) rfl) ⟨Nat.le_of_ble_eq_true rfl, Nat.le_of_ble_eq_true rfl⟩ rfl rfl (ci := 9) (q0 := 3) rfl rfl rfl hl.1 (Nat.le_of_ble_eq_true rfl) dX2_advance_177 ⟨Nat.le_trans (newC_le _ _) (Nat.le_of_ble_eq_true rfl), (Nat.le_of_ble_eq_true rfl)⟩ (fun t_44 H locs hw hP hD hS => ?_)
      obtain ⟨hok, f_46⟩ := hw
      have hfr : frA [(3, 8), (4, 3), (4, 4), (4, 5), (4, 8), (4, 10), (4, 11), (4, 12), (4, 13), (4, 14), (4, 15), (18, 1), (18, 3), (19, 3), (20, 3), (21, 3)] [(4, 6)] [10, 11, 12, 15, 16, 17, 22, 32, 33, 34, 35, 36, 37, 38, 39, 40] [13, 14] t t_44 := frA_tr hfr f_46 rfl
      have h_47 : (t_44.1 4 8).toInt = 9 := by rw [show (t_44.1 4 8) = (9 : Int32) from f_46.1 4 8 rfl]; rfl
      refine lv_iconst (v := 0) C.1 C.2.1 dX2_advance_180 (by decide) ?_
      exact g_Diret C hr hlocks hP hD hS (by decide) ⟨hok, hfr, hod, by decide, by decide⟩ hle hdf (Nat.le_of_ble_eq_true rfl) (Nat.le_of_ble_eq_true rfl) dX2_advance_181
  have L_109 : ∀ (t1 : tSt) (d1 : dSt) (w109_1 : Int32) (k109_0 : Int64) (H : Heap) (locs : List Loc) (ls : Array Slot), okX t1 → frA [(3, 8), (4, 3), (4, 4), (4, 5), (4, 8), (4, 10), (4, 11), (4, 12), (4, 13), (4, 14), (4, 15), (18, 1), (18, 3), (19, 3), (20, 3), (21, 3)] [(4, 6)] [10, 11, 12, 15, 16, 17, 22, 32, 33, 34, 35, 36, 37, 38, 39, 40] [13, 14] t t1 → okD d1 → dLe d d1 → dFr s.heap.size d d1 → (0 : Int) ≤ w109_1.toInt ∧ w109_1.toInt ≤ 1 → va_P D vwCl ((WX d1) K ad t1) H → va_D A ((WX d1) K ad t1) → va_S A s.heap H locs → lv_has ls 7 [(0, .ref (ad 4)), (1, .int w109_1)] → W p l e (rmD 10 11000 3080000) s m [.ref (ad 4)].toArray below meth c H locs (newC d d1) 246800 (MQ below (QDI D K ad d (fun (r : Int32) (u : tSt) (dd : dSt) => okX u ∧ frA [(3, 8), (4, 3), (4, 4), (4, 5), (4, 8), (4, 10), (4, 11), (4, 12), (4, 13), (4, 14), (4, 15), (18, 1), (18, 3), (19, 3), (20, 3), (21, 3)] [(4, 6)] [10, 11, 12, 15, 16, 17, 22, 32, 33, 34, 35, 36, 37, 38, 39, 40] [13, 14] t u ∧ okD dd ∧ (0 : Int) ≤ r.toInt ∧ r.toInt ≤ 1) s.heap.size A) [.ref (ad 4)].toArray s 11000 3080000 A) (F0 m 109 ls [.long k109_0]) := by
    intro t1 d1 w109_1 k109_0 H locs ls hok hfr hod hle hdf hw109_1 hP hD hS hl
    refine lv_lstore_n (lv' := [(2, .long k109_0), (0, .ref (ad 4)), (1, .int w109_1)]) C.1 C.2.1 dX2_advance_109 rfl hl (by decide) rfl (fun ls hl => ?_)
    have hl : lv_has ls 7 [(0, .ref (ad 4)), (1, .int w109_1), (2, .long k109_0)] := lv_sub hl [1, 2, 0] rfl
    refine lv_aload_n C.1 C.2.1 dX2_advance_110 rfl (lv_at hl 0 rfl) ?_
    refine hz_Vi (As := []) (rest := []) C hP hD hS hA (T_X2_cost l D K Z Y ad d1 t1 hok ) hE hZ (uwV m_48_3 m_48_4 m_48_5 m_1_23 m_48_6) (hdV 0 (by decide +kernel) rfl) ⟨Nat.le_of_ble_eq_true rfl, Nat.le_of_ble_eq_true rfl⟩ rfl rfl (ci := 1) (q0 := 4) rfl rfl rfl hl.1 (Nat.le_of_ble_eq_true rfl) dX2_advance_111 ⟨Nat.le_trans (newC_le _ _) (Nat.le_of_ble_eq_true rfl), (Nat.le_of_ble_eq_true rfl)⟩ (fun r_49 t_48 H locs hw hP hD hS => ?_)
    obtain ⟨h_51, h_52⟩ := hw
    obtain ⟨v_53, e_54⟩ : ∃ z, z = (r_49 : Int32).toInt64 := ⟨_, rfl⟩
    have h_55 : v_53.toInt = r_49.toInt := by rw [e_54]; exact Jvm.Kit.i64_of_i32 _
    refine lv_i2l (v := v_53) C.1 C.2.1 dX2_advance_114 e_54.symm ?_
    refine lv_lload_n C.1 C.2.1 dX2_advance_115 rfl (lv_at hl 2 rfl) ?_
    obtain ⟨v_56, e_57⟩ : ∃ z, z = (v_53 : Int64) + (k109_0 : Int64) := ⟨_, rfl⟩
    refine k_ladd (v := v_56) C e_57.symm dX2_advance_116 ?_
    refine lv_lstore (lv' := [(4, .long v_56), (0, .ref (ad 4)), (1, .int w109_1), (2, .long k109_0)]) C.1 C.2.1 dX2_advance_117 hl (by decide) rfl (fun ls hl => ?_)
    have hl : lv_has ls 7 [(0, .ref (ad 4)), (1, .int w109_1), (2, .long k109_0), (4, .long v_56)] := lv_sub hl [1, 2, 3, 0] rfl
    refine lv_iload_n C.1 C.2.1 dX2_advance_119 rfl (lv_at hl 1 rfl) ?_
    refine lv_if_eq (tgt := 149) C.1 C.2.1 dX2_advance_120 (by decide) (fun c_58 => ?_) (fun c_58 => ?_)
    · replace c_58 : w109_1.toInt = 0 := i_eq c_58
      exact L_149 t1 d1 w109_1 k109_0 v_56 _ _ _ hok hfr hod hle hdf ⟨by omega, by omega⟩ hP hD hS (lv_sub hl [0, 1, 2, 3] rfl)
    · replace c_58 : ¬ w109_1.toInt = 0 := i_ne c_58
      refine lv_lload C.1 C.2.1 dX2_advance_123 (lv_at hl 3 rfl) ?_
      refine lv_aload_n C.1 C.2.1 dX2_advance_125 rfl (lv_at hl 0 rfl) ?_
      refine k_get (v := .ref (ad 10)) C hP 4 rfl rfl inlX2 0 (by decide) m_4_18 rfl dX2_advance_126 ?_
      refine lv_sipush (v := 3989) C.1 C.2.1 dX2_advance_129 (by decide) ?_
      obtain ⟨v_59, e_60⟩ : ∃ z, z = (t1.2.2.1 10 (3989 : Int32).toNatClampNeg) := ⟨_, rfl⟩
      refine k_ild (v := v_59) C hP 10 rfl (vin (by decide)) e_60.symm dX2_advance_132 ?_
      refine hz_Si (As := [.int v_59]) (rest := [.long v_56]) C hP hD hS hA (T_X1_value l D K Z Y ad d1 t1 hok (v_59)) hE hZ (uwS m_47_19 m_23_9 m_14_2 m_23_10) (hdS 1 (by decide +kernel) rfl) ⟨Nat.le_of_ble_eq_true rfl, Nat.le_of_ble_eq_true rfl⟩ rfl rfl rfl hl.1 (Nat.le_of_ble_eq_true rfl) dX2_advance_133 ⟨Nat.le_trans (newC_le _ _) (Nat.le_of_ble_eq_true rfl), (Nat.le_of_ble_eq_true rfl)⟩ (fun r_62 t_61 H locs hw hP hD hS => ?_)
      obtain ⟨h_64, h_65⟩ := hw
      obtain ⟨v_66, e_67⟩ : ∃ z, z = (r_62 : Int32).toInt64 := ⟨_, rfl⟩
      have h_68 : v_66.toInt = r_62.toInt := by rw [e_67]; exact Jvm.Kit.i64_of_i32 _
      refine lv_i2l (v := v_66) C.1 C.2.1 dX2_advance_136 e_67.symm ?_
      obtain ⟨v_69, e_70⟩ : ∃ z, z = lg_cmp (v_56 : Int64) v_66 := ⟨_, rfl⟩
      have h_71 : (-1 : Int) ≤ v_69.toInt ∧ v_69.toInt ≤ 1 := by rw [e_70]; exact cmp_rng _ _
      refine k_lcmp (v := v_69) C e_70.symm dX2_advance_137 ?_
      refine lv_if_le (tgt := 149) C.1 C.2.1 dX2_advance_138 (by decide) (fun c_72 => ?_) (fun c_72 => ?_)
      · replace c_72 : v_69.toInt ≤ 0 := i_le c_72
        exact L_149 t1 d1 w109_1 k109_0 v_56 _ _ _ hok hfr hod hle hdf ⟨by omega, by omega⟩ hP hD hS (lv_sub hl [0, 1, 2, 3] rfl)
      · replace c_72 : 0 < v_69.toInt := i_nle c_72
        refine lv_aload_n C.1 C.2.1 dX2_advance_141 rfl (lv_at hl 0 rfl) ?_
        refine lv_bipush (v := 9) C.1 C.2.1 dX2_advance_142 (by decide) ?_
        refine hz_Vv (As := [.int 9]) (rest := []) C hP hD hS hA (T_X2_interrupt l D K Z Y ad d1 t1 hok 9 (show (0 : Int) ≤ (9 : Int32).toInt ∧ (9 : Int32).toInt ≤ 9 from ⟨by decide, by decide⟩)) hE hZ (uwV m_46_4 m_46_5 m_46_6 m_1_23 m_46_7) (hdV 1 (by decide +kernel) rfl) ⟨Nat.le_of_ble_eq_true rfl, Nat.le_of_ble_eq_true rfl⟩ rfl rfl (ci := 1) (q0 := 4) rfl rfl rfl hl.1 (Nat.le_of_ble_eq_true rfl) dX2_advance_144 ⟨Nat.le_trans (newC_le _ _) (Nat.le_of_ble_eq_true rfl), (Nat.le_of_ble_eq_true rfl)⟩ (fun t_73 H locs hw hP hD hS => ?_)
        obtain ⟨hok, f_75⟩ := hw
        have hfr : frA [(3, 8), (4, 3), (4, 4), (4, 5), (4, 8), (4, 10), (4, 11), (4, 12), (4, 13), (4, 14), (4, 15), (18, 1), (18, 3), (19, 3), (20, 3), (21, 3)] [(4, 6)] [10, 11, 12, 15, 16, 17, 22, 32, 33, 34, 35, 36, 37, 38, 39, 40] [13, 14] t t_73 := frA_tr hfr f_75 rfl
        refine lv_iconst (v := 0) C.1 C.2.1 dX2_advance_147 (by decide) ?_
        exact g_Diret C hr hlocks hP hD hS (by decide) ⟨hok, hfr, hod, by decide, by decide⟩ hle hdf (Nat.le_of_ble_eq_true rfl) (Nat.le_of_ble_eq_true rfl) dX2_advance_148
  have L_108 : ∀ (t1 : tSt) (d1 : dSt) (w108_1 : Int32) (H : Heap) (locs : List Loc) (ls : Array Slot), okX t1 → frA [(3, 8), (4, 3), (4, 4), (4, 5), (4, 8), (4, 10), (4, 11), (4, 12), (4, 13), (4, 14), (4, 15), (18, 1), (18, 3), (19, 3), (20, 3), (21, 3)] [(4, 6)] [10, 11, 12, 15, 16, 17, 22, 32, 33, 34, 35, 36, 37, 38, 39, 40] [13, 14] t t1 → okD d1 → dLe d d1 → dFr s.heap.size d d1 → (0 : Int) ≤ w108_1.toInt ∧ w108_1.toInt ≤ 1 → va_P D vwCl ((WX d1) K ad t1) H → va_D A ((WX d1) K ad t1) → va_S A s.heap H locs → lv_has ls 7 [(0, .ref (ad 4)), (1, .int w108_1)] → W p l e (rmD 10 11000 3080000) s m [.ref (ad 4)].toArray below meth c H locs (newC d d1) 246800 (MQ below (QDI D K ad d (fun (r : Int32) (u : tSt) (dd : dSt) => okX u ∧ frA [(3, 8), (4, 3), (4, 4), (4, 5), (4, 8), (4, 10), (4, 11), (4, 12), (4, 13), (4, 14), (4, 15), (18, 1), (18, 3), (19, 3), (20, 3), (21, 3)] [(4, 6)] [10, 11, 12, 15, 16, 17, 22, 32, 33, 34, 35, 36, 37, 38, 39, 40] [13, 14] t u ∧ okD dd ∧ (0 : Int) ≤ r.toInt ∧ r.toInt ≤ 1) s.heap.size A) [.ref (ad 4)].toArray s 11000 3080000 A) (F0 m 108 ls []) := by
    intro t1 d1 w108_1 H locs ls hok hfr hod hle hdf hw108_1 hP hD hS hl
    refine lv_lconst (v := 0) C.1 C.2.1 dX2_advance_108 (by decide) ?_
    exact L_109 t1 d1 w108_1 0 _ _ _ hok hfr hod hle hdf ⟨by omega, by omega⟩ hP hD hS (lv_sub hl [0, 1] rfl)
  have L_71 : ∀ (t1 : tSt) (d1 : dSt) (k71_0 : Int32) (H : Heap) (locs : List Loc) (ls : Array Slot), okX t1 → frA [(3, 8), (4, 3), (4, 4), (4, 5), (4, 8), (4, 10), (4, 11), (4, 12), (4, 13), (4, 14), (4, 15), (18, 1), (18, 3), (19, 3), (20, 3), (21, 3)] [(4, 6)] [10, 11, 12, 15, 16, 17, 22, 32, 33, 34, 35, 36, 37, 38, 39, 40] [13, 14] t t1 → okD d1 → dLe d d1 → dFr s.heap.size d d1 → (0 : Int) ≤ k71_0.toInt ∧ k71_0.toInt ≤ 1 → va_P D vwCl ((WX d1) K ad t1) H → va_D A ((WX d1) K ad t1) → va_S A s.heap H locs → lv_has ls 7 [(0, .ref (ad 4))] → W p l e (rmD 10 11000 3080000) s m [.ref (ad 4)].toArray below meth c H locs (newC d d1) 246800 (MQ below (QDI D K ad d (fun (r : Int32) (u : tSt) (dd : dSt) => okX u ∧ frA [(3, 8), (4, 3), (4, 4), (4, 5), (4, 8), (4, 10), (4, 11), (4, 12), (4, 13), (4, 14), (4, 15), (18, 1), (18, 3), (19, 3), (20, 3), (21, 3)] [(4, 6)] [10, 11, 12, 15, 16, 17, 22, 32, 33, 34, 35, 36, 37, 38, 39, 40] [13, 14] t u ∧ okD dd ∧ (0 : Int) ≤ r.toInt ∧ r.toInt ≤ 1) s.heap.size A) [.ref (ad 4)].toArray s 11000 3080000 A) (F0 m 71 ls [.int k71_0]) := by
    intro t1 d1 k71_0 H locs ls hok hfr hod hle hdf hk71_0 hP hD hS hl
    refine lv_istore_n (lv' := [(1, .int k71_0), (0, .ref (ad 4))]) C.1 C.2.1 dX2_advance_71 rfl hl (by decide) rfl (fun ls hl => ?_)
    have hl : lv_has ls 7 [(0, .ref (ad 4)), (1, .int k71_0)] := lv_sub hl [1, 0] rfl
    refine lv_aload_n C.1 C.2.1 dX2_advance_72 rfl (lv_at hl 0 rfl) ?_
    have h_76 : (0 : Int) ≤ (t1.1 4 13).toInt ∧ (t1.1 4 13).toInt ≤ 63 := hok.1 4 13
    refine k_get (v := .int (t1.1 4 13)) C hP 4 rfl rfl inlX2 13 (by decide) m_45_18 rfl dX2_advance_73 ?_
    refine lv_bipush (v := 35) C.1 C.2.1 dX2_advance_76 (by decide) ?_
    refine lv_icmp_lt (tgt := 108) C.1 C.2.1 dX2_advance_78 (by decide) (fun c_77 => ?_) (fun c_77 => ?_)
    · replace c_77 : (t1.1 4 13).toInt < 35 := i_lt c_77
      exact L_108 t1 d1 k71_0 _ _ _ hok hfr hod hle hdf ⟨by omega, by omega⟩ hP hD hS (lv_sub hl [0, 1] rfl)
    · replace c_77 : 35 ≤ (t1.1 4 13).toInt := i_nlt c_77
      refine lv_aload_n C.1 C.2.1 dX2_advance_81 rfl (lv_at hl 0 rfl) ?_
      refine k_get (v := .int (t1.1 4 13)) C hP 4 rfl rfl inlX2 13 (by decide) m_45_18 rfl dX2_advance_82 ?_
      refine lv_bipush (v := 37) C.1 C.2.1 dX2_advance_85 (by decide) ?_
      refine lv_icmp_gt (tgt := 108) C.1 C.2.1 dX2_advance_87 (by decide) (fun c_78 => ?_) (fun c_78 => ?_)
      · replace c_78 : 37 < (t1.1 4 13).toInt := i_lt c_78
        exact L_108 t1 d1 k71_0 _ _ _ hok hfr hod hle hdf ⟨by omega, by omega⟩ hP hD hS (lv_sub hl [0, 1] rfl)
      · replace c_78 : (t1.1 4 13).toInt ≤ 37 := i_nlt c_78
        refine lv_aload_n C.1 C.2.1 dX2_advance_90 rfl (lv_at hl 0 rfl) ?_
        refine k_get (v := .ref (ad 3)) C hP 4 rfl rfl inlX2 2 (by decide) m_4_19 rfl dX2_advance_91 ?_
        refine lv_aload_n C.1 C.2.1 dX2_advance_94 rfl (lv_at hl 0 rfl) ?_
        have h_79 : (0 : Int) ≤ (t1.1 4 14).toInt ∧ (t1.1 4 14).toInt ≤ 63 := hok.1 4 14
        refine k_get (v := .int (t1.1 4 14)) C hP 4 rfl rfl inlX2 14 (by decide) m_45_19 rfl dX2_advance_95 ?_
        refine lv_aload_n C.1 C.2.1 dX2_advance_98 rfl (lv_at hl 0 rfl) ?_
        refine k_get (v := .long (t1.2.1 4 6)) C hP 4 rfl rfl inlX2 6 (by decide) m_11_7 rfl dX2_advance_99 ?_
        refine hz_Vl (As := [.int (t1.1 4 14), .long (t1.2.1 4 6)]) (rest := []) C hP hD hS hA (T_X10_waiting l D K Z Y ad d1 t1 hok ((t1.1 4 14)) (show (0 : Int) ≤ ((t1.1 4 14) : Int32).toInt ∧ ((t1.1 4 14) : Int32).toInt ≤ 63 from ⟨by omega, by omega⟩) ((t1.2.1 4 6))) hE hZ (uwV m_47_20 m_47_21 m_47_22 m_1_20 m_47_23) (hdV 2 (by decide +kernel) rfl) ⟨Nat.le_of_ble_eq_true rfl, Nat.le_of_ble_eq_true rfl⟩ rfl rfl (ci := 9) (q0 := 3) rfl rfl rfl hl.1 (Nat.le_of_ble_eq_true rfl) dX2_advance_102 ⟨Nat.le_trans (newC_le _ _) (Nat.le_of_ble_eq_true rfl), (Nat.le_of_ble_eq_true rfl)⟩ (fun r_81 t_80 H locs hw hP hD hS => ?_)
        refine lv_goto (tgt := 109) C.1 C.2.1 dX2_advance_105 (by decide) ?_
        exact L_109 t1 d1 k71_0 r_81 _ _ _ hok hfr hod hle hdf ⟨by omega, by omega⟩ hP hD hS (lv_sub hl [0, 1] rfl)
  have L_70 : ∀ (t1 : tSt) (d1 : dSt) (H : Heap) (locs : List Loc) (ls : Array Slot), okX t1 → frA [(3, 8), (4, 3), (4, 4), (4, 5), (4, 8), (4, 10), (4, 11), (4, 12), (4, 13), (4, 14), (4, 15), (18, 1), (18, 3), (19, 3), (20, 3), (21, 3)] [(4, 6)] [10, 11, 12, 15, 16, 17, 22, 32, 33, 34, 35, 36, 37, 38, 39, 40] [13, 14] t t1 → okD d1 → dLe d d1 → dFr s.heap.size d d1 → va_P D vwCl ((WX d1) K ad t1) H → va_D A ((WX d1) K ad t1) → va_S A s.heap H locs → lv_has ls 7 [(0, .ref (ad 4))] → W p l e (rmD 10 11000 3080000) s m [.ref (ad 4)].toArray below meth c H locs (newC d d1) 246800 (MQ below (QDI D K ad d (fun (r : Int32) (u : tSt) (dd : dSt) => okX u ∧ frA [(3, 8), (4, 3), (4, 4), (4, 5), (4, 8), (4, 10), (4, 11), (4, 12), (4, 13), (4, 14), (4, 15), (18, 1), (18, 3), (19, 3), (20, 3), (21, 3)] [(4, 6)] [10, 11, 12, 15, 16, 17, 22, 32, 33, 34, 35, 36, 37, 38, 39, 40] [13, 14] t u ∧ okD dd ∧ (0 : Int) ≤ r.toInt ∧ r.toInt ≤ 1) s.heap.size A) [.ref (ad 4)].toArray s 11000 3080000 A) (F0 m 70 ls []) := by
    intro t1 d1 H locs ls hok hfr hod hle hdf hP hD hS hl
    refine lv_iconst (v := 0) C.1 C.2.1 dX2_advance_70 (by decide) ?_
    exact L_71 t1 d1 0 _ _ _ hok hfr hod hle hdf ⟨by decide, by decide⟩ hP hD hS (lv_sub hl [0] rfl)
  refine lv_aload_n C.1 C.2.1 dX2_advance_0 rfl (lv_at hl 0 rfl) ?_
  refine lv_aload_n C.1 C.2.1 dX2_advance_1 rfl (lv_at hl 0 rfl) ?_
  refine k_get (v := .int (t.1 4 5)) C hP 4 rfl rfl inlX2 5 (by decide) m_11_6 rfl dX2_advance_2 ?_
  refine hz_Vi (As := [.int (t.1 4 5)]) (rest := []) C hP hD hS hA (T_X2_isAddress l D K Z Y ad d t hok ((t.1 4 5))) hE hZ (uwV m_45_20 m_45_21 m_45_22 m_1_23 m_45_23) (hdV 1 (by decide +kernel) rfl) ⟨Nat.le_of_ble_eq_true rfl, Nat.le_of_ble_eq_true rfl⟩ rfl rfl (ci := 1) (q0 := 4) rfl rfl rfl hl.1 (Nat.le_of_ble_eq_true rfl) dX2_advance_5 ⟨Nat.le_trans (newC_le _ _) (Nat.le_of_ble_eq_true rfl), (Nat.le_of_ble_eq_true rfl)⟩ (fun r_84 t_83 H locs hw hP hD hS => ?_)
  obtain ⟨h_86, h_87⟩ := hw
  refine lv_if_ne (tgt := 18) C.1 C.2.1 dX2_advance_8 (by decide) (fun c_88 => ?_) (fun c_88 => ?_)
  · replace c_88 : ¬ r_84.toInt = 0 := i_ne c_88
    refine lv_aload_n C.1 C.2.1 dX2_advance_18 rfl (lv_at hl 0 rfl) ?_
    refine lv_aload_n C.1 C.2.1 dX2_advance_19 rfl (lv_at hl 0 rfl) ?_
    refine k_get (v := .int (t.1 4 5)) C hP 4 rfl rfl inlX2 5 (by decide) m_11_6 rfl dX2_advance_20 ?_
    refine k_put (ws' := (WX d) K ad (uI t 4 12 (t.1 4 5))) (v := .int (t.1 4 5)) C hP hD hS 4 rfl rfl inlX2 tyX2_ok nmX2 12 (by decide) m_45_16 rfl rfl rfl rfl rfl dX2_advance_23 (fun H locs hP hD hS => ?_)
    have hok : okX (uI t 4 12 (t.1 4 5)) := ⟨okI_I hok.1 4 12 (t.1 4 5) (show (-2147483648 : Int) ≤ ((t.1 4 5) : Int32).toInt ∧ ((t.1 4 5) : Int32).toInt ≤ 2147483647 from (i_rng _)), hok.2.1, trivial⟩
    have hfr : frA [(3, 8), (4, 3), (4, 4), (4, 5), (4, 8), (4, 10), (4, 11), (4, 12), (4, 13), (4, 14), (4, 15), (18, 1), (18, 3), (19, 3), (20, 3), (21, 3)] [(4, 6)] [10, 11, 12, 15, 16, 17, 22, 32, 33, 34, 35, 36, 37, 38, 39, 40] [13, 14] t (uI t 4 12 (t.1 4 5)) := frA_I hfr 4 12 _ rfl
    refine lv_aload_n C.1 C.2.1 dX2_advance_26 rfl (lv_at hl 0 rfl) ?_
    refine lv_aload_n C.1 C.2.1 dX2_advance_27 rfl (lv_at hl 0 rfl) ?_
    refine lv_aload_n C.1 C.2.1 dX2_advance_28 rfl (lv_at hl 0 rfl) ?_
    refine k_get (v := .int (t.1 4 5)) C hP 4 rfl rfl inlX2 5 (by decide) m_11_6 rfl dX2_advance_29 ?_
    refine hz_Vi (As := [.int (t.1 4 5)]) (rest := [.ref (ad 4)]) C hP hD hS hA (T_X2_load l D K Z Y ad d (uI t 4 12 (t.1 4 5)) hok ((t.1 4 5))) hE hZ (uwV m_47_3 m_47_4 m_47_5 m_1_23 m_47_6) (hdV 1 (by decide +kernel) rfl) ⟨Nat.le_of_ble_eq_true rfl, Nat.le_of_ble_eq_true rfl⟩ rfl rfl (ci := 1) (q0 := 4) rfl rfl rfl hl.1 (Nat.le_of_ble_eq_true rfl) dX2_advance_32 ⟨Nat.le_trans (newC_le _ _) (Nat.le_of_ble_eq_true rfl), (Nat.le_of_ble_eq_true rfl)⟩ (fun r_90 t_89 H locs hw hP hD hS => ?_)
    obtain ⟨h_92, h_93⟩ := hw
    refine k_put (ws' := (WX d) K ad (uI (uI t 4 12 (t.1 4 5)) 4 11 r_90)) (v := .int r_90) C hP hD hS 4 rfl rfl inlX2 tyX2_ok nmX2 11 (by decide) m_45_17 rfl rfl rfl rfl rfl dX2_advance_35 (fun H locs hP hD hS => ?_)
    have hok : okX (uI (uI t 4 12 (t.1 4 5)) 4 11 r_90) := ⟨okI_I hok.1 4 11 r_90 (show (-2147483648 : Int) ≤ (r_90 : Int32).toInt ∧ (r_90 : Int32).toInt ≤ 2147483647 from (i_rng _)), hok.2.1, trivial⟩
    have hfr : frA [(3, 8), (4, 3), (4, 4), (4, 5), (4, 8), (4, 10), (4, 11), (4, 12), (4, 13), (4, 14), (4, 15), (18, 1), (18, 3), (19, 3), (20, 3), (21, 3)] [(4, 6)] [10, 11, 12, 15, 16, 17, 22, 32, 33, 34, 35, 36, 37, 38, 39, 40] [13, 14] t (uI (uI t 4 12 (t.1 4 5)) 4 11 r_90) := frA_I hfr 4 11 _ rfl
    refine lv_aload_n C.1 C.2.1 dX2_advance_38 rfl (lv_at hl 0 rfl) ?_
    refine hz_Vi (As := []) (rest := []) C hP hD hS hA (T_X2_decode l D K Z Y ad d (uI (uI t 4 12 (t.1 4 5)) 4 11 r_90) hok ) hE hZ (uwV m_47_7 m_47_8 m_47_9 m_1_23 m_47_10) (hdV 0 (by decide +kernel) rfl) ⟨Nat.le_of_ble_eq_true rfl, Nat.le_of_ble_eq_true rfl⟩ rfl rfl (ci := 1) (q0 := 4) rfl rfl rfl hl.1 (Nat.le_of_ble_eq_true rfl) dX2_advance_39 ⟨Nat.le_trans (newC_le _ _) (Nat.le_of_ble_eq_true rfl), (Nat.le_of_ble_eq_true rfl)⟩ (fun r_95 t_94 H locs hw hP hD hS => ?_)
    obtain ⟨hok, f_96, h_97, h_98⟩ := hw
    have hfr : frA [(3, 8), (4, 3), (4, 4), (4, 5), (4, 8), (4, 10), (4, 11), (4, 12), (4, 13), (4, 14), (4, 15), (18, 1), (18, 3), (19, 3), (20, 3), (21, 3)] [(4, 6)] [10, 11, 12, 15, 16, 17, 22, 32, 33, 34, 35, 36, 37, 38, 39, 40] [13, 14] t t_94 := frA_tr hfr f_96 rfl
    have h_99 : (t_94.1 4 5).toInt = (t.1 4 5).toInt := ti_eq (f_96.1 4 5 rfl)
    have h_100 : (t_94.1 4 12).toInt = (t.1 4 5).toInt := ti_eq (f_96.1 4 12 rfl)
    have h_101 : (t_94.1 4 11).toInt = r_90.toInt := ti_eq (f_96.1 4 11 rfl)
    refine lv_if_ne (tgt := 52) C.1 C.2.1 dX2_advance_42 (by decide) (fun c_102 => ?_) (fun c_102 => ?_)
    · replace c_102 : ¬ r_95.toInt = 0 := i_ne c_102
      refine lv_aload_n C.1 C.2.1 dX2_advance_52 rfl (lv_at hl 0 rfl) ?_
      have h_103 : (0 : Int) ≤ (t_94.1 4 9).toInt ∧ (t_94.1 4 9).toInt ≤ 1 := hok.1 4 9
      refine k_get (v := .int (t_94.1 4 9)) C hP 4 rfl rfl inlX2 9 (by decide) m_11_8 rfl dX2_advance_53 ?_
      refine lv_if_eq (tgt := 70) C.1 C.2.1 dX2_advance_56 (by decide) (fun c_104 => ?_) (fun c_104 => ?_)
      · replace c_104 : (t_94.1 4 9).toInt = 0 := i_eq c_104
        exact L_70 t_94 d _ _ _ hok hfr hod hle hdf hP hD hS (lv_sub hl [0] rfl)
      · replace c_104 : ¬ (t_94.1 4 9).toInt = 0 := i_ne c_104
        refine lv_aload_n C.1 C.2.1 dX2_advance_59 rfl (lv_at hl 0 rfl) ?_
        have h_105 : (0 : Int) ≤ (t_94.1 4 10).toInt ∧ (t_94.1 4 10).toInt ≤ 1 := hok.1 4 10
        refine k_get (v := .int (t_94.1 4 10)) C hP 4 rfl rfl inlX2 10 (by decide) m_11_9 rfl dX2_advance_60 ?_
        refine lv_if_ne (tgt := 70) C.1 C.2.1 dX2_advance_63 (by decide) (fun c_106 => ?_) (fun c_106 => ?_)
        · replace c_106 : ¬ (t_94.1 4 10).toInt = 0 := i_ne c_106
          exact L_70 t_94 d _ _ _ hok hfr hod hle hdf hP hD hS (lv_sub hl [0] rfl)
        · replace c_106 : (t_94.1 4 10).toInt = 0 := i_eq c_106
          refine lv_iconst (v := 1) C.1 C.2.1 dX2_advance_66 (by decide) ?_
          refine lv_goto (tgt := 71) C.1 C.2.1 dX2_advance_67 (by decide) ?_
          exact L_71 t_94 d 1 _ _ _ hok hfr hod hle hdf ⟨by decide, by decide⟩ hP hD hS (lv_sub hl [0] rfl)
    · replace c_102 : r_95.toInt = 0 := i_eq c_102
      refine lv_aload_n C.1 C.2.1 dX2_advance_45 rfl (lv_at hl 0 rfl) ?_
      refine lv_iconst (v := 1) C.1 C.2.1 dX2_advance_46 (by decide) ?_
      refine hz_Vv (As := [.int 1]) (rest := []) C hP hD hS hA (T_X2_stop l D K Z Y ad d t_94 hok 1 (show (0 : Int) ≤ (1 : Int32).toInt ∧ (1 : Int32).toInt ≤ 7 from ⟨by decide, by decide⟩)) hE hZ (uwV m_46_0 m_46_1 m_46_2 m_1_23 m_46_3) (hdV 1 (by decide +kernel) rfl) ⟨Nat.le_of_ble_eq_true rfl, Nat.le_of_ble_eq_true rfl⟩ rfl rfl (ci := 1) (q0 := 4) rfl rfl rfl hl.1 (Nat.le_of_ble_eq_true rfl) dX2_advance_47 ⟨Nat.le_trans (newC_le _ _) (Nat.le_of_ble_eq_true rfl), (Nat.le_of_ble_eq_true rfl)⟩ (fun t_107 H locs hw hP hD hS => ?_)
      obtain ⟨hok, f_109⟩ := hw
      have hfr : frA [(3, 8), (4, 3), (4, 4), (4, 5), (4, 8), (4, 10), (4, 11), (4, 12), (4, 13), (4, 14), (4, 15), (18, 1), (18, 3), (19, 3), (20, 3), (21, 3)] [(4, 6)] [10, 11, 12, 15, 16, 17, 22, 32, 33, 34, 35, 36, 37, 38, 39, 40] [13, 14] t t_107 := frA_tr hfr f_109 rfl
      have h_110 : (t_107.1 4 12).toInt = (t_94.1 4 12).toInt := ti_eq (f_109.1 4 12 rfl)
      have h_111 : (t_107.1 4 11).toInt = (t_94.1 4 11).toInt := ti_eq (f_109.1 4 11 rfl)
      refine lv_iconst (v := 0) C.1 C.2.1 dX2_advance_50 (by decide) ?_
      exact g_Diret C hr hlocks hP hD hS (by decide) ⟨hok, hfr, hod, by decide, by decide⟩ hle hdf (Nat.le_of_ble_eq_true rfl) (Nat.le_of_ble_eq_true rfl) dX2_advance_51
  · replace c_88 : r_84.toInt = 0 := i_eq c_88
    refine lv_aload_n C.1 C.2.1 dX2_advance_11 rfl (lv_at hl 0 rfl) ?_
    refine lv_iconst (v := 2) C.1 C.2.1 dX2_advance_12 (by decide) ?_
    refine hz_Vv (As := [.int 2]) (rest := []) C hP hD hS hA (T_X2_stop l D K Z Y ad d t hok 2 (show (0 : Int) ≤ (2 : Int32).toInt ∧ (2 : Int32).toInt ≤ 7 from ⟨by decide, by decide⟩)) hE hZ (uwV m_46_0 m_46_1 m_46_2 m_1_23 m_46_3) (hdV 1 (by decide +kernel) rfl) ⟨Nat.le_of_ble_eq_true rfl, Nat.le_of_ble_eq_true rfl⟩ rfl rfl (ci := 1) (q0 := 4) rfl rfl rfl hl.1 (Nat.le_of_ble_eq_true rfl) dX2_advance_13 ⟨Nat.le_trans (newC_le _ _) (Nat.le_of_ble_eq_true rfl), (Nat.le_of_ble_eq_true rfl)⟩ (fun t_112 H locs hw hP hD hS => ?_)
    obtain ⟨hok, f_114⟩ := hw
    have hfr : frA [(3, 8), (4, 3), (4, 4), (4, 5), (4, 8), (4, 10), (4, 11), (4, 12), (4, 13), (4, 14), (4, 15), (18, 1), (18, 3), (19, 3), (20, 3), (21, 3)] [(4, 6)] [10, 11, 12, 15, 16, 17, 22, 32, 33, 34, 35, 36, 37, 38, 39, 40] [13, 14] t t_112 := frA_tr hfr f_114 rfl
    refine lv_iconst (v := 0) C.1 C.2.1 dX2_advance_16 (by decide) ?_
    exact g_Diret C hr hlocks hP hD hS (by decide) ⟨hok, hfr, hod, by decide, by decide⟩ hle hdf (Nat.le_of_ble_eq_true rfl) (Nat.le_of_ble_eq_true rfl) dX2_advance_17

theorem dX11_runJob_0 : decode cX11_runJob 0 = .ok (.aload_n 0, 1) := by decide +kernel
theorem dX11_runJob_1 : decode cX11_runJob 1 = .ok (.getfield 66, 3) := by decide +kernel
theorem dX11_runJob_102 : decode cX11_runJob 102 = .ok (.iinc 1 1, 3) := by decide +kernel
theorem dX11_runJob_105 : decode cX11_runJob 105 = .ok (.iinc 2 1, 3) := by decide +kernel
theorem dX11_runJob_108 : decode cX11_runJob 108 = .ok (.goto (-45), 3) := by decide +kernel
theorem dX11_runJob_11 : decode cX11_runJob 11 = .ok (.invokevirtual 338, 3) := by decide +kernel
theorem dX11_runJob_111 : decode cX11_runJob 111 = .ok (.aload_n 0, 1) := by decide +kernel
theorem dX11_runJob_112 : decode cX11_runJob 112 = .ok (.getfield 66, 3) := by decide +kernel
theorem dX11_runJob_115 : decode cX11_runJob 115 = .ok (.aload_n 0, 1) := by decide +kernel
theorem dX11_runJob_116 : decode cX11_runJob 116 = .ok (.getfield 44, 3) := by decide +kernel
theorem dX11_runJob_119 : decode cX11_runJob 119 = .ok (.getfield 232, 3) := by decide +kernel
theorem dX11_runJob_122 : decode cX11_runJob 122 = .ok (.putfield 317, 3) := by decide +kernel
theorem dX11_runJob_125 : decode cX11_runJob 125 = .ok (.aload_n 0, 1) := by decide +kernel
theorem dX11_runJob_126 : decode cX11_runJob 126 = .ok (.getfield 44, 3) := by decide +kernel
theorem dX11_runJob_129 : decode cX11_runJob 129 = .ok (.getfield 220, 3) := by decide +kernel
theorem dX11_runJob_132 : decode cX11_runJob 132 = .ok (.iconst 1, 1) := by decide +kernel
theorem dX11_runJob_133 : decode cX11_runJob 133 = .ok (.if_icmp .ne 5, 3) := by decide +kernel
theorem dX11_runJob_136 : decode cX11_runJob 136 = .ok (.iconst 0, 1) := by decide +kernel
theorem dX11_runJob_137 : decode cX11_runJob 137 = .ok (.ireturn, 1) := by decide +kernel
theorem dX11_runJob_138 : decode cX11_runJob 138 = .ok (.aload_n 0, 1) := by decide +kernel
theorem dX11_runJob_139 : decode cX11_runJob 139 = .ok (.getfield 44, 3) := by decide +kernel
theorem dX11_runJob_14 : decode cX11_runJob 14 = .ok (.aload_n 0, 1) := by decide +kernel
theorem dX11_runJob_142 : decode cX11_runJob 142 = .ok (.getfield 220, 3) := by decide +kernel
theorem dX11_runJob_145 : decode cX11_runJob 145 = .ok (.bipush 9, 2) := by decide +kernel
theorem dX11_runJob_147 : decode cX11_runJob 147 = .ok (.if_icmp .ne 7, 3) := by decide +kernel
theorem dX11_runJob_15 : decode cX11_runJob 15 = .ok (.getfield 44, 3) := by decide +kernel
theorem dX11_runJob_150 : decode cX11_runJob 150 = .ok (.iconst 1, 1) := by decide +kernel
theorem dX11_runJob_151 : decode cX11_runJob 151 = .ok (.goto 4, 3) := by decide +kernel
theorem dX11_runJob_154 : decode cX11_runJob 154 = .ok (.iconst 2, 1) := by decide +kernel
theorem dX11_runJob_155 : decode cX11_runJob 155 = .ok (.ireturn, 1) := by decide +kernel
theorem dX11_runJob_18 : decode cX11_runJob 18 = .ok (.aload_n 0, 1) := by decide +kernel
theorem dX11_runJob_19 : decode cX11_runJob 19 = .ok (.getfield 66, 3) := by decide +kernel
theorem dX11_runJob_22 : decode cX11_runJob 22 = .ok (.getfield 320, 3) := by decide +kernel
theorem dX11_runJob_25 : decode cX11_runJob 25 = .ok (.invokevirtual 110, 3) := by decide +kernel
theorem dX11_runJob_28 : decode cX11_runJob 28 = .ok (.aload_n 0, 1) := by decide +kernel
theorem dX11_runJob_29 : decode cX11_runJob 29 = .ok (.getfield 44, 3) := by decide +kernel
theorem dX11_runJob_32 : decode cX11_runJob 32 = .ok (.aload_n 0, 1) := by decide +kernel
theorem dX11_runJob_33 : decode cX11_runJob 33 = .ok (.getfield 66, 3) := by decide +kernel
theorem dX11_runJob_36 : decode cX11_runJob 36 = .ok (.getfield 341, 3) := by decide +kernel
theorem dX11_runJob_39 : decode cX11_runJob 39 = .ok (.i2l, 1) := by decide +kernel
theorem dX11_runJob_4 : decode cX11_runJob 4 = .ok (.aload_n 0, 1) := by decide +kernel
theorem dX11_runJob_40 : decode cX11_runJob 40 = .ok (.putfield 344, 3) := by decide +kernel
theorem dX11_runJob_43 : decode cX11_runJob 43 = .ok (.aload_n 0, 1) := by decide +kernel
theorem dX11_runJob_44 : decode cX11_runJob 44 = .ok (.getfield 66, 3) := by decide +kernel
theorem dX11_runJob_47 : decode cX11_runJob 47 = .ok (.iconst 4, 1) := by decide +kernel
theorem dX11_runJob_48 : decode cX11_runJob 48 = .ok (.invokevirtual 194, 3) := by decide +kernel
theorem dX11_runJob_5 : decode cX11_runJob 5 = .ok (.getfield 44, 3) := by decide +kernel
theorem dX11_runJob_51 : decode cX11_runJob 51 = .ok (.ifCond .eq 7, 3) := by decide +kernel
theorem dX11_runJob_54 : decode cX11_runJob 54 = .ok (.iconst 0, 1) := by decide +kernel
theorem dX11_runJob_55 : decode cX11_runJob 55 = .ok (.goto 5, 3) := by decide +kernel
theorem dX11_runJob_58 : decode cX11_runJob 58 = .ok (.bipush 50, 2) := by decide +kernel
theorem dX11_runJob_60 : decode cX11_runJob 60 = .ok (.istore_n 1, 1) := by decide +kernel
theorem dX11_runJob_61 : decode cX11_runJob 61 = .ok (.iconst 0, 1) := by decide +kernel
theorem dX11_runJob_62 : decode cX11_runJob 62 = .ok (.istore_n 2, 1) := by decide +kernel
theorem dX11_runJob_63 : decode cX11_runJob 63 = .ok (.iload_n 2, 1) := by decide +kernel
theorem dX11_runJob_64 : decode cX11_runJob 64 = .ok (.ldc 146, 2) := by decide +kernel
theorem dX11_runJob_66 : decode cX11_runJob 66 = .ok (.if_icmp .gt 45, 3) := by decide +kernel
theorem dX11_runJob_69 : decode cX11_runJob 69 = .ok (.aload_n 0, 1) := by decide +kernel
theorem dX11_runJob_70 : decode cX11_runJob 70 = .ok (.getfield 44, 3) := by decide +kernel
theorem dX11_runJob_73 : decode cX11_runJob 73 = .ok (.getfield 220, 3) := by decide +kernel
theorem dX11_runJob_76 : decode cX11_runJob 76 = .ok (.ifCond .ne 35, 3) := by decide +kernel
theorem dX11_runJob_79 : decode cX11_runJob 79 = .ok (.aload_n 0, 1) := by decide +kernel
theorem dX11_runJob_8 : decode cX11_runJob 8 = .ok (.getfield 157, 3) := by decide +kernel
theorem dX11_runJob_80 : decode cX11_runJob 80 = .ok (.getfield 44, 3) := by decide +kernel
theorem dX11_runJob_83 : decode cX11_runJob 83 = .ok (.invokevirtual 298, 3) := by decide +kernel
theorem dX11_runJob_86 : decode cX11_runJob 86 = .ok (.ifCond .eq 19, 3) := by decide +kernel
theorem dX11_runJob_89 : decode cX11_runJob 89 = .ok (.iload_n 1, 1) := by decide +kernel
theorem dX11_runJob_90 : decode cX11_runJob 90 = .ok (.bipush 50, 2) := by decide +kernel
theorem dX11_runJob_92 : decode cX11_runJob 92 = .ok (.if_icmp .ge 13, 3) := by decide +kernel
theorem dX11_runJob_95 : decode cX11_runJob 95 = .ok (.aload_n 0, 1) := by decide +kernel
theorem dX11_runJob_96 : decode cX11_runJob 96 = .ok (.getfield 57, 3) := by decide +kernel
theorem dX11_runJob_99 : decode cX11_runJob 99 = .ok (.invokevirtual 299, 3) := by decide +kernel
set_option maxHeartbeats 4000000 in
set_option maxRecDepth 100000 in
theorem T_X11_runJob (l : Launch) (D : va_G) (K : Nat → ClassId) (Z Y : Nat → Nat) (ad : Nat → Nat) (d : dSt) (t : tSt) (hok : okX t) (hod : okD d)  : dMet l yX11_runJob cX11_runJob 3 (some .int) (rmD 11 12000 3360000) D K Z Y [.ref (ad 0)] ((WX d) K ad t) (QDI D K ad d (fun (r : Int32) (u : tSt) (dd : dSt) => okX u ∧ frA [(3, 8), (4, 3), (4, 4), (4, 5), (4, 8), (4, 9), (4, 10), (4, 11), (4, 12), (4, 13), (4, 14), (4, 15), (7, 10), (7, 14), (7, 15), (18, 1), (18, 3), (19, 3), (20, 3), (21, 3)] [(4, 6), (4, 7)] [10, 11, 12, 15, 16, 17, 22, 32, 33, 34, 35, 36, 37, 38, 39, 40] [13, 14] t u ∧ okD dd ∧ (0 : Int) ≤ r.toInt ∧ r.toInt ≤ 2)) 12000 3360000 := by
  refine d_met d RX11 ⟨rfl, by decide +kernel⟩ (Nat.le_of_ble_eq_true rfl) ?_
  intro p e s m below meth c A ls C hE hZ hX hr hlocks hA hP hD hS hl
  have hl : lv_has ls 3 [(0, .ref (ad 0))] := hl
  have hle : dLe d d := dLe_rf
  have hdf : dFr s.heap.size d d := dFr_rf
  have hokt := hok
  have hfr : frA [(3, 8), (4, 3), (4, 4), (4, 5), (4, 8), (4, 9), (4, 10), (4, 11), (4, 12), (4, 13), (4, 14), (4, 15), (7, 10), (7, 14), (7, 15), (18, 1), (18, 3), (19, 3), (20, 3), (21, 3)] [(4, 6), (4, 7)] [10, 11, 12, 15, 16, 17, 22, 32, 33, 34, 35, 36, 37, 38, 39, 40] [13, 14] t t := frA_rf
  have L_111 : ∀ (t1 : tSt) (d1 : dSt) (w111_1 : Int32) (w111_2 : Int32) (H : Heap) (locs : List Loc) (ls : Array Slot), okX t1 → frA [(3, 8), (4, 3), (4, 4), (4, 5), (4, 8), (4, 9), (4, 10), (4, 11), (4, 12), (4, 13), (4, 14), (4, 15), (7, 10), (7, 14), (7, 15), (18, 1), (18, 3), (19, 3), (20, 3), (21, 3)] [(4, 6), (4, 7)] [10, 11, 12, 15, 16, 17, 22, 32, 33, 34, 35, 36, 37, 38, 39, 40] [13, 14] t t1 → okD d1 → dLe d d1 → dFr s.heap.size d d1 → (0 : Int) ≤ w111_1.toInt ∧ w111_1.toInt ≤ 50 → (0 : Int) ≤ w111_2.toInt ∧ w111_2.toInt ≤ 102400 → va_P D vwCl ((WX d1) K ad t1) H → va_D A ((WX d1) K ad t1) → va_S A s.heap H locs → lv_has ls 3 [(0, .ref (ad 0)), (1, .int w111_1), (2, .int w111_2)] → W p l e (rmD 11 12000 3360000) s m [.ref (ad 0)].toArray below meth c H locs (newC d d1) 246800 (MQ below (QDI D K ad d (fun (r : Int32) (u : tSt) (dd : dSt) => okX u ∧ frA [(3, 8), (4, 3), (4, 4), (4, 5), (4, 8), (4, 9), (4, 10), (4, 11), (4, 12), (4, 13), (4, 14), (4, 15), (7, 10), (7, 14), (7, 15), (18, 1), (18, 3), (19, 3), (20, 3), (21, 3)] [(4, 6), (4, 7)] [10, 11, 12, 15, 16, 17, 22, 32, 33, 34, 35, 36, 37, 38, 39, 40] [13, 14] t u ∧ okD dd ∧ (0 : Int) ≤ r.toInt ∧ r.toInt ≤ 2) s.heap.size A) [.ref (ad 0)].toArray s 12000 3360000 A) (F0 m 111 ls []) := by
    intro t1 d1 w111_1 w111_2 H locs ls hok hfr hod hle hdf hw111_1 hw111_2 hP hD hS hl
    refine lv_aload_n C.1 C.2.1 dX11_runJob_111 rfl (lv_at hl 0 rfl) ?_
    refine k_get (v := .ref (ad 7)) C hP 0 rfl rfl inlX11 7 (by decide) m_2_18 rfl dX11_runJob_112 ?_
    refine lv_aload_n C.1 C.2.1 dX11_runJob_115 rfl (lv_at hl 0 rfl) ?_
    refine k_get (v := .ref (ad 4)) C hP 0 rfl rfl inlX11 4 (by decide) m_2_9 rfl dX11_runJob_116 ?_
    refine k_get (v := .int (t1.1 4 5)) C hP 4 rfl rfl inlX2 5 (by decide) m_76_20 rfl dX11_runJob_119 ?_
    refine k_put (ws' := (WX d1) K ad (uI t1 7 10 (t1.1 4 5))) (v := .int (t1.1 4 5)) C hP hD hS 7 rfl rfl inlX3 tyX3_ok nmX3 10 (by decide) m_74_15 rfl rfl rfl rfl rfl dX11_runJob_122 (fun H locs hP hD hS => ?_)
    have hok : okX (uI t1 7 10 (t1.1 4 5)) := ⟨okI_I hok.1 7 10 (t1.1 4 5) (show (-2147483648 : Int) ≤ ((t1.1 4 5) : Int32).toInt ∧ ((t1.1 4 5) : Int32).toInt ≤ 2147483647 from (i_rng _)), hok.2.1, trivial⟩
    have hfr : frA [(3, 8), (4, 3), (4, 4), (4, 5), (4, 8), (4, 9), (4, 10), (4, 11), (4, 12), (4, 13), (4, 14), (4, 15), (7, 10), (7, 14), (7, 15), (18, 1), (18, 3), (19, 3), (20, 3), (21, 3)] [(4, 6), (4, 7)] [10, 11, 12, 15, 16, 17, 22, 32, 33, 34, 35, 36, 37, 38, 39, 40] [13, 14] t (uI t1 7 10 (t1.1 4 5)) := frA_I hfr 7 10 _ rfl
    refine lv_aload_n C.1 C.2.1 dX11_runJob_125 rfl (lv_at hl 0 rfl) ?_
    refine k_get (v := .ref (ad 4)) C hP 0 rfl rfl inlX11 4 (by decide) m_2_9 rfl dX11_runJob_126 ?_
    have h_1 : (0 : Int) ≤ (t1.1 4 8).toInt ∧ (t1.1 4 8).toInt ≤ 9 := hok.1 4 8
    refine k_get (v := .int (t1.1 4 8)) C hP 4 rfl rfl inlX2 8 (by decide) m_45_11 rfl dX11_runJob_129 ?_
    refine lv_iconst (v := 1) C.1 C.2.1 dX11_runJob_132 (by decide) ?_
    refine lv_icmp_ne (tgt := 138) C.1 C.2.1 dX11_runJob_133 (by decide) (fun c_2 => ?_) (fun c_2 => ?_)
    · replace c_2 : ¬ (t1.1 4 8).toInt = 1 := i_ne c_2
      refine lv_aload_n C.1 C.2.1 dX11_runJob_138 rfl (lv_at hl 0 rfl) ?_
      refine k_get (v := .ref (ad 4)) C hP 0 rfl rfl inlX11 4 (by decide) m_2_9 rfl dX11_runJob_139 ?_
      refine k_get (v := .int (t1.1 4 8)) C hP 4 rfl rfl inlX2 8 (by decide) m_45_11 rfl dX11_runJob_142 ?_
      refine lv_bipush (v := 9) C.1 C.2.1 dX11_runJob_145 (by decide) ?_
      refine lv_icmp_ne (tgt := 154) C.1 C.2.1 dX11_runJob_147 (by decide) (fun c_3 => ?_) (fun c_3 => ?_)
      · replace c_3 : ¬ (t1.1 4 8).toInt = 9 := i_ne c_3
        refine lv_iconst (v := 2) C.1 C.2.1 dX11_runJob_154 (by decide) ?_
        exact g_Diret C hr hlocks hP hD hS rfl ⟨hok, hfr, hod, by decide, by decide⟩ hle hdf (Nat.le_of_ble_eq_true rfl) (Nat.le_of_ble_eq_true rfl) dX11_runJob_155
      · replace c_3 : (t1.1 4 8).toInt = 9 := i_eq c_3
        refine lv_iconst (v := 1) C.1 C.2.1 dX11_runJob_150 (by decide) ?_
        refine lv_goto (tgt := 155) C.1 C.2.1 dX11_runJob_151 (by decide) ?_
        exact g_Diret C hr hlocks hP hD hS rfl ⟨hok, hfr, hod, by decide, by decide⟩ hle hdf (Nat.le_of_ble_eq_true rfl) (Nat.le_of_ble_eq_true rfl) dX11_runJob_155
    · replace c_2 : (t1.1 4 8).toInt = 1 := i_eq c_2
      refine lv_iconst (v := 0) C.1 C.2.1 dX11_runJob_136 (by decide) ?_
      exact g_Diret C hr hlocks hP hD hS rfl ⟨hok, hfr, hod, by decide, by decide⟩ hle hdf (Nat.le_of_ble_eq_true rfl) (Nat.le_of_ble_eq_true rfl) dX11_runJob_137
  have L_63 : ∀ (fuel_63 : Nat) (t1 : tSt) (d1 : dSt) (w63_1 : Int32) (w63_2 : Int32) (H : Heap) (locs : List Loc) (ls : Array Slot), okX t1 → frA [(3, 8), (4, 3), (4, 4), (4, 5), (4, 8), (4, 9), (4, 10), (4, 11), (4, 12), (4, 13), (4, 14), (4, 15), (7, 10), (7, 14), (7, 15), (18, 1), (18, 3), (19, 3), (20, 3), (21, 3)] [(4, 6), (4, 7)] [10, 11, 12, 15, 16, 17, 22, 32, 33, 34, 35, 36, 37, 38, 39, 40] [13, 14] t t1 → okD d1 → dLe d d1 → dFr s.heap.size d d1 → (0 : Int) ≤ w63_1.toInt ∧ w63_1.toInt ≤ 50 → (0 : Int) ≤ w63_2.toInt ∧ w63_2.toInt ≤ 102400 → (102400 : Int) - w63_2.toInt < (fuel_63 : Int) → va_P D vwCl ((WX d1) K ad t1) H → va_D A ((WX d1) K ad t1) → va_S A s.heap H locs → lv_has ls 3 [(0, .ref (ad 0)), (1, .int w63_1), (2, .int w63_2)] → W p l e (rmD 11 12000 3360000) s m [.ref (ad 0)].toArray below meth c H locs (newC d d1) 246800 (MQ below (QDI D K ad d (fun (r : Int32) (u : tSt) (dd : dSt) => okX u ∧ frA [(3, 8), (4, 3), (4, 4), (4, 5), (4, 8), (4, 9), (4, 10), (4, 11), (4, 12), (4, 13), (4, 14), (4, 15), (7, 10), (7, 14), (7, 15), (18, 1), (18, 3), (19, 3), (20, 3), (21, 3)] [(4, 6), (4, 7)] [10, 11, 12, 15, 16, 17, 22, 32, 33, 34, 35, 36, 37, 38, 39, 40] [13, 14] t u ∧ okD dd ∧ (0 : Int) ≤ r.toInt ∧ r.toInt ≤ 2) s.heap.size A) [.ref (ad 0)].toArray s 12000 3360000 A) (F0 m 63 ls []) := by
    intro fuel_63
    induction fuel_63 with
    | zero =>
      intro t1 d1 w63_1 w63_2 H locs ls hok hfr hod hle hdf hw63_1 hw63_2 hm63_63 hP hD hS hl
      exact absurd hm63_63 (by omega)
    | succ fuel_63 ih_63 =>
      intro t1 d1 w63_1 w63_2 H locs ls hok hfr hod hle hdf hw63_1 hw63_2 hm63_63 hP hD hS hl
      have hm63_63 : (102400 : Int) - w63_2.toInt < (fuel_63 : Int) + 1 := by omega
      have L_105 : ∀ (t1 : tSt) (d1 : dSt) (w105_1 : Int32) (w105_2 : Int32) (H : Heap) (locs : List Loc) (ls : Array Slot), okX t1 → frA [(3, 8), (4, 3), (4, 4), (4, 5), (4, 8), (4, 9), (4, 10), (4, 11), (4, 12), (4, 13), (4, 14), (4, 15), (7, 10), (7, 14), (7, 15), (18, 1), (18, 3), (19, 3), (20, 3), (21, 3)] [(4, 6), (4, 7)] [10, 11, 12, 15, 16, 17, 22, 32, 33, 34, 35, 36, 37, 38, 39, 40] [13, 14] t t1 → okD d1 → dLe d d1 → dFr s.heap.size d d1 → (0 : Int) ≤ w105_1.toInt ∧ w105_1.toInt ≤ 50 → (0 : Int) ≤ w105_2.toInt ∧ w105_2.toInt ≤ 100000 → (102400 : Int) - w105_2.toInt < (fuel_63 : Int) + 1 → va_P D vwCl ((WX d1) K ad t1) H → va_D A ((WX d1) K ad t1) → va_S A s.heap H locs → lv_has ls 3 [(0, .ref (ad 0)), (1, .int w105_1), (2, .int w105_2)] → W p l e (rmD 11 12000 3360000) s m [.ref (ad 0)].toArray below meth c H locs (newC d d1) 246800 (MQ below (QDI D K ad d (fun (r : Int32) (u : tSt) (dd : dSt) => okX u ∧ frA [(3, 8), (4, 3), (4, 4), (4, 5), (4, 8), (4, 9), (4, 10), (4, 11), (4, 12), (4, 13), (4, 14), (4, 15), (7, 10), (7, 14), (7, 15), (18, 1), (18, 3), (19, 3), (20, 3), (21, 3)] [(4, 6), (4, 7)] [10, 11, 12, 15, 16, 17, 22, 32, 33, 34, 35, 36, 37, 38, 39, 40] [13, 14] t u ∧ okD dd ∧ (0 : Int) ≤ r.toInt ∧ r.toInt ≤ 2) s.heap.size A) [.ref (ad 0)].toArray s 12000 3360000 A) (F0 m 105 ls []) := by
        intro t1 d1 w105_1 w105_2 H locs ls hok hfr hod hle hdf hw105_1 hw105_2 hm105_63 hP hD hS hl
        obtain ⟨v_4, e_5⟩ : ∃ z, z = w105_2 + 1 := ⟨_, rfl⟩
        have h_6 : v_4.toInt = w105_2.toInt + 1 := by rw [e_5]; exact ti_iadd (by show (_ : Int) ≤ w105_2.toInt + 1; omega) (by show w105_2.toInt + 1 < (_ : Int); omega)
        refine lv_iinc (v := v_4) (lv' := [(2, .int v_4), (0, .ref (ad 0)), (1, .int w105_1)]) C.1 C.2.1 dX11_runJob_105 hl (k := 2) rfl e_5.symm (by decide) rfl (fun ls hl => ?_)
        have hl : lv_has ls 3 [(0, .ref (ad 0)), (1, .int w105_1), (2, .int v_4)] := lv_sub hl [1, 2, 0] rfl
        refine lv_goto (tgt := 63) C.1 C.2.1 dX11_runJob_108 (by decide) ?_
        exact ih_63 t1 d1 w105_1 v_4 _ _ _ hok hfr hod hle hdf ⟨by omega, by omega⟩ ⟨by omega, by omega⟩ (show (102400 : Int) - v_4.toInt < (fuel_63 : Int) from by omega) hP hD hS (lv_sub hl [0, 1, 2] rfl)
      refine lv_iload_n C.1 C.2.1 dX11_runJob_63 rfl (lv_at hl 2 rfl) ?_
      refine lv_ldc (v := 100000) C.1 C.2.1 C.2.2.2.1 (C.2.2.2.2.1 _ m_45_6) dX11_runJob_64 ?_
      refine lv_icmp_gt (tgt := 111) C.1 C.2.1 dX11_runJob_66 (by decide) (fun c_7 => ?_) (fun c_7 => ?_)
      · replace c_7 : 100000 < w63_2.toInt := i_lt c_7
        exact L_111 t1 d1 w63_1 w63_2 _ _ _ hok hfr hod hle hdf ⟨by omega, by omega⟩ ⟨by omega, by omega⟩ hP hD hS (lv_sub hl [0, 1, 2] rfl)
      · replace c_7 : w63_2.toInt ≤ 100000 := i_nlt c_7
        refine lv_aload_n C.1 C.2.1 dX11_runJob_69 rfl (lv_at hl 0 rfl) ?_
        refine k_get (v := .ref (ad 4)) C hP 0 rfl rfl inlX11 4 (by decide) m_2_9 rfl dX11_runJob_70 ?_
        have h_8 : (0 : Int) ≤ (t1.1 4 8).toInt ∧ (t1.1 4 8).toInt ≤ 9 := hok.1 4 8
        refine k_get (v := .int (t1.1 4 8)) C hP 4 rfl rfl inlX2 8 (by decide) m_45_11 rfl dX11_runJob_73 ?_
        refine lv_if_ne (tgt := 111) C.1 C.2.1 dX11_runJob_76 (by decide) (fun c_9 => ?_) (fun c_9 => ?_)
        · replace c_9 : ¬ (t1.1 4 8).toInt = 0 := i_ne c_9
          exact L_111 t1 d1 w63_1 w63_2 _ _ _ hok hfr hod hle hdf ⟨by omega, by omega⟩ ⟨by omega, by omega⟩ hP hD hS (lv_sub hl [0, 1, 2] rfl)
        · replace c_9 : (t1.1 4 8).toInt = 0 := i_eq c_9
          refine lv_aload_n C.1 C.2.1 dX11_runJob_79 rfl (lv_at hl 0 rfl) ?_
          refine k_get (v := .ref (ad 4)) C hP 0 rfl rfl inlX11 4 (by decide) m_2_9 rfl dX11_runJob_80 ?_
          refine g_DVi (As := []) (rest := []) C hP hD hS hA (T_X2_advance l D K Z Y ad d1 t1 hok hod ) hE hZ hX hle hdf (uwV m_45_12 m_45_13 m_45_14 m_1_23 m_45_15) (hdV 0 (by decide +kernel) rfl) ⟨Nat.le_of_ble_eq_true rfl, Nat.le_of_ble_eq_true rfl⟩ rfl rfl (ci := 1) (q0 := 4) rfl rfl rfl hl.1 (Nat.le_of_ble_eq_true rfl) dX11_runJob_83 ⟨Nat.le_of_ble_eq_true rfl, Nat.le_of_ble_eq_true rfl⟩ (fun r_11 t_10 d_12 H locs hw hP hD hS hln hle hdf => ?_)
          obtain ⟨hok, f_13, hod, h_14, h_15⟩ := hw
          have hfr : frA [(3, 8), (4, 3), (4, 4), (4, 5), (4, 8), (4, 9), (4, 10), (4, 11), (4, 12), (4, 13), (4, 14), (4, 15), (7, 10), (7, 14), (7, 15), (18, 1), (18, 3), (19, 3), (20, 3), (21, 3)] [(4, 6), (4, 7)] [10, 11, 12, 15, 16, 17, 22, 32, 33, 34, 35, 36, 37, 38, 39, 40] [13, 14] t t_10 := frA_tr hfr f_13 rfl
          refine lv_if_eq (tgt := 105) C.1 C.2.1 dX11_runJob_86 (by decide) (fun c_16 => ?_) (fun c_16 => ?_)
          · replace c_16 : r_11.toInt = 0 := i_eq c_16
            exact L_105 t_10 d_12 w63_1 w63_2 _ _ _ hok hfr hod hle hdf ⟨by omega, by omega⟩ ⟨by omega, by omega⟩ (show (102400 : Int) - w63_2.toInt < (fuel_63 : Int) + 1 from by omega) hP hD hS (lv_sub hl [0, 1, 2] rfl)
          · replace c_16 : ¬ r_11.toInt = 0 := i_ne c_16
            refine lv_iload_n C.1 C.2.1 dX11_runJob_89 rfl (lv_at hl 1 rfl) ?_
            refine lv_bipush (v := 50) C.1 C.2.1 dX11_runJob_90 (by decide) ?_
            refine lv_icmp_ge (tgt := 105) C.1 C.2.1 dX11_runJob_92 (by decide) (fun c_17 => ?_) (fun c_17 => ?_)
            · replace c_17 : 50 ≤ w63_1.toInt := i_le c_17
              exact L_105 t_10 d_12 w63_1 w63_2 _ _ _ hok hfr hod hle hdf ⟨by omega, by omega⟩ ⟨by omega, by omega⟩ (show (102400 : Int) - w63_2.toInt < (fuel_63 : Int) + 1 from by omega) hP hD hS (lv_sub hl [0, 1, 2] rfl)
            · replace c_17 : w63_1.toInt < 50 := i_nle c_17
              refine lv_aload_n C.1 C.2.1 dX11_runJob_95 rfl (lv_at hl 0 rfl) ?_
              refine k_get (v := .ref (ad 6)) C hP 0 rfl rfl inlX11 6 (by decide) m_2_14 rfl dX11_runJob_96 ?_
              refine g_DVv (As := []) (rest := []) C hP hD hS hA (T_X7_printTrace l D K Z Y ad d_12 t_10 hok hod ) hE hZ hX hle hdf (uwV m_54_21 m_54_22 m_54_23 m_2_13 m_55_0) (hdV 0 (by decide +kernel) rfl) ⟨Nat.le_of_ble_eq_true rfl, Nat.le_of_ble_eq_true rfl⟩ rfl rfl (ci := 6) (q0 := 6) rfl rfl rfl hl.1 (Nat.le_of_ble_eq_true rfl) dX11_runJob_99 ⟨Nat.le_of_ble_eq_true rfl, Nat.le_of_ble_eq_true rfl⟩ (fun t_18 d_20 H locs hw hP hD hS hln hle hdf => ?_)
              obtain ⟨hok, f_21, hod⟩ := hw
              have hfr : frA [(3, 8), (4, 3), (4, 4), (4, 5), (4, 8), (4, 9), (4, 10), (4, 11), (4, 12), (4, 13), (4, 14), (4, 15), (7, 10), (7, 14), (7, 15), (18, 1), (18, 3), (19, 3), (20, 3), (21, 3)] [(4, 6), (4, 7)] [10, 11, 12, 15, 16, 17, 22, 32, 33, 34, 35, 36, 37, 38, 39, 40] [13, 14] t t_18 := frA_tr hfr f_21 rfl
              obtain ⟨v_22, e_23⟩ : ∃ z, z = w63_1 + 1 := ⟨_, rfl⟩
              have h_24 : v_22.toInt = w63_1.toInt + 1 := by rw [e_23]; exact ti_iadd (by show (_ : Int) ≤ w63_1.toInt + 1; omega) (by show w63_1.toInt + 1 < (_ : Int); omega)
              refine lv_iinc (v := v_22) (lv' := [(1, .int v_22), (0, .ref (ad 0)), (2, .int w63_2)]) C.1 C.2.1 dX11_runJob_102 hl (k := 1) rfl e_23.symm (by decide) rfl (fun ls hl => ?_)
              have hl : lv_has ls 3 [(0, .ref (ad 0)), (1, .int v_22), (2, .int w63_2)] := lv_sub hl [1, 0, 2] rfl
              exact L_105 t_18 d_20 v_22 w63_2 _ _ _ hok hfr hod hle hdf ⟨by omega, by omega⟩ ⟨by omega, by omega⟩ (show (102400 : Int) - w63_2.toInt < (fuel_63 : Int) + 1 from by omega) hP hD hS (lv_sub hl [0, 1, 2] rfl)
  have L_60 : ∀ (t1 : tSt) (d1 : dSt) (k60_0 : Int32) (H : Heap) (locs : List Loc) (ls : Array Slot), okX t1 → frA [(3, 8), (4, 3), (4, 4), (4, 5), (4, 8), (4, 9), (4, 10), (4, 11), (4, 12), (4, 13), (4, 14), (4, 15), (7, 10), (7, 14), (7, 15), (18, 1), (18, 3), (19, 3), (20, 3), (21, 3)] [(4, 6), (4, 7)] [10, 11, 12, 15, 16, 17, 22, 32, 33, 34, 35, 36, 37, 38, 39, 40] [13, 14] t t1 → okD d1 → dLe d d1 → dFr s.heap.size d d1 → (0 : Int) ≤ k60_0.toInt ∧ k60_0.toInt ≤ 50 → va_P D vwCl ((WX d1) K ad t1) H → va_D A ((WX d1) K ad t1) → va_S A s.heap H locs → lv_has ls 3 [(0, .ref (ad 0))] → W p l e (rmD 11 12000 3360000) s m [.ref (ad 0)].toArray below meth c H locs (newC d d1) 246800 (MQ below (QDI D K ad d (fun (r : Int32) (u : tSt) (dd : dSt) => okX u ∧ frA [(3, 8), (4, 3), (4, 4), (4, 5), (4, 8), (4, 9), (4, 10), (4, 11), (4, 12), (4, 13), (4, 14), (4, 15), (7, 10), (7, 14), (7, 15), (18, 1), (18, 3), (19, 3), (20, 3), (21, 3)] [(4, 6), (4, 7)] [10, 11, 12, 15, 16, 17, 22, 32, 33, 34, 35, 36, 37, 38, 39, 40] [13, 14] t u ∧ okD dd ∧ (0 : Int) ≤ r.toInt ∧ r.toInt ≤ 2) s.heap.size A) [.ref (ad 0)].toArray s 12000 3360000 A) (F0 m 60 ls [.int k60_0]) := by
    intro t1 d1 k60_0 H locs ls hok hfr hod hle hdf hk60_0 hP hD hS hl
    refine lv_istore_n (lv' := [(1, .int k60_0), (0, .ref (ad 0))]) C.1 C.2.1 dX11_runJob_60 rfl hl (by decide) rfl (fun ls hl => ?_)
    have hl : lv_has ls 3 [(0, .ref (ad 0)), (1, .int k60_0)] := lv_sub hl [1, 0] rfl
    refine lv_iconst (v := 0) C.1 C.2.1 dX11_runJob_61 (by decide) ?_
    refine lv_istore_n (lv' := [(2, .int 0), (0, .ref (ad 0)), (1, .int k60_0)]) C.1 C.2.1 dX11_runJob_62 rfl hl (by decide) rfl (fun ls hl => ?_)
    have hl : lv_has ls 3 [(0, .ref (ad 0)), (1, .int k60_0), (2, .int 0)] := lv_sub hl [1, 2, 0] rfl
    exact L_63 102401 t1 d1 k60_0 0 _ _ _ hok hfr hod hle hdf ⟨by omega, by omega⟩ ⟨by decide, by decide⟩ (show (102400 : Int) - 0 < ((102401 : Nat) : Int) from by omega) hP hD hS (lv_sub hl [0, 1, 2] rfl)
  refine lv_aload_n C.1 C.2.1 dX11_runJob_0 rfl (lv_at hl 0 rfl) ?_
  refine k_get (v := .ref (ad 7)) C hP 0 rfl rfl inlX11 7 (by decide) m_2_18 rfl dX11_runJob_1 ?_
  refine lv_aload_n C.1 C.2.1 dX11_runJob_4 rfl (lv_at hl 0 rfl) ?_
  refine k_get (v := .ref (ad 4)) C hP 0 rfl rfl inlX11 4 (by decide) m_2_9 rfl dX11_runJob_5 ?_
  refine k_get (v := .ref (ad 10)) C hP 4 rfl rfl inlX2 0 (by decide) m_64_17 rfl dX11_runJob_8 ?_
  refine g_DVv (As := [.ref (ad 10)]) (rest := []) C hP hD hS hA (T_X3_keep l D K Z Y ad d t hok hod ) hE hZ hX hle hdf (uwV m_76_21 m_76_22 m_76_23 m_2_17 m_77_0) (hdV 1 (by decide +kernel) rfl) ⟨Nat.le_of_ble_eq_true rfl, Nat.le_of_ble_eq_true rfl⟩ rfl rfl (ci := 2) (q0 := 7) rfl rfl rfl hl.1 (Nat.le_of_ble_eq_true rfl) dX11_runJob_11 ⟨Nat.le_of_ble_eq_true rfl, Nat.le_of_ble_eq_true rfl⟩ (fun t_25 d_27 H locs hw hP hD hS hln hle hdf => ?_)
  obtain ⟨hok, f_28, hod⟩ := hw
  have hfr : frA [(3, 8), (4, 3), (4, 4), (4, 5), (4, 8), (4, 9), (4, 10), (4, 11), (4, 12), (4, 13), (4, 14), (4, 15), (7, 10), (7, 14), (7, 15), (18, 1), (18, 3), (19, 3), (20, 3), (21, 3)] [(4, 6), (4, 7)] [10, 11, 12, 15, 16, 17, 22, 32, 33, 34, 35, 36, 37, 38, 39, 40] [13, 14] t t_25 := frA_tr hfr f_28 rfl
  refine lv_aload_n C.1 C.2.1 dX11_runJob_14 rfl (lv_at hl 0 rfl) ?_
  refine k_get (v := .ref (ad 4)) C hP 0 rfl rfl inlX11 4 (by decide) m_2_9 rfl dX11_runJob_15 ?_
  refine lv_aload_n C.1 C.2.1 dX11_runJob_18 rfl (lv_at hl 0 rfl) ?_
  refine k_get (v := .ref (ad 7)) C hP 0 rfl rfl inlX11 7 (by decide) m_2_18 rfl dX11_runJob_19 ?_
  have h_29 : (-1073741824 : Int) ≤ (t_25.1 7 9).toInt ∧ (t_25.1 7 9).toInt ≤ 2147483647 := hok.1 7 9
  refine k_get (v := .int (t_25.1 7 9)) C hP 7 rfl rfl inlX3 9 (by decide) m_74_16 rfl dX11_runJob_22 ?_
  refine hz_Vv (As := [.int (t_25.1 7 9)]) (rest := []) C hP hD hS hA (T_X2_start l D K Z Y ad d_27 t_25 hok ((t_25.1 7 9)) (show (-1073741824 : Int) ≤ ((t_25.1 7 9) : Int32).toInt ∧ ((t_25.1 7 9) : Int32).toInt ≤ 2147483647 from ⟨by omega, (i_rng _).2⟩)) hE hZ (uwV m_28_12 m_28_13 m_28_14 m_1_23 m_28_15) (hdV 1 (by decide +kernel) rfl) ⟨Nat.le_of_ble_eq_true rfl, Nat.le_of_ble_eq_true rfl⟩ rfl rfl (ci := 1) (q0 := 4) rfl rfl rfl hl.1 (Nat.le_of_ble_eq_true rfl) dX11_runJob_25 ⟨Nat.le_trans (newC_le _ _) (Nat.le_of_ble_eq_true rfl), (Nat.le_of_ble_eq_true rfl)⟩ (fun t_30 H locs hw hP hD hS => ?_)
  obtain ⟨hok, f_32⟩ := hw
  have hfr : frA [(3, 8), (4, 3), (4, 4), (4, 5), (4, 8), (4, 9), (4, 10), (4, 11), (4, 12), (4, 13), (4, 14), (4, 15), (7, 10), (7, 14), (7, 15), (18, 1), (18, 3), (19, 3), (20, 3), (21, 3)] [(4, 6), (4, 7)] [10, 11, 12, 15, 16, 17, 22, 32, 33, 34, 35, 36, 37, 38, 39, 40] [13, 14] t t_30 := frA_tr hfr f_32 rfl
  have h_33 : (t_30.1 7 9).toInt = (t_25.1 7 9).toInt := ti_eq (f_32.1 7 9 rfl)
  refine lv_aload_n C.1 C.2.1 dX11_runJob_28 rfl (lv_at hl 0 rfl) ?_
  refine k_get (v := .ref (ad 4)) C hP 0 rfl rfl inlX11 4 (by decide) m_2_9 rfl dX11_runJob_29 ?_
  refine lv_aload_n C.1 C.2.1 dX11_runJob_32 rfl (lv_at hl 0 rfl) ?_
  refine k_get (v := .ref (ad 7)) C hP 0 rfl rfl inlX11 7 (by decide) m_2_18 rfl dX11_runJob_33 ?_
  refine k_get (v := .int (t_30.1 7 2)) C hP 7 rfl rfl inlX3 2 (by decide) m_76_18 rfl dX11_runJob_36 ?_
  obtain ⟨v_34, e_35⟩ : ∃ z, z = ((t_30.1 7 2) : Int32).toInt64 := ⟨_, rfl⟩
  have h_36 : v_34.toInt = (t_30.1 7 2).toInt := by rw [e_35]; exact Jvm.Kit.i64_of_i32 _
  have h_37 := i_rng (t_30.1 7 2)
  refine lv_i2l (v := v_34) C.1 C.2.1 dX11_runJob_39 e_35.symm ?_
  refine k_put (ws' := (WX d_27) K ad (uJ t_30 4 7 v_34)) (v := .long v_34) C hP hD hS 4 rfl rfl inlX2 tyX2_ok nmX2 7 (by decide) m_76_19 rfl rfl rfl rfl rfl dX11_runJob_40 (fun H locs hP hD hS => ?_)
  have hok : okX (uJ t_30 4 7 v_34) := ⟨hok.1, hok.2.1, trivial⟩
  have hfr : frA [(3, 8), (4, 3), (4, 4), (4, 5), (4, 8), (4, 9), (4, 10), (4, 11), (4, 12), (4, 13), (4, 14), (4, 15), (7, 10), (7, 14), (7, 15), (18, 1), (18, 3), (19, 3), (20, 3), (21, 3)] [(4, 6), (4, 7)] [10, 11, 12, 15, 16, 17, 22, 32, 33, 34, 35, 36, 37, 38, 39, 40] [13, 14] t (uJ t_30 4 7 v_34) := frA_J hfr 4 7 _ rfl
  refine lv_aload_n C.1 C.2.1 dX11_runJob_43 rfl (lv_at hl 0 rfl) ?_
  refine k_get (v := .ref (ad 7)) C hP 0 rfl rfl inlX11 7 (by decide) m_2_18 rfl dX11_runJob_44 ?_
  refine lv_iconst (v := 4) C.1 C.2.1 dX11_runJob_47 (by decide) ?_
  refine hz_Vi (As := [.int 4]) (rest := []) C hP hD hS hA (T_X3_wants l D K Z Y ad d_27 (uJ t_30 4 7 v_34) hok 4 (show (0 : Int) ≤ (4 : Int32).toInt ∧ (4 : Int32).toInt ≤ 4 from ⟨by decide, by decide⟩)) hE hZ (uwV m_76_10 m_76_11 m_76_12 m_2_17 m_76_13) (hdV 1 (by decide +kernel) rfl) ⟨Nat.le_of_ble_eq_true rfl, Nat.le_of_ble_eq_true rfl⟩ rfl rfl (ci := 2) (q0 := 7) rfl rfl rfl hl.1 (Nat.le_of_ble_eq_true rfl) dX11_runJob_48 ⟨Nat.le_trans (newC_le _ _) (Nat.le_of_ble_eq_true rfl), (Nat.le_of_ble_eq_true rfl)⟩ (fun r_39 t_38 H locs hw hP hD hS => ?_)
  obtain ⟨h_41, h_42⟩ := hw
  refine lv_if_eq (tgt := 58) C.1 C.2.1 dX11_runJob_51 (by decide) (fun c_43 => ?_) (fun c_43 => ?_)
  · replace c_43 : r_39.toInt = 0 := i_eq c_43
    refine lv_bipush (v := 50) C.1 C.2.1 dX11_runJob_58 (by decide) ?_
    exact L_60 (uJ t_30 4 7 v_34) d_27 50 _ _ _ hok hfr hod hle hdf ⟨by decide, by decide⟩ hP hD hS (lv_sub hl [0] rfl)
  · replace c_43 : ¬ r_39.toInt = 0 := i_ne c_43
    refine lv_iconst (v := 0) C.1 C.2.1 dX11_runJob_54 (by decide) ?_
    refine lv_goto (tgt := 60) C.1 C.2.1 dX11_runJob_55 (by decide) ?_
    exact L_60 (uJ t_30 4 7 v_34) d_27 0 _ _ _ hok hfr hod hle hdf ⟨by decide, by decide⟩ hP hD hS (lv_sub hl [0] rfl)

theorem dX11_jobs_0 : decode cX11_jobs 0 = .ok (.aload_n 0, 1) := by decide +kernel
theorem dX11_jobs_1 : decode cX11_jobs 1 = .ok (.invokevirtual 78, 3) := by decide +kernel
theorem dX11_jobs_100 : decode cX11_jobs 100 = .ok (.aload_n 0, 1) := by decide +kernel
theorem dX11_jobs_101 : decode cX11_jobs 101 = .ok (.getfield 66, 3) := by decide +kernel
theorem dX11_jobs_104 : decode cX11_jobs 104 = .ok (.getfield 201, 3) := by decide +kernel
theorem dX11_jobs_107 : decode cX11_jobs 107 = .ok (.iconst 1, 1) := by decide +kernel
theorem dX11_jobs_108 : decode cX11_jobs 108 = .ok (.invokevirtual 94, 3) := by decide +kernel
theorem dX11_jobs_111 : decode cX11_jobs 111 = .ok (.aload_n 0, 1) := by decide +kernel
theorem dX11_jobs_112 : decode cX11_jobs 112 = .ok (.getfield 57, 3) := by decide +kernel
theorem dX11_jobs_115 : decode cX11_jobs 115 = .ok (.bipush 75, 2) := by decide +kernel
theorem dX11_jobs_117 : decode cX11_jobs 117 = .ok (.iconst 1, 1) := by decide +kernel
theorem dX11_jobs_118 : decode cX11_jobs 118 = .ok (.invokevirtual 117, 3) := by decide +kernel
theorem dX11_jobs_12 : decode cX11_jobs 12 = .ok (.iconst 0, 1) := by decide +kernel
theorem dX11_jobs_121 : decode cX11_jobs 121 = .ok (.pop, 1) := by decide +kernel
theorem dX11_jobs_122 : decode cX11_jobs 122 = .ok (.iload 4, 2) := by decide +kernel
theorem dX11_jobs_124 : decode cX11_jobs 124 = .ok (.iconst (-1), 1) := by decide +kernel
theorem dX11_jobs_125 : decode cX11_jobs 125 = .ok (.if_icmp .ne 12, 3) := by decide +kernel
theorem dX11_jobs_128 : decode cX11_jobs 128 = .ok (.aload_n 0, 1) := by decide +kernel
theorem dX11_jobs_129 : decode cX11_jobs 129 = .ok (.invokevirtual 204, 3) := by decide +kernel
theorem dX11_jobs_13 : decode cX11_jobs 13 = .ok (.iload_n 1, 1) := by decide +kernel
theorem dX11_jobs_132 : decode cX11_jobs 132 = .ok (.istore 4, 2) := by decide +kernel
theorem dX11_jobs_134 : decode cX11_jobs 134 = .ok (.goto 10, 3) := by decide +kernel
theorem dX11_jobs_137 : decode cX11_jobs 137 = .ok (.aload_n 0, 1) := by decide +kernel
theorem dX11_jobs_138 : decode cX11_jobs 138 = .ok (.getfield 44, 3) := by decide +kernel
theorem dX11_jobs_14 : decode cX11_jobs 14 = .ok (.invokevirtual 136, 3) := by decide +kernel
theorem dX11_jobs_141 : decode cX11_jobs 141 = .ok (.invokevirtual 91, 3) := by decide +kernel
theorem dX11_jobs_144 : decode cX11_jobs 144 = .ok (.aload_n 0, 1) := by decide +kernel
theorem dX11_jobs_145 : decode cX11_jobs 145 = .ok (.iload 4, 2) := by decide +kernel
theorem dX11_jobs_147 : decode cX11_jobs 147 = .ok (.invokevirtual 207, 3) := by decide +kernel
theorem dX11_jobs_150 : decode cX11_jobs 150 = .ok (.iinc 2 1, 3) := by decide +kernel
theorem dX11_jobs_153 : decode cX11_jobs 153 = .ok (.iinc 3 1, 3) := by decide +kernel
theorem dX11_jobs_156 : decode cX11_jobs 156 = .ok (.goto (-135), 3) := by decide +kernel
theorem dX11_jobs_159 : decode cX11_jobs 159 = .ok (.iload_n 2, 1) := by decide +kernel
theorem dX11_jobs_160 : decode cX11_jobs 160 = .ok (.ireturn, 1) := by decide +kernel
theorem dX11_jobs_17 : decode cX11_jobs 17 = .ok (.iconst 0, 1) := by decide +kernel
theorem dX11_jobs_18 : decode cX11_jobs 18 = .ok (.istore_n 2, 1) := by decide +kernel
theorem dX11_jobs_19 : decode cX11_jobs 19 = .ok (.iconst 0, 1) := by decide +kernel
theorem dX11_jobs_20 : decode cX11_jobs 20 = .ok (.istore_n 3, 1) := by decide +kernel
theorem dX11_jobs_21 : decode cX11_jobs 21 = .ok (.iload_n 3, 1) := by decide +kernel
theorem dX11_jobs_22 : decode cX11_jobs 22 = .ok (.sipush 512, 3) := by decide +kernel
theorem dX11_jobs_25 : decode cX11_jobs 25 = .ok (.if_icmp .ge 134, 3) := by decide +kernel
theorem dX11_jobs_28 : decode cX11_jobs 28 = .ok (.aload_n 0, 1) := by decide +kernel
theorem dX11_jobs_29 : decode cX11_jobs 29 = .ok (.getfield 66, 3) := by decide +kernel
theorem dX11_jobs_32 : decode cX11_jobs 32 = .ok (.invokevirtual 185, 3) := by decide +kernel
theorem dX11_jobs_35 : decode cX11_jobs 35 = .ok (.ifCond .eq 124, 3) := by decide +kernel
theorem dX11_jobs_38 : decode cX11_jobs 38 = .ok (.iload_n 2, 1) := by decide +kernel
theorem dX11_jobs_39 : decode cX11_jobs 39 = .ok (.ifCond .ne 27, 3) := by decide +kernel
theorem dX11_jobs_4 : decode cX11_jobs 4 = .ok (.istore_n 1, 1) := by decide +kernel
theorem dX11_jobs_42 : decode cX11_jobs 42 = .ok (.aload_n 0, 1) := by decide +kernel
theorem dX11_jobs_43 : decode cX11_jobs 43 = .ok (.getfield 32, 3) := by decide +kernel
theorem dX11_jobs_46 : decode cX11_jobs 46 = .ok (.iconst 0, 1) := by decide +kernel
theorem dX11_jobs_47 : decode cX11_jobs 47 = .ok (.aload_n 0, 1) := by decide +kernel
theorem dX11_jobs_48 : decode cX11_jobs 48 = .ok (.getfield 36, 3) := by decide +kernel
theorem dX11_jobs_5 : decode cX11_jobs 5 = .ok (.aload_n 0, 1) := by decide +kernel
theorem dX11_jobs_51 : decode cX11_jobs 51 = .ok (.getfield 82, 3) := by decide +kernel
theorem dX11_jobs_54 : decode cX11_jobs 54 = .ok (.iconst 0, 1) := by decide +kernel
theorem dX11_jobs_55 : decode cX11_jobs 55 = .ok (.iload_n 1, 1) := by decide +kernel
theorem dX11_jobs_56 : decode cX11_jobs 56 = .ok (.invokestatic 85, 3) := by decide +kernel
theorem dX11_jobs_59 : decode cX11_jobs 59 = .ok (.aload_n 0, 1) := by decide +kernel
theorem dX11_jobs_6 : decode cX11_jobs 6 = .ok (.getfield 66, 3) := by decide +kernel
theorem dX11_jobs_60 : decode cX11_jobs 60 = .ok (.getfield 66, 3) := by decide +kernel
theorem dX11_jobs_63 : decode cX11_jobs 63 = .ok (.invokevirtual 188, 3) := by decide +kernel
theorem dX11_jobs_66 : decode cX11_jobs 66 = .ok (.aload_n 0, 1) := by decide +kernel
theorem dX11_jobs_67 : decode cX11_jobs 67 = .ok (.invokevirtual 191, 3) := by decide +kernel
theorem dX11_jobs_70 : decode cX11_jobs 70 = .ok (.istore 4, 2) := by decide +kernel
theorem dX11_jobs_72 : decode cX11_jobs 72 = .ok (.iload 4, 2) := by decide +kernel
theorem dX11_jobs_74 : decode cX11_jobs 74 = .ok (.iconst 3, 1) := by decide +kernel
theorem dX11_jobs_75 : decode cX11_jobs 75 = .ok (.if_icmp .ne 47, 3) := by decide +kernel
theorem dX11_jobs_78 : decode cX11_jobs 78 = .ok (.aload_n 0, 1) := by decide +kernel
theorem dX11_jobs_79 : decode cX11_jobs 79 = .ok (.getfield 66, 3) := by decide +kernel
theorem dX11_jobs_82 : decode cX11_jobs 82 = .ok (.iconst 1, 1) := by decide +kernel
theorem dX11_jobs_83 : decode cX11_jobs 83 = .ok (.invokevirtual 194, 3) := by decide +kernel
theorem dX11_jobs_86 : decode cX11_jobs 86 = .ok (.ifCond .eq 36, 3) := by decide +kernel
theorem dX11_jobs_89 : decode cX11_jobs 89 = .ok (.aload_n 0, 1) := by decide +kernel
theorem dX11_jobs_9 : decode cX11_jobs 9 = .ok (.getfield 124, 3) := by decide +kernel
theorem dX11_jobs_90 : decode cX11_jobs 90 = .ok (.getfield 48, 3) := by decide +kernel
theorem dX11_jobs_93 : decode cX11_jobs 93 = .ok (.aload_n 0, 1) := by decide +kernel
theorem dX11_jobs_94 : decode cX11_jobs 94 = .ok (.getfield 66, 3) := by decide +kernel
theorem dX11_jobs_97 : decode cX11_jobs 97 = .ok (.getfield 198, 3) := by decide +kernel
set_option maxHeartbeats 4000000 in
set_option maxRecDepth 100000 in
theorem T_X11_jobs (l : Launch) (D : va_G) (K : Nat → ClassId) (Z Y : Nat → Nat) (ad : Nat → Nat) (d : dSt) (t : tSt) (hok : okX t) (hod : okD d)  : dMet l yX11_jobs cX11_jobs 5 (some .int) (rmD 12 13000 3640000) D K Z Y [.ref (ad 0)] ((WX d) K ad t) (QDI D K ad d (fun (r : Int32) (u : tSt) (dd : dSt) => okX u ∧ frA [(0, 1), (2, 2), (2, 3), (2, 4), (2, 5), (2, 6), (2, 7), (3, 8), (4, 3), (4, 4), (4, 5), (4, 8), (4, 9), (4, 10), (4, 11), (4, 12), (4, 13), (4, 14), (4, 15), (5, 7), (5, 9), (5, 10), (5, 11), (5, 12), (5, 14), (5, 15), (5, 16), (5, 17), (5, 18), (5, 19), (7, 2), (7, 3), (7, 4), (7, 5), (7, 6), (7, 7), (7, 8), (7, 9), (7, 10), (7, 12), (7, 14), (7, 15), (18, 1), (18, 2), (18, 3), (19, 3), (20, 3), (21, 3), (23, 3), (23, 6), (23, 12), (24, 2), (24, 3), (24, 4), (24, 5), (24, 6), (24, 8), (29, 2), (29, 3), (29, 4), (29, 5), (29, 6), (29, 7)] [(4, 6), (4, 7), (5, 13), (24, 7), (24, 9)] [8, 9, 10, 11, 12, 15, 16, 17, 22, 26, 27, 28, 30, 31, 32, 33, 34, 35, 36, 37, 38, 39, 40, 42, 43, 44, 45, 46, 47, 48, 49, 50, 51] [13, 14, 25, 41] t u ∧ okD dd ∧ (-2147483648 : Int) ≤ r.toInt ∧ r.toInt ≤ 2147483647 ∧ ((u.1 0 1).toInt = 0) ∧ (((u.1 18 2).toInt ≤ (t.1 18 2).toInt ∨ (u.1 18 2).toInt ≤ 1281)))) 13000 3640000 := by
  refine d_met d RX11 ⟨rfl, by decide +kernel⟩ (Nat.le_of_ble_eq_true rfl) ?_
  intro p e s m below meth c A ls C hE hZ hX hr hlocks hA hP hD hS hl
  have hl : lv_has ls 5 [(0, .ref (ad 0))] := hl
  have hle : dLe d d := dLe_rf
  have hdf : dFr s.heap.size d d := dFr_rf
  have hokt := hok
  have hfr : frA [(0, 1), (2, 2), (2, 3), (2, 4), (2, 5), (2, 6), (2, 7), (3, 8), (4, 3), (4, 4), (4, 5), (4, 8), (4, 9), (4, 10), (4, 11), (4, 12), (4, 13), (4, 14), (4, 15), (5, 7), (5, 9), (5, 10), (5, 11), (5, 12), (5, 14), (5, 15), (5, 16), (5, 17), (5, 18), (5, 19), (7, 2), (7, 3), (7, 4), (7, 5), (7, 6), (7, 7), (7, 8), (7, 9), (7, 10), (7, 12), (7, 14), (7, 15), (18, 1), (18, 2), (18, 3), (19, 3), (20, 3), (21, 3), (23, 3), (23, 6), (23, 12), (24, 2), (24, 3), (24, 4), (24, 5), (24, 6), (24, 8), (29, 2), (29, 3), (29, 4), (29, 5), (29, 6), (29, 7)] [(4, 6), (4, 7), (5, 13), (24, 7), (24, 9)] [8, 9, 10, 11, 12, 15, 16, 17, 22, 26, 27, 28, 30, 31, 32, 33, 34, 35, 36, 37, 38, 39, 40, 42, 43, 44, 45, 46, 47, 48, 49, 50, 51] [13, 14, 25, 41] t t := frA_rf
  have h_1 : (0 : Int) ≤ (t.1 0 1).toInt ∧ (t.1 0 1).toInt ≤ 1280 := hok.1 0 1
  have h_2 : (0 : Int) ≤ (t.1 18 2).toInt ∧ (t.1 18 2).toInt ≤ 2700 := hok.1 18 2
  have h_3 : (0 : Int) ≤ (t.1 29 4).toInt ∧ (t.1 29 4).toInt ≤ 1281 := hok.1 29 4
  have h_4 : (0 : Int) ≤ (t.1 29 7).toInt ∧ (t.1 29 7).toInt ≤ 1280 := hok.1 29 7
  have L_21 : ∀ (fuel_21 : Nat) (t1 : tSt) (d1 : dSt) (w21_1 : Int32) (w21_2 : Int32) (w21_3 : Int32) (H : Heap) (locs : List Loc) (ls : Array Slot), okX t1 → frA [(0, 1), (2, 2), (2, 3), (2, 4), (2, 5), (2, 6), (2, 7), (3, 8), (4, 3), (4, 4), (4, 5), (4, 8), (4, 9), (4, 10), (4, 11), (4, 12), (4, 13), (4, 14), (4, 15), (5, 7), (5, 9), (5, 10), (5, 11), (5, 12), (5, 14), (5, 15), (5, 16), (5, 17), (5, 18), (5, 19), (7, 2), (7, 3), (7, 4), (7, 5), (7, 6), (7, 7), (7, 8), (7, 9), (7, 10), (7, 12), (7, 14), (7, 15), (18, 1), (18, 2), (18, 3), (19, 3), (20, 3), (21, 3), (23, 3), (23, 6), (23, 12), (24, 2), (24, 3), (24, 4), (24, 5), (24, 6), (24, 8), (29, 2), (29, 3), (29, 4), (29, 5), (29, 6), (29, 7)] [(4, 6), (4, 7), (5, 13), (24, 7), (24, 9)] [8, 9, 10, 11, 12, 15, 16, 17, 22, 26, 27, 28, 30, 31, 32, 33, 34, 35, 36, 37, 38, 39, 40, 42, 43, 44, 45, 46, 47, 48, 49, 50, 51] [13, 14, 25, 41] t t1 → okD d1 → dLe d d1 → dFr s.heap.size d d1 → (0 : Int) ≤ w21_1.toInt ∧ w21_1.toInt ≤ 3999 → (0 : Int) ≤ w21_3.toInt ∧ w21_3.toInt ≤ 512 → ((t1.1 0 1).toInt = 0) → (((t1.1 18 2).toInt ≤ (t.1 18 2).toInt ∨ (t1.1 18 2).toInt ≤ 1281)) → (512 : Int) - w21_3.toInt < (fuel_21 : Int) → va_P D vwCl ((WX d1) K ad t1) H → va_D A ((WX d1) K ad t1) → va_S A s.heap H locs → lv_has ls 5 [(0, .ref (ad 0)), (1, .int w21_1), (2, .int w21_2), (3, .int w21_3)] → W p l e (rmD 12 13000 3640000) s m [.ref (ad 0)].toArray below meth c H locs (newC d d1) 246800 (MQ below (QDI D K ad d (fun (r : Int32) (u : tSt) (dd : dSt) => okX u ∧ frA [(0, 1), (2, 2), (2, 3), (2, 4), (2, 5), (2, 6), (2, 7), (3, 8), (4, 3), (4, 4), (4, 5), (4, 8), (4, 9), (4, 10), (4, 11), (4, 12), (4, 13), (4, 14), (4, 15), (5, 7), (5, 9), (5, 10), (5, 11), (5, 12), (5, 14), (5, 15), (5, 16), (5, 17), (5, 18), (5, 19), (7, 2), (7, 3), (7, 4), (7, 5), (7, 6), (7, 7), (7, 8), (7, 9), (7, 10), (7, 12), (7, 14), (7, 15), (18, 1), (18, 2), (18, 3), (19, 3), (20, 3), (21, 3), (23, 3), (23, 6), (23, 12), (24, 2), (24, 3), (24, 4), (24, 5), (24, 6), (24, 8), (29, 2), (29, 3), (29, 4), (29, 5), (29, 6), (29, 7)] [(4, 6), (4, 7), (5, 13), (24, 7), (24, 9)] [8, 9, 10, 11, 12, 15, 16, 17, 22, 26, 27, 28, 30, 31, 32, 33, 34, 35, 36, 37, 38, 39, 40, 42, 43, 44, 45, 46, 47, 48, 49, 50, 51] [13, 14, 25, 41] t u ∧ okD dd ∧ (-2147483648 : Int) ≤ r.toInt ∧ r.toInt ≤ 2147483647 ∧ ((u.1 0 1).toInt = 0) ∧ (((u.1 18 2).toInt ≤ (t.1 18 2).toInt ∨ (u.1 18 2).toInt ≤ 1281))) s.heap.size A) [.ref (ad 0)].toArray s 13000 3640000 A) (F0 m 21 ls []) := by
    intro fuel_21
    induction fuel_21 with
    | zero =>
      intro t1 d1 w21_1 w21_2 w21_3 H locs ls hok hfr hod hle hdf hw21_1 hw21_3 hi21_0 hi21_1 hm21_21 hP hD hS hl
      have h_5 : (0 : Int) ≤ (t1.1 0 1).toInt ∧ (t1.1 0 1).toInt ≤ 1280 := hok.1 0 1
      have h_6 : (0 : Int) ≤ (t1.1 18 2).toInt ∧ (t1.1 18 2).toInt ≤ 2700 := hok.1 18 2
      have h_7 : (0 : Int) ≤ (t1.1 29 4).toInt ∧ (t1.1 29 4).toInt ≤ 1281 := hok.1 29 4
      have h_8 : (0 : Int) ≤ (t1.1 29 7).toInt ∧ (t1.1 29 7).toInt ≤ 1280 := hok.1 29 7
      exact absurd hm21_21 (by omega)
    | succ fuel_21 ih_21 =>
      intro t1 d1 w21_1 w21_2 w21_3 H locs ls hok hfr hod hle hdf hw21_1 hw21_3 hi21_0 hi21_1 hm21_21 hP hD hS hl
      have hm21_21 : (512 : Int) - w21_3.toInt < (fuel_21 : Int) + 1 := by omega
      have h_9 : (0 : Int) ≤ (t1.1 0 1).toInt ∧ (t1.1 0 1).toInt ≤ 1280 := hok.1 0 1
      have h_10 : (0 : Int) ≤ (t1.1 18 2).toInt ∧ (t1.1 18 2).toInt ≤ 2700 := hok.1 18 2
      have h_11 : (0 : Int) ≤ (t1.1 29 4).toInt ∧ (t1.1 29 4).toInt ≤ 1281 := hok.1 29 4
      have h_12 : (0 : Int) ≤ (t1.1 29 7).toInt ∧ (t1.1 29 7).toInt ≤ 1280 := hok.1 29 7
      have L_144 : ∀ (t1 : tSt) (d1 : dSt) (w144_1 : Int32) (w144_2 : Int32) (w144_3 : Int32) (w144_4 : Int32) (H : Heap) (locs : List Loc) (ls : Array Slot), okX t1 → frA [(0, 1), (2, 2), (2, 3), (2, 4), (2, 5), (2, 6), (2, 7), (3, 8), (4, 3), (4, 4), (4, 5), (4, 8), (4, 9), (4, 10), (4, 11), (4, 12), (4, 13), (4, 14), (4, 15), (5, 7), (5, 9), (5, 10), (5, 11), (5, 12), (5, 14), (5, 15), (5, 16), (5, 17), (5, 18), (5, 19), (7, 2), (7, 3), (7, 4), (7, 5), (7, 6), (7, 7), (7, 8), (7, 9), (7, 10), (7, 12), (7, 14), (7, 15), (18, 1), (18, 2), (18, 3), (19, 3), (20, 3), (21, 3), (23, 3), (23, 6), (23, 12), (24, 2), (24, 3), (24, 4), (24, 5), (24, 6), (24, 8), (29, 2), (29, 3), (29, 4), (29, 5), (29, 6), (29, 7)] [(4, 6), (4, 7), (5, 13), (24, 7), (24, 9)] [8, 9, 10, 11, 12, 15, 16, 17, 22, 26, 27, 28, 30, 31, 32, 33, 34, 35, 36, 37, 38, 39, 40, 42, 43, 44, 45, 46, 47, 48, 49, 50, 51] [13, 14, 25, 41] t t1 → okD d1 → dLe d d1 → dFr s.heap.size d d1 → (0 : Int) ≤ w144_1.toInt ∧ w144_1.toInt ≤ 3999 → (0 : Int) ≤ w144_3.toInt ∧ w144_3.toInt ≤ 511 → (0 : Int) ≤ w144_4.toInt ∧ w144_4.toInt ≤ 4 → ((t1.1 0 1).toInt = 0) → ((t1.1 18 2).toInt ≤ 1281) → (512 : Int) - w144_3.toInt < (fuel_21 : Int) + 1 → va_P D vwCl ((WX d1) K ad t1) H → va_D A ((WX d1) K ad t1) → va_S A s.heap H locs → lv_has ls 5 [(0, .ref (ad 0)), (1, .int w144_1), (2, .int w144_2), (3, .int w144_3), (4, .int w144_4)] → W p l e (rmD 12 13000 3640000) s m [.ref (ad 0)].toArray below meth c H locs (newC d d1) 246800 (MQ below (QDI D K ad d (fun (r : Int32) (u : tSt) (dd : dSt) => okX u ∧ frA [(0, 1), (2, 2), (2, 3), (2, 4), (2, 5), (2, 6), (2, 7), (3, 8), (4, 3), (4, 4), (4, 5), (4, 8), (4, 9), (4, 10), (4, 11), (4, 12), (4, 13), (4, 14), (4, 15), (5, 7), (5, 9), (5, 10), (5, 11), (5, 12), (5, 14), (5, 15), (5, 16), (5, 17), (5, 18), (5, 19), (7, 2), (7, 3), (7, 4), (7, 5), (7, 6), (7, 7), (7, 8), (7, 9), (7, 10), (7, 12), (7, 14), (7, 15), (18, 1), (18, 2), (18, 3), (19, 3), (20, 3), (21, 3), (23, 3), (23, 6), (23, 12), (24, 2), (24, 3), (24, 4), (24, 5), (24, 6), (24, 8), (29, 2), (29, 3), (29, 4), (29, 5), (29, 6), (29, 7)] [(4, 6), (4, 7), (5, 13), (24, 7), (24, 9)] [8, 9, 10, 11, 12, 15, 16, 17, 22, 26, 27, 28, 30, 31, 32, 33, 34, 35, 36, 37, 38, 39, 40, 42, 43, 44, 45, 46, 47, 48, 49, 50, 51] [13, 14, 25, 41] t u ∧ okD dd ∧ (-2147483648 : Int) ≤ r.toInt ∧ r.toInt ≤ 2147483647 ∧ ((u.1 0 1).toInt = 0) ∧ (((u.1 18 2).toInt ≤ (t.1 18 2).toInt ∨ (u.1 18 2).toInt ≤ 1281))) s.heap.size A) [.ref (ad 0)].toArray s 13000 3640000 A) (F0 m 144 ls []) := by
        intro t1 d1 w144_1 w144_2 w144_3 w144_4 H locs ls hok hfr hod hle hdf hw144_1 hw144_3 hw144_4 hi144_0 hi144_1 hm144_21 hP hD hS hl
        have h_13 : (0 : Int) ≤ (t1.1 0 1).toInt ∧ (t1.1 0 1).toInt ≤ 1280 := hok.1 0 1
        have h_14 : (0 : Int) ≤ (t1.1 18 2).toInt ∧ (t1.1 18 2).toInt ≤ 2700 := hok.1 18 2
        have h_15 : (0 : Int) ≤ (t1.1 29 4).toInt ∧ (t1.1 29 4).toInt ≤ 1281 := hok.1 29 4
        have h_16 : (0 : Int) ≤ (t1.1 29 7).toInt ∧ (t1.1 29 7).toInt ≤ 1280 := hok.1 29 7
        refine lv_aload_n C.1 C.2.1 dX11_jobs_144 rfl (lv_at hl 0 rfl) ?_
        refine lv_iload C.1 C.2.1 dX11_jobs_145 (lv_at hl 4 rfl) ?_
        refine g_DVv (As := [.int w144_4]) (rest := []) C hP hD hS hA (T_X11_closeJob l D K Z Y ad d1 t1 hok hod (w144_4) (show (0 : Int) ≤ (w144_4 : Int32).toInt ∧ (w144_4 : Int32).toInt ≤ 4 from ⟨by omega, by omega⟩)) hE hZ hX hle hdf (uwV m_77_1 m_77_2 m_77_3 m_1_2 m_77_4) (hdV 1 (by decide +kernel) rfl) ⟨Nat.le_of_ble_eq_true rfl, Nat.le_of_ble_eq_true rfl⟩ rfl rfl (ci := 10) (q0 := 0) rfl rfl rfl hl.1 (Nat.le_of_ble_eq_true rfl) dX11_jobs_147 ⟨Nat.le_of_ble_eq_true rfl, Nat.le_of_ble_eq_true rfl⟩ (fun t_17 d_19 H locs hw hP hD hS hln hle hdf => ?_)
        obtain ⟨hok, f_20, hod⟩ := hw
        have hfr : frA [(0, 1), (2, 2), (2, 3), (2, 4), (2, 5), (2, 6), (2, 7), (3, 8), (4, 3), (4, 4), (4, 5), (4, 8), (4, 9), (4, 10), (4, 11), (4, 12), (4, 13), (4, 14), (4, 15), (5, 7), (5, 9), (5, 10), (5, 11), (5, 12), (5, 14), (5, 15), (5, 16), (5, 17), (5, 18), (5, 19), (7, 2), (7, 3), (7, 4), (7, 5), (7, 6), (7, 7), (7, 8), (7, 9), (7, 10), (7, 12), (7, 14), (7, 15), (18, 1), (18, 2), (18, 3), (19, 3), (20, 3), (21, 3), (23, 3), (23, 6), (23, 12), (24, 2), (24, 3), (24, 4), (24, 5), (24, 6), (24, 8), (29, 2), (29, 3), (29, 4), (29, 5), (29, 6), (29, 7)] [(4, 6), (4, 7), (5, 13), (24, 7), (24, 9)] [8, 9, 10, 11, 12, 15, 16, 17, 22, 26, 27, 28, 30, 31, 32, 33, 34, 35, 36, 37, 38, 39, 40, 42, 43, 44, 45, 46, 47, 48, 49, 50, 51] [13, 14, 25, 41] t t_17 := frA_tr hfr f_20 rfl
        have h_21 : (t_17.1 0 1).toInt = (t1.1 0 1).toInt := ti_eq (f_20.1 0 1 rfl)
        have h_22 : (t_17.1 18 2).toInt = (t1.1 18 2).toInt := ti_eq (f_20.1 18 2 rfl)
        have h_23 : (t_17.1 29 4).toInt = (t1.1 29 4).toInt := ti_eq (f_20.1 29 4 rfl)
        have h_24 : (t_17.1 29 7).toInt = (t1.1 29 7).toInt := ti_eq (f_20.1 29 7 rfl)
        have h_25 : (0 : Int) ≤ (t_17.1 0 1).toInt ∧ (t_17.1 0 1).toInt ≤ 1280 := hok.1 0 1
        have h_26 : (0 : Int) ≤ (t_17.1 18 2).toInt ∧ (t_17.1 18 2).toInt ≤ 2700 := hok.1 18 2
        have h_27 : (0 : Int) ≤ (t_17.1 29 4).toInt ∧ (t_17.1 29 4).toInt ≤ 1281 := hok.1 29 4
        have h_28 : (0 : Int) ≤ (t_17.1 29 7).toInt ∧ (t_17.1 29 7).toInt ≤ 1280 := hok.1 29 7
        obtain ⟨v_29, e_30⟩ : ∃ z, z = w144_2 + 1 := ⟨_, rfl⟩
        refine lv_iinc (v := v_29) (lv' := [(2, .int v_29), (0, .ref (ad 0)), (1, .int w144_1), (3, .int w144_3), (4, .int w144_4)]) C.1 C.2.1 dX11_jobs_150 hl (k := 2) rfl e_30.symm (by decide) rfl (fun ls hl => ?_)
        have hl : lv_has ls 5 [(0, .ref (ad 0)), (1, .int w144_1), (2, .int v_29), (3, .int w144_3), (4, .int w144_4)] := lv_sub hl [1, 2, 0, 3, 4] rfl
        obtain ⟨v_31, e_32⟩ : ∃ z, z = w144_3 + 1 := ⟨_, rfl⟩
        have h_33 : v_31.toInt = w144_3.toInt + 1 := by rw [e_32]; exact ti_iadd (by show (_ : Int) ≤ w144_3.toInt + 1; omega) (by show w144_3.toInt + 1 < (_ : Int); omega)
        refine lv_iinc (v := v_31) (lv' := [(3, .int v_31), (0, .ref (ad 0)), (1, .int w144_1), (2, .int v_29), (4, .int w144_4)]) C.1 C.2.1 dX11_jobs_153 hl (k := 3) rfl e_32.symm (by decide) rfl (fun ls hl => ?_)
        have hl : lv_has ls 5 [(0, .ref (ad 0)), (1, .int w144_1), (2, .int v_29), (3, .int v_31), (4, .int w144_4)] := lv_sub hl [1, 2, 3, 0, 4] rfl
        refine lv_goto (tgt := 21) C.1 C.2.1 dX11_jobs_156 (by decide) ?_
        exact ih_21 t_17 d_19 w144_1 v_29 v_31 _ _ _ hok hfr hod hle hdf ⟨by omega, by omega⟩ ⟨by omega, by omega⟩ (show (t_17.1 0 1).toInt = 0 from by omega) (show ((t_17.1 18 2).toInt ≤ (t.1 18 2).toInt ∨ (t_17.1 18 2).toInt ≤ 1281) from by omega) (show (512 : Int) - v_31.toInt < (fuel_21 : Int) from by omega) hP hD hS (lv_sub hl [0, 1, 2, 3] rfl)
      have L_122 : ∀ (t1 : tSt) (d1 : dSt) (w122_1 : Int32) (w122_2 : Int32) (w122_3 : Int32) (w122_4 : Int32) (H : Heap) (locs : List Loc) (ls : Array Slot), okX t1 → frA [(0, 1), (2, 2), (2, 3), (2, 4), (2, 5), (2, 6), (2, 7), (3, 8), (4, 3), (4, 4), (4, 5), (4, 8), (4, 9), (4, 10), (4, 11), (4, 12), (4, 13), (4, 14), (4, 15), (5, 7), (5, 9), (5, 10), (5, 11), (5, 12), (5, 14), (5, 15), (5, 16), (5, 17), (5, 18), (5, 19), (7, 2), (7, 3), (7, 4), (7, 5), (7, 6), (7, 7), (7, 8), (7, 9), (7, 10), (7, 12), (7, 14), (7, 15), (18, 1), (18, 2), (18, 3), (19, 3), (20, 3), (21, 3), (23, 3), (23, 6), (23, 12), (24, 2), (24, 3), (24, 4), (24, 5), (24, 6), (24, 8), (29, 2), (29, 3), (29, 4), (29, 5), (29, 6), (29, 7)] [(4, 6), (4, 7), (5, 13), (24, 7), (24, 9)] [8, 9, 10, 11, 12, 15, 16, 17, 22, 26, 27, 28, 30, 31, 32, 33, 34, 35, 36, 37, 38, 39, 40, 42, 43, 44, 45, 46, 47, 48, 49, 50, 51] [13, 14, 25, 41] t t1 → okD d1 → dLe d d1 → dFr s.heap.size d d1 → (0 : Int) ≤ w122_1.toInt ∧ w122_1.toInt ≤ 3999 → (0 : Int) ≤ w122_3.toInt ∧ w122_3.toInt ≤ 511 → (-1 : Int) ≤ w122_4.toInt ∧ w122_4.toInt ≤ 4 → ((t1.1 0 1).toInt = 0) → ((t1.1 18 2).toInt ≤ 1281) → (512 : Int) - w122_3.toInt < (fuel_21 : Int) + 1 → va_P D vwCl ((WX d1) K ad t1) H → va_D A ((WX d1) K ad t1) → va_S A s.heap H locs → lv_has ls 5 [(0, .ref (ad 0)), (1, .int w122_1), (2, .int w122_2), (3, .int w122_3), (4, .int w122_4)] → W p l e (rmD 12 13000 3640000) s m [.ref (ad 0)].toArray below meth c H locs (newC d d1) 246800 (MQ below (QDI D K ad d (fun (r : Int32) (u : tSt) (dd : dSt) => okX u ∧ frA [(0, 1), (2, 2), (2, 3), (2, 4), (2, 5), (2, 6), (2, 7), (3, 8), (4, 3), (4, 4), (4, 5), (4, 8), (4, 9), (4, 10), (4, 11), (4, 12), (4, 13), (4, 14), (4, 15), (5, 7), (5, 9), (5, 10), (5, 11), (5, 12), (5, 14), (5, 15), (5, 16), (5, 17), (5, 18), (5, 19), (7, 2), (7, 3), (7, 4), (7, 5), (7, 6), (7, 7), (7, 8), (7, 9), (7, 10), (7, 12), (7, 14), (7, 15), (18, 1), (18, 2), (18, 3), (19, 3), (20, 3), (21, 3), (23, 3), (23, 6), (23, 12), (24, 2), (24, 3), (24, 4), (24, 5), (24, 6), (24, 8), (29, 2), (29, 3), (29, 4), (29, 5), (29, 6), (29, 7)] [(4, 6), (4, 7), (5, 13), (24, 7), (24, 9)] [8, 9, 10, 11, 12, 15, 16, 17, 22, 26, 27, 28, 30, 31, 32, 33, 34, 35, 36, 37, 38, 39, 40, 42, 43, 44, 45, 46, 47, 48, 49, 50, 51] [13, 14, 25, 41] t u ∧ okD dd ∧ (-2147483648 : Int) ≤ r.toInt ∧ r.toInt ≤ 2147483647 ∧ ((u.1 0 1).toInt = 0) ∧ (((u.1 18 2).toInt ≤ (t.1 18 2).toInt ∨ (u.1 18 2).toInt ≤ 1281))) s.heap.size A) [.ref (ad 0)].toArray s 13000 3640000 A) (F0 m 122 ls []) := by
        intro t1 d1 w122_1 w122_2 w122_3 w122_4 H locs ls hok hfr hod hle hdf hw122_1 hw122_3 hw122_4 hi122_0 hi122_1 hm122_21 hP hD hS hl
        have h_34 : (0 : Int) ≤ (t1.1 0 1).toInt ∧ (t1.1 0 1).toInt ≤ 1280 := hok.1 0 1
        have h_35 : (0 : Int) ≤ (t1.1 18 2).toInt ∧ (t1.1 18 2).toInt ≤ 2700 := hok.1 18 2
        have h_36 : (0 : Int) ≤ (t1.1 29 4).toInt ∧ (t1.1 29 4).toInt ≤ 1281 := hok.1 29 4
        have h_37 : (0 : Int) ≤ (t1.1 29 7).toInt ∧ (t1.1 29 7).toInt ≤ 1280 := hok.1 29 7
        refine lv_iload C.1 C.2.1 dX11_jobs_122 (lv_at hl 4 rfl) ?_
        refine lv_iconst (v := (-1)) C.1 C.2.1 dX11_jobs_124 (by decide) ?_
        refine lv_icmp_ne (tgt := 137) C.1 C.2.1 dX11_jobs_125 (by decide) (fun c_38 => ?_) (fun c_38 => ?_)
        · replace c_38 : ¬ w122_4.toInt = (-1) := i_ne c_38
          refine lv_aload_n C.1 C.2.1 dX11_jobs_137 rfl (lv_at hl 0 rfl) ?_
          refine k_get (v := .ref (ad 4)) C hP 0 rfl rfl inlX11 4 (by decide) m_2_9 rfl dX11_jobs_138 ?_
          refine hz_Vv (As := []) (rest := []) C hP hD hS hA (T_X2_clear l D K Z Y ad d1 t1 hok ) hE hZ (uwV m_11_0 m_11_1 m_11_2 m_1_23 m_11_3) (hdV 0 (by decide +kernel) rfl) ⟨Nat.le_of_ble_eq_true rfl, Nat.le_of_ble_eq_true rfl⟩ rfl rfl (ci := 1) (q0 := 4) rfl rfl rfl hl.1 (Nat.le_of_ble_eq_true rfl) dX11_jobs_141 ⟨Nat.le_trans (newC_le _ _) (Nat.le_of_ble_eq_true rfl), (Nat.le_of_ble_eq_true rfl)⟩ (fun t_39 H locs hw hP hD hS => ?_)
          obtain ⟨hok, f_41⟩ := hw
          have hfr : frA [(0, 1), (2, 2), (2, 3), (2, 4), (2, 5), (2, 6), (2, 7), (3, 8), (4, 3), (4, 4), (4, 5), (4, 8), (4, 9), (4, 10), (4, 11), (4, 12), (4, 13), (4, 14), (4, 15), (5, 7), (5, 9), (5, 10), (5, 11), (5, 12), (5, 14), (5, 15), (5, 16), (5, 17), (5, 18), (5, 19), (7, 2), (7, 3), (7, 4), (7, 5), (7, 6), (7, 7), (7, 8), (7, 9), (7, 10), (7, 12), (7, 14), (7, 15), (18, 1), (18, 2), (18, 3), (19, 3), (20, 3), (21, 3), (23, 3), (23, 6), (23, 12), (24, 2), (24, 3), (24, 4), (24, 5), (24, 6), (24, 8), (29, 2), (29, 3), (29, 4), (29, 5), (29, 6), (29, 7)] [(4, 6), (4, 7), (5, 13), (24, 7), (24, 9)] [8, 9, 10, 11, 12, 15, 16, 17, 22, 26, 27, 28, 30, 31, 32, 33, 34, 35, 36, 37, 38, 39, 40, 42, 43, 44, 45, 46, 47, 48, 49, 50, 51] [13, 14, 25, 41] t t_39 := frA_tr hfr f_41 rfl
          have h_42 : (t_39.1 0 1).toInt = (t1.1 0 1).toInt := ti_eq (f_41.1 0 1 rfl)
          have h_43 : (t_39.1 18 2).toInt = (t1.1 18 2).toInt := ti_eq (f_41.1 18 2 rfl)
          have h_44 : (t_39.1 29 4).toInt = (t1.1 29 4).toInt := ti_eq (f_41.1 29 4 rfl)
          have h_45 : (t_39.1 29 7).toInt = (t1.1 29 7).toInt := ti_eq (f_41.1 29 7 rfl)
          have h_46 : (0 : Int) ≤ (t_39.1 0 1).toInt ∧ (t_39.1 0 1).toInt ≤ 1280 := hok.1 0 1
          have h_47 : (0 : Int) ≤ (t_39.1 18 2).toInt ∧ (t_39.1 18 2).toInt ≤ 2700 := hok.1 18 2
          have h_48 : (0 : Int) ≤ (t_39.1 29 4).toInt ∧ (t_39.1 29 4).toInt ≤ 1281 := hok.1 29 4
          have h_49 : (0 : Int) ≤ (t_39.1 29 7).toInt ∧ (t_39.1 29 7).toInt ≤ 1280 := hok.1 29 7
          exact L_144 t_39 d1 w122_1 w122_2 w122_3 w122_4 _ _ _ hok hfr hod hle hdf ⟨by omega, by omega⟩ ⟨by omega, by omega⟩ ⟨by omega, by omega⟩ (show (t_39.1 0 1).toInt = 0 from by omega) (show (t_39.1 18 2).toInt ≤ 1281 from by omega) (show (512 : Int) - w122_3.toInt < (fuel_21 : Int) + 1 from by omega) hP hD hS (lv_sub hl [0, 1, 2, 3, 4] rfl)
        · replace c_38 : w122_4.toInt = (-1) := i_eq c_38
          refine lv_aload_n C.1 C.2.1 dX11_jobs_128 rfl (lv_at hl 0 rfl) ?_
          refine g_DVi (As := []) (rest := []) C hP hD hS hA (T_X11_runJob l D K Z Y ad d1 t1 hok hod ) hE hZ hX hle hdf (uwV m_76_14 m_76_15 m_76_16 m_1_2 m_76_17) (hdV 0 (by decide +kernel) rfl) ⟨Nat.le_of_ble_eq_true rfl, Nat.le_of_ble_eq_true rfl⟩ rfl rfl (ci := 10) (q0 := 0) rfl rfl rfl hl.1 (Nat.le_of_ble_eq_true rfl) dX11_jobs_129 ⟨Nat.le_of_ble_eq_true rfl, Nat.le_of_ble_eq_true rfl⟩ (fun r_51 t_50 d_52 H locs hw hP hD hS hln hle hdf => ?_)
          obtain ⟨hok, f_53, hod, h_54, h_55⟩ := hw
          have hfr : frA [(0, 1), (2, 2), (2, 3), (2, 4), (2, 5), (2, 6), (2, 7), (3, 8), (4, 3), (4, 4), (4, 5), (4, 8), (4, 9), (4, 10), (4, 11), (4, 12), (4, 13), (4, 14), (4, 15), (5, 7), (5, 9), (5, 10), (5, 11), (5, 12), (5, 14), (5, 15), (5, 16), (5, 17), (5, 18), (5, 19), (7, 2), (7, 3), (7, 4), (7, 5), (7, 6), (7, 7), (7, 8), (7, 9), (7, 10), (7, 12), (7, 14), (7, 15), (18, 1), (18, 2), (18, 3), (19, 3), (20, 3), (21, 3), (23, 3), (23, 6), (23, 12), (24, 2), (24, 3), (24, 4), (24, 5), (24, 6), (24, 8), (29, 2), (29, 3), (29, 4), (29, 5), (29, 6), (29, 7)] [(4, 6), (4, 7), (5, 13), (24, 7), (24, 9)] [8, 9, 10, 11, 12, 15, 16, 17, 22, 26, 27, 28, 30, 31, 32, 33, 34, 35, 36, 37, 38, 39, 40, 42, 43, 44, 45, 46, 47, 48, 49, 50, 51] [13, 14, 25, 41] t t_50 := frA_tr hfr f_53 rfl
          have h_56 : (t_50.1 0 1).toInt = (t1.1 0 1).toInt := ti_eq (f_53.1 0 1 rfl)
          have h_57 : (t_50.1 18 2).toInt = (t1.1 18 2).toInt := ti_eq (f_53.1 18 2 rfl)
          have h_58 : (t_50.1 29 4).toInt = (t1.1 29 4).toInt := ti_eq (f_53.1 29 4 rfl)
          have h_59 : (t_50.1 29 7).toInt = (t1.1 29 7).toInt := ti_eq (f_53.1 29 7 rfl)
          have h_60 : (0 : Int) ≤ (t_50.1 0 1).toInt ∧ (t_50.1 0 1).toInt ≤ 1280 := hok.1 0 1
          have h_61 : (0 : Int) ≤ (t_50.1 18 2).toInt ∧ (t_50.1 18 2).toInt ≤ 2700 := hok.1 18 2
          have h_62 : (0 : Int) ≤ (t_50.1 29 4).toInt ∧ (t_50.1 29 4).toInt ≤ 1281 := hok.1 29 4
          have h_63 : (0 : Int) ≤ (t_50.1 29 7).toInt ∧ (t_50.1 29 7).toInt ≤ 1280 := hok.1 29 7
          refine lv_istore (lv' := [(4, .int r_51), (0, .ref (ad 0)), (1, .int w122_1), (2, .int w122_2), (3, .int w122_3)]) C.1 C.2.1 dX11_jobs_132 hl (by decide) rfl (fun ls hl => ?_)
          have hl : lv_has ls 5 [(0, .ref (ad 0)), (1, .int w122_1), (2, .int w122_2), (3, .int w122_3), (4, .int r_51)] := lv_sub hl [1, 2, 3, 4, 0] rfl
          refine lv_goto (tgt := 144) C.1 C.2.1 dX11_jobs_134 (by decide) ?_
          exact L_144 t_50 d_52 w122_1 w122_2 w122_3 r_51 _ _ _ hok hfr hod hle hdf ⟨by omega, by omega⟩ ⟨by omega, by omega⟩ ⟨by omega, by omega⟩ (show (t_50.1 0 1).toInt = 0 from by omega) (show (t_50.1 18 2).toInt ≤ 1281 from by omega) (show (512 : Int) - w122_3.toInt < (fuel_21 : Int) + 1 from by omega) hP hD hS (lv_sub hl [0, 1, 2, 3, 4] rfl)
      have L_66 : ∀ (t1 : tSt) (d1 : dSt) (w66_1 : Int32) (w66_2 : Int32) (w66_3 : Int32) (H : Heap) (locs : List Loc) (ls : Array Slot), okX t1 → frA [(0, 1), (2, 2), (2, 3), (2, 4), (2, 5), (2, 6), (2, 7), (3, 8), (4, 3), (4, 4), (4, 5), (4, 8), (4, 9), (4, 10), (4, 11), (4, 12), (4, 13), (4, 14), (4, 15), (5, 7), (5, 9), (5, 10), (5, 11), (5, 12), (5, 14), (5, 15), (5, 16), (5, 17), (5, 18), (5, 19), (7, 2), (7, 3), (7, 4), (7, 5), (7, 6), (7, 7), (7, 8), (7, 9), (7, 10), (7, 12), (7, 14), (7, 15), (18, 1), (18, 2), (18, 3), (19, 3), (20, 3), (21, 3), (23, 3), (23, 6), (23, 12), (24, 2), (24, 3), (24, 4), (24, 5), (24, 6), (24, 8), (29, 2), (29, 3), (29, 4), (29, 5), (29, 6), (29, 7)] [(4, 6), (4, 7), (5, 13), (24, 7), (24, 9)] [8, 9, 10, 11, 12, 15, 16, 17, 22, 26, 27, 28, 30, 31, 32, 33, 34, 35, 36, 37, 38, 39, 40, 42, 43, 44, 45, 46, 47, 48, 49, 50, 51] [13, 14, 25, 41] t t1 → okD d1 → dLe d d1 → dFr s.heap.size d d1 → (0 : Int) ≤ w66_1.toInt ∧ w66_1.toInt ≤ 3999 → (0 : Int) ≤ w66_3.toInt ∧ w66_3.toInt ≤ 511 → ((t1.1 0 1).toInt = 0) → (((t1.1 18 2).toInt ≤ (t.1 18 2).toInt ∨ (t1.1 18 2).toInt ≤ 1281)) → (512 : Int) - w66_3.toInt < (fuel_21 : Int) + 1 → va_P D vwCl ((WX d1) K ad t1) H → va_D A ((WX d1) K ad t1) → va_S A s.heap H locs → lv_has ls 5 [(0, .ref (ad 0)), (1, .int w66_1), (2, .int w66_2), (3, .int w66_3)] → W p l e (rmD 12 13000 3640000) s m [.ref (ad 0)].toArray below meth c H locs (newC d d1) 246800 (MQ below (QDI D K ad d (fun (r : Int32) (u : tSt) (dd : dSt) => okX u ∧ frA [(0, 1), (2, 2), (2, 3), (2, 4), (2, 5), (2, 6), (2, 7), (3, 8), (4, 3), (4, 4), (4, 5), (4, 8), (4, 9), (4, 10), (4, 11), (4, 12), (4, 13), (4, 14), (4, 15), (5, 7), (5, 9), (5, 10), (5, 11), (5, 12), (5, 14), (5, 15), (5, 16), (5, 17), (5, 18), (5, 19), (7, 2), (7, 3), (7, 4), (7, 5), (7, 6), (7, 7), (7, 8), (7, 9), (7, 10), (7, 12), (7, 14), (7, 15), (18, 1), (18, 2), (18, 3), (19, 3), (20, 3), (21, 3), (23, 3), (23, 6), (23, 12), (24, 2), (24, 3), (24, 4), (24, 5), (24, 6), (24, 8), (29, 2), (29, 3), (29, 4), (29, 5), (29, 6), (29, 7)] [(4, 6), (4, 7), (5, 13), (24, 7), (24, 9)] [8, 9, 10, 11, 12, 15, 16, 17, 22, 26, 27, 28, 30, 31, 32, 33, 34, 35, 36, 37, 38, 39, 40, 42, 43, 44, 45, 46, 47, 48, 49, 50, 51] [13, 14, 25, 41] t u ∧ okD dd ∧ (-2147483648 : Int) ≤ r.toInt ∧ r.toInt ≤ 2147483647 ∧ ((u.1 0 1).toInt = 0) ∧ (((u.1 18 2).toInt ≤ (t.1 18 2).toInt ∨ (u.1 18 2).toInt ≤ 1281))) s.heap.size A) [.ref (ad 0)].toArray s 13000 3640000 A) (F0 m 66 ls []) := by
        intro t1 d1 w66_1 w66_2 w66_3 H locs ls hok hfr hod hle hdf hw66_1 hw66_3 hi66_0 hi66_1 hm66_21 hP hD hS hl
        have h_64 : (0 : Int) ≤ (t1.1 0 1).toInt ∧ (t1.1 0 1).toInt ≤ 1280 := hok.1 0 1
        have h_65 : (0 : Int) ≤ (t1.1 18 2).toInt ∧ (t1.1 18 2).toInt ≤ 2700 := hok.1 18 2
        have h_66 : (0 : Int) ≤ (t1.1 29 4).toInt ∧ (t1.1 29 4).toInt ≤ 1281 := hok.1 29 4
        have h_67 : (0 : Int) ≤ (t1.1 29 7).toInt ∧ (t1.1 29 7).toInt ≤ 1280 := hok.1 29 7
        refine lv_aload_n C.1 C.2.1 dX11_jobs_66 rfl (lv_at hl 0 rfl) ?_
        refine g_DVi (As := []) (rest := []) C hP hD hS hA (T_X11_layJob l D K Z Y ad d1 t1 hok hod ) hE hZ hX hle hdf (uwV m_74_10 m_74_11 m_74_12 m_1_2 m_74_13) (hdV 0 (by decide +kernel) rfl) ⟨Nat.le_of_ble_eq_true rfl, Nat.le_of_ble_eq_true rfl⟩ rfl rfl (ci := 10) (q0 := 0) rfl rfl rfl hl.1 (Nat.le_of_ble_eq_true rfl) dX11_jobs_67 ⟨Nat.le_of_ble_eq_true rfl, Nat.le_of_ble_eq_true rfl⟩ (fun r_69 t_68 d_70 H locs hw hP hD hS hln hle hdf => ?_)
        obtain ⟨hok, f_71, hod, h_72, h_73, p_74⟩ := hw
        have hfr : frA [(0, 1), (2, 2), (2, 3), (2, 4), (2, 5), (2, 6), (2, 7), (3, 8), (4, 3), (4, 4), (4, 5), (4, 8), (4, 9), (4, 10), (4, 11), (4, 12), (4, 13), (4, 14), (4, 15), (5, 7), (5, 9), (5, 10), (5, 11), (5, 12), (5, 14), (5, 15), (5, 16), (5, 17), (5, 18), (5, 19), (7, 2), (7, 3), (7, 4), (7, 5), (7, 6), (7, 7), (7, 8), (7, 9), (7, 10), (7, 12), (7, 14), (7, 15), (18, 1), (18, 2), (18, 3), (19, 3), (20, 3), (21, 3), (23, 3), (23, 6), (23, 12), (24, 2), (24, 3), (24, 4), (24, 5), (24, 6), (24, 8), (29, 2), (29, 3), (29, 4), (29, 5), (29, 6), (29, 7)] [(4, 6), (4, 7), (5, 13), (24, 7), (24, 9)] [8, 9, 10, 11, 12, 15, 16, 17, 22, 26, 27, 28, 30, 31, 32, 33, 34, 35, 36, 37, 38, 39, 40, 42, 43, 44, 45, 46, 47, 48, 49, 50, 51] [13, 14, 25, 41] t t_68 := frA_tr hfr f_71 rfl
        have h_75 : (t_68.1 0 1).toInt = (t1.1 0 1).toInt := ti_eq (f_71.1 0 1 rfl)
        have h_76 : (t_68.1 29 4).toInt = (t1.1 29 4).toInt := ti_eq (f_71.1 29 4 rfl)
        have h_77 : (t_68.1 29 7).toInt = (t1.1 29 7).toInt := ti_eq (f_71.1 29 7 rfl)
        have h_78 : (0 : Int) ≤ (t_68.1 0 1).toInt ∧ (t_68.1 0 1).toInt ≤ 1280 := hok.1 0 1
        have h_79 : (0 : Int) ≤ (t_68.1 18 2).toInt ∧ (t_68.1 18 2).toInt ≤ 2700 := hok.1 18 2
        have h_80 : (0 : Int) ≤ (t_68.1 29 4).toInt ∧ (t_68.1 29 4).toInt ≤ 1281 := hok.1 29 4
        have h_81 : (0 : Int) ≤ (t_68.1 29 7).toInt ∧ (t_68.1 29 7).toInt ≤ 1280 := hok.1 29 7
        replace p_74 : (t_68.1 18 2).toInt ≤ 1281 := p_74
        refine lv_istore (lv' := [(4, .int r_69), (0, .ref (ad 0)), (1, .int w66_1), (2, .int w66_2), (3, .int w66_3)]) C.1 C.2.1 dX11_jobs_70 hl (by decide) rfl (fun ls hl => ?_)
        have hl : lv_has ls 5 [(0, .ref (ad 0)), (1, .int w66_1), (2, .int w66_2), (3, .int w66_3), (4, .int r_69)] := lv_sub hl [1, 2, 3, 4, 0] rfl
        refine lv_iload C.1 C.2.1 dX11_jobs_72 (lv_at hl 4 rfl) ?_
        refine lv_iconst (v := 3) C.1 C.2.1 dX11_jobs_74 (by decide) ?_
        refine lv_icmp_ne (tgt := 122) C.1 C.2.1 dX11_jobs_75 (by decide) (fun c_82 => ?_) (fun c_82 => ?_)
        · replace c_82 : ¬ r_69.toInt = 3 := i_ne c_82
          exact L_122 t_68 d_70 w66_1 w66_2 w66_3 r_69 _ _ _ hok hfr hod hle hdf ⟨by omega, by omega⟩ ⟨by omega, by omega⟩ ⟨by omega, by omega⟩ (show (t_68.1 0 1).toInt = 0 from by omega) (show (t_68.1 18 2).toInt ≤ 1281 from by omega) (show (512 : Int) - w66_3.toInt < (fuel_21 : Int) + 1 from by omega) hP hD hS (lv_sub hl [0, 1, 2, 3, 4] rfl)
        · replace c_82 : r_69.toInt = 3 := i_eq c_82
          refine lv_aload_n C.1 C.2.1 dX11_jobs_78 rfl (lv_at hl 0 rfl) ?_
          refine k_get (v := .ref (ad 7)) C hP 0 rfl rfl inlX11 7 (by decide) m_2_18 rfl dX11_jobs_79 ?_
          refine lv_iconst (v := 1) C.1 C.2.1 dX11_jobs_82 (by decide) ?_
          refine hz_Vi (As := [.int 1]) (rest := []) C hP hD hS hA (T_X3_wants l D K Z Y ad d_70 t_68 hok 1 (show (0 : Int) ≤ (1 : Int32).toInt ∧ (1 : Int32).toInt ≤ 4 from ⟨by decide, by decide⟩)) hE hZ (uwV m_76_10 m_76_11 m_76_12 m_2_17 m_76_13) (hdV 1 (by decide +kernel) rfl) ⟨Nat.le_of_ble_eq_true rfl, Nat.le_of_ble_eq_true rfl⟩ rfl rfl (ci := 2) (q0 := 7) rfl rfl rfl hl.1 (Nat.le_of_ble_eq_true rfl) dX11_jobs_83 ⟨Nat.le_trans (newC_le _ _) (Nat.le_of_ble_eq_true rfl), (Nat.le_of_ble_eq_true rfl)⟩ (fun r_84 t_83 H locs hw hP hD hS => ?_)
          obtain ⟨h_86, h_87⟩ := hw
          refine lv_if_eq (tgt := 122) C.1 C.2.1 dX11_jobs_86 (by decide) (fun c_88 => ?_) (fun c_88 => ?_)
          · replace c_88 : r_84.toInt = 0 := i_eq c_88
            exact L_122 t_68 d_70 w66_1 w66_2 w66_3 r_69 _ _ _ hok hfr hod hle hdf ⟨by omega, by omega⟩ ⟨by omega, by omega⟩ ⟨by omega, by omega⟩ (show (t_68.1 0 1).toInt = 0 from by omega) (show (t_68.1 18 2).toInt ≤ 1281 from by omega) (show (512 : Int) - w66_3.toInt < (fuel_21 : Int) + 1 from by omega) hP hD hS (lv_sub hl [0, 1, 2, 3, 4] rfl)
          · replace c_88 : ¬ r_84.toInt = 0 := i_ne c_88
            refine lv_aload_n C.1 C.2.1 dX11_jobs_89 rfl (lv_at hl 0 rfl) ?_
            refine k_get (v := .ref (ad 5)) C hP 0 rfl rfl inlX11 5 (by decide) m_2_10 rfl dX11_jobs_90 ?_
            refine lv_aload_n C.1 C.2.1 dX11_jobs_93 rfl (lv_at hl 0 rfl) ?_
            refine k_get (v := .ref (ad 7)) C hP 0 rfl rfl inlX11 7 (by decide) m_2_18 rfl dX11_jobs_94 ?_
            have h_89 : (0 : Int) ≤ (t_68.1 7 5).toInt ∧ (t_68.1 7 5).toInt ≤ 1281 := hok.1 7 5
            refine k_get (v := .int (t_68.1 7 5)) C hP 7 rfl rfl inlX3 5 (by decide) m_71_10 rfl dX11_jobs_97 ?_
            refine lv_aload_n C.1 C.2.1 dX11_jobs_100 rfl (lv_at hl 0 rfl) ?_
            refine k_get (v := .ref (ad 7)) C hP 0 rfl rfl inlX11 7 (by decide) m_2_18 rfl dX11_jobs_101 ?_
            have h_90 : (0 : Int) ≤ (t_68.1 7 6).toInt ∧ (t_68.1 7 6).toInt ≤ 1280 := hok.1 7 6
            refine k_get (v := .int (t_68.1 7 6)) C hP 7 rfl rfl inlX3 6 (by decide) m_71_11 rfl dX11_jobs_104 ?_
            refine lv_iconst (v := 1) C.1 C.2.1 dX11_jobs_107 (by decide) ?_
            refine hz_Vv (As := [.int (t_68.1 7 5), .int (t_68.1 7 6), .int 1]) (rest := []) C hP hD hS hA (T_X0_open l D K Z Y ad d_70 t_68 hok ((t_68.1 7 5)) (show (0 : Int) ≤ ((t_68.1 7 5) : Int32).toInt ∧ ((t_68.1 7 5) : Int32).toInt ≤ 1281 from ⟨by omega, by omega⟩) ((t_68.1 7 6)) (show (0 : Int) ≤ ((t_68.1 7 6) : Int32).toInt ∧ ((t_68.1 7 6) : Int32).toInt ≤ 1280 from ⟨by omega, by omega⟩) 1 (show (0 : Int) ≤ (1 : Int32).toInt ∧ (1 : Int32).toInt ≤ 1 from ⟨by decide, by decide⟩)) hE hZ (uwV m_11_22 m_11_23 m_12_0 m_2_2 m_12_1) (hdV 3 (by decide +kernel) rfl) ⟨Nat.le_of_ble_eq_true rfl, Nat.le_of_ble_eq_true rfl⟩ rfl rfl (ci := 0) (q0 := 5) rfl rfl rfl hl.1 (Nat.le_of_ble_eq_true rfl) dX11_jobs_108 ⟨Nat.le_trans (newC_le _ _) (Nat.le_of_ble_eq_true rfl), (Nat.le_of_ble_eq_true rfl)⟩ (fun t_91 H locs hw hP hD hS => ?_)
            obtain ⟨hok, f_93⟩ := hw
            have hfr : frA [(0, 1), (2, 2), (2, 3), (2, 4), (2, 5), (2, 6), (2, 7), (3, 8), (4, 3), (4, 4), (4, 5), (4, 8), (4, 9), (4, 10), (4, 11), (4, 12), (4, 13), (4, 14), (4, 15), (5, 7), (5, 9), (5, 10), (5, 11), (5, 12), (5, 14), (5, 15), (5, 16), (5, 17), (5, 18), (5, 19), (7, 2), (7, 3), (7, 4), (7, 5), (7, 6), (7, 7), (7, 8), (7, 9), (7, 10), (7, 12), (7, 14), (7, 15), (18, 1), (18, 2), (18, 3), (19, 3), (20, 3), (21, 3), (23, 3), (23, 6), (23, 12), (24, 2), (24, 3), (24, 4), (24, 5), (24, 6), (24, 8), (29, 2), (29, 3), (29, 4), (29, 5), (29, 6), (29, 7)] [(4, 6), (4, 7), (5, 13), (24, 7), (24, 9)] [8, 9, 10, 11, 12, 15, 16, 17, 22, 26, 27, 28, 30, 31, 32, 33, 34, 35, 36, 37, 38, 39, 40, 42, 43, 44, 45, 46, 47, 48, 49, 50, 51] [13, 14, 25, 41] t t_91 := frA_tr hfr f_93 rfl
            have h_94 : (t_91.1 7 5).toInt = (t_68.1 7 5).toInt := ti_eq (f_93.1 7 5 rfl)
            have h_95 : (t_91.1 7 6).toInt = (t_68.1 7 6).toInt := ti_eq (f_93.1 7 6 rfl)
            have h_96 : (t_91.1 0 1).toInt = (t_68.1 0 1).toInt := ti_eq (f_93.1 0 1 rfl)
            have h_97 : (t_91.1 18 2).toInt = (t_68.1 18 2).toInt := ti_eq (f_93.1 18 2 rfl)
            have h_98 : (t_91.1 29 4).toInt = (t_68.1 29 4).toInt := ti_eq (f_93.1 29 4 rfl)
            have h_99 : (t_91.1 29 7).toInt = (t_68.1 29 7).toInt := ti_eq (f_93.1 29 7 rfl)
            have h_100 : (0 : Int) ≤ (t_91.1 0 1).toInt ∧ (t_91.1 0 1).toInt ≤ 1280 := hok.1 0 1
            have h_101 : (0 : Int) ≤ (t_91.1 18 2).toInt ∧ (t_91.1 18 2).toInt ≤ 2700 := hok.1 18 2
            have h_102 : (0 : Int) ≤ (t_91.1 29 4).toInt ∧ (t_91.1 29 4).toInt ≤ 1281 := hok.1 29 4
            have h_103 : (0 : Int) ≤ (t_91.1 29 7).toInt ∧ (t_91.1 29 7).toInt ≤ 1280 := hok.1 29 7
            refine lv_aload_n C.1 C.2.1 dX11_jobs_111 rfl (lv_at hl 0 rfl) ?_
            refine k_get (v := .ref (ad 6)) C hP 0 rfl rfl inlX11 6 (by decide) m_2_14 rfl dX11_jobs_112 ?_
            refine lv_bipush (v := 75) C.1 C.2.1 dX11_jobs_115 (by decide) ?_
            refine lv_iconst (v := 1) C.1 C.2.1 dX11_jobs_117 (by decide) ?_
            refine g_DVi (As := [.int 75, .int 1]) (rest := []) C hP hD hS hA (T_X7_printWrongs l D K Z Y ad d_70 t_91 hok hod 75 (show (72 : Int) ≤ (75 : Int32).toInt ∧ (75 : Int32).toInt ≤ 120 from ⟨by decide, by decide⟩) 1 (show (0 : Int) ≤ (1 : Int32).toInt ∧ (1 : Int32).toInt ≤ 1 from ⟨by decide, by decide⟩)) hE hZ hX hle hdf (uwV m_40_9 m_40_10 m_40_11 m_2_13 m_40_12) (hdV 2 (by decide +kernel) rfl) ⟨Nat.le_of_ble_eq_true rfl, Nat.le_of_ble_eq_true rfl⟩ rfl rfl (ci := 6) (q0 := 6) rfl rfl rfl hl.1 (Nat.le_of_ble_eq_true rfl) dX11_jobs_118 ⟨Nat.le_of_ble_eq_true rfl, Nat.le_of_ble_eq_true rfl⟩ (fun r_105 t_104 d_106 H locs hw hP hD hS hln hle hdf => ?_)
            obtain ⟨hok, f_107, hod, h_108, h_109⟩ := hw
            have hfr : frA [(0, 1), (2, 2), (2, 3), (2, 4), (2, 5), (2, 6), (2, 7), (3, 8), (4, 3), (4, 4), (4, 5), (4, 8), (4, 9), (4, 10), (4, 11), (4, 12), (4, 13), (4, 14), (4, 15), (5, 7), (5, 9), (5, 10), (5, 11), (5, 12), (5, 14), (5, 15), (5, 16), (5, 17), (5, 18), (5, 19), (7, 2), (7, 3), (7, 4), (7, 5), (7, 6), (7, 7), (7, 8), (7, 9), (7, 10), (7, 12), (7, 14), (7, 15), (18, 1), (18, 2), (18, 3), (19, 3), (20, 3), (21, 3), (23, 3), (23, 6), (23, 12), (24, 2), (24, 3), (24, 4), (24, 5), (24, 6), (24, 8), (29, 2), (29, 3), (29, 4), (29, 5), (29, 6), (29, 7)] [(4, 6), (4, 7), (5, 13), (24, 7), (24, 9)] [8, 9, 10, 11, 12, 15, 16, 17, 22, 26, 27, 28, 30, 31, 32, 33, 34, 35, 36, 37, 38, 39, 40, 42, 43, 44, 45, 46, 47, 48, 49, 50, 51] [13, 14, 25, 41] t t_104 := frA_tr hfr f_107 rfl
            have h_110 : (t_104.1 7 5).toInt = (t_91.1 7 5).toInt := ti_eq (f_107.1 7 5 rfl)
            have h_111 : (t_104.1 7 6).toInt = (t_91.1 7 6).toInt := ti_eq (f_107.1 7 6 rfl)
            have h_112 : (t_104.1 0 1).toInt = (t_91.1 0 1).toInt := ti_eq (f_107.1 0 1 rfl)
            have h_113 : (t_104.1 18 2).toInt = (t_91.1 18 2).toInt := ti_eq (f_107.1 18 2 rfl)
            have h_114 : (t_104.1 29 4).toInt = (t_91.1 29 4).toInt := ti_eq (f_107.1 29 4 rfl)
            have h_115 : (t_104.1 29 7).toInt = (t_91.1 29 7).toInt := ti_eq (f_107.1 29 7 rfl)
            have h_116 : (0 : Int) ≤ (t_104.1 0 1).toInt ∧ (t_104.1 0 1).toInt ≤ 1280 := hok.1 0 1
            have h_117 : (0 : Int) ≤ (t_104.1 18 2).toInt ∧ (t_104.1 18 2).toInt ≤ 2700 := hok.1 18 2
            have h_118 : (0 : Int) ≤ (t_104.1 29 4).toInt ∧ (t_104.1 29 4).toInt ≤ 1281 := hok.1 29 4
            have h_119 : (0 : Int) ≤ (t_104.1 29 7).toInt ∧ (t_104.1 29 7).toInt ≤ 1280 := hok.1 29 7
            refine lv_pop C.1 C.2.1 dX11_jobs_121 rfl ?_
            exact L_122 t_104 d_106 w66_1 w66_2 w66_3 r_69 _ _ _ hok hfr hod hle hdf ⟨by omega, by omega⟩ ⟨by omega, by omega⟩ ⟨by omega, by omega⟩ (show (t_104.1 0 1).toInt = 0 from by omega) (show (t_104.1 18 2).toInt ≤ 1281 from by omega) (show (512 : Int) - w66_3.toInt < (fuel_21 : Int) + 1 from by omega) hP hD hS (lv_sub hl [0, 1, 2, 3, 4] rfl)
      refine lv_iload_n C.1 C.2.1 dX11_jobs_21 rfl (lv_at hl 3 rfl) ?_
      refine lv_sipush (v := 512) C.1 C.2.1 dX11_jobs_22 (by decide) ?_
      refine lv_icmp_ge (tgt := 159) C.1 C.2.1 dX11_jobs_25 (by decide) (fun c_120 => ?_) (fun c_120 => ?_)
      · replace c_120 : 512 ≤ w21_3.toInt := i_le c_120
        refine lv_iload_n C.1 C.2.1 dX11_jobs_159 rfl (lv_at hl 2 rfl) ?_
        exact g_Diret C hr hlocks hP hD hS rfl ⟨hok, hfr, hod, (i_rng _).1, (i_rng _).2, (show (t1.1 0 1).toInt = 0 from by omega), (show ((t1.1 18 2).toInt ≤ (t.1 18 2).toInt ∨ (t1.1 18 2).toInt ≤ 1281) from by omega)⟩ hle hdf (Nat.le_of_ble_eq_true rfl) (Nat.le_of_ble_eq_true rfl) dX11_jobs_160
      · replace c_120 : w21_3.toInt < 512 := i_nle c_120
        refine lv_aload_n C.1 C.2.1 dX11_jobs_28 rfl (lv_at hl 0 rfl) ?_
        refine k_get (v := .ref (ad 7)) C hP 0 rfl rfl inlX11 7 (by decide) m_2_18 rfl dX11_jobs_29 ?_
        refine hz_Vi (As := []) (rest := []) C hP hD hS hA (T_X3_seek l D K Z Y ad d1 t1 hok ) hE hZ (uwV m_71_12 m_71_13 m_71_14 m_2_17 m_71_15) (hdV 0 (by decide +kernel) rfl) ⟨Nat.le_of_ble_eq_true rfl, Nat.le_of_ble_eq_true rfl⟩ rfl rfl (ci := 2) (q0 := 7) rfl rfl rfl hl.1 (Nat.le_of_ble_eq_true rfl) dX11_jobs_32 ⟨Nat.le_trans (newC_le _ _) (Nat.le_of_ble_eq_true rfl), (Nat.le_of_ble_eq_true rfl)⟩ (fun r_122 t_121 H locs hw hP hD hS => ?_)
        obtain ⟨hok, f_123, h_124, h_125⟩ := hw
        have hfr : frA [(0, 1), (2, 2), (2, 3), (2, 4), (2, 5), (2, 6), (2, 7), (3, 8), (4, 3), (4, 4), (4, 5), (4, 8), (4, 9), (4, 10), (4, 11), (4, 12), (4, 13), (4, 14), (4, 15), (5, 7), (5, 9), (5, 10), (5, 11), (5, 12), (5, 14), (5, 15), (5, 16), (5, 17), (5, 18), (5, 19), (7, 2), (7, 3), (7, 4), (7, 5), (7, 6), (7, 7), (7, 8), (7, 9), (7, 10), (7, 12), (7, 14), (7, 15), (18, 1), (18, 2), (18, 3), (19, 3), (20, 3), (21, 3), (23, 3), (23, 6), (23, 12), (24, 2), (24, 3), (24, 4), (24, 5), (24, 6), (24, 8), (29, 2), (29, 3), (29, 4), (29, 5), (29, 6), (29, 7)] [(4, 6), (4, 7), (5, 13), (24, 7), (24, 9)] [8, 9, 10, 11, 12, 15, 16, 17, 22, 26, 27, 28, 30, 31, 32, 33, 34, 35, 36, 37, 38, 39, 40, 42, 43, 44, 45, 46, 47, 48, 49, 50, 51] [13, 14, 25, 41] t t_121 := frA_tr hfr f_123 rfl
        have h_126 : (t_121.1 0 1).toInt = (t1.1 0 1).toInt := ti_eq (f_123.1 0 1 rfl)
        have h_127 : (t_121.1 18 2).toInt = (t1.1 18 2).toInt := ti_eq (f_123.1 18 2 rfl)
        have h_128 : (t_121.1 29 7).toInt = (t1.1 29 7).toInt := ti_eq (f_123.1 29 7 rfl)
        have h_129 : (0 : Int) ≤ (t_121.1 0 1).toInt ∧ (t_121.1 0 1).toInt ≤ 1280 := hok.1 0 1
        have h_130 : (0 : Int) ≤ (t_121.1 18 2).toInt ∧ (t_121.1 18 2).toInt ≤ 2700 := hok.1 18 2
        have h_131 : (0 : Int) ≤ (t_121.1 29 4).toInt ∧ (t_121.1 29 4).toInt ≤ 1281 := hok.1 29 4
        have h_132 : (0 : Int) ≤ (t_121.1 29 7).toInt ∧ (t_121.1 29 7).toInt ≤ 1280 := hok.1 29 7
        refine lv_if_eq (tgt := 159) C.1 C.2.1 dX11_jobs_35 (by decide) (fun c_133 => ?_) (fun c_133 => ?_)
        · replace c_133 : r_122.toInt = 0 := i_eq c_133
          refine lv_iload_n C.1 C.2.1 dX11_jobs_159 rfl (lv_at hl 2 rfl) ?_
          exact g_Diret C hr hlocks hP hD hS rfl ⟨hok, hfr, hod, (i_rng _).1, (i_rng _).2, (show (t_121.1 0 1).toInt = 0 from by omega), (show ((t_121.1 18 2).toInt ≤ (t.1 18 2).toInt ∨ (t_121.1 18 2).toInt ≤ 1281) from by omega)⟩ hle hdf (Nat.le_of_ble_eq_true rfl) (Nat.le_of_ble_eq_true rfl) dX11_jobs_160
        · replace c_133 : ¬ r_122.toInt = 0 := i_ne c_133
          refine lv_iload_n C.1 C.2.1 dX11_jobs_38 rfl (lv_at hl 2 rfl) ?_
          refine lv_if_ne (tgt := 66) C.1 C.2.1 dX11_jobs_39 (by decide) (fun c_134 => ?_) (fun c_134 => ?_)
          · replace c_134 : ¬ w21_2.toInt = 0 := i_ne c_134
            exact L_66 t_121 d1 w21_1 w21_2 w21_3 _ _ _ hok hfr hod hle hdf ⟨by omega, by omega⟩ ⟨by omega, by omega⟩ (show (t_121.1 0 1).toInt = 0 from by omega) (show ((t_121.1 18 2).toInt ≤ (t.1 18 2).toInt ∨ (t_121.1 18 2).toInt ≤ 1281) from by omega) (show (512 : Int) - w21_3.toInt < (fuel_21 : Int) + 1 from by omega) hP hD hS (lv_sub hl [0, 1, 2, 3] rfl)
          · replace c_134 : w21_2.toInt = 0 := i_eq c_134
            refine lv_aload_n C.1 C.2.1 dX11_jobs_42 rfl (lv_at hl 0 rfl) ?_
            refine k_get (v := .ref (ad 1)) C hP 0 rfl rfl inlX11 0 (by decide) m_2_6 rfl dX11_jobs_43 ?_
            refine lv_iconst (v := 0) C.1 C.2.1 dX11_jobs_46 (by decide) ?_
            refine lv_aload_n C.1 C.2.1 dX11_jobs_47 rfl (lv_at hl 0 rfl) ?_
            refine k_get (v := .ref (ad 2)) C hP 0 rfl rfl inlX11 2 (by decide) m_2_7 rfl dX11_jobs_48 ?_
            refine k_get (v := .ref (ad 8)) C hP 2 rfl rfl inlX9 0 (by decide) m_10_12 rfl dX11_jobs_51 ?_
            refine lv_iconst (v := 0) C.1 C.2.1 dX11_jobs_54 (by decide) ?_
            refine lv_iload_n C.1 C.2.1 dX11_jobs_55 rfl (lv_at hl 1 rfl) ?_
            refine k_copy (ws' := (WX d1) K ad (uF t_121 8 (va_cpy (t_121.2.2.1 1) (t_121.2.2.1 8) (0 : Int32).toNatClampNeg (0 : Int32).toNatClampNeg (w21_1 : Int32).toNatClampNeg))) C hl.1 hP hD hS 1 8 2 rfl rfl rfl rfl (by decide) (by decide) (fun hz => by have hz2 : w21_1.toInt < 0 := i_lt hz; omega) rfl rfl rfl (by have hq1 := clamp_eq (x := (0 : Int32)) (by first | decide | omega); have hq2 := clamp_eq (x := (w21_1 : Int32)) (by first | decide | omega); first | (have hq3 : (0 : Int32).toInt = 0 := rfl; omega) | omega) (by have hq1 := clamp_eq (x := (0 : Int32)) (by first | decide | omega); have hq2 := clamp_eq (x := (w21_1 : Int32)) (by first | decide | omega); first | (have hq3 : (0 : Int32).toInt = 0 := rfl; omega) | omega) (fun i hi => fit_b (hok.2.1 1 _)) m_10_13 m_10_14 m_10_15 m_10_16 (Nat.le_of_ble_eq_true rfl) (Nat.le_of_ble_eq_true rfl) rfl dX11_jobs_56 (fun H locs hP hD hS => ?_)
            have hok : okX (uF t_121 8 (va_cpy (t_121.2.2.1 1) (t_121.2.2.1 8) (0 : Int32).toNatClampNeg (0 : Int32).toNatClampNeg (w21_1 : Int32).toNatClampNeg)) := ⟨hok.1, okB_F hok.2.1 8 (cpy_r (hok.2.1 1) (hok.2.1 8)), trivial⟩
            have hfr : frA [(0, 1), (2, 2), (2, 3), (2, 4), (2, 5), (2, 6), (2, 7), (3, 8), (4, 3), (4, 4), (4, 5), (4, 8), (4, 9), (4, 10), (4, 11), (4, 12), (4, 13), (4, 14), (4, 15), (5, 7), (5, 9), (5, 10), (5, 11), (5, 12), (5, 14), (5, 15), (5, 16), (5, 17), (5, 18), (5, 19), (7, 2), (7, 3), (7, 4), (7, 5), (7, 6), (7, 7), (7, 8), (7, 9), (7, 10), (7, 12), (7, 14), (7, 15), (18, 1), (18, 2), (18, 3), (19, 3), (20, 3), (21, 3), (23, 3), (23, 6), (23, 12), (24, 2), (24, 3), (24, 4), (24, 5), (24, 6), (24, 8), (29, 2), (29, 3), (29, 4), (29, 5), (29, 6), (29, 7)] [(4, 6), (4, 7), (5, 13), (24, 7), (24, 9)] [8, 9, 10, 11, 12, 15, 16, 17, 22, 26, 27, 28, 30, 31, 32, 33, 34, 35, 36, 37, 38, 39, 40, 42, 43, 44, 45, 46, 47, 48, 49, 50, 51] [13, 14, 25, 41] t (uF t_121 8 (va_cpy (t_121.2.2.1 1) (t_121.2.2.1 8) (0 : Int32).toNatClampNeg (0 : Int32).toNatClampNeg (w21_1 : Int32).toNatClampNeg)) := frA_F hfr 8 _ rfl
            refine lv_aload_n C.1 C.2.1 dX11_jobs_59 rfl (lv_at hl 0 rfl) ?_
            refine k_get (v := .ref (ad 7)) C hP 0 rfl rfl inlX11 7 (by decide) m_2_18 rfl dX11_jobs_60 ?_
            refine hz_Vv (As := []) (rest := []) C hP hD hS hA (T_X3_openAccounts l D K Z Y ad d1 (uF t_121 8 (va_cpy (t_121.2.2.1 1) (t_121.2.2.1 8) (0 : Int32).toNatClampNeg (0 : Int32).toNatClampNeg (w21_1 : Int32).toNatClampNeg)) hok ) hE hZ (uwV m_74_4 m_74_5 m_74_6 m_2_17 m_74_7) (hdV 0 (by decide +kernel) rfl) ⟨Nat.le_of_ble_eq_true rfl, Nat.le_of_ble_eq_true rfl⟩ rfl rfl (ci := 2) (q0 := 7) rfl rfl rfl hl.1 (Nat.le_of_ble_eq_true rfl) dX11_jobs_63 ⟨Nat.le_trans (newC_le _ _) (Nat.le_of_ble_eq_true rfl), (Nat.le_of_ble_eq_true rfl)⟩ (fun t_135 H locs hw hP hD hS => ?_)
            obtain ⟨hok, f_137⟩ := hw
            have hfr : frA [(0, 1), (2, 2), (2, 3), (2, 4), (2, 5), (2, 6), (2, 7), (3, 8), (4, 3), (4, 4), (4, 5), (4, 8), (4, 9), (4, 10), (4, 11), (4, 12), (4, 13), (4, 14), (4, 15), (5, 7), (5, 9), (5, 10), (5, 11), (5, 12), (5, 14), (5, 15), (5, 16), (5, 17), (5, 18), (5, 19), (7, 2), (7, 3), (7, 4), (7, 5), (7, 6), (7, 7), (7, 8), (7, 9), (7, 10), (7, 12), (7, 14), (7, 15), (18, 1), (18, 2), (18, 3), (19, 3), (20, 3), (21, 3), (23, 3), (23, 6), (23, 12), (24, 2), (24, 3), (24, 4), (24, 5), (24, 6), (24, 8), (29, 2), (29, 3), (29, 4), (29, 5), (29, 6), (29, 7)] [(4, 6), (4, 7), (5, 13), (24, 7), (24, 9)] [8, 9, 10, 11, 12, 15, 16, 17, 22, 26, 27, 28, 30, 31, 32, 33, 34, 35, 36, 37, 38, 39, 40, 42, 43, 44, 45, 46, 47, 48, 49, 50, 51] [13, 14, 25, 41] t t_135 := frA_tr hfr f_137 rfl
            have h_138 : (t_135.1 0 1).toInt = (t_121.1 0 1).toInt := ti_eq (f_137.1 0 1 rfl)
            have h_139 : (t_135.1 18 2).toInt = (t_121.1 18 2).toInt := ti_eq (f_137.1 18 2 rfl)
            have h_140 : (t_135.1 29 4).toInt = (t_121.1 29 4).toInt := ti_eq (f_137.1 29 4 rfl)
            have h_141 : (t_135.1 29 7).toInt = (t_121.1 29 7).toInt := ti_eq (f_137.1 29 7 rfl)
            have h_142 : (0 : Int) ≤ (t_135.1 0 1).toInt ∧ (t_135.1 0 1).toInt ≤ 1280 := hok.1 0 1
            have h_143 : (0 : Int) ≤ (t_135.1 18 2).toInt ∧ (t_135.1 18 2).toInt ≤ 2700 := hok.1 18 2
            have h_144 : (0 : Int) ≤ (t_135.1 29 4).toInt ∧ (t_135.1 29 4).toInt ≤ 1281 := hok.1 29 4
            have h_145 : (0 : Int) ≤ (t_135.1 29 7).toInt ∧ (t_135.1 29 7).toInt ≤ 1280 := hok.1 29 7
            exact L_66 t_135 d1 w21_1 w21_2 w21_3 _ _ _ hok hfr hod hle hdf ⟨by omega, by omega⟩ ⟨by omega, by omega⟩ (show (t_135.1 0 1).toInt = 0 from by omega) (show ((t_135.1 18 2).toInt ≤ (t.1 18 2).toInt ∨ (t_135.1 18 2).toInt ≤ 1281) from by omega) (show (512 : Int) - w21_3.toInt < (fuel_21 : Int) + 1 from by omega) hP hD hS (lv_sub hl [0, 1, 2, 3] rfl)
  refine lv_aload_n C.1 C.2.1 dX11_jobs_0 rfl (lv_at hl 0 rfl) ?_
  refine hz_Vi (As := []) (rest := []) C hP hD hS hA (T_X11_useUpTape l D K Z Y ad d t hok ) hE hZ (uwV m_10_20 m_10_21 m_10_22 m_1_2 m_10_23) (hdV 0 (by decide +kernel) rfl) ⟨Nat.le_of_ble_eq_true rfl, Nat.le_of_ble_eq_true rfl⟩ rfl rfl (ci := 10) (q0 := 0) rfl rfl rfl hl.1 (Nat.le_of_ble_eq_true rfl) dX11_jobs_1 ⟨Nat.le_trans (newC_le _ _) (Nat.le_of_ble_eq_true rfl), (Nat.le_of_ble_eq_true rfl)⟩ (fun r_147 t_146 H locs hw hP hD hS => ?_)
  obtain ⟨hok, f_148, h_149, h_150, p_151, p_152⟩ := hw
  have hfr : frA [(0, 1), (2, 2), (2, 3), (2, 4), (2, 5), (2, 6), (2, 7), (3, 8), (4, 3), (4, 4), (4, 5), (4, 8), (4, 9), (4, 10), (4, 11), (4, 12), (4, 13), (4, 14), (4, 15), (5, 7), (5, 9), (5, 10), (5, 11), (5, 12), (5, 14), (5, 15), (5, 16), (5, 17), (5, 18), (5, 19), (7, 2), (7, 3), (7, 4), (7, 5), (7, 6), (7, 7), (7, 8), (7, 9), (7, 10), (7, 12), (7, 14), (7, 15), (18, 1), (18, 2), (18, 3), (19, 3), (20, 3), (21, 3), (23, 3), (23, 6), (23, 12), (24, 2), (24, 3), (24, 4), (24, 5), (24, 6), (24, 8), (29, 2), (29, 3), (29, 4), (29, 5), (29, 6), (29, 7)] [(4, 6), (4, 7), (5, 13), (24, 7), (24, 9)] [8, 9, 10, 11, 12, 15, 16, 17, 22, 26, 27, 28, 30, 31, 32, 33, 34, 35, 36, 37, 38, 39, 40, 42, 43, 44, 45, 46, 47, 48, 49, 50, 51] [13, 14, 25, 41] t t_146 := frA_tr hfr f_148 rfl
  have h_153 : (t_146.1 18 2).toInt = (t.1 18 2).toInt := ti_eq (f_148.1 18 2 rfl)
  have h_154 : (t_146.1 29 4).toInt = (t.1 29 4).toInt := ti_eq (f_148.1 29 4 rfl)
  have h_155 : (t_146.1 29 7).toInt = (t.1 29 7).toInt := ti_eq (f_148.1 29 7 rfl)
  have h_156 : (0 : Int) ≤ (t_146.1 0 1).toInt ∧ (t_146.1 0 1).toInt ≤ 1280 := hok.1 0 1
  have h_157 : (0 : Int) ≤ (t_146.1 18 2).toInt ∧ (t_146.1 18 2).toInt ≤ 2700 := hok.1 18 2
  have h_158 : (0 : Int) ≤ (t_146.1 29 4).toInt ∧ (t_146.1 29 4).toInt ≤ 1281 := hok.1 29 4
  have h_159 : (0 : Int) ≤ (t_146.1 29 7).toInt ∧ (t_146.1 29 7).toInt ≤ 1280 := hok.1 29 7
  replace p_151 : r_147.toInt = (t.1 0 1).toInt := p_151
  replace p_152 : (t_146.1 0 1).toInt = 0 := p_152
  refine lv_istore_n (lv' := [(1, .int r_147), (0, .ref (ad 0))]) C.1 C.2.1 dX11_jobs_4 rfl hl (by decide) rfl (fun ls hl => ?_)
  have hl : lv_has ls 5 [(0, .ref (ad 0)), (1, .int r_147)] := lv_sub hl [1, 0] rfl
  refine lv_aload_n C.1 C.2.1 dX11_jobs_5 rfl (lv_at hl 0 rfl) ?_
  refine k_get (v := .ref (ad 7)) C hP 0 rfl rfl inlX11 7 (by decide) m_2_18 rfl dX11_jobs_6 ?_
  refine k_get (v := .ref (ad 29)) C hP 7 rfl rfl inlX3 0 (by decide) m_43_15 rfl dX11_jobs_9 ?_
  refine lv_iconst (v := 0) C.1 C.2.1 dX11_jobs_12 (by decide) ?_
  refine lv_iload_n C.1 C.2.1 dX11_jobs_13 rfl (lv_at hl 1 rfl) ?_
  have h_160 : (0 : Int32).toInt = 0 := rfl
  refine hz_Vv (As := [.int 0, .int r_147]) (rest := []) C hP hD hS hA (T_X9_open l D K Z Y ad d t_146 hok 0 (show (0 : Int) ≤ (0 : Int32).toInt ∧ (0 : Int32).toInt ≤ 0 from ⟨by decide, by decide⟩) (r_147) (show (0 : Int) ≤ (r_147 : Int32).toInt ∧ (r_147 : Int32).toInt ≤ 1280 from ⟨by omega, by omega⟩)) hE hZ (uwV m_43_18 m_12_10 m_12_11 m_1_17 m_12_12) (hdV 2 (by decide +kernel) rfl) ⟨Nat.le_of_ble_eq_true rfl, Nat.le_of_ble_eq_true rfl⟩ rfl rfl (ci := 8) (q0 := 29) rfl rfl rfl hl.1 (Nat.le_of_ble_eq_true rfl) dX11_jobs_14 ⟨Nat.le_trans (newC_le _ _) (Nat.le_of_ble_eq_true rfl), (Nat.le_of_ble_eq_true rfl)⟩ (fun t_161 H locs hw hP hD hS => ?_)
  obtain ⟨hok, f_163, p_164, p_165⟩ := hw
  have hfr : frA [(0, 1), (2, 2), (2, 3), (2, 4), (2, 5), (2, 6), (2, 7), (3, 8), (4, 3), (4, 4), (4, 5), (4, 8), (4, 9), (4, 10), (4, 11), (4, 12), (4, 13), (4, 14), (4, 15), (5, 7), (5, 9), (5, 10), (5, 11), (5, 12), (5, 14), (5, 15), (5, 16), (5, 17), (5, 18), (5, 19), (7, 2), (7, 3), (7, 4), (7, 5), (7, 6), (7, 7), (7, 8), (7, 9), (7, 10), (7, 12), (7, 14), (7, 15), (18, 1), (18, 2), (18, 3), (19, 3), (20, 3), (21, 3), (23, 3), (23, 6), (23, 12), (24, 2), (24, 3), (24, 4), (24, 5), (24, 6), (24, 8), (29, 2), (29, 3), (29, 4), (29, 5), (29, 6), (29, 7)] [(4, 6), (4, 7), (5, 13), (24, 7), (24, 9)] [8, 9, 10, 11, 12, 15, 16, 17, 22, 26, 27, 28, 30, 31, 32, 33, 34, 35, 36, 37, 38, 39, 40, 42, 43, 44, 45, 46, 47, 48, 49, 50, 51] [13, 14, 25, 41] t t_161 := frA_tr hfr f_163 rfl
  have h_166 : (t_161.1 0 1).toInt = (t_146.1 0 1).toInt := ti_eq (f_163.1 0 1 rfl)
  have h_167 : (t_161.1 18 2).toInt = (t_146.1 18 2).toInt := ti_eq (f_163.1 18 2 rfl)
  have h_168 : (0 : Int) ≤ (t_161.1 0 1).toInt ∧ (t_161.1 0 1).toInt ≤ 1280 := hok.1 0 1
  have h_169 : (0 : Int) ≤ (t_161.1 18 2).toInt ∧ (t_161.1 18 2).toInt ≤ 2700 := hok.1 18 2
  have h_170 : (0 : Int) ≤ (t_161.1 29 4).toInt ∧ (t_161.1 29 4).toInt ≤ 1281 := hok.1 29 4
  have h_171 : (0 : Int) ≤ (t_161.1 29 7).toInt ∧ (t_161.1 29 7).toInt ≤ 1280 := hok.1 29 7
  replace p_164 : (t_161.1 29 4).toInt = (0 : Int32).toInt := p_164
  replace p_165 : (t_161.1 29 7).toInt = r_147.toInt := p_165
  refine lv_iconst (v := 0) C.1 C.2.1 dX11_jobs_17 (by decide) ?_
  refine lv_istore_n (lv' := [(2, .int 0), (0, .ref (ad 0)), (1, .int r_147)]) C.1 C.2.1 dX11_jobs_18 rfl hl (by decide) rfl (fun ls hl => ?_)
  have hl : lv_has ls 5 [(0, .ref (ad 0)), (1, .int r_147), (2, .int 0)] := lv_sub hl [1, 2, 0] rfl
  refine lv_iconst (v := 0) C.1 C.2.1 dX11_jobs_19 (by decide) ?_
  refine lv_istore_n (lv' := [(3, .int 0), (0, .ref (ad 0)), (1, .int r_147), (2, .int 0)]) C.1 C.2.1 dX11_jobs_20 rfl hl (by decide) rfl (fun ls hl => ?_)
  have hl : lv_has ls 5 [(0, .ref (ad 0)), (1, .int r_147), (2, .int 0), (3, .int 0)] := lv_sub hl [1, 2, 3, 0] rfl
  exact L_21 513 t_161 d r_147 0 0 _ _ _ hok hfr hod hle hdf ⟨by omega, by omega⟩ ⟨by decide, by decide⟩ (show (t_161.1 0 1).toInt = 0 from by omega) (show ((t_161.1 18 2).toInt ≤ (t.1 18 2).toInt ∨ (t_161.1 18 2).toInt ≤ 1281) from by omega) (show (512 : Int) - 0 < ((513 : Nat) : Int) from by omega) hP hD hS (lv_sub hl [0, 1, 2, 3] rfl)

theorem dX11_advance_0 : decode cX11_advance 0 = .ok (.iconst 0, 1) := by decide +kernel
theorem dX11_advance_1 : decode cX11_advance 1 = .ok (.istore_n 3, 1) := by decide +kernel
theorem dX11_advance_10 : decode cX11_advance 10 = .ok (.if_icmp .ge 48, 3) := by decide +kernel
theorem dX11_advance_13 : decode cX11_advance 13 = .ok (.iload_n 3, 1) := by decide +kernel
theorem dX11_advance_14 : decode cX11_advance 14 = .ok (.iload_n 1, 1) := by decide +kernel
theorem dX11_advance_15 : decode cX11_advance 15 = .ok (.if_icmp .ge 43, 3) := by decide +kernel
theorem dX11_advance_18 : decode cX11_advance 18 = .ok (.aload_n 0, 1) := by decide +kernel
theorem dX11_advance_19 : decode cX11_advance 19 = .ok (.getfield 44, 3) := by decide +kernel
theorem dX11_advance_2 : decode cX11_advance 2 = .ok (.iconst 0, 1) := by decide +kernel
theorem dX11_advance_22 : decode cX11_advance 22 = .ok (.getfield 220, 3) := by decide +kernel
theorem dX11_advance_25 : decode cX11_advance 25 = .ok (.ifCond .ne 33, 3) := by decide +kernel
theorem dX11_advance_28 : decode cX11_advance 28 = .ok (.aload_n 0, 1) := by decide +kernel
theorem dX11_advance_29 : decode cX11_advance 29 = .ok (.getfield 44, 3) := by decide +kernel
theorem dX11_advance_3 : decode cX11_advance 3 = .ok (.istore 4, 2) := by decide +kernel
theorem dX11_advance_32 : decode cX11_advance 32 = .ok (.invokevirtual 298, 3) := by decide +kernel
theorem dX11_advance_35 : decode cX11_advance 35 = .ok (.ifCond .eq 17, 3) := by decide +kernel
theorem dX11_advance_38 : decode cX11_advance 38 = .ok (.iinc 3 1, 3) := by decide +kernel
theorem dX11_advance_41 : decode cX11_advance 41 = .ok (.iload_n 2, 1) := by decide +kernel
theorem dX11_advance_42 : decode cX11_advance 42 = .ok (.ifCond .eq 10, 3) := by decide +kernel
theorem dX11_advance_45 : decode cX11_advance 45 = .ok (.aload_n 0, 1) := by decide +kernel
theorem dX11_advance_46 : decode cX11_advance 46 = .ok (.getfield 57, 3) := by decide +kernel
theorem dX11_advance_49 : decode cX11_advance 49 = .ok (.invokevirtual 299, 3) := by decide +kernel
theorem dX11_advance_5 : decode cX11_advance 5 = .ok (.iload 4, 2) := by decide +kernel
theorem dX11_advance_52 : decode cX11_advance 52 = .ok (.iinc 4 1, 3) := by decide +kernel
theorem dX11_advance_55 : decode cX11_advance 55 = .ok (.goto (-50), 3) := by decide +kernel
theorem dX11_advance_58 : decode cX11_advance 58 = .ok (.iload_n 3, 1) := by decide +kernel
theorem dX11_advance_59 : decode cX11_advance 59 = .ok (.ireturn, 1) := by decide +kernel
theorem dX11_advance_7 : decode cX11_advance 7 = .ok (.iconst 2, 1) := by decide +kernel
theorem dX11_advance_8 : decode cX11_advance 8 = .ok (.iload_n 1, 1) := by decide +kernel
theorem dX11_advance_9 : decode cX11_advance 9 = .ok (.imul, 1) := by decide +kernel
set_option maxHeartbeats 4000000 in
set_option maxRecDepth 100000 in
theorem T_X11_advance (l : Launch) (D : va_G) (K : Nat → ClassId) (Z Y : Nat → Nat) (ad : Nat → Nat) (d : dSt) (t : tSt) (hok : okX t) (hod : okD d) (x1 : Int32) (hx1 : (0 : Int) ≤ x1.toInt ∧ x1.toInt ≤ 100000) (x2 : Int32) (hx2 : (0 : Int) ≤ x2.toInt ∧ x2.toInt ≤ 1) : dMet l yX11_advance cX11_advance 5 (some .int) (rmD 11 12000 3360000) D K Z Y [.ref (ad 0), .int x1, .int x2] ((WX d) K ad t) (QDI D K ad d (fun (r : Int32) (u : tSt) (dd : dSt) => okX u ∧ frA [(3, 8), (4, 3), (4, 4), (4, 5), (4, 8), (4, 10), (4, 11), (4, 12), (4, 13), (4, 14), (4, 15), (18, 1), (18, 3), (19, 3), (20, 3), (21, 3)] [(4, 6)] [10, 11, 12, 15, 16, 17, 22, 32, 33, 34, 35, 36, 37, 38, 39, 40] [13, 14] t u ∧ okD dd ∧ (0 : Int) ≤ r.toInt ∧ r.toInt ≤ 100000)) 12000 3360000 := by
  refine d_met d RX11 ⟨rfl, by decide +kernel⟩ (Nat.le_of_ble_eq_true rfl) ?_
  intro p e s m below meth c A ls C hE hZ hX hr hlocks hA hP hD hS hl
  have hl : lv_has ls 5 [(0, .ref (ad 0)), (1, .int x1), (2, .int x2)] := hl
  have hle : dLe d d := dLe_rf
  have hdf : dFr s.heap.size d d := dFr_rf
  have hokt := hok
  have hfr : frA [(3, 8), (4, 3), (4, 4), (4, 5), (4, 8), (4, 10), (4, 11), (4, 12), (4, 13), (4, 14), (4, 15), (18, 1), (18, 3), (19, 3), (20, 3), (21, 3)] [(4, 6)] [10, 11, 12, 15, 16, 17, 22, 32, 33, 34, 35, 36, 37, 38, 39, 40] [13, 14] t t := frA_rf
  have L_5 : ∀ (fuel_5 : Nat) (t1 : tSt) (d1 : dSt) (w5_3 : Int32) (w5_4 : Int32) (H : Heap) (locs : List Loc) (ls : Array Slot), okX t1 → frA [(3, 8), (4, 3), (4, 4), (4, 5), (4, 8), (4, 10), (4, 11), (4, 12), (4, 13), (4, 14), (4, 15), (18, 1), (18, 3), (19, 3), (20, 3), (21, 3)] [(4, 6)] [10, 11, 12, 15, 16, 17, 22, 32, 33, 34, 35, 36, 37, 38, 39, 40] [13, 14] t t1 → okD d1 → dLe d d1 → dFr s.heap.size d d1 → (0 : Int) ≤ w5_3.toInt ∧ w5_3.toInt ≤ 100000 → (0 : Int) ≤ w5_4.toInt ∧ w5_4.toInt ≤ 262143 → (262143 : Int) - w5_4.toInt < (fuel_5 : Int) → va_P D vwCl ((WX d1) K ad t1) H → va_D A ((WX d1) K ad t1) → va_S A s.heap H locs → lv_has ls 5 [(0, .ref (ad 0)), (1, .int x1), (2, .int x2), (3, .int w5_3), (4, .int w5_4)] → W p l e (rmD 11 12000 3360000) s m [.ref (ad 0), .int x1, .int x2].toArray below meth c H locs (newC d d1) 246800 (MQ below (QDI D K ad d (fun (r : Int32) (u : tSt) (dd : dSt) => okX u ∧ frA [(3, 8), (4, 3), (4, 4), (4, 5), (4, 8), (4, 10), (4, 11), (4, 12), (4, 13), (4, 14), (4, 15), (18, 1), (18, 3), (19, 3), (20, 3), (21, 3)] [(4, 6)] [10, 11, 12, 15, 16, 17, 22, 32, 33, 34, 35, 36, 37, 38, 39, 40] [13, 14] t u ∧ okD dd ∧ (0 : Int) ≤ r.toInt ∧ r.toInt ≤ 100000) s.heap.size A) [.ref (ad 0), .int x1, .int x2].toArray s 12000 3360000 A) (F0 m 5 ls []) := by
    intro fuel_5
    induction fuel_5 with
    | zero =>
      intro t1 d1 w5_3 w5_4 H locs ls hok hfr hod hle hdf hw5_3 hw5_4 hm5_5 hP hD hS hl
      exact absurd hm5_5 (by omega)
    | succ fuel_5 ih_5 =>
      intro t1 d1 w5_3 w5_4 H locs ls hok hfr hod hle hdf hw5_3 hw5_4 hm5_5 hP hD hS hl
      have hm5_5 : (262143 : Int) - w5_4.toInt < (fuel_5 : Int) + 1 := by omega
      have L_52 : ∀ (t1 : tSt) (d1 : dSt) (w52_3 : Int32) (w52_4 : Int32) (H : Heap) (locs : List Loc) (ls : Array Slot), okX t1 → frA [(3, 8), (4, 3), (4, 4), (4, 5), (4, 8), (4, 10), (4, 11), (4, 12), (4, 13), (4, 14), (4, 15), (18, 1), (18, 3), (19, 3), (20, 3), (21, 3)] [(4, 6)] [10, 11, 12, 15, 16, 17, 22, 32, 33, 34, 35, 36, 37, 38, 39, 40] [13, 14] t t1 → okD d1 → dLe d d1 → dFr s.heap.size d d1 → (1 : Int) ≤ x1.toInt ∧ x1.toInt ≤ 100000 → (0 : Int) ≤ w52_3.toInt ∧ w52_3.toInt ≤ 100000 → (0 : Int) ≤ w52_4.toInt ∧ w52_4.toInt ≤ 199999 → (262143 : Int) - w52_4.toInt < (fuel_5 : Int) + 1 → va_P D vwCl ((WX d1) K ad t1) H → va_D A ((WX d1) K ad t1) → va_S A s.heap H locs → lv_has ls 5 [(0, .ref (ad 0)), (1, .int x1), (2, .int x2), (3, .int w52_3), (4, .int w52_4)] → W p l e (rmD 11 12000 3360000) s m [.ref (ad 0), .int x1, .int x2].toArray below meth c H locs (newC d d1) 246800 (MQ below (QDI D K ad d (fun (r : Int32) (u : tSt) (dd : dSt) => okX u ∧ frA [(3, 8), (4, 3), (4, 4), (4, 5), (4, 8), (4, 10), (4, 11), (4, 12), (4, 13), (4, 14), (4, 15), (18, 1), (18, 3), (19, 3), (20, 3), (21, 3)] [(4, 6)] [10, 11, 12, 15, 16, 17, 22, 32, 33, 34, 35, 36, 37, 38, 39, 40] [13, 14] t u ∧ okD dd ∧ (0 : Int) ≤ r.toInt ∧ r.toInt ≤ 100000) s.heap.size A) [.ref (ad 0), .int x1, .int x2].toArray s 12000 3360000 A) (F0 m 52 ls []) := by
        intro t1 d1 w52_3 w52_4 H locs ls hok hfr hod hle hdf hx52_1 hw52_3 hw52_4 hm52_5 hP hD hS hl
        obtain ⟨v_1, e_2⟩ : ∃ z, z = w52_4 + 1 := ⟨_, rfl⟩
        have h_3 : v_1.toInt = w52_4.toInt + 1 := by rw [e_2]; exact ti_iadd (by show (_ : Int) ≤ w52_4.toInt + 1; omega) (by show w52_4.toInt + 1 < (_ : Int); omega)
        refine lv_iinc (v := v_1) (lv' := [(4, .int v_1), (0, .ref (ad 0)), (1, .int x1), (2, .int x2), (3, .int w52_3)]) C.1 C.2.1 dX11_advance_52 hl (k := 4) rfl e_2.symm (by decide) rfl (fun ls hl => ?_)
        have hl : lv_has ls 5 [(0, .ref (ad 0)), (1, .int x1), (2, .int x2), (3, .int w52_3), (4, .int v_1)] := lv_sub hl [1, 2, 3, 4, 0] rfl
        refine lv_goto (tgt := 5) C.1 C.2.1 dX11_advance_55 (by decide) ?_
        exact ih_5 t1 d1 w52_3 v_1 _ _ _ hok hfr hod hle hdf ⟨by omega, by omega⟩ ⟨by omega, by omega⟩ (show (262143 : Int) - v_1.toInt < (fuel_5 : Int) from by omega) hP hD hS (lv_sub hl [0, 1, 2, 3, 4] rfl)
      refine lv_iload C.1 C.2.1 dX11_advance_5 (lv_at hl 4 rfl) ?_
      refine lv_iconst (v := 2) C.1 C.2.1 dX11_advance_7 (by decide) ?_
      refine lv_iload_n C.1 C.2.1 dX11_advance_8 rfl (lv_at hl 1 rfl) ?_
      obtain ⟨v_4, e_5⟩ : ∃ z, z = (2 : Int32) * (x1 : Int32) := ⟨_, rfl⟩
      have h_6 : v_4.toInt = 2 * x1.toInt := by rw [e_5]; exact ti_mull (k := 2) (by decide) (by omega) (by omega)
      refine k_imul (v := v_4) C e_5.symm dX11_advance_9 ?_
      refine lv_icmp_ge (tgt := 58) C.1 C.2.1 dX11_advance_10 (by decide) (fun c_7 => ?_) (fun c_7 => ?_)
      · replace c_7 : v_4.toInt ≤ w5_4.toInt := i_le c_7
        refine lv_iload_n C.1 C.2.1 dX11_advance_58 rfl (lv_at hl 3 rfl) ?_
        exact g_Diret C hr hlocks hP hD hS rfl ⟨hok, hfr, hod, by omega, by omega⟩ hle hdf (Nat.le_of_ble_eq_true rfl) (Nat.le_of_ble_eq_true rfl) dX11_advance_59
      · replace c_7 : w5_4.toInt < v_4.toInt := i_nle c_7
        refine lv_iload_n C.1 C.2.1 dX11_advance_13 rfl (lv_at hl 3 rfl) ?_
        refine lv_iload_n C.1 C.2.1 dX11_advance_14 rfl (lv_at hl 1 rfl) ?_
        refine lv_icmp_ge (tgt := 58) C.1 C.2.1 dX11_advance_15 (by decide) (fun c_8 => ?_) (fun c_8 => ?_)
        · replace c_8 : x1.toInt ≤ w5_3.toInt := i_le c_8
          refine lv_iload_n C.1 C.2.1 dX11_advance_58 rfl (lv_at hl 3 rfl) ?_
          exact g_Diret C hr hlocks hP hD hS rfl ⟨hok, hfr, hod, by omega, by omega⟩ hle hdf (Nat.le_of_ble_eq_true rfl) (Nat.le_of_ble_eq_true rfl) dX11_advance_59
        · replace c_8 : w5_3.toInt < x1.toInt := i_nle c_8
          refine lv_aload_n C.1 C.2.1 dX11_advance_18 rfl (lv_at hl 0 rfl) ?_
          refine k_get (v := .ref (ad 4)) C hP 0 rfl rfl inlX11 4 (by decide) m_2_9 rfl dX11_advance_19 ?_
          have h_9 : (0 : Int) ≤ (t1.1 4 8).toInt ∧ (t1.1 4 8).toInt ≤ 9 := hok.1 4 8
          refine k_get (v := .int (t1.1 4 8)) C hP 4 rfl rfl inlX2 8 (by decide) m_45_11 rfl dX11_advance_22 ?_
          refine lv_if_ne (tgt := 58) C.1 C.2.1 dX11_advance_25 (by decide) (fun c_10 => ?_) (fun c_10 => ?_)
          · replace c_10 : ¬ (t1.1 4 8).toInt = 0 := i_ne c_10
            refine lv_iload_n C.1 C.2.1 dX11_advance_58 rfl (lv_at hl 3 rfl) ?_
            exact g_Diret C hr hlocks hP hD hS rfl ⟨hok, hfr, hod, by omega, by omega⟩ hle hdf (Nat.le_of_ble_eq_true rfl) (Nat.le_of_ble_eq_true rfl) dX11_advance_59
          · replace c_10 : (t1.1 4 8).toInt = 0 := i_eq c_10
            refine lv_aload_n C.1 C.2.1 dX11_advance_28 rfl (lv_at hl 0 rfl) ?_
            refine k_get (v := .ref (ad 4)) C hP 0 rfl rfl inlX11 4 (by decide) m_2_9 rfl dX11_advance_29 ?_
            refine g_DVi (As := []) (rest := []) C hP hD hS hA (T_X2_advance l D K Z Y ad d1 t1 hok hod ) hE hZ hX hle hdf (uwV m_45_12 m_45_13 m_45_14 m_1_23 m_45_15) (hdV 0 (by decide +kernel) rfl) ⟨Nat.le_of_ble_eq_true rfl, Nat.le_of_ble_eq_true rfl⟩ rfl rfl (ci := 1) (q0 := 4) rfl rfl rfl hl.1 (Nat.le_of_ble_eq_true rfl) dX11_advance_32 ⟨Nat.le_of_ble_eq_true rfl, Nat.le_of_ble_eq_true rfl⟩ (fun r_12 t_11 d_13 H locs hw hP hD hS hln hle hdf => ?_)
            obtain ⟨hok, f_14, hod, h_15, h_16⟩ := hw
            have hfr : frA [(3, 8), (4, 3), (4, 4), (4, 5), (4, 8), (4, 10), (4, 11), (4, 12), (4, 13), (4, 14), (4, 15), (18, 1), (18, 3), (19, 3), (20, 3), (21, 3)] [(4, 6)] [10, 11, 12, 15, 16, 17, 22, 32, 33, 34, 35, 36, 37, 38, 39, 40] [13, 14] t t_11 := frA_tr hfr f_14 rfl
            refine lv_if_eq (tgt := 52) C.1 C.2.1 dX11_advance_35 (by decide) (fun c_17 => ?_) (fun c_17 => ?_)
            · replace c_17 : r_12.toInt = 0 := i_eq c_17
              exact L_52 t_11 d_13 w5_3 w5_4 _ _ _ hok hfr hod hle hdf ⟨by omega, by omega⟩ ⟨by omega, by omega⟩ ⟨by omega, by omega⟩ (show (262143 : Int) - w5_4.toInt < (fuel_5 : Int) + 1 from by omega) hP hD hS (lv_sub hl [0, 1, 2, 3, 4] rfl)
            · replace c_17 : ¬ r_12.toInt = 0 := i_ne c_17
              obtain ⟨v_18, e_19⟩ : ∃ z, z = w5_3 + 1 := ⟨_, rfl⟩
              have h_20 : v_18.toInt = w5_3.toInt + 1 := by rw [e_19]; exact ti_iadd (by show (_ : Int) ≤ w5_3.toInt + 1; omega) (by show w5_3.toInt + 1 < (_ : Int); omega)
              refine lv_iinc (v := v_18) (lv' := [(3, .int v_18), (0, .ref (ad 0)), (1, .int x1), (2, .int x2), (4, .int w5_4)]) C.1 C.2.1 dX11_advance_38 hl (k := 3) rfl e_19.symm (by decide) rfl (fun ls hl => ?_)
              have hl : lv_has ls 5 [(0, .ref (ad 0)), (1, .int x1), (2, .int x2), (3, .int v_18), (4, .int w5_4)] := lv_sub hl [1, 2, 3, 0, 4] rfl
              refine lv_iload_n C.1 C.2.1 dX11_advance_41 rfl (lv_at hl 2 rfl) ?_
              refine lv_if_eq (tgt := 52) C.1 C.2.1 dX11_advance_42 (by decide) (fun c_21 => ?_) (fun c_21 => ?_)
              · replace c_21 : x2.toInt = 0 := i_eq c_21
                exact L_52 t_11 d_13 v_18 w5_4 _ _ _ hok hfr hod hle hdf ⟨by omega, by omega⟩ ⟨by omega, by omega⟩ ⟨by omega, by omega⟩ (show (262143 : Int) - w5_4.toInt < (fuel_5 : Int) + 1 from by omega) hP hD hS (lv_sub hl [0, 1, 2, 3, 4] rfl)
              · replace c_21 : ¬ x2.toInt = 0 := i_ne c_21
                refine lv_aload_n C.1 C.2.1 dX11_advance_45 rfl (lv_at hl 0 rfl) ?_
                refine k_get (v := .ref (ad 6)) C hP 0 rfl rfl inlX11 6 (by decide) m_2_14 rfl dX11_advance_46 ?_
                refine g_DVv (As := []) (rest := []) C hP hD hS hA (T_X7_printTrace l D K Z Y ad d_13 t_11 hok hod ) hE hZ hX hle hdf (uwV m_54_21 m_54_22 m_54_23 m_2_13 m_55_0) (hdV 0 (by decide +kernel) rfl) ⟨Nat.le_of_ble_eq_true rfl, Nat.le_of_ble_eq_true rfl⟩ rfl rfl (ci := 6) (q0 := 6) rfl rfl rfl hl.1 (Nat.le_of_ble_eq_true rfl) dX11_advance_49 ⟨Nat.le_of_ble_eq_true rfl, Nat.le_of_ble_eq_true rfl⟩ (fun t_22 d_24 H locs hw hP hD hS hln hle hdf => ?_)
                obtain ⟨hok, f_25, hod⟩ := hw
                have hfr : frA [(3, 8), (4, 3), (4, 4), (4, 5), (4, 8), (4, 10), (4, 11), (4, 12), (4, 13), (4, 14), (4, 15), (18, 1), (18, 3), (19, 3), (20, 3), (21, 3)] [(4, 6)] [10, 11, 12, 15, 16, 17, 22, 32, 33, 34, 35, 36, 37, 38, 39, 40] [13, 14] t t_22 := frA_tr hfr f_25 rfl
                exact L_52 t_22 d_24 v_18 w5_4 _ _ _ hok hfr hod hle hdf ⟨by omega, by omega⟩ ⟨by omega, by omega⟩ ⟨by omega, by omega⟩ (show (262143 : Int) - w5_4.toInt < (fuel_5 : Int) + 1 from by omega) hP hD hS (lv_sub hl [0, 1, 2, 3, 4] rfl)
  refine lv_iconst (v := 0) C.1 C.2.1 dX11_advance_0 (by decide) ?_
  refine lv_istore_n (lv' := [(3, .int 0), (0, .ref (ad 0)), (1, .int x1), (2, .int x2)]) C.1 C.2.1 dX11_advance_1 rfl hl (by decide) rfl (fun ls hl => ?_)
  have hl : lv_has ls 5 [(0, .ref (ad 0)), (1, .int x1), (2, .int x2), (3, .int 0)] := lv_sub hl [1, 2, 3, 0] rfl
  refine lv_iconst (v := 0) C.1 C.2.1 dX11_advance_2 (by decide) ?_
  refine lv_istore (lv' := [(4, .int 0), (0, .ref (ad 0)), (1, .int x1), (2, .int x2), (3, .int 0)]) C.1 C.2.1 dX11_advance_3 hl (by decide) rfl (fun ls hl => ?_)
  have hl : lv_has ls 5 [(0, .ref (ad 0)), (1, .int x1), (2, .int x2), (3, .int 0), (4, .int 0)] := lv_sub hl [1, 2, 3, 4, 0] rfl
  exact L_5 262144 t d 0 0 _ _ _ hok hfr hod hle hdf ⟨by decide, by decide⟩ ⟨by decide, by decide⟩ (show (262143 : Int) - 0 < ((262144 : Nat) : Int) from by omega) hP hD hS (lv_sub hl [0, 1, 2, 3, 4] rfl)

theorem dX11_run_0 : decode cX11_run 0 = .ok (.iload_n 1, 1) := by decide +kernel
theorem dX11_run_1 : decode cX11_run 1 = .ok (.ifCond .lt 9, 3) := by decide +kernel
theorem dX11_run_10 : decode cX11_run 10 = .ok (.iconst 0, 1) := by decide +kernel
theorem dX11_run_11 : decode cX11_run 11 = .ok (.goto 9, 3) := by decide +kernel
theorem dX11_run_14 : decode cX11_run 14 = .ok (.aload_n 0, 1) := by decide +kernel
theorem dX11_run_15 : decode cX11_run 15 = .ok (.iload_n 1, 1) := by decide +kernel
theorem dX11_run_16 : decode cX11_run 16 = .ok (.iconst 0, 1) := by decide +kernel
theorem dX11_run_17 : decode cX11_run 17 = .ok (.invokevirtual 147, 3) := by decide +kernel
theorem dX11_run_20 : decode cX11_run 20 = .ok (.ireturn, 1) := by decide +kernel
theorem dX11_run_4 : decode cX11_run 4 = .ok (.iload_n 1, 1) := by decide +kernel
theorem dX11_run_5 : decode cX11_run 5 = .ok (.ldc 146, 2) := by decide +kernel
theorem dX11_run_7 : decode cX11_run 7 = .ok (.if_icmp .le 7, 3) := by decide +kernel
set_option maxHeartbeats 4000000 in
set_option maxRecDepth 100000 in
theorem T_X11_run (l : Launch) (D : va_G) (K : Nat → ClassId) (Z Y : Nat → Nat) (ad : Nat → Nat) (d : dSt) (t : tSt) (hok : okX t) (hod : okD d) (x1 : Int32) : dMet l yX11_run cX11_run 2 (some .int) (rmD 12 13000 3640000) D K Z Y [.ref (ad 0), .int x1] ((WX d) K ad t) (QDI D K ad d (fun (r : Int32) (u : tSt) (dd : dSt) => okX u ∧ frA [(3, 8), (4, 3), (4, 4), (4, 5), (4, 8), (4, 10), (4, 11), (4, 12), (4, 13), (4, 14), (4, 15), (18, 1), (18, 3), (19, 3), (20, 3), (21, 3)] [(4, 6)] [10, 11, 12, 15, 16, 17, 22, 32, 33, 34, 35, 36, 37, 38, 39, 40] [13, 14] t u ∧ okD dd ∧ (0 : Int) ≤ r.toInt ∧ r.toInt ≤ 100000)) 13000 3640000 := by
  refine d_met d RX11 ⟨rfl, by decide +kernel⟩ (Nat.le_of_ble_eq_true rfl) ?_
  intro p e s m below meth c A ls C hE hZ hX hr hlocks hA hP hD hS hl
  have hl : lv_has ls 2 [(0, .ref (ad 0)), (1, .int x1)] := hl
  have hle : dLe d d := dLe_rf
  have hdf : dFr s.heap.size d d := dFr_rf
  have hokt := hok
  have hfr : frA [(3, 8), (4, 3), (4, 4), (4, 5), (4, 8), (4, 10), (4, 11), (4, 12), (4, 13), (4, 14), (4, 15), (18, 1), (18, 3), (19, 3), (20, 3), (21, 3)] [(4, 6)] [10, 11, 12, 15, 16, 17, 22, 32, 33, 34, 35, 36, 37, 38, 39, 40] [13, 14] t t := frA_rf
  refine lv_iload_n C.1 C.2.1 dX11_run_0 rfl (lv_at hl 1 rfl) ?_
  refine lv_if_lt (tgt := 10) C.1 C.2.1 dX11_run_1 (by decide) (fun c_1 => ?_) (fun c_1 => ?_)
  · replace c_1 : x1.toInt < 0 := i_lt c_1
    refine lv_iconst (v := 0) C.1 C.2.1 dX11_run_10 (by decide) ?_
    refine lv_goto (tgt := 20) C.1 C.2.1 dX11_run_11 (by decide) ?_
    exact g_Diret C hr hlocks hP hD hS rfl ⟨hok, hfr, hod, by decide, by decide⟩ hle hdf (Nat.le_of_ble_eq_true rfl) (Nat.le_of_ble_eq_true rfl) dX11_run_20
  · replace c_1 : 0 ≤ x1.toInt := i_nlt c_1
    refine lv_iload_n C.1 C.2.1 dX11_run_4 rfl (lv_at hl 1 rfl) ?_
    refine lv_ldc (v := 100000) C.1 C.2.1 C.2.2.2.1 (C.2.2.2.2.1 _ m_45_6) dX11_run_5 ?_
    refine lv_icmp_le (tgt := 14) C.1 C.2.1 dX11_run_7 (by decide) (fun c_2 => ?_) (fun c_2 => ?_)
    · replace c_2 : x1.toInt ≤ 100000 := i_le c_2
      refine lv_aload_n C.1 C.2.1 dX11_run_14 rfl (lv_at hl 0 rfl) ?_
      refine lv_iload_n C.1 C.2.1 dX11_run_15 rfl (lv_at hl 1 rfl) ?_
      refine lv_iconst (v := 0) C.1 C.2.1 dX11_run_16 (by decide) ?_
      refine g_DVi (As := [.int x1, .int 0]) (rest := []) C hP hD hS hA (T_X11_advance l D K Z Y ad d t hok hod (x1) (show (0 : Int) ≤ (x1 : Int32).toInt ∧ (x1 : Int32).toInt ≤ 100000 from ⟨by omega, by omega⟩) 0 (show (0 : Int) ≤ (0 : Int32).toInt ∧ (0 : Int32).toInt ≤ 1 from ⟨by decide, by decide⟩)) hE hZ hX hle hdf (uwV m_45_7 m_45_8 m_45_9 m_1_2 m_45_10) (hdV 2 (by decide +kernel) rfl) ⟨Nat.le_of_ble_eq_true rfl, Nat.le_of_ble_eq_true rfl⟩ rfl rfl (ci := 10) (q0 := 0) rfl rfl rfl hl.1 (Nat.le_of_ble_eq_true rfl) dX11_run_17 ⟨Nat.le_of_ble_eq_true rfl, Nat.le_of_ble_eq_true rfl⟩ (fun r_4 t_3 d_5 H locs hw hP hD hS hln hle hdf => ?_)
      obtain ⟨hok, f_6, hod, h_7, h_8⟩ := hw
      have hfr : frA [(3, 8), (4, 3), (4, 4), (4, 5), (4, 8), (4, 10), (4, 11), (4, 12), (4, 13), (4, 14), (4, 15), (18, 1), (18, 3), (19, 3), (20, 3), (21, 3)] [(4, 6)] [10, 11, 12, 15, 16, 17, 22, 32, 33, 34, 35, 36, 37, 38, 39, 40] [13, 14] t t_3 := frA_tr hfr f_6 rfl
      exact g_Diret C hr hlocks hP hD hS rfl ⟨hok, hfr, hod, by omega, by omega⟩ hle hdf (Nat.le_of_ble_eq_true rfl) (Nat.le_of_ble_eq_true rfl) dX11_run_20
    · replace c_2 : 100000 < x1.toInt := i_nle c_2
      refine lv_iconst (v := 0) C.1 C.2.1 dX11_run_10 (by decide) ?_
      refine lv_goto (tgt := 20) C.1 C.2.1 dX11_run_11 (by decide) ?_
      exact g_Diret C hr hlocks hP hD hS rfl ⟨hok, hfr, hod, by decide, by decide⟩ hle hdf (Nat.le_of_ble_eq_true rfl) (Nat.le_of_ble_eq_true rfl) dX11_run_20

theorem dX11_trace_0 : decode cX11_trace 0 = .ok (.iload_n 1, 1) := by decide +kernel
theorem dX11_trace_1 : decode cX11_trace 1 = .ok (.ifCond .lt 10, 3) := by decide +kernel
theorem dX11_trace_11 : decode cX11_trace 11 = .ok (.iconst 0, 1) := by decide +kernel
theorem dX11_trace_12 : decode cX11_trace 12 = .ok (.goto 9, 3) := by decide +kernel
theorem dX11_trace_15 : decode cX11_trace 15 = .ok (.aload_n 0, 1) := by decide +kernel
theorem dX11_trace_16 : decode cX11_trace 16 = .ok (.iload_n 1, 1) := by decide +kernel
theorem dX11_trace_17 : decode cX11_trace 17 = .ok (.iconst 1, 1) := by decide +kernel
theorem dX11_trace_18 : decode cX11_trace 18 = .ok (.invokevirtual 147, 3) := by decide +kernel
theorem dX11_trace_21 : decode cX11_trace 21 = .ok (.ireturn, 1) := by decide +kernel
theorem dX11_trace_4 : decode cX11_trace 4 = .ok (.iload_n 1, 1) := by decide +kernel
theorem dX11_trace_5 : decode cX11_trace 5 = .ok (.sipush 300, 3) := by decide +kernel
theorem dX11_trace_8 : decode cX11_trace 8 = .ok (.if_icmp .le 7, 3) := by decide +kernel
set_option maxHeartbeats 4000000 in
set_option maxRecDepth 100000 in
theorem T_X11_trace (l : Launch) (D : va_G) (K : Nat → ClassId) (Z Y : Nat → Nat) (ad : Nat → Nat) (d : dSt) (t : tSt) (hok : okX t) (hod : okD d) (x1 : Int32) : dMet l yX11_trace cX11_trace 2 (some .int) (rmD 12 13000 3640000) D K Z Y [.ref (ad 0), .int x1] ((WX d) K ad t) (QDI D K ad d (fun (r : Int32) (u : tSt) (dd : dSt) => okX u ∧ frA [(3, 8), (4, 3), (4, 4), (4, 5), (4, 8), (4, 10), (4, 11), (4, 12), (4, 13), (4, 14), (4, 15), (18, 1), (18, 3), (19, 3), (20, 3), (21, 3)] [(4, 6)] [10, 11, 12, 15, 16, 17, 22, 32, 33, 34, 35, 36, 37, 38, 39, 40] [13, 14] t u ∧ okD dd ∧ (0 : Int) ≤ r.toInt ∧ r.toInt ≤ 100000)) 13000 3640000 := by
  refine d_met d RX11 ⟨rfl, by decide +kernel⟩ (Nat.le_of_ble_eq_true rfl) ?_
  intro p e s m below meth c A ls C hE hZ hX hr hlocks hA hP hD hS hl
  have hl : lv_has ls 2 [(0, .ref (ad 0)), (1, .int x1)] := hl
  have hle : dLe d d := dLe_rf
  have hdf : dFr s.heap.size d d := dFr_rf
  have hokt := hok
  have hfr : frA [(3, 8), (4, 3), (4, 4), (4, 5), (4, 8), (4, 10), (4, 11), (4, 12), (4, 13), (4, 14), (4, 15), (18, 1), (18, 3), (19, 3), (20, 3), (21, 3)] [(4, 6)] [10, 11, 12, 15, 16, 17, 22, 32, 33, 34, 35, 36, 37, 38, 39, 40] [13, 14] t t := frA_rf
  refine lv_iload_n C.1 C.2.1 dX11_trace_0 rfl (lv_at hl 1 rfl) ?_
  refine lv_if_lt (tgt := 11) C.1 C.2.1 dX11_trace_1 (by decide) (fun c_1 => ?_) (fun c_1 => ?_)
  · replace c_1 : x1.toInt < 0 := i_lt c_1
    refine lv_iconst (v := 0) C.1 C.2.1 dX11_trace_11 (by decide) ?_
    refine lv_goto (tgt := 21) C.1 C.2.1 dX11_trace_12 (by decide) ?_
    exact g_Diret C hr hlocks hP hD hS rfl ⟨hok, hfr, hod, by decide, by decide⟩ hle hdf (Nat.le_of_ble_eq_true rfl) (Nat.le_of_ble_eq_true rfl) dX11_trace_21
  · replace c_1 : 0 ≤ x1.toInt := i_nlt c_1
    refine lv_iload_n C.1 C.2.1 dX11_trace_4 rfl (lv_at hl 1 rfl) ?_
    refine lv_sipush (v := 300) C.1 C.2.1 dX11_trace_5 (by decide) ?_
    refine lv_icmp_le (tgt := 15) C.1 C.2.1 dX11_trace_8 (by decide) (fun c_2 => ?_) (fun c_2 => ?_)
    · replace c_2 : x1.toInt ≤ 300 := i_le c_2
      refine lv_aload_n C.1 C.2.1 dX11_trace_15 rfl (lv_at hl 0 rfl) ?_
      refine lv_iload_n C.1 C.2.1 dX11_trace_16 rfl (lv_at hl 1 rfl) ?_
      refine lv_iconst (v := 1) C.1 C.2.1 dX11_trace_17 (by decide) ?_
      refine g_DVi (As := [.int x1, .int 1]) (rest := []) C hP hD hS hA (T_X11_advance l D K Z Y ad d t hok hod (x1) (show (0 : Int) ≤ (x1 : Int32).toInt ∧ (x1 : Int32).toInt ≤ 100000 from ⟨by omega, by omega⟩) 1 (show (0 : Int) ≤ (1 : Int32).toInt ∧ (1 : Int32).toInt ≤ 1 from ⟨by decide, by decide⟩)) hE hZ hX hle hdf (uwV m_45_7 m_45_8 m_45_9 m_1_2 m_45_10) (hdV 2 (by decide +kernel) rfl) ⟨Nat.le_of_ble_eq_true rfl, Nat.le_of_ble_eq_true rfl⟩ rfl rfl (ci := 10) (q0 := 0) rfl rfl rfl hl.1 (Nat.le_of_ble_eq_true rfl) dX11_trace_18 ⟨Nat.le_of_ble_eq_true rfl, Nat.le_of_ble_eq_true rfl⟩ (fun r_4 t_3 d_5 H locs hw hP hD hS hln hle hdf => ?_)
      obtain ⟨hok, f_6, hod, h_7, h_8⟩ := hw
      have hfr : frA [(3, 8), (4, 3), (4, 4), (4, 5), (4, 8), (4, 10), (4, 11), (4, 12), (4, 13), (4, 14), (4, 15), (18, 1), (18, 3), (19, 3), (20, 3), (21, 3)] [(4, 6)] [10, 11, 12, 15, 16, 17, 22, 32, 33, 34, 35, 36, 37, 38, 39, 40] [13, 14] t t_3 := frA_tr hfr f_6 rfl
      exact g_Diret C hr hlocks hP hD hS rfl ⟨hok, hfr, hod, by omega, by omega⟩ hle hdf (Nat.le_of_ble_eq_true rfl) (Nat.le_of_ble_eq_true rfl) dX11_trace_21
    · replace c_2 : 300 < x1.toInt := i_nle c_2
      refine lv_iconst (v := 0) C.1 C.2.1 dX11_trace_11 (by decide) ?_
      refine lv_goto (tgt := 21) C.1 C.2.1 dX11_trace_12 (by decide) ?_
      exact g_Diret C hr hlocks hP hD hS rfl ⟨hok, hfr, hod, by decide, by decide⟩ hle hdf (Nat.le_of_ble_eq_true rfl) (Nat.le_of_ble_eq_true rfl) dX11_trace_21
