/-! ===== what every contract of the total walk takes for granted of the fixed part of the heap ===== -/
def sOwn (i : Nat) : String × Nat × String := [(RX1, 33, " ABCDEFGHI~JKLMNOPQR[#STUVWXYZ0123456789.,()+-*/=$<>@;:'"), (RX1, 44, "NOP ADD SUB MUL DIV NUM CHARHLT INT SLA SRA SLAXSRAXSLC SRC MOVE"), (RX1, 50, "LDA LD1 LD2 LD3 LD4 LD5 LD6 LDX LDANLD1NLD2NLD3NLD4NLD5NLD6NLDXNSTA ST1 ST2 ST3 ST4 ST5 ST6 STX STJ STZ JBUSIOC IN  OUT JRED"), (RX1, 52, "JMP JSJ JOV JNOVJL  JE  JG  JGE JNE JLE "), (RX1, 54, "JAN JAZ JAP JANNJANZJANPJ1N J1Z J1P J1NNJ1NZJ1NPJ2N J2Z J2P J2NNJ2NZJ2NPJ3N J3Z J3P J3NNJ3NZJ3NPJ4N J4Z J4P J4NNJ4NZJ4NPJ5N J5Z J5P J5NNJ5NZJ5NPJ6N J6Z J6P J6NNJ6NZJ6NPJXN JXZ JXP JXNNJXNZJXNP"), (RX1, 56, "INCADECAENTAENNAINC1DEC1ENT1ENN1INC2DEC2ENT2ENN2INC3DEC3ENT3ENN3INC4DEC4ENT4ENN4INC5DEC5ENT5ENN5INC6DEC6ENT6ENN6INCXDECXENTXENNXCMPACMP1CMP2CMP3CMP4CMP5CMP6CMPX"), (RX1, 58, "EQU ORIGCON ALF END FADDFSUBFMULFDIVFCMPFLOTFIX "), (RX3, 98, "*JOB "), (RX3, 126, "DUMP"), (RX3, 128, "LIST"), (RX3, 130, "NAMES"), (RX3, 132, "DECK"), (RX3, 134, "TRACE"), (RX3, 49, "*DATA"), (RX3, 72, "*LOAD"), (RX3, 77, "*SAME"), (RX3, 58, "*END"), (RX7, 195, "HALT"), (RX7, 197, "LIMIT"), (RX7, 199, "FAULT"), (RX7, 201, "ERROR"), (RX7, 203, "CARD"), (RX7, 205, "JOBS"), (RX12, 165, " ABCDEFGHI~JKLMNOPQR[#STUVWXYZ0123456789.,()+-*/=$<>@;:'"), (RX12, 561, "NOP ADD SUB MUL DIV NUM CHARHLT INT SLA SRA SLAXSRAXSLC SRC MOVELDA LD1 LD2 LD3 LD4 LD5 LD6 LDX LDANLD1NLD2NLD3NLD4NLD5NLD6NLDXNSTA ST1 ST2 ST3 ST4 ST5 ST6 STX STJ STZ JBUSIOC IN  OUT JREDJMP JSJ JOV JNOVJL  JE  JG  JGE JNE JLE JAN JAZ JAP JANNJANZJANPJ1N J1Z J1P J1NNJ1NZJ1NPJ2N J2Z J2P J2NNJ2NZJ2NPJ3N J3Z J3P J3NNJ3NZJ3NPJ4N J4Z J4P J4NNJ4NZJ4NPJ5N J5Z J5P J5NNJ5NZJ5NPJ6N J6Z J6P J6NNJ6NZJ6NPJXN JXZ JXP JXNNJXNZJXNPINCADECAENTAENNAINC1DEC1ENT1ENN1INC2DEC2ENT2ENN2INC3DEC3ENT3ENN3INC4DEC4ENT4ENN4INC5DEC5ENT5ENN5INC6DEC6ENT6ENN6INCXDECXENTXENNXCMPACMP1CMP2CMP3CMP4CMP5CMP6CMPXEQU ORIGCON ALF END FADDFSUBFMULFDIVFCMPFLOTFIX "), (RX12, 728, "*JOB"), (RX12, 754, "DUMP"), (RX12, 756, "LIST"), (RX12, 758, "NAMES"), (RX12, 760, "DECK"), (RX12, 762, "TRACE"), (RX12, 776, "*DATA"), (RX12, 782, "*END"), (RX12, 791, "*SAME"), (RX12, 793, "*LOAD"), (RX12, 829, "HALT"), (RX12, 831, "LIMIT"), (RX12, 833, "FAULT"), (RX12, 835, "ERROR"), (RX12, 837, "CARD"), (RX12, 852, "JOBS ")].getD i ("", 0, "")
def sByt (i : Nat) : List Int32 := [[32, 65, 66, 67, 68, 69, 70, 71, 72, 73, 126, 74, 75, 76, 77, 78, 79, 80, 81, 82, 91, 35, 83, 84, 85, 86, 87, 88, 89, 90, 48, 49, 50, 51, 52, 53, 54, 55, 56, 57, 46, 44, 40, 41, 43, 45, 42, 47, 61, 36, 60, 62, 64, 59, 58, 39], [78, 79, 80, 32, 65, 68, 68, 32, 83, 85, 66, 32, 77, 85, 76, 32, 68, 73, 86, 32, 78, 85, 77, 32, 67, 72, 65, 82, 72, 76, 84, 32, 73, 78, 84, 32, 83, 76, 65, 32, 83, 82, 65, 32, 83, 76, 65, 88, 83, 82, 65, 88, 83, 76, 67, 32, 83, 82, 67, 32, 77, 79, 86, 69], [76, 68, 65, 32, 76, 68, 49, 32, 76, 68, 50, 32, 76, 68, 51, 32, 76, 68, 52, 32, 76, 68, 53, 32, 76, 68, 54, 32, 76, 68, 88, 32, 76, 68, 65, 78, 76, 68, 49, 78, 76, 68, 50, 78, 76, 68, 51, 78, 76, 68, 52, 78, 76, 68, 53, 78, 76, 68, 54, 78, 76, 68, 88, 78, 83, 84, 65, 32, 83, 84, 49, 32, 83, 84, 50, 32, 83, 84, 51, 32, 83, 84, 52, 32, 83, 84, 53, 32, 83, 84, 54, 32, 83, 84, 88, 32, 83, 84, 74, 32, 83, 84, 90, 32, 74, 66, 85, 83, 73, 79, 67, 32, 73, 78, 32, 32, 79, 85, 84, 32, 74, 82, 69, 68], [74, 77, 80, 32, 74, 83, 74, 32, 74, 79, 86, 32, 74, 78, 79, 86, 74, 76, 32, 32, 74, 69, 32, 32, 74, 71, 32, 32, 74, 71, 69, 32, 74, 78, 69, 32, 74, 76, 69, 32], [74, 65, 78, 32, 74, 65, 90, 32, 74, 65, 80, 32, 74, 65, 78, 78, 74, 65, 78, 90, 74, 65, 78, 80, 74, 49, 78, 32, 74, 49, 90, 32, 74, 49, 80, 32, 74, 49, 78, 78, 74, 49, 78, 90, 74, 49, 78, 80, 74, 50, 78, 32, 74, 50, 90, 32, 74, 50, 80, 32, 74, 50, 78, 78, 74, 50, 78, 90, 74, 50, 78, 80, 74, 51, 78, 32, 74, 51, 90, 32, 74, 51, 80, 32, 74, 51, 78, 78, 74, 51, 78, 90, 74, 51, 78, 80, 74, 52, 78, 32, 74, 52, 90, 32, 74, 52, 80, 32, 74, 52, 78, 78, 74, 52, 78, 90, 74, 52, 78, 80, 74, 53, 78, 32, 74, 53, 90, 32, 74, 53, 80, 32, 74, 53, 78, 78, 74, 53, 78, 90, 74, 53, 78, 80, 74, 54, 78, 32, 74, 54, 90, 32, 74, 54, 80, 32, 74, 54, 78, 78, 74, 54, 78, 90, 74, 54, 78, 80, 74, 88, 78, 32, 74, 88, 90, 32, 74, 88, 80, 32, 74, 88, 78, 78, 74, 88, 78, 90, 74, 88, 78, 80], [73, 78, 67, 65, 68, 69, 67, 65, 69, 78, 84, 65, 69, 78, 78, 65, 73, 78, 67, 49, 68, 69, 67, 49, 69, 78, 84, 49, 69, 78, 78, 49, 73, 78, 67, 50, 68, 69, 67, 50, 69, 78, 84, 50, 69, 78, 78, 50, 73, 78, 67, 51, 68, 69, 67, 51, 69, 78, 84, 51, 69, 78, 78, 51, 73, 78, 67, 52, 68, 69, 67, 52, 69, 78, 84, 52, 69, 78, 78, 52, 73, 78, 67, 53, 68, 69, 67, 53, 69, 78, 84, 53, 69, 78, 78, 53, 73, 78, 67, 54, 68, 69, 67, 54, 69, 78, 84, 54, 69, 78, 78, 54, 73, 78, 67, 88, 68, 69, 67, 88, 69, 78, 84, 88, 69, 78, 78, 88, 67, 77, 80, 65, 67, 77, 80, 49, 67, 77, 80, 50, 67, 77, 80, 51, 67, 77, 80, 52, 67, 77, 80, 53, 67, 77, 80, 54, 67, 77, 80, 88], [69, 81, 85, 32, 79, 82, 73, 71, 67, 79, 78, 32, 65, 76, 70, 32, 69, 78, 68, 32, 70, 65, 68, 68, 70, 83, 85, 66, 70, 77, 85, 76, 70, 68, 73, 86, 70, 67, 77, 80, 70, 76, 79, 84, 70, 73, 88, 32], [42, 74, 79, 66, 32], [68, 85, 77, 80], [76, 73, 83, 84], [78, 65, 77, 69, 83], [68, 69, 67, 75], [84, 82, 65, 67, 69], [42, 68, 65, 84, 65], [42, 76, 79, 65, 68], [42, 83, 65, 77, 69], [42, 69, 78, 68], [72, 65, 76, 84], [76, 73, 77, 73, 84], [70, 65, 85, 76, 84], [69, 82, 82, 79, 82], [67, 65, 82, 68], [74, 79, 66, 83], [32, 65, 66, 67, 68, 69, 70, 71, 72, 73, 126, 74, 75, 76, 77, 78, 79, 80, 81, 82, 91, 35, 83, 84, 85, 86, 87, 88, 89, 90, 48, 49, 50, 51, 52, 53, 54, 55, 56, 57, 46, 44, 40, 41, 43, 45, 42, 47, 61, 36, 60, 62, 64, 59, 58, 39], [78, 79, 80, 32, 65, 68, 68, 32, 83, 85, 66, 32, 77, 85, 76, 32, 68, 73, 86, 32, 78, 85, 77, 32, 67, 72, 65, 82, 72, 76, 84, 32, 73, 78, 84, 32, 83, 76, 65, 32, 83, 82, 65, 32, 83, 76, 65, 88, 83, 82, 65, 88, 83, 76, 67, 32, 83, 82, 67, 32, 77, 79, 86, 69, 76, 68, 65, 32, 76, 68, 49, 32, 76, 68, 50, 32, 76, 68, 51, 32, 76, 68, 52, 32, 76, 68, 53, 32, 76, 68, 54, 32, 76, 68, 88, 32, 76, 68, 65, 78, 76, 68, 49, 78, 76, 68, 50, 78, 76, 68, 51, 78, 76, 68, 52, 78, 76, 68, 53, 78, 76, 68, 54, 78, 76, 68, 88, 78, 83, 84, 65, 32, 83, 84, 49, 32, 83, 84, 50, 32, 83, 84, 51, 32, 83, 84, 52, 32, 83, 84, 53, 32, 83, 84, 54, 32, 83, 84, 88, 32, 83, 84, 74, 32, 83, 84, 90, 32, 74, 66, 85, 83, 73, 79, 67, 32, 73, 78, 32, 32, 79, 85, 84, 32, 74, 82, 69, 68, 74, 77, 80, 32, 74, 83, 74, 32, 74, 79, 86, 32, 74, 78, 79, 86, 74, 76, 32, 32, 74, 69, 32, 32, 74, 71, 32, 32, 74, 71, 69, 32, 74, 78, 69, 32, 74, 76, 69, 32, 74, 65, 78, 32, 74, 65, 90, 32, 74, 65, 80, 32, 74, 65, 78, 78, 74, 65, 78, 90, 74, 65, 78, 80, 74, 49, 78, 32, 74, 49, 90, 32, 74, 49, 80, 32, 74, 49, 78, 78, 74, 49, 78, 90, 74, 49, 78, 80, 74, 50, 78, 32, 74, 50, 90, 32, 74, 50, 80, 32, 74, 50, 78, 78, 74, 50, 78, 90, 74, 50, 78, 80, 74, 51, 78, 32, 74, 51, 90, 32, 74, 51, 80, 32, 74, 51, 78, 78, 74, 51, 78, 90, 74, 51, 78, 80, 74, 52, 78, 32, 74, 52, 90, 32, 74, 52, 80, 32, 74, 52, 78, 78, 74, 52, 78, 90, 74, 52, 78, 80, 74, 53, 78, 32, 74, 53, 90, 32, 74, 53, 80, 32, 74, 53, 78, 78, 74, 53, 78, 90, 74, 53, 78, 80, 74, 54, 78, 32, 74, 54, 90, 32, 74, 54, 80, 32, 74, 54, 78, 78, 74, 54, 78, 90, 74, 54, 78, 80, 74, 88, 78, 32, 74, 88, 90, 32, 74, 88, 80, 32, 74, 88, 78, 78, 74, 88, 78, 90, 74, 88, 78, 80, 73, 78, 67, 65, 68, 69, 67, 65, 69, 78, 84, 65, 69, 78, 78, 65, 73, 78, 67, 49, 68, 69, 67, 49, 69, 78, 84, 49, 69, 78, 78, 49, 73, 78, 67, 50, 68, 69, 67, 50, 69, 78, 84, 50, 69, 78, 78, 50, 73, 78, 67, 51, 68, 69, 67, 51, 69, 78, 84, 51, 69, 78, 78, 51, 73, 78, 67, 52, 68, 69, 67, 52, 69, 78, 84, 52, 69, 78, 78, 52, 73, 78, 67, 53, 68, 69, 67, 53, 69, 78, 84, 53, 69, 78, 78, 53, 73, 78, 67, 54, 68, 69, 67, 54, 69, 78, 84, 54, 69, 78, 78, 54, 73, 78, 67, 88, 68, 69, 67, 88, 69, 78, 84, 88, 69, 78, 78, 88, 67, 77, 80, 65, 67, 77, 80, 49, 67, 77, 80, 50, 67, 77, 80, 51, 67, 77, 80, 52, 67, 77, 80, 53, 67, 77, 80, 54, 67, 77, 80, 88, 69, 81, 85, 32, 79, 82, 73, 71, 67, 79, 78, 32, 65, 76, 70, 32, 69, 78, 68, 32, 70, 65, 68, 68, 70, 83, 85, 66, 70, 77, 85, 76, 70, 68, 73, 86, 70, 67, 77, 80, 70, 76, 79, 84, 70, 73, 88, 32], [42, 74, 79, 66], [68, 85, 77, 80], [76, 73, 83, 84], [78, 65, 77, 69, 83], [68, 69, 67, 75], [84, 82, 65, 67, 69], [42, 68, 65, 84, 65], [42, 69, 78, 68], [42, 83, 65, 77, 69], [42, 76, 79, 65, 68], [72, 65, 76, 84], [76, 73, 77, 73, 84], [70, 65, 85, 76, 84], [69, 82, 82, 79, 82], [67, 65, 82, 68], [74, 79, 66, 83, 32]].getD i []
def cCod : List Int32 := [0, 69, 133, 197, 261, 320, 321, 322, 323, 384, 385, 386, 387, 388, 389, 449, 517, 581, 645, 709, 773, 837, 901, 965, 1029, 1093, 1157, 1221, 1285, 1349, 1413, 1477, 1541, 1605, 1669, 1733, 1797, 1861, 1925, 1989, 2050, 2117, 2176, 2240, 2304, 2368, 2432, 2496, 2497, 2498, 2499, 2500, 2501, 2502, 2503, 2504, 2505, 2560, 2561, 2562, 2563, 2564, 2565, 2624, 2625, 2626, 2627, 2628, 2629, 2688, 2689, 2690, 2691, 2692, 2693, 2752, 2753, 2754, 2755, 2756, 2757, 2816, 2817, 2818, 2819, 2820, 2821, 2880, 2881, 2882, 2883, 2884, 2885, 2944, 2945, 2946, 2947, 2948, 2949, 3008, 3009, 3010, 3011, 3012, 3013, 3072, 3073, 3074, 3075, 3136, 3137, 3138, 3139, 3200, 3201, 3202, 3203, 3264, 3265, 3266, 3267, 3328, 3329, 3330, 3331, 3392, 3393, 3394, 3395, 3456, 3457, 3458, 3459, 3520, 3521, 3522, 3523, 3589, 3653, 3717, 3781, 3845, 3909, 3973, 4037, 5000, 5001, 5002, 5003, 5004, 6000, 6000, 6000, 6000, 6000, 6000, 6000]
def XQ (Z Y : Nat → Nat) (A : Nat → Prop) (U : State) (H : Heap) : Prop :=
  (∀ i : Nat, i < 41 → va_O "java/lang/String" (Z i) A U H ∧ va_OF "java/lang/String" "coder" "B" (.int 0) (Z i) A U H ∧ va_OF "java/lang/String" "value" "[B" (.ref (Y i)) (Z i) A U H ∧ va_T .byte (Y i) (sByt i).length (fun j => .int ((sByt i).getD j 0)) A U H) ∧
  va_Z "java/lang/String" "COMPACT_STRINGS" "Z" (.int 1) A U H ∧ va_Zq "jdk/internal/util/Preconditions" "SIOOBE_FORMATTER" "Ljava/util/function/BiFunction;" A U H ∧ va_Z RX12 "CODES" "[I" (.ref (Y 100)) A U H ∧ va_T .int (Y 100) 157 (fun j => .int (cCod.getD j 0)) A U H ∧ XZ A U H
def XR (Z : Nat → Nat) (U : State) : Prop := XE U ∧ ∀ i : Nat, i < 41 → vk_R (sOwn i).1 (sOwn i).2.1 (sOwn i).2.2 (Z i) U
theorem XR_ok {Z : Nat → Nat} : Xok (XR Z) := fun _ _ hW h => ⟨XE_ok _ _ hW h.1, fun i hi => vk_R.warm hW (h.2 i hi)⟩
theorem XQ.moved {Z Y : Nat → Nat} {A : Nat → Prop} {u U : State} {H : Heap} (hvm : u.vm.Alike U.vm) (h : XQ Z Y A u H) : XQ Z Y A U H :=
  ⟨fun i hi => ⟨va_O.moved hvm (h.1 i hi).1, va_OF.moved hvm (h.1 i hi).2.1, va_OF.moved hvm (h.1 i hi).2.2.1, va_T.moved hvm (h.1 i hi).2.2.2⟩, va_Z.moved hvm h.2.1, va_Zq.moved hvm h.2.2.1, va_Z.moved hvm h.2.2.2.1, va_T.moved hvm h.2.2.2.2.1, vx_Zq.moved hvm h.2.2.2.2.2.1, vx_Zq.moved hvm h.2.2.2.2.2.2⟩
theorem XQ.kept {Z Y : Nat → Nat} {A : Nat → Prop} {U : State} {H H1 : Heap} (h : XQ Z Y A U H) (hq : ∀ a : Nat, a < H.size → ¬ A a → H1[a]? = H[a]?) : XQ Z Y A U H1 :=
  ⟨fun i hi => ⟨(h.1 i hi).1.kept hq, (h.1 i hi).2.1.kept hq, (h.1 i hi).2.2.1.kept hq, (h.1 i hi).2.2.2.kept hq⟩, h.2.1.kept hq, va_Zq.kept h.2.2.1 hq, h.2.2.2.1.kept hq, h.2.2.2.2.1.kept hq, vx_Zq.kept h.2.2.2.2.2.1 hq, vx_Zq.kept h.2.2.2.2.2.2 hq⟩
theorem XQ.narrow {Z Y : Nat → Nat} {A B : Nat → Prop} {U : State} {H : Heap} (h : XQ Z Y A U H) (hAB : ∀ q, B q → A q) : XQ Z Y B U H :=
  ⟨fun i hi => ⟨(h.1 i hi).1.narrow hAB, (h.1 i hi).2.1.narrow hAB, (h.1 i hi).2.2.1.narrow hAB, (h.1 i hi).2.2.2.narrow hAB⟩, h.2.1.narrow hAB, va_Zq.narrow h.2.2.1 hAB, h.2.2.2.1.narrow hAB, h.2.2.2.2.1.narrow hAB, vx_Zq.narrow h.2.2.2.2.2.1 hAB, vx_Zq.narrow h.2.2.2.2.2.2 hAB⟩
def PreT (D : va_G) (K : Nat → ClassId) (Z Y : Nat → Nat) (ws : va_W) (sz : Nat) (U : State) : Prop := PreW D K ws sz U ∧ XR Z U ∧ XQ Z Y (va_A ws sz) U U.heap
def tMet (l : Launch) (y : MethodName) (c : ByteArray) (n : Nat) (r : Option FieldType) (rm : Room) (D : va_G) (K : Nat → ClassId) (Z Y : Nat → Nat) (av : List Value) (ws : va_W) (Q : (Nat → Prop) → Array Value → State → Outcome → State → Prop) (mc ms : Nat) : Prop :=
  ∀ sz, Met l y (uws y c n r) rm (va_Pc av (PreT D K Z Y ws sz)) (Q (va_A ws sz)) mc ms (va_A ws sz)
theorem preT_blind {D : va_G} {K : Nat → ClassId} {Z Y : Nat → Nat} {av : List Value} {ws : va_W} {sz : Nat} : FrameBlind (va_Pc av (PreT D K Z Y ws sz)) := by
  intro a U g mk q
  obtain ⟨q0, ⟨q1, qP, qK, qD⟩, qX, qZ⟩ := q
  have hA : U.vm.Alike (U.calling g mk a).vm := Vm.Alike.refl U.vm
  exact ⟨q0, ⟨q1, qP, va_K.moved (u := U) (U := U.calling g mk a) hA qK, qD⟩, XR_ok U _ (State.WarmedH.refl U) qX, XQ.moved hA qZ⟩
theorem preT_at {D : va_G} {K : Nat → ClassId} {Z Y : Nat → Nat} {av : List Value} {s : State} {wc : va_W} {A : Nat → Prop} {H : Heap} {locs : List Loc} (hK : va_K D vwCl (TY K) s) (hPc : va_P D vwCl wc H) (hDc : va_D A wc) (hE : XR Z s) (hZ : XQ Z Y A s s.heap) (hS : va_S A s.heap H locs) (hF : ∀ q, va_A wc H.size q → A q) :
    ∀ U : State, U.heap = H → s.WarmedH U.vm → va_Pc av (PreT D K Z Y wc H.size) av.toArray U := by
  intro U hU hW
  refine ⟨rfl, ⟨by rw [hU], by rw [hU]; exact hPc, va_K.moved hW.alike hK, hDc.weaken (fun _ _ _ _ => trivial)⟩, XR_ok _ _ hW hE, ?_⟩
  rw [hU]
  exact (hZ.kept (fun a h1 h2 => hS.2.1 a h1 h2)).narrow hF |>.moved hW.alike
section TM
variable {l : Launch} {D : va_G} {K : Nat → ClassId} {Z Y : Nat → Nat}
theorem t_met {y : MethodName} {cc : ByteArray} {n : Nat} {r : Option FieldType} {rm : Room} {av : List Value} {ws : va_W} {Q : (Nat → Prop) → Array Value → State → Outcome → State → Prop} {mc ms : Nat}
    (own : String) (hy : y.cls = own ∧ plainName y.cls = true) (hav : (lg_sl av).length ≤ n)
    (body : ∀ (p : Program) (e : Env) (s : State) (m : MethodId) (below : List Frame) (meth : Method) (c : Code) (A : Nat → Prop) (ls : Array Slot), kC p s m av.toArray c cc own n D K → XR Z s → XQ Z Y A s s.heap → meth.sig.returnType = r → meth.locks = false → (∀ q : Nat, s.heap.size ≤ q → A q) → va_P D vwCl ws s.heap → va_D A ws → va_S A s.heap s.heap [] → lv_has ls n (lv_args 0 av) →
      W p l e rm s m av.toArray below meth c s.heap [] 0 0 (MQ below (Q A) av.toArray s mc ms A) (F0 m 0 ls [])) : tMet l y cc n r rm D K Z Y av ws Q mc ms := by
  intro sz
  refine Met.ofW (cc := cc) (maxL := n) (ret := r) hy.2 rfl ?_
  intro p e s m args below meth c s₁ B hml hv
  obtain ⟨rfl, ⟨hsz, hP, hK, hD0⟩, hX, hZ⟩ := hv
  have hts := atoms_spec (ws := uws y cc n r) B.pre
  have hown : s.vm.findClass own = some m.cls := by rw [← hy.1]; exact findClass_of_methodNamed B.named
  subst hsz
  have hl := lv_entry av (n := n) hav
  rw [lg_entry_eq]
  exact body p e s m below meth c (va_A ws s.heap.size) _ ⟨B.exec, B.bytes, hml, hown, fun w h => hts w (List.mem_cons_of_mem _ h), hK⟩ hX hZ B.returns B.notSynchronized (fun q h => Or.inr h) hP (hD0.self) va_S.rf hl
end TM
section GCALL
variable {p : Program} {l : Launch} {e : Env} {R : Room} {s : State} {m : MethodId} {args : Array Value} {below : List Frame} {meth : Method} {c : Code} {H : Heap} {locs : List Loc} {cells slots mc ms : Nat} {Q : State → Prop}
variable {cc : ByteArray} {pc nL : Nat} {own : String} {ls : Array Slot} {rest st0 As : List Value} {D : va_G} {K : Nat → ClassId} {A : Nat → Prop} {b : Nat} {ws wc wr : va_W} {H0 : Heap} {S : Type} {W' : S → va_W}
variable {y : MethodName} {bytes : ByteArray} {maxL index : Nat} {ret : Option FieldType} {rm : Room} {X : State → Prop}
variable {Z Y : Nat → Nat}
theorem g_Vi (C : kC p s m args c cc own nL D K) (hP : va_P D vwCl ws H) (hD : va_D A ws) (hS : va_S A s.heap H locs) (hA : ∀ q, s.heap.size ≤ q → A q) {post : Int32 → S → Prop}
    (hM : tMet l y bytes maxL ret rm D K Z Y (.ref b :: As) ws (QI D K post W') mc ms) (hE : XR Z s) (hZ : XQ Z Y A s s.heap) {Cn : String} (hg : GoodIn wsL_law (wsV own index Cn y (uws y bytes maxL ret))) (hd : y.cls = Cn ∧ y.cls ≠ "java/lang/invoke/MethodHandle" ∧ y.cls ≠ "java/lang/invoke/VarHandle" ∧ (parseMethodDescriptor y.desc).map (fun d => d.parameters.length) = some As.length) (hR : rm.frames + 1 ≤ R.frames ∧ 8 + (maxL + 11) + rm.locals ≤ R.locals) (hrc : rm.cells = mc) (hrs : rm.slots = ms) {ci : Nat} {T : u_T} {N : Nat} {fs : List Value} (hc : vwCl[ci]? = some (Cn, T, N)) {q0 : Nat} (he : ws[q0]? = some (b, .inr (ci, fs)))
    (hst : st0 = As.reverse ++ .ref b :: rest) (hls : ls.size = nL) (hcat : (rest.map fun v => v.category).sum ≤ 8) (hdg : decode cc pc = .ok (.invokevirtual index, 3)) (hf : cells + mc ≤ R.cells ∧ slots + ms ≤ R.slots)
    (kk : ∀ (r : Int32) (u : S) (H1 : Heap) (locs1 : List Loc), post r u → va_P D vwCl (W' u) H1 → va_D A (W' u) → va_S A s.heap H1 locs1 → W p l e R s m args below meth c H1 locs1 (cells + mc) (slots + ms) Q (F0 m (pc + 3) ls (.int r :: rest))) : W p l e R s m args below meth c H locs cells slots Q (F0 m pc ls st0) := by
  have hPc : va_P D vwCl ws H := hP
  have hDc : va_D A ws := hD
  have hFc : ∀ q, va_A ws H.size q → A q := fun q h => h.elim (fun ⟨k, e, hk⟩ => hD.2 k _ hk) (fun h => hA q (Nat.le_trans hS.1 h))
  refine va_calli (va_runV (As := As) (rest := rest) ⟨C.1, C.2.1, C.2.2.1, C.2.2.2.1, C.2.2.2.2.1⟩ (hM H.size) (cwV As.length C.2.2.2.2.1 hg rfl hrc hrs hd hR) ⟨preT_blind, va_recv C.2.2.2.2.2 hPc hc he, preT_at C.2.2.2.2.2 hPc hDc hE hZ hS hFc⟩ rfl rfl hls hst (lv_room hcat) hdg hf) hS (fun q _ h => hFc q h) hFc (fun r u t H1 locs1 ht hvm hw hB hz1 hk1 hS1 => ?_)
  obtain ⟨hP1, hK1, hD1⟩ := hB
  rw [ht] at hP1
  have hj : va_P D vwCl (W' u) H1 ∧ va_D A (W' u) := ⟨hP1, hD1.1, fun k q h => hFc _ (hD1.2 k q h)⟩
  exact kk r u H1 locs1 hw hj.1 hj.2 hS1
theorem g_Ti (C : kC p s m args c cc own nL D K) (hP : va_P D vwCl ws H) (hD : va_D A ws) (hS : va_S A s.heap H locs) (hA : ∀ q, s.heap.size ≤ q → A q) {post : Int32 → S → Prop}
    (hM : tMet l y bytes maxL ret rm D K Z Y (.ref b :: As) ws (QI D K post W') mc ms) (hE : XR Z s) (hZ : XQ Z Y A s s.heap) (hg : GoodIn wsL_law (wsV own index "java/lang/String" y (uws y bytes maxL ret))) (hd : y.cls = "java/lang/String" ∧ y.cls ≠ "java/lang/invoke/MethodHandle" ∧ y.cls ≠ "java/lang/invoke/VarHandle" ∧ (parseMethodDescriptor y.desc).map (fun d => d.parameters.length) = some As.length) (hR : rm.frames + 1 ≤ R.frames ∧ 8 + (maxL + 11) + rm.locals ≤ R.locals) (hrc : rm.cells = mc) (hrs : rm.slots = ms) {i0 : Nat} (hi0 : i0 < 41) (hb0 : b = Z i0)
    (hst : st0 = As.reverse ++ .ref b :: rest) (hls : ls.size = nL) (hcat : (rest.map fun v => v.category).sum ≤ 8) (hdg : decode cc pc = .ok (.invokevirtual index, 3)) (hf : cells + mc ≤ R.cells ∧ slots + ms ≤ R.slots)
    (kk : ∀ (r : Int32) (u : S) (H1 : Heap) (locs1 : List Loc), post r u → va_P D vwCl (W' u) H1 → va_D A (W' u) → va_S A s.heap H1 locs1 → W p l e R s m args below meth c H1 locs1 (cells + mc) (slots + ms) Q (F0 m (pc + 3) ls (.int r :: rest))) : W p l e R s m args below meth c H locs cells slots Q (F0 m pc ls st0) := by
  have hPc : va_P D vwCl ws H := hP
  have hDc : va_D A ws := hD
  have hFc : ∀ q, va_A ws H.size q → A q := fun q h => h.elim (fun ⟨k, e, hk⟩ => hD.2 k _ hk) (fun h => hA q (Nat.le_trans hS.1 h))
  have hrec : ∃ cell : Cell, H[b]? = some cell ∧ cell.vm.isStatics = false ∧ s.vm.findClass "java/lang/String" = some cell.cls := by
    obtain ⟨cell, h1, h2, h3, -⟩ := (hZ.1 i0 hi0).1.kept hS.2.1
    rw [hb0]
    exact ⟨cell, h1, h2, h3⟩
  refine va_calli (va_runV (As := As) (rest := rest) ⟨C.1, C.2.1, C.2.2.1, C.2.2.2.1, C.2.2.2.2.1⟩ (hM H.size) (cwV As.length C.2.2.2.2.1 hg rfl hrc hrs hd hR) ⟨preT_blind, hrec, preT_at C.2.2.2.2.2 hPc hDc hE hZ hS hFc⟩ rfl rfl hls hst (lv_room hcat) hdg hf) hS (fun q _ h => hFc q h) hFc (fun r u t H1 locs1 ht hvm hw hB hz1 hk1 hS1 => ?_)
  obtain ⟨hP1, hK1, hD1⟩ := hB
  rw [ht] at hP1
  have hj : va_P D vwCl (W' u) H1 ∧ va_D A (W' u) := ⟨hP1, hD1.1, fun k q h => hFc _ (hD1.2 k q h)⟩
  exact kk r u H1 locs1 hw hj.1 hj.2 hS1
theorem g_Si (C : kC p s m args c cc own nL D K) (hP : va_P D vwCl ws H) (hD : va_D A ws) (hS : va_S A s.heap H locs) (hA : ∀ q, s.heap.size ≤ q → A q) {post : Int32 → S → Prop}
    (hM : tMet l y bytes maxL ret rm D K Z Y As ws (QI D K post W') mc ms) (hE : XR Z s) (hZ : XQ Z Y A s s.heap) (hg : GoodIn wsL_law (va_wsS own index y (uws y bytes maxL ret))) (hd : y.cls ≠ "java/lang/invoke/MethodHandle" ∧ y.cls ≠ "java/lang/invoke/VarHandle" ∧ (parseMethodDescriptor y.desc).map (fun d => d.parameters.length) = some As.length) (hR : rm.frames + 1 ≤ R.frames ∧ 8 + (maxL + 11) + rm.locals ≤ R.locals) (hrc : rm.cells = mc) (hrs : rm.slots = ms) 
    (hst : st0 = As.reverse ++ rest) (hls : ls.size = nL) (hcat : (rest.map fun v => v.category).sum ≤ 8) (hdg : decode cc pc = .ok (.invokestatic index, 3)) (hf : cells + mc ≤ R.cells ∧ slots + ms ≤ R.slots)
    (kk : ∀ (r : Int32) (u : S) (H1 : Heap) (locs1 : List Loc), post r u → va_P D vwCl (W' u) H1 → va_D A (W' u) → va_S A s.heap H1 locs1 → W p l e R s m args below meth c H1 locs1 (cells + mc) (slots + ms) Q (F0 m (pc + 3) ls (.int r :: rest))) : W p l e R s m args below meth c H locs cells slots Q (F0 m pc ls st0) := by
  have hPc : va_P D vwCl ws H := hP
  have hDc : va_D A ws := hD
  have hFc : ∀ q, va_A ws H.size q → A q := fun q h => h.elim (fun ⟨k, e, hk⟩ => hD.2 k _ hk) (fun h => hA q (Nat.le_trans hS.1 h))
  refine va_calli (va_runS (As := As) (rest := rest) ⟨C.1, C.2.1, C.2.2.1, C.2.2.2.1, C.2.2.2.2.1⟩ (hM H.size) (va_cwS As.length C.2.2.2.2.1 hg rfl hrc hrs hd hR) ⟨preT_blind, preT_at C.2.2.2.2.2 hPc hDc hE hZ hS hFc⟩ rfl rfl hls hst (lv_room hcat) hdg hf) hS (fun q _ h => hFc q h) hFc (fun r u t H1 locs1 ht hvm hw hB hz1 hk1 hS1 => ?_)
  obtain ⟨hP1, hK1, hD1⟩ := hB
  rw [ht] at hP1
  have hj : va_P D vwCl (W' u) H1 ∧ va_D A (W' u) := ⟨hP1, hD1.1, fun k q h => hFc _ (hD1.2 k q h)⟩
  exact kk r u H1 locs1 hw hj.1 hj.2 hS1
theorem g_Vl (C : kC p s m args c cc own nL D K) (hP : va_P D vwCl ws H) (hD : va_D A ws) (hS : va_S A s.heap H locs) (hA : ∀ q, s.heap.size ≤ q → A q) {post : Int64 → S → Prop}
    (hM : tMet l y bytes maxL ret rm D K Z Y (.ref b :: As) ws (QL D K post W') mc ms) (hE : XR Z s) (hZ : XQ Z Y A s s.heap) {Cn : String} (hg : GoodIn wsL_law (wsV own index Cn y (uws y bytes maxL ret))) (hd : y.cls = Cn ∧ y.cls ≠ "java/lang/invoke/MethodHandle" ∧ y.cls ≠ "java/lang/invoke/VarHandle" ∧ (parseMethodDescriptor y.desc).map (fun d => d.parameters.length) = some As.length) (hR : rm.frames + 1 ≤ R.frames ∧ 8 + (maxL + 11) + rm.locals ≤ R.locals) (hrc : rm.cells = mc) (hrs : rm.slots = ms) {ci : Nat} {T : u_T} {N : Nat} {fs : List Value} (hc : vwCl[ci]? = some (Cn, T, N)) {q0 : Nat} (he : ws[q0]? = some (b, .inr (ci, fs)))
    (hst : st0 = As.reverse ++ .ref b :: rest) (hls : ls.size = nL) (hcat : (rest.map fun v => v.category).sum ≤ 8) (hdg : decode cc pc = .ok (.invokevirtual index, 3)) (hf : cells + mc ≤ R.cells ∧ slots + ms ≤ R.slots)
    (kk : ∀ (r : Int64) (u : S) (H1 : Heap) (locs1 : List Loc), post r u → va_P D vwCl (W' u) H1 → va_D A (W' u) → va_S A s.heap H1 locs1 → W p l e R s m args below meth c H1 locs1 (cells + mc) (slots + ms) Q (F0 m (pc + 3) ls (.long r :: rest))) : W p l e R s m args below meth c H locs cells slots Q (F0 m pc ls st0) := by
  have hPc : va_P D vwCl ws H := hP
  have hDc : va_D A ws := hD
  have hFc : ∀ q, va_A ws H.size q → A q := fun q h => h.elim (fun ⟨k, e, hk⟩ => hD.2 k _ hk) (fun h => hA q (Nat.le_trans hS.1 h))
  refine va_calll (va_runV (As := As) (rest := rest) ⟨C.1, C.2.1, C.2.2.1, C.2.2.2.1, C.2.2.2.2.1⟩ (hM H.size) (cwV As.length C.2.2.2.2.1 hg rfl hrc hrs hd hR) ⟨preT_blind, va_recv C.2.2.2.2.2 hPc hc he, preT_at C.2.2.2.2.2 hPc hDc hE hZ hS hFc⟩ rfl rfl hls hst (lv_room hcat) hdg hf) hS (fun q _ h => hFc q h) hFc (fun r u t H1 locs1 ht hvm hw hB hz1 hk1 hS1 => ?_)
  obtain ⟨hP1, hK1, hD1⟩ := hB
  rw [ht] at hP1
  have hj : va_P D vwCl (W' u) H1 ∧ va_D A (W' u) := ⟨hP1, hD1.1, fun k q h => hFc _ (hD1.2 k q h)⟩
  exact kk r u H1 locs1 hw hj.1 hj.2 hS1
theorem g_Sl (C : kC p s m args c cc own nL D K) (hP : va_P D vwCl ws H) (hD : va_D A ws) (hS : va_S A s.heap H locs) (hA : ∀ q, s.heap.size ≤ q → A q) {post : Int64 → S → Prop}
    (hM : tMet l y bytes maxL ret rm D K Z Y As ws (QL D K post W') mc ms) (hE : XR Z s) (hZ : XQ Z Y A s s.heap) (hg : GoodIn wsL_law (va_wsS own index y (uws y bytes maxL ret))) (hd : y.cls ≠ "java/lang/invoke/MethodHandle" ∧ y.cls ≠ "java/lang/invoke/VarHandle" ∧ (parseMethodDescriptor y.desc).map (fun d => d.parameters.length) = some As.length) (hR : rm.frames + 1 ≤ R.frames ∧ 8 + (maxL + 11) + rm.locals ≤ R.locals) (hrc : rm.cells = mc) (hrs : rm.slots = ms) 
    (hst : st0 = As.reverse ++ rest) (hls : ls.size = nL) (hcat : (rest.map fun v => v.category).sum ≤ 8) (hdg : decode cc pc = .ok (.invokestatic index, 3)) (hf : cells + mc ≤ R.cells ∧ slots + ms ≤ R.slots)
    (kk : ∀ (r : Int64) (u : S) (H1 : Heap) (locs1 : List Loc), post r u → va_P D vwCl (W' u) H1 → va_D A (W' u) → va_S A s.heap H1 locs1 → W p l e R s m args below meth c H1 locs1 (cells + mc) (slots + ms) Q (F0 m (pc + 3) ls (.long r :: rest))) : W p l e R s m args below meth c H locs cells slots Q (F0 m pc ls st0) := by
  have hPc : va_P D vwCl ws H := hP
  have hDc : va_D A ws := hD
  have hFc : ∀ q, va_A ws H.size q → A q := fun q h => h.elim (fun ⟨k, e, hk⟩ => hD.2 k _ hk) (fun h => hA q (Nat.le_trans hS.1 h))
  refine va_calll (va_runS (As := As) (rest := rest) ⟨C.1, C.2.1, C.2.2.1, C.2.2.2.1, C.2.2.2.2.1⟩ (hM H.size) (va_cwS As.length C.2.2.2.2.1 hg rfl hrc hrs hd hR) ⟨preT_blind, preT_at C.2.2.2.2.2 hPc hDc hE hZ hS hFc⟩ rfl rfl hls hst (lv_room hcat) hdg hf) hS (fun q _ h => hFc q h) hFc (fun r u t H1 locs1 ht hvm hw hB hz1 hk1 hS1 => ?_)
  obtain ⟨hP1, hK1, hD1⟩ := hB
  rw [ht] at hP1
  have hj : va_P D vwCl (W' u) H1 ∧ va_D A (W' u) := ⟨hP1, hD1.1, fun k q h => hFc _ (hD1.2 k q h)⟩
  exact kk r u H1 locs1 hw hj.1 hj.2 hS1
theorem g_Vv (C : kC p s m args c cc own nL D K) (hP : va_P D vwCl ws H) (hD : va_D A ws) (hS : va_S A s.heap H locs) (hA : ∀ q, s.heap.size ≤ q → A q) {post : S → Prop}
    (hM : tMet l y bytes maxL ret rm D K Z Y (.ref b :: As) ws (QV D K post W') mc ms) (hE : XR Z s) (hZ : XQ Z Y A s s.heap) {Cn : String} (hg : GoodIn wsL_law (wsV own index Cn y (uws y bytes maxL ret))) (hd : y.cls = Cn ∧ y.cls ≠ "java/lang/invoke/MethodHandle" ∧ y.cls ≠ "java/lang/invoke/VarHandle" ∧ (parseMethodDescriptor y.desc).map (fun d => d.parameters.length) = some As.length) (hR : rm.frames + 1 ≤ R.frames ∧ 8 + (maxL + 11) + rm.locals ≤ R.locals) (hrc : rm.cells = mc) (hrs : rm.slots = ms) {ci : Nat} {T : u_T} {N : Nat} {fs : List Value} (hc : vwCl[ci]? = some (Cn, T, N)) {q0 : Nat} (he : ws[q0]? = some (b, .inr (ci, fs)))
    (hst : st0 = As.reverse ++ .ref b :: rest) (hls : ls.size = nL) (hcat : (rest.map fun v => v.category).sum ≤ 8) (hdg : decode cc pc = .ok (.invokevirtual index, 3)) (hf : cells + mc ≤ R.cells ∧ slots + ms ≤ R.slots)
    (kk : ∀ (u : S) (H1 : Heap) (locs1 : List Loc), post u → va_P D vwCl (W' u) H1 → va_D A (W' u) → va_S A s.heap H1 locs1 → W p l e R s m args below meth c H1 locs1 (cells + mc) (slots + ms) Q (F0 m (pc + 3) ls (rest))) : W p l e R s m args below meth c H locs cells slots Q (F0 m pc ls st0) := by
  have hPc : va_P D vwCl ws H := hP
  have hDc : va_D A ws := hD
  have hFc : ∀ q, va_A ws H.size q → A q := fun q h => h.elim (fun ⟨k, e, hk⟩ => hD.2 k _ hk) (fun h => hA q (Nat.le_trans hS.1 h))
  refine va_callv (va_runV (As := As) (rest := rest) ⟨C.1, C.2.1, C.2.2.1, C.2.2.2.1, C.2.2.2.2.1⟩ (hM H.size) (cwV As.length C.2.2.2.2.1 hg rfl hrc hrs hd hR) ⟨preT_blind, va_recv C.2.2.2.2.2 hPc hc he, preT_at C.2.2.2.2.2 hPc hDc hE hZ hS hFc⟩ rfl rfl hls hst (lv_room hcat) hdg hf) hS (fun q _ h => hFc q h) hFc (fun u t H1 locs1 ht hvm hw hB hz1 hk1 hS1 => ?_)
  obtain ⟨hP1, hK1, hD1⟩ := hB
  rw [ht] at hP1
  have hj : va_P D vwCl (W' u) H1 ∧ va_D A (W' u) := ⟨hP1, hD1.1, fun k q h => hFc _ (hD1.2 k q h)⟩
  exact kk u H1 locs1 hw hj.1 hj.2 hS1
theorem g_Sv (C : kC p s m args c cc own nL D K) (hP : va_P D vwCl ws H) (hD : va_D A ws) (hS : va_S A s.heap H locs) (hA : ∀ q, s.heap.size ≤ q → A q) {post : S → Prop}
    (hM : tMet l y bytes maxL ret rm D K Z Y As ws (QV D K post W') mc ms) (hE : XR Z s) (hZ : XQ Z Y A s s.heap) (hg : GoodIn wsL_law (va_wsS own index y (uws y bytes maxL ret))) (hd : y.cls ≠ "java/lang/invoke/MethodHandle" ∧ y.cls ≠ "java/lang/invoke/VarHandle" ∧ (parseMethodDescriptor y.desc).map (fun d => d.parameters.length) = some As.length) (hR : rm.frames + 1 ≤ R.frames ∧ 8 + (maxL + 11) + rm.locals ≤ R.locals) (hrc : rm.cells = mc) (hrs : rm.slots = ms) 
    (hst : st0 = As.reverse ++ rest) (hls : ls.size = nL) (hcat : (rest.map fun v => v.category).sum ≤ 8) (hdg : decode cc pc = .ok (.invokestatic index, 3)) (hf : cells + mc ≤ R.cells ∧ slots + ms ≤ R.slots)
    (kk : ∀ (u : S) (H1 : Heap) (locs1 : List Loc), post u → va_P D vwCl (W' u) H1 → va_D A (W' u) → va_S A s.heap H1 locs1 → W p l e R s m args below meth c H1 locs1 (cells + mc) (slots + ms) Q (F0 m (pc + 3) ls (rest))) : W p l e R s m args below meth c H locs cells slots Q (F0 m pc ls st0) := by
  have hPc : va_P D vwCl ws H := hP
  have hDc : va_D A ws := hD
  have hFc : ∀ q, va_A ws H.size q → A q := fun q h => h.elim (fun ⟨k, e, hk⟩ => hD.2 k _ hk) (fun h => hA q (Nat.le_trans hS.1 h))
  refine va_callv (va_runS (As := As) (rest := rest) ⟨C.1, C.2.1, C.2.2.1, C.2.2.2.1, C.2.2.2.2.1⟩ (hM H.size) (va_cwS As.length C.2.2.2.2.1 hg rfl hrc hrs hd hR) ⟨preT_blind, preT_at C.2.2.2.2.2 hPc hDc hE hZ hS hFc⟩ rfl rfl hls hst (lv_room hcat) hdg hf) hS (fun q _ h => hFc q h) hFc (fun u t H1 locs1 ht hvm hw hB hz1 hk1 hS1 => ?_)
  obtain ⟨hP1, hK1, hD1⟩ := hB
  rw [ht] at hP1
  have hj : va_P D vwCl (W' u) H1 ∧ va_D A (W' u) := ⟨hP1, hD1.1, fun k q h => hFc _ (hD1.2 k q h)⟩
  exact kk u H1 locs1 hw hj.1 hj.2 hS1
theorem g_Vr (C : kC p s m args c cc own nL D K) (hP : va_P D vwCl ws H) (hD : va_D A ws) (hS : va_S A s.heap H locs) (hA : ∀ q, s.heap.size ≤ q → A q) {post : S → Prop} {ra : S → Nat}
    (hM : tMet l y bytes maxL ret rm D K Z Y (.ref b :: As) ws (QR D K post ra W') mc ms) (hE : XR Z s) (hZ : XQ Z Y A s s.heap) {Cn : String} (hg : GoodIn wsL_law (wsV own index Cn y (uws y bytes maxL ret))) (hd : y.cls = Cn ∧ y.cls ≠ "java/lang/invoke/MethodHandle" ∧ y.cls ≠ "java/lang/invoke/VarHandle" ∧ (parseMethodDescriptor y.desc).map (fun d => d.parameters.length) = some As.length) (hR : rm.frames + 1 ≤ R.frames ∧ 8 + (maxL + 11) + rm.locals ≤ R.locals) (hrc : rm.cells = mc) (hrs : rm.slots = ms) {ci : Nat} {T : u_T} {N : Nat} {fs : List Value} (hc : vwCl[ci]? = some (Cn, T, N)) {q0 : Nat} (he : ws[q0]? = some (b, .inr (ci, fs)))
    (hst : st0 = As.reverse ++ .ref b :: rest) (hls : ls.size = nL) (hcat : (rest.map fun v => v.category).sum ≤ 8) (hdg : decode cc pc = .ok (.invokevirtual index, 3)) (hf : cells + mc ≤ R.cells ∧ slots + ms ≤ R.slots)
    (kk : ∀ (u : S) (H1 : Heap) (locs1 : List Loc), post u → va_P D vwCl (W' u) H1 → va_D A (W' u) → va_S A s.heap H1 locs1 → W p l e R s m args below meth c H1 locs1 (cells + mc) (slots + ms) Q (F0 m (pc + 3) ls (.ref (ra u) :: rest))) : W p l e R s m args below meth c H locs cells slots Q (F0 m pc ls st0) := by
  have hPc : va_P D vwCl ws H := hP
  have hDc : va_D A ws := hD
  have hFc : ∀ q, va_A ws H.size q → A q := fun q h => h.elim (fun ⟨k, e, hk⟩ => hD.2 k _ hk) (fun h => hA q (Nat.le_trans hS.1 h))
  refine va_callr (va_runV (As := As) (rest := rest) ⟨C.1, C.2.1, C.2.2.1, C.2.2.2.1, C.2.2.2.2.1⟩ (hM H.size) (cwV As.length C.2.2.2.2.1 hg rfl hrc hrs hd hR) ⟨preT_blind, va_recv C.2.2.2.2.2 hPc hc he, preT_at C.2.2.2.2.2 hPc hDc hE hZ hS hFc⟩ rfl rfl hls hst (lv_room hcat) hdg hf) hS (fun q _ h => hFc q h) hFc (fun u ra1 t H1 locs1 ht hvm hw hB hz1 hk1 hS1 => ?_)
  obtain ⟨rfl, hP1, hK1, hD1⟩ := hB
  rw [ht] at hP1
  have hj : va_P D vwCl (W' u) H1 ∧ va_D A (W' u) := ⟨hP1, hD1.1, fun k q h => hFc _ (hD1.2 k q h)⟩
  exact kk u H1 locs1 hw hj.1 hj.2 hS1
theorem g_Sr (C : kC p s m args c cc own nL D K) (hP : va_P D vwCl ws H) (hD : va_D A ws) (hS : va_S A s.heap H locs) (hA : ∀ q, s.heap.size ≤ q → A q) {post : S → Prop} {ra : S → Nat}
    (hM : tMet l y bytes maxL ret rm D K Z Y As ws (QR D K post ra W') mc ms) (hE : XR Z s) (hZ : XQ Z Y A s s.heap) (hg : GoodIn wsL_law (va_wsS own index y (uws y bytes maxL ret))) (hd : y.cls ≠ "java/lang/invoke/MethodHandle" ∧ y.cls ≠ "java/lang/invoke/VarHandle" ∧ (parseMethodDescriptor y.desc).map (fun d => d.parameters.length) = some As.length) (hR : rm.frames + 1 ≤ R.frames ∧ 8 + (maxL + 11) + rm.locals ≤ R.locals) (hrc : rm.cells = mc) (hrs : rm.slots = ms) 
    (hst : st0 = As.reverse ++ rest) (hls : ls.size = nL) (hcat : (rest.map fun v => v.category).sum ≤ 8) (hdg : decode cc pc = .ok (.invokestatic index, 3)) (hf : cells + mc ≤ R.cells ∧ slots + ms ≤ R.slots)
    (kk : ∀ (u : S) (H1 : Heap) (locs1 : List Loc), post u → va_P D vwCl (W' u) H1 → va_D A (W' u) → va_S A s.heap H1 locs1 → W p l e R s m args below meth c H1 locs1 (cells + mc) (slots + ms) Q (F0 m (pc + 3) ls (.ref (ra u) :: rest))) : W p l e R s m args below meth c H locs cells slots Q (F0 m pc ls st0) := by
  have hPc : va_P D vwCl ws H := hP
  have hDc : va_D A ws := hD
  have hFc : ∀ q, va_A ws H.size q → A q := fun q h => h.elim (fun ⟨k, e, hk⟩ => hD.2 k _ hk) (fun h => hA q (Nat.le_trans hS.1 h))
  refine va_callr (va_runS (As := As) (rest := rest) ⟨C.1, C.2.1, C.2.2.1, C.2.2.2.1, C.2.2.2.2.1⟩ (hM H.size) (va_cwS As.length C.2.2.2.2.1 hg rfl hrc hrs hd hR) ⟨preT_blind, preT_at C.2.2.2.2.2 hPc hDc hE hZ hS hFc⟩ rfl rfl hls hst (lv_room hcat) hdg hf) hS (fun q _ h => hFc q h) hFc (fun u ra1 t H1 locs1 ht hvm hw hB hz1 hk1 hS1 => ?_)
  obtain ⟨rfl, hP1, hK1, hD1⟩ := hB
  rw [ht] at hP1
  have hj : va_P D vwCl (W' u) H1 ∧ va_D A (W' u) := ⟨hP1, hD1.1, fun k q h => hFc _ (hD1.2 k q h)⟩
  exact kk u H1 locs1 hw hj.1 hj.2 hS1
end GCALL
section GRET
variable {p : Program} {l : Launch} {e : Env} {R : Room} {s : State} {m : MethodId} {args : Array Value} {below : List Frame} {meth : Method} {c : Code} {H : Heap} {locs : List Loc} {cells slots mc ms : Nat}
variable {cc : ByteArray} {pc nL : Nat} {own : String} {ls : Array Slot} {D : va_G} {K : Nat → ClassId} {A : Nat → Prop} {ws : va_W} {S : Type} {W' : S → va_W}
theorem g_iret (C : kC p s m args c cc own nL D K) {ty : FieldType} (hr : meth.sig.returnType = some ty) (hlocks : meth.locks = false) (hP : va_P D vwCl ws H) (hD : va_D A ws) (hS : va_S A s.heap H locs) {post : Int32 → S → Prop} {r : Int32} (hn : narrow ty (.int r) = .int r) (u : S) (hw : ws = W' u) (hpost : post r u) (hc : cells ≤ mc) (hsl : slots ≤ ms) (hdg : decode cc pc = .ok (.ireturn, 1)) :
    W p l e R s m args below meth c H locs cells slots (MQ below (QI D K post W' A) args s mc ms A) (F0 m pc ls [.int r]) := by
  subst hw
  refine W.widen hc hsl ?_
  exact W.zret C.1 C.2.1 hr hn (fun t ht hW => ⟨⟨r, u, rfl, hpost, by rw [ht]; exact hP, va_K.moved hW.alike C.2.2.2.2.2, hD⟩, hS.F ht⟩) hS.2.2 hdg hlocks
theorem g_lret (C : kC p s m args c cc own nL D K) (hr : meth.sig.returnType = some .long) (hlocks : meth.locks = false) (hP : va_P D vwCl ws H) (hD : va_D A ws) (hS : va_S A s.heap H locs) {post : Int64 → S → Prop} {r : Int64} (u : S) (hw : ws = W' u) (hpost : post r u) (hc : cells ≤ mc) (hsl : slots ≤ ms) (hdg : decode cc pc = .ok (.lreturn, 1)) :
    W p l e R s m args below meth c H locs cells slots (MQ below (QL D K post W' A) args s mc ms A) (F0 m pc ls [.long r]) := by
  subst hw
  refine W.widen hc hsl ?_
  exact W.lret C.1 C.2.1 hr (fun t ht hW => ⟨⟨r, u, rfl, hpost, by rw [ht]; exact hP, va_K.moved hW.alike C.2.2.2.2.2, hD⟩, hS.F ht⟩) hS.2.2 hdg hlocks
theorem g_vret (C : kC p s m args c cc own nL D K) (hr : meth.sig.returnType = none) (hlocks : meth.locks = false) (hP : va_P D vwCl ws H) (hD : va_D A ws) (hS : va_S A s.heap H locs) {post : S → Prop} (u : S) (hw : ws = W' u) (hpost : post u) (hc : cells ≤ mc) (hsl : slots ≤ ms) (hdg : decode cc pc = .ok (.return_, 1)) :
    W p l e R s m args below meth c H locs cells slots (MQ below (QV D K post W' A) args s mc ms A) (F0 m pc ls []) := by
  subst hw
  refine W.widen hc hsl ?_
  exact W.vret C.1 C.2.1 hr (fun t ht hW => ⟨⟨u, rfl, hpost, by rw [ht]; exact hP, va_K.moved hW.alike C.2.2.2.2.2, hD⟩, hS.F ht⟩) hS.2.2 hdg hlocks
theorem g_rret (C : kC p s m args c cc own nL D K) {ty : FieldType} (hr : meth.sig.returnType = some ty) (hlocks : meth.locks = false) (hP : va_P D vwCl ws H) (hD : va_D A ws) (hS : va_S A s.heap H locs) {post : S → Prop} {ra : S → Nat} {b : Nat} (hn : (∃ n, ty = .object n) ∨ ∃ t, ty = .array t) (u : S) (hb : b = ra u) (hw : ws = W' u) (hpost : post u) (hc : cells ≤ mc) (hsl : slots ≤ ms) (hdg : decode cc pc = .ok (.areturn, 1)) :
    W p l e R s m args below meth c H locs cells slots (MQ below (QR D K post ra W' A) args s mc ms A) (F0 m pc ls [.ref b]) := by
  subst hw
  subst hb
  refine W.widen hc hsl ?_
  exact W.aret C.1 C.2.1 hr hn (Or.inr ⟨_, rfl⟩) (fun t ht hW => ⟨⟨u, _, rfl, hpost, rfl, by rw [ht]; exact hP, va_K.moved hW.alike C.2.2.2.2.2, hD⟩, hS.F ht⟩) hS.2.2 hdg hlocks
end GRET
/-- numbers by their values -/
theorem i_lt {a b : Int32} (h : a < b) : a.toInt < b.toInt := Int32.lt_iff_toInt_lt.mp h
theorem i_nlt {a b : Int32} (h : ¬ a < b) : b.toInt ≤ a.toInt := Int.not_lt.mp fun q => h (Int32.lt_iff_toInt_lt.mpr q)
theorem i_le {a b : Int32} (h : a ≤ b) : a.toInt ≤ b.toInt := Int32.le_iff_toInt_le.mp h
theorem i_nle {a b : Int32} (h : ¬ a ≤ b) : b.toInt < a.toInt := Int.not_le.mp fun q => h (Int32.le_iff_toInt_le.mpr q)
theorem i_eq {a b : Int32} (h : a = b) : a.toInt = b.toInt := congrArg Int32.toInt h
theorem i_ne {a b : Int32} (h : ¬ a = b) : ¬ a.toInt = b.toInt := fun q => h (Int32.toInt_inj.mp q)
theorem i_rng (a : Int32) : -2147483648 ≤ a.toInt ∧ a.toInt ≤ 2147483647 := ⟨Int32.le_toInt a, by have := Int32.toInt_lt a; omega⟩
theorem nar01 {r : Int32} (h0 : 0 ≤ r.toInt) (h1 : r.toInt ≤ 1) : narrow .boolean (.int r) = .int r := by
  have h : r = 0 ∨ r = 1 := by
    rcases (by omega : r.toInt = 0 ∨ r.toInt = 1) with h | h
    · exact Or.inl (Int32.toInt_inj.mp h)
    · exact Or.inr (Int32.toInt_inj.mp h)
  rcases h with rfl | rfl <;> rfl
theorem fit01 {r : Int32} (h0 : 0 ≤ r.toInt) (h1 : r.toInt ≤ 1) : fits .boolean (.int r) = true := by
  have h : r = 0 ∨ r = 1 := by
    rcases (by omega : r.toInt = 0 ∨ r.toInt = 1) with h | h
    · exact Or.inl (Int32.toInt_inj.mp h)
    · exact Or.inr (Int32.toInt_inj.mp h)
  rcases h with rfl | rfl <;> rfl
theorem nar_byte (x : Int32) : (-128 : Int) ≤ (x.toInt8.toInt32).toInt ∧ (x.toInt8.toInt32).toInt ≤ 127 := by
  rw [Int8.toInt_toInt32]
  exact ⟨Int8.le_toInt _, by have := Int8.toInt_lt x.toInt8; omega⟩
theorem nar_boolean (x : Int32) : (0 : Int) ≤ (x &&& 1).toInt ∧ (x &&& 1).toInt ≤ 1 := by
  have h := Jvm.Kit.i32_mask x 1 (k := 1) (by decide) (by decide)
  omega
theorem z_rem (x y : Int32) : (x - (x / y) * y).toInt = x.toInt.tmod y.toInt := by
  have a := (x % y).toInt_lt
  have b := (x % y).le_toInt
  rw [Int32.toInt_mod] at a b
  rw [Int32.toInt_sub, Int32.toInt_mul, Int32.toInt_div, Int.bmod_mul_bmod, Int.sub_bmod_bmod, Int.mul_comm, ← Int.tmod_def]
  exact Jvm.Kit.bmod32 b a
theorem z_remp {x y : Int32} {k : Int} (hk : y.toInt = k) (hx : 0 ≤ x.toInt) : (x - (x / y) * y).toInt = x.toInt % k := by
  rw [z_rem, hk, Int.tmod_eq_emod_of_nonneg hx]
theorem z_remb {x y : Int32} {k : Int} (hk : y.toInt = k) (h0 : 0 < k) : -k < (x - (x / y) * y).toInt ∧ (x - (x / y) * y).toInt < k := by
  rw [z_rem, hk]; exact tmod_bounds h0
theorem z_divp {x y : Int32} {k : Int} (hk : y.toInt = k) (h0 : 0 < k) (hx : 0 ≤ x.toInt) : (x / y).toInt = x.toInt / k := by
  rw [Jvm.Kit.i32_div (by omega), hk, Int.tdiv_eq_ediv_of_nonneg hx]
theorem cmp_rng (x y : Int64) : (-1 : Int) ≤ (lg_cmp x y).toInt ∧ (lg_cmp x y).toInt ≤ 1 := by
  unfold lg_cmp
  split
  · decide
  · split <;> decide
/-- the numbers of a side's cells: fields (int, long), rows (int, byte, boolean; long) -/
abbrev tSt : Type := (Nat → Nat → Int32) × (Nat → Nat → Int64) × (Nat → Nat → Int32) × (Nat → Nat → Int64)
def uI (t : tSt) (j k : Nat) (v : Int32) : tSt := (fun a b => if a = j then (if b = k then v else t.1 a b) else t.1 a b, t.2)
def uJ (t : tSt) (j k : Nat) (v : Int64) : tSt := (t.1, (fun a b => if a = j then (if b = k then v else t.2.1 a b) else t.2.1 a b), t.2.2)
def uB (t : tSt) (j i : Nat) (v : Int32) : tSt := (t.1, t.2.1, (fun a => if a = j then upd (t.2.2.1 j) i v else t.2.2.1 a), t.2.2.2)
def uG (t : tSt) (j i : Nat) (v : Int64) : tSt := (t.1, t.2.1, t.2.2.1, (fun a => if a = j then vp_updL (t.2.2.2 j) i v else t.2.2.2 a))
def fB (t : tSt) (j : Nat) (v : Int32) : tSt := (t.1, t.2.1, (fun a => if a = j then (fun _ => v) else t.2.2.1 a), t.2.2.2)
def fG (t : tSt) (j : Nat) (v : Int64) : tSt := (t.1, t.2.1, t.2.2.1, (fun a => if a = j then (fun _ => v) else t.2.2.2 a))
def tb (T : List (List (Int × Int))) (j k : Nat) : Int × Int := (T.getD j []).getD k (-2147483648, 2147483647)
def ta (T : List (Int × Int)) (j : Nat) : Int × Int := T.getD j (-2147483648, 2147483647)
def okI (T : List (List (Int × Int))) (t : tSt) : Prop := ∀ j k, (tb T j k).1 ≤ (t.1 j k).toInt ∧ (t.1 j k).toInt ≤ (tb T j k).2
def okB (T : List (Int × Int)) (t : tSt) : Prop := ∀ j i, (ta T j).1 ≤ (t.2.2.1 j i).toInt ∧ (t.2.2.1 j i).toInt ≤ (ta T j).2
theorem okI_I {T : List (List (Int × Int))} {t : tSt} (h : okI T t) (j k : Nat) (v : Int32) (hv : (tb T j k).1 ≤ v.toInt ∧ v.toInt ≤ (tb T j k).2) : okI T (uI t j k v) := by
  intro a b
  show _ ≤ (if a = j then (if b = k then v else t.1 a b) else t.1 a b).toInt ∧ (if a = j then (if b = k then v else t.1 a b) else t.1 a b).toInt ≤ _
  by_cases ha : a = j
  · by_cases hb : b = k
    · subst ha; subst hb; simpa using hv
    · simpa [ha, hb] using h j b
  · simpa [ha] using h a b
theorem okB_B {T : List (Int × Int)} {t : tSt} (h : okB T t) (j i : Nat) (v : Int32) (hv : (ta T j).1 ≤ v.toInt ∧ v.toInt ≤ (ta T j).2) : okB T (uB t j i v) := by
  intro a b
  show _ ≤ ((if a = j then upd (t.2.2.1 j) i v else t.2.2.1 a) b).toInt ∧ ((if a = j then upd (t.2.2.1 j) i v else t.2.2.1 a) b).toInt ≤ _
  by_cases ha : a = j
  · subst ha
    by_cases hb : b = i
    · subst hb; simpa [pk_us] using hv
    · simpa [pk_un hb] using h a b
  · simpa [ha] using h a b
theorem okB_f {T : List (Int × Int)} {t : tSt} (h : okB T t) (j : Nat) (v : Int32) (hv : (ta T j).1 ≤ v.toInt ∧ v.toInt ≤ (ta T j).2) : okB T (fB t j v) := by
  intro a b
  show _ ≤ ((if a = j then (fun _ => v) else t.2.2.1 a) b).toInt ∧ ((if a = j then (fun _ => v) else t.2.2.1 a) b).toInt ≤ _
  by_cases ha : a = j
  · subst ha; simpa using hv
  · simpa [ha] using h a b
/-- what a method leaves as it was: fields (int, long) and rows (int, long) that the lists do not name -/
def frA (mi mj : List (Nat × Nat)) (mb mg : List Nat) (t u : tSt) : Prop := (∀ j k, mi.contains (j, k) = false → u.1 j k = t.1 j k) ∧ (∀ j k, mj.contains (j, k) = false → u.2.1 j k = t.2.1 j k) ∧ (∀ j, mb.contains j = false → u.2.2.1 j = t.2.2.1 j) ∧ (∀ j, mg.contains j = false → u.2.2.2 j = t.2.2.2 j)
theorem frA_rf {mi mj : List (Nat × Nat)} {mb mg : List Nat} {t : tSt} : frA mi mj mb mg t t := ⟨fun _ _ _ => rfl, fun _ _ _ => rfl, fun _ _ => rfl, fun _ _ => rfl⟩
theorem frA_I {mi mj : List (Nat × Nat)} {mb mg : List Nat} {t u : tSt} (h : frA mi mj mb mg t u) (j k : Nat) (v : Int32) (hm : mi.contains (j, k) = true) : frA mi mj mb mg t (uI u j k v) := by
  refine ⟨fun a b hab => ?_, h.2⟩
  show (if a = j then (if b = k then v else u.1 a b) else u.1 a b) = _
  by_cases ha : a = j
  · by_cases hb : b = k
    · subst ha; subst hb; rw [hm] at hab; cases hab
    · simpa [ha, hb] using h.1 j b (by rw [← ha]; exact hab)
  · simpa [ha] using h.1 a b hab
theorem frA_J {mi mj : List (Nat × Nat)} {mb mg : List Nat} {t u : tSt} (h : frA mi mj mb mg t u) (j k : Nat) (v : Int64) (hm : mj.contains (j, k) = true) : frA mi mj mb mg t (uJ u j k v) := by
  refine ⟨h.1, fun a b hab => ?_, h.2.2⟩
  show (if a = j then (if b = k then v else u.2.1 a b) else u.2.1 a b) = _
  by_cases ha : a = j
  · by_cases hb : b = k
    · subst ha; subst hb; rw [hm] at hab; cases hab
    · simpa [ha, hb] using h.2.1 j b (by rw [← ha]; exact hab)
  · simpa [ha] using h.2.1 a b hab
theorem frA_B {mi mj : List (Nat × Nat)} {mb mg : List Nat} {t u : tSt} (h : frA mi mj mb mg t u) (j i : Nat) (v : Int32) (hm : mb.contains j = true) : frA mi mj mb mg t (uB u j i v) := by
  refine ⟨h.1, h.2.1, fun a hab => ?_, h.2.2.2⟩
  show (if a = j then upd (u.2.2.1 j) i v else u.2.2.1 a) = _
  by_cases ha : a = j
  · subst ha; rw [hm] at hab; cases hab
  · simpa [ha] using h.2.2.1 a hab
theorem frA_G {mi mj : List (Nat × Nat)} {mb mg : List Nat} {t u : tSt} (h : frA mi mj mb mg t u) (j i : Nat) (v : Int64) (hm : mg.contains j = true) : frA mi mj mb mg t (uG u j i v) := by
  refine ⟨h.1, h.2.1, h.2.2.1, fun a hab => ?_⟩
  show (if a = j then vp_updL (u.2.2.2 j) i v else u.2.2.2 a) = _
  by_cases ha : a = j
  · subst ha; rw [hm] at hab; cases hab
  · simpa [ha] using h.2.2.2 a hab
theorem con_subP {m1 m2 : List (Nat × Nat)} (hs : m1.all (fun q => m2.contains q) = true) {x : Nat × Nat} (h : m2.contains x = false) : m1.contains x = false := by
  cases hc : m1.contains x
  · rfl
  · have := List.all_eq_true.mp hs x (List.contains_iff_mem.mp hc)
    rw [h] at this; cases this
theorem con_subN {m1 m2 : List Nat} (hs : m1.all (fun q => m2.contains q) = true) {x : Nat} (h : m2.contains x = false) : m1.contains x = false := by
  cases hc : m1.contains x
  · rfl
  · have := List.all_eq_true.mp hs x (List.contains_iff_mem.mp hc)
    rw [h] at this; cases this
theorem frA_tr {mi mj ni nj : List (Nat × Nat)} {mb mg nb ng : List Nat} {t u w : tSt} (h : frA mi mj mb mg t u) (h1 : frA ni nj nb ng u w) (hs : (ni.all (fun q => mi.contains q) && nj.all (fun q => mj.contains q) && nb.all (fun q => mb.contains q) && ng.all (fun q => mg.contains q)) = true) : frA mi mj mb mg t w := by
  simp only [Bool.and_eq_true] at hs
  obtain ⟨⟨⟨s1, s2⟩, s3⟩, s4⟩ := hs
  exact ⟨fun j k e => (h1.1 j k (con_subP s1 e)).trans (h.1 j k e), fun j k e => (h1.2.1 j k (con_subP s2 e)).trans (h.2.1 j k e), fun j e => (h1.2.2.1 j (con_subN s3 e)).trans (h.2.2.1 j e), fun j e => (h1.2.2.2 j (con_subN s4 e)).trans (h.2.2.2 j e)⟩
/-- the value of a field or a place that stays -/
theorem ti_eq {a b : Int32} (h : a = b) : a.toInt = b.toInt := congrArg Int32.toInt h
theorem tl_eq {a b : Int64} (h : a = b) : a.toInt = b.toInt := congrArg Int64.toInt h
theorem tb_eq {f g : Nat → Int32} (h : f = g) (i : Nat) : (f i).toInt = (g i).toInt := congrArg Int32.toInt (congrFun h i)
theorem tg_eq {f g : Nat → Int64} (h : f = g) (i : Nat) : (f i).toInt = (g i).toInt := congrArg Int64.toInt (congrFun h i)
