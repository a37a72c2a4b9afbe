/-! ===== the start: string constants and statics ===== -/
def nb : List Cond := flatC (Jvm.Cond.and given_1 narrow_1)
def tmS (i : Nat) : Term := .string (sOwn i).1 (sOwn i).2.1
def tmV (i : Nat) : Term := .field (tmS i) "java/lang/String" "value" "[B"
def sSeg (i : Nat) : List Cond := [.exactly (tmS i) "java/lang/String", .eq (.field (tmS i) "java/lang/String" "coder" "B") (.int 0), .arrayOf (tmV i) .byte, .eq (.length (tmV i)) (.int (Int32.ofNat (sByt i).length))] ++ (List.range (sByt i).length).map (fun j => .eq (.elem (tmV i) (.int (Int32.ofNat j))) (.int ((sByt i).getD j 0)))
def tmC : Term := .static RX12 "CODES" "[I"
def cSeg : List Cond := [.isRef tmC, .arrayOf tmC .int, .eq (.length tmC) (.int (Int32.ofNat 157))] ++ (List.range 157).map (fun j => .eq (.elem tmC (.int (Int32.ofNat j))) (.int (cCod.getD j 0)))
theorem cut_in {L S : List Cond} {p n : Nat} (h : (L.drop p).take n = S) : ∀ w ∈ S, w ∈ L := fun w hw => by
  rw [← h] at hw
  exact List.mem_of_mem_drop (List.mem_of_mem_take hw)
set_option maxRecDepth 100000 in
theorem sin_0 : ∀ w ∈ sSeg 0, w ∈ nb := cut_in (p := 183) (n := 60) (by decide +kernel)
set_option maxRecDepth 100000 in
theorem sin_1 : ∀ w ∈ sSeg 1, w ∈ nb := cut_in (p := 243) (n := 68) (by decide +kernel)
set_option maxRecDepth 100000 in
theorem sin_2 : ∀ w ∈ sSeg 2, w ∈ nb := cut_in (p := 311) (n := 128) (by decide +kernel)
set_option maxRecDepth 100000 in
theorem sin_3 : ∀ w ∈ sSeg 3, w ∈ nb := cut_in (p := 439) (n := 44) (by decide +kernel)
set_option maxRecDepth 100000 in
theorem sin_4 : ∀ w ∈ sSeg 4, w ∈ nb := cut_in (p := 483) (n := 196) (by decide +kernel)
set_option maxRecDepth 100000 in
theorem sin_5 : ∀ w ∈ sSeg 5, w ∈ nb := cut_in (p := 679) (n := 164) (by decide +kernel)
set_option maxRecDepth 100000 in
theorem sin_6 : ∀ w ∈ sSeg 6, w ∈ nb := cut_in (p := 843) (n := 52) (by decide +kernel)
set_option maxRecDepth 100000 in
theorem sin_7 : ∀ w ∈ sSeg 7, w ∈ nb := cut_in (p := 895) (n := 9) (by decide +kernel)
set_option maxRecDepth 100000 in
theorem sin_8 : ∀ w ∈ sSeg 8, w ∈ nb := cut_in (p := 904) (n := 8) (by decide +kernel)
set_option maxRecDepth 100000 in
theorem sin_9 : ∀ w ∈ sSeg 9, w ∈ nb := cut_in (p := 912) (n := 8) (by decide +kernel)
set_option maxRecDepth 100000 in
theorem sin_10 : ∀ w ∈ sSeg 10, w ∈ nb := cut_in (p := 920) (n := 9) (by decide +kernel)
set_option maxRecDepth 100000 in
theorem sin_11 : ∀ w ∈ sSeg 11, w ∈ nb := cut_in (p := 929) (n := 8) (by decide +kernel)
set_option maxRecDepth 100000 in
theorem sin_12 : ∀ w ∈ sSeg 12, w ∈ nb := cut_in (p := 937) (n := 9) (by decide +kernel)
set_option maxRecDepth 100000 in
theorem sin_13 : ∀ w ∈ sSeg 13, w ∈ nb := cut_in (p := 946) (n := 9) (by decide +kernel)
set_option maxRecDepth 100000 in
theorem sin_14 : ∀ w ∈ sSeg 14, w ∈ nb := cut_in (p := 955) (n := 9) (by decide +kernel)
set_option maxRecDepth 100000 in
theorem sin_15 : ∀ w ∈ sSeg 15, w ∈ nb := cut_in (p := 964) (n := 9) (by decide +kernel)
set_option maxRecDepth 100000 in
theorem sin_16 : ∀ w ∈ sSeg 16, w ∈ nb := cut_in (p := 973) (n := 8) (by decide +kernel)
set_option maxRecDepth 100000 in
theorem sin_17 : ∀ w ∈ sSeg 17, w ∈ nb := cut_in (p := 981) (n := 8) (by decide +kernel)
set_option maxRecDepth 100000 in
theorem sin_18 : ∀ w ∈ sSeg 18, w ∈ nb := cut_in (p := 989) (n := 9) (by decide +kernel)
set_option maxRecDepth 100000 in
theorem sin_19 : ∀ w ∈ sSeg 19, w ∈ nb := cut_in (p := 998) (n := 9) (by decide +kernel)
set_option maxRecDepth 100000 in
theorem sin_20 : ∀ w ∈ sSeg 20, w ∈ nb := cut_in (p := 1007) (n := 9) (by decide +kernel)
set_option maxRecDepth 100000 in
theorem sin_21 : ∀ w ∈ sSeg 21, w ∈ nb := cut_in (p := 1016) (n := 8) (by decide +kernel)
set_option maxRecDepth 100000 in
theorem sin_22 : ∀ w ∈ sSeg 22, w ∈ nb := cut_in (p := 1024) (n := 8) (by decide +kernel)
set_option maxRecDepth 100000 in
theorem sin_23 : ∀ w ∈ sSeg 23, w ∈ nb := cut_in (p := 1032) (n := 60) (by decide +kernel)
set_option maxRecDepth 100000 in
theorem sin_24 : ∀ w ∈ sSeg 24, w ∈ nb := cut_in (p := 1093) (n := 632) (by decide +kernel)
set_option maxRecDepth 100000 in
theorem sin_25 : ∀ w ∈ sSeg 25, w ∈ nb := cut_in (p := 1725) (n := 8) (by decide +kernel)
set_option maxRecDepth 100000 in
theorem sin_26 : ∀ w ∈ sSeg 26, w ∈ nb := cut_in (p := 1733) (n := 8) (by decide +kernel)
set_option maxRecDepth 100000 in
theorem sin_27 : ∀ w ∈ sSeg 27, w ∈ nb := cut_in (p := 1742) (n := 8) (by decide +kernel)
set_option maxRecDepth 100000 in
theorem sin_28 : ∀ w ∈ sSeg 28, w ∈ nb := cut_in (p := 1751) (n := 9) (by decide +kernel)
set_option maxRecDepth 100000 in
theorem sin_29 : ∀ w ∈ sSeg 29, w ∈ nb := cut_in (p := 1761) (n := 8) (by decide +kernel)
set_option maxRecDepth 100000 in
theorem sin_30 : ∀ w ∈ sSeg 30, w ∈ nb := cut_in (p := 1770) (n := 9) (by decide +kernel)
set_option maxRecDepth 100000 in
theorem sin_31 : ∀ w ∈ sSeg 31, w ∈ nb := cut_in (p := 1780) (n := 9) (by decide +kernel)
set_option maxRecDepth 100000 in
theorem sin_32 : ∀ w ∈ sSeg 32, w ∈ nb := cut_in (p := 1790) (n := 8) (by decide +kernel)
set_option maxRecDepth 100000 in
theorem sin_33 : ∀ w ∈ sSeg 33, w ∈ nb := cut_in (p := 1799) (n := 9) (by decide +kernel)
set_option maxRecDepth 100000 in
theorem sin_34 : ∀ w ∈ sSeg 34, w ∈ nb := cut_in (p := 1809) (n := 9) (by decide +kernel)
set_option maxRecDepth 100000 in
theorem sin_35 : ∀ w ∈ sSeg 35, w ∈ nb := cut_in (p := 1819) (n := 8) (by decide +kernel)
set_option maxRecDepth 100000 in
theorem sin_36 : ∀ w ∈ sSeg 36, w ∈ nb := cut_in (p := 1828) (n := 9) (by decide +kernel)
set_option maxRecDepth 100000 in
theorem sin_37 : ∀ w ∈ sSeg 37, w ∈ nb := cut_in (p := 1838) (n := 9) (by decide +kernel)
set_option maxRecDepth 100000 in
theorem sin_38 : ∀ w ∈ sSeg 38, w ∈ nb := cut_in (p := 1848) (n := 9) (by decide +kernel)
set_option maxRecDepth 100000 in
theorem sin_39 : ∀ w ∈ sSeg 39, w ∈ nb := cut_in (p := 1858) (n := 8) (by decide +kernel)
set_option maxRecDepth 100000 in
theorem sin_40 : ∀ w ∈ sSeg 40, w ∈ nb := cut_in (p := 1867) (n := 9) (by decide +kernel)
set_option maxRecDepth 100000 in
theorem cin : ∀ w ∈ cSeg, w ∈ nb := cut_in (p := 11) (n := 160) (by decide +kernel)
theorem sin_all : ∀ i, i < 41 → ∀ w ∈ sSeg i, w ∈ nb := fun i hi => match i, hi with
  | 0, _ => sin_0
  | 1, _ => sin_1
  | 2, _ => sin_2
  | 3, _ => sin_3
  | 4, _ => sin_4
  | 5, _ => sin_5
  | 6, _ => sin_6
  | 7, _ => sin_7
  | 8, _ => sin_8
  | 9, _ => sin_9
  | 10, _ => sin_10
  | 11, _ => sin_11
  | 12, _ => sin_12
  | 13, _ => sin_13
  | 14, _ => sin_14
  | 15, _ => sin_15
  | 16, _ => sin_16
  | 17, _ => sin_17
  | 18, _ => sin_18
  | 19, _ => sin_19
  | 20, _ => sin_20
  | 21, _ => sin_21
  | 22, _ => sin_22
  | 23, _ => sin_23
  | 24, _ => sin_24
  | 25, _ => sin_25
  | 26, _ => sin_26
  | 27, _ => sin_27
  | 28, _ => sin_28
  | 29, _ => sin_29
  | 30, _ => sin_30
  | 31, _ => sin_31
  | 32, _ => sin_32
  | 33, _ => sin_33
  | 34, _ => sin_34
  | 35, _ => sin_35
  | 36, _ => sin_36
  | 37, _ => sin_37
  | 38, _ => sin_38
  | 39, _ => sin_39
  | 40, _ => sin_40
  | (n + 41), h => absurd h (by omega)
set_option maxRecDepth 100000 in
theorem tw_e2 : Cond.initialized "java/lang/String" ∈ lw_tbl := tin_13 _ (List.mem_of_getElem? (i := 17) (by decide +kernel))
set_option maxRecDepth 100000 in
theorem tw_e4 : Cond.initialized "jdk/internal/util/Preconditions" ∈ lw_tbl := tin_13 _ (List.mem_of_getElem? (i := 20) (by decide +kernel))
set_option maxRecDepth 100000 in
theorem tw_s0 : Cond.stringRef (sOwn 0).1 (sOwn 0).2.1 (sOwn 0).2.2 ∈ lw_tbl := tin_15 _ (List.mem_of_getElem? (i := 130) (by decide +kernel))
set_option maxRecDepth 100000 in
theorem tw_e1 : Cond.laysStatic "java/lang/String" "COMPACT_STRINGS" "Z" ∈ lw_tbl := tin_15 _ (List.mem_of_getElem? (i := 144) (by decide +kernel))
set_option maxRecDepth 100000 in
theorem tw_e3 : Cond.laysStatic "jdk/internal/util/Preconditions" "SIOOBE_FORMATTER" "Ljava/util/function/BiFunction;" ∈ lw_tbl := tin_15 _ (List.mem_of_getElem? (i := 183) (by decide +kernel))
set_option maxRecDepth 100000 in
theorem tw_s1 : Cond.stringRef (sOwn 1).1 (sOwn 1).2.1 (sOwn 1).2.2 ∈ lw_tbl := tin_16 _ (List.mem_of_getElem? (i := 26) (by decide +kernel))
set_option maxRecDepth 100000 in
theorem tw_s2 : Cond.stringRef (sOwn 2).1 (sOwn 2).2.1 (sOwn 2).2.2 ∈ lw_tbl := tin_16 _ (List.mem_of_getElem? (i := 31) (by decide +kernel))
set_option maxRecDepth 100000 in
theorem tw_s3 : Cond.stringRef (sOwn 3).1 (sOwn 3).2.1 (sOwn 3).2.2 ∈ lw_tbl := tin_16 _ (List.mem_of_getElem? (i := 32) (by decide +kernel))
set_option maxRecDepth 100000 in
theorem tw_s4 : Cond.stringRef (sOwn 4).1 (sOwn 4).2.1 (sOwn 4).2.2 ∈ lw_tbl := tin_16 _ (List.mem_of_getElem? (i := 33) (by decide +kernel))
set_option maxRecDepth 100000 in
theorem tw_s5 : Cond.stringRef (sOwn 5).1 (sOwn 5).2.1 (sOwn 5).2.2 ∈ lw_tbl := tin_16 _ (List.mem_of_getElem? (i := 34) (by decide +kernel))
set_option maxRecDepth 100000 in
theorem tw_s6 : Cond.stringRef (sOwn 6).1 (sOwn 6).2.1 (sOwn 6).2.2 ∈ lw_tbl := tin_16 _ (List.mem_of_getElem? (i := 35) (by decide +kernel))
set_option maxRecDepth 100000 in
theorem tw_s7 : Cond.stringRef (sOwn 7).1 (sOwn 7).2.1 (sOwn 7).2.2 ∈ lw_tbl := tin_18 _ (List.mem_of_getElem? (i := 144) (by decide +kernel))
set_option maxRecDepth 100000 in
theorem tw_s8 : Cond.stringRef (sOwn 8).1 (sOwn 8).2.1 (sOwn 8).2.2 ∈ lw_tbl := tin_18 _ (List.mem_of_getElem? (i := 165) (by decide +kernel))
set_option maxRecDepth 100000 in
theorem tw_s9 : Cond.stringRef (sOwn 9).1 (sOwn 9).2.1 (sOwn 9).2.2 ∈ lw_tbl := tin_18 _ (List.mem_of_getElem? (i := 166) (by decide +kernel))
set_option maxRecDepth 100000 in
theorem tw_s10 : Cond.stringRef (sOwn 10).1 (sOwn 10).2.1 (sOwn 10).2.2 ∈ lw_tbl := tin_18 _ (List.mem_of_getElem? (i := 167) (by decide +kernel))
set_option maxRecDepth 100000 in
theorem tw_s11 : Cond.stringRef (sOwn 11).1 (sOwn 11).2.1 (sOwn 11).2.2 ∈ lw_tbl := tin_18 _ (List.mem_of_getElem? (i := 168) (by decide +kernel))
set_option maxRecDepth 100000 in
theorem tw_s12 : Cond.stringRef (sOwn 12).1 (sOwn 12).2.1 (sOwn 12).2.2 ∈ lw_tbl := tin_18 _ (List.mem_of_getElem? (i := 169) (by decide +kernel))
set_option maxRecDepth 100000 in
theorem tw_s13 : Cond.stringRef (sOwn 13).1 (sOwn 13).2.1 (sOwn 13).2.2 ∈ lw_tbl := tin_18 _ (List.mem_of_getElem? (i := 187) (by decide +kernel))
set_option maxRecDepth 100000 in
theorem tw_s14 : Cond.stringRef (sOwn 14).1 (sOwn 14).2.1 (sOwn 14).2.2 ∈ lw_tbl := tin_18 _ (List.mem_of_getElem? (i := 196) (by decide +kernel))
set_option maxRecDepth 100000 in
theorem tw_s15 : Cond.stringRef (sOwn 15).1 (sOwn 15).2.1 (sOwn 15).2.2 ∈ lw_tbl := tin_18 _ (List.mem_of_getElem? (i := 197) (by decide +kernel))
set_option maxRecDepth 100000 in
theorem tw_s16 : Cond.stringRef (sOwn 16).1 (sOwn 16).2.1 (sOwn 16).2.2 ∈ lw_tbl := tin_18 _ (List.mem_of_getElem? (i := 198) (by decide +kernel))
set_option maxRecDepth 100000 in
theorem tw_s17 : Cond.stringRef (sOwn 17).1 (sOwn 17).2.1 (sOwn 17).2.2 ∈ lw_tbl := tin_19 _ (List.mem_of_getElem? (i := 32) (by decide +kernel))
set_option maxRecDepth 100000 in
theorem tw_s18 : Cond.stringRef (sOwn 18).1 (sOwn 18).2.1 (sOwn 18).2.2 ∈ lw_tbl := tin_19 _ (List.mem_of_getElem? (i := 33) (by decide +kernel))
set_option maxRecDepth 100000 in
theorem tw_s19 : Cond.stringRef (sOwn 19).1 (sOwn 19).2.1 (sOwn 19).2.2 ∈ lw_tbl := tin_19 _ (List.mem_of_getElem? (i := 34) (by decide +kernel))
set_option maxRecDepth 100000 in
theorem tw_s20 : Cond.stringRef (sOwn 20).1 (sOwn 20).2.1 (sOwn 20).2.2 ∈ lw_tbl := tin_19 _ (List.mem_of_getElem? (i := 35) (by decide +kernel))
set_option maxRecDepth 100000 in
theorem tw_s21 : Cond.stringRef (sOwn 21).1 (sOwn 21).2.1 (sOwn 21).2.2 ∈ lw_tbl := tin_19 _ (List.mem_of_getElem? (i := 36) (by decide +kernel))
set_option maxRecDepth 100000 in
theorem tw_s22 : Cond.stringRef (sOwn 22).1 (sOwn 22).2.1 (sOwn 22).2.2 ∈ lw_tbl := tin_19 _ (List.mem_of_getElem? (i := 60) (by decide +kernel))
set_option maxRecDepth 100000 in
theorem tw_s23 : Cond.stringRef (sOwn 23).1 (sOwn 23).2.1 (sOwn 23).2.2 ∈ lw_tbl := tin_21 _ (List.mem_of_getElem? (i := 60) (by decide +kernel))
set_option maxRecDepth 100000 in
theorem tw_e0 : Cond.laysStatic RX12 "CODES" "[I" ∈ lw_tbl := tin_21 _ (List.mem_of_getElem? (i := 101) (by decide +kernel))
set_option maxRecDepth 100000 in
theorem tw_s24 : Cond.stringRef (sOwn 24).1 (sOwn 24).2.1 (sOwn 24).2.2 ∈ lw_tbl := tin_21 _ (List.mem_of_getElem? (i := 105) (by decide +kernel))
set_option maxRecDepth 100000 in
theorem tw_s25 : Cond.stringRef (sOwn 25).1 (sOwn 25).2.1 (sOwn 25).2.2 ∈ lw_tbl := tin_23 _ (List.mem_of_getElem? (i := 107) (by decide +kernel))
set_option maxRecDepth 100000 in
theorem tw_s26 : Cond.stringRef (sOwn 26).1 (sOwn 26).2.1 (sOwn 26).2.2 ∈ lw_tbl := tin_23 _ (List.mem_of_getElem? (i := 120) (by decide +kernel))
set_option maxRecDepth 100000 in
theorem tw_s27 : Cond.stringRef (sOwn 27).1 (sOwn 27).2.1 (sOwn 27).2.2 ∈ lw_tbl := tin_23 _ (List.mem_of_getElem? (i := 121) (by decide +kernel))
set_option maxRecDepth 100000 in
theorem tw_s28 : Cond.stringRef (sOwn 28).1 (sOwn 28).2.1 (sOwn 28).2.2 ∈ lw_tbl := tin_23 _ (List.mem_of_getElem? (i := 122) (by decide +kernel))
set_option maxRecDepth 100000 in
theorem tw_s29 : Cond.stringRef (sOwn 29).1 (sOwn 29).2.1 (sOwn 29).2.2 ∈ lw_tbl := tin_23 _ (List.mem_of_getElem? (i := 123) (by decide +kernel))
set_option maxRecDepth 100000 in
theorem tw_s30 : Cond.stringRef (sOwn 30).1 (sOwn 30).2.1 (sOwn 30).2.2 ∈ lw_tbl := tin_23 _ (List.mem_of_getElem? (i := 124) (by decide +kernel))
set_option maxRecDepth 100000 in
theorem tw_s31 : Cond.stringRef (sOwn 31).1 (sOwn 31).2.1 (sOwn 31).2.2 ∈ lw_tbl := tin_23 _ (List.mem_of_getElem? (i := 129) (by decide +kernel))
set_option maxRecDepth 100000 in
theorem tw_s32 : Cond.stringRef (sOwn 32).1 (sOwn 32).2.1 (sOwn 32).2.2 ∈ lw_tbl := tin_23 _ (List.mem_of_getElem? (i := 134) (by decide +kernel))
set_option maxRecDepth 100000 in
theorem tw_s33 : Cond.stringRef (sOwn 33).1 (sOwn 33).2.1 (sOwn 33).2.2 ∈ lw_tbl := tin_23 _ (List.mem_of_getElem? (i := 139) (by decide +kernel))
set_option maxRecDepth 100000 in
theorem tw_s34 : Cond.stringRef (sOwn 34).1 (sOwn 34).2.1 (sOwn 34).2.2 ∈ lw_tbl := tin_23 _ (List.mem_of_getElem? (i := 140) (by decide +kernel))
set_option maxRecDepth 100000 in
theorem tw_s35 : Cond.stringRef (sOwn 35).1 (sOwn 35).2.1 (sOwn 35).2.2 ∈ lw_tbl := tin_23 _ (List.mem_of_getElem? (i := 184) (by decide +kernel))
set_option maxRecDepth 100000 in
theorem tw_s36 : Cond.stringRef (sOwn 36).1 (sOwn 36).2.1 (sOwn 36).2.2 ∈ lw_tbl := tin_23 _ (List.mem_of_getElem? (i := 185) (by decide +kernel))
set_option maxRecDepth 100000 in
theorem tw_s37 : Cond.stringRef (sOwn 37).1 (sOwn 37).2.1 (sOwn 37).2.2 ∈ lw_tbl := tin_23 _ (List.mem_of_getElem? (i := 186) (by decide +kernel))
set_option maxRecDepth 100000 in
theorem tw_s38 : Cond.stringRef (sOwn 38).1 (sOwn 38).2.1 (sOwn 38).2.2 ∈ lw_tbl := tin_23 _ (List.mem_of_getElem? (i := 187) (by decide +kernel))
set_option maxRecDepth 100000 in
theorem tw_s39 : Cond.stringRef (sOwn 39).1 (sOwn 39).2.1 (sOwn 39).2.2 ∈ lw_tbl := tin_23 _ (List.mem_of_getElem? (i := 188) (by decide +kernel))
set_option maxRecDepth 100000 in
theorem tw_s40 : Cond.stringRef (sOwn 40).1 (sOwn 40).2.1 (sOwn 40).2.2 ∈ lw_tbl := tin_23 _ (List.mem_of_getElem? (i := 205) (by decide +kernel))
theorem tw_all : ∀ i, i < 41 → Cond.stringRef (sOwn i).1 (sOwn i).2.1 (sOwn i).2.2 ∈ lw_tbl := fun i hi => match i, hi with
  | 0, _ => tw_s0
  | 1, _ => tw_s1
  | 2, _ => tw_s2
  | 3, _ => tw_s3
  | 4, _ => tw_s4
  | 5, _ => tw_s5
  | 6, _ => tw_s6
  | 7, _ => tw_s7
  | 8, _ => tw_s8
  | 9, _ => tw_s9
  | 10, _ => tw_s10
  | 11, _ => tw_s11
  | 12, _ => tw_s12
  | 13, _ => tw_s13
  | 14, _ => tw_s14
  | 15, _ => tw_s15
  | 16, _ => tw_s16
  | 17, _ => tw_s17
  | 18, _ => tw_s18
  | 19, _ => tw_s19
  | 20, _ => tw_s20
  | 21, _ => tw_s21
  | 22, _ => tw_s22
  | 23, _ => tw_s23
  | 24, _ => tw_s24
  | 25, _ => tw_s25
  | 26, _ => tw_s26
  | 27, _ => tw_s27
  | 28, _ => tw_s28
  | 29, _ => tw_s29
  | 30, _ => tw_s30
  | 31, _ => tw_s31
  | 32, _ => tw_s32
  | 33, _ => tw_s33
  | 34, _ => tw_s34
  | 35, _ => tw_s35
  | 36, _ => tw_s36
  | 37, _ => tw_s37
  | 38, _ => tw_s38
  | 39, _ => tw_s39
  | 40, _ => tw_s40
  | (n + 41), h => absurd h (by omega)
theorem sByt_len : ∀ i, i < 41 → (sByt i).length < 2 ^ 31 := by decide +kernel
theorem start_XQ {args : Array Value} {s : State} {A : Nat → Prop} (hts : ∀ w ∈ lw_tbl, w.before args s = true) (hfl : ∀ w ∈ nb, w.before args s = true) (hE : XE s) (hZ : XZ A s s.heap) (hI : (Cond.initialized RX12).before args s = true) (hA : ∀ a : Nat, a < s.heap.size → ¬ A a) : ∃ Z Y : Nat → Nat, XR Z s ∧ XQ Z Y A s s.heap := by
  have h0 : ∀ i : Nat, ∃ q : Nat × Nat, i < 41 → (tmS i).eval args s none [] s = some (.ref q.1) ∧ va_O "java/lang/String" q.1 A s s.heap ∧ va_OF "java/lang/String" "coder" "B" (.int 0) q.1 A s s.heap ∧ va_OF "java/lang/String" "value" "[B" (.ref q.2) q.1 A s s.heap ∧ va_T .byte q.2 (sByt i).length (fun j => .int ((sByt i).getD j 0)) A s s.heap := by
    intro i
    by_cases hi : i < 41
    · have hw : ∀ w ∈ sSeg i, w.before args s = true := fun w h => hfl w (sin_all i hi w h)
      have hex := hw (.exactly (tmS i) "java/lang/String") (List.mem_append_left _ (.head _))
      have hco := hw (.eq (.field (tmS i) "java/lang/String" "coder" "B") (.int 0)) (List.mem_append_left _ (.tail _ (.head _)))
      have har := hw (.arrayOf (tmV i) .byte) (List.mem_append_left _ (.tail _ (.tail _ (.head _))))
      have hle := hw (.eq (.length (tmV i)) (.int (Int32.ofNat (sByt i).length))) (List.mem_append_left _ (.tail _ (.tail _ (.tail _ (.head _)))))
      have hel : ∀ j : Nat, j < (sByt i).length → (Cond.eq (.elem (tmV i) (.int (Int32.ofNat j))) (.int ((sByt i).getD j 0))).before args s = true := fun j hj => hw _ (List.mem_append_right _ (List.mem_map.mpr ⟨j, List.mem_range.mpr hj, rfl⟩))
      obtain ⟨a, c, cA, kA, q1, q2, q3, q4, q5, q6, -⟩ := Cond.exactly_spec (args := args) (first := s) (o := none) (s := s) (idx := []) (t := tmS i) (cls := "java/lang/String") hex
      obtain ⟨t, ht, hT⟩ := va_Tof (f := fun j => .int ((sByt i).getD j 0)) (A := A) (sByt_len i hi) har (va_eqt hle) (fun j hj => va_eqt (hel j hj)) hA
      exact ⟨(a, t), fun _ => ⟨q1, ⟨cA, q3, q5, by rw [q6]; exact q2, hA a (Array.getElem?_eq_some_iff.mp q3).1⟩, vk_OFof q1 (va_eqt hco) hA, vk_OFof q1 ht hA, hT⟩⟩
    · exact ⟨(0, 0), fun h => absurd h hi⟩
  obtain ⟨ad, had⟩ := Classical.axiomOfChoice h0
  have hwc : ∀ w ∈ cSeg, w.before args s = true := fun w h => hfl w (cin w h)
  obtain ⟨tc, htc, hTc⟩ := va_Tof (tm := tmC) (ty := .int) (N := 157) (f := fun j => .int (cCod.getD j 0)) (A := A) (by decide) (hwc _ (List.mem_append_left _ (.tail _ (.head _)))) (va_eqt (hwc _ (List.mem_append_left _ (.tail _ (.tail _ (.head _)))))) (fun j hj => va_eqt (hwc _ (List.mem_append_right _ (List.mem_map.mpr ⟨j, List.mem_range.mpr hj, rfl⟩)))) hA
  refine ⟨fun i => (ad i).1, fun i => if i = 100 then tc else (ad i).2, ⟨hE, fun i hi => vk_R.of (hts _ (tw_all i hi)) (had i hi).1⟩, fun i hi => ?_, ?_, ?_, ?_, ?_, hZ⟩
  · have hne : ¬ i = 100 := by omega
    simp only [if_neg hne]
    exact (had i hi).2
  · exact va_Zof (hts _ tw_e1) (hts _ tw_e2) (va_eqt (hfl (Cond.eq (.static "java/lang/String" "COMPACT_STRINGS" "Z") (.int 1)) (by decide +kernel))) hA
  · exact va_Zqof (hts _ tw_e3) (hts _ tw_e4) (hfl (Cond.isRef (.static "jdk/internal/util/Preconditions" "SIOOBE_FORMATTER" "Ljava/util/function/BiFunction;")) (by decide +kernel)) hA
  · exact va_Zof (hts _ tw_e0) hI htc hA
  · exact hTc
