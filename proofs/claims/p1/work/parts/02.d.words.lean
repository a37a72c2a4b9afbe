theorem mem_p {big : List Cond} (ws : List Cond) (ps : List Nat) (hp : ws = ps.filterMap (fun i => big[i]?)) : ∀ w ∈ ws, w ∈ big := by
  intro w hw
  rw [hp] at hw
  obtain ⟨i, -, hi⟩ := List.mem_filterMap.mp hw
  first | exact List.mem_of_getElem? hi | exact List.getElem?_mem hi
theorem sel_sub {a b : List (MethodName × Nat)} (h : ∀ q ∈ a, q ∈ b) : ∀ w ∈ k2_sels a, w ∈ k2_sels b := by
  intro w hw
  obtain ⟨q, hq, e⟩ := List.mem_map.mp hw
  exact List.mem_map.mpr ⟨q, h q hq, e⟩
theorem tin_0 : ∀ w ∈ k2_sels lw_privs_1, w ∈ lw_tbl := fun w h => List.mem_append_left _ (sel_sub (a := lw_privs_1) (b := lw_privs) (fun q h => List.mem_append_left _ h) w h)
theorem tin_1 : ∀ w ∈ k2_sels lw_privs_2, w ∈ lw_tbl := fun w h => List.mem_append_left _ (sel_sub (a := lw_privs_2) (b := lw_privs) (fun q h => List.mem_append_right _ (List.mem_append_left _ h)) w h)
theorem tin_2 : ∀ w ∈ k2_sels lw_privs_3, w ∈ lw_tbl := fun w h => List.mem_append_left _ (sel_sub (a := lw_privs_3) (b := lw_privs) (fun q h => List.mem_append_right _ (List.mem_append_right _ (List.mem_append_left _ h))) w h)
theorem tin_3 : ∀ w ∈ k2_sels lw_privs_4, w ∈ lw_tbl := fun w h => List.mem_append_left _ (sel_sub (a := lw_privs_4) (b := lw_privs) (fun q h => List.mem_append_right _ (List.mem_append_right _ (List.mem_append_right _ (List.mem_append_left _ h)))) w h)
theorem tin_4 : ∀ w ∈ k2_sels lw_privs_5, w ∈ lw_tbl := fun w h => List.mem_append_left _ (sel_sub (a := lw_privs_5) (b := lw_privs) (fun q h => List.mem_append_right _ (List.mem_append_right _ (List.mem_append_right _ (List.mem_append_right _ (List.mem_append_left _ h))))) w h)
theorem tin_5 : ∀ w ∈ k2_sels lw_privs_6, w ∈ lw_tbl := fun w h => List.mem_append_left _ (sel_sub (a := lw_privs_6) (b := lw_privs) (fun q h => List.mem_append_right _ (List.mem_append_right _ (List.mem_append_right _ (List.mem_append_right _ (List.mem_append_right _ (List.mem_append_left _ h)))))) w h)
theorem tin_6 : ∀ w ∈ k2_sels lw_privs_7, w ∈ lw_tbl := fun w h => List.mem_append_left _ (sel_sub (a := lw_privs_7) (b := lw_privs) (fun q h => List.mem_append_right _ (List.mem_append_right _ (List.mem_append_right _ (List.mem_append_right _ (List.mem_append_right _ (List.mem_append_right _ (List.mem_append_left _ h))))))) w h)
theorem tin_7 : ∀ w ∈ k2_sels lw_privs_8, w ∈ lw_tbl := fun w h => List.mem_append_left _ (sel_sub (a := lw_privs_8) (b := lw_privs) (fun q h => List.mem_append_right _ (List.mem_append_right _ (List.mem_append_right _ (List.mem_append_right _ (List.mem_append_right _ (List.mem_append_right _ (List.mem_append_right _ (List.mem_append_left _ h)))))))) w h)
theorem tin_8 : ∀ w ∈ k2_sels lw_privs_9, w ∈ lw_tbl := fun w h => List.mem_append_left _ (sel_sub (a := lw_privs_9) (b := lw_privs) (fun q h => List.mem_append_right _ (List.mem_append_right _ (List.mem_append_right _ (List.mem_append_right _ (List.mem_append_right _ (List.mem_append_right _ (List.mem_append_right _ (List.mem_append_right _ (List.mem_append_left _ h))))))))) w h)
theorem tin_9 : ∀ w ∈ k2_sels lw_privs_10, w ∈ lw_tbl := fun w h => List.mem_append_left _ (sel_sub (a := lw_privs_10) (b := lw_privs) (fun q h => List.mem_append_right _ (List.mem_append_right _ (List.mem_append_right _ (List.mem_append_right _ (List.mem_append_right _ (List.mem_append_right _ (List.mem_append_right _ (List.mem_append_right _ (List.mem_append_right _ (List.mem_append_left _ h)))))))))) w h)
theorem tin_10 : ∀ w ∈ k2_sels lw_privs_11, w ∈ lw_tbl := fun w h => List.mem_append_left _ (sel_sub (a := lw_privs_11) (b := lw_privs) (fun q h => List.mem_append_right _ (List.mem_append_right _ (List.mem_append_right _ (List.mem_append_right _ (List.mem_append_right _ (List.mem_append_right _ (List.mem_append_right _ (List.mem_append_right _ (List.mem_append_right _ (List.mem_append_right _ (List.mem_append_left _ h))))))))))) w h)
theorem tin_11 : ∀ w ∈ k2_sels lw_privs_12, w ∈ lw_tbl := fun w h => List.mem_append_left _ (sel_sub (a := lw_privs_12) (b := lw_privs) (fun q h => List.mem_append_right _ (List.mem_append_right _ (List.mem_append_right _ (List.mem_append_right _ (List.mem_append_right _ (List.mem_append_right _ (List.mem_append_right _ (List.mem_append_right _ (List.mem_append_right _ (List.mem_append_right _ (List.mem_append_right _ (List.mem_append_left _ h)))))))))))) w h)
theorem tin_12 : ∀ w ∈ k2_sels lw_privs_13, w ∈ lw_tbl := fun w h => List.mem_append_left _ (sel_sub (a := lw_privs_13) (b := lw_privs) (fun q h => List.mem_append_right _ (List.mem_append_right _ (List.mem_append_right _ (List.mem_append_right _ (List.mem_append_right _ (List.mem_append_right _ (List.mem_append_right _ (List.mem_append_right _ (List.mem_append_right _ (List.mem_append_right _ (List.mem_append_right _ (List.mem_append_right _ h)))))))))))) w h)
theorem tin_13 : ∀ w ∈ tables_1_1, w ∈ lw_tbl := fun w h => List.mem_append_right _ (List.mem_append_left _ h)
theorem tin_14 : ∀ w ∈ tables_1_2, w ∈ lw_tbl := fun w h => List.mem_append_right _ (List.mem_append_right _ (List.mem_append_left _ h))
theorem tin_15 : ∀ w ∈ tables_1_3, w ∈ lw_tbl := fun w h => List.mem_append_right _ (List.mem_append_right _ (List.mem_append_right _ (List.mem_append_left _ h)))
theorem tin_16 : ∀ w ∈ tables_1_4, w ∈ lw_tbl := fun w h => List.mem_append_right _ (List.mem_append_right _ (List.mem_append_right _ (List.mem_append_right _ (List.mem_append_left _ h))))
theorem tin_17 : ∀ w ∈ tables_1_5, w ∈ lw_tbl := fun w h => List.mem_append_right _ (List.mem_append_right _ (List.mem_append_right _ (List.mem_append_right _ (List.mem_append_right _ (List.mem_append_left _ h)))))
theorem tin_18 : ∀ w ∈ tables_1_6, w ∈ lw_tbl := fun w h => List.mem_append_right _ (List.mem_append_right _ (List.mem_append_right _ (List.mem_append_right _ (List.mem_append_right _ (List.mem_append_right _ (List.mem_append_left _ h))))))
theorem tin_19 : ∀ w ∈ tables_1_7, w ∈ lw_tbl := fun w h => List.mem_append_right _ (List.mem_append_right _ (List.mem_append_right _ (List.mem_append_right _ (List.mem_append_right _ (List.mem_append_right _ (List.mem_append_right _ (List.mem_append_left _ h)))))))
theorem tin_20 : ∀ w ∈ tables_1_8, w ∈ lw_tbl := fun w h => List.mem_append_right _ (List.mem_append_right _ (List.mem_append_right _ (List.mem_append_right _ (List.mem_append_right _ (List.mem_append_right _ (List.mem_append_right _ (List.mem_append_right _ (List.mem_append_left _ h))))))))
theorem tin_21 : ∀ w ∈ tables_1_9, w ∈ lw_tbl := fun w h => List.mem_append_right _ (List.mem_append_right _ (List.mem_append_right _ (List.mem_append_right _ (List.mem_append_right _ (List.mem_append_right _ (List.mem_append_right _ (List.mem_append_right _ (List.mem_append_right _ (List.mem_append_left _ h)))))))))
theorem tin_22 : ∀ w ∈ tables_1_10, w ∈ lw_tbl := fun w h => List.mem_append_right _ (List.mem_append_right _ (List.mem_append_right _ (List.mem_append_right _ (List.mem_append_right _ (List.mem_append_right _ (List.mem_append_right _ (List.mem_append_right _ (List.mem_append_right _ (List.mem_append_right _ (List.mem_append_left _ h))))))))))
theorem tin_23 : ∀ w ∈ tables_1_11, w ∈ lw_tbl := fun w h => List.mem_append_right _ (List.mem_append_right _ (List.mem_append_right _ (List.mem_append_right _ (List.mem_append_right _ (List.mem_append_right _ (List.mem_append_right _ (List.mem_append_right _ (List.mem_append_right _ (List.mem_append_right _ (List.mem_append_right _ (List.mem_append_left _ h)))))))))))
theorem tin_24 : ∀ w ∈ tables_1_12, w ∈ lw_tbl := fun w h => List.mem_append_right _ (List.mem_append_right _ (List.mem_append_right _ (List.mem_append_right _ (List.mem_append_right _ (List.mem_append_right _ (List.mem_append_right _ (List.mem_append_right _ (List.mem_append_right _ (List.mem_append_right _ (List.mem_append_right _ (List.mem_append_right _ h)))))))))))
set_option maxRecDepth 20000 in
theorem uw_0_in : ∀ w ∈ uw_0, w ∈ lw_tbl := fun w h => tin_0 w (mem_p (big := (k2_sels lw_privs_1)) uw_0 [0, 1] (by decide +kernel) w h)
set_option maxRecDepth 20000 in
theorem uw_1_in : ∀ w ∈ uw_1, w ∈ lw_tbl := fun w h => tin_1 w (mem_p (big := (k2_sels lw_privs_2)) uw_1 [2] (by decide +kernel) w h)
set_option maxRecDepth 20000 in
theorem uw_2_in : ∀ w ∈ uw_2, w ∈ lw_tbl := fun w h => tin_4 w (mem_p (big := (k2_sels lw_privs_5)) uw_2 [0, 1, 2, 3, 4, 5, 6, 7, 8] (by decide +kernel) w h)
set_option maxRecDepth 20000 in
theorem uw_3_in : ∀ w ∈ uw_3, w ∈ lw_tbl := fun w h => tin_5 w (mem_p (big := (k2_sels lw_privs_6)) uw_3 [0] (by decide +kernel) w h)
set_option maxRecDepth 20000 in
theorem uw_4_in : ∀ w ∈ uw_4, w ∈ lw_tbl := fun w h => tin_6 w (mem_p (big := (k2_sels lw_privs_7)) uw_4 [11] (by decide +kernel) w h)
set_option maxRecDepth 20000 in
theorem uw_5_in : ∀ w ∈ uw_5, w ∈ lw_tbl := fun w h => tin_7 w (mem_p (big := (k2_sels lw_privs_8)) uw_5 [3, 4, 5, 6, 7, 8, 9] (by decide +kernel) w h)
set_option maxRecDepth 20000 in
theorem uw_6_in : ∀ w ∈ uw_6, w ∈ lw_tbl := fun w h => tin_8 w (mem_p (big := (k2_sels lw_privs_9)) uw_6 [6] (by decide +kernel) w h)
set_option maxRecDepth 20000 in
theorem uw_7_in : ∀ w ∈ uw_7, w ∈ lw_tbl := fun w h => tin_9 w (mem_p (big := (k2_sels lw_privs_10)) uw_7 [3] (by decide +kernel) w h)
set_option maxRecDepth 20000 in
theorem uw_8_in : ∀ w ∈ uw_8, w ∈ lw_tbl := fun w h => tin_10 w (mem_p (big := (k2_sels lw_privs_11)) uw_8 [13] (by decide +kernel) w h)
set_option maxRecDepth 20000 in
theorem uw_9_in : ∀ w ∈ uw_9, w ∈ lw_tbl := fun w h => tin_13 w (mem_p (big := tables_1_1) uw_9 [0, 1, 2, 3, 4, 5, 6, 7, 8, 9, 10, 11, 12, 13, 14, 15, 16, 17, 18, 19, 20, 21, 22, 26] (by decide +kernel) w h)
set_option maxRecDepth 20000 in
theorem uw_10_in : ∀ w ∈ uw_10, w ∈ lw_tbl := fun w h => tin_13 w (mem_p (big := tables_1_1) uw_10 [27, 28, 29, 30, 31, 32, 33, 34, 35, 36, 37, 38, 39, 40, 41, 43, 44, 45, 54, 56, 57, 58, 59, 61] (by decide +kernel) w h)
set_option maxRecDepth 20000 in
theorem uw_11_in : ∀ w ∈ uw_11, w ∈ lw_tbl := fun w h => tin_13 w (mem_p (big := tables_1_1) uw_11 [62, 80, 81, 82, 83, 84, 85, 86, 87, 88, 90, 91, 93, 94, 95, 99, 100, 110, 111, 112, 113, 114, 115, 116] (by decide +kernel) w h)
set_option maxRecDepth 20000 in
theorem uw_12_in : ∀ w ∈ uw_12, w ∈ lw_tbl := fun w h => tin_13 w (mem_p (big := tables_1_1) uw_12 [117, 118, 120, 121, 122, 123, 124, 134, 135, 136, 137, 138, 139, 140, 141, 142, 143, 144, 145, 146, 147, 148, 149, 150] (by decide +kernel) w h)
set_option maxRecDepth 20000 in
theorem uw_13_in : ∀ w ∈ uw_13, w ∈ lw_tbl := fun w h => tin_13 w (mem_p (big := tables_1_1) uw_13 [151, 152, 153, 181, 182, 183, 184, 185, 186, 187, 189, 190, 192, 193, 194, 196, 197, 199, 200, 201, 202, 204, 207, 208] (by decide +kernel) w h)
set_option maxRecDepth 20000 in
theorem uw_14_in : ∀ w ∈ uw_14, w ∈ lw_tbl := fun w h => tin_13 w (mem_p (big := tables_1_1) uw_14 [209, 210] (by decide +kernel) w h)
set_option maxRecDepth 20000 in
theorem uw_15_in : ∀ w ∈ uw_15, w ∈ lw_tbl := fun w h => tin_14 w (mem_p (big := tables_1_2) uw_15 [11, 12, 13, 14, 16, 17, 18, 19, 21, 26, 27, 30, 31, 32, 33, 35, 37, 39, 41, 43, 72, 73, 74, 75] (by decide +kernel) w h)
set_option maxRecDepth 20000 in
theorem uw_16_in : ∀ w ∈ uw_16, w ∈ lw_tbl := fun w h => tin_14 w (mem_p (big := tables_1_2) uw_16 [76, 77, 78, 79, 80, 81, 82, 83, 117, 118, 119, 120, 123, 124, 125, 126, 127, 128, 129, 130, 135, 137, 139, 142] (by decide +kernel) w h)
set_option maxRecDepth 20000 in
theorem uw_17_in : ∀ w ∈ uw_17, w ∈ lw_tbl := fun w h => tin_14 w (mem_p (big := tables_1_2) uw_17 [143, 144, 145, 146, 188, 189, 190, 191, 192, 193, 194, 195, 196, 197, 207, 208, 209, 210, 211, 212, 213, 214, 215, 234] (by decide +kernel) w h)
set_option maxRecDepth 20000 in
theorem uw_18_in : ∀ w ∈ uw_18, w ∈ lw_tbl := fun w h => tin_14 w (mem_p (big := tables_1_2) uw_18 [235, 237] (by decide +kernel) w h)
set_option maxRecDepth 20000 in
theorem uw_19_in : ∀ w ∈ uw_19, w ∈ lw_tbl := fun w h => tin_15 w (mem_p (big := tables_1_3) uw_19 [34, 35, 36, 37, 38, 39, 40, 41, 59, 60, 61, 62, 63, 65, 66, 67, 68, 69, 70, 71, 72, 73, 74, 75] (by decide +kernel) w h)
set_option maxRecDepth 20000 in
theorem uw_20_in : ∀ w ∈ uw_20, w ∈ lw_tbl := fun w h => tin_15 w (mem_p (big := tables_1_3) uw_20 [77, 78, 79, 80, 81, 82, 83, 84, 85, 86, 87, 88, 89, 90, 91, 92, 93, 94, 95, 96, 97, 98, 99, 100] (by decide +kernel) w h)
set_option maxRecDepth 20000 in
theorem uw_21_in : ∀ w ∈ uw_21, w ∈ lw_tbl := fun w h => tin_15 w (mem_p (big := tables_1_3) uw_21 [101, 102, 103, 104, 105, 106, 107, 108, 109, 110, 111, 112, 113, 114, 115, 116, 117, 118, 119, 120, 121, 122, 123, 124] (by decide +kernel) w h)
set_option maxRecDepth 20000 in
theorem uw_22_in : ∀ w ∈ uw_22, w ∈ lw_tbl := fun w h => tin_15 w (mem_p (big := tables_1_3) uw_22 [125, 126] (by decide +kernel) w h)
set_option maxRecDepth 20000 in
theorem uw_23_in : ∀ w ∈ uw_23, w ∈ lw_tbl := fun w h => tin_16 w (mem_p (big := tables_1_4) uw_23 [80, 98, 99, 100, 210, 211, 212, 213, 219, 220, 221, 222, 223, 224, 225, 226, 227, 228, 229, 230, 231, 232, 233, 234] (by decide +kernel) w h)
set_option maxRecDepth 20000 in
theorem uw_24_in : ∀ w ∈ uw_24, w ∈ lw_tbl := fun w h => tin_16 w (mem_p (big := tables_1_4) uw_24 [235, 236] (by decide +kernel) w h)
set_option maxRecDepth 20000 in
theorem uw_25_in : ∀ w ∈ uw_25, w ∈ lw_tbl := fun w h => tin_17 w (mem_p (big := tables_1_5) uw_25 [1, 2, 3, 4, 5, 6, 7, 8, 9, 10, 11, 12, 13, 14, 15, 16, 17, 18, 24, 25, 26, 27, 28, 29] (by decide +kernel) w h)
set_option maxRecDepth 20000 in
theorem uw_26_in : ∀ w ∈ uw_26, w ∈ lw_tbl := fun w h => tin_17 w (mem_p (big := tables_1_5) uw_26 [31, 32, 132, 133, 134, 214, 215, 216, 230, 231, 232] (by decide +kernel) w h)
set_option maxRecDepth 20000 in
theorem uw_27_in : ∀ w ∈ uw_27, w ∈ lw_tbl := fun w h => tin_18 w (mem_p (big := tables_1_6) uw_27 [38, 39, 40, 41, 42, 44, 45, 46, 47, 66, 67, 68, 69, 74, 75, 76, 77, 88, 89, 90, 91, 117, 118, 119] (by decide +kernel) w h)
set_option maxRecDepth 20000 in
theorem uw_28_in : ∀ w ∈ uw_28, w ∈ lw_tbl := fun w h => tin_18 w (mem_p (big := tables_1_6) uw_28 [120, 121, 122, 123, 124, 131, 132, 133, 134, 135, 136, 137, 138, 139] (by decide +kernel) w h)
set_option maxRecDepth 20000 in
theorem uw_29_in : ∀ w ∈ uw_29, w ∈ lw_tbl := fun w h => tin_19 w (mem_p (big := tables_1_7) uw_29 [26, 27, 28, 47, 48, 49, 50, 51, 52, 53, 54, 55, 62, 63, 64, 65, 66, 67, 68, 69, 70, 71, 72, 73] (by decide +kernel) w h)
set_option maxRecDepth 20000 in
theorem uw_30_in : ∀ w ∈ uw_30, w ∈ lw_tbl := fun w h => tin_19 w (mem_p (big := tables_1_7) uw_30 [74, 75, 76, 77, 78, 79, 80, 81, 82, 83, 84, 85, 86, 87, 88, 89, 90, 91, 92, 93, 94, 95, 156, 157] (by decide +kernel) w h)
set_option maxRecDepth 20000 in
theorem uw_31_in : ∀ w ∈ uw_31, w ∈ lw_tbl := fun w h => tin_19 w (mem_p (big := tables_1_7) uw_31 [158, 160, 161, 162, 163, 164, 165, 166, 167, 168, 169, 170, 171, 172, 173, 174, 175, 177, 178, 182, 183, 184, 185, 186] (by decide +kernel) w h)
set_option maxRecDepth 20000 in
theorem uw_32_in : ∀ w ∈ uw_32, w ∈ lw_tbl := fun w h => tin_19 w (mem_p (big := tables_1_7) uw_32 [187, 188, 189, 190, 191, 192, 193, 194, 195, 196, 197, 198, 199, 200, 201, 202, 203, 204, 205, 206, 207, 208, 209, 210] (by decide +kernel) w h)
set_option maxRecDepth 20000 in
theorem uw_33_in : ∀ w ∈ uw_33, w ∈ lw_tbl := fun w h => tin_19 w (mem_p (big := tables_1_7) uw_33 [211, 218, 219, 220, 221, 222, 223, 224, 225, 226, 227, 228, 229, 230, 231, 232, 233, 234, 235, 236, 237, 238, 239] (by decide +kernel) w h)
set_option maxRecDepth 20000 in
theorem uw_34_in : ∀ w ∈ uw_34, w ∈ lw_tbl := fun w h => tin_20 w (mem_p (big := tables_1_8) uw_34 [0, 1, 2, 3, 4, 5, 6, 7, 8, 9, 10, 11, 12, 13, 14, 15, 16, 17, 18, 19, 20, 21, 22, 23] (by decide +kernel) w h)
set_option maxRecDepth 20000 in
theorem uw_35_in : ∀ w ∈ uw_35, w ∈ lw_tbl := fun w h => tin_20 w (mem_p (big := tables_1_8) uw_35 [24, 25, 26, 29, 33, 34, 35, 36, 41, 42, 43, 44, 45, 46, 47, 48, 50, 51] (by decide +kernel) w h)
set_option maxRecDepth 20000 in
theorem uw_36_in : ∀ w ∈ uw_36, w ∈ lw_tbl := fun w h => tin_21 w (mem_p (big := tables_1_9) uw_36 [2, 3, 4, 5, 6, 7, 8, 9, 10, 12, 13, 14, 15, 16, 17, 18, 19, 20, 21, 22, 24, 25, 26, 28] (by decide +kernel) w h)
set_option maxRecDepth 20000 in
theorem uw_37_in : ∀ w ∈ uw_37, w ∈ lw_tbl := fun w h => tin_21 w (mem_p (big := tables_1_9) uw_37 [29, 30, 32, 33, 34, 36, 37, 38, 40, 41, 42, 44, 45, 46, 48, 49, 96, 98, 99, 153, 175, 176, 180, 181] (by decide +kernel) w h)
set_option maxRecDepth 20000 in
theorem uw_38_in : ∀ w ∈ uw_38, w ∈ lw_tbl := fun w h => tin_21 w (mem_p (big := tables_1_9) uw_38 [182, 237, 239] (by decide +kernel) w h)
set_option maxRecDepth 20000 in
theorem uw_39_in : ∀ w ∈ uw_39, w ∈ lw_tbl := fun w h => tin_22 w (mem_p (big := tables_1_10) uw_39 [0, 30, 31, 32, 33, 34, 36, 37, 38, 40, 41, 42, 44, 45, 46, 48, 49, 50, 52, 53, 54, 56, 57, 58] (by decide +kernel) w h)
set_option maxRecDepth 20000 in
theorem uw_40_in : ∀ w ∈ uw_40, w ∈ lw_tbl := fun w h => tin_22 w (mem_p (big := tables_1_10) uw_40 [60, 61, 62, 63, 64, 65, 66, 67, 68, 69, 86, 87, 88, 89, 106, 107, 108, 109, 114, 115, 116, 117, 130, 131] (by decide +kernel) w h)
set_option maxRecDepth 20000 in
theorem uw_41_in : ∀ w ∈ uw_41, w ∈ lw_tbl := fun w h => tin_22 w (mem_p (big := tables_1_10) uw_41 [132, 133, 134, 135, 137, 138, 195, 197, 198] (by decide +kernel) w h)
set_option maxRecDepth 20000 in
theorem uw_42_in : ∀ w ∈ uw_42, w ∈ lw_tbl := fun w h => tin_23 w (mem_p (big := tables_1_11) uw_42 [71, 72, 73, 74, 75, 76, 77, 78, 79, 80, 81, 83, 84, 85, 86, 87, 89, 90, 95, 96, 97, 98, 99, 100] (by decide +kernel) w h)
set_option maxRecDepth 20000 in
theorem uw_43_in : ∀ w ∈ uw_43, w ∈ lw_tbl := fun w h => tin_23 w (mem_p (big := tables_1_11) uw_43 [101, 102, 103, 104, 105, 106, 201, 202, 203, 204, 205, 206, 207, 208, 210, 211, 212, 213, 214, 215, 216, 217, 218, 219] (by decide +kernel) w h)
set_option maxRecDepth 20000 in
theorem uw_44_in : ∀ w ∈ uw_44, w ∈ lw_tbl := fun w h => tin_23 w (mem_p (big := tables_1_11) uw_44 [220, 221, 222, 223, 224, 225, 226, 227, 228, 229, 230, 231, 232, 233, 234, 235, 236, 237, 238, 239] (by decide +kernel) w h)
set_option maxRecDepth 20000 in
theorem uw_45_in : ∀ w ∈ uw_45, w ∈ lw_tbl := fun w h => tin_24 w (mem_p (big := tables_1_12) uw_45 [0, 1, 2, 3, 4] (by decide +kernel) w h)
set_option maxRecDepth 20000 in
theorem wsX110_in : ∀ w ∈ wsX110, w ∈ lw_tbl := fun w h => (fun (h : w ∈ tables_1_3) => tin_15 w h) (mem_p (big := tables_1_3) wsX110 [42, 44, 46, 48, 50, 52, 54, 56] (by decide +kernel) w h)
set_option maxRecDepth 20000 in
theorem wsX120_in : ∀ w ∈ wsX120, w ∈ lw_tbl := fun w h => (fun (h : w ∈ tables_1_8) => tin_20 w h) (mem_p (big := tables_1_8) wsX120 [53, 55, 57, 59, 61, 63, 65, 67, 69, 71, 73, 75, 77, 79, 81, 83, 85, 87, 89, 91, 93, 95, 97, 99, 101, 103, 105, 107, 109, 111, 113, 115, 117, 119, 121, 123, 125, 127, 129, 131, 133, 135, 137, 139, 141, 143, 145, 147, 149, 151, 153, 155, 157, 159, 161, 163, 165, 167, 169, 171, 173, 175, 177, 179, 181, 183, 185, 187, 189, 191, 193, 195, 197, 199, 201, 203, 205, 207, 209, 211, 213, 215, 217, 219, 221, 223, 225, 227, 229, 231, 233, 235, 237, 239] (by decide +kernel) w h)
set_option maxRecDepth 20000 in
theorem wsX90_in : ∀ w ∈ wsX90, w ∈ lw_tbl := fun w h => (fun (h : w ∈ tables_1_1) => tin_13 w h) (mem_p (big := tables_1_1) wsX90 [63, 65, 67, 69, 71, 73, 75, 77] (by decide +kernel) w h)
set_option maxRecDepth 20000 in
theorem wsX100_in : ∀ w ∈ wsX100, w ∈ lw_tbl := fun w h => (fun (h : w ∈ tables_1_1) => tin_13 w h) (mem_p (big := tables_1_1) wsX100 [154, 156, 158, 160, 162, 164, 166, 168, 170, 172, 174, 176, 178] (by decide +kernel) w h)
set_option maxRecDepth 20000 in
theorem wsX20_in : ∀ w ∈ wsX20, w ∈ lw_tbl := fun w h => (fun (h : w ∈ (tables_1_1 ++ tables_1_2)) => (List.mem_append.mp h).elim (fun h => tin_13 w h) (fun h => tin_14 w h)) (mem_p (big := (tables_1_1 ++ tables_1_2)) wsX20 [218, 220, 222, 224, 226, 228, 230, 232, 234, 236, 238, 240, 242, 244, 246, 248] (by decide +kernel) w h)
set_option maxRecDepth 20000 in
theorem wsX00_in : ∀ w ∈ wsX00, w ∈ lw_tbl := fun w h => (fun (h : w ∈ tables_1_2) => tin_14 w h) (mem_p (big := tables_1_2) wsX00 [147, 149, 151, 153, 155, 157, 159, 161, 163, 165, 167, 169, 171, 173, 175, 177, 179, 181, 183, 185] (by decide +kernel) w h)
set_option maxRecDepth 20000 in
theorem wsX80_in : ∀ w ∈ wsX80, w ∈ lw_tbl := fun w h => (fun (h : w ∈ tables_1_2) => tin_14 w h) (mem_p (big := tables_1_2) wsX80 [45, 47, 49, 51, 53, 55, 57, 59, 61, 63, 65, 67, 69] (by decide +kernel) w h)
set_option maxRecDepth 20000 in
theorem wsX70_in : ∀ w ∈ wsX70, w ∈ lw_tbl := fun w h => (fun (h : w ∈ tables_1_2) => tin_14 w h) (mem_p (big := tables_1_2) wsX70 [198, 200, 202, 204] (by decide +kernel) w h)
set_option maxRecDepth 20000 in
theorem wsX30_in : ∀ w ∈ wsX30, w ∈ lw_tbl := fun w h => (fun (h : w ∈ tables_1_3) => tin_15 w h) (mem_p (big := tables_1_3) wsX30 [1, 3, 5, 7, 9, 11, 13, 15, 17, 19, 21, 23, 25, 27, 29, 31] (by decide +kernel) w h)
set_option maxRecDepth 20000 in
theorem wsX60_in : ∀ w ∈ wsX60, w ∈ lw_tbl := fun w h => (fun (h : w ∈ tables_1_1) => tin_13 w h) (mem_p (big := tables_1_1) wsX60 [101, 103, 105, 107] (by decide +kernel) w h)
set_option maxRecDepth 20000 in
theorem wsX40_in : ∀ w ∈ wsX40, w ∈ lw_tbl := fun w h => (fun (h : w ∈ tables_1_1) => tin_13 w h) (mem_p (big := tables_1_1) wsX40 [125, 127, 129, 131] (by decide +kernel) w h)
set_option maxRecDepth 20000 in
theorem wsX50_in : ∀ w ∈ wsX50, w ∈ lw_tbl := fun w h => (fun (h : w ∈ tables_1_2) => tin_14 w h) (mem_p (big := tables_1_2) wsX50 [96, 98, 100, 102, 104, 106, 108, 110, 112, 114] (by decide +kernel) w h)
theorem wsL_law_in0 : ∀ w ∈ wsL_law0, w ∈ lw_tbl := fun w h => (List.mem_append.mp h).elim (fun h => uw_0_in w h) (fun h => (List.mem_append.mp h).elim (fun h => uw_1_in w h) (fun h => (List.mem_append.mp h).elim (fun h => uw_2_in w h) (fun h => (List.mem_append.mp h).elim (fun h => uw_3_in w h) (fun h => (List.mem_append.mp h).elim (fun h => uw_4_in w h) (fun h => (List.mem_append.mp h).elim (fun h => uw_5_in w h) (fun h => (List.mem_append.mp h).elim (fun h => uw_6_in w h) (fun h => (List.mem_append.mp h).elim (fun h => uw_7_in w h) (fun h => (List.mem_append.mp h).elim (fun h => uw_8_in w h) (fun h => (List.mem_append.mp h).elim (fun h => uw_9_in w h) (fun h => (List.mem_append.mp h).elim (fun h => uw_10_in w h) (fun h => (List.mem_append.mp h).elim (fun h => uw_11_in w h) (fun h => (List.mem_append.mp h).elim (fun h => uw_12_in w h) (fun h => (List.mem_append.mp h).elim (fun h => uw_13_in w h) (fun h => (List.mem_append.mp h).elim (fun h => uw_14_in w h) (fun h => (List.mem_append.mp h).elim (fun h => uw_15_in w h) (fun h => (List.mem_append.mp h).elim (fun h => uw_16_in w h) (fun h => (List.mem_append.mp h).elim (fun h => uw_17_in w h) (fun h => (List.mem_append.mp h).elim (fun h => uw_18_in w h) (fun h => (List.mem_append.mp h).elim (fun h => uw_19_in w h) (fun h => (List.mem_append.mp h).elim (fun h => uw_20_in w h) (fun h => (List.mem_append.mp h).elim (fun h => uw_21_in w h) (fun h => (List.mem_append.mp h).elim (fun h => uw_22_in w h) (fun h => (List.mem_append.mp h).elim (fun h => uw_23_in w h) (fun h => (List.mem_append.mp h).elim (fun h => uw_24_in w h) (fun h => (List.mem_append.mp h).elim (fun h => uw_25_in w h) (fun h => (List.mem_append.mp h).elim (fun h => uw_26_in w h) (fun h => (List.mem_append.mp h).elim (fun h => uw_27_in w h) (fun h => (List.mem_append.mp h).elim (fun h => uw_28_in w h) (fun h => (List.mem_append.mp h).elim (fun h => uw_29_in w h) (fun h => (List.mem_append.mp h).elim (fun h => uw_30_in w h) (fun h => (List.mem_append.mp h).elim (fun h => uw_31_in w h) (fun h => (List.mem_append.mp h).elim (fun h => uw_32_in w h) (fun h => (List.mem_append.mp h).elim (fun h => uw_33_in w h) (fun h => (List.mem_append.mp h).elim (fun h => uw_34_in w h) (fun h => (List.mem_append.mp h).elim (fun h => uw_35_in w h) (fun h => (List.mem_append.mp h).elim (fun h => uw_36_in w h) (fun h => (List.mem_append.mp h).elim (fun h => uw_37_in w h) (fun h => (List.mem_append.mp h).elim (fun h => uw_38_in w h) (fun h => (List.mem_append.mp h).elim (fun h => uw_39_in w h) (fun h => (List.mem_append.mp h).elim (fun h => uw_40_in w h) (fun h => (List.mem_append.mp h).elim (fun h => uw_41_in w h) (fun h => (List.mem_append.mp h).elim (fun h => uw_42_in w h) (fun h => (List.mem_append.mp h).elim (fun h => uw_43_in w h) (fun h => (List.mem_append.mp h).elim (fun h => uw_44_in w h) (fun h => (List.mem_append.mp h).elim (fun h => uw_45_in w h) (fun h => (List.mem_append.mp h).elim (fun h => wsX110_in w h) (fun h => (List.mem_append.mp h).elim (fun h => wsX120_in w h) (fun h => (List.mem_append.mp h).elim (fun h => wsX90_in w h) (fun h => (List.mem_append.mp h).elim (fun h => wsX100_in w h) (fun h => (List.mem_append.mp h).elim (fun h => wsX20_in w h) (fun h => (List.mem_append.mp h).elim (fun h => wsX00_in w h) (fun h => (List.mem_append.mp h).elim (fun h => wsX80_in w h) (fun h => (List.mem_append.mp h).elim (fun h => wsX70_in w h) (fun h => (List.mem_append.mp h).elim (fun h => wsX30_in w h) (fun h => (List.mem_append.mp h).elim (fun h => wsX60_in w h) (fun h => (List.mem_append.mp h).elim (fun h => wsX40_in w h) (fun h => wsX50_in w h)))))))))))))))))))))))))))))))))))))))))))))))))))))))))
