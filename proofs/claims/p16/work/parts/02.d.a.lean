theorem mem_p {big : List Cond} (ws : List Cond) (ps : List Nat) (hp : ws = ps.filterMap (fun i => big[i]?)) : ∀ w ∈ ws, w ∈ big := by
  intro w hw
  rw [hp] at hw
  obtain ⟨i, -, hi⟩ := List.mem_filterMap.mp hw
  first | exact List.mem_of_getElem? hi | exact List.getElem?_mem hi
theorem sel_sub {a b : List (MethodName × Nat)} (h : ∀ q ∈ a, q ∈ b) : ∀ w ∈ k2_sels a, w ∈ k2_sels b := by
  intro w hw
  obtain ⟨q, hq, e⟩ := List.mem_map.mp hw
  exact List.mem_map.mpr ⟨q, h q hq, e⟩
theorem tin_0 : ∀ w ∈ k2_sels lw_privs_1, w ∈ lw_tbl := fun w h => List.mem_append_left _ (sel_sub (a := lw_privs_1) (b := lw_privs) (fun q h => List.mem_append_left _ h) w h)
theorem tin_1 : ∀ w ∈ k2_sels lw_privs_2, w ∈ lw_tbl := fun w h => List.mem_append_left _ (sel_sub (a := lw_privs_2) (b := lw_privs) (fun q h => List.mem_append_right _ (List.mem_append_left _ h)) w h)
theorem tin_2 : ∀ w ∈ k2_sels lw_privs_3, w ∈ lw_tbl := fun w h => List.mem_append_left _ (sel_sub (a := lw_privs_3) (b := lw_privs) (fun q h => List.mem_append_right _ (List.mem_append_right _ (List.mem_append_left _ h))) w h)
theorem tin_3 : ∀ w ∈ k2_sels lw_privs_4, w ∈ lw_tbl := fun w h => List.mem_append_left _ (sel_sub (a := lw_privs_4) (b := lw_privs) (fun q h => List.mem_append_right _ (List.mem_append_right _ (List.mem_append_right _ (List.mem_append_left _ h)))) w h)
theorem tin_4 : ∀ w ∈ k2_sels lw_privs_5, w ∈ lw_tbl := fun w h => List.mem_append_left _ (sel_sub (a := lw_privs_5) (b := lw_privs) (fun q h => List.mem_append_right _ (List.mem_append_right _ (List.mem_append_right _ (List.mem_append_right _ (List.mem_append_left _ h))))) w h)
theorem tin_5 : ∀ w ∈ k2_sels lw_privs_6, w ∈ lw_tbl := fun w h => List.mem_append_left _ (sel_sub (a := lw_privs_6) (b := lw_privs) (fun q h => List.mem_append_right _ (List.mem_append_right _ (List.mem_append_right _ (List.mem_append_right _ (List.mem_append_right _ (List.mem_append_left _ h)))))) w h)
theorem tin_6 : ∀ w ∈ k2_sels lw_privs_7, w ∈ lw_tbl := fun w h => List.mem_append_left _ (sel_sub (a := lw_privs_7) (b := lw_privs) (fun q h => List.mem_append_right _ (List.mem_append_right _ (List.mem_append_right _ (List.mem_append_right _ (List.mem_append_right _ (List.mem_append_right _ (List.mem_append_left _ h))))))) w h)
theorem tin_7 : ∀ w ∈ k2_sels lw_privs_8, w ∈ lw_tbl := fun w h => List.mem_append_left _ (sel_sub (a := lw_privs_8) (b := lw_privs) (fun q h => List.mem_append_right _ (List.mem_append_right _ (List.mem_append_right _ (List.mem_append_right _ (List.mem_append_right _ (List.mem_append_right _ (List.mem_append_right _ (List.mem_append_left _ h)))))))) w h)
theorem tin_8 : ∀ w ∈ k2_sels lw_privs_9, w ∈ lw_tbl := fun w h => List.mem_append_left _ (sel_sub (a := lw_privs_9) (b := lw_privs) (fun q h => List.mem_append_right _ (List.mem_append_right _ (List.mem_append_right _ (List.mem_append_right _ (List.mem_append_right _ (List.mem_append_right _ (List.mem_append_right _ (List.mem_append_right _ (List.mem_append_left _ h))))))))) w h)
theorem tin_9 : ∀ w ∈ k2_sels lw_privs_10, w ∈ lw_tbl := fun w h => List.mem_append_left _ (sel_sub (a := lw_privs_10) (b := lw_privs) (fun q h => List.mem_append_right _ (List.mem_append_right _ (List.mem_append_right _ (List.mem_append_right _ (List.mem_append_right _ (List.mem_append_right _ (List.mem_append_right _ (List.mem_append_right _ (List.mem_append_right _ (List.mem_append_left _ h)))))))))) w h)
theorem tin_10 : ∀ w ∈ k2_sels lw_privs_11, w ∈ lw_tbl := fun w h => List.mem_append_left _ (sel_sub (a := lw_privs_11) (b := lw_privs) (fun q h => List.mem_append_right _ (List.mem_append_right _ (List.mem_append_right _ (List.mem_append_right _ (List.mem_append_right _ (List.mem_append_right _ (List.mem_append_right _ (List.mem_append_right _ (List.mem_append_right _ (List.mem_append_right _ (List.mem_append_left _ h))))))))))) w h)
theorem tin_11 : ∀ w ∈ k2_sels lw_privs_12, w ∈ lw_tbl := fun w h => List.mem_append_left _ (sel_sub (a := lw_privs_12) (b := lw_privs) (fun q h => List.mem_append_right _ (List.mem_append_right _ (List.mem_append_right _ (List.mem_append_right _ (List.mem_append_right _ (List.mem_append_right _ (List.mem_append_right _ (List.mem_append_right _ (List.mem_append_right _ (List.mem_append_right _ (List.mem_append_right _ (List.mem_append_left _ h)))))))))))) w h)
theorem tin_12 : ∀ w ∈ k2_sels lw_privs_13, w ∈ lw_tbl := fun w h => List.mem_append_left _ (sel_sub (a := lw_privs_13) (b := lw_privs) (fun q h => List.mem_append_right _ (List.mem_append_right _ (List.mem_append_right _ (List.mem_append_right _ (List.mem_append_right _ (List.mem_append_right _ (List.mem_append_right _ (List.mem_append_right _ (List.mem_append_right _ (List.mem_append_right _ (List.mem_append_right _ (List.mem_append_right _ h)))))))))))) w h)
theorem tin_13 : ∀ w ∈ tables_1_1, w ∈ lw_tbl := fun w h => List.mem_append_right _ (List.mem_append_left _ h)
theorem tin_14 : ∀ w ∈ tables_1_2, w ∈ lw_tbl := fun w h => List.mem_append_right _ (List.mem_append_right _ (List.mem_append_left _ h))
theorem tin_15 : ∀ w ∈ tables_1_3, w ∈ lw_tbl := fun w h => List.mem_append_right _ (List.mem_append_right _ (List.mem_append_right _ (List.mem_append_left _ h)))
theorem tin_16 : ∀ w ∈ tables_1_4, w ∈ lw_tbl := fun w h => List.mem_append_right _ (List.mem_append_right _ (List.mem_append_right _ (List.mem_append_right _ (List.mem_append_left _ h))))
theorem tin_17 : ∀ w ∈ tables_1_5, w ∈ lw_tbl := fun w h => List.mem_append_right _ (List.mem_append_right _ (List.mem_append_right _ (List.mem_append_right _ (List.mem_append_right _ (List.mem_append_left _ h)))))
theorem tin_18 : ∀ w ∈ tables_1_6, w ∈ lw_tbl := fun w h => List.mem_append_right _ (List.mem_append_right _ (List.mem_append_right _ (List.mem_append_right _ (List.mem_append_right _ (List.mem_append_right _ (List.mem_append_left _ h))))))
theorem tin_19 : ∀ w ∈ tables_1_7, w ∈ lw_tbl := fun w h => List.mem_append_right _ (List.mem_append_right _ (List.mem_append_right _ (List.mem_append_right _ (List.mem_append_right _ (List.mem_append_right _ (List.mem_append_right _ (List.mem_append_left _ h)))))))
theorem tin_20 : ∀ w ∈ tables_1_8, w ∈ lw_tbl := fun w h => List.mem_append_right _ (List.mem_append_right _ (List.mem_append_right _ (List.mem_append_right _ (List.mem_append_right _ (List.mem_append_right _ (List.mem_append_right _ (List.mem_append_right _ (List.mem_append_left _ h))))))))
theorem tin_21 : ∀ w ∈ tables_1_9, w ∈ lw_tbl := fun w h => List.mem_append_right _ (List.mem_append_right _ (List.mem_append_right _ (List.mem_append_right _ (List.mem_append_right _ (List.mem_append_right _ (List.mem_append_right _ (List.mem_append_right _ (List.mem_append_right _ (List.mem_append_left _ h)))))))))
theorem tin_22 : ∀ w ∈ tables_1_10, w ∈ lw_tbl := fun w h => List.mem_append_right _ (List.mem_append_right _ (List.mem_append_right _ (List.mem_append_right _ (List.mem_append_right _ (List.mem_append_right _ (List.mem_append_right _ (List.mem_append_right _ (List.mem_append_right _ (List.mem_append_right _ (List.mem_append_left _ h))))))))))
theorem tin_23 : ∀ w ∈ tables_1_11, w ∈ lw_tbl := fun w h => List.mem_append_right _ (List.mem_append_right _ (List.mem_append_right _ (List.mem_append_right _ (List.mem_append_right _ (List.mem_append_right _ (List.mem_append_right _ (List.mem_append_right _ (List.mem_append_right _ (List.mem_append_right _ (List.mem_append_right _ (List.mem_append_left _ h)))))))))))
theorem tin_24 : ∀ w ∈ tables_1_12, w ∈ lw_tbl := fun w h => List.mem_append_right _ (List.mem_append_right _ (List.mem_append_right _ (List.mem_append_right _ (List.mem_append_right _ (List.mem_append_right _ (List.mem_append_right _ (List.mem_append_right _ (List.mem_append_right _ (List.mem_append_right _ (List.mem_append_right _ (List.mem_append_right _ h)))))))))))
set_option maxRecDepth 20000 in
theorem uw_0_in : ∀ w ∈ uw_0, w ∈ lw_tbl := fun w h => tin_0 w (mem_p (big := (k2_sels lw_privs_1)) uw_0 [0, 1, 2, 3, 4, 5, 6, 7, 8, 9, 10, 11, 12, 13, 14, 15] (by decide +kernel) w h)
set_option maxRecDepth 20000 in
theorem uw_1_in : ∀ w ∈ uw_1, w ∈ lw_tbl := fun w h => tin_1 w (mem_p (big := (k2_sels lw_privs_2)) uw_1 [0, 1, 2, 3, 4, 5, 6, 7, 8, 9, 10, 11, 12, 13, 14, 15] (by decide +kernel) w h)
set_option maxRecDepth 20000 in
theorem uw_2_in : ∀ w ∈ uw_2, w ∈ lw_tbl := fun w h => tin_2 w (mem_p (big := (k2_sels lw_privs_3)) uw_2 [0, 1, 2, 3, 4, 5, 6, 7, 8, 9, 10, 11, 12, 13, 14, 15] (by decide +kernel) w h)
set_option maxRecDepth 20000 in
theorem uw_3_in : ∀ w ∈ uw_3, w ∈ lw_tbl := fun w h => tin_3 w (mem_p (big := (k2_sels lw_privs_4)) uw_3 [0, 1, 2, 3, 4, 5, 6, 7, 8, 9, 10, 11, 12, 13, 14] (by decide +kernel) w h)
set_option maxRecDepth 20000 in
theorem uw_4_in : ∀ w ∈ uw_4, w ∈ lw_tbl := fun w h => tin_4 w (mem_p (big := (k2_sels lw_privs_5)) uw_4 [0, 1, 2, 3, 4, 5, 6, 7, 8, 9, 10, 11, 12, 13, 14, 15] (by decide +kernel) w h)
set_option maxRecDepth 20000 in
theorem uw_5_in : ∀ w ∈ uw_5, w ∈ lw_tbl := fun w h => tin_5 w (mem_p (big := (k2_sels lw_privs_6)) uw_5 [0, 1, 2, 3, 4, 5, 6, 7, 8, 9, 10, 11, 12, 13, 14, 15] (by decide +kernel) w h)
set_option maxRecDepth 20000 in
theorem uw_6_in : ∀ w ∈ uw_6, w ∈ lw_tbl := fun w h => tin_6 w (mem_p (big := (k2_sels lw_privs_7)) uw_6 [0, 1, 2, 3, 4, 5, 6, 7, 8, 9, 10, 11, 12, 13, 14, 15] (by decide +kernel) w h)
set_option maxRecDepth 20000 in
theorem uw_7_in : ∀ w ∈ uw_7, w ∈ lw_tbl := fun w h => tin_7 w (mem_p (big := (k2_sels lw_privs_8)) uw_7 [0, 1, 2, 3, 4, 5, 6, 7, 8, 9, 10, 11, 12, 13, 14, 15] (by decide +kernel) w h)
set_option maxRecDepth 20000 in
theorem uw_8_in : ∀ w ∈ uw_8, w ∈ lw_tbl := fun w h => tin_8 w (mem_p (big := (k2_sels lw_privs_9)) uw_8 [0, 1, 2, 3, 4, 5, 6, 7, 8, 9, 10, 11, 12, 13, 14, 15] (by decide +kernel) w h)
set_option maxRecDepth 20000 in
theorem uw_9_in : ∀ w ∈ uw_9, w ∈ lw_tbl := fun w h => tin_9 w (mem_p (big := (k2_sels lw_privs_10)) uw_9 [0, 1, 2, 3, 4, 5, 6, 7, 8, 9, 10, 11, 12, 13, 14, 15] (by decide +kernel) w h)
set_option maxRecDepth 20000 in
theorem uw_10_in : ∀ w ∈ uw_10, w ∈ lw_tbl := fun w h => tin_10 w (mem_p (big := (k2_sels lw_privs_11)) uw_10 [0, 1, 2, 3, 4, 5, 6, 7, 8, 9, 10, 11, 12, 13, 14, 15] (by decide +kernel) w h)
set_option maxRecDepth 20000 in
theorem uw_11_in : ∀ w ∈ uw_11, w ∈ lw_tbl := fun w h => tin_11 w (mem_p (big := (k2_sels lw_privs_12)) uw_11 [0, 1, 2, 3, 4, 5, 6, 7, 8, 9, 10, 11, 12, 13, 14, 15] (by decide +kernel) w h)
set_option maxRecDepth 20000 in
theorem uw_12_in : ∀ w ∈ uw_12, w ∈ lw_tbl := fun w h => tin_12 w (mem_p (big := (k2_sels lw_privs_13)) uw_12 [0] (by decide +kernel) w h)
set_option maxRecDepth 20000 in
theorem uw_13_in : ∀ w ∈ uw_13, w ∈ lw_tbl := fun w h => tin_13 w (mem_p (big := tables_1_1) uw_13 [0, 1, 2, 3, 4, 5, 6, 7, 8, 9, 10, 11, 12, 13, 14, 15, 16, 17, 18, 19, 20, 21, 22, 26] (by decide +kernel) w h)
set_option maxRecDepth 20000 in
theorem uw_14_in : ∀ w ∈ uw_14, w ∈ lw_tbl := fun w h => tin_13 w (mem_p (big := tables_1_1) uw_14 [27, 28, 29, 30, 31, 32, 33, 34, 35, 36, 37, 38, 39, 40, 41, 42, 43, 44, 45, 46, 47, 48, 49, 50] (by decide +kernel) w h)
set_option maxRecDepth 20000 in
theorem uw_15_in : ∀ w ∈ uw_15, w ∈ lw_tbl := fun w h => tin_13 w (mem_p (big := tables_1_1) uw_15 [51, 52, 53, 54, 55, 56, 57, 58, 59, 60, 61, 62, 80, 81, 82, 83, 84, 85, 86, 87, 88, 90, 91, 93] (by decide +kernel) w h)
set_option maxRecDepth 20000 in
theorem uw_16_in : ∀ w ∈ uw_16, w ∈ lw_tbl := fun w h => tin_13 w (mem_p (big := tables_1_1) uw_16 [94, 95, 96, 97, 98, 99, 100, 110, 111, 112, 113, 114, 115, 116, 117, 118, 120, 121, 122, 123, 124, 134, 135, 136] (by decide +kernel) w h)
set_option maxRecDepth 20000 in
theorem uw_17_in : ∀ w ∈ uw_17, w ∈ lw_tbl := fun w h => tin_13 w (mem_p (big := tables_1_1) uw_17 [137, 138, 139, 140, 141, 142, 143, 144, 145, 146, 147, 148, 149, 150, 151, 152, 153, 181, 182, 183, 184, 185, 186, 187] (by decide +kernel) w h)
set_option maxRecDepth 20000 in
theorem uw_18_in : ∀ w ∈ uw_18, w ∈ lw_tbl := fun w h => tin_13 w (mem_p (big := tables_1_1) uw_18 [188, 189, 190, 191, 192, 193, 194, 195, 196, 197, 198, 199, 200, 201, 202, 203, 204, 205, 206, 207, 208, 209, 210, 211] (by decide +kernel) w h)
set_option maxRecDepth 20000 in
theorem uw_19_in : ∀ w ∈ uw_19, w ∈ lw_tbl := fun w h => tin_13 w (mem_p (big := tables_1_1) uw_19 [212, 213, 214, 215, 216, 217] (by decide +kernel) w h)
set_option maxRecDepth 20000 in
theorem uw_20_in : ∀ w ∈ uw_20, w ∈ lw_tbl := fun w h => tin_14 w (mem_p (big := tables_1_2) uw_20 [11, 12, 13, 14, 16, 17, 18, 19, 20, 21, 22, 23, 24, 25, 26, 27, 28, 29, 30, 31, 32, 33, 34, 35] (by decide +kernel) w h)
set_option maxRecDepth 20000 in
theorem uw_21_in : ∀ w ∈ uw_21, w ∈ lw_tbl := fun w h => tin_14 w (mem_p (big := tables_1_2) uw_21 [36, 37, 38, 39, 40, 41, 42, 43, 44, 72, 73, 74, 75, 76, 77, 78, 79, 80, 81, 82, 83, 84, 85, 86] (by decide +kernel) w h)
set_option maxRecDepth 20000 in
theorem uw_22_in : ∀ w ∈ uw_22, w ∈ lw_tbl := fun w h => tin_14 w (mem_p (big := tables_1_2) uw_22 [87, 88, 89, 90, 91, 92, 93, 94, 95, 117, 118, 119, 120, 121, 122, 123, 124, 125, 126, 127, 128, 129, 130, 131] (by decide +kernel) w h)
set_option maxRecDepth 20000 in
theorem uw_23_in : ∀ w ∈ uw_23, w ∈ lw_tbl := fun w h => tin_14 w (mem_p (big := tables_1_2) uw_23 [132, 133, 134, 135, 136, 137, 138, 139, 140, 141, 142, 143, 144, 145, 146, 188, 189, 190, 191, 192, 193, 194, 195, 196] (by decide +kernel) w h)
set_option maxRecDepth 20000 in
theorem uw_24_in : ∀ w ∈ uw_24, w ∈ lw_tbl := fun w h => tin_14 w (mem_p (big := tables_1_2) uw_24 [197, 207, 208, 209, 210, 211, 212, 213, 214, 215, 216, 217, 218, 219, 220, 221, 222, 223, 224, 225, 226, 227, 228, 229] (by decide +kernel) w h)
set_option maxRecDepth 20000 in
theorem uw_25_in : ∀ w ∈ uw_25, w ∈ lw_tbl := fun w h => tin_14 w (mem_p (big := tables_1_2) uw_25 [230, 231, 232, 233, 234, 235, 236, 237, 238, 239] (by decide +kernel) w h)
set_option maxRecDepth 20000 in
theorem uw_26_in : ∀ w ∈ uw_26, w ∈ lw_tbl := fun w h => tin_15 w (mem_p (big := tables_1_3) uw_26 [0, 34, 35, 36, 37, 38, 39, 40, 41, 59, 60, 61, 62, 63, 65, 66, 67, 68, 69, 70, 71, 72, 73, 74] (by decide +kernel) w h)
set_option maxRecDepth 20000 in
theorem uw_27_in : ∀ w ∈ uw_27, w ∈ lw_tbl := fun w h => tin_15 w (mem_p (big := tables_1_3) uw_27 [75, 77, 78, 79, 80, 81, 82, 83, 84, 85, 86, 87, 88, 89, 90, 91, 92, 93, 94, 95, 96, 97, 98, 99] (by decide +kernel) w h)
