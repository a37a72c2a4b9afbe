set_option maxRecDepth 20000 in
theorem uw_0_in : ∀ w ∈ uw_0, w ∈ lw_tbl := fun w h => (goodIn_p uw_0 [224, 227] (by decide +kernel) (by decide +kernel) w h).1
set_option maxRecDepth 20000 in
theorem uw_1_in : ∀ w ∈ uw_1, w ∈ lw_tbl := fun w h => (goodIn_p uw_1 [] (by decide +kernel) (by decide +kernel) w h).1
set_option maxRecDepth 20000 in
theorem uw_2_in : ∀ w ∈ uw_2, w ∈ lw_tbl := fun w h => (goodIn_p uw_2 [232] (by decide +kernel) (by decide +kernel) w h).1
set_option maxRecDepth 20000 in
theorem uw_3_in : ∀ w ∈ uw_3, w ∈ lw_tbl := fun w h => (goodIn_p uw_3 [279] (by decide +kernel) (by decide +kernel) w h).1
set_option maxRecDepth 20000 in
theorem uw_4_in : ∀ w ∈ uw_4, w ∈ lw_tbl := fun w h => (goodIn_p uw_4 [287, 309] (by decide +kernel) (by decide +kernel) w h).1
set_option maxRecDepth 20000 in
theorem uw_5_in : ∀ w ∈ uw_5, w ∈ lw_tbl := fun w h => (goodIn_p uw_5 [378, 450] (by decide +kernel) (by decide +kernel) w h).1
set_option maxRecDepth 20000 in
theorem uw_6_in : ∀ w ∈ uw_6, w ∈ lw_tbl := fun w h => (goodIn_p uw_6 [507] (by decide +kernel) (by decide +kernel) w h).1
set_option maxRecDepth 20000 in
theorem uw_7_in : ∀ w ∈ uw_7, w ∈ lw_tbl := fun w h => (goodIn_p uw_7 [513] (by decide +kernel) (by decide +kernel) w h).1
set_option maxRecDepth 20000 in
theorem uw_8_in : ∀ w ∈ uw_8, w ∈ lw_tbl := fun w h => (goodIn_p uw_8 [625, 644] (by decide +kernel) (by decide +kernel) w h).1
set_option maxRecDepth 20000 in
theorem uw_9_in : ∀ w ∈ uw_9, w ∈ lw_tbl := fun w h => (goodIn_p uw_9 [1827] (by decide +kernel) (by decide +kernel) w h).1
set_option maxRecDepth 20000 in
theorem uw_10_in : ∀ w ∈ uw_10, w ∈ lw_tbl := fun w h => (goodIn_p uw_10 [] (by decide +kernel) (by decide +kernel) w h).1
set_option maxRecDepth 20000 in
theorem uw_11_in : ∀ w ∈ uw_11, w ∈ lw_tbl := fun w h => (goodIn_p uw_11 [] (by decide +kernel) (by decide +kernel) w h).1
set_option maxRecDepth 20000 in
theorem uw_12_in : ∀ w ∈ uw_12, w ∈ lw_tbl := fun w h => (goodIn_p uw_12 [735, 739] (by decide +kernel) (by decide +kernel) w h).1
set_option maxRecDepth 20000 in
theorem uw_13_in : ∀ w ∈ uw_13, w ∈ lw_tbl := fun w h => (goodIn_p uw_13 [2122, 2126, 743, 2130] (by decide +kernel) (by decide +kernel) w h).1
set_option maxRecDepth 20000 in
theorem uw_14_in : ∀ w ∈ uw_14, w ∈ lw_tbl := fun w h => (goodIn_p uw_14 [747, 751] (by decide +kernel) (by decide +kernel) w h).1
set_option maxRecDepth 20000 in
theorem uw_15_in : ∀ w ∈ uw_15, w ∈ lw_tbl := fun w h => (goodIn_p uw_15 [758, 761, 765] (by decide +kernel) (by decide +kernel) w h).1
set_option maxRecDepth 20000 in
theorem uw_16_in : ∀ w ∈ uw_16, w ∈ lw_tbl := fun w h => (goodIn_p uw_16 [768, 772] (by decide +kernel) (by decide +kernel) w h).1
set_option maxRecDepth 20000 in
theorem uw_17_in : ∀ w ∈ uw_17, w ∈ lw_tbl := fun w h => (goodIn_p uw_17 [776, 779, 782, 786] (by decide +kernel) (by decide +kernel) w h).1
set_option maxRecDepth 20000 in
theorem uw_18_in : ∀ w ∈ uw_18, w ∈ lw_tbl := fun w h => (goodIn_p uw_18 [790, 795] (by decide +kernel) (by decide +kernel) w h).1
set_option maxRecDepth 20000 in
theorem uw_19_in : ∀ w ∈ uw_19, w ∈ lw_tbl := fun w h => (goodIn_p uw_19 [799, 1012] (by decide +kernel) (by decide +kernel) w h).1
set_option maxRecDepth 20000 in
theorem uw_20_in : ∀ w ∈ uw_20, w ∈ lw_tbl := fun w h => (goodIn_p uw_20 [1126, 2134, 2138] (by decide +kernel) (by decide +kernel) w h).1
set_option maxRecDepth 20000 in
theorem uw_21_in : ∀ w ∈ uw_21, w ∈ lw_tbl := fun w h => (goodIn_p uw_21 [2142, 2146] (by decide +kernel) (by decide +kernel) w h).1
set_option maxRecDepth 20000 in
theorem uw_22_in : ∀ w ∈ uw_22, w ∈ lw_tbl := fun w h => (goodIn_p uw_22 [2150, 2154, 2158] (by decide +kernel) (by decide +kernel) w h).1
set_option maxRecDepth 20000 in
theorem uw_23_in : ∀ w ∈ uw_23, w ∈ lw_tbl := fun w h => (goodIn_p uw_23 [2162, 2212] (by decide +kernel) (by decide +kernel) w h).1
set_option maxRecDepth 20000 in
theorem uw_24_in : ∀ w ∈ uw_24, w ∈ lw_tbl := fun w h => (goodIn_p uw_24 [2295, 2353, 1135, 1139] (by decide +kernel) (by decide +kernel) w h).1
set_option maxRecDepth 20000 in
theorem uw_25_in : ∀ w ∈ uw_25, w ∈ lw_tbl := fun w h => (goodIn_p uw_25 [1144, 1149, 1157] (by decide +kernel) (by decide +kernel) w h).1
set_option maxRecDepth 20000 in
theorem uw_26_in : ∀ w ∈ uw_26, w ∈ lw_tbl := fun w h => (goodIn_p uw_26 [1161, 2386, 2390, 2394] (by decide +kernel) (by decide +kernel) w h).1
set_option maxRecDepth 20000 in
theorem uw_27_in : ∀ w ∈ uw_27, w ∈ lw_tbl := fun w h => (goodIn_p uw_27 [2398, 2402, 2406, 2410] (by decide +kernel) (by decide +kernel) w h).1
set_option maxRecDepth 20000 in
theorem uw_28_in : ∀ w ∈ uw_28, w ∈ lw_tbl := fun w h => (goodIn_p uw_28 [2414, 1165, 2418] (by decide +kernel) (by decide +kernel) w h).1
set_option maxRecDepth 20000 in
theorem uw_29_in : ∀ w ∈ uw_29, w ∈ lw_tbl := fun w h => (goodIn_p uw_29 [1169, 2679, 2551] (by decide +kernel) (by decide +kernel) w h).1
set_option maxRecDepth 20000 in
theorem uw_30_in : ∀ w ∈ uw_30, w ∈ lw_tbl := fun w h => (goodIn_p uw_30 [2683, 1180, 1185] (by decide +kernel) (by decide +kernel) w h).1
set_option maxRecDepth 20000 in
theorem uw_31_in : ∀ w ∈ uw_31, w ∈ lw_tbl := fun w h => (goodIn_p uw_31 [1287, 1369, 1385, 2486] (by decide +kernel) (by decide +kernel) w h).1
set_option maxRecDepth 20000 in
theorem uw_32_in : ∀ w ∈ uw_32, w ∈ lw_tbl := fun w h => (goodIn_p uw_32 [2491, 1434, 2691] (by decide +kernel) (by decide +kernel) w h).1
set_option maxRecDepth 20000 in
theorem uw_33_in : ∀ w ∈ uw_33, w ∈ lw_tbl := fun w h => (goodIn_p uw_33 [1440, 2422, 1462, 2442] (by decide +kernel) (by decide +kernel) w h).1
set_option maxRecDepth 20000 in
theorem uw_34_in : ∀ w ∈ uw_34, w ∈ lw_tbl := fun w h => (goodIn_p uw_34 [1470, 2462, 1484, 2470] (by decide +kernel) (by decide +kernel) w h).1
set_option maxRecDepth 20000 in
theorem uw_35_in : ∀ w ∈ uw_35, w ∈ lw_tbl := fun w h => (goodIn_p uw_35 [1513, 2667, 1517, 2695] (by decide +kernel) (by decide +kernel) w h).1
set_option maxRecDepth 20000 in
theorem uw_36_in : ∀ w ∈ uw_36, w ∈ lw_tbl := fun w h => (goodIn_p uw_36 [1527, 1531, 1661] (by decide +kernel) (by decide +kernel) w h).1
set_option maxRecDepth 20000 in
theorem uw_37_in : ∀ w ∈ uw_37, w ∈ lw_tbl := fun w h => (goodIn_p uw_37 [2699, 1683, 2797] (by decide +kernel) (by decide +kernel) w h).1
set_option maxRecDepth 20000 in
theorem uw_38_in : ∀ w ∈ uw_38, w ∈ lw_tbl := fun w h => (goodIn_p uw_38 [1688, 2801, 1698, 2806] (by decide +kernel) (by decide +kernel) w h).1
set_option maxRecDepth 20000 in
theorem uw_39_in : ∀ w ∈ uw_39, w ∈ lw_tbl := fun w h => (goodIn_p uw_39 [1727, 1791] (by decide +kernel) (by decide +kernel) w h).1
set_option maxRecDepth 20000 in
theorem uw_40_in : ∀ w ∈ uw_40, w ∈ lw_tbl := fun w h => (goodIn_p uw_40 [2810, 2674, 2118] (by decide +kernel) (by decide +kernel) w h).1
set_option maxRecDepth 20000 in
theorem uw_41_in : ∀ w ∈ uw_41, w ∈ lw_tbl := fun w h => (goodIn_p uw_41 [1800, 2814, 2817, 1702] (by decide +kernel) (by decide +kernel) w h).1
set_option maxRecDepth 20000 in
theorem uw_42_in : ∀ w ∈ uw_42, w ∈ lw_tbl := fun w h => (goodIn_p uw_42 [2821, 1807, 1811] (by decide +kernel) (by decide +kernel) w h).1
set_option maxRecDepth 20000 in
theorem uw_43_in : ∀ w ∈ uw_43, w ∈ lw_tbl := fun w h => (goodIn_p uw_43 [2671, 1706, 2825, 1711] (by decide +kernel) (by decide +kernel) w h).1
set_option maxRecDepth 20000 in
theorem uw_44_in : ∀ w ∈ uw_44, w ∈ lw_tbl := fun w h => (goodIn_p uw_44 [1715, 2829, 1821] (by decide +kernel) (by decide +kernel) w h).1
set_option maxRecDepth 20000 in
theorem uw_45_in : ∀ w ∈ uw_45, w ∈ lw_tbl := fun w h => (goodIn_p uw_45 [2833, 1719, 2837] (by decide +kernel) (by decide +kernel) w h).1
theorem wsX110_in : ∀ w ∈ wsX110, w ∈ lw_tbl := by decide +kernel
theorem wsX120_in : ∀ w ∈ wsX120, w ∈ lw_tbl := by decide +kernel
theorem wsX90_in : ∀ w ∈ wsX90, w ∈ lw_tbl := by decide +kernel
theorem wsX100_in : ∀ w ∈ wsX100, w ∈ lw_tbl := by decide +kernel
theorem wsX20_in : ∀ w ∈ wsX20, w ∈ lw_tbl := by decide +kernel
theorem wsX00_in : ∀ w ∈ wsX00, w ∈ lw_tbl := by decide +kernel
theorem wsX80_in : ∀ w ∈ wsX80, w ∈ lw_tbl := by decide +kernel
theorem wsX70_in : ∀ w ∈ wsX70, w ∈ lw_tbl := by decide +kernel
theorem wsX30_in : ∀ w ∈ wsX30, w ∈ lw_tbl := by decide +kernel
theorem wsX60_in : ∀ w ∈ wsX60, w ∈ lw_tbl := by decide +kernel
theorem wsX40_in : ∀ w ∈ wsX40, w ∈ lw_tbl := by decide +kernel
theorem wsX50_in : ∀ w ∈ wsX50, w ∈ lw_tbl := by decide +kernel
theorem wsL_law_in0 : ∀ w ∈ wsL_law0, w ∈ lw_tbl := fun w h => (List.mem_append.mp h).elim (fun h => uw_0_in w h) (fun h => (List.mem_append.mp h).elim (fun h => uw_1_in w h) (fun h => (List.mem_append.mp h).elim (fun h => uw_2_in w h) (fun h => (List.mem_append.mp h).elim (fun h => uw_3_in w h) (fun h => (List.mem_append.mp h).elim (fun h => uw_4_in w h) (fun h => (List.mem_append.mp h).elim (fun h => uw_5_in w h) (fun h => (List.mem_append.mp h).elim (fun h => uw_6_in w h) (fun h => (List.mem_append.mp h).elim (fun h => uw_7_in w h) (fun h => (List.mem_append.mp h).elim (fun h => uw_8_in w h) (fun h => (List.mem_append.mp h).elim (fun h => uw_9_in w h) (fun h => (List.mem_append.mp h).elim (fun h => uw_10_in w h) (fun h => (List.mem_append.mp h).elim (fun h => uw_11_in w h) (fun h => (List.mem_append.mp h).elim (fun h => uw_12_in w h) (fun h => (List.mem_append.mp h).elim (fun h => uw_13_in w h) (fun h => (List.mem_append.mp h).elim (fun h => uw_14_in w h) (fun h => (List.mem_append.mp h).elim (fun h => uw_15_in w h) (fun h => (List.mem_append.mp h).elim (fun h => uw_16_in w h) (fun h => (List.mem_append.mp h).elim (fun h => uw_17_in w h) (fun h => (List.mem_append.mp h).elim (fun h => uw_18_in w h) (fun h => (List.mem_append.mp h).elim (fun h => uw_19_in w h) (fun h => (List.mem_append.mp h).elim (fun h => uw_20_in w h) (fun h => (List.mem_append.mp h).elim (fun h => uw_21_in w h) (fun h => (List.mem_append.mp h).elim (fun h => uw_22_in w h) (fun h => (List.mem_append.mp h).elim (fun h => uw_23_in w h) (fun h => (List.mem_append.mp h).elim (fun h => uw_24_in w h) (fun h => (List.mem_append.mp h).elim (fun h => uw_25_in w h) (fun h => (List.mem_append.mp h).elim (fun h => uw_26_in w h) (fun h => (List.mem_append.mp h).elim (fun h => uw_27_in w h) (fun h => (List.mem_append.mp h).elim (fun h => uw_28_in w h) (fun h => (List.mem_append.mp h).elim (fun h => uw_29_in w h) (fun h => (List.mem_append.mp h).elim (fun h => uw_30_in w h) (fun h => (List.mem_append.mp h).elim (fun h => uw_31_in w h) (fun h => (List.mem_append.mp h).elim (fun h => uw_32_in w h) (fun h => (List.mem_append.mp h).elim (fun h => uw_33_in w h) (fun h => (List.mem_append.mp h).elim (fun h => uw_34_in w h) (fun h => (List.mem_append.mp h).elim (fun h => uw_35_in w h) (fun h => (List.mem_append.mp h).elim (fun h => uw_36_in w h) (fun h => (List.mem_append.mp h).elim (fun h => uw_37_in w h) (fun h => (List.mem_append.mp h).elim (fun h => uw_38_in w h) (fun h => (List.mem_append.mp h).elim (fun h => uw_39_in w h) (fun h => (List.mem_append.mp h).elim (fun h => uw_40_in w h) (fun h => (List.mem_append.mp h).elim (fun h => uw_41_in w h) (fun h => (List.mem_append.mp h).elim (fun h => uw_42_in w h) (fun h => (List.mem_append.mp h).elim (fun h => uw_43_in w h) (fun h => (List.mem_append.mp h).elim (fun h => uw_44_in w h) (fun h => (List.mem_append.mp h).elim (fun h => uw_45_in w h) (fun h => (List.mem_append.mp h).elim (fun h => wsX110_in w h) (fun h => (List.mem_append.mp h).elim (fun h => wsX120_in w h) (fun h => (List.mem_append.mp h).elim (fun h => wsX90_in w h) (fun h => (List.mem_append.mp h).elim (fun h => wsX100_in w h) (fun h => (List.mem_append.mp h).elim (fun h => wsX20_in w h) (fun h => (List.mem_append.mp h).elim (fun h => wsX00_in w h) (fun h => (List.mem_append.mp h).elim (fun h => wsX80_in w h) (fun h => (List.mem_append.mp h).elim (fun h => wsX70_in w h) (fun h => (List.mem_append.mp h).elim (fun h => wsX30_in w h) (fun h => (List.mem_append.mp h).elim (fun h => wsX60_in w h) (fun h => (List.mem_append.mp h).elim (fun h => wsX40_in w h) (fun h => wsX50_in w h)))))))))))))))))))))))))))))))))))))))))))))))))))))))))
