set_option maxRecDepth 20000 in
theorem uw_28_in : ∀ w ∈ uw_28, w ∈ lw_tbl := fun w h => tin_15 w (mem_p (big := tables_1_3) uw_28 [100, 101, 102, 103, 104, 105, 106, 107, 108, 109, 110, 111, 112, 113, 114, 115, 116, 117, 118, 119, 120, 121, 122, 123] (by decide +kernel) w h)
set_option maxRecDepth 20000 in
theorem uw_29_in : ∀ w ∈ uw_29, w ∈ lw_tbl := fun w h => tin_15 w (mem_p (big := tables_1_3) uw_29 [124, 125, 126, 127, 128, 129, 131, 132, 133, 134, 135, 136, 137, 138, 139, 140, 141, 142, 143, 145, 146, 147, 148, 149] (by decide +kernel) w h)
set_option maxRecDepth 20000 in
theorem uw_30_in : ∀ w ∈ uw_30, w ∈ lw_tbl := fun w h => tin_15 w (mem_p (big := tables_1_3) uw_30 [150, 151, 152, 153, 154, 155, 156, 157, 158, 159, 160, 161, 162, 163, 164, 165, 166, 167, 168, 169, 170, 171, 172, 173] (by decide +kernel) w h)
set_option maxRecDepth 20000 in
theorem uw_31_in : ∀ w ∈ uw_31, w ∈ lw_tbl := fun w h => tin_15 w (mem_p (big := tables_1_3) uw_31 [174, 175, 176, 177, 178, 179, 180, 181, 182, 184, 185, 186, 187, 188, 189, 190, 191, 192, 193, 195, 197, 199, 200, 201] (by decide +kernel) w h)
set_option maxRecDepth 20000 in
theorem uw_32_in : ∀ w ∈ uw_32, w ∈ lw_tbl := fun w h => tin_15 w (mem_p (big := tables_1_3) uw_32 [202, 203, 204, 205, 206, 207, 208, 209, 210, 211, 212, 213, 214, 215, 216, 217, 218, 219, 220, 221, 222, 223, 224, 225] (by decide +kernel) w h)
set_option maxRecDepth 20000 in
theorem uw_33_in : ∀ w ∈ uw_33, w ∈ lw_tbl := fun w h => tin_15 w (mem_p (big := tables_1_3) uw_33 [226, 227, 228, 229, 230, 231, 232, 233, 234, 235, 236, 237, 239] (by decide +kernel) w h)
set_option maxRecDepth 20000 in
theorem uw_34_in : ∀ w ∈ uw_34, w ∈ lw_tbl := fun w h => tin_16 w (mem_p (big := tables_1_4) uw_34 [0, 1, 2, 3, 4, 5, 6, 7, 8, 9, 11, 12, 13, 14, 15, 16, 17, 18, 19, 21, 22, 23, 24, 25] (by decide +kernel) w h)
set_option maxRecDepth 20000 in
theorem uw_35_in : ∀ w ∈ uw_35, w ∈ lw_tbl := fun w h => tin_16 w (mem_p (big := tables_1_4) uw_35 [27, 28, 29, 30, 36, 37, 38, 39, 40, 41, 42, 43, 44, 45, 46, 47, 48, 50, 51, 52, 53, 54, 55, 56] (by decide +kernel) w h)
set_option maxRecDepth 20000 in
theorem uw_36_in : ∀ w ∈ uw_36, w ∈ lw_tbl := fun w h => tin_16 w (mem_p (big := tables_1_4) uw_36 [57, 58, 59, 60, 61, 62, 63, 64, 65, 66, 67, 68, 70, 71, 72, 73, 74, 75, 76, 77, 78, 79, 80, 81] (by decide +kernel) w h)
set_option maxRecDepth 20000 in
theorem uw_37_in : ∀ w ∈ uw_37, w ∈ lw_tbl := fun w h => tin_16 w (mem_p (big := tables_1_4) uw_37 [82, 83, 84, 85, 86, 87, 88, 89, 90, 91, 92, 93, 95, 96, 97, 98, 99, 100, 101, 103, 104, 105, 106, 107] (by decide +kernel) w h)
set_option maxRecDepth 20000 in
theorem uw_38_in : ∀ w ∈ uw_38, w ∈ lw_tbl := fun w h => tin_16 w (mem_p (big := tables_1_4) uw_38 [108, 109, 110, 111, 112, 113, 114, 115, 116, 117, 118, 119, 120, 121, 122, 123, 124, 125, 126, 127, 128, 129, 130, 131] (by decide +kernel) w h)
set_option maxRecDepth 20000 in
theorem uw_39_in : ∀ w ∈ uw_39, w ∈ lw_tbl := fun w h => tin_16 w (mem_p (big := tables_1_4) uw_39 [132, 133, 134, 135, 136, 137, 138, 139, 140, 141, 142, 143, 144, 145, 146, 147, 148, 150, 151, 152, 153, 154, 155, 156] (by decide +kernel) w h)
set_option maxRecDepth 20000 in
theorem uw_40_in : ∀ w ∈ uw_40, w ∈ lw_tbl := fun w h => tin_16 w (mem_p (big := tables_1_4) uw_40 [157, 158, 159, 160, 161, 162, 163, 164, 165, 166, 167, 168, 169, 170, 171, 172, 174, 175, 176, 178, 179, 180, 182, 183] (by decide +kernel) w h)
set_option maxRecDepth 20000 in
theorem uw_41_in : ∀ w ∈ uw_41, w ∈ lw_tbl := fun w h => tin_16 w (mem_p (big := tables_1_4) uw_41 [184, 186, 187, 188, 189, 190, 191, 193, 194, 195, 197, 198, 199, 200, 202, 203, 204, 205, 207, 208, 209, 210, 211, 212] (by decide +kernel) w h)
set_option maxRecDepth 20000 in
theorem uw_42_in : ∀ w ∈ uw_42, w ∈ lw_tbl := fun w h => tin_16 w (mem_p (big := tables_1_4) uw_42 [213, 214, 215, 216, 217, 218, 219, 220, 221, 222, 223, 224, 225, 226, 227, 228, 229, 230, 231, 232, 233, 234, 235, 236] (by decide +kernel) w h)
set_option maxRecDepth 20000 in
theorem uw_43_in : ∀ w ∈ uw_43, w ∈ lw_tbl := fun w h => tin_16 w (mem_p (big := tables_1_4) uw_43 [237, 238, 239] (by decide +kernel) w h)
set_option maxRecDepth 20000 in
theorem uw_44_in : ∀ w ∈ uw_44, w ∈ lw_tbl := fun w h => tin_17 w (mem_p (big := tables_1_5) uw_44 [0, 1, 2, 3, 4, 5, 6, 7, 8, 9, 10, 11, 12, 13, 14, 15, 16, 17, 18, 19, 20, 21, 22, 23] (by decide +kernel) w h)
set_option maxRecDepth 20000 in
theorem uw_45_in : ∀ w ∈ uw_45, w ∈ lw_tbl := fun w h => tin_17 w (mem_p (big := tables_1_5) uw_45 [24, 25, 26, 27, 28, 29, 31, 32, 33, 34, 35, 36, 37, 39, 40, 41, 43, 44, 45, 47, 48, 49, 51, 52] (by decide +kernel) w h)
set_option maxRecDepth 20000 in
theorem uw_46_in : ∀ w ∈ uw_46, w ∈ lw_tbl := fun w h => tin_17 w (mem_p (big := tables_1_5) uw_46 [53, 54, 55, 56, 57, 59, 60, 61, 63, 64, 65, 66, 67, 68, 70, 71, 72, 74, 75, 76, 77, 78, 79, 80] (by decide +kernel) w h)
set_option maxRecDepth 20000 in
theorem uw_47_in : ∀ w ∈ uw_47, w ∈ lw_tbl := fun w h => tin_17 w (mem_p (big := tables_1_5) uw_47 [81, 82, 83, 84, 85, 86, 87, 88, 89, 90, 91, 93, 94, 95, 97, 98, 99, 101, 102, 103, 105, 106, 107, 108] (by decide +kernel) w h)
set_option maxRecDepth 20000 in
theorem uw_48_in : ∀ w ∈ uw_48, w ∈ lw_tbl := fun w h => tin_17 w (mem_p (big := tables_1_5) uw_48 [109, 110, 111, 112, 113, 114, 115, 117, 118, 119, 120, 121, 122, 124, 125, 126, 127, 128, 129, 130, 131, 132, 133, 134] (by decide +kernel) w h)
set_option maxRecDepth 20000 in
theorem uw_49_in : ∀ w ∈ uw_49, w ∈ lw_tbl := fun w h => tin_17 w (mem_p (big := tables_1_5) uw_49 [135, 137, 138, 139, 140, 141, 142, 143, 144, 145, 146, 147, 149, 150, 151, 152, 154, 155, 156, 158, 159, 160, 161, 162] (by decide +kernel) w h)
set_option maxRecDepth 20000 in
theorem uw_50_in : ∀ w ∈ uw_50, w ∈ lw_tbl := fun w h => tin_17 w (mem_p (big := tables_1_5) uw_50 [164, 165, 166, 167, 169, 170, 171, 173, 174, 175, 176, 177, 179, 180, 181, 183, 184, 185, 186, 187, 188, 189, 190, 191] (by decide +kernel) w h)
set_option maxRecDepth 20000 in
theorem uw_51_in : ∀ w ∈ uw_51, w ∈ lw_tbl := fun w h => tin_17 w (mem_p (big := tables_1_5) uw_51 [193, 194, 195, 196, 197, 198, 199, 201, 202, 203, 204, 205, 206, 207, 208, 209, 211, 212, 213, 214, 215, 216, 217, 219] (by decide +kernel) w h)
set_option maxRecDepth 20000 in
theorem uw_52_in : ∀ w ∈ uw_52, w ∈ lw_tbl := fun w h => tin_17 w (mem_p (big := tables_1_5) uw_52 [220, 221, 223, 224, 225, 226, 227, 228, 229, 230, 231, 232, 233, 235, 236, 237, 238, 239] (by decide +kernel) w h)
set_option maxRecDepth 20000 in
theorem uw_53_in : ∀ w ∈ uw_53, w ∈ lw_tbl := fun w h => tin_18 w (mem_p (big := tables_1_6) uw_53 [0, 1, 2, 4, 5, 6, 7, 8, 9, 10, 11, 12, 13, 14, 15, 16, 17, 18, 19, 20, 21, 22, 23, 24] (by decide +kernel) w h)
set_option maxRecDepth 20000 in
theorem uw_54_in : ∀ w ∈ uw_54, w ∈ lw_tbl := fun w h => tin_18 w (mem_p (big := tables_1_6) uw_54 [26, 27, 28, 29, 30, 31, 32, 33, 34, 35, 36, 37, 38, 39, 40, 41, 42, 43, 44, 45, 46, 47, 48, 49] (by decide +kernel) w h)
set_option maxRecDepth 20000 in
theorem uw_55_in : ∀ w ∈ uw_55, w ∈ lw_tbl := fun w h => tin_18 w (mem_p (big := tables_1_6) uw_55 [50, 51, 52, 53, 54, 55, 56, 58, 59, 60, 62, 63, 64, 65, 66, 67, 68, 69, 70, 71, 72, 73, 74, 75] (by decide +kernel) w h)
