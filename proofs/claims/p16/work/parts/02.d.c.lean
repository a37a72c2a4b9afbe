set_option maxRecDepth 20000 in
theorem uw_56_in : ∀ w ∈ uw_56, w ∈ lw_tbl := fun w h => tin_18 w (mem_p (big := tables_1_6) uw_56 [76, 77, 78, 79, 80, 81, 82, 83, 84, 85, 86, 87, 88, 89, 90, 91, 92, 93, 94, 95, 96, 97, 98, 99] (by decide +kernel) w h)
set_option maxRecDepth 20000 in
theorem uw_57_in : ∀ w ∈ uw_57, w ∈ lw_tbl := fun w h => tin_18 w (mem_p (big := tables_1_6) uw_57 [100, 101, 102, 103, 104, 105, 106, 107, 108, 109, 110, 111, 112, 113, 114, 115, 116, 117, 118, 119, 120, 121, 122, 123] (by decide +kernel) w h)
set_option maxRecDepth 20000 in
theorem uw_58_in : ∀ w ∈ uw_58, w ∈ lw_tbl := fun w h => tin_18 w (mem_p (big := tables_1_6) uw_58 [124, 125, 127, 128, 129, 130, 131, 132, 133, 134, 135, 136, 137, 138, 139, 140, 142, 143, 145, 146, 147, 148, 149, 150] (by decide +kernel) w h)
set_option maxRecDepth 20000 in
theorem uw_59_in : ∀ w ∈ uw_59, w ∈ lw_tbl := fun w h => tin_18 w (mem_p (big := tables_1_6) uw_59 [151, 152, 153, 154, 155, 156, 157, 158, 160, 161, 162, 163, 164, 170, 171, 172, 173, 174, 175, 176, 177, 178, 179, 180] (by decide +kernel) w h)
set_option maxRecDepth 20000 in
theorem uw_60_in : ∀ w ∈ uw_60, w ∈ lw_tbl := fun w h => tin_18 w (mem_p (big := tables_1_6) uw_60 [181, 182, 183, 185, 186, 188, 190, 191, 192, 194, 195, 199, 200, 201, 202, 203, 205, 206, 207, 208, 209, 210, 211, 212] (by decide +kernel) w h)
set_option maxRecDepth 20000 in
theorem uw_61_in : ∀ w ∈ uw_61, w ∈ lw_tbl := fun w h => tin_18 w (mem_p (big := tables_1_6) uw_61 [214, 215, 216, 217, 218, 219, 220, 221, 222, 223, 224, 225, 226, 227, 228, 229, 230, 231, 232, 233, 234, 235, 236, 237] (by decide +kernel) w h)
set_option maxRecDepth 20000 in
theorem uw_62_in : ∀ w ∈ uw_62, w ∈ lw_tbl := fun w h => tin_18 w (mem_p (big := tables_1_6) uw_62 [239] (by decide +kernel) w h)
set_option maxRecDepth 20000 in
theorem uw_63_in : ∀ w ∈ uw_63, w ∈ lw_tbl := fun w h => tin_19 w (mem_p (big := tables_1_7) uw_63 [0, 1, 2, 3, 4, 5, 7, 8, 9, 10, 11, 12, 13, 15, 16, 17, 18, 19, 20, 21, 22, 23, 24, 25] (by decide +kernel) w h)
set_option maxRecDepth 20000 in
theorem uw_64_in : ∀ w ∈ uw_64, w ∈ lw_tbl := fun w h => tin_19 w (mem_p (big := tables_1_7) uw_64 [26, 27, 28, 29, 30, 31, 37, 38, 39, 40, 41, 42, 43, 44, 45, 46, 47, 48, 49, 50, 51, 52, 53, 54] (by decide +kernel) w h)
set_option maxRecDepth 20000 in
theorem uw_65_in : ∀ w ∈ uw_65, w ∈ lw_tbl := fun w h => tin_19 w (mem_p (big := tables_1_7) uw_65 [55, 56, 57, 58, 59, 61, 62, 63, 64, 65, 66, 67, 68, 69, 70, 71, 72, 73, 74, 75, 76, 77, 78, 79] (by decide +kernel) w h)
set_option maxRecDepth 20000 in
theorem uw_66_in : ∀ w ∈ uw_66, w ∈ lw_tbl := fun w h => tin_19 w (mem_p (big := tables_1_7) uw_66 [80, 81, 82, 83, 84, 85, 86, 87, 88, 89, 90, 91, 92, 93, 94, 95, 156, 157, 158, 159, 160, 161, 162, 163] (by decide +kernel) w h)
set_option maxRecDepth 20000 in
theorem uw_67_in : ∀ w ∈ uw_67, w ∈ lw_tbl := fun w h => tin_19 w (mem_p (big := tables_1_7) uw_67 [164, 165, 166, 167, 168, 169, 170, 171, 172, 173, 174, 175, 177, 178, 179, 180, 181, 182, 183, 184, 185, 186, 187, 188] (by decide +kernel) w h)
set_option maxRecDepth 20000 in
theorem uw_68_in : ∀ w ∈ uw_68, w ∈ lw_tbl := fun w h => tin_19 w (mem_p (big := tables_1_7) uw_68 [189, 190, 191, 192, 193, 194, 195, 196, 197, 198, 199, 200, 201, 202, 203, 204, 205, 206, 207, 208, 209, 210, 211, 212] (by decide +kernel) w h)
set_option maxRecDepth 20000 in
theorem uw_69_in : ∀ w ∈ uw_69, w ∈ lw_tbl := fun w h => tin_19 w (mem_p (big := tables_1_7) uw_69 [213, 214, 215, 216, 217, 218, 219, 220, 221, 222, 223, 224, 225, 226, 227, 228, 229, 230, 231, 232, 233, 234, 235, 236] (by decide +kernel) w h)
set_option maxRecDepth 20000 in
theorem uw_70_in : ∀ w ∈ uw_70, w ∈ lw_tbl := fun w h => tin_19 w (mem_p (big := tables_1_7) uw_70 [237, 238, 239] (by decide +kernel) w h)
set_option maxRecDepth 20000 in
theorem uw_71_in : ∀ w ∈ uw_71, w ∈ lw_tbl := fun w h => tin_20 w (mem_p (big := tables_1_8) uw_71 [0, 1, 2, 3, 4, 5, 6, 7, 8, 9, 10, 11, 12, 13, 14, 15, 16, 17, 18, 19, 20, 21, 22, 23] (by decide +kernel) w h)
set_option maxRecDepth 20000 in
theorem uw_72_in : ∀ w ∈ uw_72, w ∈ lw_tbl := fun w h => tin_20 w (mem_p (big := tables_1_8) uw_72 [24, 25, 26, 27, 28, 29, 30, 31, 32, 33, 34, 35, 36, 37, 38, 39, 40, 41, 42, 43, 44, 45, 46, 47] (by decide +kernel) w h)
set_option maxRecDepth 20000 in
theorem uw_73_in : ∀ w ∈ uw_73, w ∈ lw_tbl := fun w h => tin_20 w (mem_p (big := tables_1_8) uw_73 [48, 49, 50, 51, 52] (by decide +kernel) w h)
set_option maxRecDepth 20000 in
theorem uw_74_in : ∀ w ∈ uw_74, w ∈ lw_tbl := fun w h => tin_21 w (mem_p (big := tables_1_9) uw_74 [2, 3, 4, 5, 6, 8, 9, 10, 11, 12, 13, 14, 15, 16, 17, 18, 20, 21, 22, 24, 25, 26, 28, 29] (by decide +kernel) w h)
set_option maxRecDepth 20000 in
theorem uw_75_in : ∀ w ∈ uw_75, w ∈ lw_tbl := fun w h => tin_21 w (mem_p (big := tables_1_9) uw_75 [30, 32, 33, 34, 36, 37, 38, 40, 41, 42, 44, 45, 46, 47, 48, 49, 51, 52, 53, 55, 56, 57, 58, 59] (by decide +kernel) w h)
set_option maxRecDepth 20000 in
theorem uw_76_in : ∀ w ∈ uw_76, w ∈ lw_tbl := fun w h => tin_21 w (mem_p (big := tables_1_9) uw_76 [61, 62, 63, 64, 65, 66, 68, 69, 70, 72, 73, 74, 76, 77, 78, 80, 81, 82, 83, 84, 85, 86, 87, 88] (by decide +kernel) w h)
set_option maxRecDepth 20000 in
theorem uw_77_in : ∀ w ∈ uw_77, w ∈ lw_tbl := fun w h => tin_21 w (mem_p (big := tables_1_9) uw_77 [90, 91, 92, 94, 95, 96, 98, 99, 100, 102, 103, 104, 106, 108, 109, 110, 112, 113, 114, 115, 116, 117, 118, 120] (by decide +kernel) w h)
set_option maxRecDepth 20000 in
theorem uw_78_in : ∀ w ∈ uw_78, w ∈ lw_tbl := fun w h => tin_21 w (mem_p (big := tables_1_9) uw_78 [121, 122, 124, 125, 126, 128, 129, 130, 132, 133, 134, 136, 137, 138, 140, 141, 142, 144, 145, 146, 147, 148, 149, 150] (by decide +kernel) w h)
set_option maxRecDepth 20000 in
theorem uw_79_in : ∀ w ∈ uw_79, w ∈ lw_tbl := fun w h => tin_21 w (mem_p (big := tables_1_9) uw_79 [152, 153, 154, 156, 157, 158, 160, 161, 162, 164, 165, 166, 168, 169, 170, 171, 172, 173, 174, 175, 176, 177, 178, 179] (by decide +kernel) w h)
set_option maxRecDepth 20000 in
theorem uw_80_in : ∀ w ∈ uw_80, w ∈ lw_tbl := fun w h => tin_21 w (mem_p (big := tables_1_9) uw_80 [180, 182, 183, 184, 185, 186, 187, 189, 190, 191, 192, 193, 194, 196, 197, 198, 199, 200, 201, 203, 204, 205, 207, 208] (by decide +kernel) w h)
set_option maxRecDepth 20000 in
theorem uw_81_in : ∀ w ∈ uw_81, w ∈ lw_tbl := fun w h => tin_21 w (mem_p (big := tables_1_9) uw_81 [209, 211, 212, 213, 215, 216, 217, 219, 220, 221, 223, 224, 225, 227, 228, 229, 231, 232, 233, 235, 236, 237, 238] (by decide +kernel) w h)
set_option maxRecDepth 20000 in
theorem uw_82_in : ∀ w ∈ uw_82, w ∈ lw_tbl := fun w h => tin_22 w (mem_p (big := tables_1_10) uw_82 [0, 1, 2, 4, 5, 6, 8, 9, 10, 12, 13, 14, 16, 17, 18, 20, 21, 22, 24, 25, 26, 27, 28, 29] (by decide +kernel) w h)
set_option maxRecDepth 20000 in
theorem uw_83_in : ∀ w ∈ uw_83, w ∈ lw_tbl := fun w h => tin_22 w (mem_p (big := tables_1_10) uw_83 [30, 32, 33, 34, 36, 37, 38, 40, 41, 42, 44, 45, 46, 48, 49, 50, 52, 53, 54, 56, 57, 58, 59, 60] (by decide +kernel) w h)
