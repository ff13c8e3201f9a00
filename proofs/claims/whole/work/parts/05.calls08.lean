set_option maxRecDepth 20000 in
theorem ggX5_placeAtom_X5_widthOf : GoodIn wsX5_placeAtom wsX5_widthOf := goodIn_r _ [97, 1, 23, 24, 25, 10, 57, 58, 59, 60, 38, 37, 12, 13, 61, 62, 63, 64, 6, 65, 66, 67, 68, 7, 8, 9, 69, 70, 71, 72, 73, 74, 17, 18, 19, 26, 27, 28, 32, 33, 34, 35, 11, 4, 5, 2, 3, 14, 15, 16, 20, 21, 22, 29, 30, 31, 36, 39, 40, 41, 42, 43, 44, 45, 46, 47, 48, 49, 50, 51, 52, 53, 54, 55, 56, 75, 76, 77, 78, 79, 80, 81, 82, 83, 84, 85, 86, 87, 88, 89, 90, 124, 125, 126, 127, 128, 129, 130, 131, 132, 133, 134, 135, 136, 137, 138, 139, 140, 141, 142, 143, 144, 145, 146, 147, 148] rfl (by decide +kernel)
set_option maxRecDepth 20000 in
theorem gX5_placeAtom_X5_widthOf : GoodIn wsX5_placeAtom (wsV RX5 169 RX5 yX5_widthOf wsX5_widthOf) := goodIn_app (goodIn_of _ (by decide +kernel)) ggX5_placeAtom_X5_widthOf
set_option maxRecDepth 20000 in
theorem ggX5_placeAtom_X5_placeList : GoodIn wsX5_placeAtom wsX5_placeList := goodIn_r _ [109, 58, 59, 60, 38, 37, 1, 61, 62, 63, 10, 64, 6, 65, 66, 67, 68, 69, 70, 71, 72, 73, 74, 17, 18, 19, 110, 111, 112, 7, 8, 9, 11, 4, 5, 12, 13, 2, 3, 14, 15, 16, 20, 21, 22, 23, 24, 25, 26, 27, 28, 29, 30, 31, 32, 33, 34, 35, 36, 39, 40, 41, 42, 43, 44, 45, 46, 47, 48, 49, 50, 51, 52, 53, 54, 55, 56, 57, 75, 76, 77, 78, 79, 80, 81, 82, 83, 84, 85, 86, 87, 88, 89, 90, 0, 91, 92, 93, 94, 95, 96, 97, 98, 99, 100, 101, 102, 103, 104, 105, 106, 107, 108, 113, 114, 115, 116, 117, 118, 119, 120, 121, 122, 123, 124, 125, 126, 127, 128, 129, 130, 131, 132, 133, 134, 135, 136, 137, 138, 139, 140, 141, 142, 143, 144, 145, 146, 147, 148] rfl (by decide +kernel)
set_option maxRecDepth 20000 in
theorem gX5_placeAtom_X5_placeList : GoodIn wsX5_placeAtom (wsV RX5 173 RX5 yX5_placeList wsX5_placeList) := goodIn_app (goodIn_of _ (by decide +kernel)) ggX5_placeAtom_X5_placeList
set_option maxRecDepth 20000 in
theorem ggX5_placeList_X5_countsAs : GoodIn wsX5_placeList wsX5_countsAs := goodIn_r _ [11, 2, 12, 13, 14, 15, 10, 16, 1, 3, 124, 125, 126, 127, 128, 129, 130, 131, 132, 133, 134, 135, 136, 137, 138, 139, 140, 141, 142, 143, 144, 145, 146, 147, 148] rfl (by decide +kernel)
set_option maxRecDepth 20000 in
theorem gX5_placeList_X5_countsAs : GoodIn wsX5_placeList (wsV RX5 86 RX5 yX5_countsAs wsX5_countsAs) := goodIn_app (goodIn_of _ (by decide +kernel)) ggX5_placeList_X5_countsAs
set_option maxRecDepth 20000 in
theorem ggX5_placeList_X5_spaceOf : GoodIn wsX5_placeList wsX5_spaceOf := goodIn_r _ [19, 20, 21, 10, 22, 23, 24, 25] rfl (by decide +kernel)
set_option maxRecDepth 20000 in
theorem gX5_placeList_X5_spaceOf : GoodIn wsX5_placeList (va_wsS RX5 162 yX5_spaceOf wsX5_spaceOf) := goodIn_app (goodIn_of _ (by decide +kernel)) ggX5_placeList_X5_spaceOf
set_option maxRecDepth 20000 in
theorem ggX5_placeList_X5_placeAtom : GoodIn wsX5_placeList wsX5_placeAtom := goodIn_r _ [94, 6, 37, 38, 33, 34, 12, 29, 30, 31, 10, 32, 35, 36, 39, 40, 41, 23, 24, 25, 42, 43, 44, 45, 46, 47, 48, 49, 50, 51, 52, 53, 54, 55, 56, 57, 58, 5, 4, 59, 60, 61, 62, 63, 64, 65, 66, 67, 68, 69, 70, 71, 72, 73, 74, 75, 76, 77, 1, 2, 3, 7, 8, 9, 11, 13, 14, 15, 16, 17, 18, 19, 20, 21, 22, 78, 79, 80, 81, 82, 83, 84, 85, 86, 87, 88, 89, 90, 91, 92, 93, 95, 96, 97, 98, 99, 100, 101, 102, 103, 104, 105, 106, 107, 108, 109, 110, 111, 112, 0, 26, 27, 28, 113, 114, 115, 116, 117, 118, 119, 120, 121, 122, 123, 124, 125, 126, 127, 128, 129, 130, 131, 132, 133, 134, 135, 136, 137, 138, 139, 140, 141, 142, 143, 144, 145, 146, 147, 148] rfl (by decide +kernel)
set_option maxRecDepth 20000 in
theorem gX5_placeList_X5_placeAtom : GoodIn wsX5_placeList (wsV RX5 194 RX5 yX5_placeAtom wsX5_placeAtom) := goodIn_app (goodIn_of _ (by decide +kernel)) ggX5_placeList_X5_placeAtom
set_option maxRecDepth 20000 in
theorem ggX5_placeList_X5_measureAtom : GoodIn wsX5_placeList wsX5_measureAtom := goodIn_r _ [32, 33, 34, 6, 35, 36, 12, 37, 38, 39, 40, 41, 10, 23, 24, 25, 42, 43, 44, 45, 46, 47, 48, 49, 50, 51, 52, 53, 54, 55, 56, 57, 58, 5, 4, 59, 60, 61, 62, 63, 64, 65, 66, 67, 68, 69, 70, 71, 72, 73, 74, 75, 76, 77, 1, 2, 3, 7, 8, 9, 11, 13, 14, 15, 16, 29, 30, 31, 17, 18, 19, 20, 21, 22, 78, 79, 80, 81, 82, 83, 84, 85, 86, 87, 88, 89, 90, 91, 92, 93, 124, 125, 126, 127, 128, 129, 130, 131, 132, 133, 134, 135, 136, 137, 138, 139, 140, 141, 142, 143, 144, 145, 146, 147, 148] rfl (by decide +kernel)
set_option maxRecDepth 20000 in
theorem gX5_placeList_X5_measureAtom : GoodIn wsX5_placeList (wsV RX5 159 RX5 yX5_measureAtom wsX5_measureAtom) := goodIn_app (goodIn_of _ (by decide +kernel)) ggX5_placeList_X5_measureAtom
set_option maxRecDepth 20000 in
theorem ggX5_run_X5_isList : GoodIn wsX5_run wsX5_isList := goodIn_r _ [13, 14, 134, 135, 136, 137, 138, 139, 140, 141, 142, 143, 144, 145, 146, 147, 148, 149, 150, 151, 152, 153, 154, 155, 156, 157, 158] rfl (by decide +kernel)
set_option maxRecDepth 20000 in
theorem gX5_run_X5_isList : GoodIn wsX5_run (wsV RX5 67 RX5 yX5_isList wsX5_isList) := goodIn_app (goodIn_of _ (by decide +kernel)) ggX5_run_X5_isList
set_option maxRecDepth 20000 in
theorem ggX5_run_X5_measureList : GoodIn wsX5_run wsX5_measureList := goodIn_r _ [18, 19, 20, 21, 22, 23, 3, 5, 7, 24, 25, 26, 12, 27, 28, 29, 30, 31, 32, 33, 34, 35, 36, 37, 38, 39, 40, 41, 42, 43, 44, 45, 46, 47, 48, 49, 50, 51, 52, 53, 54, 55, 56, 57, 58, 59, 60, 61, 62, 15, 16, 17, 63, 64, 65, 66, 67, 68, 69, 70, 71, 72, 73, 74, 75, 76, 77, 78, 79, 80, 81, 82, 83, 84, 85, 86, 87, 88, 89, 90, 91, 92, 93, 94, 95, 96, 97, 98, 99, 100, 134, 135, 136, 137, 138, 139, 140, 141, 142, 143, 144, 145, 146, 147, 148, 149, 150, 151, 152, 153, 154, 155, 156, 157, 158] rfl (by decide +kernel)
set_option maxRecDepth 20000 in
theorem gX5_run_X5_measureList : GoodIn wsX5_run (wsV RX5 117 RX5 yX5_measureList wsX5_measureList) := goodIn_app (goodIn_of _ (by decide +kernel)) ggX5_run_X5_measureList
set_option maxRecDepth 20000 in
theorem ggX5_run_X5_placeList : GoodIn wsX5_run wsX5_placeList := goodIn_r _ [104, 19, 20, 21, 22, 23, 3, 24, 25, 26, 12, 27, 28, 29, 30, 31, 32, 36, 37, 38, 39, 40, 41, 42, 43, 44, 105, 106, 107, 33, 34, 35, 52, 53, 54, 5, 7, 55, 56, 57, 58, 59, 60, 61, 62, 15, 16, 17, 45, 46, 47, 63, 64, 65, 48, 49, 50, 51, 66, 67, 68, 69, 70, 71, 72, 73, 74, 75, 76, 77, 78, 79, 80, 81, 82, 83, 84, 18, 85, 86, 87, 88, 89, 90, 91, 92, 93, 94, 95, 96, 97, 98, 99, 100, 108, 109, 110, 111, 112, 113, 114, 115, 101, 102, 103, 116, 117, 118, 119, 120, 2, 121, 122, 123, 124, 125, 126, 127, 128, 129, 130, 131, 132, 133, 134, 135, 136, 137, 138, 139, 140, 141, 142, 143, 144, 145, 146, 147, 148, 149, 150, 151, 152, 153, 154, 155, 156, 157, 158] rfl (by decide +kernel)
set_option maxRecDepth 20000 in
theorem gX5_run_X5_placeList : GoodIn wsX5_run (wsV RX5 173 RX5 yX5_placeList wsX5_placeList) := goodIn_app (goodIn_of _ (by decide +kernel)) ggX5_run_X5_placeList
set_option maxRecDepth 20000 in
theorem ggX5_split_X5_isList : GoodIn wsX5_split wsX5_isList := goodIn_r _ [12, 6, 13, 14, 15, 16, 17, 18, 19, 20, 21, 22, 23, 24, 25, 26, 27, 28, 29, 30, 31, 32, 33, 34, 35, 36, 37] rfl (by decide +kernel)
set_option maxRecDepth 20000 in
theorem gX5_split_X5_isList : GoodIn wsX5_split (wsV RX5 67 RX5 yX5_isList wsX5_isList) := goodIn_app (goodIn_of _ (by decide +kernel)) ggX5_split_X5_isList
set_option maxRecDepth 20000 in
theorem ggL_atom_X4_atom : GoodIn wsL_atom wsX4_atom := goodIn_ca (goodIn_ca (goodIn_r _ [7, 8, 9, 10, 11, 12, 13, 14, 6, 15, 16, 17, 18, 19, 20, 21, 22, 23, 24, 25, 26, 27, 28, 29, 30, 31, 32, 33, 34, 35, 36, 37, 38, 39, 40, 41, 42, 43, 44, 45, 46, 47, 48, 49, 50, 51, 52, 53, 54, 55, 56, 57, 58, 59, 60, 61, 62, 63] rfl (by decide +kernel)) (goodIn_sub (fun _ h => List.mem_cons_of_mem _ (List.mem_append_left _ (List.mem_append_right _ h))) (by decide +kernel))) (goodIn_sub (fun _ h => List.mem_cons_of_mem _ (List.mem_append_right _ h)) (by decide +kernel))
set_option maxRecDepth 20000 in
theorem gL_atom_X4_atom : GoodIn wsL_atom (wsV RL 7 RX4 yX4_atom wsX4_atom) := goodIn_app (goodIn_of _ (by decide +kernel)) ggL_atom_X4_atom
set_option maxRecDepth 20000 in
theorem ggL_script_X4_script : GoodIn wsL_script wsX4_script := goodIn_ca (goodIn_ca (goodIn_r _ [7, 8, 9, 10, 11, 12, 13, 14, 15, 16, 17, 6, 18, 19, 20, 21, 22, 23, 24, 25, 26, 27, 28, 29, 30, 31, 32, 33, 34, 35, 36, 37, 38, 39, 40, 41, 42, 43, 44, 45, 46, 47, 48, 49, 50, 51, 52, 53, 54, 55, 56, 57, 58, 59, 60, 61, 62, 63, 64, 65, 66, 67, 68, 69, 70, 71, 72] rfl (by decide +kernel)) (goodIn_sub (fun _ h => List.mem_cons_of_mem _ (List.mem_append_left _ (List.mem_append_right _ h))) (by decide +kernel))) (goodIn_sub (fun _ h => List.mem_cons_of_mem _ (List.mem_append_right _ h)) (by decide +kernel))
set_option maxRecDepth 20000 in
theorem gL_script_X4_script : GoodIn wsL_script (wsV RL 17 RX4 yX4_script wsX4_script) := goodIn_app (goodIn_of _ (by decide +kernel)) ggL_script_X4_script
set_option maxRecDepth 20000 in
theorem ggL_fraction_X4_fraction : GoodIn wsL_fraction wsX4_fraction := goodIn_ca (goodIn_ca (goodIn_ca (goodIn_ca (goodIn_r _ [9, 10, 11, 12, 13, 14, 15, 16, 17, 18, 19, 20, 8, 21, 22, 23, 24, 25, 26, 27, 28, 29, 30, 31, 32, 33, 34, 35, 36, 37, 38, 39, 40, 41, 42, 43, 44, 45, 46, 47, 48, 49, 50, 51, 52, 53, 54, 55, 56, 57, 58, 59, 60, 61, 62, 63, 64, 65, 66, 67, 68, 69, 70, 71, 72, 73, 74, 75, 76, 77, 78, 79] rfl (by decide +kernel)) (goodIn_sub (fun _ h => List.mem_cons_of_mem _ (List.mem_append_left _ (List.mem_append_left _ (List.mem_append_left _ (List.mem_append_right _ h))))) (by decide +kernel))) (goodIn_sub (fun _ h => List.mem_cons_of_mem _ (List.mem_append_left _ (List.mem_append_left _ (List.mem_append_right _ h)))) (by decide +kernel))) (goodIn_sub (fun _ h => List.mem_cons_of_mem _ (List.mem_append_left _ (List.mem_append_right _ h))) (by decide +kernel))) (goodIn_sub (fun _ h => List.mem_cons_of_mem _ (List.mem_append_right _ h)) (by decide +kernel))
set_option maxRecDepth 20000 in
theorem gL_fraction_X4_fraction : GoodIn wsL_fraction (wsV RL 25 RX4 yX4_fraction wsX4_fraction) := goodIn_app (goodIn_of _ (by decide +kernel)) ggL_fraction_X4_fraction
set_option maxRecDepth 20000 in
theorem ggL_fence_X4_fence : GoodIn wsL_fence wsX4_fence := goodIn_ca (goodIn_ca (goodIn_ca (goodIn_ca (goodIn_r _ [9, 10, 11, 12, 13, 14, 15, 16, 17, 8, 18, 19, 20, 21, 22, 23, 24, 25, 26, 27, 28, 29, 30, 31, 32, 33, 34, 35, 36, 37, 38, 39, 40, 41, 42, 43, 44, 45, 46, 47, 48, 49, 50, 51, 52, 53, 54, 55, 56, 57, 58, 59, 60, 61, 62, 63, 64, 65, 66, 67, 68, 69, 70, 71, 72, 73, 74, 75, 76, 77, 78, 79, 80, 81] rfl (by decide +kernel)) (goodIn_sub (fun _ h => List.mem_cons_of_mem _ (List.mem_append_left _ (List.mem_append_left _ (List.mem_append_left _ (List.mem_append_right _ h))))) (by decide +kernel))) (goodIn_sub (fun _ h => List.mem_cons_of_mem _ (List.mem_append_left _ (List.mem_append_left _ (List.mem_append_right _ h)))) (by decide +kernel))) (goodIn_sub (fun _ h => List.mem_cons_of_mem _ (List.mem_append_left _ (List.mem_append_right _ h))) (by decide +kernel))) (goodIn_sub (fun _ h => List.mem_cons_of_mem _ (List.mem_append_right _ h)) (by decide +kernel))
set_option maxRecDepth 20000 in
theorem gL_fence_X4_fence : GoodIn wsL_fence (wsV RL 29 RX4 yX4_fence wsX4_fence) := goodIn_app (goodIn_of _ (by decide +kernel)) ggL_fence_X4_fence
set_option maxRecDepth 20000 in
theorem ggL_matrix_X4_matrix : GoodIn wsL_matrix wsX4_matrix := goodIn_ca (goodIn_r _ [6, 7, 8, 9, 10, 11, 5, 12, 13, 14, 15, 16, 17, 18, 19, 20, 21, 22, 23, 24, 25, 26, 27, 28, 29, 30, 31, 32, 33, 34, 35, 36, 37, 38, 39, 40, 41, 42, 43, 44, 45, 46, 47, 48, 49, 50, 51, 52, 53, 54, 55, 56, 57, 58, 59, 60, 61, 62, 63, 64, 65, 66, 67, 68, 69, 70, 71, 72, 73, 74] rfl (by decide +kernel)) (goodIn_sub (fun _ h => List.mem_cons_of_mem _ (List.mem_append_right _ h)) (by decide +kernel))
set_option maxRecDepth 20000 in
theorem gL_matrix_X4_matrix : GoodIn wsL_matrix (wsV RL 33 RX4 yX4_matrix wsX4_matrix) := goodIn_app (goodIn_of _ (by decide +kernel)) ggL_matrix_X4_matrix
set_option maxRecDepth 20000 in
theorem ggL_style_X4_style : GoodIn wsL_style wsX4_style := goodIn_ca (goodIn_ca (goodIn_r _ [7, 8, 9, 10, 11, 12, 13, 6, 14, 15, 16, 17, 18, 19, 20, 21, 22, 23, 24, 25, 26, 27, 28, 29, 30, 31, 32, 33, 34, 35, 36, 37, 38, 39, 40, 41, 42, 43, 44, 45, 46, 47, 48] rfl (by decide +kernel)) (goodIn_sub (fun _ h => List.mem_cons_of_mem _ (List.mem_append_left _ (List.mem_append_right _ h))) (by decide +kernel))) (goodIn_sub (fun _ h => List.mem_cons_of_mem _ (List.mem_append_right _ h)) (by decide +kernel))
set_option maxRecDepth 20000 in
theorem gL_style_X4_style : GoodIn wsL_style (wsV RL 36 RX4 yX4_style wsX4_style) := goodIn_app (goodIn_of _ (by decide +kernel)) ggL_style_X4_style
set_option maxRecDepth 20000 in
theorem ggL_run_X4_run : GoodIn wsL_run wsX4_run := goodIn_ca (goodIn_r _ [6, 7, 8, 9, 10, 11, 12, 5, 13, 14, 15, 16, 17, 18, 19, 20, 21, 22, 23, 24, 25, 26, 27, 28, 29, 30, 31, 32, 33, 34, 35, 36, 37, 38, 39, 40, 41, 42, 43, 44, 45, 46, 47, 48, 49, 50, 51, 52, 53, 54, 55, 56, 57, 58, 59, 60, 61, 62, 63, 64, 65, 66, 67, 68, 69, 70, 71, 72, 73, 74, 75, 76, 77, 78, 79, 80, 81, 82, 83, 84, 85, 86, 87, 88, 89, 90, 91, 92, 93, 94, 95, 96, 97, 98, 99, 100, 101, 102, 103, 104, 105, 106, 107, 108, 109, 110, 111, 112, 113, 114, 115, 116, 117, 118, 119, 120, 121, 122, 123, 124, 125, 126, 127, 128, 129, 130, 131, 132, 133, 134, 135, 136, 137, 138, 139, 140, 141, 142, 143, 144, 145, 146, 147, 148, 149, 150, 151, 152, 153, 154, 155, 156, 157, 158, 159, 160, 161, 162, 163, 164, 165, 166, 167, 168, 169, 170, 171, 172, 173, 174, 175, 176, 177, 178, 179, 180, 181, 182, 183, 184, 185, 186, 187, 188, 189, 190, 191, 192, 193, 194, 195, 196, 197, 198, 199, 200, 201, 202, 203, 204, 205, 206, 207, 208, 209, 210, 211, 212, 213, 214, 215, 216, 217, 218, 219, 220, 221, 222, 223, 224, 225, 226, 227, 228, 229, 230, 231, 232, 233, 234, 235, 236, 237, 238, 239, 240, 241, 242, 243, 244, 245, 246, 247, 248, 249, 250, 251, 252, 253, 254, 255, 256, 257, 258, 259, 260, 261, 262, 263, 264] rfl (by decide +kernel)) (goodIn_sub (fun _ h => List.mem_cons_of_mem _ (List.mem_append_right _ h)) (by decide +kernel))
set_option maxRecDepth 20000 in
theorem gL_run_X4_run : GoodIn wsL_run (wsV RL 40 RX4 yX4_run wsX4_run) := goodIn_app (goodIn_of _ (by decide +kernel)) ggL_run_X4_run
set_option maxRecDepth 20000 in
theorem ggL_item_X4_item : GoodIn wsL_item wsX4_item := goodIn_ca (goodIn_r _ [6, 7, 8, 9, 10, 11, 12, 13, 14, 15, 16, 17, 18, 19, 20, 21, 22, 23, 24, 25, 26, 27, 28, 29, 30, 31, 32, 33, 34, 35] rfl (by decide +kernel)) (goodIn_sub (fun _ h => List.mem_cons_of_mem _ (List.mem_append_right _ h)) (by decide +kernel))
set_option maxRecDepth 20000 in
theorem gL_item_X4_item : GoodIn wsL_item (wsV RL 44 RX4 yX4_item wsX4_item) := goodIn_app (goodIn_of _ (by decide +kernel)) ggL_item_X4_item
set_option maxRecDepth 20000 in
theorem ggL_space_X4_space : GoodIn wsL_space wsX4_space := goodIn_ca (goodIn_r _ [6, 7, 8, 9, 10, 5, 11, 12, 13, 14, 15] rfl (by decide +kernel)) (goodIn_sub (fun _ h => List.mem_cons_of_mem _ (List.mem_append_right _ h)) (by decide +kernel))
set_option maxRecDepth 20000 in
theorem gL_space_X4_space : GoodIn wsL_space (wsV RL 49 RX4 yX4_space wsX4_space) := goodIn_app (goodIn_of _ (by decide +kernel)) ggL_space_X4_space
set_option maxRecDepth 20000 in
theorem ggL_kind_X4_kind : GoodIn wsL_kind wsX4_kind := goodIn_ca (goodIn_r _ [6, 7, 8, 9, 10, 5, 11, 12, 13, 14, 15, 16, 17, 18, 19, 20, 21, 22, 23, 24, 25, 26, 27, 28, 29, 30, 31, 32, 33, 34, 35, 36, 37, 38, 39, 40, 41, 42, 43, 44, 45, 46, 47, 48, 49, 50, 51, 52, 53, 54, 55, 56] rfl (by decide +kernel)) (goodIn_sub (fun _ h => List.mem_cons_of_mem _ (List.mem_append_right _ h)) (by decide +kernel))
set_option maxRecDepth 20000 in
theorem gL_kind_X4_kind : GoodIn wsL_kind (wsV RL 52 RX4 yX4_kind wsX4_kind) := goodIn_app (goodIn_of _ (by decide +kernel)) ggL_kind_X4_kind
set_option maxRecDepth 20000 in
theorem ggL_split_X4_split : GoodIn wsL_split wsX4_split := goodIn_ca (goodIn_ca (goodIn_ca (goodIn_r _ [8, 9, 10, 11, 12, 13, 14, 15, 7, 16, 17, 18, 19, 20, 21, 22, 23, 24, 25, 26, 27, 28, 29, 30, 31, 32, 33, 34, 35, 36, 37, 38, 39, 40, 41, 42, 43, 44, 45, 46, 47, 48, 49, 50, 51, 52, 53, 54, 55, 56, 57, 58, 59, 60, 61, 62, 63, 64] rfl (by decide +kernel)) (goodIn_sub (fun _ h => List.mem_cons_of_mem _ (List.mem_append_left _ (List.mem_append_left _ (List.mem_append_right _ h)))) (by decide +kernel))) (goodIn_sub (fun _ h => List.mem_cons_of_mem _ (List.mem_append_left _ (List.mem_append_right _ h))) (by decide +kernel))) (goodIn_sub (fun _ h => List.mem_cons_of_mem _ (List.mem_append_right _ h)) (by decide +kernel))
set_option maxRecDepth 20000 in
theorem gL_split_X4_split : GoodIn wsL_split (wsV RL 55 RX4 yX4_split wsX4_split) := goodIn_app (goodIn_of _ (by decide +kernel)) ggL_split_X4_split
set_option maxRecDepth 20000 in
theorem ggL_law_X4_init : GoodIn wsL_law wsX4_init := goodIn_r _ [10, 11, 12, 13, 14, 15, 16, 17, 18, 19, 20, 21, 22, 23, 24, 25, 26, 27, 28, 29, 30, 31, 32, 33, 34, 35, 36, 37, 38, 39, 40, 41, 42, 43, 44, 45, 46, 47, 48, 49, 50, 51, 52, 53, 54, 55, 56, 57, 58, 59, 60, 61, 62, 63, 64, 65, 66, 67, 68, 69, 684, 685, 686, 687, 688, 689, 690, 691, 692, 693, 694, 695, 696, 697, 657, 658, 698, 699, 700, 701, 702, 703, 704, 705, 706, 707, 708, 709, 710] rfl (by decide +kernel)
set_option maxRecDepth 20000 in
theorem gL_law_X4_init : GoodIn wsL_law (wsX4_init) := ggL_law_X4_init
set_option maxRecDepth 20000 in
theorem ggL_law_X5_init : GoodIn wsL_law wsX5_init := goodIn_r _ [72, 73, 12, 13, 74, 29, 75, 76, 77, 78, 79, 80, 81, 82, 83, 84, 85, 86, 659, 660, 661, 662, 663, 664, 665, 666, 667, 668, 669, 670, 671, 672, 673, 674, 675, 676, 677, 678, 679, 680, 681, 682, 683] rfl (by decide +kernel)
set_option maxRecDepth 20000 in
theorem gL_law_X5_init : GoodIn wsL_law (wsX5_init) := ggL_law_X5_init
set_option maxRecDepth 20000 in
theorem ggL_law_L_atom : GoodIn wsL_law wsL_atom := goodIn_ca (goodIn_ca (goodIn_r _ [90, 91, 92, 93, 94, 95, 2, 96, 97, 98, 17, 99, 100, 101, 102, 103, 104, 105, 106, 107, 108, 109, 16, 110, 27, 38, 111, 112, 113, 114, 115, 116, 117, 118, 119, 120, 121, 122, 26, 30, 28, 31, 32, 33, 34, 35, 36, 37, 657, 658, 684, 685, 686, 687, 688, 689, 690, 691, 692, 693, 694, 695, 696, 697] rfl (by decide +kernel)) (goodIn_sub (fun _ h => List.mem_append_left _ (List.mem_append_left _ (List.mem_append_left _ (List.mem_append_left _ (List.mem_append_right _ h))))) (by decide +kernel))) (goodIn_sub (fun _ h => List.mem_append_left _ (List.mem_append_left _ (List.mem_append_left _ (List.mem_append_right _ h)))) (by decide +kernel))
set_option maxRecDepth 20000 in
theorem gL_law_L_atom : GoodIn wsL_law (va_wsS RL 62 yL_atom wsL_atom) := goodIn_app (goodIn_of _ (by decide +kernel)) ggL_law_L_atom
set_option maxRecDepth 20000 in
theorem ggL_law_X5_atom : GoodIn wsL_law wsX5_atom := goodIn_r _ [126, 74, 127, 128, 129, 130, 131, 132, 5, 133, 76, 77, 78, 79, 80, 81, 82, 83, 659, 660, 661, 662, 663, 664, 665, 666, 667, 668, 669, 670, 671, 672, 673, 674, 675, 676, 677, 678, 679, 680, 681, 682, 683] rfl (by decide +kernel)
set_option maxRecDepth 20000 in
theorem gL_law_X5_atom : GoodIn wsL_law (wsV RL 67 RX5 yX5_atom wsX5_atom) := goodIn_app (goodIn_of _ (by decide +kernel)) ggL_law_X5_atom
set_option maxRecDepth 20000 in
theorem ggL_law_X5_thrown : GoodIn wsL_law wsX5_thrown := goodIn_r _ [137, 128, 659, 660, 661, 662, 663, 664, 665, 666, 667, 668, 669, 670, 671, 672, 673, 674, 675, 676, 677, 678, 679, 680, 681, 682, 683] rfl (by decide +kernel)
set_option maxRecDepth 20000 in
theorem gL_law_X5_thrown : GoodIn wsL_law (wsV RL 68 RX5 yX5_thrown wsX5_thrown) := goodIn_app (goodIn_of _ (by decide +kernel)) ggL_law_X5_thrown
set_option maxRecDepth 20000 in
theorem ggL_law_L_script : GoodIn wsL_law wsL_script := goodIn_ca (goodIn_ca (goodIn_r _ [140, 141, 142, 143, 144, 145, 2, 146, 147, 148, 17, 149, 150, 151, 152, 153, 154, 155, 156, 157, 158, 159, 160, 161, 16, 162, 26, 31, 163, 164, 165, 166, 167, 168, 169, 170, 27, 171, 172, 173, 174, 175, 176, 177, 178, 38, 179, 180, 181, 182, 30, 183, 184, 185, 186, 33, 34, 657, 658, 684, 685, 686, 687, 688, 689, 690, 691, 692, 693, 694, 695, 696, 697] rfl (by decide +kernel)) (goodIn_sub (fun _ h => List.mem_append_left _ (List.mem_append_left _ (List.mem_append_right _ h))) (by decide +kernel))) (goodIn_sub (fun _ h => List.mem_append_left _ (List.mem_append_right _ h)) (by decide +kernel))
set_option maxRecDepth 20000 in
theorem gL_law_L_script : GoodIn wsL_law (va_wsS RL 72 yL_script wsL_script) := goodIn_app (goodIn_of _ (by decide +kernel)) ggL_law_L_script
set_option maxRecDepth 20000 in
theorem ggL_law_X5_script : GoodIn wsL_law wsX5_script := goodIn_r _ [190, 128, 82, 83, 76, 75, 191, 192, 193, 5, 194, 127, 77, 195, 196, 197, 198, 74, 199, 200, 201, 202, 203, 204, 205, 206, 659, 660, 661, 662, 663, 664, 665, 666, 667, 668, 669, 670, 671, 672, 673, 674, 675, 676, 677, 678, 679, 680, 681, 682, 683] rfl (by decide +kernel)
set_option maxRecDepth 20000 in
theorem gL_law_X5_script : GoodIn wsL_law (wsV RL 75 RX5 yX5_script wsX5_script) := goodIn_app (goodIn_of _ (by decide +kernel)) ggL_law_X5_script
set_option maxRecDepth 20000 in
theorem ggL_law_L_fraction : GoodIn wsL_law wsL_fraction := goodIn_ca (goodIn_ca (goodIn_ca (goodIn_ca (goodIn_r _ [209, 141, 91, 142, 92, 210, 211, 212, 2, 213, 97, 98, 147, 148, 214, 17, 99, 152, 163, 164, 165, 166, 157, 158, 167, 168, 169, 16, 170, 27, 171, 172, 173, 174, 175, 176, 177, 178, 38, 179, 180, 181, 182, 30, 114, 115, 116, 117, 104, 105, 118, 119, 120, 121, 122, 26, 28, 31, 32, 33, 34, 35, 36, 37, 657, 658, 684, 685, 686, 687, 688, 689, 690, 691, 692, 693, 694, 695, 696, 697] rfl (by decide +kernel)) (goodIn_sub (fun _ h => List.mem_append_left _ (List.mem_append_left _ (List.mem_append_left _ (List.mem_append_left _ (List.mem_append_right _ h))))) (by decide +kernel))) (goodIn_sub (fun _ h => List.mem_append_left _ (List.mem_append_left _ (List.mem_append_right _ h))) (by decide +kernel))) (goodIn_sub (fun _ h => List.mem_append_left _ (List.mem_append_right _ h)) (by decide +kernel))) (goodIn_sub (fun _ h => List.mem_append_left _ (List.mem_append_left _ (List.mem_append_left _ (List.mem_append_right _ h)))) (by decide +kernel))
set_option maxRecDepth 20000 in
theorem gL_law_L_fraction : GoodIn wsL_law (va_wsS RL 78 yL_fraction wsL_fraction) := goodIn_app (goodIn_of _ (by decide +kernel)) ggL_law_L_fraction
set_option maxRecDepth 20000 in
theorem ggL_law_X5_fraction : GoodIn wsL_law wsX5_fraction := goodIn_r _ [218, 219, 128, 127, 75, 195, 196, 197, 5, 198, 74, 220, 221, 222, 223, 129, 199, 200, 201, 202, 203, 204, 205, 206, 76, 130, 131, 132, 133, 77, 78, 79, 80, 81, 82, 83, 659, 660, 661, 662, 663, 664, 665, 666, 667, 668, 669, 670, 671, 672, 673, 674, 675, 676, 677, 678, 679, 680, 681, 682, 683] rfl (by decide +kernel)
set_option maxRecDepth 20000 in
theorem gL_law_X5_fraction : GoodIn wsL_law (wsV RL 81 RX5 yX5_fraction wsX5_fraction) := goodIn_app (goodIn_of _ (by decide +kernel)) ggL_law_X5_fraction
