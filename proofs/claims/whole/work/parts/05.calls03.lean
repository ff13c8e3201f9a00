set_option maxRecDepth 20000 in
theorem ggX3_placeRow_X3_cellAt : GoodIn wsX3_placeRow wsX3_cellAt := goodIn_r _ [13, 1, 14, 15, 16, 52, 53, 54, 55, 56, 57, 58, 59, 60, 61, 62, 63, 64, 65, 66, 67, 68, 69, 70, 71] rfl (by decide +kernel)
set_option maxRecDepth 20000 in
theorem gX3_placeRow_X3_cellAt : GoodIn wsX3_placeRow (wsV RX3 197 RX3 yX3_cellAt wsX3_cellAt) := goodIn_app (goodIn_of _ (by decide +kernel)) ggX3_placeRow_X3_cellAt
set_option maxRecDepth 20000 in
theorem ggX3_placeRow_X3_columnWidth : GoodIn wsX3_placeRow wsX3_columnWidth := goodIn_r _ [20, 1, 21, 2, 3, 4, 22, 23, 24, 25, 9, 10, 11, 12, 13, 14, 15, 16, 52, 53, 54, 55, 56, 57, 58, 59, 60, 61, 62, 63, 64, 65, 66, 67, 68, 69, 70, 71, 72, 73, 74, 75, 76] rfl (by decide +kernel)
set_option maxRecDepth 20000 in
theorem gX3_placeRow_X3_columnWidth : GoodIn wsX3_placeRow (wsV RX3 209 RX3 yX3_columnWidth wsX3_columnWidth) := goodIn_app (goodIn_of _ (by decide +kernel)) ggX3_placeRow_X3_columnWidth
set_option maxRecDepth 20000 in
theorem ggX3_placeRow_X3_place : GoodIn wsX3_placeRow wsX3_place := goodIn_r _ [29, 30, 3, 31, 32, 33, 34, 35, 36, 37, 38, 39, 40, 23, 24, 25, 41, 42, 43, 44, 45, 46, 47, 48, 7, 49, 50, 51, 52, 53, 54, 55, 56, 57, 72, 73, 74, 75, 76, 77, 78] rfl (by decide +kernel)
set_option maxRecDepth 20000 in
theorem gX3_placeRow_X3_place : GoodIn wsX3_placeRow (wsV RX3 167 RX3 yX3_place wsX3_place) := goodIn_app (goodIn_of _ (by decide +kernel)) ggX3_placeRow_X3_place
set_option maxRecDepth 20000 in
theorem ggX3_columnWidth_X3_cellAt : GoodIn wsX3_columnWidth wsX3_cellAt := goodIn_r _ [14, 1, 15, 16, 17, 18, 19, 20, 21, 22, 23, 24, 25, 26, 27, 28, 29, 30, 31, 32, 33, 34, 35, 36, 37] rfl (by decide +kernel)
set_option maxRecDepth 20000 in
theorem gX3_columnWidth_X3_cellAt : GoodIn wsX3_columnWidth (wsV RX3 197 RX3 yX3_cellAt wsX3_cellAt) := goodIn_app (goodIn_of _ (by decide +kernel)) ggX3_columnWidth_X3_cellAt
set_option maxRecDepth 20000 in
theorem ggX3_rowHeight_X3_mostInRow : GoodIn wsX3_rowHeight wsX3_mostInRow := goodIn_r _ [7, 8, 9, 10, 11, 12, 13, 14, 15, 16, 6, 17, 18, 19, 20, 21, 22, 23, 24, 25, 26, 32, 33, 34, 35, 36, 37, 38, 39, 40, 41, 42, 43, 44, 45] rfl (by decide +kernel)
set_option maxRecDepth 20000 in
theorem gX3_rowHeight_X3_mostInRow : GoodIn wsX3_rowHeight (wsV RX3 218 RX3 yX3_mostInRow wsX3_mostInRow) := goodIn_app (goodIn_of _ (by decide +kernel)) ggX3_rowHeight_X3_mostInRow
set_option maxRecDepth 20000 in
theorem ggX3_rowDepth_X3_mostInRow : GoodIn wsX3_rowDepth wsX3_mostInRow := goodIn_r _ [7, 8, 9, 10, 11, 12, 13, 14, 15, 16, 6, 17, 18, 19, 20, 21, 22, 23, 24, 25, 26, 32, 33, 34, 35, 36, 37, 38, 39, 40, 41, 42, 43, 44, 45] rfl (by decide +kernel)
set_option maxRecDepth 20000 in
theorem gX3_rowDepth_X3_mostInRow : GoodIn wsX3_rowDepth (wsV RX3 218 RX3 yX3_mostInRow wsX3_mostInRow) := goodIn_app (goodIn_of _ (by decide +kernel)) ggX3_rowDepth_X3_mostInRow
set_option maxRecDepth 20000 in
theorem ggX3_mostInRow_X3_cellAt : GoodIn wsX3_mostInRow wsX3_cellAt := goodIn_r _ [11, 1, 12, 13, 14, 15, 16, 17, 18, 19, 20, 21, 22, 23, 24, 25, 26, 27, 28, 29, 30, 31, 32, 33, 34] rfl (by decide +kernel)
set_option maxRecDepth 20000 in
theorem gX3_mostInRow_X3_cellAt : GoodIn wsX3_mostInRow (wsV RX3 197 RX3 yX3_cellAt wsX3_cellAt) := goodIn_app (goodIn_of _ (by decide +kernel)) ggX3_mostInRow_X3_cellAt
set_option maxRecDepth 20000 in
theorem ggX4_init_X0_init : GoodIn wsX4_init wsX0_init := goodIn_r _ [14, 15, 2, 3, 16, 17, 18, 19, 20, 21, 22, 23, 24, 25, 26, 27, 28, 29, 30, 60, 61, 62, 63, 64, 65, 66, 67, 68, 69, 70, 71, 72, 73] rfl (by decide +kernel)
set_option maxRecDepth 20000 in
theorem gX4_init_X0_init : GoodIn wsX4_init (wsX0_init) := ggX4_init_X0_init
set_option maxRecDepth 20000 in
theorem ggX4_init_X3_init : GoodIn wsX4_init wsX3_init := goodIn_r _ [33, 34, 2, 3, 35, 36, 37, 38, 39, 40, 41, 42, 43, 44, 45, 46, 47, 48, 49, 19, 50, 51, 52, 53, 54, 55, 56, 57, 58, 59, 82, 83, 84, 85, 86, 76, 77, 78, 79, 80, 81, 87, 88] rfl (by decide +kernel)
set_option maxRecDepth 20000 in
theorem gX4_init_X3_init : GoodIn wsX4_init (wsX3_init) := ggX4_init_X3_init
set_option maxRecDepth 20000 in
theorem ggX4_atom_X4_needRoomForList : GoodIn wsX4_atom wsX4_needRoomForList := goodIn_ca (goodIn_r _ [9, 10, 11, 3, 12, 42, 43, 44, 45, 46, 47, 48, 49, 50, 51, 52, 53, 54, 55, 56, 57] rfl (by decide +kernel)) (goodIn_sub (fun _ h => List.mem_cons_of_mem _ (List.mem_append_right _ h)) (by decide +kernel))
set_option maxRecDepth 20000 in
theorem gX4_atom_X4_needRoomForList : GoodIn wsX4_atom (wsV RX4 25 RX4 yX4_needRoomForList wsX4_needRoomForList) := goodIn_app (goodIn_of _ (by decide +kernel)) ggX4_atom_X4_needRoomForList
set_option maxRecDepth 20000 in
theorem ggX4_atom_X0_beginList : GoodIn wsX4_atom wsX0_beginList := goodIn_r _ [17, 18, 19, 44, 45, 46, 47, 48, 49, 50, 51, 52, 53, 54, 55, 56, 57] rfl (by decide +kernel)
set_option maxRecDepth 20000 in
theorem gX4_atom_X0_beginList : GoodIn wsX4_atom (wsV RX4 28 RX0 yX0_beginList wsX0_beginList) := goodIn_app (goodIn_of _ (by decide +kernel)) ggX4_atom_X0_beginList
set_option maxRecDepth 20000 in
theorem ggX4_atom_X4_isKind : GoodIn wsX4_atom wsX4_isKind := goodIn_r _ [22] rfl (by decide +kernel)
set_option maxRecDepth 20000 in
theorem gX4_atom_X4_isKind : GoodIn wsX4_atom (va_wsS RX4 36 yX4_isKind wsX4_isKind) := goodIn_app (goodIn_of _ (by decide +kernel)) ggX4_atom_X4_isKind
set_option maxRecDepth 20000 in
theorem ggX4_atom_X4_needRoomForNode : GoodIn wsX4_atom wsX4_needRoomForNode := goodIn_ca (goodIn_r _ [26, 10, 11, 3, 27, 42, 43, 44, 45, 46, 47, 48, 49, 50, 51, 52, 53, 54, 55, 56, 57] rfl (by decide +kernel)) (goodIn_sub (fun _ h => List.mem_cons_of_mem _ (List.mem_append_right _ h)) (by decide +kernel))
set_option maxRecDepth 20000 in
theorem gX4_atom_X4_needRoomForNode : GoodIn wsX4_atom (wsV RX4 49 RX4 yX4_needRoomForNode wsX4_needRoomForNode) := goodIn_app (goodIn_of _ (by decide +kernel)) ggX4_atom_X4_needRoomForNode
set_option maxRecDepth 20000 in
theorem ggX4_atom_X0_addNode : GoodIn wsX4_atom wsX0_addNode := goodIn_r _ [31, 32, 33, 34, 35, 36, 37, 38, 39, 40, 41, 44, 45, 46, 47, 48, 49, 50, 51, 52, 53, 54, 55, 56, 57] rfl (by decide +kernel)
set_option maxRecDepth 20000 in
theorem gX4_atom_X0_addNode : GoodIn wsX4_atom (wsV RX4 52 RX0 yX0_addNode wsX0_addNode) := goodIn_app (goodIn_of _ (by decide +kernel)) ggX4_atom_X0_addNode
set_option maxRecDepth 20000 in
theorem ggX4_script_X4_needAtom : GoodIn wsX4_script wsX4_needAtom := goodIn_ca (goodIn_r _ [12, 13, 14, 3, 15, 16, 17, 18, 19, 20, 21, 51, 52, 53, 54, 55, 56, 57, 58, 59, 60, 61, 62, 63, 64, 65, 66] rfl (by decide +kernel)) (goodIn_sub (fun _ h => List.mem_cons_of_mem _ (List.mem_append_right _ h)) (by decide +kernel))
set_option maxRecDepth 20000 in
theorem gX4_script_X4_needAtom : GoodIn wsX4_script (wsV RX4 56 RX4 yX4_needAtom wsX4_needAtom) := goodIn_app (goodIn_of _ (by decide +kernel)) ggX4_script_X4_needAtom
set_option maxRecDepth 20000 in
theorem ggX4_script_X4_needList : GoodIn wsX4_script wsX4_needList := goodIn_ca (goodIn_r _ [25, 13, 14, 3, 26, 27, 28, 18, 29, 30, 51, 52, 53, 54, 55, 56, 57, 58, 59, 60, 61, 62, 63, 64, 65, 66] rfl (by decide +kernel)) (goodIn_sub (fun _ h => List.mem_cons_of_mem _ (List.mem_append_right _ h)) (by decide +kernel))
set_option maxRecDepth 20000 in
theorem gX4_script_X4_needList : GoodIn wsX4_script (wsV RX4 60 RX4 yX4_needList wsX4_needList) := goodIn_app (goodIn_of _ (by decide +kernel)) ggX4_script_X4_needList
set_option maxRecDepth 20000 in
theorem ggX4_script_X4_needFree : GoodIn wsX4_script wsX4_needFree := goodIn_ca (goodIn_r _ [34, 1, 2, 3, 35, 36, 37, 18, 38, 39, 40, 41, 42, 43, 44, 51, 52, 53, 54, 55, 56, 57, 58, 59, 60, 61, 62, 63, 64, 65, 66] rfl (by decide +kernel)) (goodIn_sub (fun _ h => List.mem_cons_of_mem _ (List.mem_append_left _ (List.mem_append_right _ h))) (by decide +kernel))
set_option maxRecDepth 20000 in
theorem gX4_script_X4_needFree : GoodIn wsX4_script (wsV RX4 78 RX4 yX4_needFree wsX4_needFree) := goodIn_app (goodIn_of _ (by decide +kernel)) ggX4_script_X4_needFree
set_option maxRecDepth 20000 in
theorem ggX4_script_X0_scriptsOf : GoodIn wsX4_script wsX0_scriptsOf := goodIn_r _ [48, 49, 50, 53, 54, 55, 56, 57, 58, 59, 60, 61, 62, 63, 64, 65, 66] rfl (by decide +kernel)
set_option maxRecDepth 20000 in
theorem gX4_script_X0_scriptsOf : GoodIn wsX4_script (wsV RX4 85 RX0 yX0_scriptsOf wsX0_scriptsOf) := goodIn_app (goodIn_of _ (by decide +kernel)) ggX4_script_X0_scriptsOf
set_option maxRecDepth 20000 in
theorem ggX4_fraction_X4_needList : GoodIn wsX4_fraction wsX4_needList := goodIn_ca (goodIn_r _ [13, 14, 15, 6, 16, 17, 18, 19, 20, 21, 56, 57, 58, 59, 60, 61, 62, 63, 64, 65, 66, 67, 68, 69, 70, 71] rfl (by decide +kernel)) (goodIn_sub (fun _ h => List.mem_cons_of_mem _ (List.mem_append_left _ (List.mem_append_right _ h))) (by decide +kernel))
set_option maxRecDepth 20000 in
theorem gX4_fraction_X4_needList : GoodIn wsX4_fraction (wsV RX4 60 RX4 yX4_needList wsX4_needList) := goodIn_app (goodIn_of _ (by decide +kernel)) ggX4_fraction_X4_needList
set_option maxRecDepth 20000 in
theorem ggX4_fraction_X4_needFree : GoodIn wsX4_fraction wsX4_needFree := goodIn_ca (goodIn_r _ [25, 3, 4, 6, 26, 27, 28, 19, 29, 30, 31, 32, 33, 34, 35, 56, 57, 58, 59, 60, 61, 62, 63, 64, 65, 66, 67, 68, 69, 70, 71] rfl (by decide +kernel)) (goodIn_sub (fun _ h => List.mem_cons_of_mem _ (List.mem_append_left _ (List.mem_append_left _ (List.mem_append_right _ h)))) (by decide +kernel))
set_option maxRecDepth 20000 in
theorem gX4_fraction_X4_needFree : GoodIn wsX4_fraction (wsV RX4 78 RX4 yX4_needFree wsX4_needFree) := goodIn_app (goodIn_of _ (by decide +kernel)) ggX4_fraction_X4_needFree
set_option maxRecDepth 20000 in
theorem ggX4_fraction_X4_needRoomForNode : GoodIn wsX4_fraction wsX4_needRoomForNode := goodIn_ca (goodIn_r _ [39, 40, 41, 6, 42, 56, 57, 58, 59, 60, 61, 62, 63, 64, 65, 66, 67, 68, 69, 70, 71] rfl (by decide +kernel)) (goodIn_sub (fun _ h => List.mem_cons_of_mem _ (List.mem_append_right _ h)) (by decide +kernel))
set_option maxRecDepth 20000 in
theorem gX4_fraction_X4_needRoomForNode : GoodIn wsX4_fraction (wsV RX4 49 RX4 yX4_needRoomForNode wsX4_needRoomForNode) := goodIn_app (goodIn_of _ (by decide +kernel)) ggX4_fraction_X4_needRoomForNode
set_option maxRecDepth 20000 in
theorem ggX4_fraction_X0_addNode : GoodIn wsX4_fraction wsX0_addNode := goodIn_r _ [46, 47, 35, 48, 49, 50, 51, 52, 53, 54, 55, 58, 59, 60, 61, 62, 63, 64, 65, 66, 67, 68, 69, 70, 71] rfl (by decide +kernel)
set_option maxRecDepth 20000 in
theorem gX4_fraction_X0_addNode : GoodIn wsX4_fraction (wsV RX4 52 RX0 yX0_addNode wsX0_addNode) := goodIn_app (goodIn_of _ (by decide +kernel)) ggX4_fraction_X0_addNode
set_option maxRecDepth 20000 in
theorem ggX4_fence_X4_needList : GoodIn wsX4_fence wsX4_needList := goodIn_ca (goodIn_r _ [10, 11, 12, 3, 13, 14, 15, 16, 17, 18, 58, 59, 60, 61, 62, 63, 64, 65, 66, 67, 68, 69, 70, 71, 72, 73] rfl (by decide +kernel)) (goodIn_sub (fun _ h => List.mem_cons_of_mem _ (List.mem_append_left _ (List.mem_append_left _ (List.mem_append_right _ h)))) (by decide +kernel))
set_option maxRecDepth 20000 in
theorem gX4_fence_X4_needList : GoodIn wsX4_fence (wsV RX4 60 RX4 yX4_needList wsX4_needList) := goodIn_app (goodIn_of _ (by decide +kernel)) ggX4_fence_X4_needList
set_option maxRecDepth 20000 in
theorem ggX4_fence_X4_needFree : GoodIn wsX4_fence wsX4_needFree := goodIn_ca (goodIn_r _ [22, 23, 24, 3, 25, 26, 27, 16, 28, 29, 30, 31, 32, 33, 34, 58, 59, 60, 61, 62, 63, 64, 65, 66, 67, 68, 69, 70, 71, 72, 73] rfl (by decide +kernel)) (goodIn_sub (fun _ h => List.mem_cons_of_mem _ (List.mem_append_left _ (List.mem_append_right _ h))) (by decide +kernel))
set_option maxRecDepth 20000 in
theorem gX4_fence_X4_needFree : GoodIn wsX4_fence (wsV RX4 78 RX4 yX4_needFree wsX4_needFree) := goodIn_app (goodIn_of _ (by decide +kernel)) ggX4_fence_X4_needFree
set_option maxRecDepth 20000 in
theorem ggX4_fence_X4_needRoomForNode : GoodIn wsX4_fence wsX4_needRoomForNode := goodIn_ca (goodIn_r _ [38, 39, 40, 3, 41, 58, 59, 60, 61, 62, 63, 64, 65, 66, 67, 68, 69, 70, 71, 72, 73] rfl (by decide +kernel)) (goodIn_sub (fun _ h => List.mem_cons_of_mem _ (List.mem_append_right _ h)) (by decide +kernel))
set_option maxRecDepth 20000 in
theorem gX4_fence_X4_needRoomForNode : GoodIn wsX4_fence (wsV RX4 49 RX4 yX4_needRoomForNode wsX4_needRoomForNode) := goodIn_app (goodIn_of _ (by decide +kernel)) ggX4_fence_X4_needRoomForNode
set_option maxRecDepth 20000 in
theorem ggX4_fence_X4_isBalanced : GoodIn wsX4_fence wsX4_isBalanced := goodIn_r _ [44] rfl (by decide +kernel)
set_option maxRecDepth 20000 in
theorem gX4_fence_X4_isBalanced : GoodIn wsX4_fence (va_wsS RX4 97 yX4_isBalanced wsX4_isBalanced) := goodIn_app (goodIn_of _ (by decide +kernel)) ggX4_fence_X4_isBalanced
set_option maxRecDepth 20000 in
theorem ggX4_fence_X0_addNode : GoodIn wsX4_fence wsX0_addNode := goodIn_r _ [48, 49, 34, 50, 51, 52, 53, 54, 55, 56, 57, 60, 61, 62, 63, 64, 65, 66, 67, 68, 69, 70, 71, 72, 73] rfl (by decide +kernel)
set_option maxRecDepth 20000 in
theorem gX4_fence_X0_addNode : GoodIn wsX4_fence (wsV RX4 52 RX0 yX0_addNode wsX0_addNode) := goodIn_app (goodIn_of _ (by decide +kernel)) ggX4_fence_X0_addNode
set_option maxRecDepth 20000 in
theorem ggX4_matrix_X4_needRoomForNode : GoodIn wsX4_matrix wsX4_needRoomForNode := goodIn_ca (goodIn_r _ [7, 8, 9, 1, 10, 54, 55, 56, 57, 58, 59, 60, 61, 62, 63, 64, 65, 66, 67, 68, 69] rfl (by decide +kernel)) (goodIn_sub (fun _ h => List.mem_cons_of_mem _ (List.mem_append_right _ h)) (by decide +kernel))
set_option maxRecDepth 20000 in
theorem gX4_matrix_X4_needRoomForNode : GoodIn wsX4_matrix (wsV RX4 49 RX4 yX4_needRoomForNode wsX4_needRoomForNode) := goodIn_app (goodIn_of _ (by decide +kernel)) ggX4_matrix_X4_needRoomForNode
set_option maxRecDepth 20000 in
theorem ggX4_matrix_X0_firstOfLastFree : GoodIn wsX4_matrix wsX0_firstOfLastFree := goodIn_r _ [15, 16, 17, 18, 19, 14, 20, 21, 22, 23, 24, 25, 26, 56, 57, 58, 59, 60, 61, 62, 63, 64, 65, 66, 67, 68, 69] rfl (by decide +kernel)
set_option maxRecDepth 20000 in
theorem gX4_matrix_X0_firstOfLastFree : GoodIn wsX4_matrix (wsV RX4 101 RX0 yX0_firstOfLastFree wsX0_firstOfLastFree) := goodIn_app (goodIn_of _ (by decide +kernel)) ggX4_matrix_X0_firstOfLastFree
set_option maxRecDepth 20000 in
theorem ggX4_matrix_X0_ringsFrom : GoodIn wsX4_matrix wsX0_ringsFrom := goodIn_r _ [30, 16, 21, 17, 18, 19, 14, 20, 22, 23, 24, 25, 26, 31, 32, 33, 34, 35, 56, 57, 58, 59, 60, 61, 62, 63, 64, 65, 66, 67, 68, 69] rfl (by decide +kernel)
set_option maxRecDepth 20000 in
theorem gX4_matrix_X0_ringsFrom : GoodIn wsX4_matrix (wsV RX4 104 RX0 yX0_ringsFrom wsX0_ringsFrom) := goodIn_app (goodIn_of _ (by decide +kernel)) ggX4_matrix_X0_ringsFrom
