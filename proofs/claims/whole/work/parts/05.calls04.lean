set_option maxRecDepth 20000 in
theorem ggX4_matrix_X0_addNode : GoodIn wsX4_matrix wsX0_addNode := goodIn_r _ [39, 40, 35, 21, 41, 42, 43, 44, 45, 46, 47, 56, 57, 58, 59, 60, 61, 62, 63, 64, 65, 66, 67, 68, 69] rfl (by decide +kernel)
set_option maxRecDepth 20000 in
theorem gX4_matrix_X0_addNode : GoodIn wsX4_matrix (wsV RX4 52 RX0 yX0_addNode wsX0_addNode) := goodIn_app (goodIn_of _ (by decide +kernel)) ggX4_matrix_X0_addNode
set_option maxRecDepth 20000 in
theorem ggX4_matrix_X0_holdCellsFrom : GoodIn wsX4_matrix wsX0_holdCellsFrom := goodIn_r _ [51, 16, 52, 26, 53, 17, 18, 19, 14, 20, 21, 22, 23, 24, 25, 56, 57, 58, 59, 60, 61, 62, 63, 64, 65, 66, 67, 68, 69] rfl (by decide +kernel)
set_option maxRecDepth 20000 in
theorem gX4_matrix_X0_holdCellsFrom : GoodIn wsX4_matrix (wsV RX4 110 RX0 yX0_holdCellsFrom wsX0_holdCellsFrom) := goodIn_app (goodIn_of _ (by decide +kernel)) ggX4_matrix_X0_holdCellsFrom
set_option maxRecDepth 20000 in
theorem ggX4_style_X4_needRoomForNode : GoodIn wsX4_style wsX4_needRoomForNode := goodIn_ca (goodIn_r _ [8, 9, 10, 3, 11, 27, 28, 29, 30, 31, 32, 33, 34, 35, 36, 37, 38, 39, 40, 41, 42] rfl (by decide +kernel)) (goodIn_sub (fun _ h => List.mem_cons_of_mem _ (List.mem_append_right _ h)) (by decide +kernel))
set_option maxRecDepth 20000 in
theorem gX4_style_X4_needRoomForNode : GoodIn wsX4_style (wsV RX4 49 RX4 yX4_needRoomForNode wsX4_needRoomForNode) := goodIn_app (goodIn_of _ (by decide +kernel)) ggX4_style_X4_needRoomForNode
set_option maxRecDepth 20000 in
theorem ggX4_style_X0_addNode : GoodIn wsX4_style wsX0_addNode := goodIn_r _ [16, 17, 18, 19, 20, 21, 22, 23, 24, 25, 26, 29, 30, 31, 32, 33, 34, 35, 36, 37, 38, 39, 40, 41, 42] rfl (by decide +kernel)
set_option maxRecDepth 20000 in
theorem gX4_style_X0_addNode : GoodIn wsX4_style (wsV RX4 52 RX0 yX0_addNode wsX0_addNode) := goodIn_app (goodIn_of _ (by decide +kernel)) ggX4_style_X0_addNode
set_option maxRecDepth 20000 in
theorem ggX4_run_X4_needList : GoodIn wsX4_run wsX4_needList := goodIn_ca (goodIn_r _ [8, 9, 10, 11, 12, 13, 14, 15, 16, 17, 231, 232, 241, 242, 243, 244, 245, 246, 247, 248, 249, 250, 251, 252, 253, 254] rfl (by decide +kernel)) (goodIn_sub (fun _ h => List.mem_cons_of_mem _ (List.mem_append_right _ h)) (by decide +kernel))
set_option maxRecDepth 20000 in
theorem gX4_run_X4_needList : GoodIn wsX4_run (wsV RX4 60 RX4 yX4_needList wsX4_needList) := goodIn_app (goodIn_of _ (by decide +kernel)) ggX4_run_X4_needList
set_option maxRecDepth 20000 in
theorem ggX4_run_X3_layOut : GoodIn wsX4_run wsX3_layOut := goodIn_r _ [22, 23, 24, 25, 26, 27, 28, 29, 30, 31, 32, 33, 34, 21, 35, 36, 37, 38, 39, 40, 41, 42, 43, 44, 45, 46, 47, 48, 49, 50, 51, 52, 53, 54, 55, 56, 57, 58, 15, 59, 60, 61, 62, 63, 64, 65, 66, 67, 68, 69, 70, 71, 72, 73, 74, 7, 75, 76, 77, 78, 79, 80, 81, 82, 83, 84, 85, 86, 87, 88, 89, 90, 91, 92, 93, 94, 95, 96, 97, 98, 99, 100, 101, 102, 103, 104, 105, 106, 107, 108, 109, 110, 111, 112, 113, 114, 115, 116, 117, 118, 119, 120, 121, 122, 123, 124, 125, 126, 127, 128, 129, 130, 131, 132, 133, 134, 135, 136, 137, 138, 139, 140, 141, 142, 143, 144, 145, 146, 147, 148, 149, 150, 151, 152, 153, 154, 155, 156, 157, 158, 159, 160, 161, 162, 163, 164, 165, 166, 167, 168, 169, 170, 171, 172, 173, 174, 175, 176, 177, 178, 179, 180, 181, 182, 183, 184, 185, 186, 187, 188, 189, 190, 191, 192, 193, 194, 195, 196, 197, 198, 199, 200, 201, 202, 203, 204, 205, 206, 207, 208, 209, 210, 211, 212, 213, 214, 215, 216, 217, 218, 219, 220, 221, 222, 223, 224, 225, 226, 227, 228, 229, 230, 233, 234, 235, 236, 237, 238, 239, 240, 255, 256, 257, 258, 259, 241, 242, 243, 244, 245, 246, 247, 248, 249, 250, 251, 252, 253, 254] rfl (by decide +kernel)
set_option maxRecDepth 20000 in
theorem gX4_run_X3_layOut : GoodIn wsX4_run (wsV RX4 115 RX3 yX3_layOut wsX3_layOut) := goodIn_app (goodIn_of _ (by decide +kernel)) ggX4_run_X3_layOut
set_option maxRecDepth 20000 in
theorem ggX4_item_X2_has : GoodIn wsX4_item wsX2_has := goodIn_r _ [12, 13, 28, 29] rfl (by decide +kernel)
set_option maxRecDepth 20000 in
theorem gX4_item_X2_has : GoodIn wsX4_item (wsV RX4 136 RX2 yX2_has wsX2_has) := goodIn_app (goodIn_of _ (by decide +kernel)) ggX4_item_X2_has
set_option maxRecDepth 20000 in
theorem ggX4_item_X2_part : GoodIn wsX4_item wsX2_part := goodIn_r _ [17, 18, 19, 9, 10, 11, 12, 13, 28, 29] rfl (by decide +kernel)
set_option maxRecDepth 20000 in
theorem gX4_item_X2_part : GoodIn wsX4_item (wsV RX4 144 RX2 yX2_part wsX2_part) := goodIn_app (goodIn_of _ (by decide +kernel)) ggX4_item_X2_part
set_option maxRecDepth 20000 in
theorem ggX4_space_X4_isKind : GoodIn wsX4_space wsX4_isKind := goodIn_r _ [6] rfl (by decide +kernel)
set_option maxRecDepth 20000 in
theorem gX4_space_X4_isKind : GoodIn wsX4_space (va_wsS RX4 36 yX4_isKind wsX4_isKind) := goodIn_app (goodIn_of _ (by decide +kernel)) ggX4_space_X4_isKind
set_option maxRecDepth 20000 in
theorem ggX4_space_X4_spaceUnits : GoodIn wsX4_space wsX4_spaceUnits := goodIn_r _ [9, 10, 3, 4, 5, 6] rfl (by decide +kernel)
set_option maxRecDepth 20000 in
theorem gX4_space_X4_spaceUnits : GoodIn wsX4_space (va_wsS RX4 148 yX4_spaceUnits wsX4_spaceUnits) := goodIn_app (goodIn_of _ (by decide +kernel)) ggX4_space_X4_spaceUnits
set_option maxRecDepth 20000 in
theorem ggX4_kind_X4_needAtom : GoodIn wsX4_kind wsX4_needAtom := goodIn_ca (goodIn_r _ [6, 7, 8, 1, 9, 10, 11, 12, 13, 14, 15, 36, 37, 38, 39, 40, 41, 42, 43, 44, 45, 46, 47, 48, 49, 50, 51] rfl (by decide +kernel)) (goodIn_sub (fun _ h => List.mem_cons_of_mem _ (List.mem_append_right _ h)) (by decide +kernel))
set_option maxRecDepth 20000 in
theorem gX4_kind_X4_needAtom : GoodIn wsX4_kind (wsV RX4 56 RX4 yX4_needAtom wsX4_needAtom) := goodIn_app (goodIn_of _ (by decide +kernel)) ggX4_kind_X4_needAtom
set_option maxRecDepth 20000 in
theorem ggX4_kind_X0_countedKind : GoodIn wsX4_kind wsX0_countedKind := goodIn_r _ [19, 20, 15, 21, 22, 23, 12, 24, 25, 26, 27, 28, 29, 30, 31, 32, 14, 33, 34, 35, 38, 39, 40, 41, 42, 43, 44, 45, 46, 47, 48, 49, 50, 51] rfl (by decide +kernel)
set_option maxRecDepth 20000 in
theorem gX4_kind_X0_countedKind : GoodIn wsX4_kind (wsV RX4 152 RX0 yX0_countedKind wsX0_countedKind) := goodIn_app (goodIn_of _ (by decide +kernel)) ggX4_kind_X0_countedKind
set_option maxRecDepth 20000 in
theorem ggX4_split_X4_needList : GoodIn wsX4_split wsX4_needList := goodIn_ca (goodIn_r _ [9, 10, 11, 3, 12, 13, 14, 15, 16, 17, 42, 43, 44, 45, 46, 47, 48, 49, 50, 51, 52, 53, 54, 55, 56, 57] rfl (by decide +kernel)) (goodIn_sub (fun _ h => List.mem_cons_of_mem _ (List.mem_append_left _ (List.mem_append_right _ h))) (by decide +kernel))
set_option maxRecDepth 20000 in
theorem gX4_split_X4_needList : GoodIn wsX4_split (wsV RX4 60 RX4 yX4_needList wsX4_needList) := goodIn_app (goodIn_of _ (by decide +kernel)) ggX4_split_X4_needList
set_option maxRecDepth 20000 in
theorem ggX4_split_X0_relationOf : GoodIn wsX4_split wsX0_relationOf := goodIn_r _ [21, 22, 23, 24, 25, 44, 45, 46, 47, 48, 49, 50, 51, 52, 53, 54, 55, 56, 57] rfl (by decide +kernel)
set_option maxRecDepth 20000 in
theorem gX4_split_X0_relationOf : GoodIn wsX4_split (wsV RX4 155 RX0 yX0_relationOf wsX0_relationOf) := goodIn_app (goodIn_of _ (by decide +kernel)) ggX4_split_X0_relationOf
set_option maxRecDepth 20000 in
theorem ggX4_split_X4_needRoomForList : GoodIn wsX4_split wsX4_needRoomForList := goodIn_ca (goodIn_r _ [29, 30, 31, 3, 32, 42, 43, 44, 45, 46, 47, 48, 49, 50, 51, 52, 53, 54, 55, 56, 57] rfl (by decide +kernel)) (goodIn_sub (fun _ h => List.mem_cons_of_mem _ (List.mem_append_right _ h)) (by decide +kernel))
set_option maxRecDepth 20000 in
theorem gX4_split_X4_needRoomForList : GoodIn wsX4_split (wsV RX4 25 RX4 yX4_needRoomForList wsX4_needRoomForList) := goodIn_app (goodIn_of _ (by decide +kernel)) ggX4_split_X4_needRoomForList
set_option maxRecDepth 20000 in
theorem ggX4_split_X0_beginList : GoodIn wsX4_split wsX0_beginList := goodIn_r _ [36, 17, 37, 44, 45, 46, 47, 48, 49, 50, 51, 52, 53, 54, 55, 56, 57] rfl (by decide +kernel)
set_option maxRecDepth 20000 in
theorem gX4_split_X0_beginList : GoodIn wsX4_split (wsV RX4 28 RX0 yX0_beginList wsX0_beginList) := goodIn_app (goodIn_of _ (by decide +kernel)) ggX4_split_X0_beginList
set_option maxRecDepth 20000 in
theorem ggX4_split_X0_moveFrom : GoodIn wsX4_split wsX0_moveFrom := goodIn_r _ [41, 22, 23, 44, 45, 46, 47, 48, 49, 50, 51, 52, 53, 54, 55, 56, 57] rfl (by decide +kernel)
set_option maxRecDepth 20000 in
theorem gX4_split_X0_moveFrom : GoodIn wsX4_split (wsV RX4 160 RX0 yX0_moveFrom wsX0_moveFrom) := goodIn_app (goodIn_of _ (by decide +kernel)) ggX4_split_X0_moveFrom
set_option maxRecDepth 20000 in
theorem ggX4_needList_X0_hasList : GoodIn wsX4_needList wsX0_hasList := goodIn_r _ [8, 9, 12, 13, 14, 15, 16, 17, 18, 19, 20, 21, 22, 23, 24, 25] rfl (by decide +kernel)
set_option maxRecDepth 20000 in
theorem gX4_needList_X0_hasList : GoodIn wsX4_needList (wsV RX4 164 RX0 yX0_hasList wsX0_hasList) := goodIn_app (goodIn_of _ (by decide +kernel)) ggX4_needList_X0_hasList
set_option maxRecDepth 20000 in
theorem ggX4_needAtom_X0_hasAtom : GoodIn wsX4_needAtom wsX0_hasAtom := goodIn_r _ [8, 9, 10, 13, 14, 15, 16, 17, 18, 19, 20, 21, 22, 23, 24, 25, 26] rfl (by decide +kernel)
set_option maxRecDepth 20000 in
theorem gX4_needAtom_X0_hasAtom : GoodIn wsX4_needAtom (wsV RX4 172 RX0 yX0_hasAtom wsX0_hasAtom) := goodIn_app (goodIn_of _ (by decide +kernel)) ggX4_needAtom_X0_hasAtom
set_option maxRecDepth 20000 in
theorem ggX4_needFree_X0_isFree : GoodIn wsX4_needFree wsX0_isFree := goodIn_r _ [8, 9, 17, 18, 19, 20, 21, 22, 23, 24, 25, 26, 27, 28, 29, 30] rfl (by decide +kernel)
set_option maxRecDepth 20000 in
theorem gX4_needFree_X0_isFree : GoodIn wsX4_needFree (wsV RX4 177 RX0 yX0_isFree wsX0_isFree) := goodIn_app (goodIn_of _ (by decide +kernel)) ggX4_needFree_X0_isFree
set_option maxRecDepth 20000 in
theorem ggX4_needFree_X0_wouldRing : GoodIn wsX4_needFree wsX0_wouldRing := goodIn_r _ [13, 9, 14, 17, 18, 19, 20, 21, 22, 23, 24, 25, 26, 27, 28, 29, 30] rfl (by decide +kernel)
set_option maxRecDepth 20000 in
theorem gX4_needFree_X0_wouldRing : GoodIn wsX4_needFree (wsV RX4 182 RX0 yX0_wouldRing wsX0_wouldRing) := goodIn_app (goodIn_of _ (by decide +kernel)) ggX4_needFree_X0_wouldRing
set_option maxRecDepth 20000 in
theorem ggX4_spaceUnits_X4_isKind : GoodIn wsX4_spaceUnits wsX4_isKind := goodIn_r _ [5] rfl (by decide +kernel)
set_option maxRecDepth 20000 in
theorem gX4_spaceUnits_X4_isKind : GoodIn wsX4_spaceUnits (va_wsS RX4 36 yX4_isKind wsX4_isKind) := goodIn_app (goodIn_of _ (by decide +kernel)) ggX4_spaceUnits_X4_isKind
set_option maxRecDepth 20000 in
theorem ggX4_axis_X4_unit : GoodIn wsX4_axis wsX4_unit := goodIn_r _ [4] rfl (by decide +kernel)
set_option maxRecDepth 20000 in
theorem gX4_axis_X4_unit : GoodIn wsX4_axis (va_wsS RX4 203 yX4_unit wsX4_unit) := goodIn_app (goodIn_of _ (by decide +kernel)) ggX4_axis_X4_unit
set_option maxRecDepth 20000 in
theorem ggX5_atom_X5_add : GoodIn wsX5_atom wsX5_add := goodIn_r _ [9, 2, 10, 4, 11, 12, 13, 14, 15, 16, 17, 18, 19, 20, 21, 22, 23, 24, 25, 26, 27, 28, 29, 30, 31, 32, 33, 34, 35, 36, 37, 38, 39, 40, 41, 42] rfl (by decide +kernel)
set_option maxRecDepth 20000 in
theorem gX5_atom_X5_add : GoodIn wsX5_atom (wsV RX5 59 RX5 yX5_add wsX5_add) := goodIn_app (goodIn_of _ (by decide +kernel)) ggX5_atom_X5_add
set_option maxRecDepth 20000 in
theorem ggX5_script_X5_isAtom : GoodIn wsX5_script wsX5_isAtom := goodIn_r _ [10, 11, 12, 26, 27, 28, 29, 30, 31, 32, 33, 34, 35, 36, 37, 38, 39, 40, 41, 42, 43, 44, 45, 46, 47, 48, 49, 50] rfl (by decide +kernel)
set_option maxRecDepth 20000 in
theorem gX5_script_X5_isAtom : GoodIn wsX5_script (wsV RX5 63 RX5 yX5_isAtom wsX5_isAtom) := goodIn_app (goodIn_of _ (by decide +kernel)) ggX5_script_X5_isAtom
set_option maxRecDepth 20000 in
theorem ggX5_script_X5_isList : GoodIn wsX5_script wsX5_isList := goodIn_r _ [16, 17, 26, 27, 28, 29, 30, 31, 32, 33, 34, 35, 36, 37, 38, 39, 40, 41, 42, 43, 44, 45, 46, 47, 48, 49, 50] rfl (by decide +kernel)
set_option maxRecDepth 20000 in
theorem gX5_script_X5_isList : GoodIn wsX5_script (wsV RX5 67 RX5 yX5_isList wsX5_isList) := goodIn_app (goodIn_of _ (by decide +kernel)) ggX5_script_X5_isList
set_option maxRecDepth 20000 in
theorem ggX5_script_X5_isFree : GoodIn wsX5_script wsX5_isFree := goodIn_r _ [21, 5, 26, 27, 28, 29, 30, 31, 32, 33, 34, 35, 36, 37, 38, 39, 40, 41, 42, 43, 44, 45, 46, 47, 48, 49, 50] rfl (by decide +kernel)
set_option maxRecDepth 20000 in
theorem gX5_script_X5_isFree : GoodIn wsX5_script (wsV RX5 70 RX5 yX5_isFree wsX5_isFree) := goodIn_app (goodIn_of _ (by decide +kernel)) ggX5_script_X5_isFree
set_option maxRecDepth 20000 in
theorem ggX5_script_X5_isWithin : GoodIn wsX5_script wsX5_isWithin := goodIn_r _ [25, 5, 4, 26, 27, 28, 29, 30, 31, 32, 33, 34, 35, 36, 37, 38, 39, 40, 41, 42, 43, 44, 45, 46, 47, 48, 49, 50] rfl (by decide +kernel)
set_option maxRecDepth 20000 in
theorem gX5_script_X5_isWithin : GoodIn wsX5_script (wsV RX5 73 RX5 yX5_isWithin wsX5_isWithin) := goodIn_app (goodIn_of _ (by decide +kernel)) ggX5_script_X5_isWithin
set_option maxRecDepth 20000 in
theorem ggX5_mayTake_X5_isFree : GoodIn wsX5_mayTake wsX5_isFree := goodIn_r _ [6, 7, 13, 14, 15, 16, 17, 18, 19, 20, 21, 22, 23, 24, 25, 26, 27, 28, 29, 30, 31, 32, 33, 34, 35, 36, 37] rfl (by decide +kernel)
set_option maxRecDepth 20000 in
theorem gX5_mayTake_X5_isFree : GoodIn wsX5_mayTake (wsV RX5 70 RX5 yX5_isFree wsX5_isFree) := goodIn_app (goodIn_of _ (by decide +kernel)) ggX5_mayTake_X5_isFree
set_option maxRecDepth 20000 in
theorem ggX5_mayTake_X5_isWithin : GoodIn wsX5_mayTake wsX5_isWithin := goodIn_r _ [11, 7, 12, 13, 14, 15, 16, 17, 18, 19, 20, 21, 22, 23, 24, 25, 26, 27, 28, 29, 30, 31, 32, 33, 34, 35, 36, 37] rfl (by decide +kernel)
set_option maxRecDepth 20000 in
theorem gX5_mayTake_X5_isWithin : GoodIn wsX5_mayTake (wsV RX5 73 RX5 yX5_isWithin wsX5_isWithin) := goodIn_app (goodIn_of _ (by decide +kernel)) ggX5_mayTake_X5_isWithin
