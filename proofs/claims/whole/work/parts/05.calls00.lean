set_option maxRecDepth 20000 in
theorem ggX0_mayBeCell_X0_isFree : GoodIn wsX0_mayBeCell wsX0_isFree := goodIn_r _ [6, 7, 8, 9, 10, 11, 12, 13, 14, 15, 16, 17, 18, 19, 20, 21] rfl (by decide +kernel)
set_option maxRecDepth 20000 in
theorem gX0_mayBeCell_X0_isFree : GoodIn wsX0_mayBeCell (wsV RX0 55 RX0 yX0_isFree wsX0_isFree) := goodIn_app (goodIn_of _ (by decide +kernel)) ggX0_mayBeCell_X0_isFree
set_option maxRecDepth 20000 in
theorem ggX0_firstOfLastFree_X0_mayBeCell : GoodIn wsX0_firstOfLastFree wsX0_mayBeCell := goodIn_r _ [6, 7, 8, 9, 10, 5, 11, 12, 13, 14, 15, 16, 17, 18, 19, 20, 21, 22, 23, 24, 25, 26] rfl (by decide +kernel)
set_option maxRecDepth 20000 in
theorem gX0_firstOfLastFree_X0_mayBeCell : GoodIn wsX0_firstOfLastFree (wsV RX0 59 RX0 yX0_mayBeCell wsX0_mayBeCell) := goodIn_app (goodIn_of _ (by decide +kernel)) ggX0_firstOfLastFree_X0_mayBeCell
set_option maxRecDepth 20000 in
theorem ggX0_ringsFrom_X0_mayBeCell : GoodIn wsX0_ringsFrom wsX0_mayBeCell := goodIn_r _ [7, 2, 8, 9, 10, 6, 11, 12, 18, 19, 20, 21, 22, 23, 24, 25, 26, 27, 28, 29, 30, 31] rfl (by decide +kernel)
set_option maxRecDepth 20000 in
theorem gX0_ringsFrom_X0_mayBeCell : GoodIn wsX0_ringsFrom (wsV RX0 59 RX0 yX0_mayBeCell wsX0_mayBeCell) := goodIn_app (goodIn_of _ (by decide +kernel)) ggX0_ringsFrom_X0_mayBeCell
set_option maxRecDepth 20000 in
theorem ggX0_ringsFrom_X0_wouldRing : GoodIn wsX0_ringsFrom wsX0_wouldRing := goodIn_r _ [16, 12, 17, 18, 19, 20, 21, 22, 23, 24, 25, 26, 27, 28, 29, 30, 31] rfl (by decide +kernel)
set_option maxRecDepth 20000 in
theorem gX0_ringsFrom_X0_wouldRing : GoodIn wsX0_ringsFrom (wsV RX0 62 RX0 yX0_wouldRing wsX0_wouldRing) := goodIn_app (goodIn_of _ (by decide +kernel)) ggX0_ringsFrom_X0_wouldRing
set_option maxRecDepth 20000 in
theorem ggX0_holdCellsFrom_X0_mayBeCell : GoodIn wsX0_holdCellsFrom wsX0_mayBeCell := goodIn_r _ [9, 10, 11, 12, 13, 8, 14, 3, 15, 16, 17, 18, 19, 20, 21, 22, 23, 24, 25, 26, 27, 28] rfl (by decide +kernel)
set_option maxRecDepth 20000 in
theorem gX0_holdCellsFrom_X0_mayBeCell : GoodIn wsX0_holdCellsFrom (wsV RX0 59 RX0 yX0_mayBeCell wsX0_mayBeCell) := goodIn_app (goodIn_of _ (by decide +kernel)) ggX0_holdCellsFrom_X0_mayBeCell
set_option maxRecDepth 20000 in
theorem ggX0_countsAs_X0_bindsBehind : GoodIn wsX0_countsAs wsX0_bindsBehind := goodIn_r _ [5] rfl (by decide +kernel)
set_option maxRecDepth 20000 in
theorem gX0_countsAs_X0_bindsBehind : GoodIn wsX0_countsAs (va_wsS RX0 66 yX0_bindsBehind wsX0_bindsBehind) := goodIn_app (goodIn_of _ (by decide +kernel)) ggX0_countsAs_X0_bindsBehind
set_option maxRecDepth 20000 in
theorem ggX0_countsAs_X0_kindAfter : GoodIn wsX0_countsAs wsX0_kindAfter := goodIn_r _ [9, 10, 11, 12, 1, 16, 17, 18, 19, 20, 21, 22, 23, 24, 25, 26, 27, 28, 29] rfl (by decide +kernel)
set_option maxRecDepth 20000 in
theorem gX0_countsAs_X0_kindAfter : GoodIn wsX0_countsAs (wsV RX0 69 RX0 yX0_kindAfter wsX0_kindAfter) := goodIn_app (goodIn_of _ (by decide +kernel)) ggX0_countsAs_X0_kindAfter
set_option maxRecDepth 20000 in
theorem ggX0_countsAs_X0_bindsAhead : GoodIn wsX0_countsAs wsX0_bindsAhead := goodIn_r _ [15] rfl (by decide +kernel)
set_option maxRecDepth 20000 in
theorem gX0_countsAs_X0_bindsAhead : GoodIn wsX0_countsAs (va_wsS RX0 73 yX0_bindsAhead wsX0_bindsAhead) := goodIn_app (goodIn_of _ (by decide +kernel)) ggX0_countsAs_X0_bindsAhead
set_option maxRecDepth 20000 in
theorem ggX0_countedKind_X0_countsAs : GoodIn wsX0_countedKind wsX0_countsAs := goodIn_r _ [7, 8, 9, 10, 6, 11, 12, 13, 14, 15, 16, 1, 2, 17, 18, 19, 20, 21, 22, 23, 24, 25, 26, 27, 28, 29, 30, 31, 32, 33] rfl (by decide +kernel)
set_option maxRecDepth 20000 in
theorem gX0_countedKind_X0_countsAs : GoodIn wsX0_countedKind (wsV RX0 76 RX0 yX0_countsAs wsX0_countsAs) := goodIn_app (goodIn_of _ (by decide +kernel)) ggX0_countedKind_X0_countsAs
set_option maxRecDepth 20000 in
theorem ggX2_part_X2_has : GoodIn wsX2_part wsX2_has := goodIn_r _ [6, 7, 8, 9] rfl (by decide +kernel)
set_option maxRecDepth 20000 in
theorem gX2_part_X2_has : GoodIn wsX2_part (wsV RX2 19 RX2 yX2_has wsX2_has) := goodIn_app (goodIn_of _ (by decide +kernel)) ggX2_part_X2_has
set_option maxRecDepth 20000 in
theorem ggX2_measure_X2_has : GoodIn wsX2_measure wsX2_has := goodIn_r _ [6, 7, 8, 9] rfl (by decide +kernel)
set_option maxRecDepth 20000 in
theorem gX2_measure_X2_has : GoodIn wsX2_measure (wsV RX2 19 RX2 yX2_has wsX2_has) := goodIn_app (goodIn_of _ (by decide +kernel)) ggX2_measure_X2_has
set_option maxRecDepth 20000 in
theorem ggX2_markShort_X2_has : GoodIn wsX2_markShort wsX2_has := goodIn_r _ [6, 7, 8, 9] rfl (by decide +kernel)
set_option maxRecDepth 20000 in
theorem gX2_markShort_X2_has : GoodIn wsX2_markShort (wsV RX2 19 RX2 yX2_has wsX2_has) := goodIn_app (goodIn_of _ (by decide +kernel)) ggX2_markShort_X2_has
set_option maxRecDepth 20000 in
theorem ggX3_init_X1_init : GoodIn wsX3_init wsX1_init := goodIn_r _ [17, 18, 2, 3, 19, 20, 21, 22, 23, 24, 30, 31, 32, 33, 34] rfl (by decide +kernel)
set_option maxRecDepth 20000 in
theorem gX3_init_X1_init_n11 : GoodIn wsX3_init (wsX1_init) := ggX3_init_X1_init
set_option maxRecDepth 20000 in
theorem ggX3_init_X2_init : GoodIn wsX3_init wsX2_init := goodIn_r _ [26, 27, 2, 3, 28, 19, 29, 41, 42] rfl (by decide +kernel)
set_option maxRecDepth 20000 in
theorem gX3_init_X2_init_n20 : GoodIn wsX3_init (wsX2_init) := ggX3_init_X2_init
set_option maxRecDepth 20000 in
theorem ggX3_layOut_X3_layList : GoodIn wsX3_layOut wsX3_layList := goodIn_r _ [14, 3, 1, 2, 15, 16, 17, 18, 19, 20, 21, 22, 23, 24, 25, 26, 27, 28, 29, 30, 31, 32, 33, 34, 13, 35, 36, 37, 38, 39, 40, 41, 42, 43, 44, 45, 46, 47, 48, 49, 50, 51, 52, 53, 54, 55, 56, 57, 58, 59, 60, 61, 62, 63, 64, 65, 66, 4, 67, 6, 8, 68, 69, 70, 71, 72, 73, 74, 75, 76, 77, 78, 79, 80, 81, 82, 83, 84, 85, 86, 87, 88, 89, 90, 91, 92, 93, 94, 95, 96, 97, 98, 99, 100, 101, 102, 103, 104, 105, 106, 107, 108, 109, 110, 111, 112, 113, 114, 115, 116, 117, 118, 119, 120, 121, 122, 123, 124, 125, 126, 127, 128, 129, 130, 131, 132, 133, 134, 135, 10, 11, 12, 136, 137, 138, 139, 140, 141, 142, 143, 144, 145, 146, 147, 148, 149, 150, 151, 152, 153, 154, 155, 156, 157, 158, 159, 160, 161, 162, 163, 164, 165, 166, 167, 168, 169, 170, 171, 172, 173, 174, 175, 176, 177, 178, 179, 180, 181, 182, 183, 184, 185, 186, 187, 188, 189, 190, 191, 192, 193, 194, 195, 196, 197, 198, 199, 200, 201, 202, 203, 204, 205, 206, 207, 208, 209, 210, 211, 212, 213, 214, 215, 216, 217, 218, 219, 225, 226, 227, 228, 229, 230, 231, 232, 233, 234, 235, 236, 237, 238, 220, 221, 222, 223, 224] rfl (by decide +kernel)
set_option maxRecDepth 20000 in
theorem gX3_layOut_X3_layList : GoodIn wsX3_layOut (wsV RX3 42 RX3 yX3_layList wsX3_layList) := goodIn_app (goodIn_of _ (by decide +kernel)) ggX3_layOut_X3_layList
set_option maxRecDepth 20000 in
theorem ggX3_layList_X1_begin : GoodIn wsX3_layList wsX1_begin := goodIn_r _ [15, 16, 17, 18, 19, 20, 230, 231, 232, 233, 234] rfl (by decide +kernel)
set_option maxRecDepth 20000 in
theorem gX3_layList_X1_begin : GoodIn wsX3_layList (wsV RX3 53 RX1 yX1_begin wsX1_begin) := goodIn_app (goodIn_of _ (by decide +kernel)) ggX3_layList_X1_begin
set_option maxRecDepth 20000 in
theorem ggX3_layList_X3_layAtom : GoodIn wsX3_layList wsX3_layAtom := goodIn_r _ [82, 1, 2, 3, 4, 7, 10, 61, 62, 14, 63, 11, 12, 13, 15, 16, 17, 18, 19, 20, 83, 84, 85, 24, 86, 87, 88, 89, 90, 91, 92, 93, 94, 95, 8, 57, 96, 97, 98, 99, 100, 51, 45, 52, 78, 79, 80, 81, 101, 102, 103, 67, 104, 73, 77, 105, 106, 107, 108, 109, 110, 111, 112, 113, 114, 115, 28, 116, 117, 118, 119, 120, 121, 122, 9, 123, 59, 60, 124, 70, 71, 72, 125, 126, 127, 128, 129, 130, 131, 132, 133, 134, 135, 136, 137, 138, 139, 140, 141, 142, 143, 144, 145, 146, 147, 148, 149, 150, 151, 152, 153, 154, 155, 156, 58, 64, 65, 66, 68, 69, 74, 75, 76, 157, 0, 5, 6, 21, 22, 23, 25, 26, 27, 29, 30, 31, 32, 33, 34, 35, 36, 37, 38, 39, 40, 41, 42, 43, 44, 46, 47, 48, 49, 50, 53, 54, 55, 56, 158, 159, 160, 161, 162, 163, 164, 165, 166, 167, 168, 169, 170, 171, 172, 173, 174, 175, 176, 177, 178, 179, 180, 181, 182, 183, 184, 185, 186, 187, 188, 189, 190, 191, 192, 193, 194, 195, 196, 197, 198, 199, 200, 201, 202, 203, 204, 205, 206, 207, 208, 209, 210, 211, 212, 213, 214, 215, 216, 217, 218, 219, 220, 221, 222, 223, 224, 225, 226, 227, 228, 229, 230, 231, 232, 233, 234] rfl (by decide +kernel)
set_option maxRecDepth 20000 in
theorem gX3_layList_X3_layAtom : GoodIn wsX3_layList (wsV RX3 74 RX3 yX3_layAtom wsX3_layAtom) := goodIn_app (goodIn_of _ (by decide +kernel)) ggX3_layList_X3_layAtom
set_option maxRecDepth 20000 in
theorem ggX3_layList_X0_countsAs : GoodIn wsX3_layList wsX0_countsAs := goodIn_r _ [29, 30, 31, 32, 28, 33, 34, 35, 36, 37, 38, 39, 40, 41, 42, 43, 216, 217, 218, 219, 220, 221, 222, 223, 224, 225, 226, 227, 228, 229] rfl (by decide +kernel)
set_option maxRecDepth 20000 in
theorem gX3_layList_X0_countsAs : GoodIn wsX3_layList (wsV RX3 77 RX0 yX0_countsAs wsX0_countsAs) := goodIn_app (goodIn_of _ (by decide +kernel)) ggX3_layList_X0_countsAs
set_option maxRecDepth 20000 in
theorem ggX3_layList_X4_spaceUnits : GoodIn wsX3_layList wsX4_spaceUnits := goodIn_r _ [46, 47, 48, 49, 45, 50] rfl (by decide +kernel)
set_option maxRecDepth 20000 in
theorem gX3_layList_X4_spaceUnits_n81 : GoodIn wsX3_layList (wsX4_spaceUnits) := ggX3_layList_X4_spaceUnits
set_option maxRecDepth 20000 in
theorem ggX3_layList_X4_unit : GoodIn wsX3_layList wsX4_unit := goodIn_r _ [52] rfl (by decide +kernel)
set_option maxRecDepth 20000 in
theorem gX3_layList_X4_unit_n85 : GoodIn wsX3_layList (wsX4_unit) := ggX3_layList_X4_unit
set_option maxRecDepth 20000 in
theorem ggX3_layList_X3_append : GoodIn wsX3_layList wsX3_append := goodIn_r _ [56, 1, 57, 2, 58, 10, 59, 60, 61, 62, 14, 63, 64, 65, 66, 67, 68, 69, 70, 71, 72, 73, 74, 75, 76, 77, 78, 79, 80, 81, 17, 18, 208, 209, 210, 211, 212, 213, 230, 231, 232, 233, 234, 214, 215] rfl (by decide +kernel)
set_option maxRecDepth 20000 in
theorem gX3_layList_X3_append : GoodIn wsX3_layList (wsV RX3 89 RX3 yX3_append wsX3_append) := goodIn_app (goodIn_of _ (by decide +kernel)) ggX3_layList_X3_append
set_option maxRecDepth 20000 in
theorem ggX3_append_X1_ofAtom : GoodIn wsX3_append wsX1_ofAtom := goodIn_r _ [11] rfl (by decide +kernel)
set_option maxRecDepth 20000 in
theorem gX3_append_X1_ofAtom : GoodIn wsX3_append (va_wsS RX3 96 yX1_ofAtom wsX1_ofAtom) := goodIn_app (goodIn_of _ (by decide +kernel)) ggX3_append_X1_ofAtom
set_option maxRecDepth 20000 in
theorem ggX3_append_X2_shift : GoodIn wsX3_append wsX2_shift := goodIn_r _ [16, 17, 18, 19, 20, 21, 22, 23, 24, 25, 43, 44] rfl (by decide +kernel)
set_option maxRecDepth 20000 in
theorem gX3_append_X2_shift : GoodIn wsX3_append (wsV RX3 102 RX2 yX2_shift wsX2_shift) := goodIn_app (goodIn_of _ (by decide +kernel)) ggX3_append_X2_shift
set_option maxRecDepth 20000 in
theorem ggX3_append_X1_cover : GoodIn wsX3_append wsX1_cover := goodIn_r _ [29, 30, 31, 38, 39, 40, 41, 42] rfl (by decide +kernel)
set_option maxRecDepth 20000 in
theorem gX3_append_X1_cover : GoodIn wsX3_append (wsV RX3 106 RX1 yX1_cover wsX1_cover) := goodIn_app (goodIn_of _ (by decide +kernel)) ggX3_append_X1_cover
set_option maxRecDepth 20000 in
theorem ggX3_layAtom_X1_ofAtom : GoodIn wsX3_layAtom wsX1_ofAtom := goodIn_r _ [10] rfl (by decide +kernel)
set_option maxRecDepth 20000 in
theorem gX3_layAtom_X1_ofAtom : GoodIn wsX3_layAtom (va_wsS RX3 96 yX1_ofAtom wsX1_ofAtom) := goodIn_app (goodIn_of _ (by decide +kernel)) ggX3_layAtom_X1_ofAtom
set_option maxRecDepth 20000 in
theorem ggX3_layAtom_X1_begin : GoodIn wsX3_layAtom wsX1_begin := goodIn_r _ [14, 15, 16, 17, 18, 19, 230, 231, 232, 233, 234] rfl (by decide +kernel)
set_option maxRecDepth 20000 in
theorem gX3_layAtom_X1_begin : GoodIn wsX3_layAtom (wsV RX3 53 RX1 yX1_begin wsX1_begin) := goodIn_app (goodIn_of _ (by decide +kernel)) ggX3_layAtom_X1_begin
set_option maxRecDepth 20000 in
theorem ggX3_layAtom_X3_layFraction : GoodIn wsX3_layAtom wsX3_layFraction := goodIn_r _ [123, 4, 34, 74, 75, 1, 35, 78, 79, 80, 81, 77, 76, 2, 86, 87, 88, 23, 41, 42, 43, 7, 8, 9, 10, 89, 90, 91, 110, 111, 112, 113, 114, 6, 115, 116, 117, 51, 118, 119, 53, 120, 121, 122, 54, 44, 45, 46, 47, 16, 17, 48, 49, 50, 52, 55, 56, 57, 58, 59, 60, 61, 62, 0, 3, 5, 11, 12, 13, 14, 15, 18, 19, 20, 21, 22, 24, 25, 26, 27, 28, 29, 30, 31, 32, 33, 36, 37, 38, 39, 40, 63, 64, 65, 66, 67, 68, 69, 70, 71, 72, 73, 82, 83, 84, 85, 92, 93, 94, 95, 96, 97, 98, 99, 100, 101, 102, 103, 104, 105, 106, 107, 108, 109, 124, 125, 126, 127, 128, 129, 130, 131, 132, 133, 134, 135, 136, 137, 138, 139, 140, 141, 142, 143, 144, 145, 146, 147, 148, 149, 150, 151, 152, 153, 154, 155, 156, 157, 158, 159, 160, 161, 162, 163, 164, 165, 166, 167, 168, 169, 170, 171, 172, 173, 174, 175, 176, 177, 178, 179, 180, 181, 182, 183, 184, 185, 186, 187, 188, 189, 190, 191, 192, 193, 194, 195, 196, 197, 198, 199, 200, 201, 202, 203, 204, 205, 206, 207, 208, 209, 210, 211, 212, 213, 214, 215, 216, 217, 218, 219, 220, 221, 222, 223, 224, 225, 226, 227, 228, 229, 230, 231, 232, 233, 234] rfl (by decide +kernel)
set_option maxRecDepth 20000 in
theorem gX3_layAtom_X3_layFraction : GoodIn wsX3_layAtom (wsV RX3 109 RX3 yX3_layFraction wsX3_layFraction) := goodIn_app (goodIn_of _ (by decide +kernel)) ggX3_layAtom_X3_layFraction
set_option maxRecDepth 20000 in
theorem ggX3_layAtom_X3_layFence : GoodIn wsX3_layAtom wsX3_layFence := goodIn_r _ [73, 4, 74, 34, 75, 1, 76, 77, 78, 79, 80, 81, 35, 2, 82, 83, 84, 23, 85, 48, 49, 50, 51, 52, 53, 54, 86, 87, 88, 89, 42, 90, 91, 41, 43, 7, 8, 9, 10, 92, 93, 94, 95, 96, 97, 98, 99, 100, 101, 102, 103, 104, 105, 59, 60, 61, 62, 106, 107, 108, 109, 55, 56, 57, 58, 44, 45, 46, 47, 16, 17, 110, 111, 112, 113, 114, 6, 115, 116, 117, 118, 119, 120, 121, 122, 0, 3, 5, 11, 12, 13, 14, 15, 18, 19, 20, 21, 22, 24, 25, 26, 27, 28, 29, 30, 31, 32, 33, 36, 37, 38, 39, 40, 63, 64, 65, 66, 67, 68, 69, 70, 71, 72, 123, 124, 125, 126, 127, 128, 129, 130, 131, 132, 133, 134, 135, 136, 137, 138, 139, 140, 141, 142, 143, 144, 145, 146, 147, 148, 149, 150, 151, 152, 153, 154, 155, 156, 157, 158, 159, 160, 161, 162, 163, 164, 165, 166, 167, 168, 169, 170, 171, 172, 173, 174, 175, 176, 177, 178, 179, 180, 181, 182, 183, 184, 185, 186, 187, 188, 189, 190, 191, 192, 193, 194, 195, 196, 197, 198, 199, 200, 201, 202, 203, 204, 205, 206, 207, 208, 209, 210, 211, 212, 213, 214, 215, 216, 217, 218, 219, 220, 221, 222, 223, 224, 225, 226, 227, 228, 229, 230, 231, 232, 233, 234] rfl (by decide +kernel)
set_option maxRecDepth 20000 in
theorem gX3_layAtom_X3_layFence : GoodIn wsX3_layAtom (wsV RX3 112 RX3 yX3_layFence wsX3_layFence) := goodIn_app (goodIn_of _ (by decide +kernel)) ggX3_layAtom_X3_layFence
set_option maxRecDepth 20000 in
theorem ggX3_layAtom_X3_layMatrix : GoodIn wsX3_layAtom wsX3_layMatrix := goodIn_r _ [158, 4, 74, 75, 78, 79, 80, 81, 159, 160, 161, 23, 162, 34, 163, 164, 86, 87, 88, 41, 42, 43, 165, 166, 167, 168, 1, 76, 169, 170, 171, 172, 173, 174, 175, 176, 77, 89, 90, 91, 177, 178, 179, 180, 35, 7, 8, 9, 10, 181, 182, 183, 184, 110, 111, 112, 113, 2, 114, 6, 115, 116, 117, 51, 118, 119, 53, 120, 121, 122, 54, 44, 45, 46, 47, 16, 17, 0, 3, 5, 11, 12, 13, 14, 15, 18, 19, 20, 21, 22, 24, 25, 26, 27, 28, 29, 30, 31, 32, 33, 36, 37, 38, 39, 40, 48, 49, 50, 52, 55, 56, 57, 58, 59, 60, 61, 62, 63, 64, 65, 66, 67, 68, 69, 70, 71, 72, 73, 82, 83, 84, 85, 92, 93, 94, 95, 96, 97, 98, 99, 100, 101, 102, 103, 104, 105, 106, 107, 108, 109, 123, 124, 125, 126, 127, 128, 129, 130, 131, 132, 133, 134, 135, 136, 137, 138, 139, 140, 141, 142, 143, 144, 145, 146, 147, 148, 149, 150, 151, 152, 153, 154, 155, 156, 157, 185, 186, 187, 188, 189, 190, 191, 192, 193, 194, 195, 196, 197, 198, 199, 200, 201, 202, 203, 204, 205, 206, 207, 208, 209, 210, 211, 212, 213, 214, 215, 216, 217, 218, 219, 220, 221, 222, 223, 224, 225, 226, 227, 228, 229, 230, 231, 232, 233, 234] rfl (by decide +kernel)
set_option maxRecDepth 20000 in
theorem gX3_layAtom_X3_layMatrix : GoodIn wsX3_layAtom (wsV RX3 115 RX3 yX3_layMatrix wsX3_layMatrix) := goodIn_app (goodIn_of _ (by decide +kernel)) ggX3_layAtom_X3_layMatrix
set_option maxRecDepth 20000 in
theorem ggX3_layAtom_X3_laySign : GoodIn wsX3_layAtom wsX3_laySign := goodIn_r _ [33, 4, 34, 1, 35, 2, 36, 37, 38, 23, 39, 40, 41, 42, 43, 7, 8, 9, 10, 44, 45, 46, 47, 16, 17, 48, 49, 50, 51, 52, 53, 54, 55, 56, 57, 58, 59, 60, 61, 62, 208, 209, 210, 211, 212, 213, 216, 217, 218, 219, 220, 221, 222, 223, 224, 225, 226, 227, 228, 229, 230, 231, 232, 233, 234, 214, 215] rfl (by decide +kernel)
set_option maxRecDepth 20000 in
theorem gX3_layAtom_X3_laySign : GoodIn wsX3_layAtom (wsV RX3 118 RX3 yX3_laySign wsX3_laySign) := goodIn_app (goodIn_of _ (by decide +kernel)) ggX3_layAtom_X3_laySign
