set_option maxRecDepth 20000 in
theorem ggX3_layFraction_X3_place : GoodIn wsX3_layFraction wsX3_place := goodIn_r _ [31, 13, 5, 32, 33, 12, 11, 34, 35, 36, 37, 38, 39, 8, 9, 10, 40, 41, 42, 43, 44, 45, 46, 47, 23, 48, 49, 50, 208, 209, 210, 211, 212, 213, 230, 231, 232, 233, 234, 214, 215] rfl (by decide +kernel)
set_option maxRecDepth 20000 in
theorem gX3_layFraction_X3_place : GoodIn wsX3_layFraction (wsV RX3 167 RX3 yX3_place wsX3_place) := goodIn_app (goodIn_of _ (by decide +kernel)) ggX3_layFraction_X3_place
set_option maxRecDepth 20000 in
theorem ggX3_layFraction_X2_add : GoodIn wsX3_layFraction wsX2_add := goodIn_r _ [54, 40, 44, 214, 215] rfl (by decide +kernel)
set_option maxRecDepth 20000 in
theorem gX3_layFraction_X2_add : GoodIn wsX3_layFraction (wsV RX3 134 RX2 yX2_add wsX2_add) := goodIn_app (goodIn_of _ (by decide +kernel)) ggX3_layFraction_X2_add
set_option maxRecDepth 20000 in
theorem ggX3_layFraction_X2_measure : GoodIn wsX3_layFraction wsX2_measure := goodIn_r _ [58, 44, 59, 60, 61, 37, 62, 40, 214, 215] rfl (by decide +kernel)
set_option maxRecDepth 20000 in
theorem gX3_layFraction_X2_measure : GoodIn wsX3_layFraction (wsV RX3 137 RX2 yX2_measure wsX2_measure) := goodIn_app (goodIn_of _ (by decide +kernel)) ggX3_layFraction_X2_measure
set_option maxRecDepth 20000 in
theorem ggX3_layFraction_X2_shift : GoodIn wsX3_layFraction wsX2_shift := goodIn_r _ [38, 39, 8, 9, 10, 40, 41, 42, 43, 44, 214, 215] rfl (by decide +kernel)
set_option maxRecDepth 20000 in
theorem gX3_layFraction_X2_shift : GoodIn wsX3_layFraction (wsV RX3 102 RX2 yX2_shift wsX2_shift) := goodIn_app (goodIn_of _ (by decide +kernel)) ggX3_layFraction_X2_shift
set_option maxRecDepth 20000 in
theorem ggX3_layFraction_X1_cover : GoodIn wsX3_layFraction wsX1_cover := goodIn_r _ [48, 49, 50, 230, 231, 232, 233, 234] rfl (by decide +kernel)
set_option maxRecDepth 20000 in
theorem gX3_layFraction_X1_cover : GoodIn wsX3_layFraction (wsV RX3 106 RX1 yX1_cover wsX1_cover) := goodIn_app (goodIn_of _ (by decide +kernel)) ggX3_layFraction_X1_cover
set_option maxRecDepth 20000 in
theorem ggX3_layFence_X3_addDelimiter : GoodIn wsX3_layFence wsX3_addDelimiter := goodIn_r _ [18, 13, 19, 20, 21, 22, 23, 24, 25, 208, 209, 210, 211, 212, 213, 214, 215] rfl (by decide +kernel)
set_option maxRecDepth 20000 in
theorem gX3_layFence_X3_addDelimiter : GoodIn wsX3_layFence (wsV RX3 176 RX3 yX3_addDelimiter wsX3_addDelimiter) := goodIn_app (goodIn_of _ (by decide +kernel)) ggX3_layFence_X3_addDelimiter
set_option maxRecDepth 20000 in
theorem ggX3_layFence_X3_layList : GoodIn wsX3_layFence wsX3_layList := goodIn_r _ [124, 5, 13, 86, 1, 125, 126, 87, 3, 2, 76, 88, 89, 90, 37, 91, 92, 69, 70, 93, 94, 127, 128, 129, 17, 130, 131, 132, 116, 133, 134, 135, 136, 137, 138, 139, 140, 141, 142, 143, 144, 145, 146, 147, 148, 30, 149, 150, 151, 152, 153, 33, 34, 154, 155, 156, 157, 12, 75, 6, 7, 35, 36, 38, 77, 78, 79, 22, 80, 81, 9, 10, 11, 24, 82, 83, 84, 25, 65, 66, 67, 68, 85, 95, 96, 97, 98, 99, 100, 101, 102, 103, 104, 105, 106, 107, 108, 109, 110, 111, 112, 19, 20, 21, 23, 61, 62, 63, 64, 53, 54, 55, 56, 113, 114, 115, 117, 118, 119, 120, 121, 122, 0, 4, 8, 14, 15, 16, 18, 26, 27, 28, 29, 31, 32, 39, 40, 41, 42, 43, 44, 45, 46, 47, 48, 49, 50, 51, 52, 57, 58, 59, 60, 71, 72, 73, 74, 123, 158, 159, 160, 161, 162, 163, 164, 165, 166, 167, 168, 169, 170, 171, 172, 173, 174, 175, 176, 177, 178, 179, 180, 181, 182, 183, 184, 185, 186, 187, 188, 189, 190, 191, 192, 193, 194, 195, 196, 197, 198, 199, 200, 201, 202, 203, 204, 205, 206, 207, 208, 209, 210, 211, 212, 213, 214, 215, 216, 217, 218, 219, 220, 221, 222, 223, 224, 225, 226, 227, 228, 229, 230, 231, 232, 233, 234] rfl (by decide +kernel)
set_option maxRecDepth 20000 in
theorem gX3_layFence_X3_layList : GoodIn wsX3_layFence (wsV RX3 42 RX3 yX3_layList wsX3_layList) := goodIn_app (goodIn_of _ (by decide +kernel)) ggX3_layFence_X3_layList
set_option maxRecDepth 20000 in
theorem ggX3_layFence_X4_axis : GoodIn wsX3_layFence wsX4_axis := goodIn_r _ [31, 32, 33, 30, 34] rfl (by decide +kernel)
set_option maxRecDepth 20000 in
theorem gX3_layFence_X4_axis_n173 : GoodIn wsX3_layFence (wsX4_axis) := ggX3_layFence_X4_axis
set_option maxRecDepth 20000 in
theorem ggX3_layFence_X1_ofAtom : GoodIn wsX3_layFence wsX1_ofAtom := goodIn_r _ [38] rfl (by decide +kernel)
set_option maxRecDepth 20000 in
theorem gX3_layFence_X1_ofAtom : GoodIn wsX3_layFence (va_wsS RX3 96 yX1_ofAtom wsX1_ofAtom) := goodIn_app (goodIn_of _ (by decide +kernel)) ggX3_layFence_X1_ofAtom
set_option maxRecDepth 20000 in
theorem ggX3_layFence_X3_setDelimiter : GoodIn wsX3_layFence wsX3_setDelimiter := goodIn_r _ [42, 13, 5, 33, 30, 34, 43, 44, 17, 45, 46, 47, 48, 49, 50, 51, 22, 52, 25, 53, 54, 55, 56, 24, 57, 58, 59, 60, 61, 62, 63, 64, 29, 31, 32, 65, 66, 67, 37, 68, 69, 70, 208, 209, 210, 211, 212, 213, 214, 215, 230, 231, 232, 233, 234] rfl (by decide +kernel)
set_option maxRecDepth 20000 in
theorem gX3_layFence_X3_setDelimiter : GoodIn wsX3_layFence (wsV RX3 179 RX3 yX3_setDelimiter wsX3_setDelimiter) := goodIn_app (goodIn_of _ (by decide +kernel)) ggX3_layFence_X3_setDelimiter
set_option maxRecDepth 20000 in
theorem ggX3_layFence_X3_place : GoodIn wsX3_layFence wsX3_place := goodIn_r _ [74, 13, 5, 75, 76, 6, 7, 77, 78, 79, 22, 80, 81, 9, 10, 11, 24, 82, 83, 84, 25, 65, 66, 67, 37, 68, 69, 70, 208, 209, 210, 211, 212, 213, 230, 231, 232, 233, 234, 214, 215] rfl (by decide +kernel)
set_option maxRecDepth 20000 in
theorem gX3_layFence_X3_place : GoodIn wsX3_layFence (wsV RX3 167 RX3 yX3_place wsX3_place) := goodIn_app (goodIn_of _ (by decide +kernel)) ggX3_layFence_X3_place
set_option maxRecDepth 20000 in
theorem ggX3_layFence_X2_shift : GoodIn wsX3_layFence wsX2_shift := goodIn_r _ [80, 81, 9, 10, 11, 24, 82, 83, 84, 25, 214, 215] rfl (by decide +kernel)
set_option maxRecDepth 20000 in
theorem gX3_layFence_X2_shift : GoodIn wsX3_layFence (wsV RX3 102 RX2 yX2_shift wsX2_shift) := goodIn_app (goodIn_of _ (by decide +kernel)) ggX3_layFence_X2_shift
set_option maxRecDepth 20000 in
theorem ggX3_addDelimiter_X2_add : GoodIn wsX3_addDelimiter wsX2_add := goodIn_r _ [6, 7, 8, 15, 16] rfl (by decide +kernel)
set_option maxRecDepth 20000 in
theorem gX3_addDelimiter_X2_add : GoodIn wsX3_addDelimiter (wsV RX3 134 RX2 yX2_add wsX2_add) := goodIn_app (goodIn_of _ (by decide +kernel)) ggX3_addDelimiter_X2_add
set_option maxRecDepth 20000 in
theorem ggX3_setDelimiter_X4_unit : GoodIn wsX3_setDelimiter wsX4_unit := goodIn_r _ [5] rfl (by decide +kernel)
set_option maxRecDepth 20000 in
theorem gX3_setDelimiter_X4_unit_n85 : GoodIn wsX3_setDelimiter (wsX4_unit) := ggX3_setDelimiter_X4_unit
set_option maxRecDepth 20000 in
theorem ggX3_setDelimiter_X3_reaches : GoodIn wsX3_setDelimiter wsX3_reaches := goodIn_r _ [9, 10, 11, 8, 12] rfl (by decide +kernel)
set_option maxRecDepth 20000 in
theorem gX3_setDelimiter_X3_reaches : GoodIn wsX3_setDelimiter (va_wsS RX3 183 yX3_reaches wsX3_reaches) := goodIn_app (goodIn_of _ (by decide +kernel)) ggX3_setDelimiter_X3_reaches
set_option maxRecDepth 20000 in
theorem ggX3_setDelimiter_X2_markShort : GoodIn wsX3_setDelimiter wsX2_markShort := goodIn_r _ [17, 18, 19, 20, 21, 16, 22, 23, 48, 49] rfl (by decide +kernel)
set_option maxRecDepth 20000 in
theorem gX3_setDelimiter_X2_markShort : GoodIn wsX3_setDelimiter (wsV RX3 187 RX2 yX2_markShort wsX2_markShort) := goodIn_app (goodIn_of _ (by decide +kernel)) ggX3_setDelimiter_X2_markShort
set_option maxRecDepth 20000 in
theorem ggX3_setDelimiter_X2_part : GoodIn wsX3_setDelimiter wsX2_part := goodIn_r _ [27, 18, 19, 20, 21, 16, 22, 23, 48, 49] rfl (by decide +kernel)
set_option maxRecDepth 20000 in
theorem gX3_setDelimiter_X2_part : GoodIn wsX3_setDelimiter (wsV RX3 191 RX2 yX2_part wsX2_part) := goodIn_app (goodIn_of _ (by decide +kernel)) ggX3_setDelimiter_X2_part
set_option maxRecDepth 20000 in
theorem ggX3_setDelimiter_X2_measure : GoodIn wsX3_setDelimiter wsX2_measure := goodIn_r _ [31, 18, 19, 20, 21, 16, 22, 23, 48, 49] rfl (by decide +kernel)
set_option maxRecDepth 20000 in
theorem gX3_setDelimiter_X2_measure : GoodIn wsX3_setDelimiter (wsV RX3 137 RX2 yX2_measure wsX2_measure) := goodIn_app (goodIn_of _ (by decide +kernel)) ggX3_setDelimiter_X2_measure
set_option maxRecDepth 20000 in
theorem ggX3_setDelimiter_X3_stepHeight : GoodIn wsX3_setDelimiter wsX3_stepHeight := goodIn_r _ [12] rfl (by decide +kernel)
set_option maxRecDepth 20000 in
theorem gX3_setDelimiter_X3_stepHeight : GoodIn wsX3_setDelimiter (va_wsS RX3 194 yX3_stepHeight wsX3_stepHeight) := goodIn_app (goodIn_of _ (by decide +kernel)) ggX3_setDelimiter_X3_stepHeight
set_option maxRecDepth 20000 in
theorem ggX3_setDelimiter_X4_axis : GoodIn wsX3_setDelimiter wsX4_axis := goodIn_r _ [33, 34, 3, 4, 5] rfl (by decide +kernel)
set_option maxRecDepth 20000 in
theorem gX3_setDelimiter_X4_axis_n173 : GoodIn wsX3_setDelimiter (wsX4_axis) := ggX3_setDelimiter_X4_axis
set_option maxRecDepth 20000 in
theorem ggX3_setDelimiter_X1_cover : GoodIn wsX3_setDelimiter wsX1_cover := goodIn_r _ [39, 40, 41, 50, 51, 52, 53, 54] rfl (by decide +kernel)
set_option maxRecDepth 20000 in
theorem gX3_setDelimiter_X1_cover : GoodIn wsX3_setDelimiter (wsV RX3 106 RX1 yX1_cover wsX1_cover) := goodIn_app (goodIn_of _ (by decide +kernel)) ggX3_setDelimiter_X1_cover
set_option maxRecDepth 20000 in
theorem ggX3_reaches_X3_stepHeight : GoodIn wsX3_reaches wsX3_stepHeight := goodIn_r _ [4] rfl (by decide +kernel)
set_option maxRecDepth 20000 in
theorem gX3_reaches_X3_stepHeight : GoodIn wsX3_reaches (va_wsS RX3 194 yX3_stepHeight wsX3_stepHeight) := goodIn_app (goodIn_of _ (by decide +kernel)) ggX3_reaches_X3_stepHeight
set_option maxRecDepth 20000 in
theorem ggX3_layMatrix_X3_cellAt : GoodIn wsX3_layMatrix wsX3_cellAt := goodIn_r _ [12, 1, 13, 14, 15, 208, 209, 210, 211, 212, 213, 216, 217, 218, 219, 220, 221, 222, 223, 224, 225, 226, 227, 228, 229] rfl (by decide +kernel)
set_option maxRecDepth 20000 in
theorem gX3_layMatrix_X3_cellAt : GoodIn wsX3_layMatrix (wsV RX3 197 RX3 yX3_cellAt wsX3_cellAt) := goodIn_app (goodIn_of _ (by decide +kernel)) ggX3_layMatrix_X3_cellAt
set_option maxRecDepth 20000 in
theorem ggX3_layMatrix_X3_layList : GoodIn wsX3_layMatrix wsX3_layList := goodIn_r _ [151, 26, 57, 78, 1, 152, 153, 79, 13, 2, 59, 80, 81, 82, 47, 83, 84, 75, 76, 85, 86, 154, 155, 156, 11, 157, 158, 159, 120, 160, 161, 162, 163, 164, 165, 166, 167, 168, 169, 170, 171, 172, 173, 174, 175, 20, 176, 177, 178, 179, 180, 19, 21, 181, 182, 183, 184, 44, 58, 27, 36, 45, 46, 48, 60, 61, 62, 63, 64, 65, 5, 6, 7, 66, 67, 68, 69, 70, 71, 72, 73, 74, 77, 87, 88, 89, 90, 91, 92, 93, 94, 95, 96, 97, 98, 99, 100, 101, 102, 103, 104, 105, 106, 107, 108, 109, 110, 111, 112, 113, 114, 115, 116, 117, 118, 119, 121, 122, 123, 124, 125, 126, 127, 3, 4, 128, 129, 130, 131, 16, 17, 18, 37, 38, 39, 132, 133, 134, 135, 136, 137, 138, 139, 140, 141, 142, 143, 144, 145, 146, 147, 148, 149, 53, 54, 55, 56, 150, 0, 8, 9, 10, 12, 14, 15, 22, 23, 24, 25, 28, 29, 30, 31, 32, 33, 34, 35, 40, 41, 42, 43, 49, 50, 51, 52, 185, 186, 187, 188, 189, 190, 191, 192, 193, 194, 195, 196, 197, 198, 199, 200, 201, 202, 203, 204, 205, 206, 207, 208, 209, 210, 211, 212, 213, 214, 215, 216, 217, 218, 219, 220, 221, 222, 223, 224, 225, 226, 227, 228, 229, 230, 231, 232, 233, 234] rfl (by decide +kernel)
set_option maxRecDepth 20000 in
theorem gX3_layMatrix_X3_layList : GoodIn wsX3_layMatrix (wsV RX3 42 RX3 yX3_layList wsX3_layList) := goodIn_app (goodIn_of _ (by decide +kernel)) ggX3_layMatrix_X3_layList
set_option maxRecDepth 20000 in
theorem ggX3_layMatrix_X4_unit : GoodIn wsX3_layMatrix wsX4_unit := goodIn_r _ [21] rfl (by decide +kernel)
set_option maxRecDepth 20000 in
theorem gX3_layMatrix_X4_unit_n85 : GoodIn wsX3_layMatrix (wsX4_unit) := ggX3_layMatrix_X4_unit
set_option maxRecDepth 20000 in
theorem ggX3_layMatrix_X3_rowHeight : GoodIn wsX3_layMatrix wsX3_rowHeight := goodIn_r _ [25, 26, 27, 28, 29, 30, 11, 31, 1, 3, 4, 5, 6, 7, 8, 9, 10, 12, 13, 14, 15, 208, 209, 210, 211, 212, 213, 230, 231, 232, 233, 234, 216, 217, 218, 219, 220, 221, 222, 223, 224, 225, 226, 227, 228, 229] rfl (by decide +kernel)
set_option maxRecDepth 20000 in
theorem gX3_layMatrix_X3_rowHeight : GoodIn wsX3_layMatrix (wsV RX3 200 RX3 yX3_rowHeight wsX3_rowHeight) := goodIn_app (goodIn_of _ (by decide +kernel)) ggX3_layMatrix_X3_rowHeight
set_option maxRecDepth 20000 in
theorem ggX3_layMatrix_X3_rowDepth : GoodIn wsX3_layMatrix wsX3_rowDepth := goodIn_r _ [35, 26, 36, 28, 29, 30, 11, 31, 1, 3, 4, 5, 6, 7, 8, 9, 10, 12, 13, 14, 15, 208, 209, 210, 211, 212, 213, 230, 231, 232, 233, 234, 216, 217, 218, 219, 220, 221, 222, 223, 224, 225, 226, 227, 228, 229] rfl (by decide +kernel)
set_option maxRecDepth 20000 in
theorem gX3_layMatrix_X3_rowDepth : GoodIn wsX3_layMatrix (wsV RX3 203 RX3 yX3_rowDepth wsX3_rowDepth) := goodIn_app (goodIn_of _ (by decide +kernel)) ggX3_layMatrix_X3_rowDepth
set_option maxRecDepth 20000 in
theorem ggX3_layMatrix_X4_axis : GoodIn wsX3_layMatrix wsX4_axis := goodIn_r _ [38, 39, 19, 20, 21] rfl (by decide +kernel)
set_option maxRecDepth 20000 in
theorem gX3_layMatrix_X4_axis_n173 : GoodIn wsX3_layMatrix (wsX4_axis) := ggX3_layMatrix_X4_axis
set_option maxRecDepth 20000 in
theorem ggX3_layMatrix_X3_placeRow : GoodIn wsX3_layMatrix wsX3_placeRow := goodIn_r _ [43, 1, 3, 26, 44, 45, 46, 47, 48, 8, 9, 10, 11, 12, 13, 14, 15, 49, 50, 51, 52, 2, 4, 5, 6, 7, 53, 54, 55, 56, 57, 58, 59, 27, 36, 60, 61, 62, 63, 64, 65, 66, 67, 68, 69, 70, 71, 72, 73, 74, 75, 76, 208, 209, 210, 211, 212, 213, 216, 217, 218, 219, 220, 221, 222, 223, 224, 225, 226, 227, 228, 229, 230, 231, 232, 233, 234, 214, 215] rfl (by decide +kernel)
set_option maxRecDepth 20000 in
theorem gX3_layMatrix_X3_placeRow : GoodIn wsX3_layMatrix (wsV RX3 206 RX3 yX3_placeRow wsX3_placeRow) := goodIn_app (goodIn_of _ (by decide +kernel)) ggX3_layMatrix_X3_placeRow
set_option maxRecDepth 20000 in
theorem ggX3_placeRow_X1_ofAtom : GoodIn wsX3_placeRow wsX1_ofAtom := goodIn_r _ [8] rfl (by decide +kernel)
set_option maxRecDepth 20000 in
theorem gX3_placeRow_X1_ofAtom : GoodIn wsX3_placeRow (va_wsS RX3 96 yX1_ofAtom wsX1_ofAtom) := goodIn_app (goodIn_of _ (by decide +kernel)) ggX3_placeRow_X1_ofAtom
