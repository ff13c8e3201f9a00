set_option maxRecDepth 20000 in
theorem ggX3_layAtom_X0_scriptsOf : GoodIn wsX3_layAtom wsX0_scriptsOf := goodIn_r _ [67, 68, 69, 216, 217, 218, 219, 220, 221, 222, 223, 224, 225, 226, 227, 228, 229] rfl (by decide +kernel)
set_option maxRecDepth 20000 in
theorem gX3_layAtom_X0_scriptsOf : GoodIn wsX3_layAtom (wsV RX3 121 RX0 yX0_scriptsOf wsX0_scriptsOf) := goodIn_app (goodIn_of _ (by decide +kernel)) ggX3_layAtom_X0_scriptsOf
set_option maxRecDepth 20000 in
theorem ggX3_layAtom_X3_layScripts : GoodIn wsX3_layAtom wsX3_layScripts := goodIn_r _ [185, 4, 186, 187, 86, 87, 88, 23, 36, 37, 38, 39, 40, 41, 42, 43, 188, 189, 190, 191, 1, 35, 78, 79, 80, 81, 76, 77, 2, 114, 6, 7, 8, 9, 10, 192, 193, 194, 195, 15, 196, 197, 198, 199, 17, 200, 201, 202, 203, 16, 115, 116, 117, 51, 118, 119, 53, 120, 121, 122, 54, 110, 111, 112, 113, 44, 45, 46, 47, 204, 205, 206, 207, 0, 3, 5, 11, 12, 13, 14, 18, 19, 20, 21, 22, 24, 25, 26, 27, 28, 29, 30, 31, 32, 33, 34, 48, 49, 50, 52, 55, 56, 57, 58, 59, 60, 61, 62, 63, 64, 65, 66, 67, 68, 69, 70, 71, 72, 73, 74, 75, 82, 83, 84, 85, 89, 90, 91, 92, 93, 94, 95, 96, 97, 98, 99, 100, 101, 102, 103, 104, 105, 106, 107, 108, 109, 123, 124, 125, 126, 127, 128, 129, 130, 131, 132, 133, 134, 135, 136, 137, 138, 139, 140, 141, 142, 143, 144, 145, 146, 147, 148, 149, 150, 151, 152, 153, 154, 155, 156, 157, 158, 159, 160, 161, 162, 163, 164, 165, 166, 167, 168, 169, 170, 171, 172, 173, 174, 175, 176, 177, 178, 179, 180, 181, 182, 183, 184, 208, 209, 210, 211, 212, 213, 214, 215, 216, 217, 218, 219, 220, 221, 222, 223, 224, 225, 226, 227, 228, 229, 230, 231, 232, 233, 234] rfl (by decide +kernel)
set_option maxRecDepth 20000 in
theorem gX3_layAtom_X3_layScripts : GoodIn wsX3_layAtom (wsV RX3 124 RX3 yX3_layScripts wsX3_layScripts) := goodIn_app (goodIn_of _ (by decide +kernel)) ggX3_layAtom_X3_layScripts
set_option maxRecDepth 20000 in
theorem ggX3_laySign_X3_isBigOperator : GoodIn wsX3_laySign wsX3_isBigOperator := goodIn_r _ [10, 1, 11, 40, 41, 42, 43, 44, 45, 46, 47, 48, 49, 50, 51, 52, 53, 54, 55, 56, 57, 58, 59] rfl (by decide +kernel)
set_option maxRecDepth 20000 in
theorem gX3_laySign_X3_isBigOperator : GoodIn wsX3_laySign (wsV RX3 130 RX3 yX3_isBigOperator wsX3_isBigOperator) := goodIn_app (goodIn_of _ (by decide +kernel)) ggX3_laySign_X3_isBigOperator
set_option maxRecDepth 20000 in
theorem ggX3_laySign_X4_unit : GoodIn wsX3_laySign wsX4_unit := goodIn_r _ [14] rfl (by decide +kernel)
set_option maxRecDepth 20000 in
theorem gX3_laySign_X4_unit_n85 : GoodIn wsX3_laySign (wsX4_unit) := ggX3_laySign_X4_unit
set_option maxRecDepth 20000 in
theorem ggX3_laySign_X1_ofAtom : GoodIn wsX3_laySign wsX1_ofAtom := goodIn_r _ [18] rfl (by decide +kernel)
set_option maxRecDepth 20000 in
theorem gX3_laySign_X1_ofAtom : GoodIn wsX3_laySign (va_wsS RX3 96 yX1_ofAtom wsX1_ofAtom) := goodIn_app (goodIn_of _ (by decide +kernel)) ggX3_laySign_X1_ofAtom
set_option maxRecDepth 20000 in
theorem ggX3_laySign_X1_cover : GoodIn wsX3_laySign wsX1_cover := goodIn_r _ [22, 23, 24, 60, 61, 62, 63, 64] rfl (by decide +kernel)
set_option maxRecDepth 20000 in
theorem gX3_laySign_X1_cover : GoodIn wsX3_laySign (wsV RX3 106 RX1 yX1_cover wsX1_cover) := goodIn_app (goodIn_of _ (by decide +kernel)) ggX3_laySign_X1_cover
set_option maxRecDepth 20000 in
theorem ggX3_laySign_X2_add : GoodIn wsX3_laySign wsX2_add := goodIn_r _ [29, 30, 31, 65, 66] rfl (by decide +kernel)
set_option maxRecDepth 20000 in
theorem gX3_laySign_X2_add : GoodIn wsX3_laySign (wsV RX3 134 RX2 yX2_add wsX2_add) := goodIn_app (goodIn_of _ (by decide +kernel)) ggX3_laySign_X2_add
set_option maxRecDepth 20000 in
theorem ggX3_laySign_X2_measure : GoodIn wsX3_laySign wsX2_measure := goodIn_r _ [35, 31, 36, 37, 38, 28, 39, 30, 65, 66] rfl (by decide +kernel)
set_option maxRecDepth 20000 in
theorem gX3_laySign_X2_measure : GoodIn wsX3_laySign (wsV RX3 137 RX2 yX2_measure wsX2_measure) := goodIn_app (goodIn_of _ (by decide +kernel)) ggX3_laySign_X2_measure
set_option maxRecDepth 20000 in
theorem ggX3_layScripts_X3_layList : GoodIn wsX3_layScripts wsX3_layList := goodIn_r _ [147, 20, 28, 74, 1, 148, 149, 75, 95, 119, 30, 76, 77, 78, 33, 79, 39, 49, 44, 80, 81, 150, 151, 152, 7, 153, 154, 155, 111, 156, 157, 158, 159, 160, 161, 162, 163, 164, 165, 166, 167, 168, 169, 170, 171, 14, 172, 173, 174, 175, 176, 13, 15, 177, 178, 179, 180, 21, 29, 26, 27, 31, 32, 34, 50, 51, 52, 53, 54, 55, 23, 24, 25, 56, 57, 58, 59, 60, 65, 66, 67, 68, 73, 82, 83, 84, 85, 86, 87, 88, 89, 90, 91, 92, 93, 94, 8, 9, 10, 11, 12, 96, 97, 98, 99, 100, 101, 102, 103, 104, 105, 106, 107, 108, 109, 110, 112, 113, 114, 115, 116, 117, 118, 120, 22, 121, 122, 123, 124, 4, 5, 6, 125, 126, 127, 128, 129, 130, 131, 132, 133, 134, 135, 136, 137, 138, 139, 140, 141, 142, 143, 144, 145, 61, 62, 63, 64, 146, 181, 182, 183, 184, 185, 186, 187, 188, 189, 190, 191, 192, 193, 194, 195, 196, 197, 198, 199, 200, 201, 202, 203, 204, 205, 206, 207, 0, 2, 3, 16, 17, 18, 19, 35, 36, 37, 38, 40, 41, 42, 43, 45, 46, 47, 48, 69, 70, 71, 72, 208, 209, 210, 211, 212, 213, 214, 215, 216, 217, 218, 219, 220, 221, 222, 223, 224, 225, 226, 227, 228, 229, 230, 231, 232, 233, 234] rfl (by decide +kernel)
set_option maxRecDepth 20000 in
theorem gX3_layScripts_X3_layList : GoodIn wsX3_layScripts (wsV RX3 42 RX3 yX3_layList wsX3_layList) := goodIn_app (goodIn_of _ (by decide +kernel)) ggX3_layScripts_X3_layList
set_option maxRecDepth 20000 in
theorem ggX3_layScripts_X3_isBigOperator : GoodIn wsX3_layScripts wsX3_isBigOperator := goodIn_r _ [11, 1, 12, 208, 209, 210, 211, 212, 213, 216, 217, 218, 219, 220, 221, 222, 223, 224, 225, 226, 227, 228, 229] rfl (by decide +kernel)
set_option maxRecDepth 20000 in
theorem gX3_layScripts_X3_isBigOperator : GoodIn wsX3_layScripts (wsV RX3 130 RX3 yX3_isBigOperator wsX3_isBigOperator) := goodIn_app (goodIn_of _ (by decide +kernel)) ggX3_layScripts_X3_isBigOperator
set_option maxRecDepth 20000 in
theorem ggX3_layScripts_X4_unit : GoodIn wsX3_layScripts wsX4_unit := goodIn_r _ [15] rfl (by decide +kernel)
set_option maxRecDepth 20000 in
theorem gX3_layScripts_X4_unit_n85 : GoodIn wsX3_layScripts (wsX4_unit) := ggX3_layScripts_X4_unit
set_option maxRecDepth 20000 in
theorem ggX3_layScripts_X3_placeLimits : GoodIn wsX3_layScripts wsX3_placeLimits := goodIn_r _ [19, 1, 2, 3, 20, 21, 22, 23, 24, 25, 26, 27, 28, 29, 30, 31, 32, 33, 34, 35, 36, 37, 38, 39, 40, 41, 42, 43, 44, 45, 46, 47, 48, 49, 50, 51, 52, 53, 54, 55, 56, 57, 58, 59, 60, 61, 62, 63, 7, 64, 65, 66, 67, 68, 208, 209, 210, 211, 212, 213, 216, 217, 218, 219, 220, 221, 222, 223, 224, 225, 226, 227, 228, 229, 230, 231, 232, 233, 234, 214, 215] rfl (by decide +kernel)
set_option maxRecDepth 20000 in
theorem gX3_layScripts_X3_placeLimits : GoodIn wsX3_layScripts (wsV RX3 146 RX3 yX3_placeLimits wsX3_placeLimits) := goodIn_app (goodIn_of _ (by decide +kernel)) ggX3_layScripts_X3_placeLimits
set_option maxRecDepth 20000 in
theorem ggX3_layScripts_X3_placeScripts : GoodIn wsX3_layScripts wsX3_placeScripts := goodIn_r _ [72, 1, 2, 3, 20, 26, 22, 23, 24, 25, 27, 21, 31, 32, 33, 34, 40, 41, 42, 43, 44, 45, 46, 47, 48, 49, 61, 62, 63, 7, 64, 28, 29, 30, 50, 51, 52, 53, 54, 55, 56, 57, 58, 59, 60, 65, 66, 67, 68, 35, 36, 37, 38, 39, 208, 209, 210, 211, 212, 213, 216, 217, 218, 219, 220, 221, 222, 223, 224, 225, 226, 227, 228, 229, 230, 231, 232, 233, 234, 214, 215] rfl (by decide +kernel)
set_option maxRecDepth 20000 in
theorem gX3_layScripts_X3_placeScripts : GoodIn wsX3_layScripts (wsV RX3 149 RX3 yX3_placeScripts wsX3_placeScripts) := goodIn_app (goodIn_of _ (by decide +kernel)) ggX3_layScripts_X3_placeScripts
set_option maxRecDepth 20000 in
theorem ggX3_placeLimits_X1_ofAtom : GoodIn wsX3_placeLimits wsX1_ofAtom := goodIn_r _ [18] rfl (by decide +kernel)
set_option maxRecDepth 20000 in
theorem gX3_placeLimits_X1_ofAtom : GoodIn wsX3_placeLimits (va_wsS RX3 96 yX1_ofAtom wsX1_ofAtom) := goodIn_app (goodIn_of _ (by decide +kernel)) ggX3_placeLimits_X1_ofAtom
set_option maxRecDepth 20000 in
theorem ggX3_placeLimits_X1_widthOf : GoodIn wsX3_placeLimits wsX1_widthOf := goodIn_r _ [22, 23, 74, 75, 76, 77, 78] rfl (by decide +kernel)
set_option maxRecDepth 20000 in
theorem gX3_placeLimits_X1_widthOf : GoodIn wsX3_placeLimits (wsV RX3 153 RX1 yX1_widthOf wsX1_widthOf) := goodIn_app (goodIn_of _ (by decide +kernel)) ggX3_placeLimits_X1_widthOf
set_option maxRecDepth 20000 in
theorem ggX3_placeLimits_X1_depthOf : GoodIn wsX3_placeLimits wsX1_depthOf := goodIn_r _ [27, 28, 74, 75, 76, 77, 78] rfl (by decide +kernel)
set_option maxRecDepth 20000 in
theorem gX3_placeLimits_X1_depthOf : GoodIn wsX3_placeLimits (wsV RX3 161 RX1 yX1_depthOf wsX1_depthOf) := goodIn_app (goodIn_of _ (by decide +kernel)) ggX3_placeLimits_X1_depthOf
set_option maxRecDepth 20000 in
theorem ggX3_placeLimits_X1_heightOf : GoodIn wsX3_placeLimits wsX1_heightOf := goodIn_r _ [32, 33, 74, 75, 76, 77, 78] rfl (by decide +kernel)
set_option maxRecDepth 20000 in
theorem gX3_placeLimits_X1_heightOf : GoodIn wsX3_placeLimits (wsV RX3 164 RX1 yX1_heightOf wsX1_heightOf) := goodIn_app (goodIn_of _ (by decide +kernel)) ggX3_placeLimits_X1_heightOf
set_option maxRecDepth 20000 in
theorem ggX3_placeLimits_X2_shift : GoodIn wsX3_placeLimits wsX2_shift := goodIn_r _ [38, 39, 7, 8, 9, 40, 41, 42, 43, 44, 79, 80] rfl (by decide +kernel)
set_option maxRecDepth 20000 in
theorem gX3_placeLimits_X2_shift : GoodIn wsX3_placeLimits (wsV RX3 102 RX2 yX2_shift wsX2_shift) := goodIn_app (goodIn_of _ (by decide +kernel)) ggX3_placeLimits_X2_shift
set_option maxRecDepth 20000 in
theorem ggX3_placeLimits_X3_place : GoodIn wsX3_placeLimits wsX3_place := goodIn_r _ [49, 12, 4, 13, 14, 10, 11, 34, 35, 36, 37, 38, 39, 7, 8, 9, 40, 41, 42, 43, 44, 50, 51, 52, 17, 53, 33, 28, 54, 55, 56, 57, 58, 59, 74, 75, 76, 77, 78, 79, 80] rfl (by decide +kernel)
set_option maxRecDepth 20000 in
theorem gX3_placeLimits_X3_place : GoodIn wsX3_placeLimits (wsV RX3 167 RX3 yX3_place wsX3_place) := goodIn_app (goodIn_of _ (by decide +kernel)) ggX3_placeLimits_X3_place
set_option maxRecDepth 20000 in
theorem ggX3_placeScripts_X1_ofAtom : GoodIn wsX3_placeScripts wsX1_ofAtom := goodIn_r _ [15] rfl (by decide +kernel)
set_option maxRecDepth 20000 in
theorem gX3_placeScripts_X1_ofAtom : GoodIn wsX3_placeScripts (va_wsS RX3 96 yX1_ofAtom wsX1_ofAtom) := goodIn_app (goodIn_of _ (by decide +kernel)) ggX3_placeScripts_X1_ofAtom
set_option maxRecDepth 20000 in
theorem ggX3_placeScripts_X1_depthOf : GoodIn wsX3_placeScripts wsX1_depthOf := goodIn_r _ [19, 20, 74, 75, 76, 77, 78] rfl (by decide +kernel)
set_option maxRecDepth 20000 in
theorem gX3_placeScripts_X1_depthOf : GoodIn wsX3_placeScripts (wsV RX3 161 RX1 yX1_depthOf wsX1_depthOf) := goodIn_app (goodIn_of _ (by decide +kernel)) ggX3_placeScripts_X1_depthOf
set_option maxRecDepth 20000 in
theorem ggX3_placeScripts_X1_heightOf : GoodIn wsX3_placeScripts wsX1_heightOf := goodIn_r _ [24, 25, 74, 75, 76, 77, 78] rfl (by decide +kernel)
set_option maxRecDepth 20000 in
theorem gX3_placeScripts_X1_heightOf : GoodIn wsX3_placeScripts (wsV RX3 164 RX1 yX1_heightOf wsX1_heightOf) := goodIn_app (goodIn_of _ (by decide +kernel)) ggX3_placeScripts_X1_heightOf
set_option maxRecDepth 20000 in
theorem ggX3_placeScripts_X3_place : GoodIn wsX3_placeScripts wsX3_place := goodIn_r _ [30, 31, 4, 32, 33, 5, 10, 34, 35, 36, 37, 38, 39, 7, 8, 9, 40, 41, 42, 43, 44, 45, 46, 47, 14, 48, 25, 20, 54, 55, 56, 57, 58, 59, 74, 75, 76, 77, 78, 79, 80] rfl (by decide +kernel)
set_option maxRecDepth 20000 in
theorem gX3_placeScripts_X3_place : GoodIn wsX3_placeScripts (wsV RX3 167 RX3 yX3_place wsX3_place) := goodIn_app (goodIn_of _ (by decide +kernel)) ggX3_placeScripts_X3_place
set_option maxRecDepth 20000 in
theorem ggX3_placeScripts_X1_widthOf : GoodIn wsX3_placeScripts wsX1_widthOf := goodIn_r _ [52, 53, 74, 75, 76, 77, 78] rfl (by decide +kernel)
set_option maxRecDepth 20000 in
theorem gX3_placeScripts_X1_widthOf : GoodIn wsX3_placeScripts (wsV RX3 153 RX1 yX1_widthOf wsX1_widthOf) := goodIn_app (goodIn_of _ (by decide +kernel)) ggX3_placeScripts_X1_widthOf
set_option maxRecDepth 20000 in
theorem ggX3_place_X2_shift : GoodIn wsX3_place wsX2_shift := goodIn_r _ [11, 12, 13, 14, 15, 16, 17, 18, 19, 20, 39, 40] rfl (by decide +kernel)
set_option maxRecDepth 20000 in
theorem gX3_place_X2_shift : GoodIn wsX3_place (wsV RX3 102 RX2 yX2_shift wsX2_shift) := goodIn_app (goodIn_of _ (by decide +kernel)) ggX3_place_X2_shift
set_option maxRecDepth 20000 in
theorem ggX3_place_X1_cover : GoodIn wsX3_place wsX1_cover := goodIn_r _ [25, 26, 27, 34, 35, 36, 37, 38] rfl (by decide +kernel)
set_option maxRecDepth 20000 in
theorem gX3_place_X1_cover : GoodIn wsX3_place (wsV RX3 106 RX1 yX1_cover wsX1_cover) := goodIn_app (goodIn_of _ (by decide +kernel)) ggX3_place_X1_cover
set_option maxRecDepth 20000 in
theorem ggX3_layFraction_X3_layList : GoodIn wsX3_layFraction wsX3_layList := goodIn_r _ [124, 5, 13, 64, 1, 125, 126, 65, 2, 3, 33, 66, 67, 68, 23, 69, 70, 49, 50, 71, 72, 127, 128, 129, 17, 130, 131, 132, 94, 133, 134, 135, 136, 137, 138, 139, 140, 141, 142, 143, 144, 145, 146, 147, 148, 19, 149, 150, 151, 152, 153, 18, 20, 154, 155, 156, 157, 6, 32, 12, 11, 21, 22, 24, 34, 35, 36, 37, 38, 39, 8, 9, 10, 40, 41, 42, 43, 44, 45, 46, 47, 48, 63, 73, 74, 75, 76, 77, 78, 79, 80, 81, 82, 83, 84, 85, 86, 87, 88, 89, 90, 51, 52, 53, 54, 55, 56, 57, 58, 59, 60, 61, 62, 91, 92, 93, 95, 96, 97, 98, 99, 100, 101, 4, 7, 102, 103, 104, 105, 14, 15, 16, 25, 26, 27, 106, 107, 108, 109, 110, 111, 112, 113, 114, 115, 116, 117, 118, 119, 120, 121, 122, 123, 28, 29, 30, 31, 0, 158, 159, 160, 161, 162, 163, 164, 165, 166, 167, 168, 169, 170, 171, 172, 173, 174, 175, 176, 177, 178, 179, 180, 181, 182, 183, 184, 185, 186, 187, 188, 189, 190, 191, 192, 193, 194, 195, 196, 197, 198, 199, 200, 201, 202, 203, 204, 205, 206, 207, 208, 209, 210, 211, 212, 213, 214, 215, 216, 217, 218, 219, 220, 221, 222, 223, 224, 225, 226, 227, 228, 229, 230, 231, 232, 233, 234] rfl (by decide +kernel)
set_option maxRecDepth 20000 in
theorem gX3_layFraction_X3_layList : GoodIn wsX3_layFraction (wsV RX3 42 RX3 yX3_layList wsX3_layList) := goodIn_app (goodIn_of _ (by decide +kernel)) ggX3_layFraction_X3_layList
set_option maxRecDepth 20000 in
theorem ggX3_layFraction_X4_unit : GoodIn wsX3_layFraction wsX4_unit := goodIn_r _ [20] rfl (by decide +kernel)
set_option maxRecDepth 20000 in
theorem gX3_layFraction_X4_unit_n85 : GoodIn wsX3_layFraction (wsX4_unit) := ggX3_layFraction_X4_unit
set_option maxRecDepth 20000 in
theorem ggX3_layFraction_X1_ofAtom : GoodIn wsX3_layFraction wsX1_ofAtom := goodIn_r _ [24] rfl (by decide +kernel)
set_option maxRecDepth 20000 in
theorem gX3_layFraction_X1_ofAtom : GoodIn wsX3_layFraction (va_wsS RX3 96 yX1_ofAtom wsX1_ofAtom) := goodIn_app (goodIn_of _ (by decide +kernel)) ggX3_layFraction_X1_ofAtom
set_option maxRecDepth 20000 in
theorem ggX3_layFraction_X4_axis : GoodIn wsX3_layFraction wsX4_axis := goodIn_r _ [26, 27, 18, 19, 20] rfl (by decide +kernel)
set_option maxRecDepth 20000 in
theorem gX3_layFraction_X4_axis_n173 : GoodIn wsX3_layFraction (wsX4_axis) := ggX3_layFraction_X4_axis
