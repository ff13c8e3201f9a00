set_option maxRecDepth 20000 in
theorem ggX5_widthOf_X5_measureList : GoodIn wsX5_widthOf wsX5_measureList := goodIn_r _ [6, 7, 8, 9, 10, 11, 1, 12, 13, 14, 15, 16, 5, 17, 18, 19, 20, 21, 22, 23, 24, 25, 26, 27, 28, 29, 30, 31, 32, 33, 34, 35, 36, 37, 38, 39, 40, 41, 42, 43, 44, 45, 46, 47, 48, 49, 50, 51, 52, 2, 3, 4, 53, 54, 55, 56, 57, 58, 59, 60, 61, 62, 63, 64, 65, 66, 67, 68, 69, 70, 71, 72, 73, 74, 75, 76, 77, 78, 79, 80, 81, 82, 83, 84, 85, 86, 87, 88, 89, 90, 91, 92, 93, 94, 95, 96, 97, 98, 99, 100, 101, 102, 103, 104, 105, 106, 107, 108, 109, 110, 111, 112, 113, 114, 115] rfl (by decide +kernel)
set_option maxRecDepth 20000 in
theorem gX5_widthOf_X5_measureList : GoodIn wsX5_widthOf (wsV RX5 117 RX5 yX5_measureList wsX5_measureList) := goodIn_app (goodIn_of _ (by decide +kernel)) ggX5_widthOf_X5_measureList
set_option maxRecDepth 20000 in
theorem ggX5_placeFraction_X5_unit : GoodIn wsX5_placeFraction wsX5_unit := goodIn_r _ [10] rfl (by decide +kernel)
set_option maxRecDepth 20000 in
theorem gX5_placeFraction_X5_unit : GoodIn wsX5_placeFraction (va_wsS RX5 93 yX5_unit wsX5_unit) := goodIn_app (goodIn_of _ (by decide +kernel)) ggX5_placeFraction_X5_unit
set_option maxRecDepth 20000 in
theorem ggX5_placeFraction_X5_half : GoodIn wsX5_placeFraction wsX5_half := goodIn_r _ [13] rfl (by decide +kernel)
set_option maxRecDepth 20000 in
theorem gX5_placeFraction_X5_half : GoodIn wsX5_placeFraction (va_wsS RX5 108 yX5_half wsX5_half) := goodIn_app (goodIn_of _ (by decide +kernel)) ggX5_placeFraction_X5_half
set_option maxRecDepth 20000 in
theorem ggX5_placeFraction_X5_measureFraction : GoodIn wsX5_placeFraction wsX5_measureFraction := goodIn_r _ [17, 1, 5, 2, 18, 19, 6, 3, 4, 7, 8, 9, 10, 11, 12, 13, 20, 21, 22, 23, 24, 25, 26, 27, 28, 29, 30, 31, 32, 33, 34, 35, 36, 37, 38, 39, 40, 41, 42, 43, 44, 45, 46, 47, 48, 49, 50, 51, 52, 53, 54, 55, 56, 57, 58, 59, 60, 61, 62, 63, 64, 65, 66, 67, 68, 69, 70, 71, 72, 73, 74, 75, 76, 77, 78, 79, 80, 81, 82, 83, 84, 14, 15, 16, 85, 86, 87, 88, 89, 90, 124, 125, 126, 127, 128, 129, 130, 131, 132, 133, 134, 135, 136, 137, 138, 139, 140, 141, 142, 143, 144, 145, 146, 147, 148] rfl (by decide +kernel)
set_option maxRecDepth 20000 in
theorem gX5_placeFraction_X5_measureFraction : GoodIn wsX5_placeFraction (wsV RX5 143 RX5 yX5_measureFraction wsX5_measureFraction) := goodIn_app (goodIn_of _ (by decide +kernel)) ggX5_placeFraction_X5_measureFraction
set_option maxRecDepth 20000 in
theorem ggX5_placeFraction_X5_partLevel : GoodIn wsX5_placeFraction wsX5_partLevel := goodIn_r _ [22] rfl (by decide +kernel)
set_option maxRecDepth 20000 in
theorem gX5_placeFraction_X5_partLevel : GoodIn wsX5_placeFraction (va_wsS RX5 114 yX5_partLevel wsX5_partLevel) := goodIn_app (goodIn_of _ (by decide +kernel)) ggX5_placeFraction_X5_partLevel
set_option maxRecDepth 20000 in
theorem ggX5_placeFraction_X5_widthOf : GoodIn wsX5_placeFraction wsX5_widthOf := goodIn_r _ [94, 2, 23, 24, 25, 9, 57, 58, 59, 60, 5, 6, 19, 18, 61, 62, 63, 64, 36, 65, 66, 67, 68, 69, 70, 71, 72, 73, 74, 75, 76, 77, 7, 8, 10, 26, 27, 28, 29, 30, 31, 32, 33, 34, 35, 3, 4, 37, 38, 39, 40, 41, 42, 11, 12, 13, 43, 1, 44, 45, 46, 47, 48, 49, 50, 51, 52, 53, 54, 55, 56, 17, 20, 21, 22, 78, 79, 80, 81, 82, 83, 84, 14, 15, 16, 85, 86, 87, 88, 89, 90, 124, 125, 126, 127, 128, 129, 130, 131, 132, 133, 134, 135, 136, 137, 138, 139, 140, 141, 142, 143, 144, 145, 146, 147, 148] rfl (by decide +kernel)
set_option maxRecDepth 20000 in
theorem gX5_placeFraction_X5_widthOf : GoodIn wsX5_placeFraction (wsV RX5 169 RX5 yX5_widthOf wsX5_widthOf) := goodIn_app (goodIn_of _ (by decide +kernel)) ggX5_placeFraction_X5_widthOf
set_option maxRecDepth 20000 in
theorem ggX5_placeFraction_X5_placeList : GoodIn wsX5_placeFraction wsX5_placeList := goodIn_r _ [109, 58, 59, 60, 5, 6, 2, 61, 62, 63, 9, 64, 36, 65, 66, 67, 68, 72, 73, 74, 75, 76, 77, 7, 8, 10, 110, 111, 112, 69, 70, 71, 33, 34, 35, 19, 18, 3, 4, 37, 38, 39, 40, 41, 42, 23, 24, 25, 26, 27, 28, 11, 12, 13, 29, 30, 31, 32, 43, 1, 44, 45, 46, 47, 48, 49, 50, 51, 52, 53, 54, 55, 56, 17, 20, 21, 22, 57, 78, 79, 80, 81, 82, 83, 84, 14, 15, 16, 85, 86, 87, 88, 89, 90, 104, 105, 106, 107, 91, 92, 93, 94, 95, 96, 97, 108, 98, 99, 100, 101, 102, 103, 0, 113, 114, 115, 116, 117, 118, 119, 120, 121, 122, 123, 124, 125, 126, 127, 128, 129, 130, 131, 132, 133, 134, 135, 136, 137, 138, 139, 140, 141, 142, 143, 144, 145, 146, 147, 148] rfl (by decide +kernel)
set_option maxRecDepth 20000 in
theorem gX5_placeFraction_X5_placeList : GoodIn wsX5_placeFraction (wsV RX5 173 RX5 yX5_placeList wsX5_placeList) := goodIn_app (goodIn_of _ (by decide +kernel)) ggX5_placeFraction_X5_placeList
set_option maxRecDepth 20000 in
theorem ggX5_placeFraction_X5_put : GoodIn wsX5_placeFraction wsX5_put := goodIn_r _ [101, 102, 103, 124, 125, 126, 127, 128, 129, 130, 131, 132, 133, 134, 135, 136, 137, 138, 139, 140, 141, 142, 143, 144, 145, 146, 147, 148] rfl (by decide +kernel)
set_option maxRecDepth 20000 in
theorem gX5_placeFraction_X5_put : GoodIn wsX5_placeFraction (wsV RX5 177 RX5 yX5_put wsX5_put) := goodIn_app (goodIn_of _ (by decide +kernel)) ggX5_placeFraction_X5_put
set_option maxRecDepth 20000 in
theorem ggX5_placeFence_X5_measureList : GoodIn wsX5_placeFence wsX5_measureList := goodIn_r _ [9, 10, 11, 12, 3, 1, 2, 13, 14, 15, 16, 17, 8, 18, 19, 20, 21, 22, 23, 24, 25, 26, 27, 28, 29, 30, 31, 32, 33, 34, 35, 36, 37, 38, 39, 40, 41, 42, 43, 44, 45, 46, 47, 48, 49, 50, 51, 52, 53, 5, 6, 7, 54, 55, 56, 57, 4, 58, 59, 60, 61, 62, 63, 64, 65, 66, 67, 68, 69, 70, 71, 72, 73, 74, 75, 76, 77, 78, 79, 80, 81, 82, 83, 84, 85, 86, 87, 88, 89, 90, 124, 125, 126, 127, 128, 129, 130, 131, 132, 133, 134, 135, 136, 137, 138, 139, 140, 141, 142, 143, 144, 145, 146, 147, 148] rfl (by decide +kernel)
set_option maxRecDepth 20000 in
theorem gX5_placeFence_X5_measureList : GoodIn wsX5_placeFence (wsV RX5 117 RX5 yX5_measureList wsX5_measureList) := goodIn_app (goodIn_of _ (by decide +kernel)) ggX5_placeFence_X5_measureList
set_option maxRecDepth 20000 in
theorem ggX5_placeFence_X5_need : GoodIn wsX5_placeFence wsX5_need := goodIn_r _ [61, 13, 14, 33, 34, 8, 35, 36, 37, 38, 124, 125, 126, 127, 128, 129, 130, 131, 132, 133, 134, 135, 136, 137, 138, 139, 140, 141, 142, 143, 144, 145, 146, 147, 148] rfl (by decide +kernel)
set_option maxRecDepth 20000 in
theorem gX5_placeFence_X5_need : GoodIn wsX5_placeFence (wsV RX5 131 RX5 yX5_need wsX5_need) := goodIn_app (goodIn_of _ (by decide +kernel)) ggX5_placeFence_X5_need
set_option maxRecDepth 20000 in
theorem ggX5_placeFence_X5_stepOf : GoodIn wsX5_placeFence wsX5_stepOf := goodIn_r _ [67, 68, 69, 8, 70, 33, 34, 35] rfl (by decide +kernel)
set_option maxRecDepth 20000 in
theorem gX5_placeFence_X5_stepOf : GoodIn wsX5_placeFence (va_wsS RX5 137 yX5_stepOf wsX5_stepOf) := goodIn_app (goodIn_of _ (by decide +kernel)) ggX5_placeFence_X5_stepOf
set_option maxRecDepth 20000 in
theorem ggX5_placeFence_X5_tall : GoodIn wsX5_placeFence wsX5_tall := goodIn_r _ [70, 33, 34, 8, 35] rfl (by decide +kernel)
set_option maxRecDepth 20000 in
theorem gX5_placeFence_X5_tall : GoodIn wsX5_placeFence (va_wsS RX5 105 yX5_tall wsX5_tall) := goodIn_app (goodIn_of _ (by decide +kernel)) ggX5_placeFence_X5_tall
set_option maxRecDepth 20000 in
theorem ggX5_placeFence_X5_delimiterWidth : GoodIn wsX5_placeFence wsX5_delimiterWidth := goodIn_r _ [64, 33, 34, 8, 35, 54, 55, 56] rfl (by decide +kernel)
set_option maxRecDepth 20000 in
theorem gX5_placeFence_X5_delimiterWidth : GoodIn wsX5_placeFence (va_wsS RX5 134 yX5_delimiterWidth wsX5_delimiterWidth) := goodIn_app (goodIn_of _ (by decide +kernel)) ggX5_placeFence_X5_delimiterWidth
set_option maxRecDepth 20000 in
theorem ggX5_placeFence_X5_put : GoodIn wsX5_placeFence wsX5_put := goodIn_r _ [94, 95, 96, 124, 125, 126, 127, 128, 129, 130, 131, 132, 133, 134, 135, 136, 137, 138, 139, 140, 141, 142, 143, 144, 145, 146, 147, 148] rfl (by decide +kernel)
set_option maxRecDepth 20000 in
theorem gX5_placeFence_X5_put : GoodIn wsX5_placeFence (wsV RX5 177 RX5 yX5_put wsX5_put) := goodIn_app (goodIn_of _ (by decide +kernel)) ggX5_placeFence_X5_put
set_option maxRecDepth 20000 in
theorem ggX5_placeFence_X5_placeList : GoodIn wsX5_placeFence wsX5_placeList := goodIn_r _ [109, 10, 11, 12, 3, 1, 2, 15, 16, 17, 8, 18, 19, 20, 21, 22, 23, 27, 28, 29, 30, 31, 32, 33, 34, 35, 110, 111, 112, 24, 25, 26, 43, 44, 45, 13, 14, 46, 47, 48, 49, 50, 51, 52, 53, 5, 6, 7, 36, 37, 38, 54, 55, 56, 39, 40, 41, 42, 57, 4, 58, 59, 60, 61, 62, 63, 64, 65, 66, 67, 68, 69, 70, 71, 72, 73, 74, 9, 75, 76, 77, 78, 79, 80, 81, 82, 83, 84, 85, 86, 87, 88, 89, 90, 100, 101, 102, 103, 104, 105, 106, 107, 97, 98, 99, 0, 91, 92, 93, 94, 95, 96, 108, 113, 114, 115, 116, 117, 118, 119, 120, 121, 122, 123, 124, 125, 126, 127, 128, 129, 130, 131, 132, 133, 134, 135, 136, 137, 138, 139, 140, 141, 142, 143, 144, 145, 146, 147, 148] rfl (by decide +kernel)
set_option maxRecDepth 20000 in
theorem gX5_placeFence_X5_placeList : GoodIn wsX5_placeFence (wsV RX5 173 RX5 yX5_placeList wsX5_placeList) := goodIn_app (goodIn_of _ (by decide +kernel)) ggX5_placeFence_X5_placeList
set_option maxRecDepth 20000 in
theorem ggX5_placeMatrix_X5_measureMatrix : GoodIn wsX5_placeMatrix wsX5_measureMatrix := goodIn_r _ [9, 2, 3, 1, 4, 10, 11, 12, 13, 14, 8, 15, 16, 17, 18, 19, 20, 21, 22, 23, 24, 25, 26, 27, 28, 29, 30, 31, 32, 33, 34, 35, 36, 37, 38, 39, 40, 41, 42, 43, 44, 45, 46, 47, 48, 49, 50, 51, 52, 53, 54, 55, 56, 57, 58, 59, 60, 61, 62, 63, 64, 65, 66, 67, 68, 69, 70, 71, 72, 73, 74, 75, 76, 77, 78, 79, 80, 81, 82, 83, 84, 85, 86, 87, 88, 89, 90, 5, 6, 7, 124, 125, 126, 127, 128, 129, 130, 131, 132, 133, 134, 135, 136, 137, 138, 139, 140, 141, 142, 143, 144, 145, 146, 147, 148] rfl (by decide +kernel)
set_option maxRecDepth 20000 in
theorem gX5_placeMatrix_X5_measureMatrix : GoodIn wsX5_placeMatrix (wsV RX5 149 RX5 yX5_measureMatrix wsX5_measureMatrix) := goodIn_app (goodIn_of _ (by decide +kernel)) ggX5_placeMatrix_X5_measureMatrix
set_option maxRecDepth 20000 in
theorem ggX5_placeMatrix_X5_unit : GoodIn wsX5_placeMatrix wsX5_unit := goodIn_r _ [15] rfl (by decide +kernel)
set_option maxRecDepth 20000 in
theorem gX5_placeMatrix_X5_unit : GoodIn wsX5_placeMatrix (va_wsS RX5 93 yX5_unit wsX5_unit) := goodIn_app (goodIn_of _ (by decide +kernel)) ggX5_placeMatrix_X5_unit
set_option maxRecDepth 20000 in
theorem ggX5_placeMatrix_X5_widthOf : GoodIn wsX5_placeMatrix wsX5_widthOf := goodIn_r _ [94, 10, 16, 17, 18, 8, 60, 61, 62, 63, 2, 3, 11, 12, 64, 65, 66, 67, 32, 68, 69, 70, 71, 72, 73, 74, 75, 76, 77, 78, 79, 80, 13, 14, 15, 19, 20, 21, 25, 26, 27, 28, 29, 30, 31, 33, 34, 35, 36, 37, 38, 39, 40, 22, 23, 24, 41, 42, 43, 44, 45, 46, 47, 48, 49, 50, 51, 52, 53, 54, 55, 56, 57, 58, 59, 9, 1, 4, 81, 82, 83, 84, 85, 86, 87, 88, 89, 90, 5, 6, 7, 124, 125, 126, 127, 128, 129, 130, 131, 132, 133, 134, 135, 136, 137, 138, 139, 140, 141, 142, 143, 144, 145, 146, 147, 148] rfl (by decide +kernel)
set_option maxRecDepth 20000 in
theorem gX5_placeMatrix_X5_widthOf : GoodIn wsX5_placeMatrix (wsV RX5 169 RX5 yX5_widthOf wsX5_widthOf) := goodIn_app (goodIn_of _ (by decide +kernel)) ggX5_placeMatrix_X5_widthOf
set_option maxRecDepth 20000 in
theorem ggX5_placeMatrix_X5_half : GoodIn wsX5_placeMatrix wsX5_half := goodIn_r _ [24] rfl (by decide +kernel)
set_option maxRecDepth 20000 in
theorem gX5_placeMatrix_X5_half : GoodIn wsX5_placeMatrix (va_wsS RX5 108 yX5_half wsX5_half) := goodIn_app (goodIn_of _ (by decide +kernel)) ggX5_placeMatrix_X5_half
set_option maxRecDepth 20000 in
theorem ggX5_placeMatrix_X5_placeList : GoodIn wsX5_placeMatrix wsX5_placeList := goodIn_r _ [110, 61, 62, 63, 2, 3, 10, 64, 65, 66, 8, 67, 32, 68, 69, 70, 71, 75, 76, 77, 78, 79, 80, 13, 14, 15, 111, 112, 113, 72, 73, 74, 29, 30, 31, 11, 12, 33, 34, 35, 36, 37, 38, 39, 40, 16, 17, 18, 19, 20, 21, 22, 23, 24, 25, 26, 27, 28, 41, 42, 43, 44, 45, 46, 47, 48, 49, 50, 51, 52, 53, 54, 55, 56, 57, 58, 59, 60, 9, 1, 4, 81, 82, 83, 84, 85, 86, 87, 88, 89, 90, 5, 6, 7, 98, 99, 100, 101, 91, 92, 93, 94, 95, 96, 97, 102, 103, 104, 105, 106, 107, 108, 109, 0, 114, 115, 116, 117, 118, 119, 120, 121, 122, 123, 124, 125, 126, 127, 128, 129, 130, 131, 132, 133, 134, 135, 136, 137, 138, 139, 140, 141, 142, 143, 144, 145, 146, 147, 148] rfl (by decide +kernel)
set_option maxRecDepth 20000 in
theorem gX5_placeMatrix_X5_placeList : GoodIn wsX5_placeMatrix (wsV RX5 173 RX5 yX5_placeList wsX5_placeList) := goodIn_app (goodIn_of _ (by decide +kernel)) ggX5_placeMatrix_X5_placeList
set_option maxRecDepth 20000 in
theorem ggX5_placeNucleus_X5_signSize : GoodIn wsX5_placeNucleus wsX5_signSize := goodIn_r _ [7, 8, 9, 6, 10] rfl (by decide +kernel)
set_option maxRecDepth 20000 in
theorem gX5_placeNucleus_X5_signSize : GoodIn wsX5_placeNucleus (va_wsS RX5 140 yX5_signSize wsX5_signSize) := goodIn_app (goodIn_of _ (by decide +kernel)) ggX5_placeNucleus_X5_signSize
set_option maxRecDepth 20000 in
theorem ggX5_placeNucleus_X5_put : GoodIn wsX5_placeNucleus wsX5_put := goodIn_r _ [14, 15, 16, 124, 125, 126, 127, 128, 129, 130, 131, 132, 133, 134, 135, 136, 137, 138, 139, 140, 141, 142, 143, 144, 145, 146, 147, 148] rfl (by decide +kernel)
set_option maxRecDepth 20000 in
theorem gX5_placeNucleus_X5_put : GoodIn wsX5_placeNucleus (wsV RX5 177 RX5 yX5_put wsX5_put) := goodIn_app (goodIn_of _ (by decide +kernel)) ggX5_placeNucleus_X5_put
set_option maxRecDepth 20000 in
theorem ggX5_placeNucleus_X5_placeFraction : GoodIn wsX5_placeNucleus wsX5_placeFraction := goodIn_r _ [118, 59, 27, 28, 29, 3, 58, 8, 9, 6, 10, 50, 51, 52, 98, 99, 100, 73, 37, 36, 74, 75, 76, 44, 45, 46, 47, 48, 49, 53, 54, 55, 56, 35, 30, 31, 2, 38, 39, 40, 41, 42, 43, 57, 60, 61, 62, 63, 64, 65, 66, 67, 68, 69, 70, 71, 72, 77, 78, 79, 1, 80, 81, 82, 83, 84, 85, 86, 87, 32, 33, 34, 88, 89, 90, 91, 92, 93, 94, 95, 96, 97, 4, 5, 7, 101, 102, 103, 104, 105, 106, 110, 111, 112, 113, 114, 115, 116, 11, 12, 13, 14, 15, 16, 26, 107, 108, 109, 117, 119, 120, 121, 122, 123, 0, 17, 18, 19, 20, 21, 22, 23, 24, 25, 124, 125, 126, 127, 128, 129, 130, 131, 132, 133, 134, 135, 136, 137, 138, 139, 140, 141, 142, 143, 144, 145, 146, 147, 148] rfl (by decide +kernel)
set_option maxRecDepth 20000 in
theorem gX5_placeNucleus_X5_placeFraction : GoodIn wsX5_placeNucleus (wsV RX5 181 RX5 yX5_placeFraction wsX5_placeFraction) := goodIn_app (goodIn_of _ (by decide +kernel)) ggX5_placeNucleus_X5_placeFraction
set_option maxRecDepth 20000 in
theorem ggX5_placeNucleus_X5_placeFence : GoodIn wsX5_placeNucleus wsX5_placeFence := goodIn_r _ [117, 58, 27, 3, 59, 44, 45, 46, 6, 77, 78, 79, 1, 36, 37, 80, 81, 82, 83, 2, 84, 85, 86, 87, 32, 33, 34, 88, 89, 90, 91, 92, 93, 8, 9, 10, 47, 48, 49, 53, 54, 55, 56, 35, 30, 31, 28, 29, 38, 39, 40, 41, 42, 43, 50, 51, 52, 57, 60, 61, 62, 63, 64, 65, 66, 67, 68, 69, 70, 71, 72, 73, 74, 75, 76, 94, 95, 96, 97, 4, 5, 7, 98, 99, 100, 101, 102, 103, 104, 105, 106, 11, 12, 13, 14, 15, 16, 114, 115, 116, 26, 107, 108, 109, 110, 111, 112, 113, 118, 119, 120, 121, 122, 123, 0, 17, 18, 19, 20, 21, 22, 23, 24, 25, 124, 125, 126, 127, 128, 129, 130, 131, 132, 133, 134, 135, 136, 137, 138, 139, 140, 141, 142, 143, 144, 145, 146, 147, 148] rfl (by decide +kernel)
set_option maxRecDepth 20000 in
theorem gX5_placeNucleus_X5_placeFence : GoodIn wsX5_placeNucleus (wsV RX5 184 RX5 yX5_placeFence wsX5_placeFence) := goodIn_app (goodIn_of _ (by decide +kernel)) ggX5_placeNucleus_X5_placeFence
set_option maxRecDepth 20000 in
theorem ggX5_placeNucleus_X5_placeMatrix : GoodIn wsX5_placeNucleus wsX5_placeMatrix := goodIn_r _ [123, 95, 3, 58, 96, 104, 105, 106, 6, 94, 27, 36, 37, 8, 9, 10, 44, 45, 46, 47, 48, 49, 50, 51, 52, 53, 54, 55, 56, 35, 30, 31, 2, 28, 29, 38, 39, 40, 41, 42, 43, 57, 59, 60, 61, 62, 63, 64, 65, 66, 67, 68, 69, 70, 71, 72, 73, 74, 75, 76, 77, 78, 79, 1, 80, 81, 82, 83, 84, 85, 86, 87, 32, 33, 34, 88, 89, 90, 91, 92, 93, 97, 4, 5, 7, 98, 99, 100, 101, 102, 103, 110, 111, 112, 113, 114, 115, 116, 26, 107, 108, 109, 117, 11, 12, 13, 14, 15, 16, 118, 119, 120, 121, 122, 0, 17, 18, 19, 20, 21, 22, 23, 24, 25, 124, 125, 126, 127, 128, 129, 130, 131, 132, 133, 134, 135, 136, 137, 138, 139, 140, 141, 142, 143, 144, 145, 146, 147, 148] rfl (by decide +kernel)
set_option maxRecDepth 20000 in
theorem gX5_placeNucleus_X5_placeMatrix : GoodIn wsX5_placeNucleus (wsV RX5 187 RX5 yX5_placeMatrix wsX5_placeMatrix) := goodIn_app (goodIn_of _ (by decide +kernel)) ggX5_placeNucleus_X5_placeMatrix
set_option maxRecDepth 20000 in
theorem ggX5_placeAtom_X5_measureAtom : GoodIn wsX5_placeAtom wsX5_measureAtom := goodIn_r _ [11, 4, 5, 1, 12, 13, 6, 2, 3, 14, 15, 16, 10, 17, 18, 19, 20, 21, 22, 23, 24, 25, 26, 27, 28, 29, 30, 31, 32, 33, 34, 35, 36, 37, 38, 39, 40, 41, 42, 43, 44, 45, 46, 47, 48, 49, 50, 51, 52, 53, 54, 55, 56, 57, 58, 59, 60, 61, 62, 63, 64, 65, 66, 67, 68, 7, 8, 9, 69, 70, 71, 72, 73, 74, 75, 76, 77, 78, 79, 80, 81, 82, 83, 84, 85, 86, 87, 88, 89, 90, 124, 125, 126, 127, 128, 129, 130, 131, 132, 133, 134, 135, 136, 137, 138, 139, 140, 141, 142, 143, 144, 145, 146, 147, 148] rfl (by decide +kernel)
set_option maxRecDepth 20000 in
theorem gX5_placeAtom_X5_measureAtom : GoodIn wsX5_placeAtom (wsV RX5 159 RX5 yX5_measureAtom wsX5_measureAtom) := goodIn_app (goodIn_of _ (by decide +kernel)) ggX5_placeAtom_X5_measureAtom
set_option maxRecDepth 20000 in
theorem ggX5_placeAtom_X5_measureNucleus : GoodIn wsX5_placeAtom wsX5_measureNucleus := goodIn_r _ [78, 60, 6, 38, 79, 80, 10, 81, 17, 18, 19, 32, 33, 34, 35, 1, 12, 13, 82, 83, 84, 85, 86, 87, 88, 89, 90, 11, 4, 5, 2, 3, 14, 15, 16, 20, 21, 22, 23, 24, 25, 26, 27, 28, 29, 30, 31, 36, 37, 39, 40, 41, 42, 43, 44, 45, 46, 47, 48, 49, 50, 51, 52, 53, 54, 55, 56, 57, 58, 59, 61, 62, 63, 64, 65, 66, 67, 68, 7, 8, 9, 69, 70, 71, 72, 73, 74, 75, 76, 77, 124, 125, 126, 127, 128, 129, 130, 131, 132, 133, 134, 135, 136, 137, 138, 139, 140, 141, 142, 143, 144, 145, 146, 147, 148] rfl (by decide +kernel)
set_option maxRecDepth 20000 in
theorem gX5_placeAtom_X5_measureNucleus : GoodIn wsX5_placeAtom (wsV RX5 153 RX5 yX5_measureNucleus wsX5_measureNucleus) := goodIn_app (goodIn_of _ (by decide +kernel)) ggX5_placeAtom_X5_measureNucleus
set_option maxRecDepth 20000 in
theorem ggX5_placeAtom_X5_scriptLevel : GoodIn wsX5_placeAtom wsX5_scriptLevel := goodIn_r _ [22] rfl (by decide +kernel)
set_option maxRecDepth 20000 in
theorem gX5_placeAtom_X5_scriptLevel : GoodIn wsX5_placeAtom (va_wsS RX5 156 yX5_scriptLevel wsX5_scriptLevel) := goodIn_app (goodIn_of _ (by decide +kernel)) ggX5_placeAtom_X5_scriptLevel
set_option maxRecDepth 20000 in
theorem ggX5_placeAtom_X5_half : GoodIn wsX5_placeAtom wsX5_half := goodIn_r _ [31] rfl (by decide +kernel)
set_option maxRecDepth 20000 in
theorem gX5_placeAtom_X5_half : GoodIn wsX5_placeAtom (va_wsS RX5 108 yX5_half wsX5_half) := goodIn_app (goodIn_of _ (by decide +kernel)) ggX5_placeAtom_X5_half
set_option maxRecDepth 20000 in
theorem ggX5_placeAtom_X5_placeNucleus : GoodIn wsX5_placeAtom wsX5_placeNucleus := goodIn_r _ [114, 60, 6, 38, 79, 80, 10, 81, 17, 18, 19, 102, 103, 104, 105, 106, 107, 115, 116, 117, 118, 119, 120, 121, 122, 123, 0, 1, 2, 3, 4, 5, 7, 8, 9, 11, 12, 13, 14, 15, 16, 20, 21, 22, 23, 24, 25, 26, 27, 28, 29, 30, 31, 32, 33, 34, 35, 36, 37, 39, 40, 41, 42, 43, 44, 45, 46, 47, 48, 49, 50, 51, 52, 53, 54, 55, 56, 57, 58, 59, 61, 62, 63, 64, 65, 66, 67, 68, 69, 70, 71, 72, 73, 74, 75, 76, 77, 78, 82, 83, 84, 85, 86, 87, 88, 89, 90, 91, 92, 93, 94, 95, 96, 97, 98, 99, 100, 101, 108, 109, 110, 111, 112, 113, 124, 125, 126, 127, 128, 129, 130, 131, 132, 133, 134, 135, 136, 137, 138, 139, 140, 141, 142, 143, 144, 145, 146, 147, 148] rfl (by decide +kernel)
set_option maxRecDepth 20000 in
theorem gX5_placeAtom_X5_placeNucleus : GoodIn wsX5_placeAtom (wsV RX5 191 RX5 yX5_placeNucleus wsX5_placeNucleus) := goodIn_app (goodIn_of _ (by decide +kernel)) ggX5_placeAtom_X5_placeNucleus
