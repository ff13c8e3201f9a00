set_option maxRecDepth 20000 in
theorem ggX5_fraction_X5_isList : GoodIn wsX5_fraction wsX5_isList := goodIn_r _ [9, 10, 36, 37, 38, 39, 40, 41, 42, 43, 44, 45, 46, 47, 48, 49, 50, 51, 52, 53, 54, 55, 56, 57, 58, 59, 60] rfl (by decide +kernel)
set_option maxRecDepth 20000 in
theorem gX5_fraction_X5_isList : GoodIn wsX5_fraction (wsV RX5 67 RX5 yX5_isList wsX5_isList) := goodIn_app (goodIn_of _ (by decide +kernel)) ggX5_fraction_X5_isList
set_option maxRecDepth 20000 in
theorem ggX5_fraction_X5_mayTake : GoodIn wsX5_fraction wsX5_mayTake := goodIn_r _ [14, 15, 16, 17, 18, 8, 19, 4, 20, 21, 22, 23, 24, 36, 37, 38, 39, 40, 41, 42, 43, 44, 45, 46, 47, 48, 49, 50, 51, 52, 53, 54, 55, 56, 57, 58, 59, 60] rfl (by decide +kernel)
set_option maxRecDepth 20000 in
theorem gX5_fraction_X5_mayTake : GoodIn wsX5_fraction (wsV RX5 79 RX5 yX5_mayTake wsX5_mayTake) := goodIn_app (goodIn_of _ (by decide +kernel)) ggX5_fraction_X5_mayTake
set_option maxRecDepth 20000 in
theorem ggX5_fraction_X5_add : GoodIn wsX5_fraction wsX5_add := goodIn_r _ [28, 3, 24, 15, 29, 30, 31, 32, 33, 34, 35, 36, 37, 38, 39, 40, 41, 42, 43, 44, 45, 46, 47, 48, 49, 50, 51, 52, 53, 54, 55, 56, 57, 58, 59, 60] rfl (by decide +kernel)
set_option maxRecDepth 20000 in
theorem gX5_fraction_X5_add : GoodIn wsX5_fraction (wsV RX5 59 RX5 yX5_add wsX5_add) := goodIn_app (goodIn_of _ (by decide +kernel)) ggX5_fraction_X5_add
set_option maxRecDepth 20000 in
theorem ggX5_fence_X5_isList : GoodIn wsX5_fence wsX5_isList := goodIn_r _ [8, 9, 35, 36, 37, 38, 39, 40, 41, 42, 43, 44, 45, 46, 47, 48, 49, 50, 51, 52, 53, 54, 55, 56, 57, 58, 59] rfl (by decide +kernel)
set_option maxRecDepth 20000 in
theorem gX5_fence_X5_isList : GoodIn wsX5_fence (wsV RX5 67 RX5 yX5_isList wsX5_isList) := goodIn_app (goodIn_of _ (by decide +kernel)) ggX5_fence_X5_isList
set_option maxRecDepth 20000 in
theorem ggX5_fence_X5_mayTake : GoodIn wsX5_fence wsX5_mayTake := goodIn_r _ [13, 14, 15, 16, 17, 7, 18, 3, 19, 20, 21, 22, 23, 35, 36, 37, 38, 39, 40, 41, 42, 43, 44, 45, 46, 47, 48, 49, 50, 51, 52, 53, 54, 55, 56, 57, 58, 59] rfl (by decide +kernel)
set_option maxRecDepth 20000 in
theorem gX5_fence_X5_mayTake : GoodIn wsX5_fence (wsV RX5 79 RX5 yX5_mayTake wsX5_mayTake) := goodIn_app (goodIn_of _ (by decide +kernel)) ggX5_fence_X5_mayTake
set_option maxRecDepth 20000 in
theorem ggX5_fence_X5_add : GoodIn wsX5_fence wsX5_add := goodIn_r _ [27, 2, 23, 14, 28, 29, 30, 31, 32, 33, 34, 35, 36, 37, 38, 39, 40, 41, 42, 43, 44, 45, 46, 47, 48, 49, 50, 51, 52, 53, 54, 55, 56, 57, 58, 59] rfl (by decide +kernel)
set_option maxRecDepth 20000 in
theorem gX5_fence_X5_add : GoodIn wsX5_fence (wsV RX5 59 RX5 yX5_add wsX5_add) := goodIn_app (goodIn_of _ (by decide +kernel)) ggX5_fence_X5_add
set_option maxRecDepth 20000 in
theorem ggX5_matrix_X5_isFree : GoodIn wsX5_matrix wsX5_isFree := goodIn_r _ [11, 6, 28, 29, 30, 31, 32, 33, 34, 35, 36, 37, 38, 39, 40, 41, 42, 43, 44, 45, 46, 47, 48, 49, 50, 51, 52] rfl (by decide +kernel)
set_option maxRecDepth 20000 in
theorem gX5_matrix_X5_isFree : GoodIn wsX5_matrix (wsV RX5 70 RX5 yX5_isFree wsX5_isFree) := goodIn_app (goodIn_of _ (by decide +kernel)) ggX5_matrix_X5_isFree
set_option maxRecDepth 20000 in
theorem ggX5_matrix_X5_isWithin : GoodIn wsX5_matrix wsX5_isWithin := goodIn_r _ [15, 6, 16, 28, 29, 30, 31, 32, 33, 34, 35, 36, 37, 38, 39, 40, 41, 42, 43, 44, 45, 46, 47, 48, 49, 50, 51, 52] rfl (by decide +kernel)
set_option maxRecDepth 20000 in
theorem gX5_matrix_X5_isWithin : GoodIn wsX5_matrix (wsV RX5 73 RX5 yX5_isWithin wsX5_isWithin) := goodIn_app (goodIn_of _ (by decide +kernel)) ggX5_matrix_X5_isWithin
set_option maxRecDepth 20000 in
theorem ggX5_matrix_X5_add : GoodIn wsX5_matrix wsX5_add := goodIn_r _ [20, 1, 16, 4, 21, 22, 23, 24, 25, 26, 27, 28, 29, 30, 31, 32, 33, 34, 35, 36, 37, 38, 39, 40, 41, 42, 43, 44, 45, 46, 47, 48, 49, 50, 51, 52] rfl (by decide +kernel)
set_option maxRecDepth 20000 in
theorem gX5_matrix_X5_add : GoodIn wsX5_matrix (wsV RX5 59 RX5 yX5_add wsX5_add) := goodIn_app (goodIn_of _ (by decide +kernel)) ggX5_matrix_X5_add
set_option maxRecDepth 20000 in
theorem ggX5_style_X5_add : GoodIn wsX5_style wsX5_add := goodIn_r _ [7, 1, 8, 9, 10, 11, 12, 13, 14, 15, 16, 17, 18, 19, 20, 21, 22, 23, 24, 25, 26, 27, 28, 29, 30, 31, 32, 33, 34, 35, 36, 37, 38, 39, 40, 41] rfl (by decide +kernel)
set_option maxRecDepth 20000 in
theorem gX5_style_X5_add : GoodIn wsX5_style (wsV RX5 59 RX5 yX5_add wsX5_add) := goodIn_app (goodIn_of _ (by decide +kernel)) ggX5_style_X5_add
set_option maxRecDepth 20000 in
theorem ggX5_countsAs_X5_nextAtom : GoodIn wsX5_countsAs wsX5_nextAtom := goodIn_r _ [7, 8, 1, 9, 10, 11, 12, 13, 14, 15, 16, 17, 18, 19, 20, 21, 22, 23, 24, 25, 26, 27, 28, 29, 30, 31, 32, 33, 34] rfl (by decide +kernel)
set_option maxRecDepth 20000 in
theorem gX5_countsAs_X5_nextAtom : GoodIn wsX5_countsAs (wsV RX5 82 RX5 yX5_nextAtom wsX5_nextAtom) := goodIn_app (goodIn_of _ (by decide +kernel)) ggX5_countsAs_X5_nextAtom
set_option maxRecDepth 20000 in
theorem ggX5_kind_X5_isAtom : GoodIn wsX5_kind wsX5_isAtom := goodIn_r _ [6, 7, 8, 19, 20, 21, 22, 23, 24, 25, 26, 27, 28, 29, 30, 31, 32, 33, 34, 35, 36, 37, 38, 39, 40, 41, 42, 43] rfl (by decide +kernel)
set_option maxRecDepth 20000 in
theorem gX5_kind_X5_isAtom : GoodIn wsX5_kind (wsV RX5 63 RX5 yX5_isAtom wsX5_isAtom) := goodIn_app (goodIn_of _ (by decide +kernel)) ggX5_kind_X5_isAtom
set_option maxRecDepth 20000 in
theorem ggX5_kind_X5_countsAs : GoodIn wsX5_kind wsX5_countsAs := goodIn_r _ [12, 13, 14, 15, 16, 17, 5, 18, 7, 8, 19, 20, 21, 22, 23, 24, 25, 26, 27, 28, 29, 30, 31, 32, 33, 34, 35, 36, 37, 38, 39, 40, 41, 42, 43] rfl (by decide +kernel)
set_option maxRecDepth 20000 in
theorem gX5_kind_X5_countsAs : GoodIn wsX5_kind (wsV RX5 86 RX5 yX5_countsAs wsX5_countsAs) := goodIn_app (goodIn_of _ (by decide +kernel)) ggX5_kind_X5_countsAs
set_option maxRecDepth 20000 in
theorem ggX5_space_X5_letterOf : GoodIn wsX5_space wsX5_letterOf := goodIn_r _ [5] rfl (by decide +kernel)
set_option maxRecDepth 20000 in
theorem gX5_space_X5_letterOf : GoodIn wsX5_space (va_wsS RX5 90 yX5_letterOf wsX5_letterOf) := goodIn_app (goodIn_of _ (by decide +kernel)) ggX5_space_X5_letterOf
set_option maxRecDepth 20000 in
theorem ggX5_spaceOf_X5_letterOf : GoodIn wsX5_spaceOf wsX5_letterOf := goodIn_r _ [4] rfl (by decide +kernel)
set_option maxRecDepth 20000 in
theorem gX5_spaceOf_X5_letterOf : GoodIn wsX5_spaceOf (va_wsS RX5 90 yX5_letterOf wsX5_letterOf) := goodIn_app (goodIn_of _ (by decide +kernel)) ggX5_spaceOf_X5_letterOf
set_option maxRecDepth 20000 in
theorem ggX5_spaceOf_X5_unit : GoodIn wsX5_spaceOf wsX5_unit := goodIn_r _ [7] rfl (by decide +kernel)
set_option maxRecDepth 20000 in
theorem gX5_spaceOf_X5_unit : GoodIn wsX5_spaceOf (va_wsS RX5 93 yX5_unit wsX5_unit) := goodIn_app (goodIn_of _ (by decide +kernel)) ggX5_spaceOf_X5_unit
set_option maxRecDepth 20000 in
theorem ggX5_signSize_X5_unit : GoodIn wsX5_signSize wsX5_unit := goodIn_r _ [4] rfl (by decide +kernel)
set_option maxRecDepth 20000 in
theorem gX5_signSize_X5_unit : GoodIn wsX5_signSize (va_wsS RX5 93 yX5_unit wsX5_unit) := goodIn_app (goodIn_of _ (by decide +kernel)) ggX5_signSize_X5_unit
set_option maxRecDepth 20000 in
theorem ggX5_stepOf_X5_tall : GoodIn wsX5_stepOf wsX5_tall := goodIn_r _ [4, 5, 6, 3, 7] rfl (by decide +kernel)
set_option maxRecDepth 20000 in
theorem gX5_stepOf_X5_tall : GoodIn wsX5_stepOf (va_wsS RX5 105 yX5_tall wsX5_tall) := goodIn_app (goodIn_of _ (by decide +kernel)) ggX5_stepOf_X5_tall
set_option maxRecDepth 20000 in
theorem ggX5_tall_X5_unit : GoodIn wsX5_tall wsX5_unit := goodIn_r _ [4] rfl (by decide +kernel)
set_option maxRecDepth 20000 in
theorem gX5_tall_X5_unit : GoodIn wsX5_tall (va_wsS RX5 93 yX5_unit wsX5_unit) := goodIn_app (goodIn_of _ (by decide +kernel)) ggX5_tall_X5_unit
set_option maxRecDepth 20000 in
theorem ggX5_delimiterWidth_X5_unit : GoodIn wsX5_delimiterWidth wsX5_unit := goodIn_r _ [4] rfl (by decide +kernel)
set_option maxRecDepth 20000 in
theorem gX5_delimiterWidth_X5_unit : GoodIn wsX5_delimiterWidth (va_wsS RX5 93 yX5_unit wsX5_unit) := goodIn_app (goodIn_of _ (by decide +kernel)) ggX5_delimiterWidth_X5_unit
set_option maxRecDepth 20000 in
theorem ggX5_delimiterWidth_X5_half : GoodIn wsX5_delimiterWidth wsX5_half := goodIn_r _ [7] rfl (by decide +kernel)
set_option maxRecDepth 20000 in
theorem gX5_delimiterWidth_X5_half : GoodIn wsX5_delimiterWidth (va_wsS RX5 108 yX5_half wsX5_half) := goodIn_app (goodIn_of _ (by decide +kernel)) ggX5_delimiterWidth_X5_half
set_option maxRecDepth 20000 in
theorem ggX5_need_X5_unit : GoodIn wsX5_need wsX5_unit := goodIn_r _ [6] rfl (by decide +kernel)
set_option maxRecDepth 20000 in
theorem gX5_need_X5_unit : GoodIn wsX5_need (va_wsS RX5 93 yX5_unit wsX5_unit) := goodIn_app (goodIn_of _ (by decide +kernel)) ggX5_need_X5_unit
set_option maxRecDepth 20000 in
theorem ggX5_need_X5_greater : GoodIn wsX5_need wsX5_greater := goodIn_r _ [9] rfl (by decide +kernel)
set_option maxRecDepth 20000 in
theorem gX5_need_X5_greater : GoodIn wsX5_need (va_wsS RX5 111 yX5_greater wsX5_greater) := goodIn_app (goodIn_of _ (by decide +kernel)) ggX5_need_X5_greater
set_option maxRecDepth 20000 in
theorem ggX5_measureFraction_X5_unit : GoodIn wsX5_measureFraction wsX5_unit := goodIn_r _ [12] rfl (by decide +kernel)
set_option maxRecDepth 20000 in
theorem gX5_measureFraction_X5_unit : GoodIn wsX5_measureFraction (va_wsS RX5 93 yX5_unit wsX5_unit) := goodIn_app (goodIn_of _ (by decide +kernel)) ggX5_measureFraction_X5_unit
set_option maxRecDepth 20000 in
theorem ggX5_measureFraction_X5_half : GoodIn wsX5_measureFraction wsX5_half := goodIn_r _ [15] rfl (by decide +kernel)
set_option maxRecDepth 20000 in
theorem gX5_measureFraction_X5_half : GoodIn wsX5_measureFraction (va_wsS RX5 108 yX5_half wsX5_half) := goodIn_app (goodIn_of _ (by decide +kernel)) ggX5_measureFraction_X5_half
set_option maxRecDepth 20000 in
theorem ggX5_measureFraction_X5_partLevel : GoodIn wsX5_measureFraction wsX5_partLevel := goodIn_r _ [18] rfl (by decide +kernel)
set_option maxRecDepth 20000 in
theorem gX5_measureFraction_X5_partLevel : GoodIn wsX5_measureFraction (va_wsS RX5 114 yX5_partLevel wsX5_partLevel) := goodIn_app (goodIn_of _ (by decide +kernel)) ggX5_measureFraction_X5_partLevel
set_option maxRecDepth 20000 in
theorem ggX5_measureFraction_X5_measureList : GoodIn wsX5_measureFraction wsX5_measureList := goodIn_r _ [53, 54, 55, 56, 2, 6, 3, 5, 4, 57, 58, 59, 11, 60, 32, 61, 62, 63, 64, 65, 66, 67, 68, 69, 70, 71, 72, 73, 9, 10, 12, 22, 23, 24, 25, 26, 27, 28, 29, 30, 31, 7, 8, 33, 34, 35, 36, 37, 38, 19, 20, 21, 13, 14, 15, 39, 1, 40, 41, 42, 43, 44, 45, 46, 47, 48, 49, 50, 51, 52, 0, 16, 17, 18, 74, 75, 76, 77, 78, 79, 80, 81, 82, 83, 84, 85, 86, 87, 88, 89, 90, 91, 92, 93, 94, 95, 96, 97, 98, 99, 100, 101, 102, 103, 104, 105, 106, 107, 108, 109, 110, 111, 112, 113, 114] rfl (by decide +kernel)
set_option maxRecDepth 20000 in
theorem gX5_measureFraction_X5_measureList : GoodIn wsX5_measureFraction (wsV RX5 117 RX5 yX5_measureList wsX5_measureList) := goodIn_app (goodIn_of _ (by decide +kernel)) ggX5_measureFraction_X5_measureList
set_option maxRecDepth 20000 in
theorem ggX5_measureFraction_X5_greater : GoodIn wsX5_measureFraction wsX5_greater := goodIn_r _ [24] rfl (by decide +kernel)
set_option maxRecDepth 20000 in
theorem gX5_measureFraction_X5_greater : GoodIn wsX5_measureFraction (va_wsS RX5 111 yX5_greater wsX5_greater) := goodIn_app (goodIn_of _ (by decide +kernel)) ggX5_measureFraction_X5_greater
set_option maxRecDepth 20000 in
theorem ggX5_measureFraction_X5_set : GoodIn wsX5_measureFraction wsX5_set := goodIn_r _ [28, 3, 5, 4, 90, 91, 92, 93, 94, 95, 96, 97, 98, 99, 100, 101, 102, 103, 104, 105, 106, 107, 108, 109, 110, 111, 112, 113, 114] rfl (by decide +kernel)
set_option maxRecDepth 20000 in
theorem gX5_measureFraction_X5_set : GoodIn wsX5_measureFraction (wsV RX5 121 RX5 yX5_set wsX5_set) := goodIn_app (goodIn_of _ (by decide +kernel)) ggX5_measureFraction_X5_set
set_option maxRecDepth 20000 in
theorem ggX5_measureFence_X5_measureList : GoodIn wsX5_measureFence wsX5_measureList := goodIn_r _ [53, 54, 55, 56, 3, 1, 2, 5, 6, 57, 58, 59, 10, 60, 40, 61, 62, 63, 64, 65, 66, 67, 68, 69, 70, 71, 72, 73, 15, 16, 17, 18, 19, 20, 33, 34, 35, 36, 37, 38, 39, 41, 42, 43, 44, 45, 46, 47, 48, 7, 8, 9, 24, 25, 26, 0, 4, 11, 12, 13, 14, 21, 22, 23, 27, 28, 29, 30, 31, 32, 49, 50, 51, 52, 74, 75, 76, 77, 78, 79, 80, 81, 82, 83, 84, 85, 86, 87, 88, 89, 90, 91, 92, 93, 94, 95, 96, 97, 98, 99, 100, 101, 102, 103, 104, 105, 106, 107, 108, 109, 110, 111, 112, 113, 114] rfl (by decide +kernel)
set_option maxRecDepth 20000 in
theorem gX5_measureFence_X5_measureList : GoodIn wsX5_measureFence (wsV RX5 117 RX5 yX5_measureList wsX5_measureList) := goodIn_app (goodIn_of _ (by decide +kernel)) ggX5_measureFence_X5_measureList
