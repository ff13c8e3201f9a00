set_option maxRecDepth 20000 in
theorem ggX5_measureFence_X5_need : GoodIn wsX5_measureFence wsX5_need := goodIn_r _ [14, 5, 6, 15, 16, 10, 17, 18, 19, 20, 90, 91, 92, 93, 94, 95, 96, 97, 98, 99, 100, 101, 102, 103, 104, 105, 106, 107, 108, 109, 110, 111, 112, 113, 114] rfl (by decide +kernel)
set_option maxRecDepth 20000 in
theorem gX5_measureFence_X5_need : GoodIn wsX5_measureFence (wsV RX5 131 RX5 yX5_need wsX5_need) := goodIn_app (goodIn_of _ (by decide +kernel)) ggX5_measureFence_X5_need
set_option maxRecDepth 20000 in
theorem ggX5_measureFence_X5_delimiterWidth : GoodIn wsX5_measureFence wsX5_delimiterWidth := goodIn_r _ [23, 15, 16, 10, 17, 24, 25, 26] rfl (by decide +kernel)
set_option maxRecDepth 20000 in
theorem gX5_measureFence_X5_delimiterWidth : GoodIn wsX5_measureFence (va_wsS RX5 134 yX5_delimiterWidth wsX5_delimiterWidth) := goodIn_app (goodIn_of _ (by decide +kernel)) ggX5_measureFence_X5_delimiterWidth
set_option maxRecDepth 20000 in
theorem ggX5_measureFence_X5_stepOf : GoodIn wsX5_measureFence wsX5_stepOf := goodIn_r _ [29, 30, 31, 10, 32, 15, 16, 17] rfl (by decide +kernel)
set_option maxRecDepth 20000 in
theorem gX5_measureFence_X5_stepOf : GoodIn wsX5_measureFence (va_wsS RX5 137 yX5_stepOf wsX5_stepOf) := goodIn_app (goodIn_of _ (by decide +kernel)) ggX5_measureFence_X5_stepOf
set_option maxRecDepth 20000 in
theorem ggX5_measureFence_X5_tall : GoodIn wsX5_measureFence wsX5_tall := goodIn_r _ [32, 15, 16, 10, 17] rfl (by decide +kernel)
set_option maxRecDepth 20000 in
theorem gX5_measureFence_X5_tall : GoodIn wsX5_measureFence (va_wsS RX5 105 yX5_tall wsX5_tall) := goodIn_app (goodIn_of _ (by decide +kernel)) ggX5_measureFence_X5_tall
set_option maxRecDepth 20000 in
theorem ggX5_measureFence_X5_unit : GoodIn wsX5_measureFence wsX5_unit := goodIn_r _ [17] rfl (by decide +kernel)
set_option maxRecDepth 20000 in
theorem gX5_measureFence_X5_unit : GoodIn wsX5_measureFence (va_wsS RX5 93 yX5_unit wsX5_unit) := goodIn_app (goodIn_of _ (by decide +kernel)) ggX5_measureFence_X5_unit
set_option maxRecDepth 20000 in
theorem ggX5_measureFence_X5_half : GoodIn wsX5_measureFence wsX5_half := goodIn_r _ [26] rfl (by decide +kernel)
set_option maxRecDepth 20000 in
theorem gX5_measureFence_X5_half : GoodIn wsX5_measureFence (va_wsS RX5 108 yX5_half wsX5_half) := goodIn_app (goodIn_of _ (by decide +kernel)) ggX5_measureFence_X5_half
set_option maxRecDepth 20000 in
theorem ggX5_measureFence_X5_greater : GoodIn wsX5_measureFence wsX5_greater := goodIn_r _ [20] rfl (by decide +kernel)
set_option maxRecDepth 20000 in
theorem gX5_measureFence_X5_greater : GoodIn wsX5_measureFence (va_wsS RX5 111 yX5_greater wsX5_greater) := goodIn_app (goodIn_of _ (by decide +kernel)) ggX5_measureFence_X5_greater
set_option maxRecDepth 20000 in
theorem ggX5_measureFence_X5_set : GoodIn wsX5_measureFence wsX5_set := goodIn_r _ [36, 2, 5, 6, 90, 91, 92, 93, 94, 95, 96, 97, 98, 99, 100, 101, 102, 103, 104, 105, 106, 107, 108, 109, 110, 111, 112, 113, 114] rfl (by decide +kernel)
set_option maxRecDepth 20000 in
theorem gX5_measureFence_X5_set : GoodIn wsX5_measureFence (wsV RX5 121 RX5 yX5_set wsX5_set) := goodIn_app (goodIn_of _ (by decide +kernel)) ggX5_measureFence_X5_set
set_option maxRecDepth 20000 in
theorem ggX5_measureMatrix_X5_unit : GoodIn wsX5_measureMatrix wsX5_unit := goodIn_r _ [11] rfl (by decide +kernel)
set_option maxRecDepth 20000 in
theorem gX5_measureMatrix_X5_unit : GoodIn wsX5_measureMatrix (va_wsS RX5 93 yX5_unit wsX5_unit) := goodIn_app (goodIn_of _ (by decide +kernel)) ggX5_measureMatrix_X5_unit
set_option maxRecDepth 20000 in
theorem ggX5_measureMatrix_X5_measureList : GoodIn wsX5_measureMatrix wsX5_measureList := goodIn_r _ [56, 57, 58, 59, 1, 2, 5, 6, 7, 60, 61, 62, 10, 63, 28, 64, 65, 66, 67, 68, 69, 70, 71, 72, 73, 74, 75, 76, 8, 9, 11, 15, 16, 17, 21, 22, 23, 24, 25, 26, 27, 29, 30, 31, 32, 33, 34, 35, 36, 12, 13, 14, 18, 19, 20, 37, 38, 39, 40, 41, 42, 43, 44, 45, 46, 47, 48, 49, 50, 51, 52, 53, 54, 55, 0, 3, 4, 77, 78, 79, 80, 81, 82, 83, 84, 85, 86, 87, 88, 89, 90, 91, 92, 93, 94, 95, 96, 97, 98, 99, 100, 101, 102, 103, 104, 105, 106, 107, 108, 109, 110, 111, 112, 113, 114] rfl (by decide +kernel)
set_option maxRecDepth 20000 in
theorem gX5_measureMatrix_X5_measureList : GoodIn wsX5_measureMatrix (wsV RX5 117 RX5 yX5_measureList wsX5_measureList) := goodIn_app (goodIn_of _ (by decide +kernel)) ggX5_measureMatrix_X5_measureList
set_option maxRecDepth 20000 in
theorem ggX5_measureMatrix_X5_greater : GoodIn wsX5_measureMatrix wsX5_greater := goodIn_r _ [17] rfl (by decide +kernel)
set_option maxRecDepth 20000 in
theorem gX5_measureMatrix_X5_greater : GoodIn wsX5_measureMatrix (va_wsS RX5 111 yX5_greater wsX5_greater) := goodIn_app (goodIn_of _ (by decide +kernel)) ggX5_measureMatrix_X5_greater
set_option maxRecDepth 20000 in
theorem ggX5_measureMatrix_X5_half : GoodIn wsX5_measureMatrix wsX5_half := goodIn_r _ [20] rfl (by decide +kernel)
set_option maxRecDepth 20000 in
theorem gX5_measureMatrix_X5_half : GoodIn wsX5_measureMatrix (va_wsS RX5 108 yX5_half wsX5_half) := goodIn_app (goodIn_of _ (by decide +kernel)) ggX5_measureMatrix_X5_half
set_option maxRecDepth 20000 in
theorem ggX5_measureMatrix_X5_set : GoodIn wsX5_measureMatrix wsX5_set := goodIn_r _ [24, 5, 6, 7, 90, 91, 92, 93, 94, 95, 96, 97, 98, 99, 100, 101, 102, 103, 104, 105, 106, 107, 108, 109, 110, 111, 112, 113, 114] rfl (by decide +kernel)
set_option maxRecDepth 20000 in
theorem gX5_measureMatrix_X5_set : GoodIn wsX5_measureMatrix (wsV RX5 121 RX5 yX5_set wsX5_set) := goodIn_app (goodIn_of _ (by decide +kernel)) ggX5_measureMatrix_X5_set
set_option maxRecDepth 20000 in
theorem ggX5_measureNucleus_X5_signSize : GoodIn wsX5_measureNucleus wsX5_signSize := goodIn_r _ [7, 8, 9, 6, 10] rfl (by decide +kernel)
set_option maxRecDepth 20000 in
theorem gX5_measureNucleus_X5_signSize : GoodIn wsX5_measureNucleus (va_wsS RX5 140 yX5_signSize wsX5_signSize) := goodIn_app (goodIn_of _ (by decide +kernel)) ggX5_measureNucleus_X5_signSize
set_option maxRecDepth 20000 in
theorem ggX5_measureNucleus_X5_set : GoodIn wsX5_measureNucleus wsX5_set := goodIn_r _ [14, 15, 16, 17, 90, 91, 92, 93, 94, 95, 96, 97, 98, 99, 100, 101, 102, 103, 104, 105, 106, 107, 108, 109, 110, 111, 112, 113, 114] rfl (by decide +kernel)
set_option maxRecDepth 20000 in
theorem gX5_measureNucleus_X5_set : GoodIn wsX5_measureNucleus (wsV RX5 121 RX5 yX5_set wsX5_set) := goodIn_app (goodIn_of _ (by decide +kernel)) ggX5_measureNucleus_X5_set
set_option maxRecDepth 20000 in
theorem ggX5_measureNucleus_X5_measureFraction : GoodIn wsX5_measureNucleus wsX5_measureFraction := goodIn_r _ [63, 49, 3, 15, 17, 16, 48, 30, 31, 8, 9, 6, 10, 44, 45, 46, 64, 65, 66, 38, 39, 40, 41, 42, 43, 11, 12, 13, 14, 27, 28, 29, 2, 32, 33, 34, 35, 36, 37, 47, 50, 51, 52, 53, 54, 55, 56, 57, 58, 59, 60, 61, 62, 67, 68, 69, 1, 70, 71, 72, 73, 74, 75, 76, 77, 78, 79, 80, 81, 82, 83, 84, 85, 86, 87, 88, 89, 0, 4, 5, 7, 18, 19, 20, 21, 22, 23, 24, 25, 26, 90, 91, 92, 93, 94, 95, 96, 97, 98, 99, 100, 101, 102, 103, 104, 105, 106, 107, 108, 109, 110, 111, 112, 113, 114] rfl (by decide +kernel)
set_option maxRecDepth 20000 in
theorem gX5_measureNucleus_X5_measureFraction : GoodIn wsX5_measureNucleus (wsV RX5 143 RX5 yX5_measureFraction wsX5_measureFraction) := goodIn_app (goodIn_of _ (by decide +kernel)) ggX5_measureNucleus_X5_measureFraction
set_option maxRecDepth 20000 in
theorem ggX5_measureNucleus_X5_measureFence : GoodIn wsX5_measureNucleus wsX5_measureFence := goodIn_r _ [47, 48, 15, 3, 49, 16, 17, 38, 39, 40, 6, 50, 51, 52, 53, 8, 9, 10, 41, 42, 43, 54, 55, 56, 44, 45, 46, 57, 58, 59, 60, 61, 62, 11, 12, 13, 14, 27, 28, 29, 2, 30, 31, 32, 33, 34, 35, 36, 37, 63, 64, 65, 66, 67, 68, 69, 1, 70, 71, 72, 73, 74, 75, 76, 77, 78, 79, 80, 81, 82, 83, 84, 85, 86, 87, 88, 89, 0, 4, 5, 7, 18, 19, 20, 21, 22, 23, 24, 25, 26, 90, 91, 92, 93, 94, 95, 96, 97, 98, 99, 100, 101, 102, 103, 104, 105, 106, 107, 108, 109, 110, 111, 112, 113, 114] rfl (by decide +kernel)
set_option maxRecDepth 20000 in
theorem gX5_measureNucleus_X5_measureFence : GoodIn wsX5_measureNucleus (wsV RX5 146 RX5 yX5_measureFence wsX5_measureFence) := goodIn_app (goodIn_of _ (by decide +kernel)) ggX5_measureNucleus_X5_measureFence
set_option maxRecDepth 20000 in
theorem ggX5_measureNucleus_X5_measureMatrix : GoodIn wsX5_measureNucleus wsX5_measureMatrix := goodIn_r _ [87, 3, 48, 88, 89, 15, 16, 17, 8, 9, 6, 10, 38, 39, 40, 41, 42, 43, 44, 45, 46, 11, 12, 13, 14, 27, 28, 29, 2, 30, 31, 32, 33, 34, 35, 36, 37, 47, 49, 50, 51, 52, 53, 54, 55, 56, 57, 58, 59, 60, 61, 62, 63, 64, 65, 66, 67, 68, 69, 1, 70, 71, 72, 73, 74, 75, 76, 77, 78, 79, 80, 81, 82, 83, 84, 85, 86, 0, 4, 5, 7, 18, 19, 20, 21, 22, 23, 24, 25, 26, 90, 91, 92, 93, 94, 95, 96, 97, 98, 99, 100, 101, 102, 103, 104, 105, 106, 107, 108, 109, 110, 111, 112, 113, 114] rfl (by decide +kernel)
set_option maxRecDepth 20000 in
theorem gX5_measureNucleus_X5_measureMatrix : GoodIn wsX5_measureNucleus (wsV RX5 149 RX5 yX5_measureMatrix wsX5_measureMatrix) := goodIn_app (goodIn_of _ (by decide +kernel)) ggX5_measureNucleus_X5_measureMatrix
set_option maxRecDepth 20000 in
theorem ggX5_measureAtom_X5_measureNucleus : GoodIn wsX5_measureAtom wsX5_measureNucleus := goodIn_r _ [77, 56, 6, 34, 78, 79, 12, 80, 13, 14, 15, 28, 29, 30, 31, 3, 4, 5, 81, 82, 83, 84, 85, 86, 87, 88, 89, 0, 1, 2, 7, 8, 9, 10, 11, 16, 17, 18, 19, 20, 21, 22, 23, 24, 25, 26, 27, 32, 33, 35, 36, 37, 38, 39, 40, 41, 42, 43, 44, 45, 46, 47, 48, 49, 50, 51, 52, 53, 54, 55, 57, 58, 59, 60, 61, 62, 63, 64, 65, 66, 67, 68, 69, 70, 71, 72, 73, 74, 75, 76, 90, 91, 92, 93, 94, 95, 96, 97, 98, 99, 100, 101, 102, 103, 104, 105, 106, 107, 108, 109, 110, 111, 112, 113, 114] rfl (by decide +kernel)
set_option maxRecDepth 20000 in
theorem gX5_measureAtom_X5_measureNucleus : GoodIn wsX5_measureAtom (wsV RX5 153 RX5 yX5_measureNucleus wsX5_measureNucleus) := goodIn_app (goodIn_of _ (by decide +kernel)) ggX5_measureAtom_X5_measureNucleus
set_option maxRecDepth 20000 in
theorem ggX5_measureAtom_X5_unit : GoodIn wsX5_measureAtom wsX5_unit := goodIn_r _ [15] rfl (by decide +kernel)
set_option maxRecDepth 20000 in
theorem gX5_measureAtom_X5_unit : GoodIn wsX5_measureAtom (va_wsS RX5 93 yX5_unit wsX5_unit) := goodIn_app (goodIn_of _ (by decide +kernel)) ggX5_measureAtom_X5_unit
set_option maxRecDepth 20000 in
theorem ggX5_measureAtom_X5_scriptLevel : GoodIn wsX5_measureAtom wsX5_scriptLevel := goodIn_r _ [18] rfl (by decide +kernel)
set_option maxRecDepth 20000 in
theorem gX5_measureAtom_X5_scriptLevel : GoodIn wsX5_measureAtom (va_wsS RX5 156 yX5_scriptLevel wsX5_scriptLevel) := goodIn_app (goodIn_of _ (by decide +kernel)) ggX5_measureAtom_X5_scriptLevel
set_option maxRecDepth 20000 in
theorem ggX5_measureAtom_X5_measureList : GoodIn wsX5_measureAtom wsX5_measureList := goodIn_r _ [53, 54, 55, 56, 34, 33, 3, 4, 5, 57, 58, 59, 12, 60, 6, 61, 62, 63, 64, 65, 66, 67, 68, 69, 70, 71, 72, 73, 13, 14, 15, 22, 23, 24, 28, 29, 30, 31, 0, 1, 2, 7, 8, 9, 10, 11, 16, 17, 18, 19, 20, 21, 25, 26, 27, 32, 35, 36, 37, 38, 39, 40, 41, 42, 43, 44, 45, 46, 47, 48, 49, 50, 51, 52, 74, 75, 76, 77, 78, 79, 80, 81, 82, 83, 84, 85, 86, 87, 88, 89, 90, 91, 92, 93, 94, 95, 96, 97, 98, 99, 100, 101, 102, 103, 104, 105, 106, 107, 108, 109, 110, 111, 112, 113, 114] rfl (by decide +kernel)
set_option maxRecDepth 20000 in
theorem gX5_measureAtom_X5_measureList : GoodIn wsX5_measureAtom (wsV RX5 117 RX5 yX5_measureList wsX5_measureList) := goodIn_app (goodIn_of _ (by decide +kernel)) ggX5_measureAtom_X5_measureList
set_option maxRecDepth 20000 in
theorem ggX5_measureAtom_X5_greater : GoodIn wsX5_measureAtom wsX5_greater := goodIn_r _ [24] rfl (by decide +kernel)
set_option maxRecDepth 20000 in
theorem gX5_measureAtom_X5_greater : GoodIn wsX5_measureAtom (va_wsS RX5 111 yX5_greater wsX5_greater) := goodIn_app (goodIn_of _ (by decide +kernel)) ggX5_measureAtom_X5_greater
set_option maxRecDepth 20000 in
theorem ggX5_measureAtom_X5_half : GoodIn wsX5_measureAtom wsX5_half := goodIn_r _ [27] rfl (by decide +kernel)
set_option maxRecDepth 20000 in
theorem gX5_measureAtom_X5_half : GoodIn wsX5_measureAtom (va_wsS RX5 108 yX5_half wsX5_half) := goodIn_app (goodIn_of _ (by decide +kernel)) ggX5_measureAtom_X5_half
set_option maxRecDepth 20000 in
theorem ggX5_measureAtom_X5_set : GoodIn wsX5_measureAtom wsX5_set := goodIn_r _ [31, 3, 4, 5, 90, 91, 92, 93, 94, 95, 96, 97, 98, 99, 100, 101, 102, 103, 104, 105, 106, 107, 108, 109, 110, 111, 112, 113, 114] rfl (by decide +kernel)
set_option maxRecDepth 20000 in
theorem gX5_measureAtom_X5_set : GoodIn wsX5_measureAtom (wsV RX5 121 RX5 yX5_set wsX5_set) := goodIn_app (goodIn_of _ (by decide +kernel)) ggX5_measureAtom_X5_set
set_option maxRecDepth 20000 in
theorem ggX5_measureList_X5_countsAs : GoodIn wsX5_measureList wsX5_countsAs := goodIn_r _ [13, 2, 14, 15, 16, 17, 12, 18, 1, 3, 90, 91, 92, 93, 94, 95, 96, 97, 98, 99, 100, 101, 102, 103, 104, 105, 106, 107, 108, 109, 110, 111, 112, 113, 114] rfl (by decide +kernel)
set_option maxRecDepth 20000 in
theorem gX5_measureList_X5_countsAs : GoodIn wsX5_measureList (wsV RX5 86 RX5 yX5_countsAs wsX5_countsAs) := goodIn_app (goodIn_of _ (by decide +kernel)) ggX5_measureList_X5_countsAs
set_option maxRecDepth 20000 in
theorem ggX5_measureList_X5_measureAtom : GoodIn wsX5_measureList wsX5_measureAtom := goodIn_r _ [38, 39, 40, 6, 7, 8, 14, 41, 42, 43, 44, 45, 12, 28, 29, 30, 46, 47, 48, 49, 50, 51, 31, 32, 33, 52, 53, 54, 34, 35, 36, 37, 55, 5, 4, 56, 57, 58, 59, 60, 61, 62, 63, 64, 65, 66, 67, 68, 69, 70, 71, 72, 73, 0, 1, 2, 3, 9, 10, 11, 13, 15, 16, 17, 18, 19, 20, 21, 22, 23, 24, 25, 26, 27, 74, 75, 76, 77, 78, 79, 80, 81, 82, 83, 84, 85, 86, 87, 88, 89, 90, 91, 92, 93, 94, 95, 96, 97, 98, 99, 100, 101, 102, 103, 104, 105, 106, 107, 108, 109, 110, 111, 112, 113, 114] rfl (by decide +kernel)
set_option maxRecDepth 20000 in
theorem gX5_measureList_X5_measureAtom : GoodIn wsX5_measureList (wsV RX5 159 RX5 yX5_measureAtom wsX5_measureAtom) := goodIn_app (goodIn_of _ (by decide +kernel)) ggX5_measureList_X5_measureAtom
set_option maxRecDepth 20000 in
theorem ggX5_measureList_X5_spaceOf : GoodIn wsX5_measureList wsX5_spaceOf := goodIn_r _ [24, 25, 26, 12, 27, 28, 29, 30] rfl (by decide +kernel)
set_option maxRecDepth 20000 in
theorem gX5_measureList_X5_spaceOf : GoodIn wsX5_measureList (va_wsS RX5 162 yX5_spaceOf wsX5_spaceOf) := goodIn_app (goodIn_of _ (by decide +kernel)) ggX5_measureList_X5_spaceOf
set_option maxRecDepth 20000 in
theorem ggX5_measureList_X5_greater : GoodIn wsX5_measureList wsX5_greater := goodIn_r _ [33] rfl (by decide +kernel)
set_option maxRecDepth 20000 in
theorem gX5_measureList_X5_greater : GoodIn wsX5_measureList (va_wsS RX5 111 yX5_greater wsX5_greater) := goodIn_app (goodIn_of _ (by decide +kernel)) ggX5_measureList_X5_greater
set_option maxRecDepth 20000 in
theorem ggX5_measureList_X5_set : GoodIn wsX5_measureList wsX5_set := goodIn_r _ [37, 6, 7, 8, 90, 91, 92, 93, 94, 95, 96, 97, 98, 99, 100, 101, 102, 103, 104, 105, 106, 107, 108, 109, 110, 111, 112, 113, 114] rfl (by decide +kernel)
set_option maxRecDepth 20000 in
theorem gX5_measureList_X5_set : GoodIn wsX5_measureList (wsV RX5 121 RX5 yX5_set wsX5_set) := goodIn_app (goodIn_of _ (by decide +kernel)) ggX5_measureList_X5_set
