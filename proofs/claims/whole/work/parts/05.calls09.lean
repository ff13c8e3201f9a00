set_option maxRecDepth 20000 in
theorem ggL_law_L_fence : GoodIn wsL_law wsL_fence := goodIn_ca (goodIn_ca (goodIn_ca (goodIn_ca (goodIn_r _ [226, 141, 91, 142, 92, 227, 228, 229, 2, 230, 97, 98, 17, 99, 152, 163, 164, 165, 166, 157, 158, 167, 168, 169, 16, 170, 27, 171, 172, 173, 174, 147, 148, 175, 176, 177, 178, 38, 179, 180, 181, 182, 30, 114, 115, 116, 117, 104, 105, 118, 231, 232, 233, 119, 120, 121, 122, 26, 28, 31, 32, 33, 34, 35, 36, 37, 657, 658, 684, 685, 686, 687, 688, 689, 690, 691, 692, 693, 694, 695, 696, 697] rfl (by decide +kernel)) (goodIn_sub (fun _ h => List.mem_append_left _ (List.mem_append_left _ (List.mem_append_left _ (List.mem_append_left _ (List.mem_append_right _ h))))) (by decide +kernel))) (goodIn_sub (fun _ h => List.mem_append_left _ (List.mem_append_right _ h)) (by decide +kernel))) (goodIn_sub (fun _ h => List.mem_append_left _ (List.mem_append_left _ (List.mem_append_right _ h))) (by decide +kernel))) (goodIn_sub (fun _ h => List.mem_append_left _ (List.mem_append_left _ (List.mem_append_left _ (List.mem_append_right _ h)))) (by decide +kernel))
set_option maxRecDepth 20000 in
theorem gL_law_L_fence : GoodIn wsL_law (va_wsS RL 82 yL_fence wsL_fence) := goodIn_app (goodIn_of _ (by decide +kernel)) ggL_law_L_fence
set_option maxRecDepth 20000 in
theorem ggL_law_X5_fence : GoodIn wsL_law wsX5_fence := goodIn_r _ [237, 128, 127, 75, 195, 196, 197, 5, 198, 74, 220, 221, 222, 223, 129, 199, 200, 201, 202, 203, 204, 205, 206, 76, 130, 131, 132, 133, 77, 78, 79, 80, 81, 82, 83, 659, 660, 661, 662, 663, 664, 665, 666, 667, 668, 669, 670, 671, 672, 673, 674, 675, 676, 677, 678, 679, 680, 681, 682, 683] rfl (by decide +kernel)
set_option maxRecDepth 20000 in
theorem gL_law_X5_fence : GoodIn wsL_law (wsV RL 85 RX5 yX5_fence wsX5_fence) := goodIn_app (goodIn_of _ (by decide +kernel)) ggL_law_X5_fence
set_option maxRecDepth 20000 in
theorem ggL_law_L_matrix : GoodIn wsL_law wsL_matrix := goodIn_ca (goodIn_r _ [240, 92, 241, 242, 243, 2, 244, 17, 245, 114, 115, 116, 117, 104, 105, 118, 246, 247, 248, 16, 249, 27, 250, 251, 252, 253, 28, 254, 176, 177, 178, 38, 255, 256, 257, 258, 259, 180, 181, 182, 30, 119, 120, 121, 122, 26, 31, 32, 33, 34, 35, 36, 37, 260, 261, 262, 263, 40, 39, 657, 658, 684, 685, 686, 687, 688, 689, 690, 691, 692, 693, 694, 695, 696, 697] rfl (by decide +kernel)) (goodIn_sub (fun _ h => List.mem_append_left _ (List.mem_append_left _ (List.mem_append_left _ (List.mem_append_right _ h)))) (by decide +kernel))
set_option maxRecDepth 20000 in
theorem gL_law_L_matrix : GoodIn wsL_law (va_wsS RL 86 yL_matrix wsL_matrix) := goodIn_app (goodIn_of _ (by decide +kernel)) ggL_law_L_matrix
set_option maxRecDepth 20000 in
theorem ggL_law_X5_matrix : GoodIn wsL_law wsX5_matrix := goodIn_r _ [267, 127, 128, 74, 129, 84, 75, 199, 200, 201, 5, 202, 203, 204, 205, 206, 76, 130, 131, 132, 133, 77, 78, 79, 80, 81, 82, 83, 659, 660, 661, 662, 663, 664, 665, 666, 667, 668, 669, 670, 671, 672, 673, 674, 675, 676, 677, 678, 679, 680, 681, 682, 683] rfl (by decide +kernel)
set_option maxRecDepth 20000 in
theorem gL_law_X5_matrix : GoodIn wsL_law (wsV RL 88 RX5 yX5_matrix wsX5_matrix) := goodIn_app (goodIn_of _ (by decide +kernel)) ggL_law_X5_matrix
set_option maxRecDepth 20000 in
theorem ggL_law_L_style : GoodIn wsL_law wsL_style := goodIn_ca (goodIn_ca (goodIn_r _ [270, 91, 92, 271, 272, 273, 2, 274, 97, 98, 17, 114, 115, 116, 117, 104, 105, 118, 119, 120, 121, 16, 122, 26, 30, 28, 31, 32, 33, 34, 35, 36, 37, 657, 658, 684, 685, 686, 687, 688, 689, 690, 691, 692, 693, 694, 695, 696, 697] rfl (by decide +kernel)) (goodIn_sub (fun _ h => List.mem_append_left _ (List.mem_append_left _ (List.mem_append_left _ (List.mem_append_left _ (List.mem_append_right _ h))))) (by decide +kernel))) (goodIn_sub (fun _ h => List.mem_append_left _ (List.mem_append_left _ (List.mem_append_left _ (List.mem_append_right _ h)))) (by decide +kernel))
set_option maxRecDepth 20000 in
theorem gL_law_L_style : GoodIn wsL_law (va_wsS RL 89 yL_style wsL_style) := goodIn_app (goodIn_of _ (by decide +kernel)) ggL_law_L_style
set_option maxRecDepth 20000 in
theorem ggL_law_X5_style : GoodIn wsL_law wsX5_style := goodIn_r _ [278, 127, 128, 130, 131, 132, 5, 133, 76, 129, 77, 78, 79, 80, 81, 82, 83, 659, 660, 661, 662, 663, 664, 665, 666, 667, 668, 669, 670, 671, 672, 673, 674, 675, 676, 677, 678, 679, 680, 681, 682, 683] rfl (by decide +kernel)
set_option maxRecDepth 20000 in
theorem gL_law_X5_style : GoodIn wsL_law (wsV RL 92 RX5 yX5_style wsX5_style) := goodIn_app (goodIn_of _ (by decide +kernel)) ggL_law_X5_style
set_option maxRecDepth 20000 in
theorem ggL_law_L_run : GoodIn wsL_law wsL_run := goodIn_ca (goodIn_r _ [281, 141, 282, 283, 284, 2, 285, 21, 286, 287, 163, 164, 165, 166, 157, 158, 17, 167, 168, 169, 16, 170, 27, 288, 289, 290, 20, 291, 52, 292, 48, 293, 53, 294, 54, 295, 55, 296, 297, 298, 299, 56, 300, 301, 302, 303, 304, 305, 306, 307, 308, 47, 309, 60, 61, 62, 63, 64, 310, 311, 312, 313, 314, 315, 316, 32, 317, 318, 319, 320, 321, 322, 323, 26, 30, 31, 324, 325, 326, 327, 328, 329, 111, 112, 113, 330, 331, 332, 333, 334, 335, 336, 337, 338, 339, 340, 341, 342, 51, 343, 344, 345, 346, 347, 68, 348, 349, 350, 69, 351, 352, 353, 354, 355, 356, 357, 358, 359, 360, 361, 362, 363, 364, 365, 366, 367, 368, 369, 370, 371, 372, 373, 374, 375, 376, 377, 378, 379, 380, 381, 382, 383, 384, 385, 386, 184, 185, 186, 33, 34, 387, 388, 389, 390, 391, 392, 393, 394, 395, 396, 397, 398, 399, 400, 401, 402, 403, 404, 405, 406, 407, 408, 409, 410, 411, 412, 413, 414, 415, 416, 417, 418, 419, 420, 421, 422, 423, 424, 425, 426, 427, 428, 429, 430, 431, 432, 433, 434, 435, 436, 437, 438, 439, 440, 441, 442, 443, 444, 445, 446, 447, 448, 449, 450, 451, 452, 453, 454, 455, 456, 457, 458, 459, 460, 461, 462, 463, 464, 465, 466, 467, 468, 469, 470, 471, 472, 657, 658, 698, 699, 700, 701, 702, 703, 709, 710, 684, 685, 686, 687, 688, 689, 690, 691, 692, 693, 694, 695, 696, 697, 704, 705, 706, 707, 708] rfl (by decide +kernel)) (goodIn_sub (fun _ h => List.mem_append_left _ (List.mem_append_right _ h)) (by decide +kernel))
set_option maxRecDepth 20000 in
theorem gL_law_L_run : GoodIn wsL_law (va_wsS RL 93 yL_run wsL_run) := goodIn_app (goodIn_of _ (by decide +kernel)) ggL_law_L_run
set_option maxRecDepth 20000 in
theorem ggL_law_X5_run : GoodIn wsL_law wsX5_run := goodIn_r _ [476, 128, 477, 478, 479, 480, 481, 482, 483, 195, 196, 197, 5, 198, 74, 484, 485, 486, 487, 127, 76, 77, 79, 80, 488, 489, 490, 491, 78, 492, 493, 494, 495, 496, 497, 498, 499, 500, 501, 502, 503, 504, 505, 506, 507, 508, 509, 510, 511, 512, 513, 514, 515, 82, 83, 516, 517, 518, 519, 520, 521, 522, 523, 524, 525, 526, 527, 81, 528, 529, 530, 531, 532, 533, 534, 535, 536, 537, 538, 539, 540, 541, 542, 543, 544, 545, 86, 84, 546, 547, 548, 549, 550, 551, 552, 553, 554, 555, 556, 557, 558, 559, 560, 561, 562, 563, 564, 565, 566, 567, 568, 569, 570, 571, 572, 573, 574, 575, 576, 577, 578, 85, 579, 580, 581, 582, 583, 584, 585, 586, 587, 588, 589, 590, 659, 660, 661, 662, 663, 664, 665, 666, 667, 668, 669, 670, 671, 672, 673, 674, 675, 676, 677, 678, 679, 680, 681, 682, 683] rfl (by decide +kernel)
set_option maxRecDepth 20000 in
theorem gL_law_X5_run : GoodIn wsL_law (wsV RL 96 RX5 yX5_run wsX5_run) := goodIn_app (goodIn_of _ (by decide +kernel)) ggL_law_X5_run
set_option maxRecDepth 20000 in
theorem ggL_law_L_item : GoodIn wsL_law wsL_item := goodIn_ca (goodIn_r _ [593, 594, 595, 596, 597, 2, 598, 599, 600, 21, 601, 602, 603, 286, 604, 383, 384, 51, 385, 68, 605, 415, 416, 417, 69, 382, 657, 658, 698, 699, 700, 701, 702, 703, 709, 710] rfl (by decide +kernel)) (goodIn_sub (fun _ h => List.mem_append_right _ h) (by decide +kernel))
set_option maxRecDepth 20000 in
theorem gL_law_L_item : GoodIn wsL_law (va_wsS RL 97 yL_item wsL_item) := goodIn_app (goodIn_of _ (by decide +kernel)) ggL_law_L_item
set_option maxRecDepth 20000 in
theorem ggL_law_X5_item : GoodIn wsL_law wsX5_item := goodIn_r _ [609, 477, 128, 479, 481, 483, 85, 659, 660, 661, 662, 663, 664, 665, 666, 667, 668, 669, 670, 671, 672, 673, 674, 675, 676, 677, 678, 679, 680, 681, 682, 683] rfl (by decide +kernel)
set_option maxRecDepth 20000 in
theorem gL_law_X5_item : GoodIn wsL_law (wsV RL 99 RX5 yX5_item wsX5_item) := goodIn_app (goodIn_of _ (by decide +kernel)) ggL_law_X5_item
set_option maxRecDepth 20000 in
theorem ggL_law_L_space : GoodIn wsL_law wsL_space := goodIn_ca (goodIn_r _ [612, 91, 613, 614, 615, 2, 616, 97, 98, 111, 112, 113, 617, 327, 328, 329] rfl (by decide +kernel)) (goodIn_sub (fun _ h => List.mem_append_left _ (List.mem_append_left _ (List.mem_append_left _ (List.mem_append_left _ (List.mem_append_right _ h))))) (by decide +kernel))
set_option maxRecDepth 20000 in
theorem gL_law_L_space : GoodIn wsL_law (va_wsS RL 100 yL_space wsL_space) := goodIn_app (goodIn_of _ (by decide +kernel)) ggL_law_L_space
set_option maxRecDepth 20000 in
theorem ggL_law_X5_space : GoodIn wsL_law wsX5_space := goodIn_r _ [621, 128, 502, 503, 5, 504, 659, 660, 661, 662, 663, 664, 665, 666, 667, 668, 669, 670, 671, 672, 673, 674, 675, 676, 677, 678, 679, 680, 681, 682, 683] rfl (by decide +kernel)
set_option maxRecDepth 20000 in
theorem gL_law_X5_space : GoodIn wsL_law (wsV RL 102 RX5 yX5_space wsX5_space) := goodIn_app (goodIn_of _ (by decide +kernel)) ggL_law_X5_space
set_option maxRecDepth 20000 in
theorem ggL_law_L_kind : GoodIn wsL_law wsL_kind := goodIn_ca (goodIn_r _ [624, 141, 625, 626, 627, 2, 628, 17, 153, 154, 155, 156, 157, 158, 159, 160, 161, 16, 162, 26, 31, 629, 630, 631, 632, 30, 633, 314, 315, 316, 32, 317, 318, 319, 320, 321, 322, 323, 324, 325, 326, 657, 658, 684, 685, 686, 687, 688, 689, 690, 691, 692, 693, 694, 695, 696, 697] rfl (by decide +kernel)) (goodIn_sub (fun _ h => List.mem_append_left _ (List.mem_append_right _ h)) (by decide +kernel))
set_option maxRecDepth 20000 in
theorem gL_law_L_kind : GoodIn wsL_law (va_wsS RL 103 yL_kind wsL_kind) := goodIn_app (goodIn_of _ (by decide +kernel)) ggL_law_L_kind
set_option maxRecDepth 20000 in
theorem ggL_law_X5_kind : GoodIn wsL_law wsX5_kind := goodIn_r _ [637, 128, 191, 192, 193, 5, 194, 127, 77, 488, 489, 490, 491, 76, 78, 492, 493, 494, 495, 659, 660, 661, 662, 663, 664, 665, 666, 667, 668, 669, 670, 671, 672, 673, 674, 675, 676, 677, 678, 679, 680, 681, 682, 683] rfl (by decide +kernel)
set_option maxRecDepth 20000 in
theorem gL_law_X5_kind : GoodIn wsL_law (wsV RL 105 RX5 yX5_kind wsX5_kind) := goodIn_app (goodIn_of _ (by decide +kernel)) ggL_law_X5_kind
set_option maxRecDepth 20000 in
theorem ggL_law_L_split : GoodIn wsL_law wsL_split := goodIn_ca (goodIn_ca (goodIn_ca (goodIn_r _ [640, 141, 594, 92, 641, 642, 643, 2, 644, 599, 600, 17, 99, 163, 164, 165, 166, 157, 158, 167, 168, 169, 16, 170, 27, 645, 646, 647, 648, 26, 30, 31, 32, 100, 101, 102, 103, 104, 105, 106, 107, 108, 109, 110, 38, 649, 650, 651, 652, 657, 658, 684, 685, 686, 687, 688, 689, 690, 691, 692, 693, 694, 695, 696, 697] rfl (by decide +kernel)) (goodIn_sub (fun _ h => List.mem_append_right _ h) (by decide +kernel))) (goodIn_sub (fun _ h => List.mem_append_left _ (List.mem_append_right _ h)) (by decide +kernel))) (goodIn_sub (fun _ h => List.mem_append_left _ (List.mem_append_left _ (List.mem_append_left _ (List.mem_append_right _ h)))) (by decide +kernel))
set_option maxRecDepth 20000 in
theorem gL_law_L_split : GoodIn wsL_law (va_wsS RL 106 yL_split wsL_split) := goodIn_app (goodIn_of _ (by decide +kernel)) ggL_law_L_split
set_option maxRecDepth 20000 in
theorem ggL_law_X5_split : GoodIn wsL_law wsX5_split := goodIn_r _ [656, 128, 127, 76, 77, 78, 74, 129, 195, 196, 197, 5, 198, 659, 660, 661, 662, 663, 664, 665, 666, 667, 668, 669, 670, 671, 672, 673, 674, 675, 676, 677, 678, 679, 680, 681, 682, 683] rfl (by decide +kernel)
set_option maxRecDepth 20000 in
theorem gL_law_X5_split : GoodIn wsL_law (wsV RL 108 RX5 yX5_split wsX5_split) := goodIn_app (goodIn_of _ (by decide +kernel)) ggL_law_X5_split
