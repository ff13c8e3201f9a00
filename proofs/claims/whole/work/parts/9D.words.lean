theorem mem_ps {α : Type} {L : List Cond} {l : List α} {f : α → Cond} (ps : List Nat) (h : l.map (fun q => some (f q)) = ps.map (fun i => L[i]?)) : ∀ q ∈ l, f q ∈ L := by
  intro q hq
  have h1 : some (f q) ∈ ps.map (fun i => L[i]?) := by
    rw [← h]
    exact List.mem_map.mpr ⟨q, hq, rfl⟩
  obtain ⟨i, -, hi⟩ := List.mem_map.mp h1
  exact List.mem_of_getElem? hi
set_option maxRecDepth 100000 in
theorem wsL_in1 : ∀ w ∈ wsL_law0_r1, w ∈ lw_tbl := mem_ps (f := fun w => w) [68, 69, 53, 699, 700, 58, 960, 959, 70, 71, 72, 73, 74, 75, 76, 77, 54, 215, 144, 145, 55, 216, 78, 79] rfl
set_option maxRecDepth 100000 in
theorem wsL_in2 : ∀ w ∈ wsL_law0_r2, w ∈ lw_tbl := mem_ps (f := fun w => w) [80, 81, 82, 85, 87, 143, 89, 92, 94, 96, 99, 102, 104, 106, 108, 110, 112, 146, 147, 148, 149, 150, 151, 56] rfl
set_option maxRecDepth 100000 in
theorem wsL_in3 : ∀ w ∈ wsL_law0_r3, w ∈ lw_tbl := mem_ps (f := fun w => w) [193, 177, 178, 57, 194, 196, 198, 200, 192, 153, 154, 155, 156, 158, 160, 162, 164, 180, 181, 182, 183, 186, 701, 702] rfl
set_option maxRecDepth 100000 in
theorem wsL_in4 : ∀ w ∈ wsL_law0_r4, w ∈ lw_tbl := mem_ps (f := fun w => w) [703, 704, 706, 708, 710, 711, 712, 713, 714, 715, 716, 717, 718, 720, 729, 222, 223, 52, 224, 225, 226, 227, 228, 229] rfl
set_option maxRecDepth 100000 in
theorem wsL_in5 : ∀ w ∈ wsL_law0_r5, w ∈ lw_tbl := mem_ps (f := fun w => w) [230, 312, 63, 88, 231, 233, 0, 234, 235, 62, 86, 305, 306, 307, 308, 309, 310, 311, 329, 331, 2, 332, 84, 334] rfl
set_option maxRecDepth 100000 in
theorem wsL_in6 : ∀ w ∈ wsL_law0_r6, w ∈ lw_tbl := mem_ps (f := fun w => w) [335, 336, 337, 785, 786, 787, 788, 709, 705, 707, 789, 791, 28, 792, 781, 782, 783, 784, 338, 339, 340, 341, 342, 343] rfl
set_option maxRecDepth 100000 in
theorem wsL_in7 : ∀ w ∈ wsL_law0_r7, w ∈ lw_tbl := mem_ps (f := fun w => w) [344, 345, 346, 380, 65, 97, 100, 91, 109, 347, 349, 3, 350, 355, 64, 351, 352, 353, 354, 371, 373, 4, 374, 375] rfl
set_option maxRecDepth 100000 in
theorem wsL_in8 : ∀ w ∈ wsL_law0_r8, w ∈ lw_tbl := mem_ps (f := fun w => w) [376, 377, 378, 396, 398, 5, 399, 400, 401, 402, 403, 405, 406, 407, 408, 410, 411, 412, 413, 793, 794, 795, 796, 797] rfl
set_option maxRecDepth 100000 in
theorem wsL_in9 : ∀ w ∈ wsL_law0_r9, w ∈ lw_tbl := mem_ps (f := fun w => w) [799, 29, 800, 801, 803, 30, 804, 805, 807, 31, 808, 809, 811, 32, 812, 414, 415, 416, 417, 418, 419, 420, 421, 813] rfl
set_option maxRecDepth 100000 in
theorem wsL_in10 : ∀ w ∈ wsL_law0_r10, w ∈ lw_tbl := mem_ps (f := fun w => w) [814, 815, 816, 817, 818, 820, 33, 821, 424, 425, 426, 427, 428, 429, 430, 432, 433, 434, 822, 823, 824, 825, 435, 436] rfl
set_option maxRecDepth 100000 in
theorem wsL_in11 : ∀ w ∈ wsL_law0_r11, w ∈ lw_tbl := mem_ps (f := fun w => w) [437, 438, 439, 440, 441, 113, 442, 443, 444, 445, 446, 448, 6, 449, 450, 451, 452, 453, 454, 455, 456, 457, 458, 459] rfl
set_option maxRecDepth 100000 in
theorem wsL_in12 : ∀ w ∈ wsL_law0_r12, w ∈ lw_tbl := mem_ps (f := fun w => w) [826, 827, 828, 829, 460, 461, 462, 463, 464, 465, 466, 830, 831, 832, 833, 468, 469, 470, 471, 472, 473, 474, 195, 185] rfl
set_option maxRecDepth 100000 in
theorem wsL_in13 : ∀ w ∈ wsL_law0_r13, w ∈ lw_tbl := mem_ps (f := fun w => w) [475, 476, 477, 478, 184, 157, 159, 161, 479, 481, 7, 482, 83, 90, 93, 103, 105, 165, 483, 484, 485, 486, 487, 489] rfl
set_option maxRecDepth 100000 in
theorem wsL_in14 : ∀ w ∈ wsL_law0_r14, w ∈ lw_tbl := mem_ps (f := fun w => w) [8, 615, 616, 617, 618, 619, 620, 621, 622, 624, 26, 625, 626, 627, 628, 630, 631, 632, 499, 500, 634, 636, 27, 637] rfl
set_option maxRecDepth 100000 in
theorem wsL_in15 : ∀ w ∈ wsL_law0_r15, w ∈ lw_tbl := mem_ps (f := fun w => w) [163, 491, 492, 493, 512, 513, 514, 515, 516, 517, 518, 519, 490, 494, 496, 9, 528, 530, 11, 554, 556, 14, 582, 584] rfl
set_option maxRecDepth 100000 in
theorem wsL_in16 : ∀ w ∈ wsL_law0_r16, w ∈ lw_tbl := mem_ps (f := fun w => w) [21, 585, 586, 588, 22, 589, 95, 520, 521, 522, 523, 524, 525, 526, 527, 590, 591, 593, 23, 531, 107, 501, 502, 66] rfl
set_option maxRecDepth 100000 in
theorem wsL_in17 : ∀ w ∈ wsL_law0_r17, w ∈ lw_tbl := mem_ps (f := fun w => w) [503, 532, 534, 12, 535, 505, 506, 507, 536, 538, 13, 539, 540, 541, 542, 543, 544, 545, 546, 547, 548, 549, 550, 551] rfl
set_option maxRecDepth 100000 in
theorem wsL_in18 : ∀ w ∈ wsL_law0_r18, w ∈ lw_tbl := mem_ps (f := fun w => w) [552, 553, 508, 510, 10, 511, 497, 557, 558, 560, 15, 561, 111, 562, 564, 16, 565, 566, 568, 17, 569, 570, 572, 18] rfl
set_option maxRecDepth 100000 in
theorem wsL_in19 : ∀ w ∈ wsL_law0_r19, w ∈ lw_tbl := mem_ps (f := fun w => w) [573, 574, 576, 19, 577, 578, 580, 20, 581, 594, 98, 101, 595, 597, 24, 598, 599, 600, 601, 602, 603, 604, 605, 606] rfl
set_option maxRecDepth 100000 in
theorem wsL_in20 : ∀ w ∈ wsL_law0_r20, w ∈ lw_tbl := mem_ps (f := fun w => w) [607, 608, 609, 610, 611, 613, 25, 614, 853, 854, 855, 856, 719, 724, 721, 725, 722, 726, 723, 857, 859, 36, 860, 838] rfl
set_option maxRecDepth 100000 in
theorem wsL_in21 : ∀ w ∈ wsL_law0_r21, w ∈ lw_tbl := mem_ps (f := fun w => w) [840, 34, 841, 842, 844, 35, 845, 861, 863, 37, 916, 917, 918, 850, 851, 852, 872, 873, 874, 889, 890, 891, 875, 877] rfl
set_option maxRecDepth 100000 in
theorem wsL_in22 : ∀ w ∈ wsL_law0_r22, w ∈ lw_tbl := mem_ps (f := fun w => w) [39, 878, 864, 727, 728, 865, 867, 38, 913, 914, 915, 883, 884, 885, 895, 896, 898, 42, 899, 900, 901, 902, 903, 904] rfl
set_option maxRecDepth 100000 in
theorem wsL_in23 : ∀ w ∈ wsL_law0_r23, w ∈ lw_tbl := mem_ps (f := fun w => w) [905, 906, 907, 908, 882, 886, 887, 888, 912, 868, 869, 870, 871, 879, 881, 40, 892, 894, 41, 909, 911, 43, 919, 921] rfl
set_option maxRecDepth 100000 in
theorem wsL_in24 : ∀ w ∈ wsL_law0_r24, w ∈ lw_tbl := mem_ps (f := fun w => w) [44, 922, 923, 925, 45, 926, 927, 929, 46, 939, 941, 49, 942, 946, 931, 933, 47, 934, 938, 950, 930, 935, 937, 48] rfl
set_option maxRecDepth 100000 in
theorem wsL_in25 : ∀ w ∈ wsL_law0_r25, w ∈ lw_tbl := mem_ps (f := fun w => w) [943, 945, 50, 947, 949, 51, 638, 639, 640, 641, 642, 643, 644, 645, 646, 67, 197, 199, 201, 662, 951, 952, 953, 954] rfl
set_option maxRecDepth 100000 in
theorem wsL_in26 : ∀ w ∈ wsL_law0_r26, w ∈ lw_tbl := mem_ps (f := fun w => w) [663, 664, 665, 666, 667, 668, 669, 670, 846, 847, 848, 849, 671, 672, 673, 674, 675, 676, 677, 678, 679, 680, 681, 682] rfl
set_option maxRecDepth 100000 in
theorem wsL_in27 : ∀ w ∈ wsL_law0_r27, w ∈ lw_tbl := mem_ps (f := fun w => w) [834, 835, 836, 837, 683, 684, 685, 686, 687, 688, 689, 690, 691, 692, 693, 695, 696, 697, 698, 955, 956, 957, 958] rfl
set_option maxRecDepth 100000 in
theorem inX0 : ∀ w ∈ wsX00, w ∈ lw_tbl := mem_ps (f := fun w => w) [114, 116, 118, 120, 122, 124, 126, 128, 130, 132, 134, 136, 138, 140] rfl
set_option maxRecDepth 100000 in
theorem inX1 : ∀ w ∈ wsX10, w ∈ lw_tbl := mem_ps (f := fun w => w) [166, 168, 170, 172, 174] rfl
set_option maxRecDepth 100000 in
theorem inX2 : ∀ w ∈ wsX20, w ∈ lw_tbl := mem_ps (f := fun w => w) [187, 189] rfl
set_option maxRecDepth 100000 in
theorem inX3 : ∀ w ∈ wsX30, w ∈ lw_tbl := mem_ps (f := fun w => w) [202, 204, 206, 208, 210, 212] rfl
set_option maxRecDepth 100000 in
theorem inX4 : ∀ w ∈ wsX40, w ∈ lw_tbl := mem_ps (f := fun w => w) [217, 219] rfl
set_option maxRecDepth 100000 in
theorem inX5 : ∀ w ∈ wsX50, w ∈ lw_tbl := mem_ps (f := fun w => w) [730, 732, 734, 736, 738, 740, 742, 744, 746, 748, 750, 752, 754, 756, 758, 760, 762, 764, 766, 768, 770, 772, 774, 776, 778] rfl
set_option maxRecDepth 100000 in
theorem wsL_law_x0 : ∀ w ∈ (vx_atS RX4 44 "java/lang/IllegalArgumentException" ["java/lang/RuntimeException", "java/lang/Exception"]).filter goodWord, w ∈ lw_tbl := mem_ps (f := fun w => w) [59, 257, 266, 272, 275, 277, 258, 259, 74, 75, 260, 265, 273, 293, 247, 294, 249, 295, 251, 261, 263, 253, 289, 290, 292, 253, 323, 324, 325, 283, 283, 284, 285, 286, 286, 287, 288, 289, 322, 313, 315, 268, 316, 317, 318, 319, 256, 255, 320] rfl
set_option maxRecDepth 100000 in
theorem wsL_law_x1 : ∀ w ∈ (vx_atS RX4 191 "java/lang/UnsupportedOperationException" ["java/lang/RuntimeException", "java/lang/Exception"]).filter goodWord, w ∈ lw_tbl := mem_ps (f := fun w => w) [59, 257, 266, 272, 275, 277, 258, 259, 74, 75, 260, 265, 273, 293, 247, 294, 249, 295, 251, 261, 263, 253, 289, 290, 292, 253, 280, 281, 282, 283, 283, 284, 285, 286, 286, 287, 288, 289, 279, 236, 244, 245, 246, 248, 250, 252, 256, 255, 254] rfl
set_option maxRecDepth 100000 in
theorem wsL_law_x2 : ∀ w ∈ (vx_atS RX4 74 "java/lang/IllegalStateException" ["java/lang/RuntimeException", "java/lang/Exception"]).filter goodWord, w ∈ lw_tbl := mem_ps (f := fun w => w) [59, 257, 266, 272, 275, 277, 258, 259, 74, 75, 260, 265, 273, 293, 247, 294, 249, 295, 251, 261, 263, 253, 289, 290, 292, 253, 391, 392, 393, 283, 283, 284, 285, 286, 286, 287, 288, 289, 390, 381, 383, 269, 384, 385, 386, 387, 256, 255, 388] rfl
set_option maxRecDepth 100000 in
theorem wsL_law_x3 : ∀ w ∈ (vx_atX RX4 168 "java/util/NoSuchElementException" 13 rxN ["java/lang/RuntimeException", "java/lang/Exception"]).filter goodWord, w ∈ lw_tbl := mem_ps (f := fun w => w) [59, 257, 266, 272, 275, 277, 258, 259, 74, 75, 260, 265, 273, 293, 247, 294, 249, 295, 251, 261, 263, 253, 289, 290, 292, 253, 366, 367, 368, 283, 283, 284, 285, 286, 286, 287, 288, 289, 365, 356, 358, 271, 359, 360, 361, 362, 256, 255, 363] rfl
set_option maxRecDepth 100000 in
theorem wsL_law_x4 : ∀ w ∈ (vx_atS RX4 140 "java/lang/IndexOutOfBoundsException" ["java/lang/RuntimeException", "java/lang/Exception"]).filter goodWord, w ∈ lw_tbl := mem_ps (f := fun w => w) [59, 257, 266, 272, 275, 277, 258, 259, 74, 75, 260, 265, 273, 293, 247, 294, 249, 295, 251, 261, 263, 253, 289, 290, 292, 253, 657, 658, 659, 283, 283, 284, 285, 286, 286, 287, 288, 289, 656, 647, 649, 270, 650, 651, 652, 653, 256, 255, 654] rfl
theorem wsL_law_in0 : ∀ w ∈ wsL_law0, w ∈ lw_tbl := by
  intro w h
  unfold wsL_law0 at h
  rcases List.mem_append.mp h with h | h
  · rcases List.mem_append.mp h with h | h
    · rcases List.mem_append.mp h with h | h
      · rcases List.mem_append.mp h with h | h
        · rcases List.mem_append.mp h with h | h
          · rcases List.mem_append.mp h with h | h
            · rcases List.mem_append.mp h with h | h
              · rcases List.mem_append.mp h with h | h
                · exact wsL_in1 w h
                rcases List.mem_append.mp h with h | h
                · exact wsL_in2 w h
                rcases List.mem_append.mp h with h | h
                · exact wsL_in3 w h
                rcases List.mem_append.mp h with h | h
                · exact wsL_in4 w h
                rcases List.mem_append.mp h with h | h
                · exact wsL_in5 w h
                rcases List.mem_append.mp h with h | h
                · exact wsL_in6 w h
                rcases List.mem_append.mp h with h | h
                · exact wsL_in7 w h
                rcases List.mem_append.mp h with h | h
                · exact wsL_in8 w h
                rcases List.mem_append.mp h with h | h
                · exact wsL_in9 w h
                rcases List.mem_append.mp h with h | h
                · exact wsL_in10 w h
                rcases List.mem_append.mp h with h | h
                · exact wsL_in11 w h
                rcases List.mem_append.mp h with h | h
                · exact wsL_in12 w h
                rcases List.mem_append.mp h with h | h
                · exact wsL_in13 w h
                rcases List.mem_append.mp h with h | h
                · exact wsL_in14 w h
                rcases List.mem_append.mp h with h | h
                · exact wsL_in15 w h
                rcases List.mem_append.mp h with h | h
                · exact wsL_in16 w h
                rcases List.mem_append.mp h with h | h
                · exact wsL_in17 w h
                rcases List.mem_append.mp h with h | h
                · exact wsL_in18 w h
                rcases List.mem_append.mp h with h | h
                · exact wsL_in19 w h
                rcases List.mem_append.mp h with h | h
                · exact wsL_in20 w h
                rcases List.mem_append.mp h with h | h
                · exact wsL_in21 w h
                rcases List.mem_append.mp h with h | h
                · exact wsL_in22 w h
                rcases List.mem_append.mp h with h | h
                · exact wsL_in23 w h
                rcases List.mem_append.mp h with h | h
                · exact wsL_in24 w h
                rcases List.mem_append.mp h with h | h
                · exact wsL_in25 w h
                rcases List.mem_append.mp h with h | h
                · exact wsL_in26 w h
                exact wsL_in27 w h
              · exact inX4 w h
            · exact inX5 w h
          · exact inX0 w h
        · exact inX3 w h
      · exact inX1 w h
    · exact inX2 w h
  · cases h
theorem wsL_law_in : ∀ w ∈ wsL_law, w ∈ lw_tbl := fun w h => (List.mem_append.mp h).elim (fun h => (List.mem_append.mp h).elim (fun h => (List.mem_append.mp h).elim (fun h => (List.mem_append.mp h).elim (fun h => (List.mem_append.mp h).elim (fun h => wsL_law_in0 w h) (fun h => wsL_law_x0 w h)) (fun h => wsL_law_x1 w h)) (fun h => wsL_law_x2 w h)) (fun h => wsL_law_x3 w h)) (fun h => wsL_law_x4 w h)
theorem inlX4 : ∀ w ∈ wsX40, w ∈ wsL_law := fun _ h => List.mem_append_left _ (List.mem_append_left _ (List.mem_append_left _ (List.mem_append_left _ (List.mem_append_left _ (List.mem_append_left _ (List.mem_append_left _ (List.mem_append_left _ (List.mem_append_left _ (List.mem_append_left _ (List.mem_append_left _ (List.mem_append_right _ h)))))))))))
theorem inlX5 : ∀ w ∈ wsX50, w ∈ wsL_law := fun _ h => List.mem_append_left _ (List.mem_append_left _ (List.mem_append_left _ (List.mem_append_left _ (List.mem_append_left _ (List.mem_append_left _ (List.mem_append_left _ (List.mem_append_left _ (List.mem_append_left _ (List.mem_append_left _ (List.mem_append_right _ h))))))))))
