theorem mem_ps {α : Type} {L : List Cond} {l : List α} {f : α → Cond} (ps : List Nat) (h : l.map (fun q => some (f q)) = ps.map (fun i => L[i]?)) : ∀ q ∈ l, f q ∈ L := by
  intro q hq
  have h1 : some (f q) ∈ ps.map (fun i => L[i]?) := by
    rw [← h]
    exact List.mem_map.mpr ⟨q, hq, rfl⟩
  obtain ⟨i, -, hi⟩ := List.mem_map.mp h1
  exact List.mem_of_getElem? hi
set_option maxRecDepth 100000 in
theorem wsL_in1 : ∀ w ∈ wsL_law0_r1, w ∈ lw_tbl := mem_ps (f := fun w => w) [68, 69, 53, 709, 710, 58, 970, 969, 70, 71, 72, 73, 74, 75, 76, 77, 54, 216, 145, 146, 55, 217, 78, 79] rfl
set_option maxRecDepth 100000 in
theorem wsL_in2 : ∀ w ∈ wsL_law0_r2, w ∈ lw_tbl := mem_ps (f := fun w => w) [80, 81, 82, 85, 87, 144, 89, 92, 94, 96, 99, 102, 104, 106, 108, 110, 112, 147, 148, 149, 150, 151, 152, 56] rfl
set_option maxRecDepth 100000 in
theorem wsL_in3 : ∀ w ∈ wsL_law0_r3, w ∈ lw_tbl := mem_ps (f := fun w => w) [194, 178, 179, 57, 195, 197, 199, 201, 193, 154, 155, 156, 157, 159, 161, 163, 165, 181, 182, 183, 184, 187, 711, 712] rfl
set_option maxRecDepth 100000 in
theorem wsL_in4 : ∀ w ∈ wsL_law0_r4, w ∈ lw_tbl := mem_ps (f := fun w => w) [713, 714, 716, 718, 720, 721, 722, 723, 724, 725, 726, 727, 728, 730, 739, 223, 224, 52, 225, 226, 227, 228, 229, 230] rfl
set_option maxRecDepth 100000 in
theorem wsL_in5 : ∀ w ∈ wsL_law0_r5, w ∈ lw_tbl := mem_ps (f := fun w => w) [231, 313, 63, 88, 232, 234, 0, 235, 236, 62, 86, 306, 307, 308, 309, 310, 311, 312, 330, 332, 2, 333, 84, 335] rfl
set_option maxRecDepth 100000 in
theorem wsL_in6 : ∀ w ∈ wsL_law0_r6, w ∈ lw_tbl := mem_ps (f := fun w => w) [336, 337, 338, 795, 796, 797, 798, 719, 715, 717, 799, 801, 28, 802, 791, 792, 793, 794, 339, 340, 341, 342, 343, 344] rfl
set_option maxRecDepth 100000 in
theorem wsL_in7 : ∀ w ∈ wsL_law0_r7, w ∈ lw_tbl := mem_ps (f := fun w => w) [345, 346, 347, 381, 65, 97, 100, 91, 109, 348, 350, 3, 351, 356, 64, 352, 353, 354, 355, 372, 374, 4, 375, 376] rfl
set_option maxRecDepth 100000 in
theorem wsL_in8 : ∀ w ∈ wsL_law0_r8, w ∈ lw_tbl := mem_ps (f := fun w => w) [377, 378, 379, 397, 399, 5, 400, 401, 402, 403, 404, 406, 407, 408, 409, 411, 412, 413, 414, 803, 804, 805, 806, 807] rfl
set_option maxRecDepth 100000 in
theorem wsL_in9 : ∀ w ∈ wsL_law0_r9, w ∈ lw_tbl := mem_ps (f := fun w => w) [809, 29, 810, 811, 813, 30, 814, 815, 817, 31, 818, 819, 821, 32, 822, 415, 416, 417, 418, 419, 420, 421, 422, 823] rfl
set_option maxRecDepth 100000 in
theorem wsL_in10 : ∀ w ∈ wsL_law0_r10, w ∈ lw_tbl := mem_ps (f := fun w => w) [824, 825, 826, 827, 828, 830, 33, 831, 425, 426, 427, 428, 429, 430, 431, 433, 434, 435, 832, 833, 834, 835, 436, 437] rfl
set_option maxRecDepth 100000 in
theorem wsL_in11 : ∀ w ∈ wsL_law0_r11, w ∈ lw_tbl := mem_ps (f := fun w => w) [438, 439, 440, 441, 442, 113, 443, 444, 445, 446, 447, 449, 6, 450, 451, 452, 453, 454, 455, 456, 457, 458, 459, 460] rfl
set_option maxRecDepth 100000 in
theorem wsL_in12 : ∀ w ∈ wsL_law0_r12, w ∈ lw_tbl := mem_ps (f := fun w => w) [836, 837, 838, 839, 461, 462, 463, 464, 465, 466, 467, 840, 841, 842, 843, 469, 470, 471, 472, 473, 474, 475, 196, 186] rfl
set_option maxRecDepth 100000 in
theorem wsL_in13 : ∀ w ∈ wsL_law0_r13, w ∈ lw_tbl := mem_ps (f := fun w => w) [476, 477, 478, 479, 185, 158, 160, 162, 480, 482, 7, 483, 83, 90, 93, 103, 105, 166, 484, 485, 486, 487, 488, 490] rfl
set_option maxRecDepth 100000 in
theorem wsL_in14 : ∀ w ∈ wsL_law0_r14, w ∈ lw_tbl := mem_ps (f := fun w => w) [8, 624, 625, 626, 627, 628, 629, 630, 631, 633, 26, 634, 635, 636, 637, 639, 640, 641, 500, 501, 643, 645, 27, 646] rfl
set_option maxRecDepth 100000 in
theorem wsL_in15 : ∀ w ∈ wsL_law0_r15, w ∈ lw_tbl := mem_ps (f := fun w => w) [164, 492, 493, 494, 513, 514, 515, 516, 517, 503, 66, 504, 518, 519, 520, 521, 522, 523, 524, 491, 495, 497, 9, 537] rfl
set_option maxRecDepth 100000 in
theorem wsL_in16 : ∀ w ∈ wsL_law0_r16, w ∈ lw_tbl := mem_ps (f := fun w => w) [539, 11, 563, 565, 14, 591, 593, 21, 594, 595, 597, 22, 598, 95, 525, 526, 527, 528, 529, 530, 531, 532, 533, 534] rfl
set_option maxRecDepth 100000 in
theorem wsL_in17 : ∀ w ∈ wsL_law0_r17, w ∈ lw_tbl := mem_ps (f := fun w => w) [535, 536, 599, 600, 602, 23, 540, 107, 502, 541, 543, 12, 544, 506, 507, 508, 545, 547, 13, 548, 549, 550, 551, 552] rfl
set_option maxRecDepth 100000 in
theorem wsL_in18 : ∀ w ∈ wsL_law0_r18, w ∈ lw_tbl := mem_ps (f := fun w => w) [553, 554, 555, 556, 557, 558, 559, 560, 561, 562, 509, 511, 10, 512, 498, 566, 567, 569, 15, 570, 114, 111, 571, 573] rfl
set_option maxRecDepth 100000 in
theorem wsL_in19 : ∀ w ∈ wsL_law0_r19, w ∈ lw_tbl := mem_ps (f := fun w => w) [16, 574, 575, 577, 17, 578, 579, 581, 18, 582, 583, 585, 19, 586, 587, 589, 20, 590, 603, 98, 101, 604, 606, 24] rfl
set_option maxRecDepth 100000 in
theorem wsL_in20 : ∀ w ∈ wsL_law0_r20, w ∈ lw_tbl := mem_ps (f := fun w => w) [607, 608, 609, 610, 611, 612, 613, 614, 615, 616, 617, 618, 619, 620, 622, 25, 623, 863, 864, 865, 866, 729, 734, 731] rfl
set_option maxRecDepth 100000 in
theorem wsL_in21 : ∀ w ∈ wsL_law0_r21, w ∈ lw_tbl := mem_ps (f := fun w => w) [735, 732, 736, 733, 867, 869, 36, 870, 848, 850, 34, 851, 852, 854, 35, 855, 871, 873, 37, 926, 927, 928, 860, 861] rfl
set_option maxRecDepth 100000 in
theorem wsL_in22 : ∀ w ∈ wsL_law0_r22, w ∈ lw_tbl := mem_ps (f := fun w => w) [862, 882, 883, 884, 899, 900, 901, 885, 887, 39, 888, 874, 737, 738, 875, 877, 38, 923, 924, 925, 893, 894, 895, 905] rfl
set_option maxRecDepth 100000 in
theorem wsL_in23 : ∀ w ∈ wsL_law0_r23, w ∈ lw_tbl := mem_ps (f := fun w => w) [906, 908, 42, 909, 910, 911, 912, 913, 914, 915, 916, 917, 918, 892, 896, 897, 898, 922, 878, 879, 880, 881, 889, 891] rfl
set_option maxRecDepth 100000 in
theorem wsL_in24 : ∀ w ∈ wsL_law0_r24, w ∈ lw_tbl := mem_ps (f := fun w => w) [40, 902, 904, 41, 919, 921, 43, 929, 931, 44, 932, 933, 935, 45, 936, 937, 939, 46, 949, 951, 49, 952, 956, 941] rfl
set_option maxRecDepth 100000 in
theorem wsL_in25 : ∀ w ∈ wsL_law0_r25, w ∈ lw_tbl := mem_ps (f := fun w => w) [943, 47, 944, 948, 960, 940, 945, 947, 48, 953, 955, 50, 957, 959, 51, 647, 648, 649, 650, 651, 652, 653, 654, 656] rfl
set_option maxRecDepth 100000 in
theorem wsL_in26 : ∀ w ∈ wsL_law0_r26, w ∈ lw_tbl := mem_ps (f := fun w => w) [67, 198, 200, 202, 655, 672, 961, 962, 963, 964, 673, 674, 675, 676, 677, 678, 679, 680, 856, 857, 858, 859, 681, 682] rfl
set_option maxRecDepth 100000 in
theorem wsL_in27 : ∀ w ∈ wsL_law0_r27, w ∈ lw_tbl := mem_ps (f := fun w => w) [683, 684, 685, 686, 687, 688, 689, 690, 691, 692, 844, 845, 846, 847, 693, 694, 695, 696, 697, 698, 699, 700, 701, 702] rfl
set_option maxRecDepth 100000 in
theorem wsL_in28 : ∀ w ∈ wsL_law0_r28, w ∈ lw_tbl := mem_ps (f := fun w => w) [703, 705, 706, 707, 708, 965, 966, 967, 968] rfl
set_option maxRecDepth 100000 in
theorem inX0 : ∀ w ∈ wsX00, w ∈ lw_tbl := mem_ps (f := fun w => w) [115, 117, 119, 121, 123, 125, 127, 129, 131, 133, 135, 137, 139, 141] rfl
set_option maxRecDepth 100000 in
theorem inX1 : ∀ w ∈ wsX10, w ∈ lw_tbl := mem_ps (f := fun w => w) [167, 169, 171, 173, 175] rfl
set_option maxRecDepth 100000 in
theorem inX2 : ∀ w ∈ wsX20, w ∈ lw_tbl := mem_ps (f := fun w => w) [188, 190] rfl
set_option maxRecDepth 100000 in
theorem inX3 : ∀ w ∈ wsX30, w ∈ lw_tbl := mem_ps (f := fun w => w) [203, 205, 207, 209, 211, 213] rfl
set_option maxRecDepth 100000 in
theorem inX4 : ∀ w ∈ wsX40, w ∈ lw_tbl := mem_ps (f := fun w => w) [218, 220] rfl
set_option maxRecDepth 100000 in
theorem inX5 : ∀ w ∈ wsX50, w ∈ lw_tbl := mem_ps (f := fun w => w) [740, 742, 744, 746, 748, 750, 752, 754, 756, 758, 760, 762, 764, 766, 768, 770, 772, 774, 776, 778, 780, 782, 784, 786, 788] rfl
set_option maxRecDepth 100000 in
theorem wsL_law_x0 : ∀ w ∈ (vx_atS RX4 44 "java/lang/IllegalArgumentException" ["java/lang/RuntimeException", "java/lang/Exception"]).filter goodWord, w ∈ lw_tbl := mem_ps (f := fun w => w) [59, 258, 267, 273, 276, 278, 259, 260, 74, 75, 261, 266, 274, 294, 248, 295, 250, 296, 252, 262, 264, 254, 290, 291, 293, 254, 324, 325, 326, 284, 284, 285, 286, 287, 287, 288, 289, 290, 323, 314, 316, 269, 317, 318, 319, 320, 257, 256, 321] rfl
set_option maxRecDepth 100000 in
theorem wsL_law_x1 : ∀ w ∈ (vx_atS RX4 194 "java/lang/UnsupportedOperationException" ["java/lang/RuntimeException", "java/lang/Exception"]).filter goodWord, w ∈ lw_tbl := mem_ps (f := fun w => w) [59, 258, 267, 273, 276, 278, 259, 260, 74, 75, 261, 266, 274, 294, 248, 295, 250, 296, 252, 262, 264, 254, 290, 291, 293, 254, 281, 282, 283, 284, 284, 285, 286, 287, 287, 288, 289, 290, 280, 237, 245, 246, 247, 249, 251, 253, 257, 256, 255] rfl
set_option maxRecDepth 100000 in
theorem wsL_law_x2 : ∀ w ∈ (vx_atS RX4 74 "java/lang/IllegalStateException" ["java/lang/RuntimeException", "java/lang/Exception"]).filter goodWord, w ∈ lw_tbl := mem_ps (f := fun w => w) [59, 258, 267, 273, 276, 278, 259, 260, 74, 75, 261, 266, 274, 294, 248, 295, 250, 296, 252, 262, 264, 254, 290, 291, 293, 254, 392, 393, 394, 284, 284, 285, 286, 287, 287, 288, 289, 290, 391, 382, 384, 270, 385, 386, 387, 388, 257, 256, 389] rfl
set_option maxRecDepth 100000 in
theorem wsL_law_x3 : ∀ w ∈ (vx_atX RX4 171 "java/util/NoSuchElementException" 13 rxN ["java/lang/RuntimeException", "java/lang/Exception"]).filter goodWord, w ∈ lw_tbl := mem_ps (f := fun w => w) [59, 258, 267, 273, 276, 278, 259, 260, 74, 75, 261, 266, 274, 294, 248, 295, 250, 296, 252, 262, 264, 254, 290, 291, 293, 254, 367, 368, 369, 284, 284, 285, 286, 287, 287, 288, 289, 290, 366, 357, 359, 272, 360, 361, 362, 363, 257, 256, 364] rfl
set_option maxRecDepth 100000 in
theorem wsL_law_x4 : ∀ w ∈ (vx_atS RX4 143 "java/lang/IndexOutOfBoundsException" ["java/lang/RuntimeException", "java/lang/Exception"]).filter goodWord, w ∈ lw_tbl := mem_ps (f := fun w => w) [59, 258, 267, 273, 276, 278, 259, 260, 74, 75, 261, 266, 274, 294, 248, 295, 250, 296, 252, 262, 264, 254, 290, 291, 293, 254, 667, 668, 669, 284, 284, 285, 286, 287, 287, 288, 289, 290, 666, 657, 659, 271, 660, 661, 662, 663, 257, 256, 664] rfl
theorem wsL_law_in0 : ∀ w ∈ wsL_law0, w ∈ lw_tbl := by
  intro w h
  unfold wsL_law0 at h
  rcases List.mem_append.mp h with h | h
  · rcases List.mem_append.mp h with h | h
    · rcases List.mem_append.mp h with h | h
      · rcases List.mem_append.mp h with h | h
        · rcases List.mem_append.mp h with h | h
          · rcases List.mem_append.mp h with h | h
            · rcases List.mem_append.mp h with h | h
              · rcases List.mem_append.mp h with h | h
                · exact wsL_in1 w h
                rcases List.mem_append.mp h with h | h
                · exact wsL_in2 w h
                rcases List.mem_append.mp h with h | h
                · exact wsL_in3 w h
                rcases List.mem_append.mp h with h | h
                · exact wsL_in4 w h
                rcases List.mem_append.mp h with h | h
                · exact wsL_in5 w h
                rcases List.mem_append.mp h with h | h
                · exact wsL_in6 w h
                rcases List.mem_append.mp h with h | h
                · exact wsL_in7 w h
                rcases List.mem_append.mp h with h | h
                · exact wsL_in8 w h
                rcases List.mem_append.mp h with h | h
                · exact wsL_in9 w h
                rcases List.mem_append.mp h with h | h
                · exact wsL_in10 w h
                rcases List.mem_append.mp h with h | h
                · exact wsL_in11 w h
                rcases List.mem_append.mp h with h | h
                · exact wsL_in12 w h
                rcases List.mem_append.mp h with h | h
                · exact wsL_in13 w h
                rcases List.mem_append.mp h with h | h
                · exact wsL_in14 w h
                rcases List.mem_append.mp h with h | h
                · exact wsL_in15 w h
                rcases List.mem_append.mp h with h | h
                · exact wsL_in16 w h
                rcases List.mem_append.mp h with h | h
                · exact wsL_in17 w h
                rcases List.mem_append.mp h with h | h
                · exact wsL_in18 w h
                rcases List.mem_append.mp h with h | h
                · exact wsL_in19 w h
                rcases List.mem_append.mp h with h | h
                · exact wsL_in20 w h
                rcases List.mem_append.mp h with h | h
                · exact wsL_in21 w h
                rcases List.mem_append.mp h with h | h
                · exact wsL_in22 w h
                rcases List.mem_append.mp h with h | h
                · exact wsL_in23 w h
                rcases List.mem_append.mp h with h | h
                · exact wsL_in24 w h
                rcases List.mem_append.mp h with h | h
                · exact wsL_in25 w h
                rcases List.mem_append.mp h with h | h
                · exact wsL_in26 w h
                rcases List.mem_append.mp h with h | h
                · exact wsL_in27 w h
                exact wsL_in28 w h
              · exact inX4 w h
            · exact inX5 w h
          · exact inX0 w h
        · exact inX3 w h
      · exact inX1 w h
    · exact inX2 w h
  · cases h
theorem wsL_law_in : ∀ w ∈ wsL_law, w ∈ lw_tbl := fun w h => (List.mem_append.mp h).elim (fun h => (List.mem_append.mp h).elim (fun h => (List.mem_append.mp h).elim (fun h => (List.mem_append.mp h).elim (fun h => (List.mem_append.mp h).elim (fun h => wsL_law_in0 w h) (fun h => wsL_law_x0 w h)) (fun h => wsL_law_x1 w h)) (fun h => wsL_law_x2 w h)) (fun h => wsL_law_x3 w h)) (fun h => wsL_law_x4 w h)
theorem inlX4 : ∀ w ∈ wsX40, w ∈ wsL_law := fun _ h => List.mem_append_left _ (List.mem_append_left _ (List.mem_append_left _ (List.mem_append_left _ (List.mem_append_left _ (List.mem_append_left _ (List.mem_append_left _ (List.mem_append_left _ (List.mem_append_left _ (List.mem_append_left _ (List.mem_append_left _ (List.mem_append_right _ h)))))))))))
theorem inlX5 : ∀ w ∈ wsX50, w ∈ wsL_law := fun _ h => List.mem_append_left _ (List.mem_append_left _ (List.mem_append_left _ (List.mem_append_left _ (List.mem_append_left _ (List.mem_append_left _ (List.mem_append_left _ (List.mem_append_left _ (List.mem_append_left _ (List.mem_append_left _ (List.mem_append_right _ h))))))))))
