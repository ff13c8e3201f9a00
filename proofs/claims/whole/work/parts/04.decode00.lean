theorem dJ9_max_7cf53_0 : decode cJ9_max_7cf53 0 = .ok (.iload_n 0, 1) := by decide +kernel
theorem dJ9_max_7cf53_1 : decode cJ9_max_7cf53 1 = .ok (.iload_n 1, 1) := by decide +kernel
theorem dJ9_max_7cf53_2 : decode cJ9_max_7cf53 2 = .ok (.if_icmp .lt 7, 3) := by decide +kernel
theorem dJ9_max_7cf53_5 : decode cJ9_max_7cf53 5 = .ok (.iload_n 0, 1) := by decide +kernel
theorem dJ9_max_7cf53_6 : decode cJ9_max_7cf53 6 = .ok (.goto 4, 3) := by decide +kernel
theorem dJ9_max_7cf53_9 : decode cJ9_max_7cf53 9 = .ok (.iload_n 1, 1) := by decide +kernel
theorem dJ9_max_7cf53_10 : decode cJ9_max_7cf53 10 = .ok (.ireturn, 1) := by decide +kernel
theorem dJ9_min_7cf53_0 : decode cJ9_min_7cf53 0 = .ok (.iload_n 0, 1) := by decide +kernel
theorem dJ9_min_7cf53_1 : decode cJ9_min_7cf53 1 = .ok (.iload_n 1, 1) := by decide +kernel
theorem dJ9_min_7cf53_2 : decode cJ9_min_7cf53 2 = .ok (.if_icmp .gt 7, 3) := by decide +kernel
theorem dJ9_min_7cf53_5 : decode cJ9_min_7cf53 5 = .ok (.iload_n 0, 1) := by decide +kernel
theorem dJ9_min_7cf53_6 : decode cJ9_min_7cf53 6 = .ok (.goto 4, 3) := by decide +kernel
theorem dJ9_min_7cf53_9 : decode cJ9_min_7cf53 9 = .ok (.iload_n 1, 1) := by decide +kernel
theorem dJ9_min_7cf53_10 : decode cJ9_min_7cf53 10 = .ok (.ireturn, 1) := by decide +kernel
theorem dL_atom_0 : decode cL_atom 0 = .ok (.aload_n 3, 1) := by decide +kernel
theorem dL_atom_1 : decode cL_atom 1 = .ok (.iconst 0, 1) := by decide +kernel
theorem dL_atom_2 : decode cL_atom 2 = .ok (.aload_n 0, 1) := by decide +kernel
theorem dL_atom_3 : decode cL_atom 3 = .ok (.iload_n 1, 1) := by decide +kernel
theorem dL_atom_4 : decode cL_atom 4 = .ok (.iload_n 2, 1) := by decide +kernel
theorem dL_atom_5 : decode cL_atom 5 = .ok (.invokevirtual 7, 3) := by decide +kernel
theorem dL_atom_8 : decode cL_atom 8 = .ok (.i2l, 1) := by decide +kernel
theorem dL_atom_9 : decode cL_atom 9 = .ok (.lastore, 1) := by decide +kernel
theorem dL_atom_10 : decode cL_atom 10 = .ok (.goto 11, 3) := by decide +kernel
theorem dL_atom_13 : decode cL_atom 13 = .ok (.astore 4, 2) := by decide +kernel
theorem dL_atom_15 : decode cL_atom 15 = .ok (.iconst 1, 1) := by decide +kernel
theorem dL_atom_16 : decode cL_atom 16 = .ok (.ireturn, 1) := by decide +kernel
theorem dL_atom_17 : decode cL_atom 17 = .ok (.astore 4, 2) := by decide +kernel
theorem dL_atom_19 : decode cL_atom 19 = .ok (.iconst 2, 1) := by decide +kernel
theorem dL_atom_20 : decode cL_atom 20 = .ok (.ireturn, 1) := by decide +kernel
theorem dL_atom_21 : decode cL_atom 21 = .ok (.iconst 0, 1) := by decide +kernel
theorem dL_atom_22 : decode cL_atom 22 = .ok (.ireturn, 1) := by decide +kernel
theorem dL_script_0 : decode cL_script 0 = .ok (.aload 4, 2) := by decide +kernel
theorem dL_script_2 : decode cL_script 2 = .ok (.iconst 0, 1) := by decide +kernel
theorem dL_script_3 : decode cL_script 3 = .ok (.aload_n 0, 1) := by decide +kernel
theorem dL_script_4 : decode cL_script 4 = .ok (.iload_n 1, 1) := by decide +kernel
theorem dL_script_5 : decode cL_script 5 = .ok (.iload_n 2, 1) := by decide +kernel
theorem dL_script_6 : decode cL_script 6 = .ok (.iload_n 3, 1) := by decide +kernel
theorem dL_script_7 : decode cL_script 7 = .ok (.invokevirtual 17, 3) := by decide +kernel
theorem dL_script_10 : decode cL_script 10 = .ok (.i2l, 1) := by decide +kernel
theorem dL_script_11 : decode cL_script 11 = .ok (.lastore, 1) := by decide +kernel
theorem dL_script_12 : decode cL_script 12 = .ok (.goto 11, 3) := by decide +kernel
theorem dL_script_15 : decode cL_script 15 = .ok (.astore 5, 2) := by decide +kernel
theorem dL_script_17 : decode cL_script 17 = .ok (.iconst 1, 1) := by decide +kernel
theorem dL_script_18 : decode cL_script 18 = .ok (.ireturn, 1) := by decide +kernel
theorem dL_script_19 : decode cL_script 19 = .ok (.astore 5, 2) := by decide +kernel
theorem dL_script_21 : decode cL_script 21 = .ok (.iconst 2, 1) := by decide +kernel
theorem dL_script_22 : decode cL_script 22 = .ok (.ireturn, 1) := by decide +kernel
theorem dL_script_23 : decode cL_script 23 = .ok (.iconst 0, 1) := by decide +kernel
theorem dL_script_24 : decode cL_script 24 = .ok (.ireturn, 1) := by decide +kernel
theorem dL_fraction_0 : decode cL_fraction 0 = .ok (.aload 5, 2) := by decide +kernel
theorem dL_fraction_2 : decode cL_fraction 2 = .ok (.iconst 0, 1) := by decide +kernel
theorem dL_fraction_3 : decode cL_fraction 3 = .ok (.aload_n 0, 1) := by decide +kernel
theorem dL_fraction_4 : decode cL_fraction 4 = .ok (.iload_n 1, 1) := by decide +kernel
theorem dL_fraction_5 : decode cL_fraction 5 = .ok (.iload_n 2, 1) := by decide +kernel
theorem dL_fraction_6 : decode cL_fraction 6 = .ok (.lload_n 3, 1) := by decide +kernel
theorem dL_fraction_7 : decode cL_fraction 7 = .ok (.invokevirtual 25, 3) := by decide +kernel
theorem dL_fraction_10 : decode cL_fraction 10 = .ok (.i2l, 1) := by decide +kernel
theorem dL_fraction_11 : decode cL_fraction 11 = .ok (.lastore, 1) := by decide +kernel
theorem dL_fraction_12 : decode cL_fraction 12 = .ok (.goto 19, 3) := by decide +kernel
theorem dL_fraction_15 : decode cL_fraction 15 = .ok (.astore 6, 2) := by decide +kernel
theorem dL_fraction_17 : decode cL_fraction 17 = .ok (.iconst 1, 1) := by decide +kernel
theorem dL_fraction_18 : decode cL_fraction 18 = .ok (.ireturn, 1) := by decide +kernel
theorem dL_fraction_19 : decode cL_fraction 19 = .ok (.astore 6, 2) := by decide +kernel
theorem dL_fraction_21 : decode cL_fraction 21 = .ok (.iconst 2, 1) := by decide +kernel
theorem dL_fraction_22 : decode cL_fraction 22 = .ok (.ireturn, 1) := by decide +kernel
theorem dL_fraction_23 : decode cL_fraction 23 = .ok (.astore 6, 2) := by decide +kernel
theorem dL_fraction_25 : decode cL_fraction 25 = .ok (.iconst 3, 1) := by decide +kernel
theorem dL_fraction_26 : decode cL_fraction 26 = .ok (.ireturn, 1) := by decide +kernel
theorem dL_fraction_27 : decode cL_fraction 27 = .ok (.astore 6, 2) := by decide +kernel
theorem dL_fraction_29 : decode cL_fraction 29 = .ok (.iconst 4, 1) := by decide +kernel
theorem dL_fraction_30 : decode cL_fraction 30 = .ok (.ireturn, 1) := by decide +kernel
theorem dL_fraction_31 : decode cL_fraction 31 = .ok (.iconst 0, 1) := by decide +kernel
theorem dL_fraction_32 : decode cL_fraction 32 = .ok (.ireturn, 1) := by decide +kernel
theorem dL_fence_0 : decode cL_fence 0 = .ok (.aload 4, 2) := by decide +kernel
theorem dL_fence_2 : decode cL_fence 2 = .ok (.iconst 0, 1) := by decide +kernel
theorem dL_fence_3 : decode cL_fence 3 = .ok (.aload_n 0, 1) := by decide +kernel
theorem dL_fence_4 : decode cL_fence 4 = .ok (.iload_n 1, 1) := by decide +kernel
theorem dL_fence_5 : decode cL_fence 5 = .ok (.iload_n 2, 1) := by decide +kernel
theorem dL_fence_6 : decode cL_fence 6 = .ok (.iload_n 3, 1) := by decide +kernel
theorem dL_fence_7 : decode cL_fence 7 = .ok (.invokevirtual 29, 3) := by decide +kernel
theorem dL_fence_10 : decode cL_fence 10 = .ok (.i2l, 1) := by decide +kernel
theorem dL_fence_11 : decode cL_fence 11 = .ok (.lastore, 1) := by decide +kernel
theorem dL_fence_12 : decode cL_fence 12 = .ok (.goto 19, 3) := by decide +kernel
theorem dL_fence_15 : decode cL_fence 15 = .ok (.astore 5, 2) := by decide +kernel
theorem dL_fence_17 : decode cL_fence 17 = .ok (.iconst 1, 1) := by decide +kernel
theorem dL_fence_18 : decode cL_fence 18 = .ok (.ireturn, 1) := by decide +kernel
theorem dL_fence_19 : decode cL_fence 19 = .ok (.astore 5, 2) := by decide +kernel
theorem dL_fence_21 : decode cL_fence 21 = .ok (.iconst 2, 1) := by decide +kernel
theorem dL_fence_22 : decode cL_fence 22 = .ok (.ireturn, 1) := by decide +kernel
theorem dL_fence_23 : decode cL_fence 23 = .ok (.astore 5, 2) := by decide +kernel
theorem dL_fence_25 : decode cL_fence 25 = .ok (.iconst 3, 1) := by decide +kernel
theorem dL_fence_26 : decode cL_fence 26 = .ok (.ireturn, 1) := by decide +kernel
theorem dL_fence_27 : decode cL_fence 27 = .ok (.astore 5, 2) := by decide +kernel
theorem dL_fence_29 : decode cL_fence 29 = .ok (.iconst 4, 1) := by decide +kernel
theorem dL_fence_30 : decode cL_fence 30 = .ok (.ireturn, 1) := by decide +kernel
theorem dL_fence_31 : decode cL_fence 31 = .ok (.iconst 0, 1) := by decide +kernel
theorem dL_fence_32 : decode cL_fence 32 = .ok (.ireturn, 1) := by decide +kernel
theorem dL_matrix_0 : decode cL_matrix 0 = .ok (.aload_n 3, 1) := by decide +kernel
theorem dL_matrix_1 : decode cL_matrix 1 = .ok (.iconst 0, 1) := by decide +kernel
theorem dL_matrix_2 : decode cL_matrix 2 = .ok (.aload_n 0, 1) := by decide +kernel
theorem dL_matrix_3 : decode cL_matrix 3 = .ok (.iload_n 1, 1) := by decide +kernel
theorem dL_matrix_4 : decode cL_matrix 4 = .ok (.iload_n 2, 1) := by decide +kernel
theorem dL_matrix_5 : decode cL_matrix 5 = .ok (.invokevirtual 33, 3) := by decide +kernel
theorem dL_matrix_8 : decode cL_matrix 8 = .ok (.i2l, 1) := by decide +kernel
theorem dL_matrix_9 : decode cL_matrix 9 = .ok (.lastore, 1) := by decide +kernel
theorem dL_matrix_10 : decode cL_matrix 10 = .ok (.goto 7, 3) := by decide +kernel
theorem dL_matrix_13 : decode cL_matrix 13 = .ok (.astore 4, 2) := by decide +kernel
theorem dL_matrix_15 : decode cL_matrix 15 = .ok (.iconst 1, 1) := by decide +kernel
theorem dL_matrix_16 : decode cL_matrix 16 = .ok (.ireturn, 1) := by decide +kernel
theorem dL_matrix_17 : decode cL_matrix 17 = .ok (.iconst 0, 1) := by decide +kernel
theorem dL_matrix_18 : decode cL_matrix 18 = .ok (.ireturn, 1) := by decide +kernel
theorem dL_style_0 : decode cL_style 0 = .ok (.aload_n 3, 1) := by decide +kernel
theorem dL_style_1 : decode cL_style 1 = .ok (.iconst 0, 1) := by decide +kernel
theorem dL_style_2 : decode cL_style 2 = .ok (.aload_n 0, 1) := by decide +kernel
theorem dL_style_3 : decode cL_style 3 = .ok (.iload_n 1, 1) := by decide +kernel
theorem dL_style_4 : decode cL_style 4 = .ok (.iload_n 2, 1) := by decide +kernel
theorem dL_style_5 : decode cL_style 5 = .ok (.invokevirtual 36, 3) := by decide +kernel
theorem dL_style_8 : decode cL_style 8 = .ok (.i2l, 1) := by decide +kernel
theorem dL_style_9 : decode cL_style 9 = .ok (.lastore, 1) := by decide +kernel
theorem dL_style_10 : decode cL_style 10 = .ok (.goto 11, 3) := by decide +kernel
theorem dL_style_13 : decode cL_style 13 = .ok (.astore 4, 2) := by decide +kernel
theorem dL_style_15 : decode cL_style 15 = .ok (.iconst 1, 1) := by decide +kernel
theorem dL_style_16 : decode cL_style 16 = .ok (.ireturn, 1) := by decide +kernel
theorem dL_style_17 : decode cL_style 17 = .ok (.astore 4, 2) := by decide +kernel
theorem dL_style_19 : decode cL_style 19 = .ok (.iconst 2, 1) := by decide +kernel
theorem dL_style_20 : decode cL_style 20 = .ok (.ireturn, 1) := by decide +kernel
theorem dL_style_21 : decode cL_style 21 = .ok (.iconst 0, 1) := by decide +kernel
theorem dL_style_22 : decode cL_style 22 = .ok (.ireturn, 1) := by decide +kernel
theorem dL_run_0 : decode cL_run 0 = .ok (.aload_n 2, 1) := by decide +kernel
theorem dL_run_1 : decode cL_run 1 = .ok (.iconst 0, 1) := by decide +kernel
theorem dL_run_2 : decode cL_run 2 = .ok (.aload_n 0, 1) := by decide +kernel
theorem dL_run_3 : decode cL_run 3 = .ok (.iload_n 1, 1) := by decide +kernel
theorem dL_run_4 : decode cL_run 4 = .ok (.invokevirtual 40, 3) := by decide +kernel
theorem dL_run_7 : decode cL_run 7 = .ok (.i2l, 1) := by decide +kernel
theorem dL_run_8 : decode cL_run 8 = .ok (.lastore, 1) := by decide +kernel
theorem dL_run_9 : decode cL_run 9 = .ok (.goto 6, 3) := by decide +kernel
theorem dL_run_12 : decode cL_run 12 = .ok (.astore_n 3, 1) := by decide +kernel
theorem dL_run_13 : decode cL_run 13 = .ok (.iconst 1, 1) := by decide +kernel
theorem dL_run_14 : decode cL_run 14 = .ok (.ireturn, 1) := by decide +kernel
theorem dL_run_15 : decode cL_run 15 = .ok (.iconst 0, 1) := by decide +kernel
theorem dL_run_16 : decode cL_run 16 = .ok (.ireturn, 1) := by decide +kernel
theorem dL_item_0 : decode cL_item 0 = .ok (.aload_n 3, 1) := by decide +kernel
theorem dL_item_1 : decode cL_item 1 = .ok (.iconst 0, 1) := by decide +kernel
theorem dL_item_2 : decode cL_item 2 = .ok (.aload_n 0, 1) := by decide +kernel
theorem dL_item_3 : decode cL_item 3 = .ok (.iload_n 1, 1) := by decide +kernel
theorem dL_item_4 : decode cL_item 4 = .ok (.iload_n 2, 1) := by decide +kernel
theorem dL_item_5 : decode cL_item 5 = .ok (.invokevirtual 44, 3) := by decide +kernel
theorem dL_item_8 : decode cL_item 8 = .ok (.i2l, 1) := by decide +kernel
theorem dL_item_9 : decode cL_item 9 = .ok (.lastore, 1) := by decide +kernel
theorem dL_item_10 : decode cL_item 10 = .ok (.goto 7, 3) := by decide +kernel
theorem dL_item_13 : decode cL_item 13 = .ok (.astore 4, 2) := by decide +kernel
theorem dL_item_15 : decode cL_item 15 = .ok (.iconst 1, 1) := by decide +kernel
theorem dL_item_16 : decode cL_item 16 = .ok (.ireturn, 1) := by decide +kernel
theorem dL_item_17 : decode cL_item 17 = .ok (.iconst 0, 1) := by decide +kernel
theorem dL_item_18 : decode cL_item 18 = .ok (.ireturn, 1) := by decide +kernel
theorem dL_space_0 : decode cL_space 0 = .ok (.aload_n 3, 1) := by decide +kernel
theorem dL_space_1 : decode cL_space 1 = .ok (.iconst 0, 1) := by decide +kernel
theorem dL_space_2 : decode cL_space 2 = .ok (.aload_n 0, 1) := by decide +kernel
theorem dL_space_3 : decode cL_space 3 = .ok (.iload_n 1, 1) := by decide +kernel
theorem dL_space_4 : decode cL_space 4 = .ok (.iload_n 2, 1) := by decide +kernel
theorem dL_space_5 : decode cL_space 5 = .ok (.invokevirtual 49, 3) := by decide +kernel
theorem dL_space_8 : decode cL_space 8 = .ok (.i2l, 1) := by decide +kernel
theorem dL_space_9 : decode cL_space 9 = .ok (.lastore, 1) := by decide +kernel
theorem dL_space_10 : decode cL_space 10 = .ok (.goto 7, 3) := by decide +kernel
theorem dL_space_13 : decode cL_space 13 = .ok (.astore 4, 2) := by decide +kernel
theorem dL_space_15 : decode cL_space 15 = .ok (.iconst 1, 1) := by decide +kernel
theorem dL_space_16 : decode cL_space 16 = .ok (.ireturn, 1) := by decide +kernel
theorem dL_space_17 : decode cL_space 17 = .ok (.iconst 0, 1) := by decide +kernel
theorem dL_space_18 : decode cL_space 18 = .ok (.ireturn, 1) := by decide +kernel
theorem dL_kind_0 : decode cL_kind 0 = .ok (.aload_n 2, 1) := by decide +kernel
theorem dL_kind_1 : decode cL_kind 1 = .ok (.iconst 0, 1) := by decide +kernel
theorem dL_kind_2 : decode cL_kind 2 = .ok (.aload_n 0, 1) := by decide +kernel
theorem dL_kind_3 : decode cL_kind 3 = .ok (.iload_n 1, 1) := by decide +kernel
theorem dL_kind_4 : decode cL_kind 4 = .ok (.invokevirtual 52, 3) := by decide +kernel
theorem dL_kind_7 : decode cL_kind 7 = .ok (.i2l, 1) := by decide +kernel
theorem dL_kind_8 : decode cL_kind 8 = .ok (.lastore, 1) := by decide +kernel
theorem dL_kind_9 : decode cL_kind 9 = .ok (.goto 6, 3) := by decide +kernel
theorem dL_kind_12 : decode cL_kind 12 = .ok (.astore_n 3, 1) := by decide +kernel
theorem dL_kind_13 : decode cL_kind 13 = .ok (.iconst 1, 1) := by decide +kernel
theorem dL_kind_14 : decode cL_kind 14 = .ok (.ireturn, 1) := by decide +kernel
theorem dL_kind_15 : decode cL_kind 15 = .ok (.iconst 0, 1) := by decide +kernel
theorem dL_kind_16 : decode cL_kind 16 = .ok (.ireturn, 1) := by decide +kernel
theorem dL_split_0 : decode cL_split 0 = .ok (.aload_n 3, 1) := by decide +kernel
theorem dL_split_1 : decode cL_split 1 = .ok (.iconst 0, 1) := by decide +kernel
theorem dL_split_2 : decode cL_split 2 = .ok (.aload_n 0, 1) := by decide +kernel
theorem dL_split_3 : decode cL_split 3 = .ok (.iload_n 1, 1) := by decide +kernel
theorem dL_split_4 : decode cL_split 4 = .ok (.iload_n 2, 1) := by decide +kernel
theorem dL_split_5 : decode cL_split 5 = .ok (.invokevirtual 55, 3) := by decide +kernel
theorem dL_split_8 : decode cL_split 8 = .ok (.i2l, 1) := by decide +kernel
theorem dL_split_9 : decode cL_split 9 = .ok (.lastore, 1) := by decide +kernel
theorem dL_split_10 : decode cL_split 10 = .ok (.goto 15, 3) := by decide +kernel
theorem dL_split_13 : decode cL_split 13 = .ok (.astore 4, 2) := by decide +kernel
theorem dL_split_15 : decode cL_split 15 = .ok (.iconst 1, 1) := by decide +kernel
theorem dL_split_16 : decode cL_split 16 = .ok (.ireturn, 1) := by decide +kernel
theorem dL_split_17 : decode cL_split 17 = .ok (.astore 4, 2) := by decide +kernel
theorem dL_split_19 : decode cL_split 19 = .ok (.iconst 2, 1) := by decide +kernel
theorem dL_split_20 : decode cL_split 20 = .ok (.ireturn, 1) := by decide +kernel
theorem dL_split_21 : decode cL_split 21 = .ok (.astore 4, 2) := by decide +kernel
theorem dL_split_23 : decode cL_split 23 = .ok (.iconst 3, 1) := by decide +kernel
theorem dL_split_24 : decode cL_split 24 = .ok (.ireturn, 1) := by decide +kernel
theorem dL_split_25 : decode cL_split 25 = .ok (.iconst 0, 1) := by decide +kernel
theorem dL_split_26 : decode cL_split 26 = .ok (.ireturn, 1) := by decide +kernel
theorem dL_law_0 : decode cL_law 0 = .ok (.new 8, 3) := by decide +kernel
theorem dL_law_3 : decode cL_law 3 = .ok (.dup, 1) := by decide +kernel
theorem dL_law_4 : decode cL_law 4 = .ok (.invokespecial 58, 3) := by decide +kernel
theorem dL_law_7 : decode cL_law 7 = .ok (.astore_n 1, 1) := by decide +kernel
theorem dL_law_8 : decode cL_law 8 = .ok (.new 59, 3) := by decide +kernel
theorem dL_law_11 : decode cL_law 11 = .ok (.dup, 1) := by decide +kernel
theorem dL_law_12 : decode cL_law 12 = .ok (.invokespecial 61, 3) := by decide +kernel
theorem dL_law_15 : decode cL_law 15 = .ok (.astore_n 2, 1) := by decide +kernel
theorem dL_law_16 : decode cL_law 16 = .ok (.iconst 1, 1) := by decide +kernel
theorem dL_law_17 : decode cL_law 17 = .ok (.newarray .long, 2) := by decide +kernel
theorem dL_law_19 : decode cL_law 19 = .ok (.astore_n 3, 1) := by decide +kernel
theorem dL_law_20 : decode cL_law 20 = .ok (.iconst 0, 1) := by decide +kernel
theorem dL_law_21 : decode cL_law 21 = .ok (.istore 4, 2) := by decide +kernel
theorem dL_law_23 : decode cL_law 23 = .ok (.iload 4, 2) := by decide +kernel
theorem dL_law_25 : decode cL_law 25 = .ok (.aload_n 0, 1) := by decide +kernel
theorem dL_law_26 : decode cL_law 26 = .ok (.arraylength, 1) := by decide +kernel
theorem dL_law_27 : decode cL_law 27 = .ok (.iconst 5, 1) := by decide +kernel
theorem dL_law_28 : decode cL_law 28 = .ok (.isub, 1) := by decide +kernel
theorem dL_law_29 : decode cL_law 29 = .ok (.if_icmp .gt 897, 3) := by decide +kernel
theorem dL_law_32 : decode cL_law 32 = .ok (.aload_n 0, 1) := by decide +kernel
theorem dL_law_33 : decode cL_law 33 = .ok (.iload 4, 2) := by decide +kernel
theorem dL_law_35 : decode cL_law 35 = .ok (.iaload, 1) := by decide +kernel
theorem dL_law_36 : decode cL_law 36 = .ok (.bipush 15, 2) := by decide +kernel
theorem dL_law_38 : decode cL_law 38 = .ok (.iand, 1) := by decide +kernel
theorem dL_law_39 : decode cL_law 39 = .ok (.tableswitch 881 0 10 #[57, 125, 221, 333, 413, 481, 565, 621, 689, 757, 813], 57) := by decide +kernel
theorem dL_law_96 : decode cL_law 96 = .ok (.aload_n 1, 1) := by decide +kernel
theorem dL_law_97 : decode cL_law 97 = .ok (.aload_n 0, 1) := by decide +kernel
theorem dL_law_98 : decode cL_law 98 = .ok (.iload 4, 2) := by decide +kernel
theorem dL_law_100 : decode cL_law 100 = .ok (.iconst 1, 1) := by decide +kernel
theorem dL_law_101 : decode cL_law 101 = .ok (.iadd, 1) := by decide +kernel
theorem dL_law_102 : decode cL_law 102 = .ok (.iaload, 1) := by decide +kernel
theorem dL_law_103 : decode cL_law 103 = .ok (.aload_n 0, 1) := by decide +kernel
theorem dL_law_104 : decode cL_law 104 = .ok (.iload 4, 2) := by decide +kernel
theorem dL_law_106 : decode cL_law 106 = .ok (.iconst 2, 1) := by decide +kernel
theorem dL_law_107 : decode cL_law 107 = .ok (.iadd, 1) := by decide +kernel
theorem dL_law_108 : decode cL_law 108 = .ok (.iaload, 1) := by decide +kernel
theorem dL_law_109 : decode cL_law 109 = .ok (.aload_n 3, 1) := by decide +kernel
theorem dL_law_110 : decode cL_law 110 = .ok (.invokestatic 62, 3) := by decide +kernel
theorem dL_law_113 : decode cL_law 113 = .ok (.istore 5, 2) := by decide +kernel
theorem dL_law_115 : decode cL_law 115 = .ok (.aload_n 2, 1) := by decide +kernel
theorem dL_law_116 : decode cL_law 116 = .ok (.aload_n 0, 1) := by decide +kernel
theorem dL_law_117 : decode cL_law 117 = .ok (.iload 4, 2) := by decide +kernel
theorem dL_law_119 : decode cL_law 119 = .ok (.iconst 1, 1) := by decide +kernel
theorem dL_law_120 : decode cL_law 120 = .ok (.iadd, 1) := by decide +kernel
theorem dL_law_121 : decode cL_law 121 = .ok (.iaload, 1) := by decide +kernel
theorem dL_law_122 : decode cL_law 122 = .ok (.aload_n 0, 1) := by decide +kernel
theorem dL_law_123 : decode cL_law 123 = .ok (.iload 4, 2) := by decide +kernel
theorem dL_law_125 : decode cL_law 125 = .ok (.iconst 2, 1) := by decide +kernel
theorem dL_law_126 : decode cL_law 126 = .ok (.iadd, 1) := by decide +kernel
theorem dL_law_127 : decode cL_law 127 = .ok (.iaload, 1) := by decide +kernel
theorem dL_law_128 : decode cL_law 128 = .ok (.invokevirtual 67, 3) := by decide +kernel
theorem dL_law_131 : decode cL_law 131 = .ok (.istore 6, 2) := by decide +kernel
theorem dL_law_133 : decode cL_law 133 = .ok (.aload_n 2, 1) := by decide +kernel
theorem dL_law_134 : decode cL_law 134 = .ok (.invokevirtual 68, 3) := by decide +kernel
theorem dL_law_137 : decode cL_law 137 = .ok (.iload 5, 2) := by decide +kernel
theorem dL_law_139 : decode cL_law 139 = .ok (.if_icmp .eq 5, 3) := by decide +kernel
theorem dL_law_142 : decode cL_law 142 = .ok (.iconst 0, 1) := by decide +kernel
theorem dL_law_143 : decode cL_law 143 = .ok (.ireturn, 1) := by decide +kernel
theorem dL_law_144 : decode cL_law 144 = .ok (.iload 5, 2) := by decide +kernel
theorem dL_law_146 : decode cL_law 146 = .ok (.ifCond .ne 15, 3) := by decide +kernel
theorem dL_law_149 : decode cL_law 149 = .ok (.aload_n 3, 1) := by decide +kernel
theorem dL_law_150 : decode cL_law 150 = .ok (.iconst 0, 1) := by decide +kernel
theorem dL_law_151 : decode cL_law 151 = .ok (.laload, 1) := by decide +kernel
theorem dL_law_152 : decode cL_law 152 = .ok (.iload 6, 2) := by decide +kernel
theorem dL_law_154 : decode cL_law 154 = .ok (.i2l, 1) := by decide +kernel
theorem dL_law_155 : decode cL_law 155 = .ok (.lcmp, 1) := by decide +kernel
theorem dL_law_156 : decode cL_law 156 = .ok (.ifCond .eq 5, 3) := by decide +kernel
theorem dL_law_159 : decode cL_law 159 = .ok (.iconst 0, 1) := by decide +kernel
theorem dL_law_160 : decode cL_law 160 = .ok (.ireturn, 1) := by decide +kernel
theorem dL_law_161 : decode cL_law 161 = .ok (.goto 759, 3) := by decide +kernel
theorem dL_law_164 : decode cL_law 164 = .ok (.aload_n 1, 1) := by decide +kernel
theorem dL_law_165 : decode cL_law 165 = .ok (.aload_n 0, 1) := by decide +kernel
theorem dL_law_166 : decode cL_law 166 = .ok (.iload 4, 2) := by decide +kernel
theorem dL_law_168 : decode cL_law 168 = .ok (.iconst 1, 1) := by decide +kernel
theorem dL_law_169 : decode cL_law 169 = .ok (.iadd, 1) := by decide +kernel
theorem dL_law_170 : decode cL_law 170 = .ok (.iaload, 1) := by decide +kernel
theorem dL_law_171 : decode cL_law 171 = .ok (.aload_n 0, 1) := by decide +kernel
theorem dL_law_172 : decode cL_law 172 = .ok (.iload 4, 2) := by decide +kernel
theorem dL_law_174 : decode cL_law 174 = .ok (.iconst 2, 1) := by decide +kernel
theorem dL_law_175 : decode cL_law 175 = .ok (.iadd, 1) := by decide +kernel
theorem dL_law_176 : decode cL_law 176 = .ok (.iaload, 1) := by decide +kernel
theorem dL_law_177 : decode cL_law 177 = .ok (.ifCond .eq 7, 3) := by decide +kernel
theorem dL_law_180 : decode cL_law 180 = .ok (.iconst 1, 1) := by decide +kernel
theorem dL_law_181 : decode cL_law 181 = .ok (.goto 4, 3) := by decide +kernel
theorem dL_law_184 : decode cL_law 184 = .ok (.iconst 0, 1) := by decide +kernel
theorem dL_law_185 : decode cL_law 185 = .ok (.aload_n 0, 1) := by decide +kernel
theorem dL_law_186 : decode cL_law 186 = .ok (.iload 4, 2) := by decide +kernel
theorem dL_law_188 : decode cL_law 188 = .ok (.iconst 3, 1) := by decide +kernel
theorem dL_law_189 : decode cL_law 189 = .ok (.iadd, 1) := by decide +kernel
theorem dL_law_190 : decode cL_law 190 = .ok (.iaload, 1) := by decide +kernel
theorem dL_law_191 : decode cL_law 191 = .ok (.aload_n 3, 1) := by decide +kernel
theorem dL_law_192 : decode cL_law 192 = .ok (.invokestatic 72, 3) := by decide +kernel
theorem dL_law_195 : decode cL_law 195 = .ok (.istore 5, 2) := by decide +kernel
theorem dL_law_197 : decode cL_law 197 = .ok (.aload_n 2, 1) := by decide +kernel
theorem dL_law_198 : decode cL_law 198 = .ok (.aload_n 0, 1) := by decide +kernel
theorem dL_law_199 : decode cL_law 199 = .ok (.iload 4, 2) := by decide +kernel
theorem dL_law_201 : decode cL_law 201 = .ok (.iconst 1, 1) := by decide +kernel
theorem dL_law_202 : decode cL_law 202 = .ok (.iadd, 1) := by decide +kernel
theorem dL_law_203 : decode cL_law 203 = .ok (.iaload, 1) := by decide +kernel
theorem dL_law_204 : decode cL_law 204 = .ok (.aload_n 0, 1) := by decide +kernel
theorem dL_law_205 : decode cL_law 205 = .ok (.iload 4, 2) := by decide +kernel
theorem dL_law_207 : decode cL_law 207 = .ok (.iconst 2, 1) := by decide +kernel
theorem dL_law_208 : decode cL_law 208 = .ok (.iadd, 1) := by decide +kernel
theorem dL_law_209 : decode cL_law 209 = .ok (.iaload, 1) := by decide +kernel
theorem dL_law_210 : decode cL_law 210 = .ok (.ifCond .eq 7, 3) := by decide +kernel
theorem dL_law_213 : decode cL_law 213 = .ok (.iconst 1, 1) := by decide +kernel
theorem dL_law_214 : decode cL_law 214 = .ok (.goto 4, 3) := by decide +kernel
theorem dL_law_217 : decode cL_law 217 = .ok (.iconst 0, 1) := by decide +kernel
theorem dL_law_218 : decode cL_law 218 = .ok (.aload_n 0, 1) := by decide +kernel
theorem dL_law_219 : decode cL_law 219 = .ok (.iload 4, 2) := by decide +kernel
theorem dL_law_221 : decode cL_law 221 = .ok (.iconst 3, 1) := by decide +kernel
theorem dL_law_222 : decode cL_law 222 = .ok (.iadd, 1) := by decide +kernel
theorem dL_law_223 : decode cL_law 223 = .ok (.iaload, 1) := by decide +kernel
theorem dL_law_224 : decode cL_law 224 = .ok (.invokevirtual 75, 3) := by decide +kernel
theorem dL_law_227 : decode cL_law 227 = .ok (.istore 6, 2) := by decide +kernel
theorem dL_law_229 : decode cL_law 229 = .ok (.aload_n 2, 1) := by decide +kernel
theorem dL_law_230 : decode cL_law 230 = .ok (.invokevirtual 68, 3) := by decide +kernel
theorem dL_law_233 : decode cL_law 233 = .ok (.iload 5, 2) := by decide +kernel
theorem dL_law_235 : decode cL_law 235 = .ok (.if_icmp .eq 5, 3) := by decide +kernel
theorem dL_law_238 : decode cL_law 238 = .ok (.iconst 0, 1) := by decide +kernel
theorem dL_law_239 : decode cL_law 239 = .ok (.ireturn, 1) := by decide +kernel
theorem dL_law_240 : decode cL_law 240 = .ok (.iload 5, 2) := by decide +kernel
theorem dL_law_242 : decode cL_law 242 = .ok (.ifCond .ne 15, 3) := by decide +kernel
theorem dL_law_245 : decode cL_law 245 = .ok (.aload_n 3, 1) := by decide +kernel
theorem dL_law_246 : decode cL_law 246 = .ok (.iconst 0, 1) := by decide +kernel
theorem dL_law_247 : decode cL_law 247 = .ok (.laload, 1) := by decide +kernel
theorem dL_law_248 : decode cL_law 248 = .ok (.iload 6, 2) := by decide +kernel
theorem dL_law_250 : decode cL_law 250 = .ok (.i2l, 1) := by decide +kernel
theorem dL_law_251 : decode cL_law 251 = .ok (.lcmp, 1) := by decide +kernel
theorem dL_law_252 : decode cL_law 252 = .ok (.ifCond .eq 5, 3) := by decide +kernel
theorem dL_law_255 : decode cL_law 255 = .ok (.iconst 0, 1) := by decide +kernel
theorem dL_law_256 : decode cL_law 256 = .ok (.ireturn, 1) := by decide +kernel
theorem dL_law_257 : decode cL_law 257 = .ok (.goto 663, 3) := by decide +kernel
theorem dL_law_260 : decode cL_law 260 = .ok (.aload_n 1, 1) := by decide +kernel
theorem dL_law_261 : decode cL_law 261 = .ok (.aload_n 0, 1) := by decide +kernel
theorem dL_law_262 : decode cL_law 262 = .ok (.iload 4, 2) := by decide +kernel
theorem dL_law_264 : decode cL_law 264 = .ok (.iconst 1, 1) := by decide +kernel
theorem dL_law_265 : decode cL_law 265 = .ok (.iadd, 1) := by decide +kernel
theorem dL_law_266 : decode cL_law 266 = .ok (.iaload, 1) := by decide +kernel
theorem dL_law_267 : decode cL_law 267 = .ok (.aload_n 0, 1) := by decide +kernel
theorem dL_law_268 : decode cL_law 268 = .ok (.iload 4, 2) := by decide +kernel
theorem dL_law_270 : decode cL_law 270 = .ok (.iconst 2, 1) := by decide +kernel
theorem dL_law_271 : decode cL_law 271 = .ok (.iadd, 1) := by decide +kernel
theorem dL_law_272 : decode cL_law 272 = .ok (.iaload, 1) := by decide +kernel
theorem dL_law_273 : decode cL_law 273 = .ok (.aload_n 0, 1) := by decide +kernel
theorem dL_law_274 : decode cL_law 274 = .ok (.iload 4, 2) := by decide +kernel
theorem dL_law_276 : decode cL_law 276 = .ok (.iconst 3, 1) := by decide +kernel
theorem dL_law_277 : decode cL_law 277 = .ok (.iadd, 1) := by decide +kernel
theorem dL_law_278 : decode cL_law 278 = .ok (.iaload, 1) := by decide +kernel
theorem dL_law_279 : decode cL_law 279 = .ok (.i2l, 1) := by decide +kernel
theorem dL_law_280 : decode cL_law 280 = .ok (.bipush 32, 2) := by decide +kernel
theorem dL_law_282 : decode cL_law 282 = .ok (.lshl, 1) := by decide +kernel
theorem dL_law_283 : decode cL_law 283 = .ok (.aload_n 0, 1) := by decide +kernel
theorem dL_law_284 : decode cL_law 284 = .ok (.iload 4, 2) := by decide +kernel
theorem dL_law_286 : decode cL_law 286 = .ok (.iconst 4, 1) := by decide +kernel
theorem dL_law_287 : decode cL_law 287 = .ok (.iadd, 1) := by decide +kernel
theorem dL_law_288 : decode cL_law 288 = .ok (.iaload, 1) := by decide +kernel
theorem dL_law_289 : decode cL_law 289 = .ok (.i2l, 1) := by decide +kernel
theorem dL_law_290 : decode cL_law 290 = .ok (.ldc2_w 76, 3) := by decide +kernel
theorem dL_law_293 : decode cL_law 293 = .ok (.land, 1) := by decide +kernel
theorem dL_law_294 : decode cL_law 294 = .ok (.lor, 1) := by decide +kernel
theorem dL_law_295 : decode cL_law 295 = .ok (.aload_n 3, 1) := by decide +kernel
theorem dL_law_296 : decode cL_law 296 = .ok (.invokestatic 78, 3) := by decide +kernel
theorem dL_law_299 : decode cL_law 299 = .ok (.istore 5, 2) := by decide +kernel
theorem dL_law_301 : decode cL_law 301 = .ok (.aload_n 2, 1) := by decide +kernel
theorem dL_law_302 : decode cL_law 302 = .ok (.aload_n 0, 1) := by decide +kernel
theorem dL_law_303 : decode cL_law 303 = .ok (.iload 4, 2) := by decide +kernel
theorem dL_law_305 : decode cL_law 305 = .ok (.iconst 1, 1) := by decide +kernel
theorem dL_law_306 : decode cL_law 306 = .ok (.iadd, 1) := by decide +kernel
theorem dL_law_307 : decode cL_law 307 = .ok (.iaload, 1) := by decide +kernel
theorem dL_law_308 : decode cL_law 308 = .ok (.aload_n 0, 1) := by decide +kernel
theorem dL_law_309 : decode cL_law 309 = .ok (.iload 4, 2) := by decide +kernel
theorem dL_law_311 : decode cL_law 311 = .ok (.iconst 2, 1) := by decide +kernel
theorem dL_law_312 : decode cL_law 312 = .ok (.iadd, 1) := by decide +kernel
theorem dL_law_313 : decode cL_law 313 = .ok (.iaload, 1) := by decide +kernel
theorem dL_law_314 : decode cL_law 314 = .ok (.aload_n 0, 1) := by decide +kernel
theorem dL_law_315 : decode cL_law 315 = .ok (.iload 4, 2) := by decide +kernel
theorem dL_law_317 : decode cL_law 317 = .ok (.iconst 3, 1) := by decide +kernel
theorem dL_law_318 : decode cL_law 318 = .ok (.iadd, 1) := by decide +kernel
theorem dL_law_319 : decode cL_law 319 = .ok (.iaload, 1) := by decide +kernel
theorem dL_law_320 : decode cL_law 320 = .ok (.i2l, 1) := by decide +kernel
theorem dL_law_321 : decode cL_law 321 = .ok (.bipush 32, 2) := by decide +kernel
theorem dL_law_323 : decode cL_law 323 = .ok (.lshl, 1) := by decide +kernel
theorem dL_law_324 : decode cL_law 324 = .ok (.aload_n 0, 1) := by decide +kernel
theorem dL_law_325 : decode cL_law 325 = .ok (.iload 4, 2) := by decide +kernel
theorem dL_law_327 : decode cL_law 327 = .ok (.iconst 4, 1) := by decide +kernel
theorem dL_law_328 : decode cL_law 328 = .ok (.iadd, 1) := by decide +kernel
theorem dL_law_329 : decode cL_law 329 = .ok (.iaload, 1) := by decide +kernel
theorem dL_law_330 : decode cL_law 330 = .ok (.i2l, 1) := by decide +kernel
theorem dL_law_331 : decode cL_law 331 = .ok (.ldc2_w 76, 3) := by decide +kernel
theorem dL_law_334 : decode cL_law 334 = .ok (.land, 1) := by decide +kernel
theorem dL_law_335 : decode cL_law 335 = .ok (.lor, 1) := by decide +kernel
theorem dL_law_336 : decode cL_law 336 = .ok (.invokevirtual 81, 3) := by decide +kernel
theorem dL_law_339 : decode cL_law 339 = .ok (.istore 6, 2) := by decide +kernel
theorem dL_law_341 : decode cL_law 341 = .ok (.aload_n 2, 1) := by decide +kernel
theorem dL_law_342 : decode cL_law 342 = .ok (.invokevirtual 68, 3) := by decide +kernel
theorem dL_law_345 : decode cL_law 345 = .ok (.iload 5, 2) := by decide +kernel
theorem dL_law_347 : decode cL_law 347 = .ok (.if_icmp .eq 5, 3) := by decide +kernel
theorem dL_law_350 : decode cL_law 350 = .ok (.iconst 0, 1) := by decide +kernel
theorem dL_law_351 : decode cL_law 351 = .ok (.ireturn, 1) := by decide +kernel
theorem dL_law_352 : decode cL_law 352 = .ok (.iload 5, 2) := by decide +kernel
theorem dL_law_354 : decode cL_law 354 = .ok (.ifCond .ne 15, 3) := by decide +kernel
theorem dL_law_357 : decode cL_law 357 = .ok (.aload_n 3, 1) := by decide +kernel
theorem dL_law_358 : decode cL_law 358 = .ok (.iconst 0, 1) := by decide +kernel
theorem dL_law_359 : decode cL_law 359 = .ok (.laload, 1) := by decide +kernel
theorem dL_law_360 : decode cL_law 360 = .ok (.iload 6, 2) := by decide +kernel
theorem dL_law_362 : decode cL_law 362 = .ok (.i2l, 1) := by decide +kernel
theorem dL_law_363 : decode cL_law 363 = .ok (.lcmp, 1) := by decide +kernel
theorem dL_law_364 : decode cL_law 364 = .ok (.ifCond .eq 5, 3) := by decide +kernel
theorem dL_law_367 : decode cL_law 367 = .ok (.iconst 0, 1) := by decide +kernel
theorem dL_law_368 : decode cL_law 368 = .ok (.ireturn, 1) := by decide +kernel
theorem dL_law_369 : decode cL_law 369 = .ok (.goto 551, 3) := by decide +kernel
theorem dL_law_372 : decode cL_law 372 = .ok (.aload_n 1, 1) := by decide +kernel
theorem dL_law_373 : decode cL_law 373 = .ok (.aload_n 0, 1) := by decide +kernel
theorem dL_law_374 : decode cL_law 374 = .ok (.iload 4, 2) := by decide +kernel
theorem dL_law_376 : decode cL_law 376 = .ok (.iconst 1, 1) := by decide +kernel
theorem dL_law_377 : decode cL_law 377 = .ok (.iadd, 1) := by decide +kernel
theorem dL_law_378 : decode cL_law 378 = .ok (.iaload, 1) := by decide +kernel
theorem dL_law_379 : decode cL_law 379 = .ok (.aload_n 0, 1) := by decide +kernel
theorem dL_law_380 : decode cL_law 380 = .ok (.iload 4, 2) := by decide +kernel
theorem dL_law_382 : decode cL_law 382 = .ok (.iconst 2, 1) := by decide +kernel
theorem dL_law_383 : decode cL_law 383 = .ok (.iadd, 1) := by decide +kernel
theorem dL_law_384 : decode cL_law 384 = .ok (.iaload, 1) := by decide +kernel
theorem dL_law_385 : decode cL_law 385 = .ok (.aload_n 0, 1) := by decide +kernel
theorem dL_law_386 : decode cL_law 386 = .ok (.iload 4, 2) := by decide +kernel
theorem dL_law_388 : decode cL_law 388 = .ok (.iconst 3, 1) := by decide +kernel
theorem dL_law_389 : decode cL_law 389 = .ok (.iadd, 1) := by decide +kernel
theorem dL_law_390 : decode cL_law 390 = .ok (.iaload, 1) := by decide +kernel
theorem dL_law_391 : decode cL_law 391 = .ok (.aload_n 3, 1) := by decide +kernel
theorem dL_law_392 : decode cL_law 392 = .ok (.invokestatic 82, 3) := by decide +kernel
theorem dL_law_395 : decode cL_law 395 = .ok (.istore 5, 2) := by decide +kernel
theorem dL_law_397 : decode cL_law 397 = .ok (.aload_n 2, 1) := by decide +kernel
theorem dL_law_398 : decode cL_law 398 = .ok (.aload_n 0, 1) := by decide +kernel
theorem dL_law_399 : decode cL_law 399 = .ok (.iload 4, 2) := by decide +kernel
theorem dL_law_401 : decode cL_law 401 = .ok (.iconst 1, 1) := by decide +kernel
theorem dL_law_402 : decode cL_law 402 = .ok (.iadd, 1) := by decide +kernel
theorem dL_law_403 : decode cL_law 403 = .ok (.iaload, 1) := by decide +kernel
theorem dL_law_404 : decode cL_law 404 = .ok (.aload_n 0, 1) := by decide +kernel
theorem dL_law_405 : decode cL_law 405 = .ok (.iload 4, 2) := by decide +kernel
theorem dL_law_407 : decode cL_law 407 = .ok (.iconst 2, 1) := by decide +kernel
theorem dL_law_408 : decode cL_law 408 = .ok (.iadd, 1) := by decide +kernel
theorem dL_law_409 : decode cL_law 409 = .ok (.iaload, 1) := by decide +kernel
theorem dL_law_410 : decode cL_law 410 = .ok (.aload_n 0, 1) := by decide +kernel
theorem dL_law_411 : decode cL_law 411 = .ok (.iload 4, 2) := by decide +kernel
theorem dL_law_413 : decode cL_law 413 = .ok (.iconst 3, 1) := by decide +kernel
theorem dL_law_414 : decode cL_law 414 = .ok (.iadd, 1) := by decide +kernel
theorem dL_law_415 : decode cL_law 415 = .ok (.iaload, 1) := by decide +kernel
theorem dL_law_416 : decode cL_law 416 = .ok (.invokevirtual 85, 3) := by decide +kernel
theorem dL_law_419 : decode cL_law 419 = .ok (.istore 6, 2) := by decide +kernel
theorem dL_law_421 : decode cL_law 421 = .ok (.aload_n 2, 1) := by decide +kernel
theorem dL_law_422 : decode cL_law 422 = .ok (.invokevirtual 68, 3) := by decide +kernel
theorem dL_law_425 : decode cL_law 425 = .ok (.iload 5, 2) := by decide +kernel
theorem dL_law_427 : decode cL_law 427 = .ok (.if_icmp .eq 5, 3) := by decide +kernel
theorem dL_law_430 : decode cL_law 430 = .ok (.iconst 0, 1) := by decide +kernel
theorem dL_law_431 : decode cL_law 431 = .ok (.ireturn, 1) := by decide +kernel
theorem dL_law_432 : decode cL_law 432 = .ok (.iload 5, 2) := by decide +kernel
theorem dL_law_434 : decode cL_law 434 = .ok (.ifCond .ne 15, 3) := by decide +kernel
theorem dL_law_437 : decode cL_law 437 = .ok (.aload_n 3, 1) := by decide +kernel
theorem dL_law_438 : decode cL_law 438 = .ok (.iconst 0, 1) := by decide +kernel
theorem dL_law_439 : decode cL_law 439 = .ok (.laload, 1) := by decide +kernel
theorem dL_law_440 : decode cL_law 440 = .ok (.iload 6, 2) := by decide +kernel
theorem dL_law_442 : decode cL_law 442 = .ok (.i2l, 1) := by decide +kernel
theorem dL_law_443 : decode cL_law 443 = .ok (.lcmp, 1) := by decide +kernel
theorem dL_law_444 : decode cL_law 444 = .ok (.ifCond .eq 5, 3) := by decide +kernel
theorem dL_law_447 : decode cL_law 447 = .ok (.iconst 0, 1) := by decide +kernel
theorem dL_law_448 : decode cL_law 448 = .ok (.ireturn, 1) := by decide +kernel
theorem dL_law_449 : decode cL_law 449 = .ok (.goto 471, 3) := by decide +kernel
theorem dL_law_452 : decode cL_law 452 = .ok (.aload_n 1, 1) := by decide +kernel
theorem dL_law_453 : decode cL_law 453 = .ok (.aload_n 0, 1) := by decide +kernel
theorem dL_law_454 : decode cL_law 454 = .ok (.iload 4, 2) := by decide +kernel
theorem dL_law_456 : decode cL_law 456 = .ok (.iconst 1, 1) := by decide +kernel
theorem dL_law_457 : decode cL_law 457 = .ok (.iadd, 1) := by decide +kernel
theorem dL_law_458 : decode cL_law 458 = .ok (.iaload, 1) := by decide +kernel
theorem dL_law_459 : decode cL_law 459 = .ok (.aload_n 0, 1) := by decide +kernel
theorem dL_law_460 : decode cL_law 460 = .ok (.iload 4, 2) := by decide +kernel
theorem dL_law_462 : decode cL_law 462 = .ok (.iconst 2, 1) := by decide +kernel
theorem dL_law_463 : decode cL_law 463 = .ok (.iadd, 1) := by decide +kernel
theorem dL_law_464 : decode cL_law 464 = .ok (.iaload, 1) := by decide +kernel
theorem dL_law_465 : decode cL_law 465 = .ok (.aload_n 3, 1) := by decide +kernel
theorem dL_law_466 : decode cL_law 466 = .ok (.invokestatic 86, 3) := by decide +kernel
theorem dL_law_469 : decode cL_law 469 = .ok (.istore 5, 2) := by decide +kernel
theorem dL_law_471 : decode cL_law 471 = .ok (.aload_n 2, 1) := by decide +kernel
theorem dL_law_472 : decode cL_law 472 = .ok (.aload_n 0, 1) := by decide +kernel
theorem dL_law_473 : decode cL_law 473 = .ok (.iload 4, 2) := by decide +kernel
theorem dL_law_475 : decode cL_law 475 = .ok (.iconst 1, 1) := by decide +kernel
theorem dL_law_476 : decode cL_law 476 = .ok (.iadd, 1) := by decide +kernel
theorem dL_law_477 : decode cL_law 477 = .ok (.iaload, 1) := by decide +kernel
theorem dL_law_478 : decode cL_law 478 = .ok (.aload_n 0, 1) := by decide +kernel
theorem dL_law_479 : decode cL_law 479 = .ok (.iload 4, 2) := by decide +kernel
theorem dL_law_481 : decode cL_law 481 = .ok (.iconst 2, 1) := by decide +kernel
theorem dL_law_482 : decode cL_law 482 = .ok (.iadd, 1) := by decide +kernel
theorem dL_law_483 : decode cL_law 483 = .ok (.iaload, 1) := by decide +kernel
theorem dL_law_484 : decode cL_law 484 = .ok (.invokevirtual 88, 3) := by decide +kernel
theorem dL_law_487 : decode cL_law 487 = .ok (.istore 6, 2) := by decide +kernel
theorem dL_law_489 : decode cL_law 489 = .ok (.aload_n 2, 1) := by decide +kernel
theorem dL_law_490 : decode cL_law 490 = .ok (.invokevirtual 68, 3) := by decide +kernel
theorem dL_law_493 : decode cL_law 493 = .ok (.iload 5, 2) := by decide +kernel
theorem dL_law_495 : decode cL_law 495 = .ok (.if_icmp .eq 5, 3) := by decide +kernel
theorem dL_law_498 : decode cL_law 498 = .ok (.iconst 0, 1) := by decide +kernel
theorem dL_law_499 : decode cL_law 499 = .ok (.ireturn, 1) := by decide +kernel
theorem dL_law_500 : decode cL_law 500 = .ok (.iload 5, 2) := by decide +kernel
theorem dL_law_502 : decode cL_law 502 = .ok (.ifCond .ne 15, 3) := by decide +kernel
theorem dL_law_505 : decode cL_law 505 = .ok (.aload_n 3, 1) := by decide +kernel
theorem dL_law_506 : decode cL_law 506 = .ok (.iconst 0, 1) := by decide +kernel
theorem dL_law_507 : decode cL_law 507 = .ok (.laload, 1) := by decide +kernel
theorem dL_law_508 : decode cL_law 508 = .ok (.iload 6, 2) := by decide +kernel
theorem dL_law_510 : decode cL_law 510 = .ok (.i2l, 1) := by decide +kernel
theorem dL_law_511 : decode cL_law 511 = .ok (.lcmp, 1) := by decide +kernel
theorem dL_law_512 : decode cL_law 512 = .ok (.ifCond .eq 5, 3) := by decide +kernel
theorem dL_law_515 : decode cL_law 515 = .ok (.iconst 0, 1) := by decide +kernel
theorem dL_law_516 : decode cL_law 516 = .ok (.ireturn, 1) := by decide +kernel
theorem dL_law_517 : decode cL_law 517 = .ok (.goto 403, 3) := by decide +kernel
theorem dL_law_520 : decode cL_law 520 = .ok (.aload_n 1, 1) := by decide +kernel
theorem dL_law_521 : decode cL_law 521 = .ok (.aload_n 0, 1) := by decide +kernel
theorem dL_law_522 : decode cL_law 522 = .ok (.iload 4, 2) := by decide +kernel
theorem dL_law_524 : decode cL_law 524 = .ok (.iconst 1, 1) := by decide +kernel
theorem dL_law_525 : decode cL_law 525 = .ok (.iadd, 1) := by decide +kernel
theorem dL_law_526 : decode cL_law 526 = .ok (.iaload, 1) := by decide +kernel
theorem dL_law_527 : decode cL_law 527 = .ok (.aload_n 0, 1) := by decide +kernel
theorem dL_law_528 : decode cL_law 528 = .ok (.iload 4, 2) := by decide +kernel
theorem dL_law_530 : decode cL_law 530 = .ok (.iconst 2, 1) := by decide +kernel
theorem dL_law_531 : decode cL_law 531 = .ok (.iadd, 1) := by decide +kernel
theorem dL_law_532 : decode cL_law 532 = .ok (.iaload, 1) := by decide +kernel
theorem dL_law_533 : decode cL_law 533 = .ok (.ifCond .eq 7, 3) := by decide +kernel
theorem dL_law_536 : decode cL_law 536 = .ok (.iconst 1, 1) := by decide +kernel
theorem dL_law_537 : decode cL_law 537 = .ok (.goto 4, 3) := by decide +kernel
theorem dL_law_540 : decode cL_law 540 = .ok (.iconst 0, 1) := by decide +kernel
theorem dL_law_541 : decode cL_law 541 = .ok (.aload_n 3, 1) := by decide +kernel
theorem dL_law_542 : decode cL_law 542 = .ok (.invokestatic 89, 3) := by decide +kernel
theorem dL_law_545 : decode cL_law 545 = .ok (.istore 5, 2) := by decide +kernel
theorem dL_law_547 : decode cL_law 547 = .ok (.aload_n 2, 1) := by decide +kernel
theorem dL_law_548 : decode cL_law 548 = .ok (.aload_n 0, 1) := by decide +kernel
theorem dL_law_549 : decode cL_law 549 = .ok (.iload 4, 2) := by decide +kernel
theorem dL_law_551 : decode cL_law 551 = .ok (.iconst 1, 1) := by decide +kernel
theorem dL_law_552 : decode cL_law 552 = .ok (.iadd, 1) := by decide +kernel
theorem dL_law_553 : decode cL_law 553 = .ok (.iaload, 1) := by decide +kernel
theorem dL_law_554 : decode cL_law 554 = .ok (.aload_n 0, 1) := by decide +kernel
theorem dL_law_555 : decode cL_law 555 = .ok (.iload 4, 2) := by decide +kernel
theorem dL_law_557 : decode cL_law 557 = .ok (.iconst 2, 1) := by decide +kernel
theorem dL_law_558 : decode cL_law 558 = .ok (.iadd, 1) := by decide +kernel
theorem dL_law_559 : decode cL_law 559 = .ok (.iaload, 1) := by decide +kernel
theorem dL_law_560 : decode cL_law 560 = .ok (.ifCond .eq 7, 3) := by decide +kernel
theorem dL_law_563 : decode cL_law 563 = .ok (.iconst 1, 1) := by decide +kernel
theorem dL_law_564 : decode cL_law 564 = .ok (.goto 4, 3) := by decide +kernel
theorem dL_law_567 : decode cL_law 567 = .ok (.iconst 0, 1) := by decide +kernel
theorem dL_law_568 : decode cL_law 568 = .ok (.invokevirtual 92, 3) := by decide +kernel
theorem dL_law_571 : decode cL_law 571 = .ok (.istore 6, 2) := by decide +kernel
theorem dL_law_573 : decode cL_law 573 = .ok (.aload_n 2, 1) := by decide +kernel
theorem dL_law_574 : decode cL_law 574 = .ok (.invokevirtual 68, 3) := by decide +kernel
theorem dL_law_577 : decode cL_law 577 = .ok (.iload 5, 2) := by decide +kernel
theorem dL_law_579 : decode cL_law 579 = .ok (.if_icmp .eq 5, 3) := by decide +kernel
theorem dL_law_582 : decode cL_law 582 = .ok (.iconst 0, 1) := by decide +kernel
theorem dL_law_583 : decode cL_law 583 = .ok (.ireturn, 1) := by decide +kernel
theorem dL_law_584 : decode cL_law 584 = .ok (.iload 5, 2) := by decide +kernel
theorem dL_law_586 : decode cL_law 586 = .ok (.ifCond .ne 15, 3) := by decide +kernel
theorem dL_law_589 : decode cL_law 589 = .ok (.aload_n 3, 1) := by decide +kernel
theorem dL_law_590 : decode cL_law 590 = .ok (.iconst 0, 1) := by decide +kernel
theorem dL_law_591 : decode cL_law 591 = .ok (.laload, 1) := by decide +kernel
theorem dL_law_592 : decode cL_law 592 = .ok (.iload 6, 2) := by decide +kernel
theorem dL_law_594 : decode cL_law 594 = .ok (.i2l, 1) := by decide +kernel
theorem dL_law_595 : decode cL_law 595 = .ok (.lcmp, 1) := by decide +kernel
theorem dL_law_596 : decode cL_law 596 = .ok (.ifCond .eq 5, 3) := by decide +kernel
theorem dL_law_599 : decode cL_law 599 = .ok (.iconst 0, 1) := by decide +kernel
theorem dL_law_600 : decode cL_law 600 = .ok (.ireturn, 1) := by decide +kernel
theorem dL_law_601 : decode cL_law 601 = .ok (.goto 319, 3) := by decide +kernel
theorem dL_law_604 : decode cL_law 604 = .ok (.aload_n 1, 1) := by decide +kernel
theorem dL_law_605 : decode cL_law 605 = .ok (.aload_n 0, 1) := by decide +kernel
theorem dL_law_606 : decode cL_law 606 = .ok (.iload 4, 2) := by decide +kernel
theorem dL_law_608 : decode cL_law 608 = .ok (.iconst 1, 1) := by decide +kernel
theorem dL_law_609 : decode cL_law 609 = .ok (.iadd, 1) := by decide +kernel
theorem dL_law_610 : decode cL_law 610 = .ok (.iaload, 1) := by decide +kernel
theorem dL_law_611 : decode cL_law 611 = .ok (.aload_n 3, 1) := by decide +kernel
theorem dL_law_612 : decode cL_law 612 = .ok (.invokestatic 93, 3) := by decide +kernel
theorem dL_law_615 : decode cL_law 615 = .ok (.istore 5, 2) := by decide +kernel
theorem dL_law_617 : decode cL_law 617 = .ok (.aload_n 2, 1) := by decide +kernel
theorem dL_law_618 : decode cL_law 618 = .ok (.aload_n 0, 1) := by decide +kernel
theorem dL_law_619 : decode cL_law 619 = .ok (.iload 4, 2) := by decide +kernel
theorem dL_law_621 : decode cL_law 621 = .ok (.iconst 1, 1) := by decide +kernel
theorem dL_law_622 : decode cL_law 622 = .ok (.iadd, 1) := by decide +kernel
theorem dL_law_623 : decode cL_law 623 = .ok (.iaload, 1) := by decide +kernel
theorem dL_law_624 : decode cL_law 624 = .ok (.invokevirtual 96, 3) := by decide +kernel
theorem dL_law_627 : decode cL_law 627 = .ok (.istore 6, 2) := by decide +kernel
theorem dL_law_629 : decode cL_law 629 = .ok (.aload_n 2, 1) := by decide +kernel
theorem dL_law_630 : decode cL_law 630 = .ok (.invokevirtual 68, 3) := by decide +kernel
theorem dL_law_633 : decode cL_law 633 = .ok (.iload 5, 2) := by decide +kernel
theorem dL_law_635 : decode cL_law 635 = .ok (.if_icmp .eq 5, 3) := by decide +kernel
theorem dL_law_638 : decode cL_law 638 = .ok (.iconst 0, 1) := by decide +kernel
theorem dL_law_639 : decode cL_law 639 = .ok (.ireturn, 1) := by decide +kernel
theorem dL_law_640 : decode cL_law 640 = .ok (.iload 5, 2) := by decide +kernel
theorem dL_law_642 : decode cL_law 642 = .ok (.ifCond .ne 15, 3) := by decide +kernel
theorem dL_law_645 : decode cL_law 645 = .ok (.aload_n 3, 1) := by decide +kernel
theorem dL_law_646 : decode cL_law 646 = .ok (.iconst 0, 1) := by decide +kernel
theorem dL_law_647 : decode cL_law 647 = .ok (.laload, 1) := by decide +kernel
theorem dL_law_648 : decode cL_law 648 = .ok (.iload 6, 2) := by decide +kernel
theorem dL_law_650 : decode cL_law 650 = .ok (.i2l, 1) := by decide +kernel
theorem dL_law_651 : decode cL_law 651 = .ok (.lcmp, 1) := by decide +kernel
theorem dL_law_652 : decode cL_law 652 = .ok (.ifCond .eq 5, 3) := by decide +kernel
theorem dL_law_655 : decode cL_law 655 = .ok (.iconst 0, 1) := by decide +kernel
theorem dL_law_656 : decode cL_law 656 = .ok (.ireturn, 1) := by decide +kernel
theorem dL_law_657 : decode cL_law 657 = .ok (.goto 263, 3) := by decide +kernel
theorem dL_law_660 : decode cL_law 660 = .ok (.aload_n 1, 1) := by decide +kernel
theorem dL_law_661 : decode cL_law 661 = .ok (.aload_n 0, 1) := by decide +kernel
theorem dL_law_662 : decode cL_law 662 = .ok (.iload 4, 2) := by decide +kernel
theorem dL_law_664 : decode cL_law 664 = .ok (.iconst 1, 1) := by decide +kernel
theorem dL_law_665 : decode cL_law 665 = .ok (.iadd, 1) := by decide +kernel
theorem dL_law_666 : decode cL_law 666 = .ok (.iaload, 1) := by decide +kernel
theorem dL_law_667 : decode cL_law 667 = .ok (.aload_n 0, 1) := by decide +kernel
theorem dL_law_668 : decode cL_law 668 = .ok (.iload 4, 2) := by decide +kernel
theorem dL_law_670 : decode cL_law 670 = .ok (.iconst 2, 1) := by decide +kernel
theorem dL_law_671 : decode cL_law 671 = .ok (.iadd, 1) := by decide +kernel
theorem dL_law_672 : decode cL_law 672 = .ok (.iaload, 1) := by decide +kernel
theorem dL_law_673 : decode cL_law 673 = .ok (.aload_n 3, 1) := by decide +kernel
theorem dL_law_674 : decode cL_law 674 = .ok (.invokestatic 97, 3) := by decide +kernel
theorem dL_law_677 : decode cL_law 677 = .ok (.istore 5, 2) := by decide +kernel
theorem dL_law_679 : decode cL_law 679 = .ok (.aload_n 2, 1) := by decide +kernel
theorem dL_law_680 : decode cL_law 680 = .ok (.aload_n 0, 1) := by decide +kernel
theorem dL_law_681 : decode cL_law 681 = .ok (.iload 4, 2) := by decide +kernel
theorem dL_law_683 : decode cL_law 683 = .ok (.iconst 1, 1) := by decide +kernel
theorem dL_law_684 : decode cL_law 684 = .ok (.iadd, 1) := by decide +kernel
theorem dL_law_685 : decode cL_law 685 = .ok (.iaload, 1) := by decide +kernel
theorem dL_law_686 : decode cL_law 686 = .ok (.aload_n 0, 1) := by decide +kernel
theorem dL_law_687 : decode cL_law 687 = .ok (.iload 4, 2) := by decide +kernel
theorem dL_law_689 : decode cL_law 689 = .ok (.iconst 2, 1) := by decide +kernel
theorem dL_law_690 : decode cL_law 690 = .ok (.iadd, 1) := by decide +kernel
theorem dL_law_691 : decode cL_law 691 = .ok (.iaload, 1) := by decide +kernel
theorem dL_law_692 : decode cL_law 692 = .ok (.invokevirtual 99, 3) := by decide +kernel
theorem dL_law_695 : decode cL_law 695 = .ok (.istore 6, 2) := by decide +kernel
theorem dL_law_697 : decode cL_law 697 = .ok (.aload_n 2, 1) := by decide +kernel
theorem dL_law_698 : decode cL_law 698 = .ok (.invokevirtual 68, 3) := by decide +kernel
theorem dL_law_701 : decode cL_law 701 = .ok (.iload 5, 2) := by decide +kernel
theorem dL_law_703 : decode cL_law 703 = .ok (.if_icmp .eq 5, 3) := by decide +kernel
theorem dL_law_706 : decode cL_law 706 = .ok (.iconst 0, 1) := by decide +kernel
theorem dL_law_707 : decode cL_law 707 = .ok (.ireturn, 1) := by decide +kernel
theorem dL_law_708 : decode cL_law 708 = .ok (.iload 5, 2) := by decide +kernel
theorem dL_law_710 : decode cL_law 710 = .ok (.ifCond .ne 15, 3) := by decide +kernel
theorem dL_law_713 : decode cL_law 713 = .ok (.aload_n 3, 1) := by decide +kernel
theorem dL_law_714 : decode cL_law 714 = .ok (.iconst 0, 1) := by decide +kernel
theorem dL_law_715 : decode cL_law 715 = .ok (.laload, 1) := by decide +kernel
theorem dL_law_716 : decode cL_law 716 = .ok (.iload 6, 2) := by decide +kernel
theorem dL_law_718 : decode cL_law 718 = .ok (.i2l, 1) := by decide +kernel
theorem dL_law_719 : decode cL_law 719 = .ok (.lcmp, 1) := by decide +kernel
theorem dL_law_720 : decode cL_law 720 = .ok (.ifCond .eq 5, 3) := by decide +kernel
theorem dL_law_723 : decode cL_law 723 = .ok (.iconst 0, 1) := by decide +kernel
theorem dL_law_724 : decode cL_law 724 = .ok (.ireturn, 1) := by decide +kernel
theorem dL_law_725 : decode cL_law 725 = .ok (.goto 195, 3) := by decide +kernel
theorem dL_law_728 : decode cL_law 728 = .ok (.aload_n 1, 1) := by decide +kernel
theorem dL_law_729 : decode cL_law 729 = .ok (.aload_n 0, 1) := by decide +kernel
theorem dL_law_730 : decode cL_law 730 = .ok (.iload 4, 2) := by decide +kernel
theorem dL_law_732 : decode cL_law 732 = .ok (.iconst 1, 1) := by decide +kernel
theorem dL_law_733 : decode cL_law 733 = .ok (.iadd, 1) := by decide +kernel
theorem dL_law_734 : decode cL_law 734 = .ok (.iaload, 1) := by decide +kernel
theorem dL_law_735 : decode cL_law 735 = .ok (.aload_n 0, 1) := by decide +kernel
theorem dL_law_736 : decode cL_law 736 = .ok (.iload 4, 2) := by decide +kernel
theorem dL_law_738 : decode cL_law 738 = .ok (.iconst 2, 1) := by decide +kernel
theorem dL_law_739 : decode cL_law 739 = .ok (.iadd, 1) := by decide +kernel
theorem dL_law_740 : decode cL_law 740 = .ok (.iaload, 1) := by decide +kernel
theorem dL_law_741 : decode cL_law 741 = .ok (.aload_n 3, 1) := by decide +kernel
theorem dL_law_742 : decode cL_law 742 = .ok (.invokestatic 100, 3) := by decide +kernel
theorem dL_law_745 : decode cL_law 745 = .ok (.istore 5, 2) := by decide +kernel
theorem dL_law_747 : decode cL_law 747 = .ok (.aload_n 2, 1) := by decide +kernel
theorem dL_law_748 : decode cL_law 748 = .ok (.aload_n 0, 1) := by decide +kernel
theorem dL_law_749 : decode cL_law 749 = .ok (.iload 4, 2) := by decide +kernel
theorem dL_law_751 : decode cL_law 751 = .ok (.iconst 1, 1) := by decide +kernel
theorem dL_law_752 : decode cL_law 752 = .ok (.iadd, 1) := by decide +kernel
theorem dL_law_753 : decode cL_law 753 = .ok (.iaload, 1) := by decide +kernel
theorem dL_law_754 : decode cL_law 754 = .ok (.aload_n 0, 1) := by decide +kernel
theorem dL_law_755 : decode cL_law 755 = .ok (.iload 4, 2) := by decide +kernel
theorem dL_law_757 : decode cL_law 757 = .ok (.iconst 2, 1) := by decide +kernel
theorem dL_law_758 : decode cL_law 758 = .ok (.iadd, 1) := by decide +kernel
theorem dL_law_759 : decode cL_law 759 = .ok (.iaload, 1) := by decide +kernel
theorem dL_law_760 : decode cL_law 760 = .ok (.invokevirtual 102, 3) := by decide +kernel
theorem dL_law_763 : decode cL_law 763 = .ok (.istore 6, 2) := by decide +kernel
theorem dL_law_765 : decode cL_law 765 = .ok (.aload_n 2, 1) := by decide +kernel
theorem dL_law_766 : decode cL_law 766 = .ok (.invokevirtual 68, 3) := by decide +kernel
theorem dL_law_769 : decode cL_law 769 = .ok (.iload 5, 2) := by decide +kernel
theorem dL_law_771 : decode cL_law 771 = .ok (.if_icmp .eq 5, 3) := by decide +kernel
theorem dL_law_774 : decode cL_law 774 = .ok (.iconst 0, 1) := by decide +kernel
theorem dL_law_775 : decode cL_law 775 = .ok (.ireturn, 1) := by decide +kernel
theorem dL_law_776 : decode cL_law 776 = .ok (.iload 5, 2) := by decide +kernel
theorem dL_law_778 : decode cL_law 778 = .ok (.ifCond .ne 15, 3) := by decide +kernel
theorem dL_law_781 : decode cL_law 781 = .ok (.aload_n 3, 1) := by decide +kernel
theorem dL_law_782 : decode cL_law 782 = .ok (.iconst 0, 1) := by decide +kernel
theorem dL_law_783 : decode cL_law 783 = .ok (.laload, 1) := by decide +kernel
theorem dL_law_784 : decode cL_law 784 = .ok (.iload 6, 2) := by decide +kernel
theorem dL_law_786 : decode cL_law 786 = .ok (.i2l, 1) := by decide +kernel
theorem dL_law_787 : decode cL_law 787 = .ok (.lcmp, 1) := by decide +kernel
theorem dL_law_788 : decode cL_law 788 = .ok (.ifCond .eq 5, 3) := by decide +kernel
theorem dL_law_791 : decode cL_law 791 = .ok (.iconst 0, 1) := by decide +kernel
theorem dL_law_792 : decode cL_law 792 = .ok (.ireturn, 1) := by decide +kernel
theorem dL_law_793 : decode cL_law 793 = .ok (.goto 127, 3) := by decide +kernel
theorem dL_law_796 : decode cL_law 796 = .ok (.aload_n 1, 1) := by decide +kernel
theorem dL_law_797 : decode cL_law 797 = .ok (.aload_n 0, 1) := by decide +kernel
theorem dL_law_798 : decode cL_law 798 = .ok (.iload 4, 2) := by decide +kernel
theorem dL_law_800 : decode cL_law 800 = .ok (.iconst 1, 1) := by decide +kernel
theorem dL_law_801 : decode cL_law 801 = .ok (.iadd, 1) := by decide +kernel
theorem dL_law_802 : decode cL_law 802 = .ok (.iaload, 1) := by decide +kernel
theorem dL_law_803 : decode cL_law 803 = .ok (.aload_n 3, 1) := by decide +kernel
theorem dL_law_804 : decode cL_law 804 = .ok (.invokestatic 103, 3) := by decide +kernel
theorem dL_law_807 : decode cL_law 807 = .ok (.istore 5, 2) := by decide +kernel
theorem dL_law_809 : decode cL_law 809 = .ok (.aload_n 2, 1) := by decide +kernel
theorem dL_law_810 : decode cL_law 810 = .ok (.aload_n 0, 1) := by decide +kernel
theorem dL_law_811 : decode cL_law 811 = .ok (.iload 4, 2) := by decide +kernel
theorem dL_law_813 : decode cL_law 813 = .ok (.iconst 1, 1) := by decide +kernel
theorem dL_law_814 : decode cL_law 814 = .ok (.iadd, 1) := by decide +kernel
theorem dL_law_815 : decode cL_law 815 = .ok (.iaload, 1) := by decide +kernel
theorem dL_law_816 : decode cL_law 816 = .ok (.invokevirtual 105, 3) := by decide +kernel
theorem dL_law_819 : decode cL_law 819 = .ok (.istore 6, 2) := by decide +kernel
theorem dL_law_821 : decode cL_law 821 = .ok (.aload_n 2, 1) := by decide +kernel
theorem dL_law_822 : decode cL_law 822 = .ok (.invokevirtual 68, 3) := by decide +kernel
theorem dL_law_825 : decode cL_law 825 = .ok (.iload 5, 2) := by decide +kernel
theorem dL_law_827 : decode cL_law 827 = .ok (.if_icmp .eq 5, 3) := by decide +kernel
theorem dL_law_830 : decode cL_law 830 = .ok (.iconst 0, 1) := by decide +kernel
theorem dL_law_831 : decode cL_law 831 = .ok (.ireturn, 1) := by decide +kernel
theorem dL_law_832 : decode cL_law 832 = .ok (.iload 5, 2) := by decide +kernel
theorem dL_law_834 : decode cL_law 834 = .ok (.ifCond .ne 15, 3) := by decide +kernel
theorem dL_law_837 : decode cL_law 837 = .ok (.aload_n 3, 1) := by decide +kernel
theorem dL_law_838 : decode cL_law 838 = .ok (.iconst 0, 1) := by decide +kernel
theorem dL_law_839 : decode cL_law 839 = .ok (.laload, 1) := by decide +kernel
theorem dL_law_840 : decode cL_law 840 = .ok (.iload 6, 2) := by decide +kernel
theorem dL_law_842 : decode cL_law 842 = .ok (.i2l, 1) := by decide +kernel
theorem dL_law_843 : decode cL_law 843 = .ok (.lcmp, 1) := by decide +kernel
theorem dL_law_844 : decode cL_law 844 = .ok (.ifCond .eq 5, 3) := by decide +kernel
theorem dL_law_847 : decode cL_law 847 = .ok (.iconst 0, 1) := by decide +kernel
theorem dL_law_848 : decode cL_law 848 = .ok (.ireturn, 1) := by decide +kernel
theorem dL_law_849 : decode cL_law 849 = .ok (.goto 71, 3) := by decide +kernel
theorem dL_law_852 : decode cL_law 852 = .ok (.aload_n 1, 1) := by decide +kernel
theorem dL_law_853 : decode cL_law 853 = .ok (.aload_n 0, 1) := by decide +kernel
theorem dL_law_854 : decode cL_law 854 = .ok (.iload 4, 2) := by decide +kernel
theorem dL_law_856 : decode cL_law 856 = .ok (.iconst 1, 1) := by decide +kernel
theorem dL_law_857 : decode cL_law 857 = .ok (.iadd, 1) := by decide +kernel
theorem dL_law_858 : decode cL_law 858 = .ok (.iaload, 1) := by decide +kernel
theorem dL_law_859 : decode cL_law 859 = .ok (.aload_n 0, 1) := by decide +kernel
theorem dL_law_860 : decode cL_law 860 = .ok (.iload 4, 2) := by decide +kernel
theorem dL_law_862 : decode cL_law 862 = .ok (.iconst 2, 1) := by decide +kernel
theorem dL_law_863 : decode cL_law 863 = .ok (.iadd, 1) := by decide +kernel
theorem dL_law_864 : decode cL_law 864 = .ok (.iaload, 1) := by decide +kernel
theorem dL_law_865 : decode cL_law 865 = .ok (.aload_n 3, 1) := by decide +kernel
theorem dL_law_866 : decode cL_law 866 = .ok (.invokestatic 106, 3) := by decide +kernel
theorem dL_law_869 : decode cL_law 869 = .ok (.istore 5, 2) := by decide +kernel
theorem dL_law_871 : decode cL_law 871 = .ok (.aload_n 2, 1) := by decide +kernel
theorem dL_law_872 : decode cL_law 872 = .ok (.aload_n 0, 1) := by decide +kernel
theorem dL_law_873 : decode cL_law 873 = .ok (.iload 4, 2) := by decide +kernel
theorem dL_law_875 : decode cL_law 875 = .ok (.iconst 1, 1) := by decide +kernel
theorem dL_law_876 : decode cL_law 876 = .ok (.iadd, 1) := by decide +kernel
theorem dL_law_877 : decode cL_law 877 = .ok (.iaload, 1) := by decide +kernel
theorem dL_law_878 : decode cL_law 878 = .ok (.aload_n 0, 1) := by decide +kernel
theorem dL_law_879 : decode cL_law 879 = .ok (.iload 4, 2) := by decide +kernel
theorem dL_law_881 : decode cL_law 881 = .ok (.iconst 2, 1) := by decide +kernel
theorem dL_law_882 : decode cL_law 882 = .ok (.iadd, 1) := by decide +kernel
theorem dL_law_883 : decode cL_law 883 = .ok (.iaload, 1) := by decide +kernel
theorem dL_law_884 : decode cL_law 884 = .ok (.invokevirtual 108, 3) := by decide +kernel
theorem dL_law_887 : decode cL_law 887 = .ok (.istore 6, 2) := by decide +kernel
theorem dL_law_889 : decode cL_law 889 = .ok (.aload_n 2, 1) := by decide +kernel
theorem dL_law_890 : decode cL_law 890 = .ok (.invokevirtual 68, 3) := by decide +kernel
theorem dL_law_893 : decode cL_law 893 = .ok (.iload 5, 2) := by decide +kernel
theorem dL_law_895 : decode cL_law 895 = .ok (.if_icmp .eq 5, 3) := by decide +kernel
theorem dL_law_898 : decode cL_law 898 = .ok (.iconst 0, 1) := by decide +kernel
theorem dL_law_899 : decode cL_law 899 = .ok (.ireturn, 1) := by decide +kernel
theorem dL_law_900 : decode cL_law 900 = .ok (.iload 5, 2) := by decide +kernel
theorem dL_law_902 : decode cL_law 902 = .ok (.ifCond .ne 15, 3) := by decide +kernel
theorem dL_law_905 : decode cL_law 905 = .ok (.aload_n 3, 1) := by decide +kernel
theorem dL_law_906 : decode cL_law 906 = .ok (.iconst 0, 1) := by decide +kernel
theorem dL_law_907 : decode cL_law 907 = .ok (.laload, 1) := by decide +kernel
theorem dL_law_908 : decode cL_law 908 = .ok (.iload 6, 2) := by decide +kernel
theorem dL_law_910 : decode cL_law 910 = .ok (.i2l, 1) := by decide +kernel
theorem dL_law_911 : decode cL_law 911 = .ok (.lcmp, 1) := by decide +kernel
theorem dL_law_912 : decode cL_law 912 = .ok (.ifCond .eq 5, 3) := by decide +kernel
theorem dL_law_915 : decode cL_law 915 = .ok (.iconst 0, 1) := by decide +kernel
theorem dL_law_916 : decode cL_law 916 = .ok (.ireturn, 1) := by decide +kernel
theorem dL_law_917 : decode cL_law 917 = .ok (.goto 3, 3) := by decide +kernel
theorem dL_law_920 : decode cL_law 920 = .ok (.iinc 4 5, 3) := by decide +kernel
theorem dL_law_923 : decode cL_law 923 = .ok (.goto (-900), 3) := by decide +kernel
theorem dL_law_926 : decode cL_law 926 = .ok (.iconst 1, 1) := by decide +kernel
theorem dL_law_927 : decode cL_law 927 = .ok (.ireturn, 1) := by decide +kernel
theorem dX0_init_0 : decode cX0_init 0 = .ok (.aload_n 0, 1) := by decide +kernel
theorem dX0_init_1 : decode cX0_init 1 = .ok (.invokespecial 3, 3) := by decide +kernel
theorem dX0_init_4 : decode cX0_init 4 = .ok (.aload_n 0, 1) := by decide +kernel
theorem dX0_init_5 : decode cX0_init 5 = .ok (.iconst 0, 1) := by decide +kernel
theorem dX0_init_6 : decode cX0_init 6 = .ok (.putfield 9, 3) := by decide +kernel
theorem dX0_init_9 : decode cX0_init 9 = .ok (.aload_n 0, 1) := by decide +kernel
theorem dX0_init_10 : decode cX0_init 10 = .ok (.iconst 1, 1) := by decide +kernel
theorem dX0_init_11 : decode cX0_init 11 = .ok (.putfield 15, 3) := by decide +kernel
theorem dX0_init_14 : decode cX0_init 14 = .ok (.aload_n 0, 1) := by decide +kernel
theorem dX0_init_15 : decode cX0_init 15 = .ok (.iconst 0, 1) := by decide +kernel
theorem dX0_init_16 : decode cX0_init 16 = .ok (.putfield 18, 3) := by decide +kernel
theorem dX0_init_19 : decode cX0_init 19 = .ok (.aload_n 0, 1) := by decide +kernel
theorem dX0_init_20 : decode cX0_init 20 = .ok (.bipush 120, 2) := by decide +kernel
theorem dX0_init_22 : decode cX0_init 22 = .ok (.newarray .int, 2) := by decide +kernel
theorem dX0_init_24 : decode cX0_init 24 = .ok (.putfield 21, 3) := by decide +kernel
theorem dX0_init_27 : decode cX0_init 27 = .ok (.aload_n 0, 1) := by decide +kernel
theorem dX0_init_28 : decode cX0_init 28 = .ok (.bipush 120, 2) := by decide +kernel
theorem dX0_init_30 : decode cX0_init 30 = .ok (.newarray .int, 2) := by decide +kernel
theorem dX0_init_32 : decode cX0_init 32 = .ok (.putfield 25, 3) := by decide +kernel
theorem dX0_init_35 : decode cX0_init 35 = .ok (.aload_n 0, 1) := by decide +kernel
theorem dX0_init_36 : decode cX0_init 36 = .ok (.bipush 120, 2) := by decide +kernel
theorem dX0_init_38 : decode cX0_init 38 = .ok (.newarray .int, 2) := by decide +kernel
theorem dX0_init_40 : decode cX0_init 40 = .ok (.putfield 28, 3) := by decide +kernel
theorem dX0_init_43 : decode cX0_init 43 = .ok (.aload_n 0, 1) := by decide +kernel
theorem dX0_init_44 : decode cX0_init 44 = .ok (.bipush 120, 2) := by decide +kernel
theorem dX0_init_46 : decode cX0_init 46 = .ok (.newarray .int, 2) := by decide +kernel
theorem dX0_init_48 : decode cX0_init 48 = .ok (.putfield 31, 3) := by decide +kernel
theorem dX0_init_51 : decode cX0_init 51 = .ok (.aload_n 0, 1) := by decide +kernel
theorem dX0_init_52 : decode cX0_init 52 = .ok (.bipush 120, 2) := by decide +kernel
theorem dX0_init_54 : decode cX0_init 54 = .ok (.newarray .int, 2) := by decide +kernel
theorem dX0_init_56 : decode cX0_init 56 = .ok (.putfield 34, 3) := by decide +kernel
theorem dX0_init_59 : decode cX0_init 59 = .ok (.aload_n 0, 1) := by decide +kernel
theorem dX0_init_60 : decode cX0_init 60 = .ok (.bipush 120, 2) := by decide +kernel
theorem dX0_init_62 : decode cX0_init 62 = .ok (.newarray .int, 2) := by decide +kernel
theorem dX0_init_64 : decode cX0_init 64 = .ok (.putfield 37, 3) := by decide +kernel
theorem dX0_init_67 : decode cX0_init 67 = .ok (.aload_n 0, 1) := by decide +kernel
theorem dX0_init_68 : decode cX0_init 68 = .ok (.bipush 120, 2) := by decide +kernel
theorem dX0_init_70 : decode cX0_init 70 = .ok (.newarray .int, 2) := by decide +kernel
theorem dX0_init_72 : decode cX0_init 72 = .ok (.putfield 40, 3) := by decide +kernel
theorem dX0_init_75 : decode cX0_init 75 = .ok (.aload_n 0, 1) := by decide +kernel
theorem dX0_init_76 : decode cX0_init 76 = .ok (.bipush 120, 2) := by decide +kernel
theorem dX0_init_78 : decode cX0_init 78 = .ok (.newarray .int, 2) := by decide +kernel
theorem dX0_init_80 : decode cX0_init 80 = .ok (.putfield 43, 3) := by decide +kernel
theorem dX0_init_83 : decode cX0_init 83 = .ok (.aload_n 0, 1) := by decide +kernel
theorem dX0_init_84 : decode cX0_init 84 = .ok (.bipush 30, 2) := by decide +kernel
theorem dX0_init_86 : decode cX0_init 86 = .ok (.newarray .int, 2) := by decide +kernel
theorem dX0_init_88 : decode cX0_init 88 = .ok (.putfield 46, 3) := by decide +kernel
theorem dX0_init_91 : decode cX0_init 91 = .ok (.aload_n 0, 1) := by decide +kernel
theorem dX0_init_92 : decode cX0_init 92 = .ok (.bipush 30, 2) := by decide +kernel
theorem dX0_init_94 : decode cX0_init 94 = .ok (.newarray .int, 2) := by decide +kernel
theorem dX0_init_96 : decode cX0_init 96 = .ok (.putfield 49, 3) := by decide +kernel
theorem dX0_init_99 : decode cX0_init 99 = .ok (.aload_n 0, 1) := by decide +kernel
theorem dX0_init_100 : decode cX0_init 100 = .ok (.iconst 0, 1) := by decide +kernel
theorem dX0_init_101 : decode cX0_init 101 = .ok (.putfield 52, 3) := by decide +kernel
theorem dX0_init_104 : decode cX0_init 104 = .ok (.aload_n 0, 1) := by decide +kernel
theorem dX0_init_105 : decode cX0_init 105 = .ok (.getfield 46, 3) := by decide +kernel
theorem dX0_init_108 : decode cX0_init 108 = .ok (.iconst 0, 1) := by decide +kernel
theorem dX0_init_109 : decode cX0_init 109 = .ok (.iconst (-1), 1) := by decide +kernel
theorem dX0_init_110 : decode cX0_init 110 = .ok (.iastore, 1) := by decide +kernel
theorem dX0_init_111 : decode cX0_init 111 = .ok (.return_, 1) := by decide +kernel
theorem dX0_hasList_0 : decode cX0_hasList 0 = .ok (.iload_n 1, 1) := by decide +kernel
theorem dX0_hasList_1 : decode cX0_hasList 1 = .ok (.ifCond .lt 15, 3) := by decide +kernel
theorem dX0_hasList_4 : decode cX0_hasList 4 = .ok (.iload_n 1, 1) := by decide +kernel
theorem dX0_hasList_5 : decode cX0_hasList 5 = .ok (.aload_n 0, 1) := by decide +kernel
theorem dX0_hasList_6 : decode cX0_hasList 6 = .ok (.getfield 15, 3) := by decide +kernel
theorem dX0_hasList_9 : decode cX0_hasList 9 = .ok (.if_icmp .ge 7, 3) := by decide +kernel
theorem dX0_hasList_12 : decode cX0_hasList 12 = .ok (.iconst 1, 1) := by decide +kernel
theorem dX0_hasList_13 : decode cX0_hasList 13 = .ok (.goto 4, 3) := by decide +kernel
theorem dX0_hasList_16 : decode cX0_hasList 16 = .ok (.iconst 0, 1) := by decide +kernel
theorem dX0_hasList_17 : decode cX0_hasList 17 = .ok (.ireturn, 1) := by decide +kernel
theorem dX0_hasAtom_0 : decode cX0_hasAtom 0 = .ok (.iload_n 1, 1) := by decide +kernel
theorem dX0_hasAtom_1 : decode cX0_hasAtom 1 = .ok (.ifCond .lt 25, 3) := by decide +kernel
theorem dX0_hasAtom_4 : decode cX0_hasAtom 4 = .ok (.iload_n 1, 1) := by decide +kernel
theorem dX0_hasAtom_5 : decode cX0_hasAtom 5 = .ok (.aload_n 0, 1) := by decide +kernel
theorem dX0_hasAtom_6 : decode cX0_hasAtom 6 = .ok (.getfield 9, 3) := by decide +kernel
theorem dX0_hasAtom_9 : decode cX0_hasAtom 9 = .ok (.if_icmp .ge 17, 3) := by decide +kernel
theorem dX0_hasAtom_12 : decode cX0_hasAtom 12 = .ok (.aload_n 0, 1) := by decide +kernel
theorem dX0_hasAtom_13 : decode cX0_hasAtom 13 = .ok (.getfield 25, 3) := by decide +kernel
theorem dX0_hasAtom_16 : decode cX0_hasAtom 16 = .ok (.iload_n 1, 1) := by decide +kernel
theorem dX0_hasAtom_17 : decode cX0_hasAtom 17 = .ok (.iaload, 1) := by decide +kernel
theorem dX0_hasAtom_18 : decode cX0_hasAtom 18 = .ok (.iconst 4, 1) := by decide +kernel
theorem dX0_hasAtom_19 : decode cX0_hasAtom 19 = .ok (.if_icmp .eq 7, 3) := by decide +kernel
theorem dX0_hasAtom_22 : decode cX0_hasAtom 22 = .ok (.iconst 1, 1) := by decide +kernel
theorem dX0_hasAtom_23 : decode cX0_hasAtom 23 = .ok (.goto 4, 3) := by decide +kernel
theorem dX0_hasAtom_26 : decode cX0_hasAtom 26 = .ok (.iconst 0, 1) := by decide +kernel
theorem dX0_hasAtom_27 : decode cX0_hasAtom 27 = .ok (.ireturn, 1) := by decide +kernel
theorem dX0_isFree_0 : decode cX0_isFree 0 = .ok (.iload_n 1, 1) := by decide +kernel
theorem dX0_isFree_1 : decode cX0_isFree 1 = .ok (.ifCond .eq 17, 3) := by decide +kernel
theorem dX0_isFree_4 : decode cX0_isFree 4 = .ok (.aload_n 0, 1) := by decide +kernel
theorem dX0_isFree_5 : decode cX0_isFree 5 = .ok (.getfield 46, 3) := by decide +kernel
theorem dX0_isFree_8 : decode cX0_isFree 8 = .ok (.iload_n 1, 1) := by decide +kernel
theorem dX0_isFree_9 : decode cX0_isFree 9 = .ok (.iaload, 1) := by decide +kernel
theorem dX0_isFree_10 : decode cX0_isFree 10 = .ok (.iconst (-1), 1) := by decide +kernel
theorem dX0_isFree_11 : decode cX0_isFree 11 = .ok (.if_icmp .ne 7, 3) := by decide +kernel
theorem dX0_isFree_14 : decode cX0_isFree 14 = .ok (.iconst 1, 1) := by decide +kernel
theorem dX0_isFree_15 : decode cX0_isFree 15 = .ok (.goto 4, 3) := by decide +kernel
theorem dX0_isFree_18 : decode cX0_isFree 18 = .ok (.iconst 0, 1) := by decide +kernel
theorem dX0_isFree_19 : decode cX0_isFree 19 = .ok (.ireturn, 1) := by decide +kernel
theorem dX0_wouldRing_0 : decode cX0_wouldRing 0 = .ok (.iload_n 2, 1) := by decide +kernel
theorem dX0_wouldRing_1 : decode cX0_wouldRing 1 = .ok (.istore_n 3, 1) := by decide +kernel
theorem dX0_wouldRing_2 : decode cX0_wouldRing 2 = .ok (.iconst 0, 1) := by decide +kernel
theorem dX0_wouldRing_3 : decode cX0_wouldRing 3 = .ok (.istore 4, 2) := by decide +kernel
theorem dX0_wouldRing_5 : decode cX0_wouldRing 5 = .ok (.iload 4, 2) := by decide +kernel
theorem dX0_wouldRing_7 : decode cX0_wouldRing 7 = .ok (.bipush 30, 2) := by decide +kernel
theorem dX0_wouldRing_9 : decode cX0_wouldRing 9 = .ok (.if_icmp .ge 40, 3) := by decide +kernel
theorem dX0_wouldRing_12 : decode cX0_wouldRing 12 = .ok (.iload_n 3, 1) := by decide +kernel
theorem dX0_wouldRing_13 : decode cX0_wouldRing 13 = .ok (.iload_n 1, 1) := by decide +kernel
theorem dX0_wouldRing_14 : decode cX0_wouldRing 14 = .ok (.if_icmp .ne 5, 3) := by decide +kernel
theorem dX0_wouldRing_17 : decode cX0_wouldRing 17 = .ok (.iconst 1, 1) := by decide +kernel
theorem dX0_wouldRing_18 : decode cX0_wouldRing 18 = .ok (.ireturn, 1) := by decide +kernel
theorem dX0_wouldRing_19 : decode cX0_wouldRing 19 = .ok (.aload_n 0, 1) := by decide +kernel
theorem dX0_wouldRing_20 : decode cX0_wouldRing 20 = .ok (.getfield 46, 3) := by decide +kernel
theorem dX0_wouldRing_23 : decode cX0_wouldRing 23 = .ok (.iload_n 3, 1) := by decide +kernel
theorem dX0_wouldRing_24 : decode cX0_wouldRing 24 = .ok (.iaload, 1) := by decide +kernel
theorem dX0_wouldRing_25 : decode cX0_wouldRing 25 = .ok (.istore 5, 2) := by decide +kernel
theorem dX0_wouldRing_27 : decode cX0_wouldRing 27 = .ok (.iload 5, 2) := by decide +kernel
theorem dX0_wouldRing_29 : decode cX0_wouldRing 29 = .ok (.iconst (-1), 1) := by decide +kernel
theorem dX0_wouldRing_30 : decode cX0_wouldRing 30 = .ok (.if_icmp .ne 5, 3) := by decide +kernel
theorem dX0_wouldRing_33 : decode cX0_wouldRing 33 = .ok (.iconst 0, 1) := by decide +kernel
theorem dX0_wouldRing_34 : decode cX0_wouldRing 34 = .ok (.ireturn, 1) := by decide +kernel
theorem dX0_wouldRing_35 : decode cX0_wouldRing 35 = .ok (.aload_n 0, 1) := by decide +kernel
theorem dX0_wouldRing_36 : decode cX0_wouldRing 36 = .ok (.getfield 21, 3) := by decide +kernel
theorem dX0_wouldRing_39 : decode cX0_wouldRing 39 = .ok (.iload 5, 2) := by decide +kernel
theorem dX0_wouldRing_41 : decode cX0_wouldRing 41 = .ok (.iaload, 1) := by decide +kernel
theorem dX0_wouldRing_42 : decode cX0_wouldRing 42 = .ok (.istore_n 3, 1) := by decide +kernel
theorem dX0_wouldRing_43 : decode cX0_wouldRing 43 = .ok (.iinc 4 1, 3) := by decide +kernel
theorem dX0_wouldRing_46 : decode cX0_wouldRing 46 = .ok (.goto (-41), 3) := by decide +kernel
theorem dX0_wouldRing_49 : decode cX0_wouldRing 49 = .ok (.iconst 1, 1) := by decide +kernel
theorem dX0_wouldRing_50 : decode cX0_wouldRing 50 = .ok (.ireturn, 1) := by decide +kernel
theorem dX0_beginList_0 : decode cX0_beginList 0 = .ok (.aload_n 0, 1) := by decide +kernel
theorem dX0_beginList_1 : decode cX0_beginList 1 = .ok (.getfield 15, 3) := by decide +kernel
theorem dX0_beginList_4 : decode cX0_beginList 4 = .ok (.istore_n 1, 1) := by decide +kernel
theorem dX0_beginList_5 : decode cX0_beginList 5 = .ok (.aload_n 0, 1) := by decide +kernel
theorem dX0_beginList_6 : decode cX0_beginList 6 = .ok (.getfield 46, 3) := by decide +kernel
theorem dX0_beginList_9 : decode cX0_beginList 9 = .ok (.iload_n 1, 1) := by decide +kernel
theorem dX0_beginList_10 : decode cX0_beginList 10 = .ok (.iconst (-1), 1) := by decide +kernel
theorem dX0_beginList_11 : decode cX0_beginList 11 = .ok (.iastore, 1) := by decide +kernel
theorem dX0_beginList_12 : decode cX0_beginList 12 = .ok (.aload_n 0, 1) := by decide +kernel
theorem dX0_beginList_13 : decode cX0_beginList 13 = .ok (.dup, 1) := by decide +kernel
theorem dX0_beginList_14 : decode cX0_beginList 14 = .ok (.getfield 15, 3) := by decide +kernel
theorem dX0_beginList_17 : decode cX0_beginList 17 = .ok (.iconst 1, 1) := by decide +kernel
theorem dX0_beginList_18 : decode cX0_beginList 18 = .ok (.iadd, 1) := by decide +kernel
theorem dX0_beginList_19 : decode cX0_beginList 19 = .ok (.putfield 15, 3) := by decide +kernel
theorem dX0_beginList_22 : decode cX0_beginList 22 = .ok (.iload_n 1, 1) := by decide +kernel
theorem dX0_beginList_23 : decode cX0_beginList 23 = .ok (.ireturn, 1) := by decide +kernel
theorem dX0_addNode_0 : decode cX0_addNode 0 = .ok (.aload_n 0, 1) := by decide +kernel
theorem dX0_addNode_1 : decode cX0_addNode 1 = .ok (.getfield 9, 3) := by decide +kernel
theorem dX0_addNode_4 : decode cX0_addNode 4 = .ok (.istore 6, 2) := by decide +kernel
theorem dX0_addNode_6 : decode cX0_addNode 6 = .ok (.aload_n 0, 1) := by decide +kernel
theorem dX0_addNode_7 : decode cX0_addNode 7 = .ok (.getfield 21, 3) := by decide +kernel
theorem dX0_addNode_10 : decode cX0_addNode 10 = .ok (.iload 6, 2) := by decide +kernel
theorem dX0_addNode_12 : decode cX0_addNode 12 = .ok (.aload_n 0, 1) := by decide +kernel
theorem dX0_addNode_13 : decode cX0_addNode 13 = .ok (.getfield 18, 3) := by decide +kernel
theorem dX0_addNode_16 : decode cX0_addNode 16 = .ok (.iastore, 1) := by decide +kernel
theorem dX0_addNode_17 : decode cX0_addNode 17 = .ok (.aload_n 0, 1) := by decide +kernel
theorem dX0_addNode_18 : decode cX0_addNode 18 = .ok (.getfield 25, 3) := by decide +kernel
theorem dX0_addNode_21 : decode cX0_addNode 21 = .ok (.iload 6, 2) := by decide +kernel
theorem dX0_addNode_23 : decode cX0_addNode 23 = .ok (.iload_n 1, 1) := by decide +kernel
theorem dX0_addNode_24 : decode cX0_addNode 24 = .ok (.iastore, 1) := by decide +kernel
theorem dX0_addNode_25 : decode cX0_addNode 25 = .ok (.aload_n 0, 1) := by decide +kernel
theorem dX0_addNode_26 : decode cX0_addNode 26 = .ok (.getfield 28, 3) := by decide +kernel
theorem dX0_addNode_29 : decode cX0_addNode 29 = .ok (.iload 6, 2) := by decide +kernel
theorem dX0_addNode_31 : decode cX0_addNode 31 = .ok (.iload_n 2, 1) := by decide +kernel
theorem dX0_addNode_32 : decode cX0_addNode 32 = .ok (.iastore, 1) := by decide +kernel
theorem dX0_addNode_33 : decode cX0_addNode 33 = .ok (.aload_n 0, 1) := by decide +kernel
theorem dX0_addNode_34 : decode cX0_addNode 34 = .ok (.getfield 31, 3) := by decide +kernel
theorem dX0_addNode_37 : decode cX0_addNode 37 = .ok (.iload 6, 2) := by decide +kernel
theorem dX0_addNode_39 : decode cX0_addNode 39 = .ok (.iconst (-1), 1) := by decide +kernel
theorem dX0_addNode_40 : decode cX0_addNode 40 = .ok (.iastore, 1) := by decide +kernel
theorem dX0_addNode_41 : decode cX0_addNode 41 = .ok (.aload_n 0, 1) := by decide +kernel
theorem dX0_addNode_42 : decode cX0_addNode 42 = .ok (.getfield 34, 3) := by decide +kernel
theorem dX0_addNode_45 : decode cX0_addNode 45 = .ok (.iload 6, 2) := by decide +kernel
theorem dX0_addNode_47 : decode cX0_addNode 47 = .ok (.iconst (-1), 1) := by decide +kernel
theorem dX0_addNode_48 : decode cX0_addNode 48 = .ok (.iastore, 1) := by decide +kernel
theorem dX0_addNode_49 : decode cX0_addNode 49 = .ok (.aload_n 0, 1) := by decide +kernel
theorem dX0_addNode_50 : decode cX0_addNode 50 = .ok (.getfield 37, 3) := by decide +kernel
theorem dX0_addNode_53 : decode cX0_addNode 53 = .ok (.iload 6, 2) := by decide +kernel
theorem dX0_addNode_55 : decode cX0_addNode 55 = .ok (.iload_n 3, 1) := by decide +kernel
theorem dX0_addNode_56 : decode cX0_addNode 56 = .ok (.iastore, 1) := by decide +kernel
theorem dX0_addNode_57 : decode cX0_addNode 57 = .ok (.aload_n 0, 1) := by decide +kernel
theorem dX0_addNode_58 : decode cX0_addNode 58 = .ok (.getfield 40, 3) := by decide +kernel
theorem dX0_addNode_61 : decode cX0_addNode 61 = .ok (.iload 6, 2) := by decide +kernel
theorem dX0_addNode_63 : decode cX0_addNode 63 = .ok (.iload 4, 2) := by decide +kernel
theorem dX0_addNode_65 : decode cX0_addNode 65 = .ok (.iastore, 1) := by decide +kernel
theorem dX0_addNode_66 : decode cX0_addNode 66 = .ok (.aload_n 0, 1) := by decide +kernel
theorem dX0_addNode_67 : decode cX0_addNode 67 = .ok (.getfield 43, 3) := by decide +kernel
theorem dX0_addNode_70 : decode cX0_addNode 70 = .ok (.iload 6, 2) := by decide +kernel
theorem dX0_addNode_72 : decode cX0_addNode 72 = .ok (.iload 5, 2) := by decide +kernel
theorem dX0_addNode_74 : decode cX0_addNode 74 = .ok (.iastore, 1) := by decide +kernel
theorem dX0_addNode_75 : decode cX0_addNode 75 = .ok (.aload_n 0, 1) := by decide +kernel
theorem dX0_addNode_76 : decode cX0_addNode 76 = .ok (.dup, 1) := by decide +kernel
theorem dX0_addNode_77 : decode cX0_addNode 77 = .ok (.getfield 9, 3) := by decide +kernel
theorem dX0_addNode_80 : decode cX0_addNode 80 = .ok (.iconst 1, 1) := by decide +kernel
theorem dX0_addNode_81 : decode cX0_addNode 81 = .ok (.iadd, 1) := by decide +kernel
theorem dX0_addNode_82 : decode cX0_addNode 82 = .ok (.putfield 9, 3) := by decide +kernel
theorem dX0_addNode_85 : decode cX0_addNode 85 = .ok (.iload 6, 2) := by decide +kernel
theorem dX0_addNode_87 : decode cX0_addNode 87 = .ok (.ireturn, 1) := by decide +kernel
theorem dX0_scriptsOf_0 : decode cX0_scriptsOf 0 = .ok (.aload_n 0, 1) := by decide +kernel
theorem dX0_scriptsOf_1 : decode cX0_scriptsOf 1 = .ok (.getfield 31, 3) := by decide +kernel
theorem dX0_scriptsOf_4 : decode cX0_scriptsOf 4 = .ok (.iload_n 1, 1) := by decide +kernel
theorem dX0_scriptsOf_5 : decode cX0_scriptsOf 5 = .ok (.iaload, 1) := by decide +kernel
theorem dX0_scriptsOf_6 : decode cX0_scriptsOf 6 = .ok (.iconst (-1), 1) := by decide +kernel
theorem dX0_scriptsOf_7 : decode cX0_scriptsOf 7 = .ok (.if_icmp .eq 7, 3) := by decide +kernel
theorem dX0_scriptsOf_10 : decode cX0_scriptsOf 10 = .ok (.iconst 1, 1) := by decide +kernel
theorem dX0_scriptsOf_11 : decode cX0_scriptsOf 11 = .ok (.goto 4, 3) := by decide +kernel
theorem dX0_scriptsOf_14 : decode cX0_scriptsOf 14 = .ok (.iconst 0, 1) := by decide +kernel
theorem dX0_scriptsOf_15 : decode cX0_scriptsOf 15 = .ok (.aload_n 0, 1) := by decide +kernel
theorem dX0_scriptsOf_16 : decode cX0_scriptsOf 16 = .ok (.getfield 34, 3) := by decide +kernel
theorem dX0_scriptsOf_19 : decode cX0_scriptsOf 19 = .ok (.iload_n 1, 1) := by decide +kernel
theorem dX0_scriptsOf_20 : decode cX0_scriptsOf 20 = .ok (.iaload, 1) := by decide +kernel
theorem dX0_scriptsOf_21 : decode cX0_scriptsOf 21 = .ok (.iconst (-1), 1) := by decide +kernel
theorem dX0_scriptsOf_22 : decode cX0_scriptsOf 22 = .ok (.if_icmp .eq 7, 3) := by decide +kernel
theorem dX0_scriptsOf_25 : decode cX0_scriptsOf 25 = .ok (.iconst 1, 1) := by decide +kernel
theorem dX0_scriptsOf_26 : decode cX0_scriptsOf 26 = .ok (.goto 4, 3) := by decide +kernel
theorem dX0_scriptsOf_29 : decode cX0_scriptsOf 29 = .ok (.iconst 0, 1) := by decide +kernel
theorem dX0_scriptsOf_30 : decode cX0_scriptsOf 30 = .ok (.iadd, 1) := by decide +kernel
theorem dX0_scriptsOf_31 : decode cX0_scriptsOf 31 = .ok (.ireturn, 1) := by decide +kernel
theorem dX0_mayBeCell_0 : decode cX0_mayBeCell 0 = .ok (.iload_n 1, 1) := by decide +kernel
theorem dX0_mayBeCell_1 : decode cX0_mayBeCell 1 = .ok (.aload_n 0, 1) := by decide +kernel
theorem dX0_mayBeCell_2 : decode cX0_mayBeCell 2 = .ok (.getfield 18, 3) := by decide +kernel
theorem dX0_mayBeCell_5 : decode cX0_mayBeCell 5 = .ok (.if_icmp .eq 15, 3) := by decide +kernel
theorem dX0_mayBeCell_8 : decode cX0_mayBeCell 8 = .ok (.aload_n 0, 1) := by decide +kernel
theorem dX0_mayBeCell_9 : decode cX0_mayBeCell 9 = .ok (.iload_n 1, 1) := by decide +kernel
theorem dX0_mayBeCell_10 : decode cX0_mayBeCell 10 = .ok (.invokevirtual 55, 3) := by decide +kernel
theorem dX0_mayBeCell_13 : decode cX0_mayBeCell 13 = .ok (.ifCond .eq 7, 3) := by decide +kernel
theorem dX0_mayBeCell_16 : decode cX0_mayBeCell 16 = .ok (.iconst 1, 1) := by decide +kernel
theorem dX0_mayBeCell_17 : decode cX0_mayBeCell 17 = .ok (.goto 4, 3) := by decide +kernel
theorem dX0_mayBeCell_20 : decode cX0_mayBeCell 20 = .ok (.iconst 0, 1) := by decide +kernel
theorem dX0_mayBeCell_21 : decode cX0_mayBeCell 21 = .ok (.ireturn, 1) := by decide +kernel
theorem dX0_firstOfLastFree_0 : decode cX0_firstOfLastFree 0 = .ok (.iload_n 1, 1) := by decide +kernel
theorem dX0_firstOfLastFree_1 : decode cX0_firstOfLastFree 1 = .ok (.istore_n 2, 1) := by decide +kernel
theorem dX0_firstOfLastFree_2 : decode cX0_firstOfLastFree 2 = .ok (.aload_n 0, 1) := by decide +kernel
theorem dX0_firstOfLastFree_3 : decode cX0_firstOfLastFree 3 = .ok (.getfield 15, 3) := by decide +kernel
theorem dX0_firstOfLastFree_6 : decode cX0_firstOfLastFree 6 = .ok (.iconst 1, 1) := by decide +kernel
theorem dX0_firstOfLastFree_7 : decode cX0_firstOfLastFree 7 = .ok (.isub, 1) := by decide +kernel
theorem dX0_firstOfLastFree_8 : decode cX0_firstOfLastFree 8 = .ok (.istore_n 3, 1) := by decide +kernel
theorem dX0_firstOfLastFree_9 : decode cX0_firstOfLastFree 9 = .ok (.iload_n 3, 1) := by decide +kernel
theorem dX0_firstOfLastFree_10 : decode cX0_firstOfLastFree 10 = .ok (.ifCond .le 26, 3) := by decide +kernel
theorem dX0_firstOfLastFree_13 : decode cX0_firstOfLastFree 13 = .ok (.aload_n 0, 1) := by decide +kernel
theorem dX0_firstOfLastFree_14 : decode cX0_firstOfLastFree 14 = .ok (.iload_n 3, 1) := by decide +kernel
theorem dX0_firstOfLastFree_15 : decode cX0_firstOfLastFree 15 = .ok (.invokevirtual 59, 3) := by decide +kernel
theorem dX0_firstOfLastFree_18 : decode cX0_firstOfLastFree 18 = .ok (.ifCond .eq 12, 3) := by decide +kernel
theorem dX0_firstOfLastFree_21 : decode cX0_firstOfLastFree 21 = .ok (.iinc 2 (-1), 3) := by decide +kernel
theorem dX0_firstOfLastFree_24 : decode cX0_firstOfLastFree 24 = .ok (.iload_n 2, 1) := by decide +kernel
theorem dX0_firstOfLastFree_25 : decode cX0_firstOfLastFree 25 = .ok (.ifCond .ne 5, 3) := by decide +kernel
theorem dX0_firstOfLastFree_28 : decode cX0_firstOfLastFree 28 = .ok (.iload_n 3, 1) := by decide +kernel
theorem dX0_firstOfLastFree_29 : decode cX0_firstOfLastFree 29 = .ok (.ireturn, 1) := by decide +kernel
theorem dX0_firstOfLastFree_30 : decode cX0_firstOfLastFree 30 = .ok (.iinc 3 (-1), 3) := by decide +kernel
theorem dX0_firstOfLastFree_33 : decode cX0_firstOfLastFree 33 = .ok (.goto (-24), 3) := by decide +kernel
theorem dX0_firstOfLastFree_36 : decode cX0_firstOfLastFree 36 = .ok (.iconst (-1), 1) := by decide +kernel
theorem dX0_firstOfLastFree_37 : decode cX0_firstOfLastFree 37 = .ok (.ireturn, 1) := by decide +kernel
theorem dX0_ringsFrom_0 : decode cX0_ringsFrom 0 = .ok (.iload_n 1, 1) := by decide +kernel
theorem dX0_ringsFrom_1 : decode cX0_ringsFrom 1 = .ok (.istore_n 2, 1) := by decide +kernel
theorem dX0_ringsFrom_2 : decode cX0_ringsFrom 2 = .ok (.iload_n 2, 1) := by decide +kernel
theorem dX0_ringsFrom_3 : decode cX0_ringsFrom 3 = .ok (.aload_n 0, 1) := by decide +kernel
theorem dX0_ringsFrom_4 : decode cX0_ringsFrom 4 = .ok (.getfield 15, 3) := by decide +kernel
theorem dX0_ringsFrom_7 : decode cX0_ringsFrom 7 = .ok (.if_icmp .ge 31, 3) := by decide +kernel
theorem dX0_ringsFrom_10 : decode cX0_ringsFrom 10 = .ok (.aload_n 0, 1) := by decide +kernel
theorem dX0_ringsFrom_11 : decode cX0_ringsFrom 11 = .ok (.iload_n 2, 1) := by decide +kernel
theorem dX0_ringsFrom_12 : decode cX0_ringsFrom 12 = .ok (.invokevirtual 59, 3) := by decide +kernel
theorem dX0_ringsFrom_15 : decode cX0_ringsFrom 15 = .ok (.ifCond .eq 17, 3) := by decide +kernel
theorem dX0_ringsFrom_18 : decode cX0_ringsFrom 18 = .ok (.aload_n 0, 1) := by decide +kernel
theorem dX0_ringsFrom_19 : decode cX0_ringsFrom 19 = .ok (.iload_n 2, 1) := by decide +kernel
theorem dX0_ringsFrom_20 : decode cX0_ringsFrom 20 = .ok (.aload_n 0, 1) := by decide +kernel
theorem dX0_ringsFrom_21 : decode cX0_ringsFrom 21 = .ok (.getfield 18, 3) := by decide +kernel
theorem dX0_ringsFrom_24 : decode cX0_ringsFrom 24 = .ok (.invokevirtual 62, 3) := by decide +kernel
theorem dX0_ringsFrom_27 : decode cX0_ringsFrom 27 = .ok (.ifCond .eq 5, 3) := by decide +kernel
theorem dX0_ringsFrom_30 : decode cX0_ringsFrom 30 = .ok (.iconst 1, 1) := by decide +kernel
theorem dX0_ringsFrom_31 : decode cX0_ringsFrom 31 = .ok (.ireturn, 1) := by decide +kernel
theorem dX0_ringsFrom_32 : decode cX0_ringsFrom 32 = .ok (.iinc 2 1, 3) := by decide +kernel
theorem dX0_ringsFrom_35 : decode cX0_ringsFrom 35 = .ok (.goto (-33), 3) := by decide +kernel
theorem dX0_ringsFrom_38 : decode cX0_ringsFrom 38 = .ok (.iconst 0, 1) := by decide +kernel
theorem dX0_ringsFrom_39 : decode cX0_ringsFrom 39 = .ok (.ireturn, 1) := by decide +kernel
theorem dX0_holdCellsFrom_0 : decode cX0_holdCellsFrom 0 = .ok (.iload_n 1, 1) := by decide +kernel
theorem dX0_holdCellsFrom_1 : decode cX0_holdCellsFrom 1 = .ok (.istore_n 3, 1) := by decide +kernel
theorem dX0_holdCellsFrom_2 : decode cX0_holdCellsFrom 2 = .ok (.iload_n 3, 1) := by decide +kernel
theorem dX0_holdCellsFrom_3 : decode cX0_holdCellsFrom 3 = .ok (.aload_n 0, 1) := by decide +kernel
theorem dX0_holdCellsFrom_4 : decode cX0_holdCellsFrom 4 = .ok (.getfield 15, 3) := by decide +kernel
theorem dX0_holdCellsFrom_7 : decode cX0_holdCellsFrom 7 = .ok (.if_icmp .ge 53, 3) := by decide +kernel
theorem dX0_holdCellsFrom_10 : decode cX0_holdCellsFrom 10 = .ok (.aload_n 0, 1) := by decide +kernel
theorem dX0_holdCellsFrom_11 : decode cX0_holdCellsFrom 11 = .ok (.iload_n 3, 1) := by decide +kernel
theorem dX0_holdCellsFrom_12 : decode cX0_holdCellsFrom 12 = .ok (.invokevirtual 59, 3) := by decide +kernel
theorem dX0_holdCellsFrom_15 : decode cX0_holdCellsFrom 15 = .ok (.ifCond .eq 39, 3) := by decide +kernel
theorem dX0_holdCellsFrom_18 : decode cX0_holdCellsFrom 18 = .ok (.aload_n 0, 1) := by decide +kernel
theorem dX0_holdCellsFrom_19 : decode cX0_holdCellsFrom 19 = .ok (.getfield 52, 3) := by decide +kernel
theorem dX0_holdCellsFrom_22 : decode cX0_holdCellsFrom 22 = .ok (.bipush 30, 2) := by decide +kernel
theorem dX0_holdCellsFrom_24 : decode cX0_holdCellsFrom 24 = .ok (.if_icmp .ge 30, 3) := by decide +kernel
theorem dX0_holdCellsFrom_27 : decode cX0_holdCellsFrom 27 = .ok (.aload_n 0, 1) := by decide +kernel
theorem dX0_holdCellsFrom_28 : decode cX0_holdCellsFrom 28 = .ok (.getfield 46, 3) := by decide +kernel
theorem dX0_holdCellsFrom_31 : decode cX0_holdCellsFrom 31 = .ok (.iload_n 3, 1) := by decide +kernel
theorem dX0_holdCellsFrom_32 : decode cX0_holdCellsFrom 32 = .ok (.iload_n 2, 1) := by decide +kernel
theorem dX0_holdCellsFrom_33 : decode cX0_holdCellsFrom 33 = .ok (.iastore, 1) := by decide +kernel
theorem dX0_holdCellsFrom_34 : decode cX0_holdCellsFrom 34 = .ok (.aload_n 0, 1) := by decide +kernel
theorem dX0_holdCellsFrom_35 : decode cX0_holdCellsFrom 35 = .ok (.getfield 49, 3) := by decide +kernel
theorem dX0_holdCellsFrom_38 : decode cX0_holdCellsFrom 38 = .ok (.aload_n 0, 1) := by decide +kernel
theorem dX0_holdCellsFrom_39 : decode cX0_holdCellsFrom 39 = .ok (.getfield 52, 3) := by decide +kernel
theorem dX0_holdCellsFrom_42 : decode cX0_holdCellsFrom 42 = .ok (.iload_n 3, 1) := by decide +kernel
theorem dX0_holdCellsFrom_43 : decode cX0_holdCellsFrom 43 = .ok (.iastore, 1) := by decide +kernel
theorem dX0_holdCellsFrom_44 : decode cX0_holdCellsFrom 44 = .ok (.aload_n 0, 1) := by decide +kernel
theorem dX0_holdCellsFrom_45 : decode cX0_holdCellsFrom 45 = .ok (.dup, 1) := by decide +kernel
theorem dX0_holdCellsFrom_46 : decode cX0_holdCellsFrom 46 = .ok (.getfield 52, 3) := by decide +kernel
theorem dX0_holdCellsFrom_49 : decode cX0_holdCellsFrom 49 = .ok (.iconst 1, 1) := by decide +kernel
theorem dX0_holdCellsFrom_50 : decode cX0_holdCellsFrom 50 = .ok (.iadd, 1) := by decide +kernel
theorem dX0_holdCellsFrom_51 : decode cX0_holdCellsFrom 51 = .ok (.putfield 52, 3) := by decide +kernel
theorem dX0_holdCellsFrom_54 : decode cX0_holdCellsFrom 54 = .ok (.iinc 3 1, 3) := by decide +kernel
theorem dX0_holdCellsFrom_57 : decode cX0_holdCellsFrom 57 = .ok (.goto (-55), 3) := by decide +kernel
theorem dX0_holdCellsFrom_60 : decode cX0_holdCellsFrom 60 = .ok (.return_, 1) := by decide +kernel
theorem dX0_relationOf_0 : decode cX0_relationOf 0 = .ok (.iconst 0, 1) := by decide +kernel
theorem dX0_relationOf_1 : decode cX0_relationOf 1 = .ok (.istore_n 3, 1) := by decide +kernel
theorem dX0_relationOf_2 : decode cX0_relationOf 2 = .ok (.iconst 0, 1) := by decide +kernel
theorem dX0_relationOf_3 : decode cX0_relationOf 3 = .ok (.istore 4, 2) := by decide +kernel
theorem dX0_relationOf_5 : decode cX0_relationOf 5 = .ok (.iload 4, 2) := by decide +kernel
theorem dX0_relationOf_7 : decode cX0_relationOf 7 = .ok (.aload_n 0, 1) := by decide +kernel
theorem dX0_relationOf_8 : decode cX0_relationOf 8 = .ok (.getfield 9, 3) := by decide +kernel
theorem dX0_relationOf_11 : decode cX0_relationOf 11 = .ok (.if_icmp .ge 53, 3) := by decide +kernel
theorem dX0_relationOf_14 : decode cX0_relationOf 14 = .ok (.aload_n 0, 1) := by decide +kernel
theorem dX0_relationOf_15 : decode cX0_relationOf 15 = .ok (.getfield 21, 3) := by decide +kernel
theorem dX0_relationOf_18 : decode cX0_relationOf 18 = .ok (.iload 4, 2) := by decide +kernel
theorem dX0_relationOf_20 : decode cX0_relationOf 20 = .ok (.iaload, 1) := by decide +kernel
theorem dX0_relationOf_21 : decode cX0_relationOf 21 = .ok (.iload_n 1, 1) := by decide +kernel
theorem dX0_relationOf_22 : decode cX0_relationOf 22 = .ok (.if_icmp .ne 36, 3) := by decide +kernel
theorem dX0_relationOf_25 : decode cX0_relationOf 25 = .ok (.aload_n 0, 1) := by decide +kernel
theorem dX0_relationOf_26 : decode cX0_relationOf 26 = .ok (.getfield 25, 3) := by decide +kernel
theorem dX0_relationOf_29 : decode cX0_relationOf 29 = .ok (.iload 4, 2) := by decide +kernel
