theorem dX4_space_26 : decode cX4_space 26 = .ok (.iconst 0, 1) := by decide +kernel
theorem dX4_space_27 : decode cX4_space 27 = .ok (.invokestatic 148, 3) := by decide +kernel
theorem dX4_space_30 : decode cX4_space 30 = .ok (.ireturn, 1) := by decide +kernel
theorem dX4_kind_0 : decode cX4_kind 0 = .ok (.aload_n 0, 1) := by decide +kernel
theorem dX4_kind_1 : decode cX4_kind 1 = .ok (.iload_n 1, 1) := by decide +kernel
theorem dX4_kind_2 : decode cX4_kind 2 = .ok (.invokevirtual 56, 3) := by decide +kernel
theorem dX4_kind_5 : decode cX4_kind 5 = .ok (.aload_n 0, 1) := by decide +kernel
theorem dX4_kind_6 : decode cX4_kind 6 = .ok (.getfield 12, 3) := by decide +kernel
theorem dX4_kind_9 : decode cX4_kind 9 = .ok (.iload_n 1, 1) := by decide +kernel
theorem dX4_kind_10 : decode cX4_kind 10 = .ok (.invokevirtual 152, 3) := by decide +kernel
theorem dX4_kind_13 : decode cX4_kind 13 = .ok (.ireturn, 1) := by decide +kernel
theorem dX4_split_0 : decode cX4_split 0 = .ok (.aload_n 0, 1) := by decide +kernel
theorem dX4_split_1 : decode cX4_split 1 = .ok (.iload_n 1, 1) := by decide +kernel
theorem dX4_split_2 : decode cX4_split 2 = .ok (.invokevirtual 60, 3) := by decide +kernel
theorem dX4_split_5 : decode cX4_split 5 = .ok (.aload_n 0, 1) := by decide +kernel
theorem dX4_split_6 : decode cX4_split 6 = .ok (.getfield 12, 3) := by decide +kernel
theorem dX4_split_9 : decode cX4_split 9 = .ok (.iload_n 1, 1) := by decide +kernel
theorem dX4_split_10 : decode cX4_split 10 = .ok (.iload_n 2, 1) := by decide +kernel
theorem dX4_split_11 : decode cX4_split 11 = .ok (.invokevirtual 155, 3) := by decide +kernel
theorem dX4_split_14 : decode cX4_split 14 = .ok (.istore_n 3, 1) := by decide +kernel
theorem dX4_split_15 : decode cX4_split 15 = .ok (.iload_n 3, 1) := by decide +kernel
theorem dX4_split_16 : decode cX4_split 16 = .ok (.iconst (-1), 1) := by decide +kernel
theorem dX4_split_17 : decode cX4_split 17 = .ok (.if_icmp .ne 13, 3) := by decide +kernel
theorem dX4_split_20 : decode cX4_split 20 = .ok (.new 139, 3) := by decide +kernel
theorem dX4_split_23 : decode cX4_split 23 = .ok (.dup, 1) := by decide +kernel
theorem dX4_split_24 : decode cX4_split 24 = .ok (.ldc 158, 2) := by decide +kernel
theorem dX4_split_26 : decode cX4_split 26 = .ok (.invokespecial 143, 3) := by decide +kernel
theorem dX4_split_29 : decode cX4_split 29 = .ok (.athrow, 1) := by decide +kernel
theorem dX4_split_30 : decode cX4_split 30 = .ok (.aload_n 0, 1) := by decide +kernel
theorem dX4_split_31 : decode cX4_split 31 = .ok (.invokevirtual 25, 3) := by decide +kernel
theorem dX4_split_34 : decode cX4_split 34 = .ok (.aload_n 0, 1) := by decide +kernel
theorem dX4_split_35 : decode cX4_split 35 = .ok (.getfield 12, 3) := by decide +kernel
theorem dX4_split_38 : decode cX4_split 38 = .ok (.invokevirtual 28, 3) := by decide +kernel
theorem dX4_split_41 : decode cX4_split 41 = .ok (.istore 4, 2) := by decide +kernel
theorem dX4_split_43 : decode cX4_split 43 = .ok (.aload_n 0, 1) := by decide +kernel
theorem dX4_split_44 : decode cX4_split 44 = .ok (.getfield 12, 3) := by decide +kernel
theorem dX4_split_47 : decode cX4_split 47 = .ok (.iload_n 3, 1) := by decide +kernel
theorem dX4_split_48 : decode cX4_split 48 = .ok (.iload_n 1, 1) := by decide +kernel
theorem dX4_split_49 : decode cX4_split 49 = .ok (.iload 4, 2) := by decide +kernel
theorem dX4_split_51 : decode cX4_split 51 = .ok (.invokevirtual 160, 3) := by decide +kernel
theorem dX4_split_54 : decode cX4_split 54 = .ok (.aload_n 0, 1) := by decide +kernel
theorem dX4_split_55 : decode cX4_split 55 = .ok (.getfield 12, 3) := by decide +kernel
theorem dX4_split_58 : decode cX4_split 58 = .ok (.getfield 32, 3) := by decide +kernel
theorem dX4_split_61 : decode cX4_split 61 = .ok (.iload_n 1, 1) := by decide +kernel
theorem dX4_split_62 : decode cX4_split 62 = .ok (.if_icmp .ne 12, 3) := by decide +kernel
theorem dX4_split_65 : decode cX4_split 65 = .ok (.aload_n 0, 1) := by decide +kernel
theorem dX4_split_66 : decode cX4_split 66 = .ok (.getfield 12, 3) := by decide +kernel
theorem dX4_split_69 : decode cX4_split 69 = .ok (.iload 4, 2) := by decide +kernel
theorem dX4_split_71 : decode cX4_split 71 = .ok (.putfield 32, 3) := by decide +kernel
theorem dX4_split_74 : decode cX4_split 74 = .ok (.iload 4, 2) := by decide +kernel
theorem dX4_split_76 : decode cX4_split 76 = .ok (.ireturn, 1) := by decide +kernel
theorem dX4_needList_0 : decode cX4_needList 0 = .ok (.aload_n 0, 1) := by decide +kernel
theorem dX4_needList_1 : decode cX4_needList 1 = .ok (.getfield 12, 3) := by decide +kernel
theorem dX4_needList_4 : decode cX4_needList 4 = .ok (.iload_n 1, 1) := by decide +kernel
theorem dX4_needList_5 : decode cX4_needList 5 = .ok (.invokevirtual 164, 3) := by decide +kernel
theorem dX4_needList_8 : decode cX4_needList 8 = .ok (.ifCond .ne 13, 3) := by decide +kernel
theorem dX4_needList_11 : decode cX4_needList 11 = .ok (.new 167, 3) := by decide +kernel
theorem dX4_needList_14 : decode cX4_needList 14 = .ok (.dup, 1) := by decide +kernel
theorem dX4_needList_15 : decode cX4_needList 15 = .ok (.ldc 169, 2) := by decide +kernel
theorem dX4_needList_17 : decode cX4_needList 17 = .ok (.invokespecial 171, 3) := by decide +kernel
theorem dX4_needList_20 : decode cX4_needList 20 = .ok (.athrow, 1) := by decide +kernel
theorem dX4_needList_21 : decode cX4_needList 21 = .ok (.return_, 1) := by decide +kernel
theorem dX4_needAtom_0 : decode cX4_needAtom 0 = .ok (.aload_n 0, 1) := by decide +kernel
theorem dX4_needAtom_1 : decode cX4_needAtom 1 = .ok (.getfield 12, 3) := by decide +kernel
theorem dX4_needAtom_4 : decode cX4_needAtom 4 = .ok (.iload_n 1, 1) := by decide +kernel
theorem dX4_needAtom_5 : decode cX4_needAtom 5 = .ok (.invokevirtual 172, 3) := by decide +kernel
theorem dX4_needAtom_8 : decode cX4_needAtom 8 = .ok (.ifCond .ne 13, 3) := by decide +kernel
theorem dX4_needAtom_11 : decode cX4_needAtom 11 = .ok (.new 167, 3) := by decide +kernel
theorem dX4_needAtom_14 : decode cX4_needAtom 14 = .ok (.dup, 1) := by decide +kernel
theorem dX4_needAtom_15 : decode cX4_needAtom 15 = .ok (.ldc 175, 2) := by decide +kernel
theorem dX4_needAtom_17 : decode cX4_needAtom 17 = .ok (.invokespecial 171, 3) := by decide +kernel
theorem dX4_needAtom_20 : decode cX4_needAtom 20 = .ok (.athrow, 1) := by decide +kernel
theorem dX4_needAtom_21 : decode cX4_needAtom 21 = .ok (.return_, 1) := by decide +kernel
theorem dX4_needFree_0 : decode cX4_needFree 0 = .ok (.aload_n 0, 1) := by decide +kernel
theorem dX4_needFree_1 : decode cX4_needFree 1 = .ok (.getfield 12, 3) := by decide +kernel
theorem dX4_needFree_4 : decode cX4_needFree 4 = .ok (.iload_n 1, 1) := by decide +kernel
theorem dX4_needFree_5 : decode cX4_needFree 5 = .ok (.invokevirtual 177, 3) := by decide +kernel
theorem dX4_needFree_8 : decode cX4_needFree 8 = .ok (.ifCond .ne 13, 3) := by decide +kernel
theorem dX4_needFree_11 : decode cX4_needFree 11 = .ok (.new 70, 3) := by decide +kernel
theorem dX4_needFree_14 : decode cX4_needFree 14 = .ok (.dup, 1) := by decide +kernel
theorem dX4_needFree_15 : decode cX4_needFree 15 = .ok (.ldc 180, 2) := by decide +kernel
theorem dX4_needFree_17 : decode cX4_needFree 17 = .ok (.invokespecial 74, 3) := by decide +kernel
theorem dX4_needFree_20 : decode cX4_needFree 20 = .ok (.athrow, 1) := by decide +kernel
theorem dX4_needFree_21 : decode cX4_needFree 21 = .ok (.aload_n 0, 1) := by decide +kernel
theorem dX4_needFree_22 : decode cX4_needFree 22 = .ok (.getfield 12, 3) := by decide +kernel
theorem dX4_needFree_25 : decode cX4_needFree 25 = .ok (.iload_n 1, 1) := by decide +kernel
theorem dX4_needFree_26 : decode cX4_needFree 26 = .ok (.iload_n 2, 1) := by decide +kernel
theorem dX4_needFree_27 : decode cX4_needFree 27 = .ok (.invokevirtual 182, 3) := by decide +kernel
theorem dX4_needFree_30 : decode cX4_needFree 30 = .ok (.ifCond .eq 13, 3) := by decide +kernel
theorem dX4_needFree_33 : decode cX4_needFree 33 = .ok (.new 70, 3) := by decide +kernel
theorem dX4_needFree_36 : decode cX4_needFree 36 = .ok (.dup, 1) := by decide +kernel
theorem dX4_needFree_37 : decode cX4_needFree 37 = .ok (.ldc 185, 2) := by decide +kernel
theorem dX4_needFree_39 : decode cX4_needFree 39 = .ok (.invokespecial 74, 3) := by decide +kernel
theorem dX4_needFree_42 : decode cX4_needFree 42 = .ok (.athrow, 1) := by decide +kernel
theorem dX4_needFree_43 : decode cX4_needFree 43 = .ok (.return_, 1) := by decide +kernel
theorem dX4_needRoomForNode_0 : decode cX4_needRoomForNode 0 = .ok (.aload_n 0, 1) := by decide +kernel
theorem dX4_needRoomForNode_1 : decode cX4_needRoomForNode 1 = .ok (.getfield 12, 3) := by decide +kernel
theorem dX4_needRoomForNode_4 : decode cX4_needRoomForNode 4 = .ok (.getfield 187, 3) := by decide +kernel
theorem dX4_needRoomForNode_7 : decode cX4_needRoomForNode 7 = .ok (.bipush 120, 2) := by decide +kernel
theorem dX4_needRoomForNode_9 : decode cX4_needRoomForNode 9 = .ok (.if_icmp .lt 13, 3) := by decide +kernel
theorem dX4_needRoomForNode_12 : decode cX4_needRoomForNode 12 = .ok (.new 190, 3) := by decide +kernel
theorem dX4_needRoomForNode_15 : decode cX4_needRoomForNode 15 = .ok (.dup, 1) := by decide +kernel
theorem dX4_needRoomForNode_16 : decode cX4_needRoomForNode 16 = .ok (.ldc 192, 2) := by decide +kernel
theorem dX4_needRoomForNode_18 : decode cX4_needRoomForNode 18 = .ok (.invokespecial 194, 3) := by decide +kernel
theorem dX4_needRoomForNode_21 : decode cX4_needRoomForNode 21 = .ok (.athrow, 1) := by decide +kernel
theorem dX4_needRoomForNode_22 : decode cX4_needRoomForNode 22 = .ok (.return_, 1) := by decide +kernel
theorem dX4_needRoomForList_0 : decode cX4_needRoomForList 0 = .ok (.aload_n 0, 1) := by decide +kernel
theorem dX4_needRoomForList_1 : decode cX4_needRoomForList 1 = .ok (.getfield 12, 3) := by decide +kernel
theorem dX4_needRoomForList_4 : decode cX4_needRoomForList 4 = .ok (.getfield 195, 3) := by decide +kernel
theorem dX4_needRoomForList_7 : decode cX4_needRoomForList 7 = .ok (.bipush 30, 2) := by decide +kernel
theorem dX4_needRoomForList_9 : decode cX4_needRoomForList 9 = .ok (.if_icmp .lt 13, 3) := by decide +kernel
theorem dX4_needRoomForList_12 : decode cX4_needRoomForList 12 = .ok (.new 190, 3) := by decide +kernel
theorem dX4_needRoomForList_15 : decode cX4_needRoomForList 15 = .ok (.dup, 1) := by decide +kernel
theorem dX4_needRoomForList_16 : decode cX4_needRoomForList 16 = .ok (.ldc 198, 2) := by decide +kernel
theorem dX4_needRoomForList_18 : decode cX4_needRoomForList 18 = .ok (.invokespecial 194, 3) := by decide +kernel
theorem dX4_needRoomForList_21 : decode cX4_needRoomForList 21 = .ok (.athrow, 1) := by decide +kernel
theorem dX4_needRoomForList_22 : decode cX4_needRoomForList 22 = .ok (.return_, 1) := by decide +kernel
theorem dX4_isKind_0 : decode cX4_isKind 0 = .ok (.iload_n 0, 1) := by decide +kernel
theorem dX4_isKind_1 : decode cX4_isKind 1 = .ok (.ifCond .lt 13, 3) := by decide +kernel
theorem dX4_isKind_4 : decode cX4_isKind 4 = .ok (.iload_n 0, 1) := by decide +kernel
theorem dX4_isKind_5 : decode cX4_isKind 5 = .ok (.bipush 8, 2) := by decide +kernel
theorem dX4_isKind_7 : decode cX4_isKind 7 = .ok (.if_icmp .ge 7, 3) := by decide +kernel
theorem dX4_isKind_10 : decode cX4_isKind 10 = .ok (.iconst 1, 1) := by decide +kernel
theorem dX4_isKind_11 : decode cX4_isKind 11 = .ok (.goto 4, 3) := by decide +kernel
theorem dX4_isKind_14 : decode cX4_isKind 14 = .ok (.iconst 0, 1) := by decide +kernel
theorem dX4_isKind_15 : decode cX4_isKind 15 = .ok (.ireturn, 1) := by decide +kernel
theorem dX4_isBalanced_0 : decode cX4_isBalanced 0 = .ok (.iload_n 0, 1) := by decide +kernel
theorem dX4_isBalanced_1 : decode cX4_isBalanced 1 = .ok (.iload_n 1, 1) := by decide +kernel
theorem dX4_isBalanced_2 : decode cX4_isBalanced 2 = .ok (.if_icmp .ne 15, 3) := by decide +kernel
theorem dX4_isBalanced_5 : decode cX4_isBalanced 5 = .ok (.iload_n 0, 1) := by decide +kernel
theorem dX4_isBalanced_6 : decode cX4_isBalanced 6 = .ok (.ifCond .eq 7, 3) := by decide +kernel
theorem dX4_isBalanced_9 : decode cX4_isBalanced 9 = .ok (.iconst 1, 1) := by decide +kernel
theorem dX4_isBalanced_10 : decode cX4_isBalanced 10 = .ok (.goto 20, 3) := by decide +kernel
theorem dX4_isBalanced_13 : decode cX4_isBalanced 13 = .ok (.iconst 0, 1) := by decide +kernel
theorem dX4_isBalanced_14 : decode cX4_isBalanced 14 = .ok (.goto 16, 3) := by decide +kernel
theorem dX4_isBalanced_17 : decode cX4_isBalanced 17 = .ok (.iload_n 0, 1) := by decide +kernel
theorem dX4_isBalanced_18 : decode cX4_isBalanced 18 = .ok (.ifCond .eq 7, 3) := by decide +kernel
theorem dX4_isBalanced_21 : decode cX4_isBalanced 21 = .ok (.iload_n 1, 1) := by decide +kernel
theorem dX4_isBalanced_22 : decode cX4_isBalanced 22 = .ok (.ifCond .ne 7, 3) := by decide +kernel
theorem dX4_isBalanced_25 : decode cX4_isBalanced 25 = .ok (.iconst 1, 1) := by decide +kernel
theorem dX4_isBalanced_26 : decode cX4_isBalanced 26 = .ok (.goto 4, 3) := by decide +kernel
theorem dX4_isBalanced_29 : decode cX4_isBalanced 29 = .ok (.iconst 0, 1) := by decide +kernel
theorem dX4_isBalanced_30 : decode cX4_isBalanced 30 = .ok (.ireturn, 1) := by decide +kernel
theorem dX4_spaceUnits_0 : decode cX4_spaceUnits 0 = .ok (.iload_n 0, 1) := by decide +kernel
theorem dX4_spaceUnits_1 : decode cX4_spaceUnits 1 = .ok (.invokestatic 36, 3) := by decide +kernel
theorem dX4_spaceUnits_4 : decode cX4_spaceUnits 4 = .ok (.ifCond .eq 10, 3) := by decide +kernel
theorem dX4_spaceUnits_7 : decode cX4_spaceUnits 7 = .ok (.iload_n 1, 1) := by decide +kernel
theorem dX4_spaceUnits_8 : decode cX4_spaceUnits 8 = .ok (.invokestatic 36, 3) := by decide +kernel
theorem dX4_spaceUnits_11 : decode cX4_spaceUnits 11 = .ok (.ifCond .ne 5, 3) := by decide +kernel
theorem dX4_spaceUnits_14 : decode cX4_spaceUnits 14 = .ok (.iconst 0, 1) := by decide +kernel
theorem dX4_spaceUnits_15 : decode cX4_spaceUnits 15 = .ok (.ireturn, 1) := by decide +kernel
theorem dX4_spaceUnits_16 : decode cX4_spaceUnits 16 = .ok (.getstatic 200, 3) := by decide +kernel
theorem dX4_spaceUnits_19 : decode cX4_spaceUnits 19 = .ok (.iload_n 0, 1) := by decide +kernel
theorem dX4_spaceUnits_20 : decode cX4_spaceUnits 20 = .ok (.bipush 8, 2) := by decide +kernel
theorem dX4_spaceUnits_22 : decode cX4_spaceUnits 22 = .ok (.imul, 1) := by decide +kernel
theorem dX4_spaceUnits_23 : decode cX4_spaceUnits 23 = .ok (.iload_n 1, 1) := by decide +kernel
theorem dX4_spaceUnits_24 : decode cX4_spaceUnits 24 = .ok (.iadd, 1) := by decide +kernel
theorem dX4_spaceUnits_25 : decode cX4_spaceUnits 25 = .ok (.iaload, 1) := by decide +kernel
theorem dX4_spaceUnits_26 : decode cX4_spaceUnits 26 = .ok (.istore_n 3, 1) := by decide +kernel
theorem dX4_spaceUnits_27 : decode cX4_spaceUnits 27 = .ok (.iload_n 3, 1) := by decide +kernel
theorem dX4_spaceUnits_28 : decode cX4_spaceUnits 28 = .ok (.iconst 1, 1) := by decide +kernel
theorem dX4_spaceUnits_29 : decode cX4_spaceUnits 29 = .ok (.if_icmp .gt 5, 3) := by decide +kernel
theorem dX4_spaceUnits_32 : decode cX4_spaceUnits 32 = .ok (.iload_n 3, 1) := by decide +kernel
theorem dX4_spaceUnits_33 : decode cX4_spaceUnits 33 = .ok (.ireturn, 1) := by decide +kernel
theorem dX4_spaceUnits_34 : decode cX4_spaceUnits 34 = .ok (.iload_n 2, 1) := by decide +kernel
theorem dX4_spaceUnits_35 : decode cX4_spaceUnits 35 = .ok (.iconst 1, 1) := by decide +kernel
theorem dX4_spaceUnits_36 : decode cX4_spaceUnits 36 = .ok (.if_icmp .gt 9, 3) := by decide +kernel
theorem dX4_spaceUnits_39 : decode cX4_spaceUnits 39 = .ok (.iload_n 3, 1) := by decide +kernel
theorem dX4_spaceUnits_40 : decode cX4_spaceUnits 40 = .ok (.iconst 1, 1) := by decide +kernel
theorem dX4_spaceUnits_41 : decode cX4_spaceUnits 41 = .ok (.isub, 1) := by decide +kernel
theorem dX4_spaceUnits_42 : decode cX4_spaceUnits 42 = .ok (.goto 4, 3) := by decide +kernel
theorem dX4_spaceUnits_45 : decode cX4_spaceUnits 45 = .ok (.iconst 0, 1) := by decide +kernel
theorem dX4_spaceUnits_46 : decode cX4_spaceUnits 46 = .ok (.ireturn, 1) := by decide +kernel
theorem dX4_unit_0 : decode cX4_unit 0 = .ok (.iload_n 0, 1) := by decide +kernel
theorem dX4_unit_1 : decode cX4_unit 1 = .ok (.iconst 1, 1) := by decide +kernel
theorem dX4_unit_2 : decode cX4_unit 2 = .ok (.if_icmp .gt 8, 3) := by decide +kernel
theorem dX4_unit_5 : decode cX4_unit 5 = .ok (.bipush 10, 2) := by decide +kernel
theorem dX4_unit_7 : decode cX4_unit 7 = .ok (.goto 14, 3) := by decide +kernel
theorem dX4_unit_10 : decode cX4_unit 10 = .ok (.iload_n 0, 1) := by decide +kernel
theorem dX4_unit_11 : decode cX4_unit 11 = .ok (.iconst 2, 1) := by decide +kernel
theorem dX4_unit_12 : decode cX4_unit 12 = .ok (.if_icmp .ne 8, 3) := by decide +kernel
theorem dX4_unit_15 : decode cX4_unit 15 = .ok (.bipush 7, 2) := by decide +kernel
theorem dX4_unit_17 : decode cX4_unit 17 = .ok (.goto 4, 3) := by decide +kernel
theorem dX4_unit_20 : decode cX4_unit 20 = .ok (.iconst 5, 1) := by decide +kernel
theorem dX4_unit_21 : decode cX4_unit 21 = .ok (.ireturn, 1) := by decide +kernel
theorem dX4_axis_0 : decode cX4_axis 0 = .ok (.iconst 2, 1) := by decide +kernel
theorem dX4_axis_1 : decode cX4_axis 1 = .ok (.iload_n 0, 1) := by decide +kernel
theorem dX4_axis_2 : decode cX4_axis 2 = .ok (.invokestatic 203, 3) := by decide +kernel
theorem dX4_axis_5 : decode cX4_axis 5 = .ok (.imul, 1) := by decide +kernel
theorem dX4_axis_6 : decode cX4_axis 6 = .ok (.ireturn, 1) := by decide +kernel
theorem dX5_init_0 : decode cX5_init 0 = .ok (.aload_n 0, 1) := by decide +kernel
theorem dX5_init_1 : decode cX5_init 1 = .ok (.invokespecial 1, 3) := by decide +kernel
theorem dX5_init_4 : decode cX5_init 4 = .ok (.aload_n 0, 1) := by decide +kernel
theorem dX5_init_5 : decode cX5_init 5 = .ok (.iconst 1, 1) := by decide +kernel
theorem dX5_init_6 : decode cX5_init 6 = .ok (.putfield 7, 3) := by decide +kernel
theorem dX5_init_9 : decode cX5_init 9 = .ok (.aload_n 0, 1) := by decide +kernel
theorem dX5_init_10 : decode cX5_init 10 = .ok (.bipush 30, 2) := by decide +kernel
theorem dX5_init_12 : decode cX5_init 12 = .ok (.newarray .int, 2) := by decide +kernel
theorem dX5_init_14 : decode cX5_init 14 = .ok (.putfield 13, 3) := by decide +kernel
theorem dX5_init_17 : decode cX5_init 17 = .ok (.aload_n 0, 1) := by decide +kernel
theorem dX5_init_18 : decode cX5_init 18 = .ok (.bipush 120, 2) := by decide +kernel
theorem dX5_init_20 : decode cX5_init 20 = .ok (.newarray .int, 2) := by decide +kernel
theorem dX5_init_22 : decode cX5_init 22 = .ok (.putfield 17, 3) := by decide +kernel
theorem dX5_init_25 : decode cX5_init 25 = .ok (.aload_n 0, 1) := by decide +kernel
theorem dX5_init_26 : decode cX5_init 26 = .ok (.bipush 120, 2) := by decide +kernel
theorem dX5_init_28 : decode cX5_init 28 = .ok (.newarray .int, 2) := by decide +kernel
theorem dX5_init_30 : decode cX5_init 30 = .ok (.putfield 20, 3) := by decide +kernel
theorem dX5_init_33 : decode cX5_init 33 = .ok (.aload_n 0, 1) := by decide +kernel
theorem dX5_init_34 : decode cX5_init 34 = .ok (.bipush 120, 2) := by decide +kernel
theorem dX5_init_36 : decode cX5_init 36 = .ok (.newarray .int, 2) := by decide +kernel
theorem dX5_init_38 : decode cX5_init 38 = .ok (.putfield 23, 3) := by decide +kernel
theorem dX5_init_41 : decode cX5_init 41 = .ok (.aload_n 0, 1) := by decide +kernel
theorem dX5_init_42 : decode cX5_init 42 = .ok (.bipush 120, 2) := by decide +kernel
theorem dX5_init_44 : decode cX5_init 44 = .ok (.newarray .int, 2) := by decide +kernel
theorem dX5_init_46 : decode cX5_init 46 = .ok (.putfield 26, 3) := by decide +kernel
theorem dX5_init_49 : decode cX5_init 49 = .ok (.aload_n 0, 1) := by decide +kernel
theorem dX5_init_50 : decode cX5_init 50 = .ok (.bipush 120, 2) := by decide +kernel
theorem dX5_init_52 : decode cX5_init 52 = .ok (.newarray .int, 2) := by decide +kernel
theorem dX5_init_54 : decode cX5_init 54 = .ok (.putfield 29, 3) := by decide +kernel
theorem dX5_init_57 : decode cX5_init 57 = .ok (.aload_n 0, 1) := by decide +kernel
theorem dX5_init_58 : decode cX5_init 58 = .ok (.bipush 120, 2) := by decide +kernel
theorem dX5_init_60 : decode cX5_init 60 = .ok (.newarray .int, 2) := by decide +kernel
theorem dX5_init_62 : decode cX5_init 62 = .ok (.putfield 32, 3) := by decide +kernel
theorem dX5_init_65 : decode cX5_init 65 = .ok (.aload_n 0, 1) := by decide +kernel
theorem dX5_init_66 : decode cX5_init 66 = .ok (.bipush 120, 2) := by decide +kernel
theorem dX5_init_68 : decode cX5_init 68 = .ok (.newarray .int, 2) := by decide +kernel
theorem dX5_init_70 : decode cX5_init 70 = .ok (.putfield 35, 3) := by decide +kernel
theorem dX5_init_73 : decode cX5_init 73 = .ok (.aload_n 0, 1) := by decide +kernel
theorem dX5_init_74 : decode cX5_init 74 = .ok (.bipush 120, 2) := by decide +kernel
theorem dX5_init_76 : decode cX5_init 76 = .ok (.newarray .int, 2) := by decide +kernel
theorem dX5_init_78 : decode cX5_init 78 = .ok (.putfield 38, 3) := by decide +kernel
theorem dX5_init_81 : decode cX5_init 81 = .ok (.aload_n 0, 1) := by decide +kernel
theorem dX5_init_82 : decode cX5_init 82 = .ok (.sipush 3000, 3) := by decide +kernel
theorem dX5_init_85 : decode cX5_init 85 = .ok (.newarray .int, 2) := by decide +kernel
theorem dX5_init_87 : decode cX5_init 87 = .ok (.putfield 41, 3) := by decide +kernel
theorem dX5_init_90 : decode cX5_init 90 = .ok (.aload_n 0, 1) := by decide +kernel
theorem dX5_init_91 : decode cX5_init 91 = .ok (.sipush 4000, 3) := by decide +kernel
theorem dX5_init_94 : decode cX5_init 94 = .ok (.newarray .int, 2) := by decide +kernel
theorem dX5_init_96 : decode cX5_init 96 = .ok (.putfield 44, 3) := by decide +kernel
theorem dX5_init_99 : decode cX5_init 99 = .ok (.aload_n 0, 1) := by decide +kernel
theorem dX5_init_100 : decode cX5_init 100 = .ok (.sipush 1920, 3) := by decide +kernel
theorem dX5_init_103 : decode cX5_init 103 = .ok (.newarray .int, 2) := by decide +kernel
theorem dX5_init_105 : decode cX5_init 105 = .ok (.putfield 47, 3) := by decide +kernel
theorem dX5_init_108 : decode cX5_init 108 = .ok (.iconst 0, 1) := by decide +kernel
theorem dX5_init_109 : decode cX5_init 109 = .ok (.istore_n 1, 1) := by decide +kernel
theorem dX5_init_110 : decode cX5_init 110 = .ok (.iload_n 1, 1) := by decide +kernel
theorem dX5_init_111 : decode cX5_init 111 = .ok (.bipush 30, 2) := by decide +kernel
theorem dX5_init_113 : decode cX5_init 113 = .ok (.if_icmp .ge 16, 3) := by decide +kernel
theorem dX5_init_116 : decode cX5_init 116 = .ok (.aload_n 0, 1) := by decide +kernel
theorem dX5_init_117 : decode cX5_init 117 = .ok (.getfield 13, 3) := by decide +kernel
theorem dX5_init_120 : decode cX5_init 120 = .ok (.iload_n 1, 1) := by decide +kernel
theorem dX5_init_121 : decode cX5_init 121 = .ok (.iconst (-1), 1) := by decide +kernel
theorem dX5_init_122 : decode cX5_init 122 = .ok (.iastore, 1) := by decide +kernel
theorem dX5_init_123 : decode cX5_init 123 = .ok (.iinc 1 1, 3) := by decide +kernel
theorem dX5_init_126 : decode cX5_init 126 = .ok (.goto (-16), 3) := by decide +kernel
theorem dX5_init_129 : decode cX5_init 129 = .ok (.return_, 1) := by decide +kernel
theorem dX5_thrown_0 : decode cX5_thrown 0 = .ok (.aload_n 0, 1) := by decide +kernel
theorem dX5_thrown_1 : decode cX5_thrown 1 = .ok (.getfield 50, 3) := by decide +kernel
theorem dX5_thrown_4 : decode cX5_thrown 4 = .ok (.ireturn, 1) := by decide +kernel
theorem dX5_greater_0 : decode cX5_greater 0 = .ok (.iload_n 0, 1) := by decide +kernel
theorem dX5_greater_1 : decode cX5_greater 1 = .ok (.iload_n 1, 1) := by decide +kernel
theorem dX5_greater_2 : decode cX5_greater 2 = .ok (.if_icmp .le 7, 3) := by decide +kernel
theorem dX5_greater_5 : decode cX5_greater 5 = .ok (.iload_n 0, 1) := by decide +kernel
theorem dX5_greater_6 : decode cX5_greater 6 = .ok (.goto 4, 3) := by decide +kernel
theorem dX5_greater_9 : decode cX5_greater 9 = .ok (.iload_n 1, 1) := by decide +kernel
theorem dX5_greater_10 : decode cX5_greater 10 = .ok (.ireturn, 1) := by decide +kernel
theorem dX5_half_0 : decode cX5_half 0 = .ok (.iload_n 0, 1) := by decide +kernel
theorem dX5_half_1 : decode cX5_half 1 = .ok (.iconst 2, 1) := by decide +kernel
theorem dX5_half_2 : decode cX5_half 2 = .ok (.idiv, 1) := by decide +kernel
theorem dX5_half_3 : decode cX5_half 3 = .ok (.ireturn, 1) := by decide +kernel
theorem dX5_isList_0 : decode cX5_isList 0 = .ok (.iload_n 1, 1) := by decide +kernel
theorem dX5_isList_1 : decode cX5_isList 1 = .ok (.ifCond .lt 15, 3) := by decide +kernel
theorem dX5_isList_4 : decode cX5_isList 4 = .ok (.iload_n 1, 1) := by decide +kernel
theorem dX5_isList_5 : decode cX5_isList 5 = .ok (.aload_n 0, 1) := by decide +kernel
theorem dX5_isList_6 : decode cX5_isList 6 = .ok (.getfield 7, 3) := by decide +kernel
theorem dX5_isList_9 : decode cX5_isList 9 = .ok (.if_icmp .ge 7, 3) := by decide +kernel
theorem dX5_isList_12 : decode cX5_isList 12 = .ok (.iconst 1, 1) := by decide +kernel
theorem dX5_isList_13 : decode cX5_isList 13 = .ok (.goto 4, 3) := by decide +kernel
theorem dX5_isList_16 : decode cX5_isList 16 = .ok (.iconst 0, 1) := by decide +kernel
theorem dX5_isList_17 : decode cX5_isList 17 = .ok (.ireturn, 1) := by decide +kernel
theorem dX5_isAtom_0 : decode cX5_isAtom 0 = .ok (.iload_n 1, 1) := by decide +kernel
theorem dX5_isAtom_1 : decode cX5_isAtom 1 = .ok (.ifCond .lt 25, 3) := by decide +kernel
theorem dX5_isAtom_4 : decode cX5_isAtom 4 = .ok (.iload_n 1, 1) := by decide +kernel
theorem dX5_isAtom_5 : decode cX5_isAtom 5 = .ok (.aload_n 0, 1) := by decide +kernel
theorem dX5_isAtom_6 : decode cX5_isAtom 6 = .ok (.getfield 53, 3) := by decide +kernel
theorem dX5_isAtom_9 : decode cX5_isAtom 9 = .ok (.if_icmp .ge 17, 3) := by decide +kernel
theorem dX5_isAtom_12 : decode cX5_isAtom 12 = .ok (.aload_n 0, 1) := by decide +kernel
theorem dX5_isAtom_13 : decode cX5_isAtom 13 = .ok (.getfield 20, 3) := by decide +kernel
theorem dX5_isAtom_16 : decode cX5_isAtom 16 = .ok (.iload_n 1, 1) := by decide +kernel
theorem dX5_isAtom_17 : decode cX5_isAtom 17 = .ok (.iaload, 1) := by decide +kernel
theorem dX5_isAtom_18 : decode cX5_isAtom 18 = .ok (.iconst 4, 1) := by decide +kernel
theorem dX5_isAtom_19 : decode cX5_isAtom 19 = .ok (.if_icmp .eq 7, 3) := by decide +kernel
theorem dX5_isAtom_22 : decode cX5_isAtom 22 = .ok (.iconst 1, 1) := by decide +kernel
theorem dX5_isAtom_23 : decode cX5_isAtom 23 = .ok (.goto 4, 3) := by decide +kernel
theorem dX5_isAtom_26 : decode cX5_isAtom 26 = .ok (.iconst 0, 1) := by decide +kernel
theorem dX5_isAtom_27 : decode cX5_isAtom 27 = .ok (.ireturn, 1) := by decide +kernel
theorem dX5_isFree_0 : decode cX5_isFree 0 = .ok (.iload_n 1, 1) := by decide +kernel
theorem dX5_isFree_1 : decode cX5_isFree 1 = .ok (.ifCond .le 17, 3) := by decide +kernel
theorem dX5_isFree_4 : decode cX5_isFree 4 = .ok (.aload_n 0, 1) := by decide +kernel
theorem dX5_isFree_5 : decode cX5_isFree 5 = .ok (.getfield 13, 3) := by decide +kernel
theorem dX5_isFree_8 : decode cX5_isFree 8 = .ok (.iload_n 1, 1) := by decide +kernel
theorem dX5_isFree_9 : decode cX5_isFree 9 = .ok (.iaload, 1) := by decide +kernel
theorem dX5_isFree_10 : decode cX5_isFree 10 = .ok (.iconst (-1), 1) := by decide +kernel
theorem dX5_isFree_11 : decode cX5_isFree 11 = .ok (.if_icmp .ne 7, 3) := by decide +kernel
theorem dX5_isFree_14 : decode cX5_isFree 14 = .ok (.iconst 1, 1) := by decide +kernel
theorem dX5_isFree_15 : decode cX5_isFree 15 = .ok (.goto 4, 3) := by decide +kernel
theorem dX5_isFree_18 : decode cX5_isFree 18 = .ok (.iconst 0, 1) := by decide +kernel
theorem dX5_isFree_19 : decode cX5_isFree 19 = .ok (.ireturn, 1) := by decide +kernel
theorem dX5_isWithin_0 : decode cX5_isWithin 0 = .ok (.iload_n 1, 1) := by decide +kernel
theorem dX5_isWithin_1 : decode cX5_isWithin 1 = .ok (.istore_n 3, 1) := by decide +kernel
theorem dX5_isWithin_2 : decode cX5_isWithin 2 = .ok (.iload_n 3, 1) := by decide +kernel
theorem dX5_isWithin_3 : decode cX5_isWithin 3 = .ok (.iload_n 2, 1) := by decide +kernel
theorem dX5_isWithin_4 : decode cX5_isWithin 4 = .ok (.if_icmp .eq 28, 3) := by decide +kernel
theorem dX5_isWithin_7 : decode cX5_isWithin 7 = .ok (.aload_n 0, 1) := by decide +kernel
theorem dX5_isWithin_8 : decode cX5_isWithin 8 = .ok (.getfield 13, 3) := by decide +kernel
theorem dX5_isWithin_11 : decode cX5_isWithin 11 = .ok (.iload_n 3, 1) := by decide +kernel
theorem dX5_isWithin_12 : decode cX5_isWithin 12 = .ok (.iaload, 1) := by decide +kernel
theorem dX5_isWithin_13 : decode cX5_isWithin 13 = .ok (.iconst (-1), 1) := by decide +kernel
theorem dX5_isWithin_14 : decode cX5_isWithin 14 = .ok (.if_icmp .eq 18, 3) := by decide +kernel
theorem dX5_isWithin_17 : decode cX5_isWithin 17 = .ok (.aload_n 0, 1) := by decide +kernel
theorem dX5_isWithin_18 : decode cX5_isWithin 18 = .ok (.getfield 17, 3) := by decide +kernel
theorem dX5_isWithin_21 : decode cX5_isWithin 21 = .ok (.aload_n 0, 1) := by decide +kernel
theorem dX5_isWithin_22 : decode cX5_isWithin 22 = .ok (.getfield 13, 3) := by decide +kernel
theorem dX5_isWithin_25 : decode cX5_isWithin 25 = .ok (.iload_n 3, 1) := by decide +kernel
theorem dX5_isWithin_26 : decode cX5_isWithin 26 = .ok (.iaload, 1) := by decide +kernel
theorem dX5_isWithin_27 : decode cX5_isWithin 27 = .ok (.iaload, 1) := by decide +kernel
theorem dX5_isWithin_28 : decode cX5_isWithin 28 = .ok (.istore_n 3, 1) := by decide +kernel
theorem dX5_isWithin_29 : decode cX5_isWithin 29 = .ok (.goto (-27), 3) := by decide +kernel
theorem dX5_isWithin_32 : decode cX5_isWithin 32 = .ok (.iload_n 3, 1) := by decide +kernel
theorem dX5_isWithin_33 : decode cX5_isWithin 33 = .ok (.iload_n 2, 1) := by decide +kernel
theorem dX5_isWithin_34 : decode cX5_isWithin 34 = .ok (.if_icmp .ne 7, 3) := by decide +kernel
theorem dX5_isWithin_37 : decode cX5_isWithin 37 = .ok (.iconst 1, 1) := by decide +kernel
theorem dX5_isWithin_38 : decode cX5_isWithin 38 = .ok (.goto 4, 3) := by decide +kernel
theorem dX5_isWithin_41 : decode cX5_isWithin 41 = .ok (.iconst 0, 1) := by decide +kernel
theorem dX5_isWithin_42 : decode cX5_isWithin 42 = .ok (.ireturn, 1) := by decide +kernel
theorem dX5_add_0 : decode cX5_add 0 = .ok (.aload_n 0, 1) := by decide +kernel
theorem dX5_add_1 : decode cX5_add 1 = .ok (.getfield 53, 3) := by decide +kernel
theorem dX5_add_4 : decode cX5_add 4 = .ok (.istore 6, 2) := by decide +kernel
theorem dX5_add_6 : decode cX5_add 6 = .ok (.aload_n 0, 1) := by decide +kernel
theorem dX5_add_7 : decode cX5_add 7 = .ok (.dup, 1) := by decide +kernel
theorem dX5_add_8 : decode cX5_add 8 = .ok (.getfield 53, 3) := by decide +kernel
theorem dX5_add_11 : decode cX5_add 11 = .ok (.iconst 1, 1) := by decide +kernel
theorem dX5_add_12 : decode cX5_add 12 = .ok (.iadd, 1) := by decide +kernel
theorem dX5_add_13 : decode cX5_add 13 = .ok (.putfield 53, 3) := by decide +kernel
theorem dX5_add_16 : decode cX5_add 16 = .ok (.aload_n 0, 1) := by decide +kernel
theorem dX5_add_17 : decode cX5_add 17 = .ok (.getfield 17, 3) := by decide +kernel
theorem dX5_add_20 : decode cX5_add 20 = .ok (.iload 6, 2) := by decide +kernel
theorem dX5_add_22 : decode cX5_add 22 = .ok (.aload_n 0, 1) := by decide +kernel
theorem dX5_add_23 : decode cX5_add 23 = .ok (.getfield 56, 3) := by decide +kernel
theorem dX5_add_26 : decode cX5_add 26 = .ok (.iastore, 1) := by decide +kernel
theorem dX5_add_27 : decode cX5_add 27 = .ok (.aload_n 0, 1) := by decide +kernel
theorem dX5_add_28 : decode cX5_add 28 = .ok (.getfield 20, 3) := by decide +kernel
theorem dX5_add_31 : decode cX5_add 31 = .ok (.iload 6, 2) := by decide +kernel
theorem dX5_add_33 : decode cX5_add 33 = .ok (.iload_n 1, 1) := by decide +kernel
theorem dX5_add_34 : decode cX5_add 34 = .ok (.iastore, 1) := by decide +kernel
theorem dX5_add_35 : decode cX5_add 35 = .ok (.aload_n 0, 1) := by decide +kernel
theorem dX5_add_36 : decode cX5_add 36 = .ok (.getfield 23, 3) := by decide +kernel
theorem dX5_add_39 : decode cX5_add 39 = .ok (.iload 6, 2) := by decide +kernel
theorem dX5_add_41 : decode cX5_add 41 = .ok (.iload_n 2, 1) := by decide +kernel
theorem dX5_add_42 : decode cX5_add 42 = .ok (.iastore, 1) := by decide +kernel
theorem dX5_add_43 : decode cX5_add 43 = .ok (.aload_n 0, 1) := by decide +kernel
theorem dX5_add_44 : decode cX5_add 44 = .ok (.getfield 26, 3) := by decide +kernel
theorem dX5_add_47 : decode cX5_add 47 = .ok (.iload 6, 2) := by decide +kernel
theorem dX5_add_49 : decode cX5_add 49 = .ok (.iload_n 3, 1) := by decide +kernel
theorem dX5_add_50 : decode cX5_add 50 = .ok (.iastore, 1) := by decide +kernel
theorem dX5_add_51 : decode cX5_add 51 = .ok (.aload_n 0, 1) := by decide +kernel
theorem dX5_add_52 : decode cX5_add 52 = .ok (.getfield 29, 3) := by decide +kernel
theorem dX5_add_55 : decode cX5_add 55 = .ok (.iload 6, 2) := by decide +kernel
theorem dX5_add_57 : decode cX5_add 57 = .ok (.iload 4, 2) := by decide +kernel
theorem dX5_add_59 : decode cX5_add 59 = .ok (.iastore, 1) := by decide +kernel
theorem dX5_add_60 : decode cX5_add 60 = .ok (.aload_n 0, 1) := by decide +kernel
theorem dX5_add_61 : decode cX5_add 61 = .ok (.getfield 32, 3) := by decide +kernel
theorem dX5_add_64 : decode cX5_add 64 = .ok (.iload 6, 2) := by decide +kernel
theorem dX5_add_66 : decode cX5_add 66 = .ok (.iload 5, 2) := by decide +kernel
theorem dX5_add_68 : decode cX5_add 68 = .ok (.iastore, 1) := by decide +kernel
theorem dX5_add_69 : decode cX5_add 69 = .ok (.aload_n 0, 1) := by decide +kernel
theorem dX5_add_70 : decode cX5_add 70 = .ok (.getfield 35, 3) := by decide +kernel
theorem dX5_add_73 : decode cX5_add 73 = .ok (.iload 6, 2) := by decide +kernel
theorem dX5_add_75 : decode cX5_add 75 = .ok (.iconst (-1), 1) := by decide +kernel
theorem dX5_add_76 : decode cX5_add 76 = .ok (.iastore, 1) := by decide +kernel
theorem dX5_add_77 : decode cX5_add 77 = .ok (.aload_n 0, 1) := by decide +kernel
theorem dX5_add_78 : decode cX5_add 78 = .ok (.getfield 38, 3) := by decide +kernel
theorem dX5_add_81 : decode cX5_add 81 = .ok (.iload 6, 2) := by decide +kernel
theorem dX5_add_83 : decode cX5_add 83 = .ok (.iconst (-1), 1) := by decide +kernel
theorem dX5_add_84 : decode cX5_add 84 = .ok (.iastore, 1) := by decide +kernel
theorem dX5_add_85 : decode cX5_add 85 = .ok (.iload 6, 2) := by decide +kernel
theorem dX5_add_87 : decode cX5_add 87 = .ok (.ireturn, 1) := by decide +kernel
theorem dX5_atom_0 : decode cX5_atom 0 = .ok (.iload_n 1, 1) := by decide +kernel
theorem dX5_atom_1 : decode cX5_atom 1 = .ok (.bipush 8, 2) := by decide +kernel
theorem dX5_atom_3 : decode cX5_atom 3 = .ok (.if_icmp .eq 24, 3) := by decide +kernel
theorem dX5_atom_6 : decode cX5_atom 6 = .ok (.iload_n 1, 1) := by decide +kernel
theorem dX5_atom_7 : decode cX5_atom 7 = .ok (.ifCond .lt 24, 3) := by decide +kernel
theorem dX5_atom_10 : decode cX5_atom 10 = .ok (.iload_n 1, 1) := by decide +kernel
theorem dX5_atom_11 : decode cX5_atom 11 = .ok (.bipush 8, 2) := by decide +kernel
theorem dX5_atom_13 : decode cX5_atom 13 = .ok (.if_icmp .ge 18, 3) := by decide +kernel
theorem dX5_atom_16 : decode cX5_atom 16 = .ok (.iload_n 2, 1) := by decide +kernel
theorem dX5_atom_17 : decode cX5_atom 17 = .ok (.ifCond .lt 14, 3) := by decide +kernel
theorem dX5_atom_20 : decode cX5_atom 20 = .ok (.iload_n 2, 1) := by decide +kernel
theorem dX5_atom_21 : decode cX5_atom 21 = .ok (.sipush 256, 3) := by decide +kernel
theorem dX5_atom_24 : decode cX5_atom 24 = .ok (.if_icmp .ge 7, 3) := by decide +kernel
theorem dX5_atom_27 : decode cX5_atom 27 = .ok (.iconst 1, 1) := by decide +kernel
theorem dX5_atom_28 : decode cX5_atom 28 = .ok (.goto 4, 3) := by decide +kernel
theorem dX5_atom_31 : decode cX5_atom 31 = .ok (.iconst 0, 1) := by decide +kernel
theorem dX5_atom_32 : decode cX5_atom 32 = .ok (.istore_n 3, 1) := by decide +kernel
theorem dX5_atom_33 : decode cX5_atom 33 = .ok (.iload_n 1, 1) := by decide +kernel
theorem dX5_atom_34 : decode cX5_atom 34 = .ok (.bipush 8, 2) := by decide +kernel
theorem dX5_atom_36 : decode cX5_atom 36 = .ok (.if_icmp .ne 20, 3) := by decide +kernel
theorem dX5_atom_39 : decode cX5_atom 39 = .ok (.aload_n 0, 1) := by decide +kernel
theorem dX5_atom_40 : decode cX5_atom 40 = .ok (.getfield 7, 3) := by decide +kernel
theorem dX5_atom_43 : decode cX5_atom 43 = .ok (.bipush 30, 2) := by decide +kernel
theorem dX5_atom_45 : decode cX5_atom 45 = .ok (.if_icmp .ne 7, 3) := by decide +kernel
theorem dX5_atom_48 : decode cX5_atom 48 = .ok (.iconst 1, 1) := by decide +kernel
theorem dX5_atom_49 : decode cX5_atom 49 = .ok (.goto 21, 3) := by decide +kernel
theorem dX5_atom_52 : decode cX5_atom 52 = .ok (.iconst 0, 1) := by decide +kernel
theorem dX5_atom_53 : decode cX5_atom 53 = .ok (.goto 17, 3) := by decide +kernel
theorem dX5_atom_56 : decode cX5_atom 56 = .ok (.aload_n 0, 1) := by decide +kernel
theorem dX5_atom_57 : decode cX5_atom 57 = .ok (.getfield 53, 3) := by decide +kernel
theorem dX5_atom_60 : decode cX5_atom 60 = .ok (.bipush 120, 2) := by decide +kernel
theorem dX5_atom_62 : decode cX5_atom 62 = .ok (.if_icmp .ne 7, 3) := by decide +kernel
theorem dX5_atom_65 : decode cX5_atom 65 = .ok (.iconst 1, 1) := by decide +kernel
theorem dX5_atom_66 : decode cX5_atom 66 = .ok (.goto 4, 3) := by decide +kernel
theorem dX5_atom_69 : decode cX5_atom 69 = .ok (.iconst 0, 1) := by decide +kernel
theorem dX5_atom_70 : decode cX5_atom 70 = .ok (.istore 4, 2) := by decide +kernel
theorem dX5_atom_72 : decode cX5_atom 72 = .ok (.aload_n 0, 1) := by decide +kernel
theorem dX5_atom_73 : decode cX5_atom 73 = .ok (.iload_n 3, 1) := by decide +kernel
theorem dX5_atom_74 : decode cX5_atom 74 = .ok (.ifCond .ne 7, 3) := by decide +kernel
theorem dX5_atom_77 : decode cX5_atom 77 = .ok (.iconst 1, 1) := by decide +kernel
theorem dX5_atom_78 : decode cX5_atom 78 = .ok (.goto 13, 3) := by decide +kernel
theorem dX5_atom_81 : decode cX5_atom 81 = .ok (.iload 4, 2) := by decide +kernel
theorem dX5_atom_83 : decode cX5_atom 83 = .ok (.ifCond .eq 7, 3) := by decide +kernel
theorem dX5_atom_86 : decode cX5_atom 86 = .ok (.iconst 2, 1) := by decide +kernel
theorem dX5_atom_87 : decode cX5_atom 87 = .ok (.goto 4, 3) := by decide +kernel
theorem dX5_atom_90 : decode cX5_atom 90 = .ok (.iconst 0, 1) := by decide +kernel
theorem dX5_atom_91 : decode cX5_atom 91 = .ok (.putfield 50, 3) := by decide +kernel
theorem dX5_atom_94 : decode cX5_atom 94 = .ok (.aload_n 0, 1) := by decide +kernel
theorem dX5_atom_95 : decode cX5_atom 95 = .ok (.getfield 50, 3) := by decide +kernel
theorem dX5_atom_98 : decode cX5_atom 98 = .ok (.ifCond .le 5, 3) := by decide +kernel
theorem dX5_atom_101 : decode cX5_atom 101 = .ok (.iconst 0, 1) := by decide +kernel
theorem dX5_atom_102 : decode cX5_atom 102 = .ok (.ireturn, 1) := by decide +kernel
theorem dX5_atom_103 : decode cX5_atom 103 = .ok (.iload_n 1, 1) := by decide +kernel
theorem dX5_atom_104 : decode cX5_atom 104 = .ok (.bipush 8, 2) := by decide +kernel
theorem dX5_atom_106 : decode cX5_atom 106 = .ok (.if_icmp .ge 13, 3) := by decide +kernel
theorem dX5_atom_109 : decode cX5_atom 109 = .ok (.aload_n 0, 1) := by decide +kernel
theorem dX5_atom_110 : decode cX5_atom 110 = .ok (.iconst 0, 1) := by decide +kernel
theorem dX5_atom_111 : decode cX5_atom 111 = .ok (.iload_n 1, 1) := by decide +kernel
theorem dX5_atom_112 : decode cX5_atom 112 = .ok (.iload_n 2, 1) := by decide +kernel
theorem dX5_atom_113 : decode cX5_atom 113 = .ok (.iconst 0, 1) := by decide +kernel
theorem dX5_atom_114 : decode cX5_atom 114 = .ok (.iconst 0, 1) := by decide +kernel
theorem dX5_atom_115 : decode cX5_atom 115 = .ok (.invokevirtual 59, 3) := by decide +kernel
theorem dX5_atom_118 : decode cX5_atom 118 = .ok (.ireturn, 1) := by decide +kernel
theorem dX5_atom_119 : decode cX5_atom 119 = .ok (.aload_n 0, 1) := by decide +kernel
theorem dX5_atom_120 : decode cX5_atom 120 = .ok (.aload_n 0, 1) := by decide +kernel
theorem dX5_atom_121 : decode cX5_atom 121 = .ok (.getfield 7, 3) := by decide +kernel
theorem dX5_atom_124 : decode cX5_atom 124 = .ok (.putfield 56, 3) := by decide +kernel
theorem dX5_atom_127 : decode cX5_atom 127 = .ok (.aload_n 0, 1) := by decide +kernel
theorem dX5_atom_128 : decode cX5_atom 128 = .ok (.dup, 1) := by decide +kernel
theorem dX5_atom_129 : decode cX5_atom 129 = .ok (.getfield 7, 3) := by decide +kernel
theorem dX5_atom_132 : decode cX5_atom 132 = .ok (.iconst 1, 1) := by decide +kernel
theorem dX5_atom_133 : decode cX5_atom 133 = .ok (.iadd, 1) := by decide +kernel
theorem dX5_atom_134 : decode cX5_atom 134 = .ok (.putfield 7, 3) := by decide +kernel
theorem dX5_atom_137 : decode cX5_atom 137 = .ok (.aload_n 0, 1) := by decide +kernel
theorem dX5_atom_138 : decode cX5_atom 138 = .ok (.getfield 56, 3) := by decide +kernel
theorem dX5_atom_141 : decode cX5_atom 141 = .ok (.ireturn, 1) := by decide +kernel
theorem dX5_script_0 : decode cX5_script 0 = .ok (.aload_n 0, 1) := by decide +kernel
theorem dX5_script_1 : decode cX5_script 1 = .ok (.aload_n 0, 1) := by decide +kernel
theorem dX5_script_2 : decode cX5_script 2 = .ok (.iload_n 1, 1) := by decide +kernel
theorem dX5_script_3 : decode cX5_script 3 = .ok (.invokevirtual 63, 3) := by decide +kernel
theorem dX5_script_6 : decode cX5_script 6 = .ok (.ifCond .eq 11, 3) := by decide +kernel
theorem dX5_script_9 : decode cX5_script 9 = .ok (.aload_n 0, 1) := by decide +kernel
theorem dX5_script_10 : decode cX5_script 10 = .ok (.iload_n 3, 1) := by decide +kernel
theorem dX5_script_11 : decode cX5_script 11 = .ok (.invokevirtual 67, 3) := by decide +kernel
theorem dX5_script_14 : decode cX5_script 14 = .ok (.ifCond .ne 7, 3) := by decide +kernel
theorem dX5_script_17 : decode cX5_script 17 = .ok (.iconst 1, 1) := by decide +kernel
theorem dX5_script_18 : decode cX5_script 18 = .ok (.goto 4, 3) := by decide +kernel
theorem dX5_script_21 : decode cX5_script 21 = .ok (.iconst 0, 1) := by decide +kernel
theorem dX5_script_22 : decode cX5_script 22 = .ok (.putfield 50, 3) := by decide +kernel
theorem dX5_script_25 : decode cX5_script 25 = .ok (.aload_n 0, 1) := by decide +kernel
theorem dX5_script_26 : decode cX5_script 26 = .ok (.getfield 50, 3) := by decide +kernel
theorem dX5_script_29 : decode cX5_script 29 = .ok (.ifCond .le 5, 3) := by decide +kernel
theorem dX5_script_32 : decode cX5_script 32 = .ok (.iconst 0, 1) := by decide +kernel
theorem dX5_script_33 : decode cX5_script 33 = .ok (.ireturn, 1) := by decide +kernel
theorem dX5_script_34 : decode cX5_script 34 = .ok (.iload_n 2, 1) := by decide +kernel
theorem dX5_script_35 : decode cX5_script 35 = .ok (.ifCond .eq 12, 3) := by decide +kernel
theorem dX5_script_38 : decode cX5_script 38 = .ok (.aload_n 0, 1) := by decide +kernel
theorem dX5_script_39 : decode cX5_script 39 = .ok (.getfield 35, 3) := by decide +kernel
theorem dX5_script_42 : decode cX5_script 42 = .ok (.iload_n 1, 1) := by decide +kernel
theorem dX5_script_43 : decode cX5_script 43 = .ok (.iaload, 1) := by decide +kernel
theorem dX5_script_44 : decode cX5_script 44 = .ok (.goto 9, 3) := by decide +kernel
theorem dX5_script_47 : decode cX5_script 47 = .ok (.aload_n 0, 1) := by decide +kernel
theorem dX5_script_48 : decode cX5_script 48 = .ok (.getfield 38, 3) := by decide +kernel
theorem dX5_script_51 : decode cX5_script 51 = .ok (.iload_n 1, 1) := by decide +kernel
theorem dX5_script_52 : decode cX5_script 52 = .ok (.iaload, 1) := by decide +kernel
theorem dX5_script_53 : decode cX5_script 53 = .ok (.iconst (-1), 1) := by decide +kernel
theorem dX5_script_54 : decode cX5_script 54 = .ok (.if_icmp .eq 7, 3) := by decide +kernel
theorem dX5_script_57 : decode cX5_script 57 = .ok (.iconst 1, 1) := by decide +kernel
theorem dX5_script_58 : decode cX5_script 58 = .ok (.goto 4, 3) := by decide +kernel
theorem dX5_script_61 : decode cX5_script 61 = .ok (.iconst 0, 1) := by decide +kernel
theorem dX5_script_62 : decode cX5_script 62 = .ok (.istore 4, 2) := by decide +kernel
theorem dX5_script_64 : decode cX5_script 64 = .ok (.aload_n 0, 1) := by decide +kernel
theorem dX5_script_65 : decode cX5_script 65 = .ok (.iload 4, 2) := by decide +kernel
theorem dX5_script_67 : decode cX5_script 67 = .ok (.ifCond .ne 25, 3) := by decide +kernel
theorem dX5_script_70 : decode cX5_script 70 = .ok (.aload_n 0, 1) := by decide +kernel
theorem dX5_script_71 : decode cX5_script 71 = .ok (.iload_n 3, 1) := by decide +kernel
theorem dX5_script_72 : decode cX5_script 72 = .ok (.invokevirtual 70, 3) := by decide +kernel
theorem dX5_script_75 : decode cX5_script 75 = .ok (.ifCond .eq 17, 3) := by decide +kernel
theorem dX5_script_78 : decode cX5_script 78 = .ok (.aload_n 0, 1) := by decide +kernel
theorem dX5_script_79 : decode cX5_script 79 = .ok (.aload_n 0, 1) := by decide +kernel
theorem dX5_script_80 : decode cX5_script 80 = .ok (.getfield 17, 3) := by decide +kernel
theorem dX5_script_83 : decode cX5_script 83 = .ok (.iload_n 1, 1) := by decide +kernel
theorem dX5_script_84 : decode cX5_script 84 = .ok (.iaload, 1) := by decide +kernel
theorem dX5_script_85 : decode cX5_script 85 = .ok (.iload_n 3, 1) := by decide +kernel
theorem dX5_script_86 : decode cX5_script 86 = .ok (.invokevirtual 73, 3) := by decide +kernel
theorem dX5_script_89 : decode cX5_script 89 = .ok (.ifCond .eq 7, 3) := by decide +kernel
theorem dX5_script_92 : decode cX5_script 92 = .ok (.iconst 2, 1) := by decide +kernel
theorem dX5_script_93 : decode cX5_script 93 = .ok (.goto 4, 3) := by decide +kernel
theorem dX5_script_96 : decode cX5_script 96 = .ok (.iconst 0, 1) := by decide +kernel
theorem dX5_script_97 : decode cX5_script 97 = .ok (.putfield 50, 3) := by decide +kernel
theorem dX5_script_100 : decode cX5_script 100 = .ok (.aload_n 0, 1) := by decide +kernel
theorem dX5_script_101 : decode cX5_script 101 = .ok (.getfield 50, 3) := by decide +kernel
theorem dX5_script_104 : decode cX5_script 104 = .ok (.ifCond .le 5, 3) := by decide +kernel
theorem dX5_script_107 : decode cX5_script 107 = .ok (.iconst 0, 1) := by decide +kernel
theorem dX5_script_108 : decode cX5_script 108 = .ok (.ireturn, 1) := by decide +kernel
theorem dX5_script_109 : decode cX5_script 109 = .ok (.iload_n 2, 1) := by decide +kernel
theorem dX5_script_110 : decode cX5_script 110 = .ok (.ifCond .eq 13, 3) := by decide +kernel
theorem dX5_script_113 : decode cX5_script 113 = .ok (.aload_n 0, 1) := by decide +kernel
theorem dX5_script_114 : decode cX5_script 114 = .ok (.getfield 35, 3) := by decide +kernel
theorem dX5_script_117 : decode cX5_script 117 = .ok (.iload_n 1, 1) := by decide +kernel
theorem dX5_script_118 : decode cX5_script 118 = .ok (.iload_n 3, 1) := by decide +kernel
theorem dX5_script_119 : decode cX5_script 119 = .ok (.iastore, 1) := by decide +kernel
theorem dX5_script_120 : decode cX5_script 120 = .ok (.goto 10, 3) := by decide +kernel
theorem dX5_script_123 : decode cX5_script 123 = .ok (.aload_n 0, 1) := by decide +kernel
theorem dX5_script_124 : decode cX5_script 124 = .ok (.getfield 38, 3) := by decide +kernel
theorem dX5_script_127 : decode cX5_script 127 = .ok (.iload_n 1, 1) := by decide +kernel
theorem dX5_script_128 : decode cX5_script 128 = .ok (.iload_n 3, 1) := by decide +kernel
theorem dX5_script_129 : decode cX5_script 129 = .ok (.iastore, 1) := by decide +kernel
theorem dX5_script_130 : decode cX5_script 130 = .ok (.aload_n 0, 1) := by decide +kernel
theorem dX5_script_131 : decode cX5_script 131 = .ok (.getfield 13, 3) := by decide +kernel
theorem dX5_script_134 : decode cX5_script 134 = .ok (.iload_n 3, 1) := by decide +kernel
theorem dX5_script_135 : decode cX5_script 135 = .ok (.iload_n 1, 1) := by decide +kernel
theorem dX5_script_136 : decode cX5_script 136 = .ok (.iastore, 1) := by decide +kernel
theorem dX5_script_137 : decode cX5_script 137 = .ok (.aload_n 0, 1) := by decide +kernel
theorem dX5_script_138 : decode cX5_script 138 = .ok (.getfield 35, 3) := by decide +kernel
theorem dX5_script_141 : decode cX5_script 141 = .ok (.iload_n 1, 1) := by decide +kernel
theorem dX5_script_142 : decode cX5_script 142 = .ok (.iaload, 1) := by decide +kernel
theorem dX5_script_143 : decode cX5_script 143 = .ok (.iconst (-1), 1) := by decide +kernel
theorem dX5_script_144 : decode cX5_script 144 = .ok (.if_icmp .eq 17, 3) := by decide +kernel
theorem dX5_script_147 : decode cX5_script 147 = .ok (.aload_n 0, 1) := by decide +kernel
theorem dX5_script_148 : decode cX5_script 148 = .ok (.getfield 38, 3) := by decide +kernel
theorem dX5_script_151 : decode cX5_script 151 = .ok (.iload_n 1, 1) := by decide +kernel
theorem dX5_script_152 : decode cX5_script 152 = .ok (.iaload, 1) := by decide +kernel
theorem dX5_script_153 : decode cX5_script 153 = .ok (.iconst (-1), 1) := by decide +kernel
theorem dX5_script_154 : decode cX5_script 154 = .ok (.if_icmp .eq 7, 3) := by decide +kernel
theorem dX5_script_157 : decode cX5_script 157 = .ok (.iconst 2, 1) := by decide +kernel
theorem dX5_script_158 : decode cX5_script 158 = .ok (.goto 4, 3) := by decide +kernel
theorem dX5_script_161 : decode cX5_script 161 = .ok (.iconst 1, 1) := by decide +kernel
theorem dX5_script_162 : decode cX5_script 162 = .ok (.ireturn, 1) := by decide +kernel
theorem dX5_mayTake_0 : decode cX5_mayTake 0 = .ok (.aload_n 0, 1) := by decide +kernel
theorem dX5_mayTake_1 : decode cX5_mayTake 1 = .ok (.iload_n 1, 1) := by decide +kernel
theorem dX5_mayTake_2 : decode cX5_mayTake 2 = .ok (.invokevirtual 70, 3) := by decide +kernel
theorem dX5_mayTake_5 : decode cX5_mayTake 5 = .ok (.ifCond .eq 19, 3) := by decide +kernel
theorem dX5_mayTake_8 : decode cX5_mayTake 8 = .ok (.aload_n 0, 1) := by decide +kernel
theorem dX5_mayTake_9 : decode cX5_mayTake 9 = .ok (.aload_n 0, 1) := by decide +kernel
theorem dX5_mayTake_10 : decode cX5_mayTake 10 = .ok (.getfield 56, 3) := by decide +kernel
theorem dX5_mayTake_13 : decode cX5_mayTake 13 = .ok (.iload_n 1, 1) := by decide +kernel
theorem dX5_mayTake_14 : decode cX5_mayTake 14 = .ok (.invokevirtual 73, 3) := by decide +kernel
theorem dX5_mayTake_17 : decode cX5_mayTake 17 = .ok (.ifCond .ne 7, 3) := by decide +kernel
theorem dX5_mayTake_20 : decode cX5_mayTake 20 = .ok (.iconst 1, 1) := by decide +kernel
theorem dX5_mayTake_21 : decode cX5_mayTake 21 = .ok (.goto 4, 3) := by decide +kernel
theorem dX5_mayTake_24 : decode cX5_mayTake 24 = .ok (.iconst 0, 1) := by decide +kernel
theorem dX5_mayTake_25 : decode cX5_mayTake 25 = .ok (.ireturn, 1) := by decide +kernel
theorem dX5_fraction_0 : decode cX5_fraction 0 = .ok (.aload_n 0, 1) := by decide +kernel
theorem dX5_fraction_1 : decode cX5_fraction 1 = .ok (.aload_n 0, 1) := by decide +kernel
theorem dX5_fraction_2 : decode cX5_fraction 2 = .ok (.iload_n 1, 1) := by decide +kernel
theorem dX5_fraction_3 : decode cX5_fraction 3 = .ok (.invokevirtual 67, 3) := by decide +kernel
theorem dX5_fraction_6 : decode cX5_fraction 6 = .ok (.ifCond .eq 11, 3) := by decide +kernel
theorem dX5_fraction_9 : decode cX5_fraction 9 = .ok (.aload_n 0, 1) := by decide +kernel
theorem dX5_fraction_10 : decode cX5_fraction 10 = .ok (.iload_n 2, 1) := by decide +kernel
theorem dX5_fraction_11 : decode cX5_fraction 11 = .ok (.invokevirtual 67, 3) := by decide +kernel
theorem dX5_fraction_14 : decode cX5_fraction 14 = .ok (.ifCond .ne 7, 3) := by decide +kernel
theorem dX5_fraction_17 : decode cX5_fraction 17 = .ok (.iconst 1, 1) := by decide +kernel
theorem dX5_fraction_18 : decode cX5_fraction 18 = .ok (.goto 16, 3) := by decide +kernel
theorem dX5_fraction_21 : decode cX5_fraction 21 = .ok (.lload_n 3, 1) := by decide +kernel
theorem dX5_fraction_22 : decode cX5_fraction 22 = .ok (.ldc2_w 77, 3) := by decide +kernel
theorem dX5_fraction_25 : decode cX5_fraction 25 = .ok (.lcmp, 1) := by decide +kernel
theorem dX5_fraction_26 : decode cX5_fraction 26 = .ok (.ifCond .le 7, 3) := by decide +kernel
theorem dX5_fraction_29 : decode cX5_fraction 29 = .ok (.iconst 2, 1) := by decide +kernel
theorem dX5_fraction_30 : decode cX5_fraction 30 = .ok (.goto 4, 3) := by decide +kernel
theorem dX5_fraction_33 : decode cX5_fraction 33 = .ok (.iconst 0, 1) := by decide +kernel
theorem dX5_fraction_34 : decode cX5_fraction 34 = .ok (.putfield 50, 3) := by decide +kernel
theorem dX5_fraction_37 : decode cX5_fraction 37 = .ok (.aload_n 0, 1) := by decide +kernel
theorem dX5_fraction_38 : decode cX5_fraction 38 = .ok (.getfield 50, 3) := by decide +kernel
theorem dX5_fraction_41 : decode cX5_fraction 41 = .ok (.ifCond .le 5, 3) := by decide +kernel
theorem dX5_fraction_44 : decode cX5_fraction 44 = .ok (.iconst 0, 1) := by decide +kernel
theorem dX5_fraction_45 : decode cX5_fraction 45 = .ok (.ireturn, 1) := by decide +kernel
theorem dX5_fraction_46 : decode cX5_fraction 46 = .ok (.aload_n 0, 1) := by decide +kernel
theorem dX5_fraction_47 : decode cX5_fraction 47 = .ok (.iload_n 1, 1) := by decide +kernel
theorem dX5_fraction_48 : decode cX5_fraction 48 = .ok (.iload_n 2, 1) := by decide +kernel
theorem dX5_fraction_49 : decode cX5_fraction 49 = .ok (.if_icmp .eq 19, 3) := by decide +kernel
theorem dX5_fraction_52 : decode cX5_fraction 52 = .ok (.aload_n 0, 1) := by decide +kernel
theorem dX5_fraction_53 : decode cX5_fraction 53 = .ok (.iload_n 1, 1) := by decide +kernel
theorem dX5_fraction_54 : decode cX5_fraction 54 = .ok (.invokevirtual 79, 3) := by decide +kernel
theorem dX5_fraction_57 : decode cX5_fraction 57 = .ok (.ifCond .eq 11, 3) := by decide +kernel
theorem dX5_fraction_60 : decode cX5_fraction 60 = .ok (.aload_n 0, 1) := by decide +kernel
theorem dX5_fraction_61 : decode cX5_fraction 61 = .ok (.iload_n 2, 1) := by decide +kernel
theorem dX5_fraction_62 : decode cX5_fraction 62 = .ok (.invokevirtual 79, 3) := by decide +kernel
theorem dX5_fraction_65 : decode cX5_fraction 65 = .ok (.ifCond .ne 7, 3) := by decide +kernel
theorem dX5_fraction_68 : decode cX5_fraction 68 = .ok (.iconst 3, 1) := by decide +kernel
theorem dX5_fraction_69 : decode cX5_fraction 69 = .ok (.goto 17, 3) := by decide +kernel
theorem dX5_fraction_72 : decode cX5_fraction 72 = .ok (.aload_n 0, 1) := by decide +kernel
theorem dX5_fraction_73 : decode cX5_fraction 73 = .ok (.getfield 53, 3) := by decide +kernel
theorem dX5_fraction_76 : decode cX5_fraction 76 = .ok (.bipush 120, 2) := by decide +kernel
theorem dX5_fraction_78 : decode cX5_fraction 78 = .ok (.if_icmp .ne 7, 3) := by decide +kernel
theorem dX5_fraction_81 : decode cX5_fraction 81 = .ok (.iconst 4, 1) := by decide +kernel
theorem dX5_fraction_82 : decode cX5_fraction 82 = .ok (.goto 4, 3) := by decide +kernel
theorem dX5_fraction_85 : decode cX5_fraction 85 = .ok (.iconst 0, 1) := by decide +kernel
theorem dX5_fraction_86 : decode cX5_fraction 86 = .ok (.putfield 50, 3) := by decide +kernel
theorem dX5_fraction_89 : decode cX5_fraction 89 = .ok (.aload_n 0, 1) := by decide +kernel
theorem dX5_fraction_90 : decode cX5_fraction 90 = .ok (.getfield 50, 3) := by decide +kernel
theorem dX5_fraction_93 : decode cX5_fraction 93 = .ok (.ifCond .le 5, 3) := by decide +kernel
theorem dX5_fraction_96 : decode cX5_fraction 96 = .ok (.iconst 0, 1) := by decide +kernel
theorem dX5_fraction_97 : decode cX5_fraction 97 = .ok (.ireturn, 1) := by decide +kernel
theorem dX5_fraction_98 : decode cX5_fraction 98 = .ok (.aload_n 0, 1) := by decide +kernel
theorem dX5_fraction_99 : decode cX5_fraction 99 = .ok (.iconst 1, 1) := by decide +kernel
theorem dX5_fraction_100 : decode cX5_fraction 100 = .ok (.bipush 7, 2) := by decide +kernel
theorem dX5_fraction_102 : decode cX5_fraction 102 = .ok (.iload_n 1, 1) := by decide +kernel
theorem dX5_fraction_103 : decode cX5_fraction 103 = .ok (.iload_n 2, 1) := by decide +kernel
theorem dX5_fraction_104 : decode cX5_fraction 104 = .ok (.lload_n 3, 1) := by decide +kernel
theorem dX5_fraction_105 : decode cX5_fraction 105 = .ok (.lconst 0, 1) := by decide +kernel
theorem dX5_fraction_106 : decode cX5_fraction 106 = .ok (.lcmp, 1) := by decide +kernel
theorem dX5_fraction_107 : decode cX5_fraction 107 = .ok (.ifCond .ge 7, 3) := by decide +kernel
theorem dX5_fraction_110 : decode cX5_fraction 110 = .ok (.iconst (-1), 1) := by decide +kernel
theorem dX5_fraction_111 : decode cX5_fraction 111 = .ok (.goto 5, 3) := by decide +kernel
theorem dX5_fraction_114 : decode cX5_fraction 114 = .ok (.lload_n 3, 1) := by decide +kernel
theorem dX5_fraction_115 : decode cX5_fraction 115 = .ok (.l2i, 1) := by decide +kernel
theorem dX5_fraction_116 : decode cX5_fraction 116 = .ok (.invokevirtual 59, 3) := by decide +kernel
theorem dX5_fraction_119 : decode cX5_fraction 119 = .ok (.istore 5, 2) := by decide +kernel
theorem dX5_fraction_121 : decode cX5_fraction 121 = .ok (.aload_n 0, 1) := by decide +kernel
theorem dX5_fraction_122 : decode cX5_fraction 122 = .ok (.getfield 13, 3) := by decide +kernel
theorem dX5_fraction_125 : decode cX5_fraction 125 = .ok (.iload_n 1, 1) := by decide +kernel
theorem dX5_fraction_126 : decode cX5_fraction 126 = .ok (.iload 5, 2) := by decide +kernel
theorem dX5_fraction_128 : decode cX5_fraction 128 = .ok (.iastore, 1) := by decide +kernel
theorem dX5_fraction_129 : decode cX5_fraction 129 = .ok (.aload_n 0, 1) := by decide +kernel
theorem dX5_fraction_130 : decode cX5_fraction 130 = .ok (.getfield 13, 3) := by decide +kernel
theorem dX5_fraction_133 : decode cX5_fraction 133 = .ok (.iload_n 2, 1) := by decide +kernel
theorem dX5_fraction_134 : decode cX5_fraction 134 = .ok (.iload 5, 2) := by decide +kernel
theorem dX5_fraction_136 : decode cX5_fraction 136 = .ok (.iastore, 1) := by decide +kernel
theorem dX5_fraction_137 : decode cX5_fraction 137 = .ok (.iload 5, 2) := by decide +kernel
theorem dX5_fraction_139 : decode cX5_fraction 139 = .ok (.ireturn, 1) := by decide +kernel
theorem dX5_fence_0 : decode cX5_fence 0 = .ok (.iload_n 1, 1) := by decide +kernel
theorem dX5_fence_1 : decode cX5_fence 1 = .ok (.ifCond .lt 21, 3) := by decide +kernel
theorem dX5_fence_4 : decode cX5_fence 4 = .ok (.iload_n 1, 1) := by decide +kernel
theorem dX5_fence_5 : decode cX5_fence 5 = .ok (.iconst 5, 1) := by decide +kernel
theorem dX5_fence_6 : decode cX5_fence 6 = .ok (.if_icmp .gt 16, 3) := by decide +kernel
theorem dX5_fence_9 : decode cX5_fence 9 = .ok (.iload_n 3, 1) := by decide +kernel
theorem dX5_fence_10 : decode cX5_fence 10 = .ok (.ifCond .lt 12, 3) := by decide +kernel
theorem dX5_fence_13 : decode cX5_fence 13 = .ok (.iload_n 3, 1) := by decide +kernel
theorem dX5_fence_14 : decode cX5_fence 14 = .ok (.iconst 5, 1) := by decide +kernel
theorem dX5_fence_15 : decode cX5_fence 15 = .ok (.if_icmp .gt 7, 3) := by decide +kernel
theorem dX5_fence_18 : decode cX5_fence 18 = .ok (.iconst 1, 1) := by decide +kernel
theorem dX5_fence_19 : decode cX5_fence 19 = .ok (.goto 4, 3) := by decide +kernel
theorem dX5_fence_22 : decode cX5_fence 22 = .ok (.iconst 0, 1) := by decide +kernel
theorem dX5_fence_23 : decode cX5_fence 23 = .ok (.istore 4, 2) := by decide +kernel
theorem dX5_fence_25 : decode cX5_fence 25 = .ok (.aload_n 0, 1) := by decide +kernel
theorem dX5_fence_26 : decode cX5_fence 26 = .ok (.aload_n 0, 1) := by decide +kernel
theorem dX5_fence_27 : decode cX5_fence 27 = .ok (.iload_n 2, 1) := by decide +kernel
theorem dX5_fence_28 : decode cX5_fence 28 = .ok (.invokevirtual 67, 3) := by decide +kernel
theorem dX5_fence_31 : decode cX5_fence 31 = .ok (.ifCond .ne 7, 3) := by decide +kernel
theorem dX5_fence_34 : decode cX5_fence 34 = .ok (.iconst 1, 1) := by decide +kernel
theorem dX5_fence_35 : decode cX5_fence 35 = .ok (.goto 13, 3) := by decide +kernel
theorem dX5_fence_38 : decode cX5_fence 38 = .ok (.iload 4, 2) := by decide +kernel
theorem dX5_fence_40 : decode cX5_fence 40 = .ok (.ifCond .ne 7, 3) := by decide +kernel
theorem dX5_fence_43 : decode cX5_fence 43 = .ok (.iconst 2, 1) := by decide +kernel
theorem dX5_fence_44 : decode cX5_fence 44 = .ok (.goto 4, 3) := by decide +kernel
theorem dX5_fence_47 : decode cX5_fence 47 = .ok (.iconst 0, 1) := by decide +kernel
theorem dX5_fence_48 : decode cX5_fence 48 = .ok (.putfield 50, 3) := by decide +kernel
theorem dX5_fence_51 : decode cX5_fence 51 = .ok (.aload_n 0, 1) := by decide +kernel
theorem dX5_fence_52 : decode cX5_fence 52 = .ok (.getfield 50, 3) := by decide +kernel
theorem dX5_fence_55 : decode cX5_fence 55 = .ok (.ifCond .le 5, 3) := by decide +kernel
theorem dX5_fence_58 : decode cX5_fence 58 = .ok (.iconst 0, 1) := by decide +kernel
theorem dX5_fence_59 : decode cX5_fence 59 = .ok (.ireturn, 1) := by decide +kernel
theorem dX5_fence_60 : decode cX5_fence 60 = .ok (.aload_n 0, 1) := by decide +kernel
theorem dX5_fence_61 : decode cX5_fence 61 = .ok (.aload_n 0, 1) := by decide +kernel
theorem dX5_fence_62 : decode cX5_fence 62 = .ok (.iload_n 2, 1) := by decide +kernel
theorem dX5_fence_63 : decode cX5_fence 63 = .ok (.invokevirtual 79, 3) := by decide +kernel
theorem dX5_fence_66 : decode cX5_fence 66 = .ok (.ifCond .ne 7, 3) := by decide +kernel
theorem dX5_fence_69 : decode cX5_fence 69 = .ok (.iconst 3, 1) := by decide +kernel
theorem dX5_fence_70 : decode cX5_fence 70 = .ok (.goto 17, 3) := by decide +kernel
theorem dX5_fence_73 : decode cX5_fence 73 = .ok (.aload_n 0, 1) := by decide +kernel
theorem dX5_fence_74 : decode cX5_fence 74 = .ok (.getfield 53, 3) := by decide +kernel
theorem dX5_fence_77 : decode cX5_fence 77 = .ok (.bipush 120, 2) := by decide +kernel
theorem dX5_fence_79 : decode cX5_fence 79 = .ok (.if_icmp .ne 7, 3) := by decide +kernel
theorem dX5_fence_82 : decode cX5_fence 82 = .ok (.iconst 4, 1) := by decide +kernel
theorem dX5_fence_83 : decode cX5_fence 83 = .ok (.goto 4, 3) := by decide +kernel
theorem dX5_fence_86 : decode cX5_fence 86 = .ok (.iconst 0, 1) := by decide +kernel
theorem dX5_fence_87 : decode cX5_fence 87 = .ok (.putfield 50, 3) := by decide +kernel
theorem dX5_fence_90 : decode cX5_fence 90 = .ok (.aload_n 0, 1) := by decide +kernel
theorem dX5_fence_91 : decode cX5_fence 91 = .ok (.getfield 50, 3) := by decide +kernel
theorem dX5_fence_94 : decode cX5_fence 94 = .ok (.ifCond .le 5, 3) := by decide +kernel
theorem dX5_fence_97 : decode cX5_fence 97 = .ok (.iconst 0, 1) := by decide +kernel
theorem dX5_fence_98 : decode cX5_fence 98 = .ok (.ireturn, 1) := by decide +kernel
theorem dX5_fence_99 : decode cX5_fence 99 = .ok (.iload_n 1, 1) := by decide +kernel
theorem dX5_fence_100 : decode cX5_fence 100 = .ok (.iload_n 3, 1) := by decide +kernel
theorem dX5_fence_101 : decode cX5_fence 101 = .ok (.if_icmp .ne 15, 3) := by decide +kernel
theorem dX5_fence_104 : decode cX5_fence 104 = .ok (.iload_n 1, 1) := by decide +kernel
theorem dX5_fence_105 : decode cX5_fence 105 = .ok (.ifCond .eq 7, 3) := by decide +kernel
theorem dX5_fence_108 : decode cX5_fence 108 = .ok (.iconst 1, 1) := by decide +kernel
theorem dX5_fence_109 : decode cX5_fence 109 = .ok (.goto 20, 3) := by decide +kernel
theorem dX5_fence_112 : decode cX5_fence 112 = .ok (.iconst 0, 1) := by decide +kernel
theorem dX5_fence_113 : decode cX5_fence 113 = .ok (.goto 16, 3) := by decide +kernel
theorem dX5_fence_116 : decode cX5_fence 116 = .ok (.iload_n 1, 1) := by decide +kernel
theorem dX5_fence_117 : decode cX5_fence 117 = .ok (.ifCond .eq 7, 3) := by decide +kernel
theorem dX5_fence_120 : decode cX5_fence 120 = .ok (.iload_n 3, 1) := by decide +kernel
theorem dX5_fence_121 : decode cX5_fence 121 = .ok (.ifCond .ne 7, 3) := by decide +kernel
theorem dX5_fence_124 : decode cX5_fence 124 = .ok (.iconst 1, 1) := by decide +kernel
theorem dX5_fence_125 : decode cX5_fence 125 = .ok (.goto 4, 3) := by decide +kernel
theorem dX5_fence_128 : decode cX5_fence 128 = .ok (.iconst 0, 1) := by decide +kernel
theorem dX5_fence_129 : decode cX5_fence 129 = .ok (.istore 5, 2) := by decide +kernel
theorem dX5_fence_131 : decode cX5_fence 131 = .ok (.iload 5, 2) := by decide +kernel
theorem dX5_fence_133 : decode cX5_fence 133 = .ok (.ifCond .ne 5, 3) := by decide +kernel
theorem dX5_fence_136 : decode cX5_fence 136 = .ok (.iconst 0, 1) := by decide +kernel
theorem dX5_fence_137 : decode cX5_fence 137 = .ok (.ireturn, 1) := by decide +kernel
theorem dX5_fence_138 : decode cX5_fence 138 = .ok (.aload_n 0, 1) := by decide +kernel
theorem dX5_fence_139 : decode cX5_fence 139 = .ok (.iconst 2, 1) := by decide +kernel
theorem dX5_fence_140 : decode cX5_fence 140 = .ok (.bipush 7, 2) := by decide +kernel
theorem dX5_fence_142 : decode cX5_fence 142 = .ok (.iload_n 1, 1) := by decide +kernel
theorem dX5_fence_143 : decode cX5_fence 143 = .ok (.iload_n 2, 1) := by decide +kernel
theorem dX5_fence_144 : decode cX5_fence 144 = .ok (.iload_n 3, 1) := by decide +kernel
theorem dX5_fence_145 : decode cX5_fence 145 = .ok (.invokevirtual 59, 3) := by decide +kernel
theorem dX5_fence_148 : decode cX5_fence 148 = .ok (.istore 6, 2) := by decide +kernel
theorem dX5_fence_150 : decode cX5_fence 150 = .ok (.aload_n 0, 1) := by decide +kernel
theorem dX5_fence_151 : decode cX5_fence 151 = .ok (.getfield 13, 3) := by decide +kernel
theorem dX5_fence_154 : decode cX5_fence 154 = .ok (.iload_n 2, 1) := by decide +kernel
theorem dX5_fence_155 : decode cX5_fence 155 = .ok (.iload 6, 2) := by decide +kernel
theorem dX5_fence_157 : decode cX5_fence 157 = .ok (.iastore, 1) := by decide +kernel
theorem dX5_fence_158 : decode cX5_fence 158 = .ok (.iload 6, 2) := by decide +kernel
theorem dX5_fence_160 : decode cX5_fence 160 = .ok (.iconst 1, 1) := by decide +kernel
theorem dX5_fence_161 : decode cX5_fence 161 = .ok (.iadd, 1) := by decide +kernel
theorem dX5_fence_162 : decode cX5_fence 162 = .ok (.ireturn, 1) := by decide +kernel
theorem dX5_matrix_0 : decode cX5_matrix 0 = .ok (.aload_n 0, 1) := by decide +kernel
theorem dX5_matrix_1 : decode cX5_matrix 1 = .ok (.aload_n 0, 1) := by decide +kernel
theorem dX5_matrix_2 : decode cX5_matrix 2 = .ok (.getfield 53, 3) := by decide +kernel
theorem dX5_matrix_5 : decode cX5_matrix 5 = .ok (.bipush 120, 2) := by decide +kernel
theorem dX5_matrix_7 : decode cX5_matrix 7 = .ok (.if_icmp .ne 7, 3) := by decide +kernel
theorem dX5_matrix_10 : decode cX5_matrix 10 = .ok (.iconst 1, 1) := by decide +kernel
theorem dX5_matrix_11 : decode cX5_matrix 11 = .ok (.goto 4, 3) := by decide +kernel
theorem dX5_matrix_14 : decode cX5_matrix 14 = .ok (.iconst 0, 1) := by decide +kernel
theorem dX5_matrix_15 : decode cX5_matrix 15 = .ok (.putfield 50, 3) := by decide +kernel
theorem dX5_matrix_18 : decode cX5_matrix 18 = .ok (.aload_n 0, 1) := by decide +kernel
theorem dX5_matrix_19 : decode cX5_matrix 19 = .ok (.getfield 50, 3) := by decide +kernel
theorem dX5_matrix_22 : decode cX5_matrix 22 = .ok (.ifCond .gt 23, 3) := by decide +kernel
theorem dX5_matrix_25 : decode cX5_matrix 25 = .ok (.iload_n 1, 1) := by decide +kernel
theorem dX5_matrix_26 : decode cX5_matrix 26 = .ok (.iconst 1, 1) := by decide +kernel
theorem dX5_matrix_27 : decode cX5_matrix 27 = .ok (.if_icmp .lt 18, 3) := by decide +kernel
theorem dX5_matrix_30 : decode cX5_matrix 30 = .ok (.iload_n 1, 1) := by decide +kernel
theorem dX5_matrix_31 : decode cX5_matrix 31 = .ok (.iconst 5, 1) := by decide +kernel
theorem dX5_matrix_32 : decode cX5_matrix 32 = .ok (.if_icmp .gt 13, 3) := by decide +kernel
theorem dX5_matrix_35 : decode cX5_matrix 35 = .ok (.iload_n 2, 1) := by decide +kernel
theorem dX5_matrix_36 : decode cX5_matrix 36 = .ok (.iconst 1, 1) := by decide +kernel
theorem dX5_matrix_37 : decode cX5_matrix 37 = .ok (.if_icmp .lt 8, 3) := by decide +kernel
theorem dX5_matrix_40 : decode cX5_matrix 40 = .ok (.iload_n 2, 1) := by decide +kernel
theorem dX5_matrix_41 : decode cX5_matrix 41 = .ok (.iconst 5, 1) := by decide +kernel
theorem dX5_matrix_42 : decode cX5_matrix 42 = .ok (.if_icmp .le 5, 3) := by decide +kernel
theorem dX5_matrix_45 : decode cX5_matrix 45 = .ok (.iconst 0, 1) := by decide +kernel
theorem dX5_matrix_46 : decode cX5_matrix 46 = .ok (.ireturn, 1) := by decide +kernel
theorem dX5_matrix_47 : decode cX5_matrix 47 = .ok (.iload_n 1, 1) := by decide +kernel
theorem dX5_matrix_48 : decode cX5_matrix 48 = .ok (.iload_n 2, 1) := by decide +kernel
theorem dX5_matrix_49 : decode cX5_matrix 49 = .ok (.imul, 1) := by decide +kernel
theorem dX5_matrix_50 : decode cX5_matrix 50 = .ok (.istore_n 3, 1) := by decide +kernel
theorem dX5_matrix_51 : decode cX5_matrix 51 = .ok (.iload_n 3, 1) := by decide +kernel
theorem dX5_matrix_52 : decode cX5_matrix 52 = .ok (.istore 4, 2) := by decide +kernel
theorem dX5_matrix_54 : decode cX5_matrix 54 = .ok (.aload_n 0, 1) := by decide +kernel
theorem dX5_matrix_55 : decode cX5_matrix 55 = .ok (.getfield 7, 3) := by decide +kernel
theorem dX5_matrix_58 : decode cX5_matrix 58 = .ok (.iconst 1, 1) := by decide +kernel
theorem dX5_matrix_59 : decode cX5_matrix 59 = .ok (.isub, 1) := by decide +kernel
theorem dX5_matrix_60 : decode cX5_matrix 60 = .ok (.istore 5, 2) := by decide +kernel
theorem dX5_matrix_62 : decode cX5_matrix 62 = .ok (.iload 5, 2) := by decide +kernel
theorem dX5_matrix_64 : decode cX5_matrix 64 = .ok (.ifCond .le 52, 3) := by decide +kernel
theorem dX5_matrix_67 : decode cX5_matrix 67 = .ok (.iload 4, 2) := by decide +kernel
theorem dX5_matrix_69 : decode cX5_matrix 69 = .ok (.ifCond .le 47, 3) := by decide +kernel
theorem dX5_matrix_72 : decode cX5_matrix 72 = .ok (.aload_n 0, 1) := by decide +kernel
theorem dX5_matrix_73 : decode cX5_matrix 73 = .ok (.iload 5, 2) := by decide +kernel
theorem dX5_matrix_75 : decode cX5_matrix 75 = .ok (.invokevirtual 70, 3) := by decide +kernel
theorem dX5_matrix_78 : decode cX5_matrix 78 = .ok (.ifCond .eq 32, 3) := by decide +kernel
theorem dX5_matrix_81 : decode cX5_matrix 81 = .ok (.iload 5, 2) := by decide +kernel
theorem dX5_matrix_83 : decode cX5_matrix 83 = .ok (.aload_n 0, 1) := by decide +kernel
theorem dX5_matrix_84 : decode cX5_matrix 84 = .ok (.getfield 56, 3) := by decide +kernel
theorem dX5_matrix_87 : decode cX5_matrix 87 = .ok (.if_icmp .eq 23, 3) := by decide +kernel
theorem dX5_matrix_90 : decode cX5_matrix 90 = .ok (.iinc 4 (-1), 3) := by decide +kernel
theorem dX5_matrix_93 : decode cX5_matrix 93 = .ok (.aload_n 0, 1) := by decide +kernel
theorem dX5_matrix_94 : decode cX5_matrix 94 = .ok (.getfield 41, 3) := by decide +kernel
theorem dX5_matrix_97 : decode cX5_matrix 97 = .ok (.bipush 25, 2) := by decide +kernel
theorem dX5_matrix_99 : decode cX5_matrix 99 = .ok (.aload_n 0, 1) := by decide +kernel
theorem dX5_matrix_100 : decode cX5_matrix 100 = .ok (.getfield 53, 3) := by decide +kernel
theorem dX5_matrix_103 : decode cX5_matrix 103 = .ok (.imul, 1) := by decide +kernel
theorem dX5_matrix_104 : decode cX5_matrix 104 = .ok (.iload 4, 2) := by decide +kernel
theorem dX5_matrix_106 : decode cX5_matrix 106 = .ok (.iadd, 1) := by decide +kernel
theorem dX5_matrix_107 : decode cX5_matrix 107 = .ok (.iload 5, 2) := by decide +kernel
theorem dX5_matrix_109 : decode cX5_matrix 109 = .ok (.iastore, 1) := by decide +kernel
theorem dX5_matrix_110 : decode cX5_matrix 110 = .ok (.iinc 5 (-1), 3) := by decide +kernel
theorem dX5_matrix_113 : decode cX5_matrix 113 = .ok (.goto (-51), 3) := by decide +kernel
theorem dX5_matrix_116 : decode cX5_matrix 116 = .ok (.iload 4, 2) := by decide +kernel
theorem dX5_matrix_118 : decode cX5_matrix 118 = .ok (.ifCond .le 5, 3) := by decide +kernel
theorem dX5_matrix_121 : decode cX5_matrix 121 = .ok (.iconst 0, 1) := by decide +kernel
theorem dX5_matrix_122 : decode cX5_matrix 122 = .ok (.ireturn, 1) := by decide +kernel
theorem dX5_matrix_123 : decode cX5_matrix 123 = .ok (.iconst 0, 1) := by decide +kernel
theorem dX5_matrix_124 : decode cX5_matrix 124 = .ok (.istore 5, 2) := by decide +kernel
theorem dX5_matrix_126 : decode cX5_matrix 126 = .ok (.iload 5, 2) := by decide +kernel
theorem dX5_matrix_128 : decode cX5_matrix 128 = .ok (.iload_n 3, 1) := by decide +kernel
theorem dX5_matrix_129 : decode cX5_matrix 129 = .ok (.if_icmp .ge 37, 3) := by decide +kernel
theorem dX5_matrix_132 : decode cX5_matrix 132 = .ok (.aload_n 0, 1) := by decide +kernel
theorem dX5_matrix_133 : decode cX5_matrix 133 = .ok (.aload_n 0, 1) := by decide +kernel
theorem dX5_matrix_134 : decode cX5_matrix 134 = .ok (.getfield 56, 3) := by decide +kernel
theorem dX5_matrix_137 : decode cX5_matrix 137 = .ok (.aload_n 0, 1) := by decide +kernel
theorem dX5_matrix_138 : decode cX5_matrix 138 = .ok (.getfield 41, 3) := by decide +kernel
theorem dX5_matrix_141 : decode cX5_matrix 141 = .ok (.bipush 25, 2) := by decide +kernel
theorem dX5_matrix_143 : decode cX5_matrix 143 = .ok (.aload_n 0, 1) := by decide +kernel
theorem dX5_matrix_144 : decode cX5_matrix 144 = .ok (.getfield 53, 3) := by decide +kernel
theorem dX5_matrix_147 : decode cX5_matrix 147 = .ok (.imul, 1) := by decide +kernel
theorem dX5_matrix_148 : decode cX5_matrix 148 = .ok (.iload 5, 2) := by decide +kernel
theorem dX5_matrix_150 : decode cX5_matrix 150 = .ok (.iadd, 1) := by decide +kernel
theorem dX5_matrix_151 : decode cX5_matrix 151 = .ok (.iaload, 1) := by decide +kernel
theorem dX5_matrix_152 : decode cX5_matrix 152 = .ok (.invokevirtual 73, 3) := by decide +kernel
theorem dX5_matrix_155 : decode cX5_matrix 155 = .ok (.ifCond .eq 5, 3) := by decide +kernel
theorem dX5_matrix_158 : decode cX5_matrix 158 = .ok (.iconst 0, 1) := by decide +kernel
theorem dX5_matrix_159 : decode cX5_matrix 159 = .ok (.ireturn, 1) := by decide +kernel
theorem dX5_matrix_160 : decode cX5_matrix 160 = .ok (.iinc 5 1, 3) := by decide +kernel
theorem dX5_matrix_163 : decode cX5_matrix 163 = .ok (.goto (-37), 3) := by decide +kernel
theorem dX5_matrix_166 : decode cX5_matrix 166 = .ok (.aload_n 0, 1) := by decide +kernel
theorem dX5_matrix_167 : decode cX5_matrix 167 = .ok (.iconst 3, 1) := by decide +kernel
theorem dX5_matrix_168 : decode cX5_matrix 168 = .ok (.bipush 7, 2) := by decide +kernel
theorem dX5_matrix_170 : decode cX5_matrix 170 = .ok (.iload_n 1, 1) := by decide +kernel
theorem dX5_matrix_171 : decode cX5_matrix 171 = .ok (.iload_n 2, 1) := by decide +kernel
theorem dX5_matrix_172 : decode cX5_matrix 172 = .ok (.iconst 0, 1) := by decide +kernel
theorem dX5_matrix_173 : decode cX5_matrix 173 = .ok (.invokevirtual 59, 3) := by decide +kernel
theorem dX5_matrix_176 : decode cX5_matrix 176 = .ok (.istore 5, 2) := by decide +kernel
theorem dX5_matrix_178 : decode cX5_matrix 178 = .ok (.iconst 0, 1) := by decide +kernel
theorem dX5_matrix_179 : decode cX5_matrix 179 = .ok (.istore 6, 2) := by decide +kernel
theorem dX5_matrix_181 : decode cX5_matrix 181 = .ok (.iload 6, 2) := by decide +kernel
theorem dX5_matrix_183 : decode cX5_matrix 183 = .ok (.iload_n 3, 1) := by decide +kernel
theorem dX5_matrix_184 : decode cX5_matrix 184 = .ok (.if_icmp .ge 29, 3) := by decide +kernel
theorem dX5_matrix_187 : decode cX5_matrix 187 = .ok (.aload_n 0, 1) := by decide +kernel
theorem dX5_matrix_188 : decode cX5_matrix 188 = .ok (.getfield 13, 3) := by decide +kernel
theorem dX5_matrix_191 : decode cX5_matrix 191 = .ok (.aload_n 0, 1) := by decide +kernel
theorem dX5_matrix_192 : decode cX5_matrix 192 = .ok (.getfield 41, 3) := by decide +kernel
theorem dX5_matrix_195 : decode cX5_matrix 195 = .ok (.bipush 25, 2) := by decide +kernel
theorem dX5_matrix_197 : decode cX5_matrix 197 = .ok (.iload 5, 2) := by decide +kernel
theorem dX5_matrix_199 : decode cX5_matrix 199 = .ok (.imul, 1) := by decide +kernel
theorem dX5_matrix_200 : decode cX5_matrix 200 = .ok (.iload 6, 2) := by decide +kernel
theorem dX5_matrix_202 : decode cX5_matrix 202 = .ok (.iadd, 1) := by decide +kernel
theorem dX5_matrix_203 : decode cX5_matrix 203 = .ok (.iaload, 1) := by decide +kernel
theorem dX5_matrix_204 : decode cX5_matrix 204 = .ok (.iload 5, 2) := by decide +kernel
theorem dX5_matrix_206 : decode cX5_matrix 206 = .ok (.iastore, 1) := by decide +kernel
theorem dX5_matrix_207 : decode cX5_matrix 207 = .ok (.iinc 6 1, 3) := by decide +kernel
theorem dX5_matrix_210 : decode cX5_matrix 210 = .ok (.goto (-29), 3) := by decide +kernel
theorem dX5_matrix_213 : decode cX5_matrix 213 = .ok (.iload 5, 2) := by decide +kernel
theorem dX5_matrix_215 : decode cX5_matrix 215 = .ok (.iconst 1, 1) := by decide +kernel
theorem dX5_matrix_216 : decode cX5_matrix 216 = .ok (.iadd, 1) := by decide +kernel
theorem dX5_matrix_217 : decode cX5_matrix 217 = .ok (.ireturn, 1) := by decide +kernel
theorem dX5_style_0 : decode cX5_style 0 = .ok (.aload_n 0, 1) := by decide +kernel
theorem dX5_style_1 : decode cX5_style 1 = .ok (.iload_n 1, 1) := by decide +kernel
theorem dX5_style_2 : decode cX5_style 2 = .ok (.ifCond .lt 8, 3) := by decide +kernel
theorem dX5_style_5 : decode cX5_style 5 = .ok (.iload_n 1, 1) := by decide +kernel
theorem dX5_style_6 : decode cX5_style 6 = .ok (.iconst 3, 1) := by decide +kernel
theorem dX5_style_7 : decode cX5_style 7 = .ok (.if_icmp .le 7, 3) := by decide +kernel
theorem dX5_style_10 : decode cX5_style 10 = .ok (.iconst 1, 1) := by decide +kernel
theorem dX5_style_11 : decode cX5_style 11 = .ok (.goto 17, 3) := by decide +kernel
theorem dX5_style_14 : decode cX5_style 14 = .ok (.aload_n 0, 1) := by decide +kernel
theorem dX5_style_15 : decode cX5_style 15 = .ok (.getfield 53, 3) := by decide +kernel
theorem dX5_style_18 : decode cX5_style 18 = .ok (.bipush 120, 2) := by decide +kernel
theorem dX5_style_20 : decode cX5_style 20 = .ok (.if_icmp .ne 7, 3) := by decide +kernel
theorem dX5_style_23 : decode cX5_style 23 = .ok (.iconst 2, 1) := by decide +kernel
theorem dX5_style_24 : decode cX5_style 24 = .ok (.goto 4, 3) := by decide +kernel
theorem dX5_style_27 : decode cX5_style 27 = .ok (.iconst 0, 1) := by decide +kernel
theorem dX5_style_28 : decode cX5_style 28 = .ok (.putfield 50, 3) := by decide +kernel
theorem dX5_style_31 : decode cX5_style 31 = .ok (.aload_n 0, 1) := by decide +kernel
theorem dX5_style_32 : decode cX5_style 32 = .ok (.getfield 50, 3) := by decide +kernel
theorem dX5_style_35 : decode cX5_style 35 = .ok (.ifCond .le 7, 3) := by decide +kernel
theorem dX5_style_38 : decode cX5_style 38 = .ok (.iconst 0, 1) := by decide +kernel
theorem dX5_style_39 : decode cX5_style 39 = .ok (.goto 20, 3) := by decide +kernel
theorem dX5_style_42 : decode cX5_style 42 = .ok (.aload_n 0, 1) := by decide +kernel
theorem dX5_style_43 : decode cX5_style 43 = .ok (.iconst 4, 1) := by decide +kernel
theorem dX5_style_44 : decode cX5_style 44 = .ok (.iconst 0, 1) := by decide +kernel
theorem dX5_style_45 : decode cX5_style 45 = .ok (.iload_n 1, 1) := by decide +kernel
theorem dX5_style_46 : decode cX5_style 46 = .ok (.iload_n 2, 1) := by decide +kernel
theorem dX5_style_47 : decode cX5_style 47 = .ok (.ifCond .eq 7, 3) := by decide +kernel
theorem dX5_style_50 : decode cX5_style 50 = .ok (.iconst 1, 1) := by decide +kernel
theorem dX5_style_51 : decode cX5_style 51 = .ok (.goto 4, 3) := by decide +kernel
theorem dX5_style_54 : decode cX5_style 54 = .ok (.iconst 0, 1) := by decide +kernel
theorem dX5_style_55 : decode cX5_style 55 = .ok (.iconst 0, 1) := by decide +kernel
theorem dX5_style_56 : decode cX5_style 56 = .ok (.invokevirtual 59, 3) := by decide +kernel
theorem dX5_style_59 : decode cX5_style 59 = .ok (.ireturn, 1) := by decide +kernel
theorem dX5_nextAtom_0 : decode cX5_nextAtom 0 = .ok (.iload_n 2, 1) := by decide +kernel
theorem dX5_nextAtom_1 : decode cX5_nextAtom 1 = .ok (.iconst 1, 1) := by decide +kernel
theorem dX5_nextAtom_2 : decode cX5_nextAtom 2 = .ok (.iadd, 1) := by decide +kernel
theorem dX5_nextAtom_3 : decode cX5_nextAtom 3 = .ok (.istore_n 3, 1) := by decide +kernel
theorem dX5_nextAtom_4 : decode cX5_nextAtom 4 = .ok (.iload_n 3, 1) := by decide +kernel
theorem dX5_nextAtom_5 : decode cX5_nextAtom 5 = .ok (.aload_n 0, 1) := by decide +kernel
theorem dX5_nextAtom_6 : decode cX5_nextAtom 6 = .ok (.getfield 53, 3) := by decide +kernel
theorem dX5_nextAtom_9 : decode cX5_nextAtom 9 = .ok (.if_icmp .ge 29, 3) := by decide +kernel
theorem dX5_nextAtom_12 : decode cX5_nextAtom 12 = .ok (.aload_n 0, 1) := by decide +kernel
theorem dX5_nextAtom_13 : decode cX5_nextAtom 13 = .ok (.getfield 17, 3) := by decide +kernel
theorem dX5_nextAtom_16 : decode cX5_nextAtom 16 = .ok (.iload_n 3, 1) := by decide +kernel
theorem dX5_nextAtom_17 : decode cX5_nextAtom 17 = .ok (.iaload, 1) := by decide +kernel
theorem dX5_nextAtom_18 : decode cX5_nextAtom 18 = .ok (.iload_n 1, 1) := by decide +kernel
theorem dX5_nextAtom_19 : decode cX5_nextAtom 19 = .ok (.if_icmp .ne 13, 3) := by decide +kernel
theorem dX5_nextAtom_22 : decode cX5_nextAtom 22 = .ok (.aload_n 0, 1) := by decide +kernel
theorem dX5_nextAtom_23 : decode cX5_nextAtom 23 = .ok (.getfield 20, 3) := by decide +kernel
theorem dX5_nextAtom_26 : decode cX5_nextAtom 26 = .ok (.iload_n 3, 1) := by decide +kernel
theorem dX5_nextAtom_27 : decode cX5_nextAtom 27 = .ok (.iaload, 1) := by decide +kernel
theorem dX5_nextAtom_28 : decode cX5_nextAtom 28 = .ok (.iconst 4, 1) := by decide +kernel
theorem dX5_nextAtom_29 : decode cX5_nextAtom 29 = .ok (.if_icmp .ne 9, 3) := by decide +kernel
theorem dX5_nextAtom_32 : decode cX5_nextAtom 32 = .ok (.iinc 3 1, 3) := by decide +kernel
theorem dX5_nextAtom_35 : decode cX5_nextAtom 35 = .ok (.goto (-31), 3) := by decide +kernel
theorem dX5_nextAtom_38 : decode cX5_nextAtom 38 = .ok (.iload_n 3, 1) := by decide +kernel
theorem dX5_nextAtom_39 : decode cX5_nextAtom 39 = .ok (.aload_n 0, 1) := by decide +kernel
theorem dX5_nextAtom_40 : decode cX5_nextAtom 40 = .ok (.getfield 53, 3) := by decide +kernel
theorem dX5_nextAtom_43 : decode cX5_nextAtom 43 = .ok (.if_icmp .ge 7, 3) := by decide +kernel
theorem dX5_nextAtom_46 : decode cX5_nextAtom 46 = .ok (.iload_n 3, 1) := by decide +kernel
theorem dX5_nextAtom_47 : decode cX5_nextAtom 47 = .ok (.goto 4, 3) := by decide +kernel
theorem dX5_nextAtom_50 : decode cX5_nextAtom 50 = .ok (.iconst (-1), 1) := by decide +kernel
theorem dX5_nextAtom_51 : decode cX5_nextAtom 51 = .ok (.ireturn, 1) := by decide +kernel
theorem dX5_countsAs_0 : decode cX5_countsAs 0 = .ok (.aload_n 0, 1) := by decide +kernel
theorem dX5_countsAs_1 : decode cX5_countsAs 1 = .ok (.getfield 17, 3) := by decide +kernel
theorem dX5_countsAs_4 : decode cX5_countsAs 4 = .ok (.iload_n 1, 1) := by decide +kernel
theorem dX5_countsAs_5 : decode cX5_countsAs 5 = .ok (.iaload, 1) := by decide +kernel
theorem dX5_countsAs_6 : decode cX5_countsAs 6 = .ok (.istore_n 2, 1) := by decide +kernel
theorem dX5_countsAs_7 : decode cX5_countsAs 7 = .ok (.iconst (-1), 1) := by decide +kernel
theorem dX5_countsAs_8 : decode cX5_countsAs 8 = .ok (.istore_n 3, 1) := by decide +kernel
theorem dX5_countsAs_9 : decode cX5_countsAs 9 = .ok (.aload_n 0, 1) := by decide +kernel
theorem dX5_countsAs_10 : decode cX5_countsAs 10 = .ok (.iload_n 2, 1) := by decide +kernel
theorem dX5_countsAs_11 : decode cX5_countsAs 11 = .ok (.iconst (-1), 1) := by decide +kernel
theorem dX5_countsAs_12 : decode cX5_countsAs 12 = .ok (.invokevirtual 82, 3) := by decide +kernel
theorem dX5_countsAs_15 : decode cX5_countsAs 15 = .ok (.istore 4, 2) := by decide +kernel
theorem dX5_countsAs_17 : decode cX5_countsAs 17 = .ok (.iconst 0, 1) := by decide +kernel
theorem dX5_countsAs_18 : decode cX5_countsAs 18 = .ok (.istore 5, 2) := by decide +kernel
theorem dX5_countsAs_20 : decode cX5_countsAs 20 = .ok (.iconst 1, 1) := by decide +kernel
theorem dX5_countsAs_21 : decode cX5_countsAs 21 = .ok (.istore 6, 2) := by decide +kernel
theorem dX5_countsAs_23 : decode cX5_countsAs 23 = .ok (.iload 6, 2) := by decide +kernel
theorem dX5_countsAs_25 : decode cX5_countsAs 25 = .ok (.ifCond .eq 146, 3) := by decide +kernel
theorem dX5_countsAs_28 : decode cX5_countsAs 28 = .ok (.aload_n 0, 1) := by decide +kernel
theorem dX5_countsAs_29 : decode cX5_countsAs 29 = .ok (.iload_n 2, 1) := by decide +kernel
theorem dX5_countsAs_30 : decode cX5_countsAs 30 = .ok (.iload 4, 2) := by decide +kernel
theorem dX5_countsAs_32 : decode cX5_countsAs 32 = .ok (.invokevirtual 82, 3) := by decide +kernel
theorem dX5_countsAs_35 : decode cX5_countsAs 35 = .ok (.istore 7, 2) := by decide +kernel
theorem dX5_countsAs_37 : decode cX5_countsAs 37 = .ok (.aload_n 0, 1) := by decide +kernel
theorem dX5_countsAs_38 : decode cX5_countsAs 38 = .ok (.getfield 23, 3) := by decide +kernel
theorem dX5_countsAs_41 : decode cX5_countsAs 41 = .ok (.iload 4, 2) := by decide +kernel
theorem dX5_countsAs_43 : decode cX5_countsAs 43 = .ok (.iaload, 1) := by decide +kernel
theorem dX5_countsAs_44 : decode cX5_countsAs 44 = .ok (.istore 5, 2) := by decide +kernel
theorem dX5_countsAs_46 : decode cX5_countsAs 46 = .ok (.iload 5, 2) := by decide +kernel
theorem dX5_countsAs_48 : decode cX5_countsAs 48 = .ok (.iconst 2, 1) := by decide +kernel
theorem dX5_countsAs_49 : decode cX5_countsAs 49 = .ok (.if_icmp .ne 89, 3) := by decide +kernel
theorem dX5_countsAs_52 : decode cX5_countsAs 52 = .ok (.iload_n 3, 1) := by decide +kernel
theorem dX5_countsAs_53 : decode cX5_countsAs 53 = .ok (.ifCond .eq 14, 3) := by decide +kernel
theorem dX5_countsAs_56 : decode cX5_countsAs 56 = .ok (.iload_n 3, 1) := by decide +kernel
theorem dX5_countsAs_57 : decode cX5_countsAs 57 = .ok (.iconst 5, 1) := by decide +kernel
theorem dX5_countsAs_58 : decode cX5_countsAs 58 = .ok (.if_icmp .eq 9, 3) := by decide +kernel
theorem dX5_countsAs_61 : decode cX5_countsAs 61 = .ok (.iload_n 3, 1) := by decide +kernel
theorem dX5_countsAs_62 : decode cX5_countsAs 62 = .ok (.bipush 7, 2) := by decide +kernel
theorem dX5_countsAs_64 : decode cX5_countsAs 64 = .ok (.if_icmp .ne 7, 3) := by decide +kernel
theorem dX5_countsAs_67 : decode cX5_countsAs 67 = .ok (.iconst 1, 1) := by decide +kernel
theorem dX5_countsAs_68 : decode cX5_countsAs 68 = .ok (.goto 4, 3) := by decide +kernel
theorem dX5_countsAs_71 : decode cX5_countsAs 71 = .ok (.iconst 0, 1) := by decide +kernel
theorem dX5_countsAs_72 : decode cX5_countsAs 72 = .ok (.istore 8, 2) := by decide +kernel
theorem dX5_countsAs_74 : decode cX5_countsAs 74 = .ok (.iload 7, 2) := by decide +kernel
theorem dX5_countsAs_76 : decode cX5_countsAs 76 = .ok (.iconst (-1), 1) := by decide +kernel
theorem dX5_countsAs_77 : decode cX5_countsAs 77 = .ok (.if_icmp .eq 41, 3) := by decide +kernel
theorem dX5_countsAs_80 : decode cX5_countsAs 80 = .ok (.aload_n 0, 1) := by decide +kernel
theorem dX5_countsAs_81 : decode cX5_countsAs 81 = .ok (.getfield 23, 3) := by decide +kernel
theorem dX5_countsAs_84 : decode cX5_countsAs 84 = .ok (.iload 7, 2) := by decide +kernel
theorem dX5_countsAs_86 : decode cX5_countsAs 86 = .ok (.iaload, 1) := by decide +kernel
theorem dX5_countsAs_87 : decode cX5_countsAs 87 = .ok (.iconst 3, 1) := by decide +kernel
theorem dX5_countsAs_88 : decode cX5_countsAs 88 = .ok (.if_icmp .eq 30, 3) := by decide +kernel
theorem dX5_countsAs_91 : decode cX5_countsAs 91 = .ok (.aload_n 0, 1) := by decide +kernel
theorem dX5_countsAs_92 : decode cX5_countsAs 92 = .ok (.getfield 23, 3) := by decide +kernel
theorem dX5_countsAs_95 : decode cX5_countsAs 95 = .ok (.iload 7, 2) := by decide +kernel
theorem dX5_countsAs_97 : decode cX5_countsAs 97 = .ok (.iaload, 1) := by decide +kernel
theorem dX5_countsAs_98 : decode cX5_countsAs 98 = .ok (.iconst 5, 1) := by decide +kernel
theorem dX5_countsAs_99 : decode cX5_countsAs 99 = .ok (.if_icmp .eq 19, 3) := by decide +kernel
theorem dX5_countsAs_102 : decode cX5_countsAs 102 = .ok (.aload_n 0, 1) := by decide +kernel
theorem dX5_countsAs_103 : decode cX5_countsAs 103 = .ok (.getfield 23, 3) := by decide +kernel
theorem dX5_countsAs_106 : decode cX5_countsAs 106 = .ok (.iload 7, 2) := by decide +kernel
theorem dX5_countsAs_108 : decode cX5_countsAs 108 = .ok (.iaload, 1) := by decide +kernel
theorem dX5_countsAs_109 : decode cX5_countsAs 109 = .ok (.bipush 6, 2) := by decide +kernel
theorem dX5_countsAs_111 : decode cX5_countsAs 111 = .ok (.if_icmp .eq 7, 3) := by decide +kernel
theorem dX5_countsAs_114 : decode cX5_countsAs 114 = .ok (.iconst 1, 1) := by decide +kernel
theorem dX5_countsAs_115 : decode cX5_countsAs 115 = .ok (.goto 4, 3) := by decide +kernel
theorem dX5_countsAs_118 : decode cX5_countsAs 118 = .ok (.iconst 0, 1) := by decide +kernel
theorem dX5_countsAs_119 : decode cX5_countsAs 119 = .ok (.istore 9, 2) := by decide +kernel
theorem dX5_countsAs_121 : decode cX5_countsAs 121 = .ok (.iload 8, 2) := by decide +kernel
theorem dX5_countsAs_123 : decode cX5_countsAs 123 = .ok (.ifCond .eq 12, 3) := by decide +kernel
theorem dX5_countsAs_126 : decode cX5_countsAs 126 = .ok (.iload 9, 2) := by decide +kernel
theorem dX5_countsAs_128 : decode cX5_countsAs 128 = .ok (.ifCond .eq 7, 3) := by decide +kernel
theorem dX5_countsAs_131 : decode cX5_countsAs 131 = .ok (.iconst 2, 1) := by decide +kernel
theorem dX5_countsAs_132 : decode cX5_countsAs 132 = .ok (.goto 4, 3) := by decide +kernel
theorem dX5_countsAs_135 : decode cX5_countsAs 135 = .ok (.iconst 0, 1) := by decide +kernel
theorem dX5_countsAs_136 : decode cX5_countsAs 136 = .ok (.istore 5, 2) := by decide +kernel
theorem dX5_countsAs_138 : decode cX5_countsAs 138 = .ok (.iload 4, 2) := by decide +kernel
theorem dX5_countsAs_140 : decode cX5_countsAs 140 = .ok (.iload_n 1, 1) := by decide +kernel
theorem dX5_countsAs_141 : decode cX5_countsAs 141 = .ok (.if_icmp .eq 7, 3) := by decide +kernel
theorem dX5_countsAs_144 : decode cX5_countsAs 144 = .ok (.iconst 1, 1) := by decide +kernel
theorem dX5_countsAs_145 : decode cX5_countsAs 145 = .ok (.goto 4, 3) := by decide +kernel
theorem dX5_countsAs_148 : decode cX5_countsAs 148 = .ok (.iconst 0, 1) := by decide +kernel
theorem dX5_countsAs_149 : decode cX5_countsAs 149 = .ok (.istore 6, 2) := by decide +kernel
theorem dX5_countsAs_151 : decode cX5_countsAs 151 = .ok (.iload 5, 2) := by decide +kernel
theorem dX5_countsAs_153 : decode cX5_countsAs 153 = .ok (.istore_n 3, 1) := by decide +kernel
theorem dX5_countsAs_154 : decode cX5_countsAs 154 = .ok (.iload 6, 2) := by decide +kernel
theorem dX5_countsAs_156 : decode cX5_countsAs 156 = .ok (.ifCond .eq 8, 3) := by decide +kernel
theorem dX5_countsAs_159 : decode cX5_countsAs 159 = .ok (.iload 7, 2) := by decide +kernel
theorem dX5_countsAs_161 : decode cX5_countsAs 161 = .ok (.goto 5, 3) := by decide +kernel
theorem dX5_countsAs_164 : decode cX5_countsAs 164 = .ok (.iload 4, 2) := by decide +kernel
theorem dX5_countsAs_166 : decode cX5_countsAs 166 = .ok (.istore 4, 2) := by decide +kernel
theorem dX5_countsAs_168 : decode cX5_countsAs 168 = .ok (.goto (-145), 3) := by decide +kernel
theorem dX5_countsAs_171 : decode cX5_countsAs 171 = .ok (.iload 5, 2) := by decide +kernel
theorem dX5_countsAs_173 : decode cX5_countsAs 173 = .ok (.ireturn, 1) := by decide +kernel
theorem dX5_kind_0 : decode cX5_kind 0 = .ok (.aload_n 0, 1) := by decide +kernel
theorem dX5_kind_1 : decode cX5_kind 1 = .ok (.aload_n 0, 1) := by decide +kernel
theorem dX5_kind_2 : decode cX5_kind 2 = .ok (.iload_n 1, 1) := by decide +kernel
theorem dX5_kind_3 : decode cX5_kind 3 = .ok (.invokevirtual 63, 3) := by decide +kernel
theorem dX5_kind_6 : decode cX5_kind 6 = .ok (.ifCond .eq 7, 3) := by decide +kernel
theorem dX5_kind_9 : decode cX5_kind 9 = .ok (.iconst 0, 1) := by decide +kernel
theorem dX5_kind_10 : decode cX5_kind 10 = .ok (.goto 4, 3) := by decide +kernel
theorem dX5_kind_13 : decode cX5_kind 13 = .ok (.iconst 1, 1) := by decide +kernel
theorem dX5_kind_14 : decode cX5_kind 14 = .ok (.putfield 50, 3) := by decide +kernel
theorem dX5_kind_17 : decode cX5_kind 17 = .ok (.aload_n 0, 1) := by decide +kernel
theorem dX5_kind_18 : decode cX5_kind 18 = .ok (.getfield 50, 3) := by decide +kernel
theorem dX5_kind_21 : decode cX5_kind 21 = .ok (.ifCond .le 7, 3) := by decide +kernel
theorem dX5_kind_24 : decode cX5_kind 24 = .ok (.iconst 0, 1) := by decide +kernel
theorem dX5_kind_25 : decode cX5_kind 25 = .ok (.goto 8, 3) := by decide +kernel
theorem dX5_kind_28 : decode cX5_kind 28 = .ok (.aload_n 0, 1) := by decide +kernel
theorem dX5_kind_29 : decode cX5_kind 29 = .ok (.iload_n 1, 1) := by decide +kernel
theorem dX5_kind_30 : decode cX5_kind 30 = .ok (.invokevirtual 86, 3) := by decide +kernel
theorem dX5_kind_33 : decode cX5_kind 33 = .ok (.ireturn, 1) := by decide +kernel
theorem dX5_letterOf_0 : decode cX5_letterOf 0 = .ok (.iload_n 0, 1) := by decide +kernel
theorem dX5_letterOf_1 : decode cX5_letterOf 1 = .ok (.ifCond .eq 14, 3) := by decide +kernel
theorem dX5_letterOf_4 : decode cX5_letterOf 4 = .ok (.iload_n 0, 1) := by decide +kernel
theorem dX5_letterOf_5 : decode cX5_letterOf 5 = .ok (.iconst 5, 1) := by decide +kernel
theorem dX5_letterOf_6 : decode cX5_letterOf 6 = .ok (.if_icmp .eq 9, 3) := by decide +kernel
theorem dX5_letterOf_9 : decode cX5_letterOf 9 = .ok (.iload_n 0, 1) := by decide +kernel
theorem dX5_letterOf_10 : decode cX5_letterOf 10 = .ok (.bipush 7, 2) := by decide +kernel
theorem dX5_letterOf_12 : decode cX5_letterOf 12 = .ok (.if_icmp .ne 7, 3) := by decide +kernel
theorem dX5_letterOf_15 : decode cX5_letterOf 15 = .ok (.iconst 1, 1) := by decide +kernel
theorem dX5_letterOf_16 : decode cX5_letterOf 16 = .ok (.goto 4, 3) := by decide +kernel
theorem dX5_letterOf_19 : decode cX5_letterOf 19 = .ok (.iconst 0, 1) := by decide +kernel
theorem dX5_letterOf_20 : decode cX5_letterOf 20 = .ok (.istore_n 2, 1) := by decide +kernel
theorem dX5_letterOf_21 : decode cX5_letterOf 21 = .ok (.iload_n 0, 1) := by decide +kernel
theorem dX5_letterOf_22 : decode cX5_letterOf 22 = .ok (.iconst 4, 1) := by decide +kernel
theorem dX5_letterOf_23 : decode cX5_letterOf 23 = .ok (.if_icmp .ne 5, 3) := by decide +kernel
theorem dX5_letterOf_26 : decode cX5_letterOf 26 = .ok (.iconst 0, 1) := by decide +kernel
theorem dX5_letterOf_27 : decode cX5_letterOf 27 = .ok (.ireturn, 1) := by decide +kernel
theorem dX5_letterOf_28 : decode cX5_letterOf 28 = .ok (.iload_n 0, 1) := by decide +kernel
theorem dX5_letterOf_29 : decode cX5_letterOf 29 = .ok (.bipush 6, 2) := by decide +kernel
theorem dX5_letterOf_31 : decode cX5_letterOf 31 = .ok (.if_icmp .ne 14, 3) := by decide +kernel
theorem dX5_letterOf_34 : decode cX5_letterOf 34 = .ok (.iload_n 1, 1) := by decide +kernel
theorem dX5_letterOf_35 : decode cX5_letterOf 35 = .ok (.iconst 2, 1) := by decide +kernel
theorem dX5_letterOf_36 : decode cX5_letterOf 36 = .ok (.if_icmp .ne 7, 3) := by decide +kernel
theorem dX5_letterOf_39 : decode cX5_letterOf 39 = .ok (.iconst 0, 1) := by decide +kernel
theorem dX5_letterOf_40 : decode cX5_letterOf 40 = .ok (.goto 4, 3) := by decide +kernel
theorem dX5_letterOf_43 : decode cX5_letterOf 43 = .ok (.iconst 2, 1) := by decide +kernel
theorem dX5_letterOf_44 : decode cX5_letterOf 44 = .ok (.ireturn, 1) := by decide +kernel
theorem dX5_letterOf_45 : decode cX5_letterOf 45 = .ok (.iload_n 1, 1) := by decide +kernel
theorem dX5_letterOf_46 : decode cX5_letterOf 46 = .ok (.iconst 1, 1) := by decide +kernel
theorem dX5_letterOf_47 : decode cX5_letterOf 47 = .ok (.if_icmp .ne 27, 3) := by decide +kernel
theorem dX5_letterOf_50 : decode cX5_letterOf 50 = .ok (.iload_n 2, 1) := by decide +kernel
theorem dX5_letterOf_51 : decode cX5_letterOf 51 = .ok (.ifCond .ne 8, 3) := by decide +kernel
theorem dX5_letterOf_54 : decode cX5_letterOf 54 = .ok (.iload_n 0, 1) := by decide +kernel
theorem dX5_letterOf_55 : decode cX5_letterOf 55 = .ok (.iconst 1, 1) := by decide +kernel
theorem dX5_letterOf_56 : decode cX5_letterOf 56 = .ok (.if_icmp .ne 7, 3) := by decide +kernel
theorem dX5_letterOf_59 : decode cX5_letterOf 59 = .ok (.iconst 1, 1) := by decide +kernel
theorem dX5_letterOf_60 : decode cX5_letterOf 60 = .ok (.goto 13, 3) := by decide +kernel
theorem dX5_letterOf_63 : decode cX5_letterOf 63 = .ok (.iload_n 0, 1) := by decide +kernel
theorem dX5_letterOf_64 : decode cX5_letterOf 64 = .ok (.iconst 2, 1) := by decide +kernel
theorem dX5_letterOf_65 : decode cX5_letterOf 65 = .ok (.if_icmp .ne 7, 3) := by decide +kernel
theorem dX5_letterOf_68 : decode cX5_letterOf 68 = .ok (.iconst 3, 1) := by decide +kernel
theorem dX5_letterOf_69 : decode cX5_letterOf 69 = .ok (.goto 4, 3) := by decide +kernel
theorem dX5_letterOf_72 : decode cX5_letterOf 72 = .ok (.iconst 4, 1) := by decide +kernel
theorem dX5_letterOf_73 : decode cX5_letterOf 73 = .ok (.ireturn, 1) := by decide +kernel
theorem dX5_letterOf_74 : decode cX5_letterOf 74 = .ok (.iload_n 1, 1) := by decide +kernel
theorem dX5_letterOf_75 : decode cX5_letterOf 75 = .ok (.bipush 7, 2) := by decide +kernel
theorem dX5_letterOf_77 : decode cX5_letterOf 77 = .ok (.if_icmp .ne 23, 3) := by decide +kernel
theorem dX5_letterOf_80 : decode cX5_letterOf 80 = .ok (.iload_n 0, 1) := by decide +kernel
theorem dX5_letterOf_81 : decode cX5_letterOf 81 = .ok (.iconst 2, 1) := by decide +kernel
theorem dX5_letterOf_82 : decode cX5_letterOf 82 = .ok (.if_icmp .ne 7, 3) := by decide +kernel
theorem dX5_letterOf_85 : decode cX5_letterOf 85 = .ok (.iconst 3, 1) := by decide +kernel
theorem dX5_letterOf_86 : decode cX5_letterOf 86 = .ok (.goto 13, 3) := by decide +kernel
theorem dX5_letterOf_89 : decode cX5_letterOf 89 = .ok (.iload_n 0, 1) := by decide +kernel
theorem dX5_letterOf_90 : decode cX5_letterOf 90 = .ok (.iconst 3, 1) := by decide +kernel
theorem dX5_letterOf_91 : decode cX5_letterOf 91 = .ok (.if_icmp .ne 7, 3) := by decide +kernel
theorem dX5_letterOf_94 : decode cX5_letterOf 94 = .ok (.iconst 4, 1) := by decide +kernel
theorem dX5_letterOf_95 : decode cX5_letterOf 95 = .ok (.goto 4, 3) := by decide +kernel
theorem dX5_letterOf_98 : decode cX5_letterOf 98 = .ok (.iconst 2, 1) := by decide +kernel
theorem dX5_letterOf_99 : decode cX5_letterOf 99 = .ok (.ireturn, 1) := by decide +kernel
theorem dX5_letterOf_100 : decode cX5_letterOf 100 = .ok (.iload_n 0, 1) := by decide +kernel
theorem dX5_letterOf_101 : decode cX5_letterOf 101 = .ok (.iconst 2, 1) := by decide +kernel
theorem dX5_letterOf_102 : decode cX5_letterOf 102 = .ok (.if_icmp .ne 18, 3) := by decide +kernel
theorem dX5_letterOf_105 : decode cX5_letterOf 105 = .ok (.iload_n 1, 1) := by decide +kernel
theorem dX5_letterOf_106 : decode cX5_letterOf 106 = .ok (.ifCond .eq 8, 3) := by decide +kernel
theorem dX5_letterOf_109 : decode cX5_letterOf 109 = .ok (.iload_n 1, 1) := by decide +kernel
theorem dX5_letterOf_110 : decode cX5_letterOf 110 = .ok (.iconst 4, 1) := by decide +kernel
theorem dX5_letterOf_111 : decode cX5_letterOf 111 = .ok (.if_icmp .ne 7, 3) := by decide +kernel
