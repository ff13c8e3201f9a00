theorem dX0_relationOf_31 : decode cX0_relationOf 31 = .ok (.iaload, 1) := by decide +kernel
theorem dX0_relationOf_32 : decode cX0_relationOf 32 = .ok (.iconst 4, 1) := by decide +kernel
theorem dX0_relationOf_33 : decode cX0_relationOf 33 = .ok (.if_icmp .eq 25, 3) := by decide +kernel
theorem dX0_relationOf_36 : decode cX0_relationOf 36 = .ok (.aload_n 0, 1) := by decide +kernel
theorem dX0_relationOf_37 : decode cX0_relationOf 37 = .ok (.getfield 28, 3) := by decide +kernel
theorem dX0_relationOf_40 : decode cX0_relationOf 40 = .ok (.iload 4, 2) := by decide +kernel
theorem dX0_relationOf_42 : decode cX0_relationOf 42 = .ok (.iaload, 1) := by decide +kernel
theorem dX0_relationOf_43 : decode cX0_relationOf 43 = .ok (.iconst 3, 1) := by decide +kernel
theorem dX0_relationOf_44 : decode cX0_relationOf 44 = .ok (.if_icmp .ne 14, 3) := by decide +kernel
theorem dX0_relationOf_47 : decode cX0_relationOf 47 = .ok (.iload_n 3, 1) := by decide +kernel
theorem dX0_relationOf_48 : decode cX0_relationOf 48 = .ok (.iload_n 2, 1) := by decide +kernel
theorem dX0_relationOf_49 : decode cX0_relationOf 49 = .ok (.if_icmp .ne 6, 3) := by decide +kernel
theorem dX0_relationOf_52 : decode cX0_relationOf 52 = .ok (.iload 4, 2) := by decide +kernel
theorem dX0_relationOf_54 : decode cX0_relationOf 54 = .ok (.ireturn, 1) := by decide +kernel
theorem dX0_relationOf_55 : decode cX0_relationOf 55 = .ok (.iinc 3 1, 3) := by decide +kernel
theorem dX0_relationOf_58 : decode cX0_relationOf 58 = .ok (.iinc 4 1, 3) := by decide +kernel
theorem dX0_relationOf_61 : decode cX0_relationOf 61 = .ok (.goto (-56), 3) := by decide +kernel
theorem dX0_relationOf_64 : decode cX0_relationOf 64 = .ok (.iconst (-1), 1) := by decide +kernel
theorem dX0_relationOf_65 : decode cX0_relationOf 65 = .ok (.ireturn, 1) := by decide +kernel
theorem dX0_moveFrom_0 : decode cX0_moveFrom 0 = .ok (.iload_n 1, 1) := by decide +kernel
theorem dX0_moveFrom_1 : decode cX0_moveFrom 1 = .ok (.istore 4, 2) := by decide +kernel
theorem dX0_moveFrom_3 : decode cX0_moveFrom 3 = .ok (.iload 4, 2) := by decide +kernel
theorem dX0_moveFrom_5 : decode cX0_moveFrom 5 = .ok (.aload_n 0, 1) := by decide +kernel
theorem dX0_moveFrom_6 : decode cX0_moveFrom 6 = .ok (.getfield 9, 3) := by decide +kernel
theorem dX0_moveFrom_9 : decode cX0_moveFrom 9 = .ok (.if_icmp .ge 28, 3) := by decide +kernel
theorem dX0_moveFrom_12 : decode cX0_moveFrom 12 = .ok (.aload_n 0, 1) := by decide +kernel
theorem dX0_moveFrom_13 : decode cX0_moveFrom 13 = .ok (.getfield 21, 3) := by decide +kernel
theorem dX0_moveFrom_16 : decode cX0_moveFrom 16 = .ok (.iload 4, 2) := by decide +kernel
theorem dX0_moveFrom_18 : decode cX0_moveFrom 18 = .ok (.iaload, 1) := by decide +kernel
theorem dX0_moveFrom_19 : decode cX0_moveFrom 19 = .ok (.iload_n 2, 1) := by decide +kernel
theorem dX0_moveFrom_20 : decode cX0_moveFrom 20 = .ok (.if_icmp .ne 11, 3) := by decide +kernel
theorem dX0_moveFrom_23 : decode cX0_moveFrom 23 = .ok (.aload_n 0, 1) := by decide +kernel
theorem dX0_moveFrom_24 : decode cX0_moveFrom 24 = .ok (.getfield 21, 3) := by decide +kernel
theorem dX0_moveFrom_27 : decode cX0_moveFrom 27 = .ok (.iload 4, 2) := by decide +kernel
theorem dX0_moveFrom_29 : decode cX0_moveFrom 29 = .ok (.iload_n 3, 1) := by decide +kernel
theorem dX0_moveFrom_30 : decode cX0_moveFrom 30 = .ok (.iastore, 1) := by decide +kernel
theorem dX0_moveFrom_31 : decode cX0_moveFrom 31 = .ok (.iinc 4 1, 3) := by decide +kernel
theorem dX0_moveFrom_34 : decode cX0_moveFrom 34 = .ok (.goto (-31), 3) := by decide +kernel
theorem dX0_moveFrom_37 : decode cX0_moveFrom 37 = .ok (.return_, 1) := by decide +kernel
theorem dX0_countsAs_0 : decode cX0_countsAs 0 = .ok (.aload_n 0, 1) := by decide +kernel
theorem dX0_countsAs_1 : decode cX0_countsAs 1 = .ok (.getfield 28, 3) := by decide +kernel
theorem dX0_countsAs_4 : decode cX0_countsAs 4 = .ok (.iload_n 1, 1) := by decide +kernel
theorem dX0_countsAs_5 : decode cX0_countsAs 5 = .ok (.iaload, 1) := by decide +kernel
theorem dX0_countsAs_6 : decode cX0_countsAs 6 = .ok (.iconst 2, 1) := by decide +kernel
theorem dX0_countsAs_7 : decode cX0_countsAs 7 = .ok (.if_icmp .eq 10, 3) := by decide +kernel
theorem dX0_countsAs_10 : decode cX0_countsAs 10 = .ok (.aload_n 0, 1) := by decide +kernel
theorem dX0_countsAs_11 : decode cX0_countsAs 11 = .ok (.getfield 28, 3) := by decide +kernel
theorem dX0_countsAs_14 : decode cX0_countsAs 14 = .ok (.iload_n 1, 1) := by decide +kernel
theorem dX0_countsAs_15 : decode cX0_countsAs 15 = .ok (.iaload, 1) := by decide +kernel
theorem dX0_countsAs_16 : decode cX0_countsAs 16 = .ok (.ireturn, 1) := by decide +kernel
theorem dX0_countsAs_17 : decode cX0_countsAs 17 = .ok (.iload_n 2, 1) := by decide +kernel
theorem dX0_countsAs_18 : decode cX0_countsAs 18 = .ok (.invokestatic 66, 3) := by decide +kernel
theorem dX0_countsAs_21 : decode cX0_countsAs 21 = .ok (.ifCond .eq 18, 3) := by decide +kernel
theorem dX0_countsAs_24 : decode cX0_countsAs 24 = .ok (.aload_n 0, 1) := by decide +kernel
theorem dX0_countsAs_25 : decode cX0_countsAs 25 = .ok (.iload_n 1, 1) := by decide +kernel
theorem dX0_countsAs_26 : decode cX0_countsAs 26 = .ok (.invokevirtual 69, 3) := by decide +kernel
theorem dX0_countsAs_29 : decode cX0_countsAs 29 = .ok (.invokestatic 73, 3) := by decide +kernel
theorem dX0_countsAs_32 : decode cX0_countsAs 32 = .ok (.ifCond .eq 7, 3) := by decide +kernel
theorem dX0_countsAs_35 : decode cX0_countsAs 35 = .ok (.iconst 2, 1) := by decide +kernel
theorem dX0_countsAs_36 : decode cX0_countsAs 36 = .ok (.goto 4, 3) := by decide +kernel
theorem dX0_countsAs_39 : decode cX0_countsAs 39 = .ok (.iconst 0, 1) := by decide +kernel
theorem dX0_countsAs_40 : decode cX0_countsAs 40 = .ok (.ireturn, 1) := by decide +kernel
theorem dX0_bindsBehind_0 : decode cX0_bindsBehind 0 = .ok (.iload_n 0, 1) := by decide +kernel
theorem dX0_bindsBehind_1 : decode cX0_bindsBehind 1 = .ok (.ifCond .eq 14, 3) := by decide +kernel
theorem dX0_bindsBehind_4 : decode cX0_bindsBehind 4 = .ok (.iload_n 0, 1) := by decide +kernel
theorem dX0_bindsBehind_5 : decode cX0_bindsBehind 5 = .ok (.iconst 5, 1) := by decide +kernel
theorem dX0_bindsBehind_6 : decode cX0_bindsBehind 6 = .ok (.if_icmp .eq 9, 3) := by decide +kernel
theorem dX0_bindsBehind_9 : decode cX0_bindsBehind 9 = .ok (.iload_n 0, 1) := by decide +kernel
theorem dX0_bindsBehind_10 : decode cX0_bindsBehind 10 = .ok (.bipush 7, 2) := by decide +kernel
theorem dX0_bindsBehind_12 : decode cX0_bindsBehind 12 = .ok (.if_icmp .ne 7, 3) := by decide +kernel
theorem dX0_bindsBehind_15 : decode cX0_bindsBehind 15 = .ok (.iconst 1, 1) := by decide +kernel
theorem dX0_bindsBehind_16 : decode cX0_bindsBehind 16 = .ok (.goto 4, 3) := by decide +kernel
theorem dX0_bindsBehind_19 : decode cX0_bindsBehind 19 = .ok (.iconst 0, 1) := by decide +kernel
theorem dX0_bindsBehind_20 : decode cX0_bindsBehind 20 = .ok (.ireturn, 1) := by decide +kernel
theorem dX0_bindsAhead_0 : decode cX0_bindsAhead 0 = .ok (.iload_n 0, 1) := by decide +kernel
theorem dX0_bindsAhead_1 : decode cX0_bindsAhead 1 = .ok (.iconst (-1), 1) := by decide +kernel
theorem dX0_bindsAhead_2 : decode cX0_bindsAhead 2 = .ok (.if_icmp .eq 23, 3) := by decide +kernel
theorem dX0_bindsAhead_5 : decode cX0_bindsAhead 5 = .ok (.iload_n 0, 1) := by decide +kernel
theorem dX0_bindsAhead_6 : decode cX0_bindsAhead 6 = .ok (.iconst 3, 1) := by decide +kernel
theorem dX0_bindsAhead_7 : decode cX0_bindsAhead 7 = .ok (.if_icmp .eq 18, 3) := by decide +kernel
theorem dX0_bindsAhead_10 : decode cX0_bindsAhead 10 = .ok (.iload_n 0, 1) := by decide +kernel
theorem dX0_bindsAhead_11 : decode cX0_bindsAhead 11 = .ok (.iconst 5, 1) := by decide +kernel
theorem dX0_bindsAhead_12 : decode cX0_bindsAhead 12 = .ok (.if_icmp .eq 13, 3) := by decide +kernel
theorem dX0_bindsAhead_15 : decode cX0_bindsAhead 15 = .ok (.iload_n 0, 1) := by decide +kernel
theorem dX0_bindsAhead_16 : decode cX0_bindsAhead 16 = .ok (.bipush 6, 2) := by decide +kernel
theorem dX0_bindsAhead_18 : decode cX0_bindsAhead 18 = .ok (.if_icmp .eq 7, 3) := by decide +kernel
theorem dX0_bindsAhead_21 : decode cX0_bindsAhead 21 = .ok (.iconst 1, 1) := by decide +kernel
theorem dX0_bindsAhead_22 : decode cX0_bindsAhead 22 = .ok (.goto 4, 3) := by decide +kernel
theorem dX0_bindsAhead_25 : decode cX0_bindsAhead 25 = .ok (.iconst 0, 1) := by decide +kernel
theorem dX0_bindsAhead_26 : decode cX0_bindsAhead 26 = .ok (.ireturn, 1) := by decide +kernel
theorem dX0_kindAfter_0 : decode cX0_kindAfter 0 = .ok (.iload_n 1, 1) := by decide +kernel
theorem dX0_kindAfter_1 : decode cX0_kindAfter 1 = .ok (.iconst 1, 1) := by decide +kernel
theorem dX0_kindAfter_2 : decode cX0_kindAfter 2 = .ok (.iadd, 1) := by decide +kernel
theorem dX0_kindAfter_3 : decode cX0_kindAfter 3 = .ok (.istore_n 2, 1) := by decide +kernel
theorem dX0_kindAfter_4 : decode cX0_kindAfter 4 = .ok (.iload_n 2, 1) := by decide +kernel
theorem dX0_kindAfter_5 : decode cX0_kindAfter 5 = .ok (.aload_n 0, 1) := by decide +kernel
theorem dX0_kindAfter_6 : decode cX0_kindAfter 6 = .ok (.getfield 9, 3) := by decide +kernel
theorem dX0_kindAfter_9 : decode cX0_kindAfter 9 = .ok (.if_icmp .ge 41, 3) := by decide +kernel
theorem dX0_kindAfter_12 : decode cX0_kindAfter 12 = .ok (.aload_n 0, 1) := by decide +kernel
theorem dX0_kindAfter_13 : decode cX0_kindAfter 13 = .ok (.getfield 21, 3) := by decide +kernel
theorem dX0_kindAfter_16 : decode cX0_kindAfter 16 = .ok (.iload_n 2, 1) := by decide +kernel
theorem dX0_kindAfter_17 : decode cX0_kindAfter 17 = .ok (.iaload, 1) := by decide +kernel
theorem dX0_kindAfter_18 : decode cX0_kindAfter 18 = .ok (.aload_n 0, 1) := by decide +kernel
theorem dX0_kindAfter_19 : decode cX0_kindAfter 19 = .ok (.getfield 21, 3) := by decide +kernel
theorem dX0_kindAfter_22 : decode cX0_kindAfter 22 = .ok (.iload_n 1, 1) := by decide +kernel
theorem dX0_kindAfter_23 : decode cX0_kindAfter 23 = .ok (.iaload, 1) := by decide +kernel
theorem dX0_kindAfter_24 : decode cX0_kindAfter 24 = .ok (.if_icmp .ne 20, 3) := by decide +kernel
theorem dX0_kindAfter_27 : decode cX0_kindAfter 27 = .ok (.aload_n 0, 1) := by decide +kernel
theorem dX0_kindAfter_28 : decode cX0_kindAfter 28 = .ok (.getfield 25, 3) := by decide +kernel
theorem dX0_kindAfter_31 : decode cX0_kindAfter 31 = .ok (.iload_n 2, 1) := by decide +kernel
theorem dX0_kindAfter_32 : decode cX0_kindAfter 32 = .ok (.iaload, 1) := by decide +kernel
theorem dX0_kindAfter_33 : decode cX0_kindAfter 33 = .ok (.iconst 4, 1) := by decide +kernel
theorem dX0_kindAfter_34 : decode cX0_kindAfter 34 = .ok (.if_icmp .eq 10, 3) := by decide +kernel
theorem dX0_kindAfter_37 : decode cX0_kindAfter 37 = .ok (.aload_n 0, 1) := by decide +kernel
theorem dX0_kindAfter_38 : decode cX0_kindAfter 38 = .ok (.getfield 28, 3) := by decide +kernel
theorem dX0_kindAfter_41 : decode cX0_kindAfter 41 = .ok (.iload_n 2, 1) := by decide +kernel
theorem dX0_kindAfter_42 : decode cX0_kindAfter 42 = .ok (.iaload, 1) := by decide +kernel
theorem dX0_kindAfter_43 : decode cX0_kindAfter 43 = .ok (.ireturn, 1) := by decide +kernel
theorem dX0_kindAfter_44 : decode cX0_kindAfter 44 = .ok (.iinc 2 1, 3) := by decide +kernel
theorem dX0_kindAfter_47 : decode cX0_kindAfter 47 = .ok (.goto (-43), 3) := by decide +kernel
theorem dX0_kindAfter_50 : decode cX0_kindAfter 50 = .ok (.iconst (-1), 1) := by decide +kernel
theorem dX0_kindAfter_51 : decode cX0_kindAfter 51 = .ok (.ireturn, 1) := by decide +kernel
theorem dX0_countedKind_0 : decode cX0_countedKind 0 = .ok (.iconst (-1), 1) := by decide +kernel
theorem dX0_countedKind_1 : decode cX0_countedKind 1 = .ok (.istore_n 2, 1) := by decide +kernel
theorem dX0_countedKind_2 : decode cX0_countedKind 2 = .ok (.iconst 0, 1) := by decide +kernel
theorem dX0_countedKind_3 : decode cX0_countedKind 3 = .ok (.istore_n 3, 1) := by decide +kernel
theorem dX0_countedKind_4 : decode cX0_countedKind 4 = .ok (.iload_n 3, 1) := by decide +kernel
theorem dX0_countedKind_5 : decode cX0_countedKind 5 = .ok (.iload_n 1, 1) := by decide +kernel
theorem dX0_countedKind_6 : decode cX0_countedKind 6 = .ok (.if_icmp .ge 41, 3) := by decide +kernel
theorem dX0_countedKind_9 : decode cX0_countedKind 9 = .ok (.aload_n 0, 1) := by decide +kernel
theorem dX0_countedKind_10 : decode cX0_countedKind 10 = .ok (.getfield 21, 3) := by decide +kernel
theorem dX0_countedKind_13 : decode cX0_countedKind 13 = .ok (.iload_n 3, 1) := by decide +kernel
theorem dX0_countedKind_14 : decode cX0_countedKind 14 = .ok (.iaload, 1) := by decide +kernel
theorem dX0_countedKind_15 : decode cX0_countedKind 15 = .ok (.aload_n 0, 1) := by decide +kernel
theorem dX0_countedKind_16 : decode cX0_countedKind 16 = .ok (.getfield 21, 3) := by decide +kernel
theorem dX0_countedKind_19 : decode cX0_countedKind 19 = .ok (.iload_n 1, 1) := by decide +kernel
theorem dX0_countedKind_20 : decode cX0_countedKind 20 = .ok (.iaload, 1) := by decide +kernel
theorem dX0_countedKind_21 : decode cX0_countedKind 21 = .ok (.if_icmp .ne 20, 3) := by decide +kernel
theorem dX0_countedKind_24 : decode cX0_countedKind 24 = .ok (.aload_n 0, 1) := by decide +kernel
theorem dX0_countedKind_25 : decode cX0_countedKind 25 = .ok (.getfield 25, 3) := by decide +kernel
theorem dX0_countedKind_28 : decode cX0_countedKind 28 = .ok (.iload_n 3, 1) := by decide +kernel
theorem dX0_countedKind_29 : decode cX0_countedKind 29 = .ok (.iaload, 1) := by decide +kernel
theorem dX0_countedKind_30 : decode cX0_countedKind 30 = .ok (.iconst 4, 1) := by decide +kernel
theorem dX0_countedKind_31 : decode cX0_countedKind 31 = .ok (.if_icmp .eq 10, 3) := by decide +kernel
theorem dX0_countedKind_34 : decode cX0_countedKind 34 = .ok (.aload_n 0, 1) := by decide +kernel
theorem dX0_countedKind_35 : decode cX0_countedKind 35 = .ok (.iload_n 3, 1) := by decide +kernel
theorem dX0_countedKind_36 : decode cX0_countedKind 36 = .ok (.iload_n 2, 1) := by decide +kernel
theorem dX0_countedKind_37 : decode cX0_countedKind 37 = .ok (.invokevirtual 76, 3) := by decide +kernel
theorem dX0_countedKind_40 : decode cX0_countedKind 40 = .ok (.istore_n 2, 1) := by decide +kernel
theorem dX0_countedKind_41 : decode cX0_countedKind 41 = .ok (.iinc 3 1, 3) := by decide +kernel
theorem dX0_countedKind_44 : decode cX0_countedKind 44 = .ok (.goto (-40), 3) := by decide +kernel
theorem dX0_countedKind_47 : decode cX0_countedKind 47 = .ok (.aload_n 0, 1) := by decide +kernel
theorem dX0_countedKind_48 : decode cX0_countedKind 48 = .ok (.iload_n 1, 1) := by decide +kernel
theorem dX0_countedKind_49 : decode cX0_countedKind 49 = .ok (.iload_n 2, 1) := by decide +kernel
theorem dX0_countedKind_50 : decode cX0_countedKind 50 = .ok (.invokevirtual 76, 3) := by decide +kernel
theorem dX0_countedKind_53 : decode cX0_countedKind 53 = .ok (.ireturn, 1) := by decide +kernel
theorem dX1_init_0 : decode cX1_init 0 = .ok (.aload_n 0, 1) := by decide +kernel
theorem dX1_init_1 : decode cX1_init 1 = .ok (.invokespecial 3, 3) := by decide +kernel
theorem dX1_init_4 : decode cX1_init 4 = .ok (.aload_n 0, 1) := by decide +kernel
theorem dX1_init_5 : decode cX1_init 5 = .ok (.sipush 150, 3) := by decide +kernel
theorem dX1_init_8 : decode cX1_init 8 = .ok (.newarray .int, 2) := by decide +kernel
theorem dX1_init_10 : decode cX1_init 10 = .ok (.putfield 9, 3) := by decide +kernel
theorem dX1_init_13 : decode cX1_init 13 = .ok (.aload_n 0, 1) := by decide +kernel
theorem dX1_init_14 : decode cX1_init 14 = .ok (.sipush 150, 3) := by decide +kernel
theorem dX1_init_17 : decode cX1_init 17 = .ok (.newarray .int, 2) := by decide +kernel
theorem dX1_init_19 : decode cX1_init 19 = .ok (.putfield 15, 3) := by decide +kernel
theorem dX1_init_22 : decode cX1_init 22 = .ok (.aload_n 0, 1) := by decide +kernel
theorem dX1_init_23 : decode cX1_init 23 = .ok (.sipush 150, 3) := by decide +kernel
theorem dX1_init_26 : decode cX1_init 26 = .ok (.newarray .int, 2) := by decide +kernel
theorem dX1_init_28 : decode cX1_init 28 = .ok (.putfield 18, 3) := by decide +kernel
theorem dX1_init_31 : decode cX1_init 31 = .ok (.aload_n 0, 1) := by decide +kernel
theorem dX1_init_32 : decode cX1_init 32 = .ok (.sipush 150, 3) := by decide +kernel
theorem dX1_init_35 : decode cX1_init 35 = .ok (.newarray .int, 2) := by decide +kernel
theorem dX1_init_37 : decode cX1_init 37 = .ok (.putfield 21, 3) := by decide +kernel
theorem dX1_init_40 : decode cX1_init 40 = .ok (.aload_n 0, 1) := by decide +kernel
theorem dX1_init_41 : decode cX1_init 41 = .ok (.sipush 150, 3) := by decide +kernel
theorem dX1_init_44 : decode cX1_init 44 = .ok (.newarray .int, 2) := by decide +kernel
theorem dX1_init_46 : decode cX1_init 46 = .ok (.putfield 24, 3) := by decide +kernel
theorem dX1_init_49 : decode cX1_init 49 = .ok (.return_, 1) := by decide +kernel
theorem dX1_ofAtom_0 : decode cX1_ofAtom 0 = .ok (.bipush 30, 2) := by decide +kernel
theorem dX1_ofAtom_2 : decode cX1_ofAtom 2 = .ok (.iload_n 0, 1) := by decide +kernel
theorem dX1_ofAtom_3 : decode cX1_ofAtom 3 = .ok (.iadd, 1) := by decide +kernel
theorem dX1_ofAtom_4 : decode cX1_ofAtom 4 = .ok (.ireturn, 1) := by decide +kernel
theorem dX1_begin_0 : decode cX1_begin 0 = .ok (.aload_n 0, 1) := by decide +kernel
theorem dX1_begin_1 : decode cX1_begin 1 = .ok (.getfield 9, 3) := by decide +kernel
theorem dX1_begin_4 : decode cX1_begin 4 = .ok (.iload_n 1, 1) := by decide +kernel
theorem dX1_begin_5 : decode cX1_begin 5 = .ok (.iconst 0, 1) := by decide +kernel
theorem dX1_begin_6 : decode cX1_begin 6 = .ok (.iastore, 1) := by decide +kernel
theorem dX1_begin_7 : decode cX1_begin 7 = .ok (.aload_n 0, 1) := by decide +kernel
theorem dX1_begin_8 : decode cX1_begin 8 = .ok (.getfield 15, 3) := by decide +kernel
theorem dX1_begin_11 : decode cX1_begin 11 = .ok (.iload_n 1, 1) := by decide +kernel
theorem dX1_begin_12 : decode cX1_begin 12 = .ok (.iconst 0, 1) := by decide +kernel
theorem dX1_begin_13 : decode cX1_begin 13 = .ok (.iastore, 1) := by decide +kernel
theorem dX1_begin_14 : decode cX1_begin 14 = .ok (.aload_n 0, 1) := by decide +kernel
theorem dX1_begin_15 : decode cX1_begin 15 = .ok (.getfield 18, 3) := by decide +kernel
theorem dX1_begin_18 : decode cX1_begin 18 = .ok (.iload_n 1, 1) := by decide +kernel
theorem dX1_begin_19 : decode cX1_begin 19 = .ok (.iconst 0, 1) := by decide +kernel
theorem dX1_begin_20 : decode cX1_begin 20 = .ok (.iastore, 1) := by decide +kernel
theorem dX1_begin_21 : decode cX1_begin 21 = .ok (.aload_n 0, 1) := by decide +kernel
theorem dX1_begin_22 : decode cX1_begin 22 = .ok (.getfield 21, 3) := by decide +kernel
theorem dX1_begin_25 : decode cX1_begin 25 = .ok (.iload_n 1, 1) := by decide +kernel
theorem dX1_begin_26 : decode cX1_begin 26 = .ok (.iload_n 2, 1) := by decide +kernel
theorem dX1_begin_27 : decode cX1_begin 27 = .ok (.iastore, 1) := by decide +kernel
theorem dX1_begin_28 : decode cX1_begin 28 = .ok (.aload_n 0, 1) := by decide +kernel
theorem dX1_begin_29 : decode cX1_begin 29 = .ok (.getfield 24, 3) := by decide +kernel
theorem dX1_begin_32 : decode cX1_begin 32 = .ok (.iload_n 1, 1) := by decide +kernel
theorem dX1_begin_33 : decode cX1_begin 33 = .ok (.iload_n 2, 1) := by decide +kernel
theorem dX1_begin_34 : decode cX1_begin 34 = .ok (.iastore, 1) := by decide +kernel
theorem dX1_begin_35 : decode cX1_begin 35 = .ok (.return_, 1) := by decide +kernel
theorem dX1_cover_0 : decode cX1_cover 0 = .ok (.iload_n 2, 1) := by decide +kernel
theorem dX1_cover_1 : decode cX1_cover 1 = .ok (.iload_n 3, 1) := by decide +kernel
theorem dX1_cover_2 : decode cX1_cover 2 = .ok (.iadd, 1) := by decide +kernel
theorem dX1_cover_3 : decode cX1_cover 3 = .ok (.istore 5, 2) := by decide +kernel
theorem dX1_cover_5 : decode cX1_cover 5 = .ok (.iload 4, 2) := by decide +kernel
theorem dX1_cover_7 : decode cX1_cover 7 = .ok (.iload_n 2, 1) := by decide +kernel
theorem dX1_cover_8 : decode cX1_cover 8 = .ok (.isub, 1) := by decide +kernel
theorem dX1_cover_9 : decode cX1_cover 9 = .ok (.istore 6, 2) := by decide +kernel
theorem dX1_cover_11 : decode cX1_cover 11 = .ok (.aload_n 0, 1) := by decide +kernel
theorem dX1_cover_12 : decode cX1_cover 12 = .ok (.getfield 15, 3) := by decide +kernel
theorem dX1_cover_15 : decode cX1_cover 15 = .ok (.iload_n 1, 1) := by decide +kernel
theorem dX1_cover_16 : decode cX1_cover 16 = .ok (.iload 5, 2) := by decide +kernel
theorem dX1_cover_18 : decode cX1_cover 18 = .ok (.aload_n 0, 1) := by decide +kernel
theorem dX1_cover_19 : decode cX1_cover 19 = .ok (.getfield 15, 3) := by decide +kernel
theorem dX1_cover_22 : decode cX1_cover 22 = .ok (.iload_n 1, 1) := by decide +kernel
theorem dX1_cover_23 : decode cX1_cover 23 = .ok (.iaload, 1) := by decide +kernel
theorem dX1_cover_24 : decode cX1_cover 24 = .ok (.if_icmp .le 8, 3) := by decide +kernel
theorem dX1_cover_27 : decode cX1_cover 27 = .ok (.iload 5, 2) := by decide +kernel
theorem dX1_cover_29 : decode cX1_cover 29 = .ok (.goto 9, 3) := by decide +kernel
theorem dX1_cover_32 : decode cX1_cover 32 = .ok (.aload_n 0, 1) := by decide +kernel
theorem dX1_cover_33 : decode cX1_cover 33 = .ok (.getfield 15, 3) := by decide +kernel
theorem dX1_cover_36 : decode cX1_cover 36 = .ok (.iload_n 1, 1) := by decide +kernel
theorem dX1_cover_37 : decode cX1_cover 37 = .ok (.iaload, 1) := by decide +kernel
theorem dX1_cover_38 : decode cX1_cover 38 = .ok (.iastore, 1) := by decide +kernel
theorem dX1_cover_39 : decode cX1_cover 39 = .ok (.aload_n 0, 1) := by decide +kernel
theorem dX1_cover_40 : decode cX1_cover 40 = .ok (.getfield 18, 3) := by decide +kernel
theorem dX1_cover_43 : decode cX1_cover 43 = .ok (.iload_n 1, 1) := by decide +kernel
theorem dX1_cover_44 : decode cX1_cover 44 = .ok (.iload 6, 2) := by decide +kernel
theorem dX1_cover_46 : decode cX1_cover 46 = .ok (.aload_n 0, 1) := by decide +kernel
theorem dX1_cover_47 : decode cX1_cover 47 = .ok (.getfield 18, 3) := by decide +kernel
theorem dX1_cover_50 : decode cX1_cover 50 = .ok (.iload_n 1, 1) := by decide +kernel
theorem dX1_cover_51 : decode cX1_cover 51 = .ok (.iaload, 1) := by decide +kernel
theorem dX1_cover_52 : decode cX1_cover 52 = .ok (.if_icmp .le 8, 3) := by decide +kernel
theorem dX1_cover_55 : decode cX1_cover 55 = .ok (.iload 6, 2) := by decide +kernel
theorem dX1_cover_57 : decode cX1_cover 57 = .ok (.goto 9, 3) := by decide +kernel
theorem dX1_cover_60 : decode cX1_cover 60 = .ok (.aload_n 0, 1) := by decide +kernel
theorem dX1_cover_61 : decode cX1_cover 61 = .ok (.getfield 18, 3) := by decide +kernel
theorem dX1_cover_64 : decode cX1_cover 64 = .ok (.iload_n 1, 1) := by decide +kernel
theorem dX1_cover_65 : decode cX1_cover 65 = .ok (.iaload, 1) := by decide +kernel
theorem dX1_cover_66 : decode cX1_cover 66 = .ok (.iastore, 1) := by decide +kernel
theorem dX1_cover_67 : decode cX1_cover 67 = .ok (.return_, 1) := by decide +kernel
theorem dX1_widthOf_0 : decode cX1_widthOf 0 = .ok (.iload_n 1, 1) := by decide +kernel
theorem dX1_widthOf_1 : decode cX1_widthOf 1 = .ok (.iconst (-1), 1) := by decide +kernel
theorem dX1_widthOf_2 : decode cX1_widthOf 2 = .ok (.if_icmp .ne 7, 3) := by decide +kernel
theorem dX1_widthOf_5 : decode cX1_widthOf 5 = .ok (.iconst 0, 1) := by decide +kernel
theorem dX1_widthOf_6 : decode cX1_widthOf 6 = .ok (.goto 9, 3) := by decide +kernel
theorem dX1_widthOf_9 : decode cX1_widthOf 9 = .ok (.aload_n 0, 1) := by decide +kernel
theorem dX1_widthOf_10 : decode cX1_widthOf 10 = .ok (.getfield 9, 3) := by decide +kernel
theorem dX1_widthOf_13 : decode cX1_widthOf 13 = .ok (.iload_n 1, 1) := by decide +kernel
theorem dX1_widthOf_14 : decode cX1_widthOf 14 = .ok (.iaload, 1) := by decide +kernel
theorem dX1_widthOf_15 : decode cX1_widthOf 15 = .ok (.ireturn, 1) := by decide +kernel
theorem dX1_heightOf_0 : decode cX1_heightOf 0 = .ok (.iload_n 1, 1) := by decide +kernel
theorem dX1_heightOf_1 : decode cX1_heightOf 1 = .ok (.iconst (-1), 1) := by decide +kernel
theorem dX1_heightOf_2 : decode cX1_heightOf 2 = .ok (.if_icmp .ne 7, 3) := by decide +kernel
theorem dX1_heightOf_5 : decode cX1_heightOf 5 = .ok (.iconst 0, 1) := by decide +kernel
theorem dX1_heightOf_6 : decode cX1_heightOf 6 = .ok (.goto 9, 3) := by decide +kernel
theorem dX1_heightOf_9 : decode cX1_heightOf 9 = .ok (.aload_n 0, 1) := by decide +kernel
theorem dX1_heightOf_10 : decode cX1_heightOf 10 = .ok (.getfield 15, 3) := by decide +kernel
theorem dX1_heightOf_13 : decode cX1_heightOf 13 = .ok (.iload_n 1, 1) := by decide +kernel
theorem dX1_heightOf_14 : decode cX1_heightOf 14 = .ok (.iaload, 1) := by decide +kernel
theorem dX1_heightOf_15 : decode cX1_heightOf 15 = .ok (.ireturn, 1) := by decide +kernel
theorem dX1_depthOf_0 : decode cX1_depthOf 0 = .ok (.iload_n 1, 1) := by decide +kernel
theorem dX1_depthOf_1 : decode cX1_depthOf 1 = .ok (.iconst (-1), 1) := by decide +kernel
theorem dX1_depthOf_2 : decode cX1_depthOf 2 = .ok (.if_icmp .ne 7, 3) := by decide +kernel
theorem dX1_depthOf_5 : decode cX1_depthOf 5 = .ok (.iconst 0, 1) := by decide +kernel
theorem dX1_depthOf_6 : decode cX1_depthOf 6 = .ok (.goto 9, 3) := by decide +kernel
theorem dX1_depthOf_9 : decode cX1_depthOf 9 = .ok (.aload_n 0, 1) := by decide +kernel
theorem dX1_depthOf_10 : decode cX1_depthOf 10 = .ok (.getfield 18, 3) := by decide +kernel
theorem dX1_depthOf_13 : decode cX1_depthOf 13 = .ok (.iload_n 1, 1) := by decide +kernel
theorem dX1_depthOf_14 : decode cX1_depthOf 14 = .ok (.iaload, 1) := by decide +kernel
theorem dX1_depthOf_15 : decode cX1_depthOf 15 = .ok (.ireturn, 1) := by decide +kernel
theorem dX2_init_0 : decode cX2_init 0 = .ok (.aload_n 0, 1) := by decide +kernel
theorem dX2_init_1 : decode cX2_init 1 = .ok (.invokespecial 3, 3) := by decide +kernel
theorem dX2_init_4 : decode cX2_init 4 = .ok (.aload_n 0, 1) := by decide +kernel
theorem dX2_init_5 : decode cX2_init 5 = .ok (.iconst 0, 1) := by decide +kernel
theorem dX2_init_6 : decode cX2_init 6 = .ok (.putfield 9, 3) := by decide +kernel
theorem dX2_init_9 : decode cX2_init 9 = .ok (.aload_n 0, 1) := by decide +kernel
theorem dX2_init_10 : decode cX2_init 10 = .ok (.sipush 1200, 3) := by decide +kernel
theorem dX2_init_13 : decode cX2_init 13 = .ok (.newarray .int, 2) := by decide +kernel
theorem dX2_init_15 : decode cX2_init 15 = .ok (.putfield 15, 3) := by decide +kernel
theorem dX2_init_18 : decode cX2_init 18 = .ok (.return_, 1) := by decide +kernel
theorem dX2_has_0 : decode cX2_has 0 = .ok (.iload_n 1, 1) := by decide +kernel
theorem dX2_has_1 : decode cX2_has 1 = .ok (.ifCond .lt 15, 3) := by decide +kernel
theorem dX2_has_4 : decode cX2_has 4 = .ok (.iload_n 1, 1) := by decide +kernel
theorem dX2_has_5 : decode cX2_has 5 = .ok (.aload_n 0, 1) := by decide +kernel
theorem dX2_has_6 : decode cX2_has 6 = .ok (.getfield 9, 3) := by decide +kernel
theorem dX2_has_9 : decode cX2_has 9 = .ok (.if_icmp .ge 7, 3) := by decide +kernel
theorem dX2_has_12 : decode cX2_has 12 = .ok (.iconst 1, 1) := by decide +kernel
theorem dX2_has_13 : decode cX2_has 13 = .ok (.goto 4, 3) := by decide +kernel
theorem dX2_has_16 : decode cX2_has 16 = .ok (.iconst 0, 1) := by decide +kernel
theorem dX2_has_17 : decode cX2_has 17 = .ok (.ireturn, 1) := by decide +kernel
theorem dX2_part_0 : decode cX2_part 0 = .ok (.aload_n 0, 1) := by decide +kernel
theorem dX2_part_1 : decode cX2_part 1 = .ok (.iload_n 1, 1) := by decide +kernel
theorem dX2_part_2 : decode cX2_part 2 = .ok (.invokevirtual 19, 3) := by decide +kernel
theorem dX2_part_5 : decode cX2_part 5 = .ok (.ifCond .eq 17, 3) := by decide +kernel
theorem dX2_part_8 : decode cX2_part 8 = .ok (.aload_n 0, 1) := by decide +kernel
theorem dX2_part_9 : decode cX2_part 9 = .ok (.getfield 15, 3) := by decide +kernel
theorem dX2_part_12 : decode cX2_part 12 = .ok (.iload_n 1, 1) := by decide +kernel
theorem dX2_part_13 : decode cX2_part 13 = .ok (.bipush 8, 2) := by decide +kernel
theorem dX2_part_15 : decode cX2_part 15 = .ok (.imul, 1) := by decide +kernel
theorem dX2_part_16 : decode cX2_part 16 = .ok (.iload_n 2, 1) := by decide +kernel
theorem dX2_part_17 : decode cX2_part 17 = .ok (.iadd, 1) := by decide +kernel
theorem dX2_part_18 : decode cX2_part 18 = .ok (.iaload, 1) := by decide +kernel
theorem dX2_part_19 : decode cX2_part 19 = .ok (.goto 4, 3) := by decide +kernel
theorem dX2_part_22 : decode cX2_part 22 = .ok (.iconst 0, 1) := by decide +kernel
theorem dX2_part_23 : decode cX2_part 23 = .ok (.ireturn, 1) := by decide +kernel
theorem dX2_add_0 : decode cX2_add 0 = .ok (.aload_n 0, 1) := by decide +kernel
theorem dX2_add_1 : decode cX2_add 1 = .ok (.getfield 9, 3) := by decide +kernel
theorem dX2_add_4 : decode cX2_add 4 = .ok (.sipush 150, 3) := by decide +kernel
theorem dX2_add_7 : decode cX2_add 7 = .ok (.if_icmp .lt 5, 3) := by decide +kernel
theorem dX2_add_10 : decode cX2_add 10 = .ok (.iconst (-1), 1) := by decide +kernel
theorem dX2_add_11 : decode cX2_add 11 = .ok (.ireturn, 1) := by decide +kernel
theorem dX2_add_12 : decode cX2_add 12 = .ok (.aload_n 0, 1) := by decide +kernel
theorem dX2_add_13 : decode cX2_add 13 = .ok (.getfield 9, 3) := by decide +kernel
theorem dX2_add_16 : decode cX2_add 16 = .ok (.istore 4, 2) := by decide +kernel
theorem dX2_add_18 : decode cX2_add 18 = .ok (.iload 4, 2) := by decide +kernel
theorem dX2_add_20 : decode cX2_add 20 = .ok (.bipush 8, 2) := by decide +kernel
theorem dX2_add_22 : decode cX2_add 22 = .ok (.imul, 1) := by decide +kernel
theorem dX2_add_23 : decode cX2_add 23 = .ok (.istore 5, 2) := by decide +kernel
theorem dX2_add_25 : decode cX2_add 25 = .ok (.aload_n 0, 1) := by decide +kernel
theorem dX2_add_26 : decode cX2_add 26 = .ok (.getfield 15, 3) := by decide +kernel
theorem dX2_add_29 : decode cX2_add 29 = .ok (.iload 5, 2) := by decide +kernel
theorem dX2_add_31 : decode cX2_add 31 = .ok (.iload_n 1, 1) := by decide +kernel
theorem dX2_add_32 : decode cX2_add 32 = .ok (.iastore, 1) := by decide +kernel
theorem dX2_add_33 : decode cX2_add 33 = .ok (.aload_n 0, 1) := by decide +kernel
theorem dX2_add_34 : decode cX2_add 34 = .ok (.getfield 15, 3) := by decide +kernel
theorem dX2_add_37 : decode cX2_add 37 = .ok (.iload 5, 2) := by decide +kernel
theorem dX2_add_39 : decode cX2_add 39 = .ok (.iconst 1, 1) := by decide +kernel
theorem dX2_add_40 : decode cX2_add 40 = .ok (.iadd, 1) := by decide +kernel
theorem dX2_add_41 : decode cX2_add 41 = .ok (.iconst 0, 1) := by decide +kernel
theorem dX2_add_42 : decode cX2_add 42 = .ok (.iastore, 1) := by decide +kernel
theorem dX2_add_43 : decode cX2_add 43 = .ok (.aload_n 0, 1) := by decide +kernel
theorem dX2_add_44 : decode cX2_add 44 = .ok (.getfield 15, 3) := by decide +kernel
theorem dX2_add_47 : decode cX2_add 47 = .ok (.iload 5, 2) := by decide +kernel
theorem dX2_add_49 : decode cX2_add 49 = .ok (.iconst 2, 1) := by decide +kernel
theorem dX2_add_50 : decode cX2_add 50 = .ok (.iadd, 1) := by decide +kernel
theorem dX2_add_51 : decode cX2_add 51 = .ok (.iconst 0, 1) := by decide +kernel
theorem dX2_add_52 : decode cX2_add 52 = .ok (.iastore, 1) := by decide +kernel
theorem dX2_add_53 : decode cX2_add 53 = .ok (.aload_n 0, 1) := by decide +kernel
theorem dX2_add_54 : decode cX2_add 54 = .ok (.getfield 15, 3) := by decide +kernel
theorem dX2_add_57 : decode cX2_add 57 = .ok (.iload 5, 2) := by decide +kernel
theorem dX2_add_59 : decode cX2_add 59 = .ok (.iconst 5, 1) := by decide +kernel
theorem dX2_add_60 : decode cX2_add 60 = .ok (.iadd, 1) := by decide +kernel
theorem dX2_add_61 : decode cX2_add 61 = .ok (.iload_n 3, 1) := by decide +kernel
theorem dX2_add_62 : decode cX2_add 62 = .ok (.iastore, 1) := by decide +kernel
theorem dX2_add_63 : decode cX2_add 63 = .ok (.aload_n 0, 1) := by decide +kernel
theorem dX2_add_64 : decode cX2_add 64 = .ok (.getfield 15, 3) := by decide +kernel
theorem dX2_add_67 : decode cX2_add 67 = .ok (.iload 5, 2) := by decide +kernel
theorem dX2_add_69 : decode cX2_add 69 = .ok (.bipush 6, 2) := by decide +kernel
theorem dX2_add_71 : decode cX2_add 71 = .ok (.iadd, 1) := by decide +kernel
theorem dX2_add_72 : decode cX2_add 72 = .ok (.iload_n 2, 1) := by decide +kernel
theorem dX2_add_73 : decode cX2_add 73 = .ok (.iastore, 1) := by decide +kernel
theorem dX2_add_74 : decode cX2_add 74 = .ok (.aload_n 0, 1) := by decide +kernel
theorem dX2_add_75 : decode cX2_add 75 = .ok (.getfield 15, 3) := by decide +kernel
theorem dX2_add_78 : decode cX2_add 78 = .ok (.iload 5, 2) := by decide +kernel
theorem dX2_add_80 : decode cX2_add 80 = .ok (.bipush 7, 2) := by decide +kernel
theorem dX2_add_82 : decode cX2_add 82 = .ok (.iadd, 1) := by decide +kernel
theorem dX2_add_83 : decode cX2_add 83 = .ok (.iconst 0, 1) := by decide +kernel
theorem dX2_add_84 : decode cX2_add 84 = .ok (.iastore, 1) := by decide +kernel
theorem dX2_add_85 : decode cX2_add 85 = .ok (.aload_n 0, 1) := by decide +kernel
theorem dX2_add_86 : decode cX2_add 86 = .ok (.dup, 1) := by decide +kernel
theorem dX2_add_87 : decode cX2_add 87 = .ok (.getfield 9, 3) := by decide +kernel
theorem dX2_add_90 : decode cX2_add 90 = .ok (.iconst 1, 1) := by decide +kernel
theorem dX2_add_91 : decode cX2_add 91 = .ok (.iadd, 1) := by decide +kernel
theorem dX2_add_92 : decode cX2_add 92 = .ok (.putfield 9, 3) := by decide +kernel
theorem dX2_add_95 : decode cX2_add 95 = .ok (.iload 4, 2) := by decide +kernel
theorem dX2_add_97 : decode cX2_add 97 = .ok (.ireturn, 1) := by decide +kernel
theorem dX2_measure_0 : decode cX2_measure 0 = .ok (.aload_n 0, 1) := by decide +kernel
theorem dX2_measure_1 : decode cX2_measure 1 = .ok (.iload_n 1, 1) := by decide +kernel
theorem dX2_measure_2 : decode cX2_measure 2 = .ok (.invokevirtual 19, 3) := by decide +kernel
theorem dX2_measure_5 : decode cX2_measure 5 = .ok (.ifCond .eq 27, 3) := by decide +kernel
theorem dX2_measure_8 : decode cX2_measure 8 = .ok (.aload_n 0, 1) := by decide +kernel
theorem dX2_measure_9 : decode cX2_measure 9 = .ok (.getfield 15, 3) := by decide +kernel
theorem dX2_measure_12 : decode cX2_measure 12 = .ok (.iload_n 1, 1) := by decide +kernel
theorem dX2_measure_13 : decode cX2_measure 13 = .ok (.bipush 8, 2) := by decide +kernel
theorem dX2_measure_15 : decode cX2_measure 15 = .ok (.imul, 1) := by decide +kernel
theorem dX2_measure_16 : decode cX2_measure 16 = .ok (.iconst 3, 1) := by decide +kernel
theorem dX2_measure_17 : decode cX2_measure 17 = .ok (.iadd, 1) := by decide +kernel
theorem dX2_measure_18 : decode cX2_measure 18 = .ok (.iload_n 2, 1) := by decide +kernel
theorem dX2_measure_19 : decode cX2_measure 19 = .ok (.iastore, 1) := by decide +kernel
theorem dX2_measure_20 : decode cX2_measure 20 = .ok (.aload_n 0, 1) := by decide +kernel
theorem dX2_measure_21 : decode cX2_measure 21 = .ok (.getfield 15, 3) := by decide +kernel
theorem dX2_measure_24 : decode cX2_measure 24 = .ok (.iload_n 1, 1) := by decide +kernel
theorem dX2_measure_25 : decode cX2_measure 25 = .ok (.bipush 8, 2) := by decide +kernel
theorem dX2_measure_27 : decode cX2_measure 27 = .ok (.imul, 1) := by decide +kernel
theorem dX2_measure_28 : decode cX2_measure 28 = .ok (.iconst 4, 1) := by decide +kernel
theorem dX2_measure_29 : decode cX2_measure 29 = .ok (.iadd, 1) := by decide +kernel
theorem dX2_measure_30 : decode cX2_measure 30 = .ok (.iload_n 3, 1) := by decide +kernel
theorem dX2_measure_31 : decode cX2_measure 31 = .ok (.iastore, 1) := by decide +kernel
theorem dX2_measure_32 : decode cX2_measure 32 = .ok (.return_, 1) := by decide +kernel
theorem dX2_markShort_0 : decode cX2_markShort 0 = .ok (.aload_n 0, 1) := by decide +kernel
theorem dX2_markShort_1 : decode cX2_markShort 1 = .ok (.iload_n 1, 1) := by decide +kernel
theorem dX2_markShort_2 : decode cX2_markShort 2 = .ok (.invokevirtual 19, 3) := by decide +kernel
theorem dX2_markShort_5 : decode cX2_markShort 5 = .ok (.ifCond .eq 16, 3) := by decide +kernel
theorem dX2_markShort_8 : decode cX2_markShort 8 = .ok (.aload_n 0, 1) := by decide +kernel
theorem dX2_markShort_9 : decode cX2_markShort 9 = .ok (.getfield 15, 3) := by decide +kernel
theorem dX2_markShort_12 : decode cX2_markShort 12 = .ok (.iload_n 1, 1) := by decide +kernel
theorem dX2_markShort_13 : decode cX2_markShort 13 = .ok (.bipush 8, 2) := by decide +kernel
theorem dX2_markShort_15 : decode cX2_markShort 15 = .ok (.imul, 1) := by decide +kernel
theorem dX2_markShort_16 : decode cX2_markShort 16 = .ok (.bipush 7, 2) := by decide +kernel
theorem dX2_markShort_18 : decode cX2_markShort 18 = .ok (.iadd, 1) := by decide +kernel
theorem dX2_markShort_19 : decode cX2_markShort 19 = .ok (.iconst 1, 1) := by decide +kernel
theorem dX2_markShort_20 : decode cX2_markShort 20 = .ok (.iastore, 1) := by decide +kernel
theorem dX2_markShort_21 : decode cX2_markShort 21 = .ok (.return_, 1) := by decide +kernel
theorem dX2_shift_0 : decode cX2_shift 0 = .ok (.iload_n 1, 1) := by decide +kernel
theorem dX2_shift_1 : decode cX2_shift 1 = .ok (.iconst 0, 1) := by decide +kernel
theorem dX2_shift_2 : decode cX2_shift 2 = .ok (.invokestatic 23, 3) := by decide +kernel
theorem dX2_shift_5 : decode cX2_shift 5 = .ok (.istore 5, 2) := by decide +kernel
theorem dX2_shift_7 : decode cX2_shift 7 = .ok (.iload 5, 2) := by decide +kernel
theorem dX2_shift_9 : decode cX2_shift 9 = .ok (.iload_n 2, 1) := by decide +kernel
theorem dX2_shift_10 : decode cX2_shift 10 = .ok (.aload_n 0, 1) := by decide +kernel
theorem dX2_shift_11 : decode cX2_shift 11 = .ok (.getfield 9, 3) := by decide +kernel
theorem dX2_shift_14 : decode cX2_shift 14 = .ok (.invokestatic 29, 3) := by decide +kernel
theorem dX2_shift_17 : decode cX2_shift 17 = .ok (.if_icmp .ge 42, 3) := by decide +kernel
theorem dX2_shift_20 : decode cX2_shift 20 = .ok (.aload_n 0, 1) := by decide +kernel
theorem dX2_shift_21 : decode cX2_shift 21 = .ok (.getfield 15, 3) := by decide +kernel
theorem dX2_shift_24 : decode cX2_shift 24 = .ok (.iload 5, 2) := by decide +kernel
theorem dX2_shift_26 : decode cX2_shift 26 = .ok (.bipush 8, 2) := by decide +kernel
theorem dX2_shift_28 : decode cX2_shift 28 = .ok (.imul, 1) := by decide +kernel
theorem dX2_shift_29 : decode cX2_shift 29 = .ok (.iconst 1, 1) := by decide +kernel
theorem dX2_shift_30 : decode cX2_shift 30 = .ok (.iadd, 1) := by decide +kernel
theorem dX2_shift_31 : decode cX2_shift 31 = .ok (.dup2, 1) := by decide +kernel
theorem dX2_shift_32 : decode cX2_shift 32 = .ok (.iaload, 1) := by decide +kernel
theorem dX2_shift_33 : decode cX2_shift 33 = .ok (.iload_n 3, 1) := by decide +kernel
theorem dX2_shift_34 : decode cX2_shift 34 = .ok (.iadd, 1) := by decide +kernel
theorem dX2_shift_35 : decode cX2_shift 35 = .ok (.iastore, 1) := by decide +kernel
theorem dX2_shift_36 : decode cX2_shift 36 = .ok (.aload_n 0, 1) := by decide +kernel
theorem dX2_shift_37 : decode cX2_shift 37 = .ok (.getfield 15, 3) := by decide +kernel
theorem dX2_shift_40 : decode cX2_shift 40 = .ok (.iload 5, 2) := by decide +kernel
theorem dX2_shift_42 : decode cX2_shift 42 = .ok (.bipush 8, 2) := by decide +kernel
theorem dX2_shift_44 : decode cX2_shift 44 = .ok (.imul, 1) := by decide +kernel
theorem dX2_shift_45 : decode cX2_shift 45 = .ok (.iconst 2, 1) := by decide +kernel
theorem dX2_shift_46 : decode cX2_shift 46 = .ok (.iadd, 1) := by decide +kernel
theorem dX2_shift_47 : decode cX2_shift 47 = .ok (.dup2, 1) := by decide +kernel
theorem dX2_shift_48 : decode cX2_shift 48 = .ok (.iaload, 1) := by decide +kernel
theorem dX2_shift_49 : decode cX2_shift 49 = .ok (.iload 4, 2) := by decide +kernel
theorem dX2_shift_51 : decode cX2_shift 51 = .ok (.iadd, 1) := by decide +kernel
theorem dX2_shift_52 : decode cX2_shift 52 = .ok (.iastore, 1) := by decide +kernel
theorem dX2_shift_53 : decode cX2_shift 53 = .ok (.iinc 5 1, 3) := by decide +kernel
theorem dX2_shift_56 : decode cX2_shift 56 = .ok (.goto (-49), 3) := by decide +kernel
theorem dX2_shift_59 : decode cX2_shift 59 = .ok (.return_, 1) := by decide +kernel
theorem dX3_init_0 : decode cX3_init 0 = .ok (.aload_n 0, 1) := by decide +kernel
theorem dX3_init_1 : decode cX3_init 1 = .ok (.invokespecial 3, 3) := by decide +kernel
theorem dX3_init_4 : decode cX3_init 4 = .ok (.aload_n 0, 1) := by decide +kernel
theorem dX3_init_5 : decode cX3_init 5 = .ok (.new 9, 3) := by decide +kernel
theorem dX3_init_8 : decode cX3_init 8 = .ok (.dup, 1) := by decide +kernel
theorem dX3_init_9 : decode cX3_init 9 = .ok (.invokespecial 11, 3) := by decide +kernel
theorem dX3_init_12 : decode cX3_init 12 = .ok (.putfield 12, 3) := by decide +kernel
theorem dX3_init_15 : decode cX3_init 15 = .ok (.aload_n 0, 1) := by decide +kernel
theorem dX3_init_16 : decode cX3_init 16 = .ok (.new 18, 3) := by decide +kernel
theorem dX3_init_19 : decode cX3_init 19 = .ok (.dup, 1) := by decide +kernel
theorem dX3_init_20 : decode cX3_init 20 = .ok (.invokespecial 20, 3) := by decide +kernel
theorem dX3_init_23 : decode cX3_init 23 = .ok (.putfield 21, 3) := by decide +kernel
theorem dX3_init_26 : decode cX3_init 26 = .ok (.aload_n 0, 1) := by decide +kernel
theorem dX3_init_27 : decode cX3_init 27 = .ok (.iconst 0, 1) := by decide +kernel
theorem dX3_init_28 : decode cX3_init 28 = .ok (.putfield 25, 3) := by decide +kernel
theorem dX3_init_31 : decode cX3_init 31 = .ok (.aload_n 0, 1) := by decide +kernel
theorem dX3_init_32 : decode cX3_init 32 = .ok (.iconst 0, 1) := by decide +kernel
theorem dX3_init_33 : decode cX3_init 33 = .ok (.putfield 29, 3) := by decide +kernel
theorem dX3_init_36 : decode cX3_init 36 = .ok (.aload_n 0, 1) := by decide +kernel
theorem dX3_init_37 : decode cX3_init 37 = .ok (.iconst 0, 1) := by decide +kernel
theorem dX3_init_38 : decode cX3_init 38 = .ok (.putfield 32, 3) := by decide +kernel
theorem dX3_init_41 : decode cX3_init 41 = .ok (.aload_n 0, 1) := by decide +kernel
theorem dX3_init_42 : decode cX3_init 42 = .ok (.aload_n 1, 1) := by decide +kernel
theorem dX3_init_43 : decode cX3_init 43 = .ok (.putfield 35, 3) := by decide +kernel
theorem dX3_init_46 : decode cX3_init 46 = .ok (.return_, 1) := by decide +kernel
theorem dX3_layOut_0 : decode cX3_layOut 0 = .ok (.aload_n 0, 1) := by decide +kernel
theorem dX3_layOut_1 : decode cX3_layOut 1 = .ok (.getfield 21, 3) := by decide +kernel
theorem dX3_layOut_4 : decode cX3_layOut 4 = .ok (.iconst 0, 1) := by decide +kernel
theorem dX3_layOut_5 : decode cX3_layOut 5 = .ok (.putfield 39, 3) := by decide +kernel
theorem dX3_layOut_8 : decode cX3_layOut 8 = .ok (.aload_n 0, 1) := by decide +kernel
theorem dX3_layOut_9 : decode cX3_layOut 9 = .ok (.iload_n 1, 1) := by decide +kernel
theorem dX3_layOut_10 : decode cX3_layOut 10 = .ok (.iconst 0, 1) := by decide +kernel
theorem dX3_layOut_11 : decode cX3_layOut 11 = .ok (.iconst 0, 1) := by decide +kernel
theorem dX3_layOut_12 : decode cX3_layOut 12 = .ok (.iconst 0, 1) := by decide +kernel
theorem dX3_layOut_13 : decode cX3_layOut 13 = .ok (.invokevirtual 42, 3) := by decide +kernel
theorem dX3_layOut_16 : decode cX3_layOut 16 = .ok (.aload_n 0, 1) := by decide +kernel
theorem dX3_layOut_17 : decode cX3_layOut 17 = .ok (.aload_n 0, 1) := by decide +kernel
theorem dX3_layOut_18 : decode cX3_layOut 18 = .ok (.getfield 12, 3) := by decide +kernel
theorem dX3_layOut_21 : decode cX3_layOut 21 = .ok (.getfield 46, 3) := by decide +kernel
theorem dX3_layOut_24 : decode cX3_layOut 24 = .ok (.iload_n 1, 1) := by decide +kernel
theorem dX3_layOut_25 : decode cX3_layOut 25 = .ok (.iaload, 1) := by decide +kernel
theorem dX3_layOut_26 : decode cX3_layOut 26 = .ok (.putfield 25, 3) := by decide +kernel
theorem dX3_layOut_29 : decode cX3_layOut 29 = .ok (.aload_n 0, 1) := by decide +kernel
theorem dX3_layOut_30 : decode cX3_layOut 30 = .ok (.aload_n 0, 1) := by decide +kernel
theorem dX3_layOut_31 : decode cX3_layOut 31 = .ok (.getfield 12, 3) := by decide +kernel
theorem dX3_layOut_34 : decode cX3_layOut 34 = .ok (.getfield 49, 3) := by decide +kernel
theorem dX3_layOut_37 : decode cX3_layOut 37 = .ok (.iload_n 1, 1) := by decide +kernel
theorem dX3_layOut_38 : decode cX3_layOut 38 = .ok (.iaload, 1) := by decide +kernel
theorem dX3_layOut_39 : decode cX3_layOut 39 = .ok (.putfield 29, 3) := by decide +kernel
theorem dX3_layOut_42 : decode cX3_layOut 42 = .ok (.aload_n 0, 1) := by decide +kernel
theorem dX3_layOut_43 : decode cX3_layOut 43 = .ok (.aload_n 0, 1) := by decide +kernel
theorem dX3_layOut_44 : decode cX3_layOut 44 = .ok (.getfield 12, 3) := by decide +kernel
theorem dX3_layOut_47 : decode cX3_layOut 47 = .ok (.getfield 51, 3) := by decide +kernel
theorem dX3_layOut_50 : decode cX3_layOut 50 = .ok (.iload_n 1, 1) := by decide +kernel
theorem dX3_layOut_51 : decode cX3_layOut 51 = .ok (.iaload, 1) := by decide +kernel
theorem dX3_layOut_52 : decode cX3_layOut 52 = .ok (.putfield 32, 3) := by decide +kernel
theorem dX3_layOut_55 : decode cX3_layOut 55 = .ok (.return_, 1) := by decide +kernel
theorem dX3_layList_0 : decode cX3_layList 0 = .ok (.aload_n 0, 1) := by decide +kernel
theorem dX3_layList_1 : decode cX3_layList 1 = .ok (.getfield 12, 3) := by decide +kernel
theorem dX3_layList_4 : decode cX3_layList 4 = .ok (.iload_n 1, 1) := by decide +kernel
theorem dX3_layList_5 : decode cX3_layList 5 = .ok (.aload_n 0, 1) := by decide +kernel
theorem dX3_layList_6 : decode cX3_layList 6 = .ok (.getfield 21, 3) := by decide +kernel
theorem dX3_layList_9 : decode cX3_layList 9 = .ok (.getfield 39, 3) := by decide +kernel
theorem dX3_layList_12 : decode cX3_layList 12 = .ok (.invokevirtual 53, 3) := by decide +kernel
theorem dX3_layList_15 : decode cX3_layList 15 = .ok (.iload 4, 2) := by decide +kernel
theorem dX3_layList_17 : decode cX3_layList 17 = .ok (.bipush 30, 2) := by decide +kernel
theorem dX3_layList_19 : decode cX3_layList 19 = .ok (.if_icmp .lt 4, 3) := by decide +kernel
theorem dX3_layList_22 : decode cX3_layList 22 = .ok (.return_, 1) := by decide +kernel
theorem dX3_layList_23 : decode cX3_layList 23 = .ok (.iload_n 2, 1) := by decide +kernel
theorem dX3_layList_24 : decode cX3_layList 24 = .ok (.istore 5, 2) := by decide +kernel
theorem dX3_layList_26 : decode cX3_layList 26 = .ok (.iload_n 3, 1) := by decide +kernel
theorem dX3_layList_27 : decode cX3_layList 27 = .ok (.istore 6, 2) := by decide +kernel
theorem dX3_layList_29 : decode cX3_layList 29 = .ok (.iconst (-1), 1) := by decide +kernel
theorem dX3_layList_30 : decode cX3_layList 30 = .ok (.istore 7, 2) := by decide +kernel
theorem dX3_layList_32 : decode cX3_layList 32 = .ok (.iconst 0, 1) := by decide +kernel
theorem dX3_layList_33 : decode cX3_layList 33 = .ok (.istore 8, 2) := by decide +kernel
theorem dX3_layList_35 : decode cX3_layList 35 = .ok (.iload 8, 2) := by decide +kernel
theorem dX3_layList_37 : decode cX3_layList 37 = .ok (.aload_n 0, 1) := by decide +kernel
theorem dX3_layList_38 : decode cX3_layList 38 = .ok (.getfield 35, 3) := by decide +kernel
theorem dX3_layList_41 : decode cX3_layList 41 = .ok (.getfield 57, 3) := by decide +kernel
theorem dX3_layList_44 : decode cX3_layList 44 = .ok (.if_icmp .ge 127, 3) := by decide +kernel
theorem dX3_layList_47 : decode cX3_layList 47 = .ok (.aload_n 0, 1) := by decide +kernel
theorem dX3_layList_48 : decode cX3_layList 48 = .ok (.getfield 35, 3) := by decide +kernel
theorem dX3_layList_51 : decode cX3_layList 51 = .ok (.getfield 62, 3) := by decide +kernel
theorem dX3_layList_54 : decode cX3_layList 54 = .ok (.iload 8, 2) := by decide +kernel
theorem dX3_layList_56 : decode cX3_layList 56 = .ok (.iaload, 1) := by decide +kernel
theorem dX3_layList_57 : decode cX3_layList 57 = .ok (.iload_n 1, 1) := by decide +kernel
theorem dX3_layList_58 : decode cX3_layList 58 = .ok (.if_icmp .eq 6, 3) := by decide +kernel
theorem dX3_layList_61 : decode cX3_layList 61 = .ok (.goto 104, 3) := by decide +kernel
theorem dX3_layList_64 : decode cX3_layList 64 = .ok (.aload_n 0, 1) := by decide +kernel
theorem dX3_layList_65 : decode cX3_layList 65 = .ok (.getfield 35, 3) := by decide +kernel
theorem dX3_layList_68 : decode cX3_layList 68 = .ok (.getfield 65, 3) := by decide +kernel
theorem dX3_layList_71 : decode cX3_layList 71 = .ok (.iload 8, 2) := by decide +kernel
theorem dX3_layList_73 : decode cX3_layList 73 = .ok (.iaload, 1) := by decide +kernel
theorem dX3_layList_74 : decode cX3_layList 74 = .ok (.iconst 4, 1) := by decide +kernel
theorem dX3_layList_75 : decode cX3_layList 75 = .ok (.if_icmp .ne 39, 3) := by decide +kernel
theorem dX3_layList_78 : decode cX3_layList 78 = .ok (.aload_n 0, 1) := by decide +kernel
theorem dX3_layList_79 : decode cX3_layList 79 = .ok (.getfield 35, 3) := by decide +kernel
theorem dX3_layList_82 : decode cX3_layList 82 = .ok (.getfield 68, 3) := by decide +kernel
theorem dX3_layList_85 : decode cX3_layList 85 = .ok (.iload 8, 2) := by decide +kernel
theorem dX3_layList_87 : decode cX3_layList 87 = .ok (.iaload, 1) := by decide +kernel
theorem dX3_layList_88 : decode cX3_layList 88 = .ok (.istore 5, 2) := by decide +kernel
theorem dX3_layList_90 : decode cX3_layList 90 = .ok (.aload_n 0, 1) := by decide +kernel
theorem dX3_layList_91 : decode cX3_layList 91 = .ok (.getfield 35, 3) := by decide +kernel
theorem dX3_layList_94 : decode cX3_layList 94 = .ok (.getfield 71, 3) := by decide +kernel
theorem dX3_layList_97 : decode cX3_layList 97 = .ok (.iload 8, 2) := by decide +kernel
theorem dX3_layList_99 : decode cX3_layList 99 = .ok (.iaload, 1) := by decide +kernel
theorem dX3_layList_100 : decode cX3_layList 100 = .ok (.iconst 1, 1) := by decide +kernel
theorem dX3_layList_101 : decode cX3_layList 101 = .ok (.if_icmp .ne 7, 3) := by decide +kernel
theorem dX3_layList_104 : decode cX3_layList 104 = .ok (.iconst 1, 1) := by decide +kernel
theorem dX3_layList_105 : decode cX3_layList 105 = .ok (.goto 4, 3) := by decide +kernel
theorem dX3_layList_108 : decode cX3_layList 108 = .ok (.iconst 0, 1) := by decide +kernel
theorem dX3_layList_109 : decode cX3_layList 109 = .ok (.istore 6, 2) := by decide +kernel
theorem dX3_layList_111 : decode cX3_layList 111 = .ok (.goto 54, 3) := by decide +kernel
theorem dX3_layList_114 : decode cX3_layList 114 = .ok (.aload_n 0, 1) := by decide +kernel
theorem dX3_layList_115 : decode cX3_layList 115 = .ok (.iload 8, 2) := by decide +kernel
theorem dX3_layList_117 : decode cX3_layList 117 = .ok (.iload 5, 2) := by decide +kernel
theorem dX3_layList_119 : decode cX3_layList 119 = .ok (.iload 6, 2) := by decide +kernel
theorem dX3_layList_121 : decode cX3_layList 121 = .ok (.iload 4, 2) := by decide +kernel
theorem dX3_layList_123 : decode cX3_layList 123 = .ok (.invokevirtual 74, 3) := by decide +kernel
theorem dX3_layList_126 : decode cX3_layList 126 = .ok (.aload_n 0, 1) := by decide +kernel
theorem dX3_layList_127 : decode cX3_layList 127 = .ok (.getfield 35, 3) := by decide +kernel
theorem dX3_layList_130 : decode cX3_layList 130 = .ok (.iload 8, 2) := by decide +kernel
theorem dX3_layList_132 : decode cX3_layList 132 = .ok (.iload 7, 2) := by decide +kernel
theorem dX3_layList_134 : decode cX3_layList 134 = .ok (.invokevirtual 77, 3) := by decide +kernel
theorem dX3_layList_137 : decode cX3_layList 137 = .ok (.istore 9, 2) := by decide +kernel
theorem dX3_layList_139 : decode cX3_layList 139 = .ok (.aload_n 0, 1) := by decide +kernel
theorem dX3_layList_140 : decode cX3_layList 140 = .ok (.iload_n 1, 1) := by decide +kernel
theorem dX3_layList_141 : decode cX3_layList 141 = .ok (.iload 8, 2) := by decide +kernel
theorem dX3_layList_143 : decode cX3_layList 143 = .ok (.iload 7, 2) := by decide +kernel
theorem dX3_layList_145 : decode cX3_layList 145 = .ok (.iload 9, 2) := by decide +kernel
theorem dX3_layList_147 : decode cX3_layList 147 = .ok (.iload 5, 2) := by decide +kernel
theorem dX3_layList_149 : decode cX3_layList 149 = .ok (.invokestatic 81, 3) := by decide +kernel
theorem dX3_layList_152 : decode cX3_layList 152 = .ok (.iload 5, 2) := by decide +kernel
theorem dX3_layList_154 : decode cX3_layList 154 = .ok (.invokestatic 85, 3) := by decide +kernel
theorem dX3_layList_157 : decode cX3_layList 157 = .ok (.imul, 1) := by decide +kernel
theorem dX3_layList_158 : decode cX3_layList 158 = .ok (.invokevirtual 89, 3) := by decide +kernel
theorem dX3_layList_161 : decode cX3_layList 161 = .ok (.iload 9, 2) := by decide +kernel
theorem dX3_layList_163 : decode cX3_layList 163 = .ok (.istore 7, 2) := by decide +kernel
theorem dX3_layList_165 : decode cX3_layList 165 = .ok (.iinc 8 1, 3) := by decide +kernel
theorem dX3_layList_168 : decode cX3_layList 168 = .ok (.goto (-133), 3) := by decide +kernel
theorem dX3_layList_171 : decode cX3_layList 171 = .ok (.aload_n 0, 1) := by decide +kernel
theorem dX3_layList_172 : decode cX3_layList 172 = .ok (.getfield 12, 3) := by decide +kernel
theorem dX3_layList_175 : decode cX3_layList 175 = .ok (.getfield 93, 3) := by decide +kernel
theorem dX3_layList_178 : decode cX3_layList 178 = .ok (.iload_n 1, 1) := by decide +kernel
theorem dX3_layList_179 : decode cX3_layList 179 = .ok (.aload_n 0, 1) := by decide +kernel
theorem dX3_layList_180 : decode cX3_layList 180 = .ok (.getfield 21, 3) := by decide +kernel
theorem dX3_layList_183 : decode cX3_layList 183 = .ok (.getfield 39, 3) := by decide +kernel
theorem dX3_layList_186 : decode cX3_layList 186 = .ok (.iastore, 1) := by decide +kernel
theorem dX3_layList_187 : decode cX3_layList 187 = .ok (.return_, 1) := by decide +kernel
theorem dX3_append_0 : decode cX3_append 0 = .ok (.iload_n 2, 1) := by decide +kernel
theorem dX3_append_1 : decode cX3_append 1 = .ok (.invokestatic 96, 3) := by decide +kernel
theorem dX3_append_4 : decode cX3_append 4 = .ok (.istore 4, 2) := by decide +kernel
theorem dX3_append_6 : decode cX3_append 6 = .ok (.aload_n 0, 1) := by decide +kernel
theorem dX3_append_7 : decode cX3_append 7 = .ok (.getfield 12, 3) := by decide +kernel
theorem dX3_append_10 : decode cX3_append 10 = .ok (.getfield 46, 3) := by decide +kernel
theorem dX3_append_13 : decode cX3_append 13 = .ok (.iload_n 1, 1) := by decide +kernel
theorem dX3_append_14 : decode cX3_append 14 = .ok (.iaload, 1) := by decide +kernel
theorem dX3_append_15 : decode cX3_append 15 = .ok (.iload_n 3, 1) := by decide +kernel
theorem dX3_append_16 : decode cX3_append 16 = .ok (.iadd, 1) := by decide +kernel
theorem dX3_append_17 : decode cX3_append 17 = .ok (.istore 5, 2) := by decide +kernel
theorem dX3_append_19 : decode cX3_append 19 = .ok (.aload_n 0, 1) := by decide +kernel
theorem dX3_append_20 : decode cX3_append 20 = .ok (.getfield 21, 3) := by decide +kernel
theorem dX3_append_23 : decode cX3_append 23 = .ok (.aload_n 0, 1) := by decide +kernel
theorem dX3_append_24 : decode cX3_append 24 = .ok (.getfield 12, 3) := by decide +kernel
theorem dX3_append_27 : decode cX3_append 27 = .ok (.getfield 99, 3) := by decide +kernel
theorem dX3_append_30 : decode cX3_append 30 = .ok (.iload 4, 2) := by decide +kernel
theorem dX3_append_32 : decode cX3_append 32 = .ok (.iaload, 1) := by decide +kernel
theorem dX3_append_33 : decode cX3_append 33 = .ok (.aload_n 0, 1) := by decide +kernel
theorem dX3_append_34 : decode cX3_append 34 = .ok (.getfield 12, 3) := by decide +kernel
theorem dX3_append_37 : decode cX3_append 37 = .ok (.getfield 93, 3) := by decide +kernel
theorem dX3_append_40 : decode cX3_append 40 = .ok (.iload 4, 2) := by decide +kernel
theorem dX3_append_42 : decode cX3_append 42 = .ok (.iaload, 1) := by decide +kernel
theorem dX3_append_43 : decode cX3_append 43 = .ok (.iload 5, 2) := by decide +kernel
theorem dX3_append_45 : decode cX3_append 45 = .ok (.iconst 0, 1) := by decide +kernel
theorem dX3_append_46 : decode cX3_append 46 = .ok (.invokevirtual 102, 3) := by decide +kernel
theorem dX3_append_49 : decode cX3_append 49 = .ok (.aload_n 0, 1) := by decide +kernel
theorem dX3_append_50 : decode cX3_append 50 = .ok (.getfield 12, 3) := by decide +kernel
theorem dX3_append_53 : decode cX3_append 53 = .ok (.iload_n 1, 1) := by decide +kernel
theorem dX3_append_54 : decode cX3_append 54 = .ok (.iconst 0, 1) := by decide +kernel
theorem dX3_append_55 : decode cX3_append 55 = .ok (.aload_n 0, 1) := by decide +kernel
theorem dX3_append_56 : decode cX3_append 56 = .ok (.getfield 12, 3) := by decide +kernel
theorem dX3_append_59 : decode cX3_append 59 = .ok (.getfield 49, 3) := by decide +kernel
theorem dX3_append_62 : decode cX3_append 62 = .ok (.iload 4, 2) := by decide +kernel
theorem dX3_append_64 : decode cX3_append 64 = .ok (.iaload, 1) := by decide +kernel
theorem dX3_append_65 : decode cX3_append 65 = .ok (.aload_n 0, 1) := by decide +kernel
theorem dX3_append_66 : decode cX3_append 66 = .ok (.getfield 12, 3) := by decide +kernel
theorem dX3_append_69 : decode cX3_append 69 = .ok (.getfield 51, 3) := by decide +kernel
theorem dX3_append_72 : decode cX3_append 72 = .ok (.iload 4, 2) := by decide +kernel
theorem dX3_append_74 : decode cX3_append 74 = .ok (.iaload, 1) := by decide +kernel
theorem dX3_append_75 : decode cX3_append 75 = .ok (.invokevirtual 106, 3) := by decide +kernel
theorem dX3_append_78 : decode cX3_append 78 = .ok (.aload_n 0, 1) := by decide +kernel
theorem dX3_append_79 : decode cX3_append 79 = .ok (.getfield 12, 3) := by decide +kernel
theorem dX3_append_82 : decode cX3_append 82 = .ok (.getfield 46, 3) := by decide +kernel
theorem dX3_append_85 : decode cX3_append 85 = .ok (.iload_n 1, 1) := by decide +kernel
theorem dX3_append_86 : decode cX3_append 86 = .ok (.iload 5, 2) := by decide +kernel
theorem dX3_append_88 : decode cX3_append 88 = .ok (.aload_n 0, 1) := by decide +kernel
theorem dX3_append_89 : decode cX3_append 89 = .ok (.getfield 12, 3) := by decide +kernel
theorem dX3_append_92 : decode cX3_append 92 = .ok (.getfield 46, 3) := by decide +kernel
theorem dX3_append_95 : decode cX3_append 95 = .ok (.iload 4, 2) := by decide +kernel
theorem dX3_append_97 : decode cX3_append 97 = .ok (.iaload, 1) := by decide +kernel
theorem dX3_append_98 : decode cX3_append 98 = .ok (.iadd, 1) := by decide +kernel
theorem dX3_append_99 : decode cX3_append 99 = .ok (.iastore, 1) := by decide +kernel
theorem dX3_append_100 : decode cX3_append 100 = .ok (.return_, 1) := by decide +kernel
theorem dX3_layAtom_0 : decode cX3_layAtom 0 = .ok (.iload_n 1, 1) := by decide +kernel
theorem dX3_layAtom_1 : decode cX3_layAtom 1 = .ok (.invokestatic 96, 3) := by decide +kernel
theorem dX3_layAtom_4 : decode cX3_layAtom 4 = .ok (.istore 5, 2) := by decide +kernel
theorem dX3_layAtom_6 : decode cX3_layAtom 6 = .ok (.aload_n 0, 1) := by decide +kernel
theorem dX3_layAtom_7 : decode cX3_layAtom 7 = .ok (.getfield 12, 3) := by decide +kernel
theorem dX3_layAtom_10 : decode cX3_layAtom 10 = .ok (.iload 5, 2) := by decide +kernel
theorem dX3_layAtom_12 : decode cX3_layAtom 12 = .ok (.aload_n 0, 1) := by decide +kernel
theorem dX3_layAtom_13 : decode cX3_layAtom 13 = .ok (.getfield 21, 3) := by decide +kernel
theorem dX3_layAtom_16 : decode cX3_layAtom 16 = .ok (.getfield 39, 3) := by decide +kernel
theorem dX3_layAtom_19 : decode cX3_layAtom 19 = .ok (.invokevirtual 53, 3) := by decide +kernel
theorem dX3_layAtom_22 : decode cX3_layAtom 22 = .ok (.aload_n 0, 1) := by decide +kernel
theorem dX3_layAtom_23 : decode cX3_layAtom 23 = .ok (.getfield 35, 3) := by decide +kernel
theorem dX3_layAtom_26 : decode cX3_layAtom 26 = .ok (.getfield 65, 3) := by decide +kernel
theorem dX3_layAtom_29 : decode cX3_layAtom 29 = .ok (.iload_n 1, 1) := by decide +kernel
theorem dX3_layAtom_30 : decode cX3_layAtom 30 = .ok (.iaload, 1) := by decide +kernel
theorem dX3_layAtom_31 : decode cX3_layAtom 31 = .ok (.tableswitch 60 1 3 #[25, 37, 49], 25) := by decide +kernel
theorem dX3_layAtom_56 : decode cX3_layAtom 56 = .ok (.aload_n 0, 1) := by decide +kernel
theorem dX3_layAtom_57 : decode cX3_layAtom 57 = .ok (.iload_n 1, 1) := by decide +kernel
theorem dX3_layAtom_58 : decode cX3_layAtom 58 = .ok (.iload_n 2, 1) := by decide +kernel
theorem dX3_layAtom_59 : decode cX3_layAtom 59 = .ok (.iload_n 3, 1) := by decide +kernel
theorem dX3_layAtom_60 : decode cX3_layAtom 60 = .ok (.iload 4, 2) := by decide +kernel
theorem dX3_layAtom_62 : decode cX3_layAtom 62 = .ok (.invokevirtual 109, 3) := by decide +kernel
theorem dX3_layAtom_65 : decode cX3_layAtom 65 = .ok (.goto 32, 3) := by decide +kernel
theorem dX3_layAtom_68 : decode cX3_layAtom 68 = .ok (.aload_n 0, 1) := by decide +kernel
theorem dX3_layAtom_69 : decode cX3_layAtom 69 = .ok (.iload_n 1, 1) := by decide +kernel
theorem dX3_layAtom_70 : decode cX3_layAtom 70 = .ok (.iload_n 2, 1) := by decide +kernel
theorem dX3_layAtom_71 : decode cX3_layAtom 71 = .ok (.iload_n 3, 1) := by decide +kernel
theorem dX3_layAtom_72 : decode cX3_layAtom 72 = .ok (.iload 4, 2) := by decide +kernel
theorem dX3_layAtom_74 : decode cX3_layAtom 74 = .ok (.invokevirtual 112, 3) := by decide +kernel
theorem dX3_layAtom_77 : decode cX3_layAtom 77 = .ok (.goto 20, 3) := by decide +kernel
theorem dX3_layAtom_80 : decode cX3_layAtom 80 = .ok (.aload_n 0, 1) := by decide +kernel
theorem dX3_layAtom_81 : decode cX3_layAtom 81 = .ok (.iload_n 1, 1) := by decide +kernel
theorem dX3_layAtom_82 : decode cX3_layAtom 82 = .ok (.iload_n 2, 1) := by decide +kernel
theorem dX3_layAtom_83 : decode cX3_layAtom 83 = .ok (.iload 4, 2) := by decide +kernel
theorem dX3_layAtom_85 : decode cX3_layAtom 85 = .ok (.invokevirtual 115, 3) := by decide +kernel
theorem dX3_layAtom_88 : decode cX3_layAtom 88 = .ok (.goto 9, 3) := by decide +kernel
theorem dX3_layAtom_91 : decode cX3_layAtom 91 = .ok (.aload_n 0, 1) := by decide +kernel
theorem dX3_layAtom_92 : decode cX3_layAtom 92 = .ok (.iload_n 1, 1) := by decide +kernel
theorem dX3_layAtom_93 : decode cX3_layAtom 93 = .ok (.iload_n 2, 1) := by decide +kernel
theorem dX3_layAtom_94 : decode cX3_layAtom 94 = .ok (.invokevirtual 118, 3) := by decide +kernel
theorem dX3_layAtom_97 : decode cX3_layAtom 97 = .ok (.aload_n 0, 1) := by decide +kernel
theorem dX3_layAtom_98 : decode cX3_layAtom 98 = .ok (.getfield 12, 3) := by decide +kernel
theorem dX3_layAtom_101 : decode cX3_layAtom 101 = .ok (.getfield 93, 3) := by decide +kernel
theorem dX3_layAtom_104 : decode cX3_layAtom 104 = .ok (.iload 5, 2) := by decide +kernel
theorem dX3_layAtom_106 : decode cX3_layAtom 106 = .ok (.aload_n 0, 1) := by decide +kernel
theorem dX3_layAtom_107 : decode cX3_layAtom 107 = .ok (.getfield 21, 3) := by decide +kernel
theorem dX3_layAtom_110 : decode cX3_layAtom 110 = .ok (.getfield 39, 3) := by decide +kernel
theorem dX3_layAtom_113 : decode cX3_layAtom 113 = .ok (.iastore, 1) := by decide +kernel
theorem dX3_layAtom_114 : decode cX3_layAtom 114 = .ok (.aload_n 0, 1) := by decide +kernel
theorem dX3_layAtom_115 : decode cX3_layAtom 115 = .ok (.getfield 35, 3) := by decide +kernel
theorem dX3_layAtom_118 : decode cX3_layAtom 118 = .ok (.iload_n 1, 1) := by decide +kernel
theorem dX3_layAtom_119 : decode cX3_layAtom 119 = .ok (.invokevirtual 121, 3) := by decide +kernel
theorem dX3_layAtom_122 : decode cX3_layAtom 122 = .ok (.ifCond .le 29, 3) := by decide +kernel
theorem dX3_layAtom_125 : decode cX3_layAtom 125 = .ok (.aload_n 0, 1) := by decide +kernel
theorem dX3_layAtom_126 : decode cX3_layAtom 126 = .ok (.iload_n 1, 1) := by decide +kernel
theorem dX3_layAtom_127 : decode cX3_layAtom 127 = .ok (.iload_n 2, 1) := by decide +kernel
theorem dX3_layAtom_128 : decode cX3_layAtom 128 = .ok (.iload_n 3, 1) := by decide +kernel
theorem dX3_layAtom_129 : decode cX3_layAtom 129 = .ok (.iload 4, 2) := by decide +kernel
theorem dX3_layAtom_131 : decode cX3_layAtom 131 = .ok (.invokevirtual 124, 3) := by decide +kernel
theorem dX3_layAtom_134 : decode cX3_layAtom 134 = .ok (.aload_n 0, 1) := by decide +kernel
theorem dX3_layAtom_135 : decode cX3_layAtom 135 = .ok (.getfield 12, 3) := by decide +kernel
theorem dX3_layAtom_138 : decode cX3_layAtom 138 = .ok (.getfield 93, 3) := by decide +kernel
theorem dX3_layAtom_141 : decode cX3_layAtom 141 = .ok (.iload 5, 2) := by decide +kernel
theorem dX3_layAtom_143 : decode cX3_layAtom 143 = .ok (.aload_n 0, 1) := by decide +kernel
theorem dX3_layAtom_144 : decode cX3_layAtom 144 = .ok (.getfield 21, 3) := by decide +kernel
theorem dX3_layAtom_147 : decode cX3_layAtom 147 = .ok (.getfield 39, 3) := by decide +kernel
theorem dX3_layAtom_150 : decode cX3_layAtom 150 = .ok (.iastore, 1) := by decide +kernel
theorem dX3_layAtom_151 : decode cX3_layAtom 151 = .ok (.return_, 1) := by decide +kernel
theorem dX3_isBigOperator_0 : decode cX3_isBigOperator 0 = .ok (.aload_n 0, 1) := by decide +kernel
theorem dX3_isBigOperator_1 : decode cX3_isBigOperator 1 = .ok (.getfield 35, 3) := by decide +kernel
theorem dX3_isBigOperator_4 : decode cX3_isBigOperator 4 = .ok (.getfield 127, 3) := by decide +kernel
theorem dX3_isBigOperator_7 : decode cX3_isBigOperator 7 = .ok (.iload_n 1, 1) := by decide +kernel
theorem dX3_isBigOperator_8 : decode cX3_isBigOperator 8 = .ok (.iaload, 1) := by decide +kernel
theorem dX3_isBigOperator_9 : decode cX3_isBigOperator 9 = .ok (.iconst 1, 1) := by decide +kernel
theorem dX3_isBigOperator_10 : decode cX3_isBigOperator 10 = .ok (.if_icmp .ne 11, 3) := by decide +kernel
theorem dX3_isBigOperator_13 : decode cX3_isBigOperator 13 = .ok (.iload_n 2, 1) := by decide +kernel
theorem dX3_isBigOperator_14 : decode cX3_isBigOperator 14 = .ok (.ifCond .ne 7, 3) := by decide +kernel
theorem dX3_isBigOperator_17 : decode cX3_isBigOperator 17 = .ok (.iconst 1, 1) := by decide +kernel
theorem dX3_isBigOperator_18 : decode cX3_isBigOperator 18 = .ok (.goto 4, 3) := by decide +kernel
theorem dX3_isBigOperator_21 : decode cX3_isBigOperator 21 = .ok (.iconst 0, 1) := by decide +kernel
theorem dX3_isBigOperator_22 : decode cX3_isBigOperator 22 = .ok (.ireturn, 1) := by decide +kernel
theorem dX3_laySign_0 : decode cX3_laySign 0 = .ok (.aload_n 0, 1) := by decide +kernel
theorem dX3_laySign_1 : decode cX3_laySign 1 = .ok (.getfield 35, 3) := by decide +kernel
theorem dX3_laySign_4 : decode cX3_laySign 4 = .ok (.getfield 68, 3) := by decide +kernel
theorem dX3_laySign_7 : decode cX3_laySign 7 = .ok (.iload_n 1, 1) := by decide +kernel
theorem dX3_laySign_8 : decode cX3_laySign 8 = .ok (.iaload, 1) := by decide +kernel
theorem dX3_laySign_9 : decode cX3_laySign 9 = .ok (.istore_n 3, 1) := by decide +kernel
theorem dX3_laySign_10 : decode cX3_laySign 10 = .ok (.aload_n 0, 1) := by decide +kernel
theorem dX3_laySign_11 : decode cX3_laySign 11 = .ok (.iload_n 1, 1) := by decide +kernel
theorem dX3_laySign_12 : decode cX3_laySign 12 = .ok (.iload_n 2, 1) := by decide +kernel
theorem dX3_laySign_13 : decode cX3_laySign 13 = .ok (.invokevirtual 130, 3) := by decide +kernel
theorem dX3_laySign_16 : decode cX3_laySign 16 = .ok (.ifCond .eq 8, 3) := by decide +kernel
theorem dX3_laySign_19 : decode cX3_laySign 19 = .ok (.bipush 14, 2) := by decide +kernel
theorem dX3_laySign_21 : decode cX3_laySign 21 = .ok (.goto 7, 3) := by decide +kernel
theorem dX3_laySign_24 : decode cX3_laySign 24 = .ok (.iload_n 2, 1) := by decide +kernel
theorem dX3_laySign_25 : decode cX3_laySign 25 = .ok (.invokestatic 85, 3) := by decide +kernel
theorem dX3_laySign_28 : decode cX3_laySign 28 = .ok (.istore 4, 2) := by decide +kernel
theorem dX3_laySign_30 : decode cX3_laySign 30 = .ok (.iload_n 1, 1) := by decide +kernel
theorem dX3_laySign_31 : decode cX3_laySign 31 = .ok (.invokestatic 96, 3) := by decide +kernel
theorem dX3_laySign_34 : decode cX3_laySign 34 = .ok (.istore 5, 2) := by decide +kernel
theorem dX3_laySign_36 : decode cX3_laySign 36 = .ok (.aload_n 0, 1) := by decide +kernel
theorem dX3_laySign_37 : decode cX3_laySign 37 = .ok (.getfield 12, 3) := by decide +kernel
theorem dX3_laySign_40 : decode cX3_laySign 40 = .ok (.getfield 46, 3) := by decide +kernel
theorem dX3_laySign_43 : decode cX3_laySign 43 = .ok (.iload 5, 2) := by decide +kernel
theorem dX3_laySign_45 : decode cX3_laySign 45 = .ok (.iload 4, 2) := by decide +kernel
theorem dX3_laySign_47 : decode cX3_laySign 47 = .ok (.iconst 4, 1) := by decide +kernel
theorem dX3_laySign_48 : decode cX3_laySign 48 = .ok (.iload_n 3, 1) := by decide +kernel
theorem dX3_laySign_49 : decode cX3_laySign 49 = .ok (.iconst 5, 1) := by decide +kernel
theorem dX3_laySign_50 : decode cX3_laySign 50 = .ok (.irem, 1) := by decide +kernel
theorem dX3_laySign_51 : decode cX3_laySign 51 = .ok (.iadd, 1) := by decide +kernel
theorem dX3_laySign_52 : decode cX3_laySign 52 = .ok (.imul, 1) := by decide +kernel
theorem dX3_laySign_53 : decode cX3_laySign 53 = .ok (.iastore, 1) := by decide +kernel
theorem dX3_laySign_54 : decode cX3_laySign 54 = .ok (.aload_n 0, 1) := by decide +kernel
theorem dX3_laySign_55 : decode cX3_laySign 55 = .ok (.getfield 12, 3) := by decide +kernel
theorem dX3_laySign_58 : decode cX3_laySign 58 = .ok (.iload 5, 2) := by decide +kernel
theorem dX3_laySign_60 : decode cX3_laySign 60 = .ok (.iconst 0, 1) := by decide +kernel
theorem dX3_laySign_61 : decode cX3_laySign 61 = .ok (.iload 4, 2) := by decide +kernel
theorem dX3_laySign_63 : decode cX3_laySign 63 = .ok (.iconst 5, 1) := by decide +kernel
theorem dX3_laySign_64 : decode cX3_laySign 64 = .ok (.iload_n 3, 1) := by decide +kernel
theorem dX3_laySign_65 : decode cX3_laySign 65 = .ok (.iconst 3, 1) := by decide +kernel
theorem dX3_laySign_66 : decode cX3_laySign 66 = .ok (.irem, 1) := by decide +kernel
theorem dX3_laySign_67 : decode cX3_laySign 67 = .ok (.iadd, 1) := by decide +kernel
theorem dX3_laySign_68 : decode cX3_laySign 68 = .ok (.imul, 1) := by decide +kernel
theorem dX3_laySign_69 : decode cX3_laySign 69 = .ok (.iload_n 3, 1) := by decide +kernel
theorem dX3_laySign_70 : decode cX3_laySign 70 = .ok (.iconst 4, 1) := by decide +kernel
theorem dX3_laySign_71 : decode cX3_laySign 71 = .ok (.irem, 1) := by decide +kernel
theorem dX3_laySign_72 : decode cX3_laySign 72 = .ok (.iconst 3, 1) := by decide +kernel
theorem dX3_laySign_73 : decode cX3_laySign 73 = .ok (.if_icmp .ne 10, 3) := by decide +kernel
theorem dX3_laySign_76 : decode cX3_laySign 76 = .ok (.iconst 2, 1) := by decide +kernel
theorem dX3_laySign_77 : decode cX3_laySign 77 = .ok (.iload 4, 2) := by decide +kernel
theorem dX3_laySign_79 : decode cX3_laySign 79 = .ok (.imul, 1) := by decide +kernel
theorem dX3_laySign_80 : decode cX3_laySign 80 = .ok (.goto 4, 3) := by decide +kernel
theorem dX3_laySign_83 : decode cX3_laySign 83 = .ok (.iconst 0, 1) := by decide +kernel
theorem dX3_laySign_84 : decode cX3_laySign 84 = .ok (.invokevirtual 106, 3) := by decide +kernel
theorem dX3_laySign_87 : decode cX3_laySign 87 = .ok (.aload_n 0, 1) := by decide +kernel
theorem dX3_laySign_88 : decode cX3_laySign 88 = .ok (.getfield 21, 3) := by decide +kernel
theorem dX3_laySign_91 : decode cX3_laySign 91 = .ok (.iconst 0, 1) := by decide +kernel
theorem dX3_laySign_92 : decode cX3_laySign 92 = .ok (.iload_n 1, 1) := by decide +kernel
theorem dX3_laySign_93 : decode cX3_laySign 93 = .ok (.iload_n 3, 1) := by decide +kernel
theorem dX3_laySign_94 : decode cX3_laySign 94 = .ok (.invokevirtual 134, 3) := by decide +kernel
theorem dX3_laySign_97 : decode cX3_laySign 97 = .ok (.istore 6, 2) := by decide +kernel
theorem dX3_laySign_99 : decode cX3_laySign 99 = .ok (.aload_n 0, 1) := by decide +kernel
theorem dX3_laySign_100 : decode cX3_laySign 100 = .ok (.getfield 21, 3) := by decide +kernel
theorem dX3_laySign_103 : decode cX3_laySign 103 = .ok (.iload 6, 2) := by decide +kernel
theorem dX3_laySign_105 : decode cX3_laySign 105 = .ok (.iload 4, 2) := by decide +kernel
theorem dX3_laySign_107 : decode cX3_laySign 107 = .ok (.aload_n 0, 1) := by decide +kernel
theorem dX3_laySign_108 : decode cX3_laySign 108 = .ok (.getfield 12, 3) := by decide +kernel
theorem dX3_laySign_111 : decode cX3_laySign 111 = .ok (.getfield 46, 3) := by decide +kernel
theorem dX3_laySign_114 : decode cX3_laySign 114 = .ok (.iload 5, 2) := by decide +kernel
theorem dX3_laySign_116 : decode cX3_laySign 116 = .ok (.iaload, 1) := by decide +kernel
theorem dX3_laySign_117 : decode cX3_laySign 117 = .ok (.invokevirtual 137, 3) := by decide +kernel
theorem dX3_laySign_120 : decode cX3_laySign 120 = .ok (.return_, 1) := by decide +kernel
theorem dX3_layScripts_0 : decode cX3_layScripts 0 = .ok (.iload_n 2, 1) := by decide +kernel
theorem dX3_layScripts_1 : decode cX3_layScripts 1 = .ok (.iconst 1, 1) := by decide +kernel
theorem dX3_layScripts_2 : decode cX3_layScripts 2 = .ok (.if_icmp .gt 7, 3) := by decide +kernel
theorem dX3_layScripts_5 : decode cX3_layScripts 5 = .ok (.iconst 2, 1) := by decide +kernel
theorem dX3_layScripts_6 : decode cX3_layScripts 6 = .ok (.goto 4, 3) := by decide +kernel
theorem dX3_layScripts_9 : decode cX3_layScripts 9 = .ok (.iconst 3, 1) := by decide +kernel
theorem dX3_layScripts_10 : decode cX3_layScripts 10 = .ok (.istore 5, 2) := by decide +kernel
theorem dX3_layScripts_12 : decode cX3_layScripts 12 = .ok (.aload_n 0, 1) := by decide +kernel
theorem dX3_layScripts_13 : decode cX3_layScripts 13 = .ok (.getfield 35, 3) := by decide +kernel
theorem dX3_layScripts_16 : decode cX3_layScripts 16 = .ok (.getfield 140, 3) := by decide +kernel
theorem dX3_layScripts_19 : decode cX3_layScripts 19 = .ok (.iload_n 1, 1) := by decide +kernel
theorem dX3_layScripts_20 : decode cX3_layScripts 20 = .ok (.iaload, 1) := by decide +kernel
theorem dX3_layScripts_21 : decode cX3_layScripts 21 = .ok (.istore 6, 2) := by decide +kernel
theorem dX3_layScripts_23 : decode cX3_layScripts 23 = .ok (.aload_n 0, 1) := by decide +kernel
theorem dX3_layScripts_24 : decode cX3_layScripts 24 = .ok (.getfield 35, 3) := by decide +kernel
theorem dX3_layScripts_27 : decode cX3_layScripts 27 = .ok (.getfield 143, 3) := by decide +kernel
theorem dX3_layScripts_30 : decode cX3_layScripts 30 = .ok (.iload_n 1, 1) := by decide +kernel
theorem dX3_layScripts_31 : decode cX3_layScripts 31 = .ok (.iaload, 1) := by decide +kernel
theorem dX3_layScripts_32 : decode cX3_layScripts 32 = .ok (.istore 7, 2) := by decide +kernel
theorem dX3_layScripts_34 : decode cX3_layScripts 34 = .ok (.iload 6, 2) := by decide +kernel
theorem dX3_layScripts_36 : decode cX3_layScripts 36 = .ok (.iconst (-1), 1) := by decide +kernel
theorem dX3_layScripts_37 : decode cX3_layScripts 37 = .ok (.if_icmp .eq 16, 3) := by decide +kernel
theorem dX3_layScripts_40 : decode cX3_layScripts 40 = .ok (.aload_n 0, 1) := by decide +kernel
theorem dX3_layScripts_41 : decode cX3_layScripts 41 = .ok (.iload 6, 2) := by decide +kernel
theorem dX3_layScripts_43 : decode cX3_layScripts 43 = .ok (.iload 5, 2) := by decide +kernel
theorem dX3_layScripts_45 : decode cX3_layScripts 45 = .ok (.iload_n 3, 1) := by decide +kernel
theorem dX3_layScripts_46 : decode cX3_layScripts 46 = .ok (.iload 4, 2) := by decide +kernel
theorem dX3_layScripts_48 : decode cX3_layScripts 48 = .ok (.iconst 1, 1) := by decide +kernel
theorem dX3_layScripts_49 : decode cX3_layScripts 49 = .ok (.iadd, 1) := by decide +kernel
theorem dX3_layScripts_50 : decode cX3_layScripts 50 = .ok (.invokevirtual 42, 3) := by decide +kernel
theorem dX3_layScripts_53 : decode cX3_layScripts 53 = .ok (.iload 7, 2) := by decide +kernel
theorem dX3_layScripts_55 : decode cX3_layScripts 55 = .ok (.iconst (-1), 1) := by decide +kernel
theorem dX3_layScripts_56 : decode cX3_layScripts 56 = .ok (.if_icmp .eq 16, 3) := by decide +kernel
theorem dX3_layScripts_59 : decode cX3_layScripts 59 = .ok (.aload_n 0, 1) := by decide +kernel
theorem dX3_layScripts_60 : decode cX3_layScripts 60 = .ok (.iload 7, 2) := by decide +kernel
theorem dX3_layScripts_62 : decode cX3_layScripts 62 = .ok (.iload 5, 2) := by decide +kernel
theorem dX3_layScripts_64 : decode cX3_layScripts 64 = .ok (.iconst 1, 1) := by decide +kernel
theorem dX3_layScripts_65 : decode cX3_layScripts 65 = .ok (.iload 4, 2) := by decide +kernel
theorem dX3_layScripts_67 : decode cX3_layScripts 67 = .ok (.iconst 1, 1) := by decide +kernel
theorem dX3_layScripts_68 : decode cX3_layScripts 68 = .ok (.iadd, 1) := by decide +kernel
theorem dX3_layScripts_69 : decode cX3_layScripts 69 = .ok (.invokevirtual 42, 3) := by decide +kernel
theorem dX3_layScripts_72 : decode cX3_layScripts 72 = .ok (.aload_n 0, 1) := by decide +kernel
theorem dX3_layScripts_73 : decode cX3_layScripts 73 = .ok (.iload_n 1, 1) := by decide +kernel
theorem dX3_layScripts_74 : decode cX3_layScripts 74 = .ok (.iload_n 2, 1) := by decide +kernel
theorem dX3_layScripts_75 : decode cX3_layScripts 75 = .ok (.invokevirtual 130, 3) := by decide +kernel
theorem dX3_layScripts_78 : decode cX3_layScripts 78 = .ok (.ifCond .eq 15, 3) := by decide +kernel
theorem dX3_layScripts_81 : decode cX3_layScripts 81 = .ok (.aload_n 0, 1) := by decide +kernel
theorem dX3_layScripts_82 : decode cX3_layScripts 82 = .ok (.iload_n 1, 1) := by decide +kernel
theorem dX3_layScripts_83 : decode cX3_layScripts 83 = .ok (.iload_n 2, 1) := by decide +kernel
theorem dX3_layScripts_84 : decode cX3_layScripts 84 = .ok (.invokestatic 85, 3) := by decide +kernel
theorem dX3_layScripts_87 : decode cX3_layScripts 87 = .ok (.invokevirtual 146, 3) := by decide +kernel
theorem dX3_layScripts_90 : decode cX3_layScripts 90 = .ok (.goto 13, 3) := by decide +kernel
theorem dX3_layScripts_93 : decode cX3_layScripts 93 = .ok (.aload_n 0, 1) := by decide +kernel
theorem dX3_layScripts_94 : decode cX3_layScripts 94 = .ok (.iload_n 1, 1) := by decide +kernel
theorem dX3_layScripts_95 : decode cX3_layScripts 95 = .ok (.iload_n 2, 1) := by decide +kernel
theorem dX3_layScripts_96 : decode cX3_layScripts 96 = .ok (.invokestatic 85, 3) := by decide +kernel
theorem dX3_layScripts_99 : decode cX3_layScripts 99 = .ok (.iload_n 3, 1) := by decide +kernel
theorem dX3_layScripts_100 : decode cX3_layScripts 100 = .ok (.invokevirtual 149, 3) := by decide +kernel
theorem dX3_layScripts_103 : decode cX3_layScripts 103 = .ok (.return_, 1) := by decide +kernel
theorem dX3_placeLimits_0 : decode cX3_placeLimits 0 = .ok (.iload_n 1, 1) := by decide +kernel
theorem dX3_placeLimits_1 : decode cX3_placeLimits 1 = .ok (.invokestatic 96, 3) := by decide +kernel
theorem dX3_placeLimits_4 : decode cX3_placeLimits 4 = .ok (.istore_n 3, 1) := by decide +kernel
theorem dX3_placeLimits_5 : decode cX3_placeLimits 5 = .ok (.aload_n 0, 1) := by decide +kernel
theorem dX3_placeLimits_6 : decode cX3_placeLimits 6 = .ok (.getfield 35, 3) := by decide +kernel
theorem dX3_placeLimits_9 : decode cX3_placeLimits 9 = .ok (.getfield 140, 3) := by decide +kernel
theorem dX3_placeLimits_12 : decode cX3_placeLimits 12 = .ok (.iload_n 1, 1) := by decide +kernel
theorem dX3_placeLimits_13 : decode cX3_placeLimits 13 = .ok (.iaload, 1) := by decide +kernel
theorem dX3_placeLimits_14 : decode cX3_placeLimits 14 = .ok (.istore 4, 2) := by decide +kernel
theorem dX3_placeLimits_16 : decode cX3_placeLimits 16 = .ok (.aload_n 0, 1) := by decide +kernel
theorem dX3_placeLimits_17 : decode cX3_placeLimits 17 = .ok (.getfield 35, 3) := by decide +kernel
theorem dX3_placeLimits_20 : decode cX3_placeLimits 20 = .ok (.getfield 143, 3) := by decide +kernel
theorem dX3_placeLimits_23 : decode cX3_placeLimits 23 = .ok (.iload_n 1, 1) := by decide +kernel
theorem dX3_placeLimits_24 : decode cX3_placeLimits 24 = .ok (.iaload, 1) := by decide +kernel
theorem dX3_placeLimits_25 : decode cX3_placeLimits 25 = .ok (.istore 5, 2) := by decide +kernel
theorem dX3_placeLimits_27 : decode cX3_placeLimits 27 = .ok (.aload_n 0, 1) := by decide +kernel
theorem dX3_placeLimits_28 : decode cX3_placeLimits 28 = .ok (.getfield 12, 3) := by decide +kernel
theorem dX3_placeLimits_31 : decode cX3_placeLimits 31 = .ok (.getfield 46, 3) := by decide +kernel
theorem dX3_placeLimits_34 : decode cX3_placeLimits 34 = .ok (.iload_n 3, 1) := by decide +kernel
theorem dX3_placeLimits_35 : decode cX3_placeLimits 35 = .ok (.iaload, 1) := by decide +kernel
theorem dX3_placeLimits_36 : decode cX3_placeLimits 36 = .ok (.istore 6, 2) := by decide +kernel
theorem dX3_placeLimits_38 : decode cX3_placeLimits 38 = .ok (.iload 6, 2) := by decide +kernel
theorem dX3_placeLimits_40 : decode cX3_placeLimits 40 = .ok (.aload_n 0, 1) := by decide +kernel
theorem dX3_placeLimits_41 : decode cX3_placeLimits 41 = .ok (.getfield 12, 3) := by decide +kernel
theorem dX3_placeLimits_44 : decode cX3_placeLimits 44 = .ok (.iload 4, 2) := by decide +kernel
theorem dX3_placeLimits_46 : decode cX3_placeLimits 46 = .ok (.invokevirtual 153, 3) := by decide +kernel
theorem dX3_placeLimits_49 : decode cX3_placeLimits 49 = .ok (.aload_n 0, 1) := by decide +kernel
theorem dX3_placeLimits_50 : decode cX3_placeLimits 50 = .ok (.getfield 12, 3) := by decide +kernel
theorem dX3_placeLimits_53 : decode cX3_placeLimits 53 = .ok (.iload 5, 2) := by decide +kernel
theorem dX3_placeLimits_55 : decode cX3_placeLimits 55 = .ok (.invokevirtual 153, 3) := by decide +kernel
theorem dX3_placeLimits_58 : decode cX3_placeLimits 58 = .ok (.invokestatic 156, 3) := by decide +kernel
theorem dX3_placeLimits_61 : decode cX3_placeLimits 61 = .ok (.invokestatic 156, 3) := by decide +kernel
theorem dX3_placeLimits_64 : decode cX3_placeLimits 64 = .ok (.istore 7, 2) := by decide +kernel
theorem dX3_placeLimits_66 : decode cX3_placeLimits 66 = .ok (.aload_n 0, 1) := by decide +kernel
theorem dX3_placeLimits_67 : decode cX3_placeLimits 67 = .ok (.getfield 12, 3) := by decide +kernel
theorem dX3_placeLimits_70 : decode cX3_placeLimits 70 = .ok (.getfield 49, 3) := by decide +kernel
theorem dX3_placeLimits_73 : decode cX3_placeLimits 73 = .ok (.iload_n 3, 1) := by decide +kernel
theorem dX3_placeLimits_74 : decode cX3_placeLimits 74 = .ok (.iaload, 1) := by decide +kernel
theorem dX3_placeLimits_75 : decode cX3_placeLimits 75 = .ok (.iload_n 2, 1) := by decide +kernel
theorem dX3_placeLimits_76 : decode cX3_placeLimits 76 = .ok (.iadd, 1) := by decide +kernel
theorem dX3_placeLimits_77 : decode cX3_placeLimits 77 = .ok (.aload_n 0, 1) := by decide +kernel
theorem dX3_placeLimits_78 : decode cX3_placeLimits 78 = .ok (.getfield 12, 3) := by decide +kernel
theorem dX3_placeLimits_81 : decode cX3_placeLimits 81 = .ok (.iload 4, 2) := by decide +kernel
theorem dX3_placeLimits_83 : decode cX3_placeLimits 83 = .ok (.invokevirtual 161, 3) := by decide +kernel
theorem dX3_placeLimits_86 : decode cX3_placeLimits 86 = .ok (.iadd, 1) := by decide +kernel
theorem dX3_placeLimits_87 : decode cX3_placeLimits 87 = .ok (.istore 8, 2) := by decide +kernel
theorem dX3_placeLimits_89 : decode cX3_placeLimits 89 = .ok (.aload_n 0, 1) := by decide +kernel
theorem dX3_placeLimits_90 : decode cX3_placeLimits 90 = .ok (.getfield 12, 3) := by decide +kernel
theorem dX3_placeLimits_93 : decode cX3_placeLimits 93 = .ok (.getfield 51, 3) := by decide +kernel
theorem dX3_placeLimits_96 : decode cX3_placeLimits 96 = .ok (.iload_n 3, 1) := by decide +kernel
theorem dX3_placeLimits_97 : decode cX3_placeLimits 97 = .ok (.iaload, 1) := by decide +kernel
theorem dX3_placeLimits_98 : decode cX3_placeLimits 98 = .ok (.iload_n 2, 1) := by decide +kernel
theorem dX3_placeLimits_99 : decode cX3_placeLimits 99 = .ok (.iadd, 1) := by decide +kernel
theorem dX3_placeLimits_100 : decode cX3_placeLimits 100 = .ok (.aload_n 0, 1) := by decide +kernel
theorem dX3_placeLimits_101 : decode cX3_placeLimits 101 = .ok (.getfield 12, 3) := by decide +kernel
theorem dX3_placeLimits_104 : decode cX3_placeLimits 104 = .ok (.iload 5, 2) := by decide +kernel
theorem dX3_placeLimits_106 : decode cX3_placeLimits 106 = .ok (.invokevirtual 164, 3) := by decide +kernel
theorem dX3_placeLimits_109 : decode cX3_placeLimits 109 = .ok (.iadd, 1) := by decide +kernel
theorem dX3_placeLimits_110 : decode cX3_placeLimits 110 = .ok (.istore 9, 2) := by decide +kernel
theorem dX3_placeLimits_112 : decode cX3_placeLimits 112 = .ok (.aload_n 0, 1) := by decide +kernel
theorem dX3_placeLimits_113 : decode cX3_placeLimits 113 = .ok (.getfield 21, 3) := by decide +kernel
theorem dX3_placeLimits_116 : decode cX3_placeLimits 116 = .ok (.aload_n 0, 1) := by decide +kernel
theorem dX3_placeLimits_117 : decode cX3_placeLimits 117 = .ok (.getfield 12, 3) := by decide +kernel
theorem dX3_placeLimits_120 : decode cX3_placeLimits 120 = .ok (.getfield 99, 3) := by decide +kernel
theorem dX3_placeLimits_123 : decode cX3_placeLimits 123 = .ok (.iload_n 3, 1) := by decide +kernel
theorem dX3_placeLimits_124 : decode cX3_placeLimits 124 = .ok (.iaload, 1) := by decide +kernel
theorem dX3_placeLimits_125 : decode cX3_placeLimits 125 = .ok (.aload_n 0, 1) := by decide +kernel
theorem dX3_placeLimits_126 : decode cX3_placeLimits 126 = .ok (.getfield 12, 3) := by decide +kernel
theorem dX3_placeLimits_129 : decode cX3_placeLimits 129 = .ok (.getfield 93, 3) := by decide +kernel
theorem dX3_placeLimits_132 : decode cX3_placeLimits 132 = .ok (.iload_n 3, 1) := by decide +kernel
theorem dX3_placeLimits_133 : decode cX3_placeLimits 133 = .ok (.iaload, 1) := by decide +kernel
theorem dX3_placeLimits_134 : decode cX3_placeLimits 134 = .ok (.iload 7, 2) := by decide +kernel
theorem dX3_placeLimits_136 : decode cX3_placeLimits 136 = .ok (.iload 6, 2) := by decide +kernel
theorem dX3_placeLimits_138 : decode cX3_placeLimits 138 = .ok (.isub, 1) := by decide +kernel
theorem dX3_placeLimits_139 : decode cX3_placeLimits 139 = .ok (.iconst 2, 1) := by decide +kernel
theorem dX3_placeLimits_140 : decode cX3_placeLimits 140 = .ok (.idiv, 1) := by decide +kernel
theorem dX3_placeLimits_141 : decode cX3_placeLimits 141 = .ok (.iconst 0, 1) := by decide +kernel
theorem dX3_placeLimits_142 : decode cX3_placeLimits 142 = .ok (.invokevirtual 102, 3) := by decide +kernel
theorem dX3_placeLimits_145 : decode cX3_placeLimits 145 = .ok (.aload_n 0, 1) := by decide +kernel
theorem dX3_placeLimits_146 : decode cX3_placeLimits 146 = .ok (.iload_n 3, 1) := by decide +kernel
theorem dX3_placeLimits_147 : decode cX3_placeLimits 147 = .ok (.iload 4, 2) := by decide +kernel
theorem dX3_placeLimits_149 : decode cX3_placeLimits 149 = .ok (.iload 7, 2) := by decide +kernel
theorem dX3_placeLimits_151 : decode cX3_placeLimits 151 = .ok (.aload_n 0, 1) := by decide +kernel
theorem dX3_placeLimits_152 : decode cX3_placeLimits 152 = .ok (.getfield 12, 3) := by decide +kernel
theorem dX3_placeLimits_155 : decode cX3_placeLimits 155 = .ok (.iload 4, 2) := by decide +kernel
theorem dX3_placeLimits_157 : decode cX3_placeLimits 157 = .ok (.invokevirtual 153, 3) := by decide +kernel
theorem dX3_placeLimits_160 : decode cX3_placeLimits 160 = .ok (.isub, 1) := by decide +kernel
theorem dX3_placeLimits_161 : decode cX3_placeLimits 161 = .ok (.iconst 2, 1) := by decide +kernel
theorem dX3_placeLimits_162 : decode cX3_placeLimits 162 = .ok (.idiv, 1) := by decide +kernel
theorem dX3_placeLimits_163 : decode cX3_placeLimits 163 = .ok (.iload 8, 2) := by decide +kernel
theorem dX3_placeLimits_165 : decode cX3_placeLimits 165 = .ok (.invokevirtual 167, 3) := by decide +kernel
theorem dX3_placeLimits_168 : decode cX3_placeLimits 168 = .ok (.aload_n 0, 1) := by decide +kernel
theorem dX3_placeLimits_169 : decode cX3_placeLimits 169 = .ok (.iload_n 3, 1) := by decide +kernel
theorem dX3_placeLimits_170 : decode cX3_placeLimits 170 = .ok (.iload 5, 2) := by decide +kernel
theorem dX3_placeLimits_172 : decode cX3_placeLimits 172 = .ok (.iload 7, 2) := by decide +kernel
theorem dX3_placeLimits_174 : decode cX3_placeLimits 174 = .ok (.aload_n 0, 1) := by decide +kernel
theorem dX3_placeLimits_175 : decode cX3_placeLimits 175 = .ok (.getfield 12, 3) := by decide +kernel
theorem dX3_placeLimits_178 : decode cX3_placeLimits 178 = .ok (.iload 5, 2) := by decide +kernel
theorem dX3_placeLimits_180 : decode cX3_placeLimits 180 = .ok (.invokevirtual 153, 3) := by decide +kernel
theorem dX3_placeLimits_183 : decode cX3_placeLimits 183 = .ok (.isub, 1) := by decide +kernel
theorem dX3_placeLimits_184 : decode cX3_placeLimits 184 = .ok (.iconst 2, 1) := by decide +kernel
theorem dX3_placeLimits_185 : decode cX3_placeLimits 185 = .ok (.idiv, 1) := by decide +kernel
theorem dX3_placeLimits_186 : decode cX3_placeLimits 186 = .ok (.iload 9, 2) := by decide +kernel
theorem dX3_placeLimits_188 : decode cX3_placeLimits 188 = .ok (.ineg, 1) := by decide +kernel
theorem dX3_placeLimits_189 : decode cX3_placeLimits 189 = .ok (.invokevirtual 167, 3) := by decide +kernel
theorem dX3_placeLimits_192 : decode cX3_placeLimits 192 = .ok (.aload_n 0, 1) := by decide +kernel
theorem dX3_placeLimits_193 : decode cX3_placeLimits 193 = .ok (.getfield 12, 3) := by decide +kernel
theorem dX3_placeLimits_196 : decode cX3_placeLimits 196 = .ok (.getfield 46, 3) := by decide +kernel
theorem dX3_placeLimits_199 : decode cX3_placeLimits 199 = .ok (.iload_n 3, 1) := by decide +kernel
theorem dX3_placeLimits_200 : decode cX3_placeLimits 200 = .ok (.iload 7, 2) := by decide +kernel
theorem dX3_placeLimits_202 : decode cX3_placeLimits 202 = .ok (.iastore, 1) := by decide +kernel
theorem dX3_placeLimits_203 : decode cX3_placeLimits 203 = .ok (.return_, 1) := by decide +kernel
theorem dX3_placeScripts_0 : decode cX3_placeScripts 0 = .ok (.iload_n 1, 1) := by decide +kernel
theorem dX3_placeScripts_1 : decode cX3_placeScripts 1 = .ok (.invokestatic 96, 3) := by decide +kernel
theorem dX3_placeScripts_4 : decode cX3_placeScripts 4 = .ok (.istore 4, 2) := by decide +kernel
theorem dX3_placeScripts_6 : decode cX3_placeScripts 6 = .ok (.aload_n 0, 1) := by decide +kernel
theorem dX3_placeScripts_7 : decode cX3_placeScripts 7 = .ok (.getfield 35, 3) := by decide +kernel
theorem dX3_placeScripts_10 : decode cX3_placeScripts 10 = .ok (.getfield 140, 3) := by decide +kernel
theorem dX3_placeScripts_13 : decode cX3_placeScripts 13 = .ok (.iload_n 1, 1) := by decide +kernel
theorem dX3_placeScripts_14 : decode cX3_placeScripts 14 = .ok (.iaload, 1) := by decide +kernel
theorem dX3_placeScripts_15 : decode cX3_placeScripts 15 = .ok (.istore 5, 2) := by decide +kernel
theorem dX3_placeScripts_17 : decode cX3_placeScripts 17 = .ok (.aload_n 0, 1) := by decide +kernel
theorem dX3_placeScripts_18 : decode cX3_placeScripts 18 = .ok (.getfield 35, 3) := by decide +kernel
theorem dX3_placeScripts_21 : decode cX3_placeScripts 21 = .ok (.getfield 143, 3) := by decide +kernel
theorem dX3_placeScripts_24 : decode cX3_placeScripts 24 = .ok (.iload_n 1, 1) := by decide +kernel
theorem dX3_placeScripts_25 : decode cX3_placeScripts 25 = .ok (.iaload, 1) := by decide +kernel
theorem dX3_placeScripts_26 : decode cX3_placeScripts 26 = .ok (.istore 6, 2) := by decide +kernel
theorem dX3_placeScripts_28 : decode cX3_placeScripts 28 = .ok (.aload_n 0, 1) := by decide +kernel
theorem dX3_placeScripts_29 : decode cX3_placeScripts 29 = .ok (.getfield 12, 3) := by decide +kernel
theorem dX3_placeScripts_32 : decode cX3_placeScripts 32 = .ok (.getfield 49, 3) := by decide +kernel
theorem dX3_placeScripts_35 : decode cX3_placeScripts 35 = .ok (.iload 4, 2) := by decide +kernel
theorem dX3_placeScripts_37 : decode cX3_placeScripts 37 = .ok (.iaload, 1) := by decide +kernel
theorem dX3_placeScripts_38 : decode cX3_placeScripts 38 = .ok (.iconst 2, 1) := by decide +kernel
theorem dX3_placeScripts_39 : decode cX3_placeScripts 39 = .ok (.iload_n 2, 1) := by decide +kernel
theorem dX3_placeScripts_40 : decode cX3_placeScripts 40 = .ok (.imul, 1) := by decide +kernel
theorem dX3_placeScripts_41 : decode cX3_placeScripts 41 = .ok (.isub, 1) := by decide +kernel
theorem dX3_placeScripts_42 : decode cX3_placeScripts 42 = .ok (.iload_n 3, 1) := by decide +kernel
theorem dX3_placeScripts_43 : decode cX3_placeScripts 43 = .ok (.ifCond .eq 9, 3) := by decide +kernel
theorem dX3_placeScripts_46 : decode cX3_placeScripts 46 = .ok (.iconst 3, 1) := by decide +kernel
theorem dX3_placeScripts_47 : decode cX3_placeScripts 47 = .ok (.iload_n 2, 1) := by decide +kernel
theorem dX3_placeScripts_48 : decode cX3_placeScripts 48 = .ok (.imul, 1) := by decide +kernel
theorem dX3_placeScripts_49 : decode cX3_placeScripts 49 = .ok (.goto 6, 3) := by decide +kernel
theorem dX3_placeScripts_52 : decode cX3_placeScripts 52 = .ok (.iconst 4, 1) := by decide +kernel
theorem dX3_placeScripts_53 : decode cX3_placeScripts 53 = .ok (.iload_n 2, 1) := by decide +kernel
theorem dX3_placeScripts_54 : decode cX3_placeScripts 54 = .ok (.imul, 1) := by decide +kernel
theorem dX3_placeScripts_55 : decode cX3_placeScripts 55 = .ok (.invokestatic 156, 3) := by decide +kernel
theorem dX3_placeScripts_58 : decode cX3_placeScripts 58 = .ok (.istore 7, 2) := by decide +kernel
theorem dX3_placeScripts_60 : decode cX3_placeScripts 60 = .ok (.iload 7, 2) := by decide +kernel
theorem dX3_placeScripts_62 : decode cX3_placeScripts 62 = .ok (.aload_n 0, 1) := by decide +kernel
theorem dX3_placeScripts_63 : decode cX3_placeScripts 63 = .ok (.getfield 12, 3) := by decide +kernel
theorem dX3_placeScripts_66 : decode cX3_placeScripts 66 = .ok (.iload 5, 2) := by decide +kernel
theorem dX3_placeScripts_68 : decode cX3_placeScripts 68 = .ok (.invokevirtual 161, 3) := by decide +kernel
theorem dX3_placeScripts_71 : decode cX3_placeScripts 71 = .ok (.iload_n 2, 1) := by decide +kernel
theorem dX3_placeScripts_72 : decode cX3_placeScripts 72 = .ok (.iadd, 1) := by decide +kernel
theorem dX3_placeScripts_73 : decode cX3_placeScripts 73 = .ok (.invokestatic 156, 3) := by decide +kernel
theorem dX3_placeScripts_76 : decode cX3_placeScripts 76 = .ok (.istore 7, 2) := by decide +kernel
theorem dX3_placeScripts_78 : decode cX3_placeScripts 78 = .ok (.aload_n 0, 1) := by decide +kernel
theorem dX3_placeScripts_79 : decode cX3_placeScripts 79 = .ok (.getfield 12, 3) := by decide +kernel
theorem dX3_placeScripts_82 : decode cX3_placeScripts 82 = .ok (.getfield 51, 3) := by decide +kernel
theorem dX3_placeScripts_85 : decode cX3_placeScripts 85 = .ok (.iload 4, 2) := by decide +kernel
theorem dX3_placeScripts_87 : decode cX3_placeScripts 87 = .ok (.iaload, 1) := by decide +kernel
theorem dX3_placeScripts_88 : decode cX3_placeScripts 88 = .ok (.iload_n 2, 1) := by decide +kernel
theorem dX3_placeScripts_89 : decode cX3_placeScripts 89 = .ok (.iadd, 1) := by decide +kernel
theorem dX3_placeScripts_90 : decode cX3_placeScripts 90 = .ok (.iconst 2, 1) := by decide +kernel
theorem dX3_placeScripts_91 : decode cX3_placeScripts 91 = .ok (.iload_n 2, 1) := by decide +kernel
theorem dX3_placeScripts_92 : decode cX3_placeScripts 92 = .ok (.imul, 1) := by decide +kernel
theorem dX3_placeScripts_93 : decode cX3_placeScripts 93 = .ok (.invokestatic 156, 3) := by decide +kernel
theorem dX3_placeScripts_96 : decode cX3_placeScripts 96 = .ok (.istore 8, 2) := by decide +kernel
theorem dX3_placeScripts_98 : decode cX3_placeScripts 98 = .ok (.iload 8, 2) := by decide +kernel
theorem dX3_placeScripts_100 : decode cX3_placeScripts 100 = .ok (.aload_n 0, 1) := by decide +kernel
theorem dX3_placeScripts_101 : decode cX3_placeScripts 101 = .ok (.getfield 12, 3) := by decide +kernel
theorem dX3_placeScripts_104 : decode cX3_placeScripts 104 = .ok (.iload 6, 2) := by decide +kernel
theorem dX3_placeScripts_106 : decode cX3_placeScripts 106 = .ok (.invokevirtual 164, 3) := by decide +kernel
theorem dX3_placeScripts_109 : decode cX3_placeScripts 109 = .ok (.iconst 4, 1) := by decide +kernel
theorem dX3_placeScripts_110 : decode cX3_placeScripts 110 = .ok (.iload_n 2, 1) := by decide +kernel
theorem dX3_placeScripts_111 : decode cX3_placeScripts 111 = .ok (.imul, 1) := by decide +kernel
theorem dX3_placeScripts_112 : decode cX3_placeScripts 112 = .ok (.isub, 1) := by decide +kernel
theorem dX3_placeScripts_113 : decode cX3_placeScripts 113 = .ok (.invokestatic 156, 3) := by decide +kernel
theorem dX3_placeScripts_116 : decode cX3_placeScripts 116 = .ok (.istore 8, 2) := by decide +kernel
theorem dX3_placeScripts_118 : decode cX3_placeScripts 118 = .ok (.iload 5, 2) := by decide +kernel
theorem dX3_placeScripts_120 : decode cX3_placeScripts 120 = .ok (.iconst (-1), 1) := by decide +kernel
theorem dX3_placeScripts_121 : decode cX3_placeScripts 121 = .ok (.if_icmp .eq 49, 3) := by decide +kernel
theorem dX3_placeScripts_124 : decode cX3_placeScripts 124 = .ok (.iload 6, 2) := by decide +kernel
theorem dX3_placeScripts_126 : decode cX3_placeScripts 126 = .ok (.iconst (-1), 1) := by decide +kernel
theorem dX3_placeScripts_127 : decode cX3_placeScripts 127 = .ok (.if_icmp .eq 43, 3) := by decide +kernel
theorem dX3_placeScripts_130 : decode cX3_placeScripts 130 = .ok (.iload 7, 2) := by decide +kernel
theorem dX3_placeScripts_132 : decode cX3_placeScripts 132 = .ok (.aload_n 0, 1) := by decide +kernel
theorem dX3_placeScripts_133 : decode cX3_placeScripts 133 = .ok (.getfield 12, 3) := by decide +kernel
theorem dX3_placeScripts_136 : decode cX3_placeScripts 136 = .ok (.iload 5, 2) := by decide +kernel
theorem dX3_placeScripts_138 : decode cX3_placeScripts 138 = .ok (.invokevirtual 161, 3) := by decide +kernel
theorem dX3_placeScripts_141 : decode cX3_placeScripts 141 = .ok (.isub, 1) := by decide +kernel
theorem dX3_placeScripts_142 : decode cX3_placeScripts 142 = .ok (.aload_n 0, 1) := by decide +kernel
theorem dX3_placeScripts_143 : decode cX3_placeScripts 143 = .ok (.getfield 12, 3) := by decide +kernel
theorem dX3_placeScripts_146 : decode cX3_placeScripts 146 = .ok (.iload 6, 2) := by decide +kernel
theorem dX3_placeScripts_148 : decode cX3_placeScripts 148 = .ok (.invokevirtual 164, 3) := by decide +kernel
theorem dX3_placeScripts_151 : decode cX3_placeScripts 151 = .ok (.iload 8, 2) := by decide +kernel
theorem dX3_placeScripts_153 : decode cX3_placeScripts 153 = .ok (.isub, 1) := by decide +kernel
theorem dX3_placeScripts_154 : decode cX3_placeScripts 154 = .ok (.isub, 1) := by decide +kernel
theorem dX3_placeScripts_155 : decode cX3_placeScripts 155 = .ok (.istore 9, 2) := by decide +kernel
theorem dX3_placeScripts_157 : decode cX3_placeScripts 157 = .ok (.iload 8, 2) := by decide +kernel
theorem dX3_placeScripts_159 : decode cX3_placeScripts 159 = .ok (.iconst 0, 1) := by decide +kernel
theorem dX3_placeScripts_160 : decode cX3_placeScripts 160 = .ok (.iload_n 2, 1) := by decide +kernel
theorem dX3_placeScripts_161 : decode cX3_placeScripts 161 = .ok (.iload 9, 2) := by decide +kernel
theorem dX3_placeScripts_163 : decode cX3_placeScripts 163 = .ok (.isub, 1) := by decide +kernel
theorem dX3_placeScripts_164 : decode cX3_placeScripts 164 = .ok (.invokestatic 156, 3) := by decide +kernel
theorem dX3_placeScripts_167 : decode cX3_placeScripts 167 = .ok (.iadd, 1) := by decide +kernel
theorem dX3_placeScripts_168 : decode cX3_placeScripts 168 = .ok (.istore 8, 2) := by decide +kernel
theorem dX3_placeScripts_170 : decode cX3_placeScripts 170 = .ok (.aload_n 0, 1) := by decide +kernel
theorem dX3_placeScripts_171 : decode cX3_placeScripts 171 = .ok (.getfield 12, 3) := by decide +kernel
theorem dX3_placeScripts_174 : decode cX3_placeScripts 174 = .ok (.getfield 46, 3) := by decide +kernel
theorem dX3_placeScripts_177 : decode cX3_placeScripts 177 = .ok (.iload 4, 2) := by decide +kernel
theorem dX3_placeScripts_179 : decode cX3_placeScripts 179 = .ok (.iaload, 1) := by decide +kernel
theorem dX3_placeScripts_180 : decode cX3_placeScripts 180 = .ok (.istore 9, 2) := by decide +kernel
theorem dX3_placeScripts_182 : decode cX3_placeScripts 182 = .ok (.aload_n 0, 1) := by decide +kernel
theorem dX3_placeScripts_183 : decode cX3_placeScripts 183 = .ok (.iload 4, 2) := by decide +kernel
theorem dX3_placeScripts_185 : decode cX3_placeScripts 185 = .ok (.iload 5, 2) := by decide +kernel
theorem dX3_placeScripts_187 : decode cX3_placeScripts 187 = .ok (.iload 9, 2) := by decide +kernel
theorem dX3_placeScripts_189 : decode cX3_placeScripts 189 = .ok (.iload 7, 2) := by decide +kernel
theorem dX3_placeScripts_191 : decode cX3_placeScripts 191 = .ok (.invokevirtual 167, 3) := by decide +kernel
theorem dX3_placeScripts_194 : decode cX3_placeScripts 194 = .ok (.aload_n 0, 1) := by decide +kernel
theorem dX3_placeScripts_195 : decode cX3_placeScripts 195 = .ok (.iload 4, 2) := by decide +kernel
theorem dX3_placeScripts_197 : decode cX3_placeScripts 197 = .ok (.iload 6, 2) := by decide +kernel
theorem dX3_placeScripts_199 : decode cX3_placeScripts 199 = .ok (.iload 9, 2) := by decide +kernel
theorem dX3_placeScripts_201 : decode cX3_placeScripts 201 = .ok (.iload 8, 2) := by decide +kernel
theorem dX3_placeScripts_203 : decode cX3_placeScripts 203 = .ok (.ineg, 1) := by decide +kernel
theorem dX3_placeScripts_204 : decode cX3_placeScripts 204 = .ok (.invokevirtual 167, 3) := by decide +kernel
theorem dX3_placeScripts_207 : decode cX3_placeScripts 207 = .ok (.aload_n 0, 1) := by decide +kernel
theorem dX3_placeScripts_208 : decode cX3_placeScripts 208 = .ok (.getfield 12, 3) := by decide +kernel
theorem dX3_placeScripts_211 : decode cX3_placeScripts 211 = .ok (.getfield 46, 3) := by decide +kernel
theorem dX3_placeScripts_214 : decode cX3_placeScripts 214 = .ok (.iload 4, 2) := by decide +kernel
theorem dX3_placeScripts_216 : decode cX3_placeScripts 216 = .ok (.iload 9, 2) := by decide +kernel
theorem dX3_placeScripts_218 : decode cX3_placeScripts 218 = .ok (.aload_n 0, 1) := by decide +kernel
theorem dX3_placeScripts_219 : decode cX3_placeScripts 219 = .ok (.getfield 12, 3) := by decide +kernel
theorem dX3_placeScripts_222 : decode cX3_placeScripts 222 = .ok (.iload 5, 2) := by decide +kernel
theorem dX3_placeScripts_224 : decode cX3_placeScripts 224 = .ok (.invokevirtual 153, 3) := by decide +kernel
