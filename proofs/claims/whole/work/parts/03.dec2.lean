theorem dM_roomAt_0 : decode cM_roomAt 0 = .ok (.aload_n 0, 1) := by decide +kernel
theorem dM_roomAt_1 : decode cM_roomAt 1 = .ok (.getfield 7, 3) := by decide +kernel
theorem dM_roomAt_4 : decode cM_roomAt 4 = .ok (.istore_n 3, 1) := by decide +kernel
theorem dM_roomAt_5 : decode cM_roomAt 5 = .ok (.iconst 0, 1) := by decide +kernel
theorem dM_roomAt_6 : decode cM_roomAt 6 = .ok (.istore 4, 2) := by decide +kernel
theorem dM_roomAt_8 : decode cM_roomAt 8 = .ok (.iload 4, 2) := by decide +kernel
theorem dM_roomAt_10 : decode cM_roomAt 10 = .ok (.iload_n 2, 1) := by decide +kernel
theorem dM_roomAt_11 : decode cM_roomAt 11 = .ok (.if_icmp .ge 29, 3) := by decide +kernel
theorem dM_roomAt_14 : decode cM_roomAt 14 = .ok (.iload_n 3, 1) := by decide +kernel
theorem dM_roomAt_15 : decode cM_roomAt 15 = .ok (.aload_n 0, 1) := by decide +kernel
theorem dM_roomAt_16 : decode cM_roomAt 16 = .ok (.getfield 26, 3) := by decide +kernel
theorem dM_roomAt_19 : decode cM_roomAt 19 = .ok (.iload_n 1, 1) := by decide +kernel
theorem dM_roomAt_20 : decode cM_roomAt 20 = .ok (.iload 4, 2) := by decide +kernel
theorem dM_roomAt_22 : decode cM_roomAt 22 = .ok (.iadd, 1) := by decide +kernel
theorem dM_roomAt_23 : decode cM_roomAt 23 = .ok (.iaload, 1) := by decide +kernel
theorem dM_roomAt_24 : decode cM_roomAt 24 = .ok (.aload_n 0, 1) := by decide +kernel
theorem dM_roomAt_25 : decode cM_roomAt 25 = .ok (.getfield 13, 3) := by decide +kernel
theorem dM_roomAt_28 : decode cM_roomAt 28 = .ok (.iload 4, 2) := by decide +kernel
theorem dM_roomAt_30 : decode cM_roomAt 30 = .ok (.iaload, 1) := by decide +kernel
theorem dM_roomAt_31 : decode cM_roomAt 31 = .ok (.imul, 1) := by decide +kernel
theorem dM_roomAt_32 : decode cM_roomAt 32 = .ok (.isub, 1) := by decide +kernel
theorem dM_roomAt_33 : decode cM_roomAt 33 = .ok (.istore_n 3, 1) := by decide +kernel
theorem dM_roomAt_34 : decode cM_roomAt 34 = .ok (.iinc 4 1, 3) := by decide +kernel
theorem dM_roomAt_37 : decode cM_roomAt 37 = .ok (.goto (-29), 3) := by decide +kernel
theorem dM_roomAt_40 : decode cM_roomAt 40 = .ok (.iload_n 3, 1) := by decide +kernel
theorem dM_roomAt_41 : decode cM_roomAt 41 = .ok (.ireturn, 1) := by decide +kernel
theorem dM_sumAt_0 : decode cM_sumAt 0 = .ok (.iconst 0, 1) := by decide +kernel
theorem dM_sumAt_1 : decode cM_sumAt 1 = .ok (.istore_n 2, 1) := by decide +kernel
theorem dM_sumAt_2 : decode cM_sumAt 2 = .ok (.iconst 0, 1) := by decide +kernel
theorem dM_sumAt_3 : decode cM_sumAt 3 = .ok (.istore_n 3, 1) := by decide +kernel
theorem dM_sumAt_4 : decode cM_sumAt 4 = .ok (.iload_n 3, 1) := by decide +kernel
theorem dM_sumAt_5 : decode cM_sumAt 5 = .ok (.aload_n 0, 1) := by decide +kernel
theorem dM_sumAt_6 : decode cM_sumAt 6 = .ok (.getfield 41, 3) := by decide +kernel
theorem dM_sumAt_9 : decode cM_sumAt 9 = .ok (.if_icmp .ge 27, 3) := by decide +kernel
theorem dM_sumAt_12 : decode cM_sumAt 12 = .ok (.iload_n 2, 1) := by decide +kernel
theorem dM_sumAt_13 : decode cM_sumAt 13 = .ok (.aload_n 0, 1) := by decide +kernel
theorem dM_sumAt_14 : decode cM_sumAt 14 = .ok (.getfield 26, 3) := by decide +kernel
theorem dM_sumAt_17 : decode cM_sumAt 17 = .ok (.iload_n 1, 1) := by decide +kernel
theorem dM_sumAt_18 : decode cM_sumAt 18 = .ok (.iload_n 3, 1) := by decide +kernel
theorem dM_sumAt_19 : decode cM_sumAt 19 = .ok (.iadd, 1) := by decide +kernel
theorem dM_sumAt_20 : decode cM_sumAt 20 = .ok (.iaload, 1) := by decide +kernel
theorem dM_sumAt_21 : decode cM_sumAt 21 = .ok (.aload_n 0, 1) := by decide +kernel
theorem dM_sumAt_22 : decode cM_sumAt 22 = .ok (.getfield 20, 3) := by decide +kernel
theorem dM_sumAt_25 : decode cM_sumAt 25 = .ok (.iload_n 3, 1) := by decide +kernel
theorem dM_sumAt_26 : decode cM_sumAt 26 = .ok (.iaload, 1) := by decide +kernel
theorem dM_sumAt_27 : decode cM_sumAt 27 = .ok (.imul, 1) := by decide +kernel
theorem dM_sumAt_28 : decode cM_sumAt 28 = .ok (.iadd, 1) := by decide +kernel
theorem dM_sumAt_29 : decode cM_sumAt 29 = .ok (.istore_n 2, 1) := by decide +kernel
theorem dM_sumAt_30 : decode cM_sumAt 30 = .ok (.iinc 3 1, 3) := by decide +kernel
theorem dM_sumAt_33 : decode cM_sumAt 33 = .ok (.goto (-29), 3) := by decide +kernel
theorem dM_sumAt_36 : decode cM_sumAt 36 = .ok (.iload_n 2, 1) := by decide +kernel
theorem dM_sumAt_37 : decode cM_sumAt 37 = .ok (.ireturn, 1) := by decide +kernel
theorem dM_goesDown_0 : decode cM_goesDown 0 = .ok (.iconst 4, 1) := by decide +kernel
theorem dM_goesDown_1 : decode cM_goesDown 1 = .ok (.istore_n 2, 1) := by decide +kernel
theorem dM_goesDown_2 : decode cM_goesDown 2 = .ok (.iload_n 2, 1) := by decide +kernel
theorem dM_goesDown_3 : decode cM_goesDown 3 = .ok (.ifCond .lt 20, 3) := by decide +kernel
theorem dM_goesDown_6 : decode cM_goesDown 6 = .ok (.aload_n 0, 1) := by decide +kernel
theorem dM_goesDown_7 : decode cM_goesDown 7 = .ok (.getfield 26, 3) := by decide +kernel
theorem dM_goesDown_10 : decode cM_goesDown 10 = .ok (.iload_n 1, 1) := by decide +kernel
theorem dM_goesDown_11 : decode cM_goesDown 11 = .ok (.iload_n 2, 1) := by decide +kernel
theorem dM_goesDown_12 : decode cM_goesDown 12 = .ok (.iadd, 1) := by decide +kernel
theorem dM_goesDown_13 : decode cM_goesDown 13 = .ok (.iaload, 1) := by decide +kernel
theorem dM_goesDown_14 : decode cM_goesDown 14 = .ok (.ifCond .ne 9, 3) := by decide +kernel
theorem dM_goesDown_17 : decode cM_goesDown 17 = .ok (.iinc 2 (-1), 3) := by decide +kernel
theorem dM_goesDown_20 : decode cM_goesDown 20 = .ok (.goto (-18), 3) := by decide +kernel
theorem dM_goesDown_23 : decode cM_goesDown 23 = .ok (.iload_n 2, 1) := by decide +kernel
theorem dM_goesDown_24 : decode cM_goesDown 24 = .ok (.ifCond .ge 5, 3) := by decide +kernel
theorem dM_goesDown_27 : decode cM_goesDown 27 = .ok (.iconst 0, 1) := by decide +kernel
theorem dM_goesDown_28 : decode cM_goesDown 28 = .ok (.ireturn, 1) := by decide +kernel
theorem dM_goesDown_29 : decode cM_goesDown 29 = .ok (.aload_n 0, 1) := by decide +kernel
theorem dM_goesDown_30 : decode cM_goesDown 30 = .ok (.getfield 26, 3) := by decide +kernel
theorem dM_goesDown_33 : decode cM_goesDown 33 = .ok (.iload_n 1, 1) := by decide +kernel
theorem dM_goesDown_34 : decode cM_goesDown 34 = .ok (.iload_n 2, 1) := by decide +kernel
theorem dM_goesDown_35 : decode cM_goesDown 35 = .ok (.iadd, 1) := by decide +kernel
theorem dM_goesDown_36 : decode cM_goesDown 36 = .ok (.dup2, 1) := by decide +kernel
theorem dM_goesDown_37 : decode cM_goesDown 37 = .ok (.iaload, 1) := by decide +kernel
theorem dM_goesDown_38 : decode cM_goesDown 38 = .ok (.iconst 1, 1) := by decide +kernel
theorem dM_goesDown_39 : decode cM_goesDown 39 = .ok (.isub, 1) := by decide +kernel
theorem dM_goesDown_40 : decode cM_goesDown 40 = .ok (.iastore, 1) := by decide +kernel
theorem dM_goesDown_41 : decode cM_goesDown 41 = .ok (.aload_n 0, 1) := by decide +kernel
theorem dM_goesDown_42 : decode cM_goesDown 42 = .ok (.iload_n 1, 1) := by decide +kernel
theorem dM_goesDown_43 : decode cM_goesDown 43 = .ok (.iload_n 2, 1) := by decide +kernel
theorem dM_goesDown_44 : decode cM_goesDown 44 = .ok (.iconst 1, 1) := by decide +kernel
theorem dM_goesDown_45 : decode cM_goesDown 45 = .ok (.iadd, 1) := by decide +kernel
theorem dM_goesDown_46 : decode cM_goesDown 46 = .ok (.invokevirtual 67, 3) := by decide +kernel
theorem dM_goesDown_49 : decode cM_goesDown 49 = .ok (.iconst 1, 1) := by decide +kernel
theorem dM_goesDown_50 : decode cM_goesDown 50 = .ok (.ireturn, 1) := by decide +kernel
theorem dM_columnOf_0 : decode cM_columnOf 0 = .ok (.aload_n 0, 1) := by decide +kernel
theorem dM_columnOf_1 : decode cM_columnOf 1 = .ok (.aload_n 0, 1) := by decide +kernel
theorem dM_columnOf_2 : decode cM_columnOf 2 = .ok (.iload_n 1, 1) := by decide +kernel
theorem dM_columnOf_3 : decode cM_columnOf 3 = .ok (.invokevirtual 59, 3) := by decide +kernel
theorem dM_columnOf_6 : decode cM_columnOf 6 = .ok (.ifCond .ne 7, 3) := by decide +kernel
theorem dM_columnOf_9 : decode cM_columnOf 9 = .ok (.iconst 1, 1) := by decide +kernel
theorem dM_columnOf_10 : decode cM_columnOf 10 = .ok (.goto 4, 3) := by decide +kernel
theorem dM_columnOf_13 : decode cM_columnOf 13 = .ok (.iconst 0, 1) := by decide +kernel
theorem dM_columnOf_14 : decode cM_columnOf 14 = .ok (.iconst 0, 1) := by decide +kernel
theorem dM_columnOf_15 : decode cM_columnOf 15 = .ok (.iconst 0, 1) := by decide +kernel
theorem dM_columnOf_16 : decode cM_columnOf 16 = .ok (.iconst 0, 1) := by decide +kernel
theorem dM_columnOf_17 : decode cM_columnOf 17 = .ok (.invokevirtual 52, 3) := by decide +kernel
theorem dM_columnOf_20 : decode cM_columnOf 20 = .ok (.ifCond .eq 5, 3) := by decide +kernel
theorem dM_columnOf_23 : decode cM_columnOf 23 = .ok (.iconst 0, 1) := by decide +kernel
theorem dM_columnOf_24 : decode cM_columnOf 24 = .ok (.ireturn, 1) := by decide +kernel
theorem dM_columnOf_25 : decode cM_columnOf 25 = .ok (.aload_n 0, 1) := by decide +kernel
theorem dM_columnOf_26 : decode cM_columnOf 26 = .ok (.invokevirtual 78, 3) := by decide +kernel
theorem dM_columnOf_29 : decode cM_columnOf 29 = .ok (.pop, 1) := by decide +kernel
theorem dM_columnOf_30 : decode cM_columnOf 30 = .ok (.aload_n 0, 1) := by decide +kernel
theorem dM_columnOf_31 : decode cM_columnOf 31 = .ok (.getfield 26, 3) := by decide +kernel
theorem dM_columnOf_34 : decode cM_columnOf 34 = .ok (.sipush 155, 3) := by decide +kernel
theorem dM_columnOf_37 : decode cM_columnOf 37 = .ok (.iload_n 1, 1) := by decide +kernel
theorem dM_columnOf_38 : decode cM_columnOf 38 = .ok (.iadd, 1) := by decide +kernel
theorem dM_columnOf_39 : decode cM_columnOf 39 = .ok (.iaload, 1) := by decide +kernel
theorem dM_columnOf_40 : decode cM_columnOf 40 = .ok (.ireturn, 1) := by decide +kernel
theorem dM_bound_0 : decode cM_bound 0 = .ok (.aload_n 0, 1) := by decide +kernel
theorem dM_bound_1 : decode cM_bound 1 = .ok (.iconst 0, 1) := by decide +kernel
theorem dM_bound_2 : decode cM_bound 2 = .ok (.putfield 38, 3) := by decide +kernel
theorem dM_bound_5 : decode cM_bound 5 = .ok (.aload_n 0, 1) := by decide +kernel
theorem dM_bound_6 : decode cM_bound 6 = .ok (.invokevirtual 82, 3) := by decide +kernel
theorem dM_bound_9 : decode cM_bound 9 = .ok (.ireturn, 1) := by decide +kernel
theorem dM_boundNow_0 : decode cM_boundNow 0 = .ok (.aload_n 0, 1) := by decide +kernel
theorem dM_boundNow_1 : decode cM_boundNow 1 = .ok (.invokevirtual 78, 3) := by decide +kernel
theorem dM_boundNow_4 : decode cM_boundNow 4 = .ok (.istore_n 1, 1) := by decide +kernel
theorem dM_boundNow_5 : decode cM_boundNow 5 = .ok (.iconst 0, 1) := by decide +kernel
theorem dM_boundNow_6 : decode cM_boundNow 6 = .ok (.istore_n 2, 1) := by decide +kernel
theorem dM_boundNow_7 : decode cM_boundNow 7 = .ok (.iconst 0, 1) := by decide +kernel
theorem dM_boundNow_8 : decode cM_boundNow 8 = .ok (.istore_n 3, 1) := by decide +kernel
theorem dM_boundNow_9 : decode cM_boundNow 9 = .ok (.iload_n 3, 1) := by decide +kernel
theorem dM_boundNow_10 : decode cM_boundNow 10 = .ok (.aload_n 0, 1) := by decide +kernel
theorem dM_boundNow_11 : decode cM_boundNow 11 = .ok (.getfield 41, 3) := by decide +kernel
theorem dM_boundNow_14 : decode cM_boundNow 14 = .ok (.if_icmp .ge 25, 3) := by decide +kernel
theorem dM_boundNow_17 : decode cM_boundNow 17 = .ok (.iload_n 2, 1) := by decide +kernel
theorem dM_boundNow_18 : decode cM_boundNow 18 = .ok (.aload_n 0, 1) := by decide +kernel
theorem dM_boundNow_19 : decode cM_boundNow 19 = .ok (.getfield 17, 3) := by decide +kernel
theorem dM_boundNow_22 : decode cM_boundNow 22 = .ok (.iload_n 3, 1) := by decide +kernel
theorem dM_boundNow_23 : decode cM_boundNow 23 = .ok (.iaload, 1) := by decide +kernel
theorem dM_boundNow_24 : decode cM_boundNow 24 = .ok (.aload_n 0, 1) := by decide +kernel
theorem dM_boundNow_25 : decode cM_boundNow 25 = .ok (.getfield 20, 3) := by decide +kernel
theorem dM_boundNow_28 : decode cM_boundNow 28 = .ok (.iload_n 3, 1) := by decide +kernel
theorem dM_boundNow_29 : decode cM_boundNow 29 = .ok (.iaload, 1) := by decide +kernel
theorem dM_boundNow_30 : decode cM_boundNow 30 = .ok (.imul, 1) := by decide +kernel
theorem dM_boundNow_31 : decode cM_boundNow 31 = .ok (.iadd, 1) := by decide +kernel
theorem dM_boundNow_32 : decode cM_boundNow 32 = .ok (.istore_n 2, 1) := by decide +kernel
theorem dM_boundNow_33 : decode cM_boundNow 33 = .ok (.iinc 3 1, 3) := by decide +kernel
theorem dM_boundNow_36 : decode cM_boundNow 36 = .ok (.goto (-27), 3) := by decide +kernel
theorem dM_boundNow_39 : decode cM_boundNow 39 = .ok (.iload_n 1, 1) := by decide +kernel
theorem dM_boundNow_40 : decode cM_boundNow 40 = .ok (.ifCond .ne 7, 3) := by decide +kernel
theorem dM_boundNow_43 : decode cM_boundNow 43 = .ok (.iconst 0, 1) := by decide +kernel
theorem dM_boundNow_44 : decode cM_boundNow 44 = .ok (.goto 10, 3) := by decide +kernel
theorem dM_boundNow_47 : decode cM_boundNow 47 = .ok (.iload_n 2, 1) := by decide +kernel
theorem dM_boundNow_48 : decode cM_boundNow 48 = .ok (.iload_n 1, 1) := by decide +kernel
theorem dM_boundNow_49 : decode cM_boundNow 49 = .ok (.iadd, 1) := by decide +kernel
theorem dM_boundNow_50 : decode cM_boundNow 50 = .ok (.iconst 1, 1) := by decide +kernel
theorem dM_boundNow_51 : decode cM_boundNow 51 = .ok (.isub, 1) := by decide +kernel
theorem dM_boundNow_52 : decode cM_boundNow 52 = .ok (.iload_n 1, 1) := by decide +kernel
theorem dM_boundNow_53 : decode cM_boundNow 53 = .ok (.idiv, 1) := by decide +kernel
theorem dM_boundNow_54 : decode cM_boundNow 54 = .ok (.ireturn, 1) := by decide +kernel
theorem dM_design_0 : decode cM_design 0 = .ok (.iconst 0, 1) := by decide +kernel
theorem dM_design_1 : decode cM_design 1 = .ok (.istore_n 2, 1) := by decide +kernel
theorem dM_design_2 : decode cM_design 2 = .ok (.iconst 0, 1) := by decide +kernel
theorem dM_design_3 : decode cM_design 3 = .ok (.istore_n 3, 1) := by decide +kernel
theorem dM_design_4 : decode cM_design 4 = .ok (.iload_n 3, 1) := by decide +kernel
theorem dM_design_5 : decode cM_design 5 = .ok (.aload_n 0, 1) := by decide +kernel
theorem dM_design_6 : decode cM_design 6 = .ok (.getfield 41, 3) := by decide +kernel
theorem dM_design_9 : decode cM_design 9 = .ok (.if_icmp .ge 41, 3) := by decide +kernel
theorem dM_design_12 : decode cM_design 12 = .ok (.iload_n 2, 1) := by decide +kernel
theorem dM_design_13 : decode cM_design 13 = .ok (.ifCond .ne 25, 3) := by decide +kernel
theorem dM_design_16 : decode cM_design 16 = .ok (.aload_n 0, 1) := by decide +kernel
theorem dM_design_17 : decode cM_design 17 = .ok (.getfield 17, 3) := by decide +kernel
theorem dM_design_20 : decode cM_design 20 = .ok (.iload_n 3, 1) := by decide +kernel
theorem dM_design_21 : decode cM_design 21 = .ok (.iaload, 1) := by decide +kernel
theorem dM_design_22 : decode cM_design 22 = .ok (.ifCond .le 20, 3) := by decide +kernel
theorem dM_design_25 : decode cM_design 25 = .ok (.aload_n 0, 1) := by decide +kernel
theorem dM_design_26 : decode cM_design 26 = .ok (.getfield 13, 3) := by decide +kernel
theorem dM_design_29 : decode cM_design 29 = .ok (.iload_n 3, 1) := by decide +kernel
theorem dM_design_30 : decode cM_design 30 = .ok (.iaload, 1) := by decide +kernel
theorem dM_design_31 : decode cM_design 31 = .ok (.aload_n 0, 1) := by decide +kernel
theorem dM_design_32 : decode cM_design 32 = .ok (.getfield 7, 3) := by decide +kernel
theorem dM_design_35 : decode cM_design 35 = .ok (.if_icmp .le 7, 3) := by decide +kernel
theorem dM_design_38 : decode cM_design 38 = .ok (.iconst 1, 1) := by decide +kernel
theorem dM_design_39 : decode cM_design 39 = .ok (.goto 4, 3) := by decide +kernel
theorem dM_design_42 : decode cM_design 42 = .ok (.iconst 0, 1) := by decide +kernel
theorem dM_design_43 : decode cM_design 43 = .ok (.istore_n 2, 1) := by decide +kernel
theorem dM_design_44 : decode cM_design 44 = .ok (.iinc 3 1, 3) := by decide +kernel
theorem dM_design_47 : decode cM_design 47 = .ok (.goto (-43), 3) := by decide +kernel
theorem dM_design_50 : decode cM_design 50 = .ok (.aload_n 0, 1) := by decide +kernel
theorem dM_design_51 : decode cM_design 51 = .ok (.iload_n 1, 1) := by decide +kernel
theorem dM_design_52 : decode cM_design 52 = .ok (.iconst 0, 1) := by decide +kernel
theorem dM_design_53 : decode cM_design 53 = .ok (.ldc 103, 2) := by decide +kernel
theorem dM_design_55 : decode cM_design 55 = .ok (.invokestatic 44, 3) := by decide +kernel
theorem dM_design_58 : decode cM_design 58 = .ok (.ifCond .ne 7, 3) := by decide +kernel
theorem dM_design_61 : decode cM_design 61 = .ok (.iconst 1, 1) := by decide +kernel
theorem dM_design_62 : decode cM_design 62 = .ok (.goto 4, 3) := by decide +kernel
theorem dM_design_65 : decode cM_design 65 = .ok (.iconst 0, 1) := by decide +kernel
theorem dM_design_66 : decode cM_design 66 = .ok (.iload_n 2, 1) := by decide +kernel
theorem dM_design_67 : decode cM_design 67 = .ok (.iconst 0, 1) := by decide +kernel
theorem dM_design_68 : decode cM_design 68 = .ok (.iconst 0, 1) := by decide +kernel
theorem dM_design_69 : decode cM_design 69 = .ok (.invokevirtual 52, 3) := by decide +kernel
theorem dM_design_72 : decode cM_design 72 = .ok (.ifCond .eq 5, 3) := by decide +kernel
theorem dM_design_75 : decode cM_design 75 = .ok (.iconst 0, 1) := by decide +kernel
theorem dM_design_76 : decode cM_design 76 = .ok (.ireturn, 1) := by decide +kernel
theorem dM_design_77 : decode cM_design 77 = .ok (.aload_n 0, 1) := by decide +kernel
theorem dM_design_78 : decode cM_design 78 = .ok (.iconst 1, 1) := by decide +kernel
theorem dM_design_79 : decode cM_design 79 = .ok (.putfield 48, 3) := by decide +kernel
theorem dM_design_82 : decode cM_design 82 = .ok (.aload_n 0, 1) := by decide +kernel
theorem dM_design_83 : decode cM_design 83 = .ok (.iconst 0, 1) := by decide +kernel
theorem dM_design_84 : decode cM_design 84 = .ok (.putfield 100, 3) := by decide +kernel
theorem dM_design_87 : decode cM_design 87 = .ok (.aload_n 0, 1) := by decide +kernel
theorem dM_design_88 : decode cM_design 88 = .ok (.iconst 0, 1) := by decide +kernel
theorem dM_design_89 : decode cM_design 89 = .ok (.putfield 97, 3) := by decide +kernel
theorem dM_design_92 : decode cM_design 92 = .ok (.aload_n 0, 1) := by decide +kernel
theorem dM_design_93 : decode cM_design 93 = .ok (.iconst (-1), 1) := by decide +kernel
theorem dM_design_94 : decode cM_design 94 = .ok (.putfield 29, 3) := by decide +kernel
theorem dM_design_97 : decode cM_design 97 = .ok (.iconst 0, 1) := by decide +kernel
theorem dM_design_98 : decode cM_design 98 = .ok (.istore_n 3, 1) := by decide +kernel
theorem dM_design_99 : decode cM_design 99 = .ok (.iload_n 3, 1) := by decide +kernel
theorem dM_design_100 : decode cM_design 100 = .ok (.iconst 5, 1) := by decide +kernel
theorem dM_design_101 : decode cM_design 101 = .ok (.if_icmp .ge 33, 3) := by decide +kernel
theorem dM_design_104 : decode cM_design 104 = .ok (.aload_n 0, 1) := by decide +kernel
theorem dM_design_105 : decode cM_design 105 = .ok (.getfield 23, 3) := by decide +kernel
theorem dM_design_108 : decode cM_design 108 = .ok (.iload_n 3, 1) := by decide +kernel
theorem dM_design_109 : decode cM_design 109 = .ok (.iload_n 3, 1) := by decide +kernel
theorem dM_design_110 : decode cM_design 110 = .ok (.aload_n 0, 1) := by decide +kernel
theorem dM_design_111 : decode cM_design 111 = .ok (.getfield 41, 3) := by decide +kernel
theorem dM_design_114 : decode cM_design 114 = .ok (.if_icmp .ge 12, 3) := by decide +kernel
theorem dM_design_117 : decode cM_design 117 = .ok (.aload_n 0, 1) := by decide +kernel
theorem dM_design_118 : decode cM_design 118 = .ok (.getfield 17, 3) := by decide +kernel
theorem dM_design_121 : decode cM_design 121 = .ok (.iload_n 3, 1) := by decide +kernel
theorem dM_design_122 : decode cM_design 122 = .ok (.iaload, 1) := by decide +kernel
theorem dM_design_123 : decode cM_design 123 = .ok (.goto 4, 3) := by decide +kernel
theorem dM_design_126 : decode cM_design 126 = .ok (.iconst 0, 1) := by decide +kernel
theorem dM_design_127 : decode cM_design 127 = .ok (.iastore, 1) := by decide +kernel
theorem dM_design_128 : decode cM_design 128 = .ok (.iinc 3 1, 3) := by decide +kernel
theorem dM_design_131 : decode cM_design 131 = .ok (.goto (-32), 3) := by decide +kernel
theorem dM_design_134 : decode cM_design 134 = .ok (.aload_n 0, 1) := by decide +kernel
theorem dM_design_135 : decode cM_design 135 = .ok (.iload_n 1, 1) := by decide +kernel
theorem dM_design_136 : decode cM_design 136 = .ok (.invokevirtual 104, 3) := by decide +kernel
theorem dM_design_139 : decode cM_design 139 = .ok (.aload_n 0, 1) := by decide +kernel
theorem dM_design_140 : decode cM_design 140 = .ok (.getfield 29, 3) := by decide +kernel
theorem dM_design_143 : decode cM_design 143 = .ok (.ireturn, 1) := by decide +kernel
theorem dM_search_0 : decode cM_search 0 = .ok (.iconst 0, 1) := by decide +kernel
theorem dM_search_1 : decode cM_search 1 = .ok (.istore_n 2, 1) := by decide +kernel
theorem dM_search_2 : decode cM_search 2 = .ok (.iconst 1, 1) := by decide +kernel
theorem dM_search_3 : decode cM_search 3 = .ok (.istore_n 3, 1) := by decide +kernel
theorem dM_search_4 : decode cM_search 4 = .ok (.aload_n 0, 1) := by decide +kernel
theorem dM_search_5 : decode cM_search 5 = .ok (.iconst 0, 1) := by decide +kernel
theorem dM_search_6 : decode cM_search 6 = .ok (.invokevirtual 91, 3) := by decide +kernel
theorem dM_search_9 : decode cM_search 9 = .ok (.ifCond .ne 4, 3) := by decide +kernel
theorem dM_search_12 : decode cM_search 12 = .ok (.return_, 1) := by decide +kernel
theorem dM_search_13 : decode cM_search 13 = .ok (.iload_n 2, 1) := by decide +kernel
theorem dM_search_14 : decode cM_search 14 = .ok (.ifCond .lt 170, 3) := by decide +kernel
theorem dM_search_17 : decode cM_search 17 = .ok (.iconst 5, 1) := by decide +kernel
theorem dM_search_18 : decode cM_search 18 = .ok (.iload_n 2, 1) := by decide +kernel
theorem dM_search_19 : decode cM_search 19 = .ok (.imul, 1) := by decide +kernel
theorem dM_search_20 : decode cM_search 20 = .ok (.istore 4, 2) := by decide +kernel
theorem dM_search_22 : decode cM_search 22 = .ok (.iconst 1, 1) := by decide +kernel
theorem dM_search_23 : decode cM_search 23 = .ok (.istore 5, 2) := by decide +kernel
theorem dM_search_25 : decode cM_search 25 = .ok (.iload_n 3, 1) := by decide +kernel
theorem dM_search_26 : decode cM_search 26 = .ok (.ifCond .eq 13, 3) := by decide +kernel
theorem dM_search_29 : decode cM_search 29 = .ok (.aload_n 0, 1) := by decide +kernel
theorem dM_search_30 : decode cM_search 30 = .ok (.iload 4, 2) := by decide +kernel
theorem dM_search_32 : decode cM_search 32 = .ok (.iconst 0, 1) := by decide +kernel
theorem dM_search_33 : decode cM_search 33 = .ok (.invokevirtual 67, 3) := by decide +kernel
theorem dM_search_36 : decode cM_search 36 = .ok (.goto 11, 3) := by decide +kernel
theorem dM_search_39 : decode cM_search 39 = .ok (.aload_n 0, 1) := by decide +kernel
theorem dM_search_40 : decode cM_search 40 = .ok (.iload 4, 2) := by decide +kernel
theorem dM_search_42 : decode cM_search 42 = .ok (.invokevirtual 75, 3) := by decide +kernel
theorem dM_search_45 : decode cM_search 45 = .ok (.istore 5, 2) := by decide +kernel
theorem dM_search_47 : decode cM_search 47 = .ok (.iload 5, 2) := by decide +kernel
theorem dM_search_49 : decode cM_search 49 = .ok (.ifCond .eq 24, 3) := by decide +kernel
theorem dM_search_52 : decode cM_search 52 = .ok (.aload_n 0, 1) := by decide +kernel
theorem dM_search_53 : decode cM_search 53 = .ok (.getfield 26, 3) := by decide +kernel
theorem dM_search_56 : decode cM_search 56 = .ok (.iload 4, 2) := by decide +kernel
theorem dM_search_58 : decode cM_search 58 = .ok (.aload_n 0, 1) := by decide +kernel
theorem dM_search_59 : decode cM_search 59 = .ok (.iload 4, 2) := by decide +kernel
theorem dM_search_61 : decode cM_search 61 = .ok (.invokevirtual 94, 3) := by decide +kernel
theorem dM_search_64 : decode cM_search 64 = .ok (.iadd, 1) := by decide +kernel
theorem dM_search_65 : decode cM_search 65 = .ok (.iaload, 1) := by decide +kernel
theorem dM_search_66 : decode cM_search 66 = .ok (.ifCond .le 7, 3) := by decide +kernel
theorem dM_search_69 : decode cM_search 69 = .ok (.iconst 1, 1) := by decide +kernel
theorem dM_search_70 : decode cM_search 70 = .ok (.goto 4, 3) := by decide +kernel
theorem dM_search_73 : decode cM_search 73 = .ok (.iconst 0, 1) := by decide +kernel
theorem dM_search_74 : decode cM_search 74 = .ok (.istore 5, 2) := by decide +kernel
theorem dM_search_76 : decode cM_search 76 = .ok (.iload 5, 2) := by decide +kernel
theorem dM_search_78 : decode cM_search 78 = .ok (.ifCond .ne 11, 3) := by decide +kernel
theorem dM_search_81 : decode cM_search 81 = .ok (.iinc 2 (-1), 3) := by decide +kernel
theorem dM_search_84 : decode cM_search 84 = .ok (.iconst 0, 1) := by decide +kernel
theorem dM_search_85 : decode cM_search 85 = .ok (.istore_n 3, 1) := by decide +kernel
theorem dM_search_86 : decode cM_search 86 = .ok (.goto 95, 3) := by decide +kernel
theorem dM_search_89 : decode cM_search 89 = .ok (.aload_n 0, 1) := by decide +kernel
theorem dM_search_90 : decode cM_search 90 = .ok (.getfield 97, 3) := by decide +kernel
theorem dM_search_93 : decode cM_search 93 = .ok (.iload_n 1, 1) := by decide +kernel
theorem dM_search_94 : decode cM_search 94 = .ok (.if_icmp .ne 9, 3) := by decide +kernel
theorem dM_search_97 : decode cM_search 97 = .ok (.aload_n 0, 1) := by decide +kernel
theorem dM_search_98 : decode cM_search 98 = .ok (.iconst 1, 1) := by decide +kernel
theorem dM_search_99 : decode cM_search 99 = .ok (.putfield 100, 3) := by decide +kernel
theorem dM_search_102 : decode cM_search 102 = .ok (.return_, 1) := by decide +kernel
theorem dM_search_103 : decode cM_search 103 = .ok (.aload_n 0, 1) := by decide +kernel
theorem dM_search_104 : decode cM_search 104 = .ok (.dup, 1) := by decide +kernel
theorem dM_search_105 : decode cM_search 105 = .ok (.getfield 97, 3) := by decide +kernel
theorem dM_search_108 : decode cM_search 108 = .ok (.iconst 1, 1) := by decide +kernel
theorem dM_search_109 : decode cM_search 109 = .ok (.iadd, 1) := by decide +kernel
theorem dM_search_110 : decode cM_search 110 = .ok (.putfield 97, 3) := by decide +kernel
theorem dM_search_113 : decode cM_search 113 = .ok (.iconst 0, 1) := by decide +kernel
theorem dM_search_114 : decode cM_search 114 = .ok (.istore 6, 2) := by decide +kernel
theorem dM_search_116 : decode cM_search 116 = .ok (.iload 6, 2) := by decide +kernel
theorem dM_search_118 : decode cM_search 118 = .ok (.iconst 5, 1) := by decide +kernel
theorem dM_search_119 : decode cM_search 119 = .ok (.if_icmp .ge 42, 3) := by decide +kernel
theorem dM_search_122 : decode cM_search 122 = .ok (.aload_n 0, 1) := by decide +kernel
theorem dM_search_123 : decode cM_search 123 = .ok (.getfield 23, 3) := by decide +kernel
theorem dM_search_126 : decode cM_search 126 = .ok (.iload 4, 2) := by decide +kernel
theorem dM_search_128 : decode cM_search 128 = .ok (.iconst 5, 1) := by decide +kernel
theorem dM_search_129 : decode cM_search 129 = .ok (.iadd, 1) := by decide +kernel
theorem dM_search_130 : decode cM_search 130 = .ok (.iload 6, 2) := by decide +kernel
theorem dM_search_132 : decode cM_search 132 = .ok (.iadd, 1) := by decide +kernel
theorem dM_search_133 : decode cM_search 133 = .ok (.aload_n 0, 1) := by decide +kernel
theorem dM_search_134 : decode cM_search 134 = .ok (.getfield 23, 3) := by decide +kernel
theorem dM_search_137 : decode cM_search 137 = .ok (.iload 4, 2) := by decide +kernel
theorem dM_search_139 : decode cM_search 139 = .ok (.iload 6, 2) := by decide +kernel
theorem dM_search_141 : decode cM_search 141 = .ok (.iadd, 1) := by decide +kernel
theorem dM_search_142 : decode cM_search 142 = .ok (.iaload, 1) := by decide +kernel
theorem dM_search_143 : decode cM_search 143 = .ok (.aload_n 0, 1) := by decide +kernel
theorem dM_search_144 : decode cM_search 144 = .ok (.getfield 26, 3) := by decide +kernel
theorem dM_search_147 : decode cM_search 147 = .ok (.iload 4, 2) := by decide +kernel
theorem dM_search_149 : decode cM_search 149 = .ok (.iload 6, 2) := by decide +kernel
theorem dM_search_151 : decode cM_search 151 = .ok (.iadd, 1) := by decide +kernel
theorem dM_search_152 : decode cM_search 152 = .ok (.iaload, 1) := by decide +kernel
theorem dM_search_153 : decode cM_search 153 = .ok (.isub, 1) := by decide +kernel
theorem dM_search_154 : decode cM_search 154 = .ok (.iastore, 1) := by decide +kernel
theorem dM_search_155 : decode cM_search 155 = .ok (.iinc 6 1, 3) := by decide +kernel
theorem dM_search_158 : decode cM_search 158 = .ok (.goto (-42), 3) := by decide +kernel
theorem dM_search_161 : decode cM_search 161 = .ok (.aload_n 0, 1) := by decide +kernel
theorem dM_search_162 : decode cM_search 162 = .ok (.iload_n 2, 1) := by decide +kernel
theorem dM_search_163 : decode cM_search 163 = .ok (.iconst 1, 1) := by decide +kernel
theorem dM_search_164 : decode cM_search 164 = .ok (.iadd, 1) := by decide +kernel
theorem dM_search_165 : decode cM_search 165 = .ok (.invokevirtual 91, 3) := by decide +kernel
theorem dM_search_168 : decode cM_search 168 = .ok (.istore_n 3, 1) := by decide +kernel
theorem dM_search_169 : decode cM_search 169 = .ok (.iload_n 3, 1) := by decide +kernel
theorem dM_search_170 : decode cM_search 170 = .ok (.ifCond .eq 9, 3) := by decide +kernel
theorem dM_search_173 : decode cM_search 173 = .ok (.iload_n 2, 1) := by decide +kernel
theorem dM_search_174 : decode cM_search 174 = .ok (.iconst 1, 1) := by decide +kernel
theorem dM_search_175 : decode cM_search 175 = .ok (.iadd, 1) := by decide +kernel
theorem dM_search_176 : decode cM_search 176 = .ok (.goto 4, 3) := by decide +kernel
theorem dM_search_179 : decode cM_search 179 = .ok (.iload_n 2, 1) := by decide +kernel
theorem dM_search_180 : decode cM_search 180 = .ok (.istore_n 2, 1) := by decide +kernel
theorem dM_search_181 : decode cM_search 181 = .ok (.goto (-168), 3) := by decide +kernel
theorem dM_search_184 : decode cM_search 184 = .ok (.return_, 1) := by decide +kernel
theorem dM_goesOn_0 : decode cM_goesOn 0 = .ok (.aload_n 0, 1) := by decide +kernel
theorem dM_goesOn_1 : decode cM_goesOn 1 = .ok (.getfield 29, 3) := by decide +kernel
theorem dM_goesOn_4 : decode cM_goesOn 4 = .ok (.ifCond .lt 21, 3) := by decide +kernel
theorem dM_goesOn_7 : decode cM_goesOn 7 = .ok (.iload_n 1, 1) := by decide +kernel
theorem dM_goesOn_8 : decode cM_goesOn 8 = .ok (.aload_n 0, 1) := by decide +kernel
theorem dM_goesOn_9 : decode cM_goesOn 9 = .ok (.iconst 5, 1) := by decide +kernel
theorem dM_goesOn_10 : decode cM_goesOn 10 = .ok (.iload_n 1, 1) := by decide +kernel
theorem dM_goesOn_11 : decode cM_goesOn 11 = .ok (.imul, 1) := by decide +kernel
theorem dM_goesOn_12 : decode cM_goesOn 12 = .ok (.invokevirtual 85, 3) := by decide +kernel
theorem dM_goesOn_15 : decode cM_goesOn 15 = .ok (.iadd, 1) := by decide +kernel
theorem dM_goesOn_16 : decode cM_goesOn 16 = .ok (.aload_n 0, 1) := by decide +kernel
theorem dM_goesOn_17 : decode cM_goesOn 17 = .ok (.getfield 29, 3) := by decide +kernel
theorem dM_goesOn_20 : decode cM_goesOn 20 = .ok (.if_icmp .lt 5, 3) := by decide +kernel
theorem dM_goesOn_23 : decode cM_goesOn 23 = .ok (.iconst 0, 1) := by decide +kernel
theorem dM_goesOn_24 : decode cM_goesOn 24 = .ok (.ireturn, 1) := by decide +kernel
theorem dM_goesOn_25 : decode cM_goesOn 25 = .ok (.aload_n 0, 1) := by decide +kernel
theorem dM_goesOn_26 : decode cM_goesOn 26 = .ok (.iconst 5, 1) := by decide +kernel
theorem dM_goesOn_27 : decode cM_goesOn 27 = .ok (.iload_n 1, 1) := by decide +kernel
theorem dM_goesOn_28 : decode cM_goesOn 28 = .ok (.imul, 1) := by decide +kernel
theorem dM_goesOn_29 : decode cM_goesOn 29 = .ok (.invokevirtual 88, 3) := by decide +kernel
theorem dM_goesOn_32 : decode cM_goesOn 32 = .ok (.ifCond .ne 5, 3) := by decide +kernel
theorem dM_goesOn_35 : decode cM_goesOn 35 = .ok (.iconst 1, 1) := by decide +kernel
theorem dM_goesOn_36 : decode cM_goesOn 36 = .ok (.ireturn, 1) := by decide +kernel
theorem dM_goesOn_37 : decode cM_goesOn 37 = .ok (.aload_n 0, 1) := by decide +kernel
theorem dM_goesOn_38 : decode cM_goesOn 38 = .ok (.iload_n 1, 1) := by decide +kernel
theorem dM_goesOn_39 : decode cM_goesOn 39 = .ok (.putfield 29, 3) := by decide +kernel
theorem dM_goesOn_42 : decode cM_goesOn 42 = .ok (.iconst 0, 1) := by decide +kernel
theorem dM_goesOn_43 : decode cM_goesOn 43 = .ok (.istore_n 2, 1) := by decide +kernel
theorem dM_goesOn_44 : decode cM_goesOn 44 = .ok (.iload_n 2, 1) := by decide +kernel
theorem dM_goesOn_45 : decode cM_goesOn 45 = .ok (.iconst 5, 1) := by decide +kernel
theorem dM_goesOn_46 : decode cM_goesOn 46 = .ok (.iload_n 1, 1) := by decide +kernel
theorem dM_goesOn_47 : decode cM_goesOn 47 = .ok (.imul, 1) := by decide +kernel
theorem dM_goesOn_48 : decode cM_goesOn 48 = .ok (.if_icmp .ge 21, 3) := by decide +kernel
theorem dM_goesOn_51 : decode cM_goesOn 51 = .ok (.aload_n 0, 1) := by decide +kernel
theorem dM_goesOn_52 : decode cM_goesOn 52 = .ok (.getfield 32, 3) := by decide +kernel
theorem dM_goesOn_55 : decode cM_goesOn 55 = .ok (.iload_n 2, 1) := by decide +kernel
theorem dM_goesOn_56 : decode cM_goesOn 56 = .ok (.aload_n 0, 1) := by decide +kernel
theorem dM_goesOn_57 : decode cM_goesOn 57 = .ok (.getfield 26, 3) := by decide +kernel
theorem dM_goesOn_60 : decode cM_goesOn 60 = .ok (.iload_n 2, 1) := by decide +kernel
theorem dM_goesOn_61 : decode cM_goesOn 61 = .ok (.iaload, 1) := by decide +kernel
theorem dM_goesOn_62 : decode cM_goesOn 62 = .ok (.iastore, 1) := by decide +kernel
theorem dM_goesOn_63 : decode cM_goesOn 63 = .ok (.iinc 2 1, 3) := by decide +kernel
theorem dM_goesOn_66 : decode cM_goesOn 66 = .ok (.goto (-22), 3) := by decide +kernel
theorem dM_goesOn_69 : decode cM_goesOn 69 = .ok (.iconst 0, 1) := by decide +kernel
theorem dM_goesOn_70 : decode cM_goesOn 70 = .ok (.ireturn, 1) := by decide +kernel
theorem dM_sheetsFor_0 : decode cM_sheetsFor 0 = .ok (.iconst 0, 1) := by decide +kernel
theorem dM_sheetsFor_1 : decode cM_sheetsFor 1 = .ok (.istore_n 2, 1) := by decide +kernel
theorem dM_sheetsFor_2 : decode cM_sheetsFor 2 = .ok (.iconst 0, 1) := by decide +kernel
theorem dM_sheetsFor_3 : decode cM_sheetsFor 3 = .ok (.istore_n 3, 1) := by decide +kernel
theorem dM_sheetsFor_4 : decode cM_sheetsFor 4 = .ok (.iload_n 3, 1) := by decide +kernel
theorem dM_sheetsFor_5 : decode cM_sheetsFor 5 = .ok (.aload_n 0, 1) := by decide +kernel
theorem dM_sheetsFor_6 : decode cM_sheetsFor 6 = .ok (.getfield 41, 3) := by decide +kernel
theorem dM_sheetsFor_9 : decode cM_sheetsFor 9 = .ok (.if_icmp .ge 27, 3) := by decide +kernel
theorem dM_sheetsFor_12 : decode cM_sheetsFor 12 = .ok (.iload_n 2, 1) := by decide +kernel
theorem dM_sheetsFor_13 : decode cM_sheetsFor 13 = .ok (.aload_n 0, 1) := by decide +kernel
theorem dM_sheetsFor_14 : decode cM_sheetsFor 14 = .ok (.getfield 23, 3) := by decide +kernel
theorem dM_sheetsFor_17 : decode cM_sheetsFor 17 = .ok (.iload_n 1, 1) := by decide +kernel
theorem dM_sheetsFor_18 : decode cM_sheetsFor 18 = .ok (.iload_n 3, 1) := by decide +kernel
theorem dM_sheetsFor_19 : decode cM_sheetsFor 19 = .ok (.iadd, 1) := by decide +kernel
theorem dM_sheetsFor_20 : decode cM_sheetsFor 20 = .ok (.iaload, 1) := by decide +kernel
theorem dM_sheetsFor_21 : decode cM_sheetsFor 21 = .ok (.aload_n 0, 1) := by decide +kernel
theorem dM_sheetsFor_22 : decode cM_sheetsFor 22 = .ok (.getfield 13, 3) := by decide +kernel
theorem dM_sheetsFor_25 : decode cM_sheetsFor 25 = .ok (.iload_n 3, 1) := by decide +kernel
theorem dM_sheetsFor_26 : decode cM_sheetsFor 26 = .ok (.iaload, 1) := by decide +kernel
theorem dM_sheetsFor_27 : decode cM_sheetsFor 27 = .ok (.imul, 1) := by decide +kernel
theorem dM_sheetsFor_28 : decode cM_sheetsFor 28 = .ok (.iadd, 1) := by decide +kernel
theorem dM_sheetsFor_29 : decode cM_sheetsFor 29 = .ok (.istore_n 2, 1) := by decide +kernel
theorem dM_sheetsFor_30 : decode cM_sheetsFor 30 = .ok (.iinc 3 1, 3) := by decide +kernel
theorem dM_sheetsFor_33 : decode cM_sheetsFor 33 = .ok (.goto (-29), 3) := by decide +kernel
theorem dM_sheetsFor_36 : decode cM_sheetsFor 36 = .ok (.iload_n 2, 1) := by decide +kernel
theorem dM_sheetsFor_37 : decode cM_sheetsFor 37 = .ok (.aload_n 0, 1) := by decide +kernel
theorem dM_sheetsFor_38 : decode cM_sheetsFor 38 = .ok (.getfield 7, 3) := by decide +kernel
theorem dM_sheetsFor_41 : decode cM_sheetsFor 41 = .ok (.iadd, 1) := by decide +kernel
theorem dM_sheetsFor_42 : decode cM_sheetsFor 42 = .ok (.iconst 1, 1) := by decide +kernel
theorem dM_sheetsFor_43 : decode cM_sheetsFor 43 = .ok (.isub, 1) := by decide +kernel
theorem dM_sheetsFor_44 : decode cM_sheetsFor 44 = .ok (.aload_n 0, 1) := by decide +kernel
theorem dM_sheetsFor_45 : decode cM_sheetsFor 45 = .ok (.getfield 7, 3) := by decide +kernel
theorem dM_sheetsFor_48 : decode cM_sheetsFor 48 = .ok (.idiv, 1) := by decide +kernel
theorem dM_sheetsFor_49 : decode cM_sheetsFor 49 = .ok (.ireturn, 1) := by decide +kernel
theorem dM_isNothingLeft_0 : decode cM_isNothingLeft 0 = .ok (.iconst 0, 1) := by decide +kernel
theorem dM_isNothingLeft_1 : decode cM_isNothingLeft 1 = .ok (.istore_n 2, 1) := by decide +kernel
theorem dM_isNothingLeft_2 : decode cM_isNothingLeft 2 = .ok (.iconst 0, 1) := by decide +kernel
theorem dM_isNothingLeft_3 : decode cM_isNothingLeft 3 = .ok (.istore_n 3, 1) := by decide +kernel
theorem dM_isNothingLeft_4 : decode cM_isNothingLeft 4 = .ok (.iload_n 3, 1) := by decide +kernel
theorem dM_isNothingLeft_5 : decode cM_isNothingLeft 5 = .ok (.aload_n 0, 1) := by decide +kernel
theorem dM_isNothingLeft_6 : decode cM_isNothingLeft 6 = .ok (.getfield 41, 3) := by decide +kernel
theorem dM_isNothingLeft_9 : decode cM_isNothingLeft 9 = .ok (.if_icmp .ge 20, 3) := by decide +kernel
theorem dM_isNothingLeft_12 : decode cM_isNothingLeft 12 = .ok (.iload_n 2, 1) := by decide +kernel
theorem dM_isNothingLeft_13 : decode cM_isNothingLeft 13 = .ok (.aload_n 0, 1) := by decide +kernel
theorem dM_isNothingLeft_14 : decode cM_isNothingLeft 14 = .ok (.getfield 23, 3) := by decide +kernel
theorem dM_isNothingLeft_17 : decode cM_isNothingLeft 17 = .ok (.iload_n 1, 1) := by decide +kernel
theorem dM_isNothingLeft_18 : decode cM_isNothingLeft 18 = .ok (.iload_n 3, 1) := by decide +kernel
theorem dM_isNothingLeft_19 : decode cM_isNothingLeft 19 = .ok (.iadd, 1) := by decide +kernel
theorem dM_isNothingLeft_20 : decode cM_isNothingLeft 20 = .ok (.iaload, 1) := by decide +kernel
theorem dM_isNothingLeft_21 : decode cM_isNothingLeft 21 = .ok (.iadd, 1) := by decide +kernel
theorem dM_isNothingLeft_22 : decode cM_isNothingLeft 22 = .ok (.istore_n 2, 1) := by decide +kernel
theorem dM_isNothingLeft_23 : decode cM_isNothingLeft 23 = .ok (.iinc 3 1, 3) := by decide +kernel
theorem dM_isNothingLeft_26 : decode cM_isNothingLeft 26 = .ok (.goto (-22), 3) := by decide +kernel
theorem dM_isNothingLeft_29 : decode cM_isNothingLeft 29 = .ok (.iload_n 2, 1) := by decide +kernel
theorem dM_isNothingLeft_30 : decode cM_isNothingLeft 30 = .ok (.ifCond .ne 7, 3) := by decide +kernel
theorem dM_isNothingLeft_33 : decode cM_isNothingLeft 33 = .ok (.iconst 1, 1) := by decide +kernel
theorem dM_isNothingLeft_34 : decode cM_isNothingLeft 34 = .ok (.goto 4, 3) := by decide +kernel
theorem dM_isNothingLeft_37 : decode cM_isNothingLeft 37 = .ok (.iconst 0, 1) := by decide +kernel
theorem dM_isNothingLeft_38 : decode cM_isNothingLeft 38 = .ok (.ireturn, 1) := by decide +kernel
theorem dM_lowestLeft_0 : decode cM_lowestLeft 0 = .ok (.iconst 0, 1) := by decide +kernel
theorem dM_lowestLeft_1 : decode cM_lowestLeft 1 = .ok (.istore_n 2, 1) := by decide +kernel
theorem dM_lowestLeft_2 : decode cM_lowestLeft 2 = .ok (.aload_n 0, 1) := by decide +kernel
theorem dM_lowestLeft_3 : decode cM_lowestLeft 3 = .ok (.getfield 23, 3) := by decide +kernel
theorem dM_lowestLeft_6 : decode cM_lowestLeft 6 = .ok (.iload_n 1, 1) := by decide +kernel
theorem dM_lowestLeft_7 : decode cM_lowestLeft 7 = .ok (.iload_n 2, 1) := by decide +kernel
theorem dM_lowestLeft_8 : decode cM_lowestLeft 8 = .ok (.iadd, 1) := by decide +kernel
theorem dM_lowestLeft_9 : decode cM_lowestLeft 9 = .ok (.iaload, 1) := by decide +kernel
theorem dM_lowestLeft_10 : decode cM_lowestLeft 10 = .ok (.ifCond .ne 9, 3) := by decide +kernel
theorem dM_lowestLeft_13 : decode cM_lowestLeft 13 = .ok (.iinc 2 1, 3) := by decide +kernel
theorem dM_lowestLeft_16 : decode cM_lowestLeft 16 = .ok (.goto (-14), 3) := by decide +kernel
theorem dM_lowestLeft_19 : decode cM_lowestLeft 19 = .ok (.iload_n 2, 1) := by decide +kernel
theorem dM_lowestLeft_20 : decode cM_lowestLeft 20 = .ok (.ireturn, 1) := by decide +kernel
theorem dM_designed_0 : decode cM_designed 0 = .ok (.aload_n 0, 1) := by decide +kernel
theorem dM_designed_1 : decode cM_designed 1 = .ok (.iload_n 1, 1) := by decide +kernel
theorem dM_designed_2 : decode cM_designed 2 = .ok (.iconst 0, 1) := by decide +kernel
theorem dM_designed_3 : decode cM_designed 3 = .ok (.iconst 1, 1) := by decide +kernel
theorem dM_designed_4 : decode cM_designed 4 = .ok (.invokestatic 44, 3) := by decide +kernel
theorem dM_designed_7 : decode cM_designed 7 = .ok (.ifCond .ne 7, 3) := by decide +kernel
theorem dM_designed_10 : decode cM_designed 10 = .ok (.iconst 1, 1) := by decide +kernel
theorem dM_designed_11 : decode cM_designed 11 = .ok (.goto 4, 3) := by decide +kernel
theorem dM_designed_14 : decode cM_designed 14 = .ok (.iconst 0, 1) := by decide +kernel
theorem dM_designed_15 : decode cM_designed 15 = .ok (.aload_n 0, 1) := by decide +kernel
theorem dM_designed_16 : decode cM_designed 16 = .ok (.getfield 48, 3) := by decide +kernel
theorem dM_designed_19 : decode cM_designed 19 = .ok (.ifCond .ne 7, 3) := by decide +kernel
theorem dM_designed_22 : decode cM_designed 22 = .ok (.iconst 1, 1) := by decide +kernel
theorem dM_designed_23 : decode cM_designed 23 = .ok (.goto 4, 3) := by decide +kernel
theorem dM_designed_26 : decode cM_designed 26 = .ok (.iconst 0, 1) := by decide +kernel
theorem dM_designed_27 : decode cM_designed 27 = .ok (.iconst 0, 1) := by decide +kernel
theorem dM_designed_28 : decode cM_designed 28 = .ok (.iconst 0, 1) := by decide +kernel
theorem dM_designed_29 : decode cM_designed 29 = .ok (.invokevirtual 52, 3) := by decide +kernel
theorem dM_designed_32 : decode cM_designed 32 = .ok (.ifCond .eq 5, 3) := by decide +kernel
theorem dM_designed_35 : decode cM_designed 35 = .ok (.iconst 0, 1) := by decide +kernel
theorem dM_designed_36 : decode cM_designed 36 = .ok (.ireturn, 1) := by decide +kernel
theorem dM_designed_37 : decode cM_designed 37 = .ok (.iload_n 1, 1) := by decide +kernel
theorem dM_designed_38 : decode cM_designed 38 = .ok (.iconst 1, 1) := by decide +kernel
theorem dM_designed_39 : decode cM_designed 39 = .ok (.if_icmp .ne 10, 3) := by decide +kernel
theorem dM_designed_42 : decode cM_designed 42 = .ok (.aload_n 0, 1) := by decide +kernel
theorem dM_designed_43 : decode cM_designed 43 = .ok (.getfield 97, 3) := by decide +kernel
theorem dM_designed_46 : decode cM_designed 46 = .ok (.goto 15, 3) := by decide +kernel
theorem dM_designed_49 : decode cM_designed 49 = .ok (.aload_n 0, 1) := by decide +kernel
theorem dM_designed_50 : decode cM_designed 50 = .ok (.getfield 100, 3) := by decide +kernel
theorem dM_designed_53 : decode cM_designed 53 = .ok (.ifCond .eq 7, 3) := by decide +kernel
theorem dM_designed_56 : decode cM_designed 56 = .ok (.iconst 1, 1) := by decide +kernel
theorem dM_designed_57 : decode cM_designed 57 = .ok (.goto 4, 3) := by decide +kernel
theorem dM_designed_60 : decode cM_designed 60 = .ok (.iconst 0, 1) := by decide +kernel
theorem dM_designed_61 : decode cM_designed 61 = .ok (.ireturn, 1) := by decide +kernel
theorem dM_gap_0 : decode cM_gap 0 = .ok (.aload_n 0, 1) := by decide +kernel
theorem dM_gap_1 : decode cM_gap 1 = .ok (.aload_n 0, 1) := by decide +kernel
theorem dM_gap_2 : decode cM_gap 2 = .ok (.getfield 29, 3) := by decide +kernel
theorem dM_gap_5 : decode cM_gap 5 = .ok (.ifCond .ge 7, 3) := by decide +kernel
theorem dM_gap_8 : decode cM_gap 8 = .ok (.iconst 1, 1) := by decide +kernel
theorem dM_gap_9 : decode cM_gap 9 = .ok (.goto 4, 3) := by decide +kernel
theorem dM_gap_12 : decode cM_gap 12 = .ok (.iconst 0, 1) := by decide +kernel
theorem dM_gap_13 : decode cM_gap 13 = .ok (.iconst 0, 1) := by decide +kernel
theorem dM_gap_14 : decode cM_gap 14 = .ok (.iconst 0, 1) := by decide +kernel
theorem dM_gap_15 : decode cM_gap 15 = .ok (.iconst 0, 1) := by decide +kernel
theorem dM_gap_16 : decode cM_gap 16 = .ok (.invokevirtual 52, 3) := by decide +kernel
theorem dM_gap_19 : decode cM_gap 19 = .ok (.ifCond .eq 5, 3) := by decide +kernel
theorem dM_gap_22 : decode cM_gap 22 = .ok (.iconst 0, 1) := by decide +kernel
theorem dM_gap_23 : decode cM_gap 23 = .ok (.ireturn, 1) := by decide +kernel
theorem dM_gap_24 : decode cM_gap 24 = .ok (.iconst 0, 1) := by decide +kernel
theorem dM_gap_25 : decode cM_gap 25 = .ok (.istore_n 1, 1) := by decide +kernel
theorem dM_gap_26 : decode cM_gap 26 = .ok (.iconst 0, 1) := by decide +kernel
theorem dM_gap_27 : decode cM_gap 27 = .ok (.istore_n 2, 1) := by decide +kernel
theorem dM_gap_28 : decode cM_gap 28 = .ok (.iload_n 2, 1) := by decide +kernel
theorem dM_gap_29 : decode cM_gap 29 = .ok (.aload_n 0, 1) := by decide +kernel
theorem dM_gap_30 : decode cM_gap 30 = .ok (.getfield 41, 3) := by decide +kernel
theorem dM_gap_33 : decode cM_gap 33 = .ok (.if_icmp .ge 25, 3) := by decide +kernel
theorem dM_gap_36 : decode cM_gap 36 = .ok (.iload_n 1, 1) := by decide +kernel
theorem dM_gap_37 : decode cM_gap 37 = .ok (.aload_n 0, 1) := by decide +kernel
theorem dM_gap_38 : decode cM_gap 38 = .ok (.getfield 17, 3) := by decide +kernel
theorem dM_gap_41 : decode cM_gap 41 = .ok (.iload_n 2, 1) := by decide +kernel
theorem dM_gap_42 : decode cM_gap 42 = .ok (.iaload, 1) := by decide +kernel
theorem dM_gap_43 : decode cM_gap 43 = .ok (.aload_n 0, 1) := by decide +kernel
theorem dM_gap_44 : decode cM_gap 44 = .ok (.getfield 13, 3) := by decide +kernel
theorem dM_gap_47 : decode cM_gap 47 = .ok (.iload_n 2, 1) := by decide +kernel
theorem dM_gap_48 : decode cM_gap 48 = .ok (.iaload, 1) := by decide +kernel
theorem dM_gap_49 : decode cM_gap 49 = .ok (.imul, 1) := by decide +kernel
theorem dM_gap_50 : decode cM_gap 50 = .ok (.iadd, 1) := by decide +kernel
theorem dM_gap_51 : decode cM_gap 51 = .ok (.istore_n 1, 1) := by decide +kernel
theorem dM_gap_52 : decode cM_gap 52 = .ok (.iinc 2 1, 3) := by decide +kernel
theorem dM_gap_55 : decode cM_gap 55 = .ok (.goto (-27), 3) := by decide +kernel
theorem dM_gap_58 : decode cM_gap 58 = .ok (.iload_n 1, 1) := by decide +kernel
theorem dM_gap_59 : decode cM_gap 59 = .ok (.aload_n 0, 1) := by decide +kernel
theorem dM_gap_60 : decode cM_gap 60 = .ok (.getfield 7, 3) := by decide +kernel
theorem dM_gap_63 : decode cM_gap 63 = .ok (.iadd, 1) := by decide +kernel
theorem dM_gap_64 : decode cM_gap 64 = .ok (.iconst 1, 1) := by decide +kernel
theorem dM_gap_65 : decode cM_gap 65 = .ok (.isub, 1) := by decide +kernel
theorem dM_gap_66 : decode cM_gap 66 = .ok (.aload_n 0, 1) := by decide +kernel
theorem dM_gap_67 : decode cM_gap 67 = .ok (.getfield 7, 3) := by decide +kernel
theorem dM_gap_70 : decode cM_gap 70 = .ok (.idiv, 1) := by decide +kernel
theorem dM_gap_71 : decode cM_gap 71 = .ok (.istore_n 2, 1) := by decide +kernel
theorem dM_gap_72 : decode cM_gap 72 = .ok (.aload_n 0, 1) := by decide +kernel
theorem dM_gap_73 : decode cM_gap 73 = .ok (.invokevirtual 82, 3) := by decide +kernel
theorem dM_gap_76 : decode cM_gap 76 = .ok (.istore_n 3, 1) := by decide +kernel
theorem dM_gap_77 : decode cM_gap 77 = .ok (.aload_n 0, 1) := by decide +kernel
theorem dM_gap_78 : decode cM_gap 78 = .ok (.getfield 29, 3) := by decide +kernel
theorem dM_gap_81 : decode cM_gap 81 = .ok (.iload_n 2, 1) := by decide +kernel
theorem dM_gap_82 : decode cM_gap 82 = .ok (.iload_n 3, 1) := by decide +kernel
theorem dM_gap_83 : decode cM_gap 83 = .ok (.if_icmp .le 7, 3) := by decide +kernel
theorem dM_gap_86 : decode cM_gap 86 = .ok (.iload_n 2, 1) := by decide +kernel
theorem dM_gap_87 : decode cM_gap 87 = .ok (.goto 4, 3) := by decide +kernel
theorem dM_gap_90 : decode cM_gap 90 = .ok (.iload_n 3, 1) := by decide +kernel
theorem dM_gap_91 : decode cM_gap 91 = .ok (.isub, 1) := by decide +kernel
theorem dM_gap_92 : decode cM_gap 92 = .ok (.ireturn, 1) := by decide +kernel
theorem dM_cut_0 : decode cM_cut 0 = .ok (.aload_n 0, 1) := by decide +kernel
theorem dM_cut_1 : decode cM_cut 1 = .ok (.iload_n 1, 1) := by decide +kernel
theorem dM_cut_2 : decode cM_cut 2 = .ok (.aload_n 0, 1) := by decide +kernel
theorem dM_cut_3 : decode cM_cut 3 = .ok (.iload_n 2, 1) := by decide +kernel
theorem dM_cut_4 : decode cM_cut 4 = .ok (.invokevirtual 59, 3) := by decide +kernel
theorem dM_cut_7 : decode cM_cut 7 = .ok (.invokevirtual 108, 3) := by decide +kernel
theorem dM_cut_10 : decode cM_cut 10 = .ok (.ifCond .eq 5, 3) := by decide +kernel
theorem dM_cut_13 : decode cM_cut 13 = .ok (.iconst 0, 1) := by decide +kernel
theorem dM_cut_14 : decode cM_cut 14 = .ok (.ireturn, 1) := by decide +kernel
theorem dM_cut_15 : decode cM_cut 15 = .ok (.aload_n 0, 1) := by decide +kernel
theorem dM_cut_16 : decode cM_cut 16 = .ok (.getfield 32, 3) := by decide +kernel
theorem dM_cut_19 : decode cM_cut 19 = .ok (.iconst 5, 1) := by decide +kernel
theorem dM_cut_20 : decode cM_cut 20 = .ok (.iload_n 1, 1) := by decide +kernel
theorem dM_cut_21 : decode cM_cut 21 = .ok (.imul, 1) := by decide +kernel
theorem dM_cut_22 : decode cM_cut 22 = .ok (.iload_n 2, 1) := by decide +kernel
theorem dM_cut_23 : decode cM_cut 23 = .ok (.iadd, 1) := by decide +kernel
theorem dM_cut_24 : decode cM_cut 24 = .ok (.iaload, 1) := by decide +kernel
theorem dM_cut_25 : decode cM_cut 25 = .ok (.ireturn, 1) := by decide +kernel
theorem dM_refuses_0 : decode cM_refuses 0 = .ok (.aload_n 0, 1) := by decide +kernel
theorem dM_refuses_1 : decode cM_refuses 1 = .ok (.iconst 0, 1) := by decide +kernel
theorem dM_refuses_2 : decode cM_refuses 2 = .ok (.aload_n 0, 1) := by decide +kernel
theorem dM_refuses_3 : decode cM_refuses 3 = .ok (.getfield 29, 3) := by decide +kernel
theorem dM_refuses_6 : decode cM_refuses 6 = .ok (.ifCond .ge 7, 3) := by decide +kernel
theorem dM_refuses_9 : decode cM_refuses 9 = .ok (.iconst 1, 1) := by decide +kernel
theorem dM_refuses_10 : decode cM_refuses 10 = .ok (.goto 4, 3) := by decide +kernel
theorem dM_refuses_13 : decode cM_refuses 13 = .ok (.iconst 0, 1) := by decide +kernel
theorem dM_refuses_14 : decode cM_refuses 14 = .ok (.iconst 0, 1) := by decide +kernel
theorem dM_refuses_15 : decode cM_refuses 15 = .ok (.iconst 0, 1) := by decide +kernel
theorem dM_refuses_16 : decode cM_refuses 16 = .ok (.invokevirtual 52, 3) := by decide +kernel
theorem dM_refuses_19 : decode cM_refuses 19 = .ok (.ifCond .eq 5, 3) := by decide +kernel
theorem dM_refuses_22 : decode cM_refuses 22 = .ok (.iconst 1, 1) := by decide +kernel
theorem dM_refuses_23 : decode cM_refuses 23 = .ok (.ireturn, 1) := by decide +kernel
theorem dM_refuses_24 : decode cM_refuses 24 = .ok (.aload_n 0, 1) := by decide +kernel
theorem dM_refuses_25 : decode cM_refuses 25 = .ok (.iload_n 1, 1) := by decide +kernel
theorem dM_refuses_26 : decode cM_refuses 26 = .ok (.iconst 0, 1) := by decide +kernel
theorem dM_refuses_27 : decode cM_refuses 27 = .ok (.aload_n 0, 1) := by decide +kernel
theorem dM_refuses_28 : decode cM_refuses 28 = .ok (.getfield 29, 3) := by decide +kernel
theorem dM_refuses_31 : decode cM_refuses 31 = .ok (.iconst 1, 1) := by decide +kernel
theorem dM_refuses_32 : decode cM_refuses 32 = .ok (.isub, 1) := by decide +kernel
theorem dM_refuses_33 : decode cM_refuses 33 = .ok (.invokestatic 44, 3) := by decide +kernel
theorem dM_refuses_36 : decode cM_refuses 36 = .ok (.ifCond .eq 7, 3) := by decide +kernel
theorem dM_refuses_39 : decode cM_refuses 39 = .ok (.iload_n 2, 1) := by decide +kernel
theorem dM_refuses_40 : decode cM_refuses 40 = .ok (.ifCond .ne 7, 3) := by decide +kernel
theorem dM_refuses_43 : decode cM_refuses 43 = .ok (.iconst 1, 1) := by decide +kernel
theorem dM_refuses_44 : decode cM_refuses 44 = .ok (.goto 4, 3) := by decide +kernel
theorem dM_refuses_47 : decode cM_refuses 47 = .ok (.iconst 0, 1) := by decide +kernel
theorem dM_refuses_48 : decode cM_refuses 48 = .ok (.iconst 0, 1) := by decide +kernel
theorem dM_refuses_49 : decode cM_refuses 49 = .ok (.iconst 0, 1) := by decide +kernel
theorem dM_refuses_50 : decode cM_refuses 50 = .ok (.iconst 0, 1) := by decide +kernel
theorem dM_refuses_51 : decode cM_refuses 51 = .ok (.invokevirtual 52, 3) := by decide +kernel
theorem dM_refuses_54 : decode cM_refuses 54 = .ok (.ireturn, 1) := by decide +kernel
theorem dM_over_0 : decode cM_over 0 = .ok (.aload_n 0, 1) := by decide +kernel
theorem dM_over_1 : decode cM_over 1 = .ok (.iload_n 1, 1) := by decide +kernel
theorem dM_over_2 : decode cM_over 2 = .ok (.iconst 1, 1) := by decide +kernel
theorem dM_over_3 : decode cM_over 3 = .ok (.invokevirtual 108, 3) := by decide +kernel
theorem dM_over_6 : decode cM_over 6 = .ok (.ifCond .eq 5, 3) := by decide +kernel
theorem dM_over_9 : decode cM_over 9 = .ok (.iconst 0, 1) := by decide +kernel
theorem dM_over_10 : decode cM_over 10 = .ok (.ireturn, 1) := by decide +kernel
theorem dM_over_11 : decode cM_over 11 = .ok (.aload_n 0, 1) := by decide +kernel
theorem dM_over_12 : decode cM_over 12 = .ok (.getfield 7, 3) := by decide +kernel
theorem dM_over_15 : decode cM_over 15 = .ok (.istore_n 2, 1) := by decide +kernel
theorem dM_over_16 : decode cM_over 16 = .ok (.iconst 0, 1) := by decide +kernel
theorem dM_over_17 : decode cM_over 17 = .ok (.istore_n 3, 1) := by decide +kernel
theorem dM_over_18 : decode cM_over 18 = .ok (.iload_n 3, 1) := by decide +kernel
theorem dM_over_19 : decode cM_over 19 = .ok (.aload_n 0, 1) := by decide +kernel
theorem dM_over_20 : decode cM_over 20 = .ok (.getfield 41, 3) := by decide +kernel
theorem dM_over_23 : decode cM_over 23 = .ok (.if_icmp .ge 29, 3) := by decide +kernel
theorem dM_over_26 : decode cM_over 26 = .ok (.iload_n 2, 1) := by decide +kernel
theorem dM_over_27 : decode cM_over 27 = .ok (.aload_n 0, 1) := by decide +kernel
theorem dM_over_28 : decode cM_over 28 = .ok (.getfield 32, 3) := by decide +kernel
theorem dM_over_31 : decode cM_over 31 = .ok (.iconst 5, 1) := by decide +kernel
theorem dM_over_32 : decode cM_over 32 = .ok (.iload_n 1, 1) := by decide +kernel
theorem dM_over_33 : decode cM_over 33 = .ok (.imul, 1) := by decide +kernel
theorem dM_over_34 : decode cM_over 34 = .ok (.iload_n 3, 1) := by decide +kernel
theorem dM_over_35 : decode cM_over 35 = .ok (.iadd, 1) := by decide +kernel
theorem dM_over_36 : decode cM_over 36 = .ok (.iaload, 1) := by decide +kernel
theorem dM_over_37 : decode cM_over 37 = .ok (.aload_n 0, 1) := by decide +kernel
theorem dM_over_38 : decode cM_over 38 = .ok (.getfield 13, 3) := by decide +kernel
theorem dM_over_41 : decode cM_over 41 = .ok (.iload_n 3, 1) := by decide +kernel
theorem dM_over_42 : decode cM_over 42 = .ok (.iaload, 1) := by decide +kernel
theorem dM_over_43 : decode cM_over 43 = .ok (.imul, 1) := by decide +kernel
theorem dM_over_44 : decode cM_over 44 = .ok (.isub, 1) := by decide +kernel
theorem dM_over_45 : decode cM_over 45 = .ok (.istore_n 2, 1) := by decide +kernel
theorem dM_over_46 : decode cM_over 46 = .ok (.iinc 3 1, 3) := by decide +kernel
theorem dM_over_49 : decode cM_over 49 = .ok (.goto (-31), 3) := by decide +kernel
theorem dM_over_52 : decode cM_over 52 = .ok (.iload_n 2, 1) := by decide +kernel
theorem dM_over_53 : decode cM_over 53 = .ok (.ireturn, 1) := by decide +kernel
theorem dM_keep_0 : decode cM_keep 0 = .ok (.aload_n 0, 1) := by decide +kernel
theorem dM_keep_1 : decode cM_keep 1 = .ok (.iload_n 1, 1) := by decide +kernel
theorem dM_keep_2 : decode cM_keep 2 = .ok (.iconst 1, 1) := by decide +kernel
theorem dM_keep_3 : decode cM_keep 3 = .ok (.invokevirtual 108, 3) := by decide +kernel
theorem dM_keep_6 : decode cM_keep 6 = .ok (.ifCond .eq 5, 3) := by decide +kernel
theorem dM_keep_9 : decode cM_keep 9 = .ok (.iconst 0, 1) := by decide +kernel
theorem dM_keep_10 : decode cM_keep 10 = .ok (.ireturn, 1) := by decide +kernel
theorem dM_keep_11 : decode cM_keep 11 = .ok (.aload_n 0, 1) := by decide +kernel
theorem dM_keep_12 : decode cM_keep 12 = .ok (.iload_n 1, 1) := by decide +kernel
theorem dM_keep_13 : decode cM_keep 13 = .ok (.invokevirtual 115, 3) := by decide +kernel
theorem dM_keep_16 : decode cM_keep 16 = .ok (.istore_n 3, 1) := by decide +kernel
theorem dM_keep_17 : decode cM_keep 17 = .ok (.aload_n 0, 1) := by decide +kernel
theorem dM_keep_18 : decode cM_keep 18 = .ok (.iconst 0, 1) := by decide +kernel
theorem dM_keep_19 : decode cM_keep 19 = .ok (.iconst 0, 1) := by decide +kernel
theorem dM_keep_20 : decode cM_keep 20 = .ok (.iload_n 2, 1) := by decide +kernel
theorem dM_keep_21 : decode cM_keep 21 = .ok (.iconst 0, 1) := by decide +kernel
theorem dM_keep_22 : decode cM_keep 22 = .ok (.sipush 9999, 3) := by decide +kernel
theorem dM_keep_25 : decode cM_keep 25 = .ok (.invokestatic 44, 3) := by decide +kernel
theorem dM_keep_28 : decode cM_keep 28 = .ok (.ifCond .ne 7, 3) := by decide +kernel
theorem dM_keep_31 : decode cM_keep 31 = .ok (.iconst 1, 1) := by decide +kernel
theorem dM_keep_32 : decode cM_keep 32 = .ok (.goto 4, 3) := by decide +kernel
theorem dM_keep_35 : decode cM_keep 35 = .ok (.iconst 0, 1) := by decide +kernel
theorem dM_keep_36 : decode cM_keep 36 = .ok (.iload_n 3, 1) := by decide +kernel
theorem dM_keep_37 : decode cM_keep 37 = .ok (.bipush 40, 2) := by decide +kernel
theorem dM_keep_39 : decode cM_keep 39 = .ok (.if_icmp .ne 7, 3) := by decide +kernel
theorem dM_keep_42 : decode cM_keep 42 = .ok (.iconst 1, 1) := by decide +kernel
theorem dM_keep_43 : decode cM_keep 43 = .ok (.goto 4, 3) := by decide +kernel
theorem dM_keep_46 : decode cM_keep 46 = .ok (.iconst 0, 1) := by decide +kernel
theorem dM_keep_47 : decode cM_keep 47 = .ok (.invokevirtual 52, 3) := by decide +kernel
theorem dM_keep_50 : decode cM_keep 50 = .ok (.ifCond .eq 5, 3) := by decide +kernel
theorem dM_keep_53 : decode cM_keep 53 = .ok (.iconst 0, 1) := by decide +kernel
theorem dM_keep_54 : decode cM_keep 54 = .ok (.ireturn, 1) := by decide +kernel
theorem dM_keep_55 : decode cM_keep 55 = .ok (.iload_n 3, 1) := by decide +kernel
theorem dM_keep_56 : decode cM_keep 56 = .ok (.aload_n 0, 1) := by decide +kernel
theorem dM_keep_57 : decode cM_keep 57 = .ok (.getfield 112, 3) := by decide +kernel
theorem dM_keep_60 : decode cM_keep 60 = .ok (.if_icmp .ne 76, 3) := by decide +kernel
theorem dM_keep_63 : decode cM_keep 63 = .ok (.iconst 0, 1) := by decide +kernel
theorem dM_keep_64 : decode cM_keep 64 = .ok (.istore 4, 2) := by decide +kernel
theorem dM_keep_66 : decode cM_keep 66 = .ok (.iload 4, 2) := by decide +kernel
theorem dM_keep_68 : decode cM_keep 68 = .ok (.iconst 5, 1) := by decide +kernel
theorem dM_keep_69 : decode cM_keep 69 = .ok (.if_icmp .ge 32, 3) := by decide +kernel
theorem dM_keep_72 : decode cM_keep 72 = .ok (.aload_n 0, 1) := by decide +kernel
theorem dM_keep_73 : decode cM_keep 73 = .ok (.getfield 35, 3) := by decide +kernel
theorem dM_keep_76 : decode cM_keep 76 = .ok (.bipush 7, 2) := by decide +kernel
theorem dM_keep_78 : decode cM_keep 78 = .ok (.iload_n 3, 1) := by decide +kernel
theorem dM_keep_79 : decode cM_keep 79 = .ok (.imul, 1) := by decide +kernel
theorem dM_keep_80 : decode cM_keep 80 = .ok (.iload 4, 2) := by decide +kernel
theorem dM_keep_82 : decode cM_keep 82 = .ok (.iadd, 1) := by decide +kernel
theorem dM_keep_83 : decode cM_keep 83 = .ok (.aload_n 0, 1) := by decide +kernel
theorem dM_keep_84 : decode cM_keep 84 = .ok (.getfield 32, 3) := by decide +kernel
theorem dM_keep_87 : decode cM_keep 87 = .ok (.iconst 5, 1) := by decide +kernel
theorem dM_keep_88 : decode cM_keep 88 = .ok (.iload_n 1, 1) := by decide +kernel
theorem dM_keep_89 : decode cM_keep 89 = .ok (.imul, 1) := by decide +kernel
theorem dM_keep_90 : decode cM_keep 90 = .ok (.iload 4, 2) := by decide +kernel
theorem dM_keep_92 : decode cM_keep 92 = .ok (.iadd, 1) := by decide +kernel
theorem dM_keep_93 : decode cM_keep 93 = .ok (.iaload, 1) := by decide +kernel
theorem dM_keep_94 : decode cM_keep 94 = .ok (.iastore, 1) := by decide +kernel
theorem dM_keep_95 : decode cM_keep 95 = .ok (.iinc 4 1, 3) := by decide +kernel
theorem dM_keep_98 : decode cM_keep 98 = .ok (.goto (-32), 3) := by decide +kernel
theorem dM_keep_101 : decode cM_keep 101 = .ok (.aload_n 0, 1) := by decide +kernel
theorem dM_keep_102 : decode cM_keep 102 = .ok (.getfield 35, 3) := by decide +kernel
theorem dM_keep_105 : decode cM_keep 105 = .ok (.bipush 7, 2) := by decide +kernel
theorem dM_keep_107 : decode cM_keep 107 = .ok (.iload_n 3, 1) := by decide +kernel
theorem dM_keep_108 : decode cM_keep 108 = .ok (.imul, 1) := by decide +kernel
theorem dM_keep_109 : decode cM_keep 109 = .ok (.iconst 5, 1) := by decide +kernel
theorem dM_keep_110 : decode cM_keep 110 = .ok (.iadd, 1) := by decide +kernel
theorem dM_keep_111 : decode cM_keep 111 = .ok (.iconst 0, 1) := by decide +kernel
theorem dM_keep_112 : decode cM_keep 112 = .ok (.iastore, 1) := by decide +kernel
theorem dM_keep_113 : decode cM_keep 113 = .ok (.aload_n 0, 1) := by decide +kernel
theorem dM_keep_114 : decode cM_keep 114 = .ok (.getfield 35, 3) := by decide +kernel
theorem dM_keep_117 : decode cM_keep 117 = .ok (.bipush 7, 2) := by decide +kernel
theorem dM_keep_119 : decode cM_keep 119 = .ok (.iload_n 3, 1) := by decide +kernel
theorem dM_keep_120 : decode cM_keep 120 = .ok (.imul, 1) := by decide +kernel
theorem dM_keep_121 : decode cM_keep 121 = .ok (.bipush 6, 2) := by decide +kernel
theorem dM_keep_123 : decode cM_keep 123 = .ok (.iadd, 1) := by decide +kernel
theorem dM_keep_124 : decode cM_keep 124 = .ok (.iload_n 2, 1) := by decide +kernel
theorem dM_keep_125 : decode cM_keep 125 = .ok (.iastore, 1) := by decide +kernel
theorem dM_keep_126 : decode cM_keep 126 = .ok (.aload_n 0, 1) := by decide +kernel
theorem dM_keep_127 : decode cM_keep 127 = .ok (.dup, 1) := by decide +kernel
theorem dM_keep_128 : decode cM_keep 128 = .ok (.getfield 112, 3) := by decide +kernel
theorem dM_keep_131 : decode cM_keep 131 = .ok (.iconst 1, 1) := by decide +kernel
theorem dM_keep_132 : decode cM_keep 132 = .ok (.iadd, 1) := by decide +kernel
theorem dM_keep_133 : decode cM_keep 133 = .ok (.putfield 112, 3) := by decide +kernel
theorem dM_keep_136 : decode cM_keep 136 = .ok (.aload_n 0, 1) := by decide +kernel
theorem dM_keep_137 : decode cM_keep 137 = .ok (.getfield 35, 3) := by decide +kernel
theorem dM_keep_140 : decode cM_keep 140 = .ok (.bipush 7, 2) := by decide +kernel
theorem dM_keep_142 : decode cM_keep 142 = .ok (.iload_n 3, 1) := by decide +kernel
theorem dM_keep_143 : decode cM_keep 143 = .ok (.imul, 1) := by decide +kernel
theorem dM_keep_144 : decode cM_keep 144 = .ok (.iconst 5, 1) := by decide +kernel
theorem dM_keep_145 : decode cM_keep 145 = .ok (.iadd, 1) := by decide +kernel
theorem dM_keep_146 : decode cM_keep 146 = .ok (.dup2, 1) := by decide +kernel
theorem dM_keep_147 : decode cM_keep 147 = .ok (.iaload, 1) := by decide +kernel
theorem dM_keep_148 : decode cM_keep 148 = .ok (.iconst 1, 1) := by decide +kernel
theorem dM_keep_149 : decode cM_keep 149 = .ok (.iadd, 1) := by decide +kernel
theorem dM_keep_150 : decode cM_keep 150 = .ok (.iastore, 1) := by decide +kernel
theorem dM_keep_151 : decode cM_keep 151 = .ok (.iload_n 2, 1) := by decide +kernel
theorem dM_keep_152 : decode cM_keep 152 = .ok (.aload_n 0, 1) := by decide +kernel
theorem dM_keep_153 : decode cM_keep 153 = .ok (.getfield 35, 3) := by decide +kernel
theorem dM_keep_156 : decode cM_keep 156 = .ok (.bipush 7, 2) := by decide +kernel
theorem dM_keep_158 : decode cM_keep 158 = .ok (.iload_n 3, 1) := by decide +kernel
theorem dM_keep_159 : decode cM_keep 159 = .ok (.imul, 1) := by decide +kernel
theorem dM_keep_160 : decode cM_keep 160 = .ok (.bipush 6, 2) := by decide +kernel
theorem dM_keep_162 : decode cM_keep 162 = .ok (.iadd, 1) := by decide +kernel
theorem dM_keep_163 : decode cM_keep 163 = .ok (.iaload, 1) := by decide +kernel
theorem dM_keep_164 : decode cM_keep 164 = .ok (.if_icmp .le 16, 3) := by decide +kernel
theorem dM_keep_167 : decode cM_keep 167 = .ok (.aload_n 0, 1) := by decide +kernel
theorem dM_keep_168 : decode cM_keep 168 = .ok (.getfield 35, 3) := by decide +kernel
theorem dM_keep_171 : decode cM_keep 171 = .ok (.bipush 7, 2) := by decide +kernel
theorem dM_keep_173 : decode cM_keep 173 = .ok (.iload_n 3, 1) := by decide +kernel
theorem dM_keep_174 : decode cM_keep 174 = .ok (.imul, 1) := by decide +kernel
theorem dM_keep_175 : decode cM_keep 175 = .ok (.bipush 6, 2) := by decide +kernel
theorem dM_keep_177 : decode cM_keep 177 = .ok (.iadd, 1) := by decide +kernel
theorem dM_keep_178 : decode cM_keep 178 = .ok (.iload_n 2, 1) := by decide +kernel
theorem dM_keep_179 : decode cM_keep 179 = .ok (.iastore, 1) := by decide +kernel
theorem dM_keep_180 : decode cM_keep 180 = .ok (.iload_n 3, 1) := by decide +kernel
theorem dM_keep_181 : decode cM_keep 181 = .ok (.ireturn, 1) := by decide +kernel
theorem dM_keptAs_0 : decode cM_keptAs 0 = .ok (.iconst 0, 1) := by decide +kernel
theorem dM_keptAs_1 : decode cM_keptAs 1 = .ok (.istore_n 2, 1) := by decide +kernel
theorem dM_keptAs_2 : decode cM_keptAs 2 = .ok (.iload_n 2, 1) := by decide +kernel
theorem dM_keptAs_3 : decode cM_keptAs 3 = .ok (.aload_n 0, 1) := by decide +kernel
theorem dM_keptAs_4 : decode cM_keptAs 4 = .ok (.getfield 112, 3) := by decide +kernel
theorem dM_keptAs_7 : decode cM_keptAs 7 = .ok (.if_icmp .ge 68, 3) := by decide +kernel
theorem dM_keptAs_10 : decode cM_keptAs 10 = .ok (.iconst 1, 1) := by decide +kernel
theorem dM_keptAs_11 : decode cM_keptAs 11 = .ok (.istore_n 3, 1) := by decide +kernel
theorem dM_keptAs_12 : decode cM_keptAs 12 = .ok (.iconst 0, 1) := by decide +kernel
theorem dM_keptAs_13 : decode cM_keptAs 13 = .ok (.istore 4, 2) := by decide +kernel
theorem dM_keptAs_15 : decode cM_keptAs 15 = .ok (.iload 4, 2) := by decide +kernel
theorem dM_keptAs_17 : decode cM_keptAs 17 = .ok (.iconst 5, 1) := by decide +kernel
theorem dM_keptAs_18 : decode cM_keptAs 18 = .ok (.if_icmp .ge 45, 3) := by decide +kernel
theorem dM_keptAs_21 : decode cM_keptAs 21 = .ok (.iload_n 3, 1) := by decide +kernel
theorem dM_keptAs_22 : decode cM_keptAs 22 = .ok (.ifCond .eq 33, 3) := by decide +kernel
theorem dM_keptAs_25 : decode cM_keptAs 25 = .ok (.aload_n 0, 1) := by decide +kernel
theorem dM_keptAs_26 : decode cM_keptAs 26 = .ok (.getfield 35, 3) := by decide +kernel
theorem dM_keptAs_29 : decode cM_keptAs 29 = .ok (.bipush 7, 2) := by decide +kernel
theorem dM_keptAs_31 : decode cM_keptAs 31 = .ok (.iload_n 2, 1) := by decide +kernel
theorem dM_keptAs_32 : decode cM_keptAs 32 = .ok (.imul, 1) := by decide +kernel
theorem dM_keptAs_33 : decode cM_keptAs 33 = .ok (.iload 4, 2) := by decide +kernel
theorem dM_keptAs_35 : decode cM_keptAs 35 = .ok (.iadd, 1) := by decide +kernel
theorem dM_keptAs_36 : decode cM_keptAs 36 = .ok (.iaload, 1) := by decide +kernel
theorem dM_keptAs_37 : decode cM_keptAs 37 = .ok (.aload_n 0, 1) := by decide +kernel
theorem dM_keptAs_38 : decode cM_keptAs 38 = .ok (.getfield 32, 3) := by decide +kernel
theorem dM_keptAs_41 : decode cM_keptAs 41 = .ok (.iconst 5, 1) := by decide +kernel
theorem dM_keptAs_42 : decode cM_keptAs 42 = .ok (.iload_n 1, 1) := by decide +kernel
theorem dM_keptAs_43 : decode cM_keptAs 43 = .ok (.imul, 1) := by decide +kernel
theorem dM_keptAs_44 : decode cM_keptAs 44 = .ok (.iload 4, 2) := by decide +kernel
theorem dM_keptAs_46 : decode cM_keptAs 46 = .ok (.iadd, 1) := by decide +kernel
theorem dM_keptAs_47 : decode cM_keptAs 47 = .ok (.iaload, 1) := by decide +kernel
theorem dM_keptAs_48 : decode cM_keptAs 48 = .ok (.if_icmp .ne 7, 3) := by decide +kernel
theorem dM_keptAs_51 : decode cM_keptAs 51 = .ok (.iconst 1, 1) := by decide +kernel
theorem dM_keptAs_52 : decode cM_keptAs 52 = .ok (.goto 4, 3) := by decide +kernel
theorem dM_keptAs_55 : decode cM_keptAs 55 = .ok (.iconst 0, 1) := by decide +kernel
theorem dM_keptAs_56 : decode cM_keptAs 56 = .ok (.istore_n 3, 1) := by decide +kernel
theorem dM_keptAs_57 : decode cM_keptAs 57 = .ok (.iinc 4 1, 3) := by decide +kernel
theorem dM_keptAs_60 : decode cM_keptAs 60 = .ok (.goto (-45), 3) := by decide +kernel
theorem dM_keptAs_63 : decode cM_keptAs 63 = .ok (.iload_n 3, 1) := by decide +kernel
theorem dM_keptAs_64 : decode cM_keptAs 64 = .ok (.ifCond .eq 5, 3) := by decide +kernel
theorem dM_keptAs_67 : decode cM_keptAs 67 = .ok (.iload_n 2, 1) := by decide +kernel
theorem dM_keptAs_68 : decode cM_keptAs 68 = .ok (.ireturn, 1) := by decide +kernel
theorem dM_keptAs_69 : decode cM_keptAs 69 = .ok (.iinc 2 1, 3) := by decide +kernel
theorem dM_keptAs_72 : decode cM_keptAs 72 = .ok (.goto (-70), 3) := by decide +kernel
theorem dM_keptAs_75 : decode cM_keptAs 75 = .ok (.aload_n 0, 1) := by decide +kernel
theorem dM_keptAs_76 : decode cM_keptAs 76 = .ok (.getfield 112, 3) := by decide +kernel
theorem dM_keptAs_79 : decode cM_keptAs 79 = .ok (.ireturn, 1) := by decide +kernel
theorem dM_kept_0 : decode cM_kept 0 = .ok (.aload_n 0, 1) := by decide +kernel
theorem dM_kept_1 : decode cM_kept 1 = .ok (.iload_n 1, 1) := by decide +kernel
theorem dM_kept_2 : decode cM_kept 2 = .ok (.iconst 0, 1) := by decide +kernel
theorem dM_kept_3 : decode cM_kept 3 = .ok (.aload_n 0, 1) := by decide +kernel
theorem dM_kept_4 : decode cM_kept 4 = .ok (.getfield 112, 3) := by decide +kernel
theorem dM_kept_7 : decode cM_kept 7 = .ok (.iconst 1, 1) := by decide +kernel
theorem dM_kept_8 : decode cM_kept 8 = .ok (.isub, 1) := by decide +kernel
theorem dM_kept_9 : decode cM_kept 9 = .ok (.invokestatic 44, 3) := by decide +kernel
theorem dM_kept_12 : decode cM_kept 12 = .ok (.ifCond .eq 13, 3) := by decide +kernel
theorem dM_kept_15 : decode cM_kept 15 = .ok (.iload_n 2, 1) := by decide +kernel
theorem dM_kept_16 : decode cM_kept 16 = .ok (.iconst 0, 1) := by decide +kernel
theorem dM_kept_17 : decode cM_kept 17 = .ok (.bipush 6, 2) := by decide +kernel
theorem dM_kept_19 : decode cM_kept 19 = .ok (.invokestatic 44, 3) := by decide +kernel
theorem dM_kept_22 : decode cM_kept 22 = .ok (.ifCond .ne 7, 3) := by decide +kernel
theorem dM_kept_25 : decode cM_kept 25 = .ok (.iconst 1, 1) := by decide +kernel
theorem dM_kept_26 : decode cM_kept 26 = .ok (.goto 4, 3) := by decide +kernel
theorem dM_kept_29 : decode cM_kept 29 = .ok (.iconst 0, 1) := by decide +kernel
theorem dM_kept_30 : decode cM_kept 30 = .ok (.iconst 0, 1) := by decide +kernel
theorem dM_kept_31 : decode cM_kept 31 = .ok (.iconst 0, 1) := by decide +kernel
theorem dM_kept_32 : decode cM_kept 32 = .ok (.iconst 0, 1) := by decide +kernel
theorem dM_kept_33 : decode cM_kept 33 = .ok (.invokevirtual 52, 3) := by decide +kernel
theorem dM_kept_36 : decode cM_kept 36 = .ok (.ifCond .eq 5, 3) := by decide +kernel
theorem dM_kept_39 : decode cM_kept 39 = .ok (.iconst 0, 1) := by decide +kernel
theorem dM_kept_40 : decode cM_kept 40 = .ok (.ireturn, 1) := by decide +kernel
theorem dM_kept_41 : decode cM_kept 41 = .ok (.aload_n 0, 1) := by decide +kernel
theorem dM_kept_42 : decode cM_kept 42 = .ok (.getfield 35, 3) := by decide +kernel
theorem dM_kept_45 : decode cM_kept 45 = .ok (.bipush 7, 2) := by decide +kernel
theorem dM_kept_47 : decode cM_kept 47 = .ok (.iload_n 1, 1) := by decide +kernel
theorem dM_kept_48 : decode cM_kept 48 = .ok (.imul, 1) := by decide +kernel
theorem dM_kept_49 : decode cM_kept 49 = .ok (.iload_n 2, 1) := by decide +kernel
theorem dM_kept_50 : decode cM_kept 50 = .ok (.iadd, 1) := by decide +kernel
theorem dM_kept_51 : decode cM_kept 51 = .ok (.iaload, 1) := by decide +kernel
theorem dM_kept_52 : decode cM_kept 52 = .ok (.ireturn, 1) := by decide +kernel
