theorem dG_takeBack_0 : decode cG_takeBack 0 = .ok (.iconst 0, 1) := by decide +kernel
theorem dG_takeBack_1 : decode cG_takeBack 1 = .ok (.istore_n 2, 1) := by decide +kernel
theorem dG_takeBack_2 : decode cG_takeBack 2 = .ok (.iload_n 2, 1) := by decide +kernel
theorem dG_takeBack_3 : decode cG_takeBack 3 = .ok (.aload_n 0, 1) := by decide +kernel
theorem dG_takeBack_4 : decode cG_takeBack 4 = .ok (.getfield 9, 3) := by decide +kernel
theorem dG_takeBack_7 : decode cG_takeBack 7 = .ok (.getfield 90, 3) := by decide +kernel
theorem dG_takeBack_10 : decode cG_takeBack 10 = .ok (.if_icmp .ge 21, 3) := by decide +kernel
theorem dG_takeBack_13 : decode cG_takeBack 13 = .ok (.aload_n 0, 1) := by decide +kernel
theorem dG_takeBack_14 : decode cG_takeBack 14 = .ok (.getfield 15, 3) := by decide +kernel
theorem dG_takeBack_17 : decode cG_takeBack 17 = .ok (.iload_n 2, 1) := by decide +kernel
theorem dG_takeBack_18 : decode cG_takeBack 18 = .ok (.dup2, 1) := by decide +kernel
theorem dG_takeBack_19 : decode cG_takeBack 19 = .ok (.iaload, 1) := by decide +kernel
theorem dG_takeBack_20 : decode cG_takeBack 20 = .ok (.aload_n 1, 1) := by decide +kernel
theorem dG_takeBack_21 : decode cG_takeBack 21 = .ok (.iload_n 2, 1) := by decide +kernel
theorem dG_takeBack_22 : decode cG_takeBack 22 = .ok (.iaload, 1) := by decide +kernel
theorem dG_takeBack_23 : decode cG_takeBack 23 = .ok (.iadd, 1) := by decide +kernel
theorem dG_takeBack_24 : decode cG_takeBack 24 = .ok (.iastore, 1) := by decide +kernel
theorem dG_takeBack_25 : decode cG_takeBack 25 = .ok (.iinc 2 1, 3) := by decide +kernel
theorem dG_takeBack_28 : decode cG_takeBack 28 = .ok (.goto (-26), 3) := by decide +kernel
theorem dG_takeBack_31 : decode cG_takeBack 31 = .ok (.aload_n 0, 1) := by decide +kernel
theorem dG_takeBack_32 : decode cG_takeBack 32 = .ok (.dup, 1) := by decide +kernel
theorem dG_takeBack_33 : decode cG_takeBack 33 = .ok (.getfield 59, 3) := by decide +kernel
theorem dG_takeBack_36 : decode cG_takeBack 36 = .ok (.aload_n 0, 1) := by decide +kernel
theorem dG_takeBack_37 : decode cG_takeBack 37 = .ok (.getfield 9, 3) := by decide +kernel
theorem dG_takeBack_40 : decode cG_takeBack 40 = .ok (.aload_n 1, 1) := by decide +kernel
theorem dG_takeBack_41 : decode cG_takeBack 41 = .ok (.invokevirtual 100, 3) := by decide +kernel
theorem dG_takeBack_44 : decode cG_takeBack 44 = .ok (.iadd, 1) := by decide +kernel
theorem dG_takeBack_45 : decode cG_takeBack 45 = .ok (.putfield 59, 3) := by decide +kernel
theorem dG_takeBack_48 : decode cG_takeBack 48 = .ok (.return_, 1) := by decide +kernel
theorem dG_goesOn_0 : decode cG_goesOn 0 = .ok (.aload_n 0, 1) := by decide +kernel
theorem dG_goesOn_1 : decode cG_goesOn 1 = .ok (.getfield 9, 3) := by decide +kernel
theorem dG_goesOn_4 : decode cG_goesOn 4 = .ok (.aload_n 1, 1) := by decide +kernel
theorem dG_goesOn_5 : decode cG_goesOn 5 = .ok (.aload_n 0, 1) := by decide +kernel
theorem dG_goesOn_6 : decode cG_goesOn 6 = .ok (.getfield 15, 3) := by decide +kernel
theorem dG_goesOn_9 : decode cG_goesOn 9 = .ok (.aload_n 0, 1) := by decide +kernel
theorem dG_goesOn_10 : decode cG_goesOn 10 = .ok (.getfield 9, 3) := by decide +kernel
theorem dG_goesOn_13 : decode cG_goesOn 13 = .ok (.getfield 90, 3) := by decide +kernel
theorem dG_goesOn_16 : decode cG_goesOn 16 = .ok (.iconst 1, 1) := by decide +kernel
theorem dG_goesOn_17 : decode cG_goesOn 17 = .ok (.isub, 1) := by decide +kernel
theorem dG_goesOn_18 : decode cG_goesOn 18 = .ok (.aload_n 0, 1) := by decide +kernel
theorem dG_goesOn_19 : decode cG_goesOn 19 = .ok (.invokevirtual 93, 3) := by decide +kernel
theorem dG_goesOn_22 : decode cG_goesOn 22 = .ok (.invokevirtual 96, 3) := by decide +kernel
theorem dG_goesOn_25 : decode cG_goesOn 25 = .ok (.ireturn, 1) := by decide +kernel
theorem dG_lowestLeft_0 : decode cG_lowestLeft 0 = .ok (.iconst 0, 1) := by decide +kernel
theorem dG_lowestLeft_1 : decode cG_lowestLeft 1 = .ok (.istore_n 1, 1) := by decide +kernel
theorem dG_lowestLeft_2 : decode cG_lowestLeft 2 = .ok (.iload_n 1, 1) := by decide +kernel
theorem dG_lowestLeft_3 : decode cG_lowestLeft 3 = .ok (.aload_n 0, 1) := by decide +kernel
theorem dG_lowestLeft_4 : decode cG_lowestLeft 4 = .ok (.getfield 9, 3) := by decide +kernel
theorem dG_lowestLeft_7 : decode cG_lowestLeft 7 = .ok (.getfield 90, 3) := by decide +kernel
theorem dG_lowestLeft_10 : decode cG_lowestLeft 10 = .ok (.if_icmp .ge 20, 3) := by decide +kernel
theorem dG_lowestLeft_13 : decode cG_lowestLeft 13 = .ok (.aload_n 0, 1) := by decide +kernel
theorem dG_lowestLeft_14 : decode cG_lowestLeft 14 = .ok (.getfield 15, 3) := by decide +kernel
theorem dG_lowestLeft_17 : decode cG_lowestLeft 17 = .ok (.iload_n 1, 1) := by decide +kernel
theorem dG_lowestLeft_18 : decode cG_lowestLeft 18 = .ok (.iaload, 1) := by decide +kernel
theorem dG_lowestLeft_19 : decode cG_lowestLeft 19 = .ok (.ifCond .le 5, 3) := by decide +kernel
theorem dG_lowestLeft_22 : decode cG_lowestLeft 22 = .ok (.iload_n 1, 1) := by decide +kernel
theorem dG_lowestLeft_23 : decode cG_lowestLeft 23 = .ok (.ireturn, 1) := by decide +kernel
theorem dG_lowestLeft_24 : decode cG_lowestLeft 24 = .ok (.iinc 1 1, 3) := by decide +kernel
theorem dG_lowestLeft_27 : decode cG_lowestLeft 27 = .ok (.goto (-25), 3) := by decide +kernel
theorem dG_lowestLeft_30 : decode cG_lowestLeft 30 = .ok (.iconst (-1), 1) := by decide +kernel
theorem dG_lowestLeft_31 : decode cG_lowestLeft 31 = .ok (.ireturn, 1) := by decide +kernel
theorem dL_designed_0 : decode cL_designed 0 = .ok (.aload_n 2, 1) := by decide +kernel
theorem dL_designed_1 : decode cL_designed 1 = .ok (.iconst 0, 1) := by decide +kernel
theorem dL_designed_2 : decode cL_designed 2 = .ok (.aload_n 0, 1) := by decide +kernel
theorem dL_designed_3 : decode cL_designed 3 = .ok (.iload_n 1, 1) := by decide +kernel
theorem dL_designed_4 : decode cL_designed 4 = .ok (.invokevirtual 39, 3) := by decide +kernel
theorem dL_designed_7 : decode cL_designed 7 = .ok (.i2l, 1) := by decide +kernel
theorem dL_designed_8 : decode cL_designed 8 = .ok (.lastore, 1) := by decide +kernel
theorem dL_designed_9 : decode cL_designed 9 = .ok (.goto 9, 3) := by decide +kernel
theorem dL_designed_12 : decode cL_designed 12 = .ok (.astore_n 3, 1) := by decide +kernel
theorem dL_designed_13 : decode cL_designed 13 = .ok (.iconst 1, 1) := by decide +kernel
theorem dL_designed_14 : decode cL_designed 14 = .ok (.ireturn, 1) := by decide +kernel
theorem dL_designed_15 : decode cL_designed 15 = .ok (.astore_n 3, 1) := by decide +kernel
theorem dL_designed_16 : decode cL_designed 16 = .ok (.iconst 2, 1) := by decide +kernel
theorem dL_designed_17 : decode cL_designed 17 = .ok (.ireturn, 1) := by decide +kernel
theorem dL_designed_18 : decode cL_designed 18 = .ok (.iconst 0, 1) := by decide +kernel
theorem dL_designed_19 : decode cL_designed 19 = .ok (.ireturn, 1) := by decide +kernel
theorem dP_designed_0 : decode cP_designed 0 = .ok (.iload_n 1, 1) := by decide +kernel
theorem dP_designed_1 : decode cP_designed 1 = .ok (.ifCond .lt 8, 3) := by decide +kernel
theorem dP_designed_4 : decode cP_designed 4 = .ok (.iload_n 1, 1) := by decide +kernel
theorem dP_designed_5 : decode cP_designed 5 = .ok (.iconst 1, 1) := by decide +kernel
theorem dP_designed_6 : decode cP_designed 6 = .ok (.if_icmp .le 13, 3) := by decide +kernel
theorem dP_designed_9 : decode cP_designed 9 = .ok (.new 73, 3) := by decide +kernel
theorem dP_designed_12 : decode cP_designed 12 = .ok (.dup, 1) := by decide +kernel
theorem dP_designed_13 : decode cP_designed 13 = .ok (.ldc 120, 2) := by decide +kernel
theorem dP_designed_15 : decode cP_designed 15 = .ok (.invokespecial 77, 3) := by decide +kernel
theorem dP_designed_18 : decode cP_designed 18 = .ok (.athrow, 1) := by decide +kernel
theorem dP_designed_19 : decode cP_designed 19 = .ok (.aload_n 0, 1) := by decide +kernel
theorem dP_designed_20 : decode cP_designed 20 = .ok (.getfield 28, 3) := by decide +kernel
theorem dP_designed_23 : decode cP_designed 23 = .ok (.getfield 122, 3) := by decide +kernel
theorem dP_designed_26 : decode cP_designed 26 = .ok (.ifCond .ne 13, 3) := by decide +kernel
theorem dP_designed_29 : decode cP_designed 29 = .ok (.new 56, 3) := by decide +kernel
theorem dP_designed_32 : decode cP_designed 32 = .ok (.dup, 1) := by decide +kernel
theorem dP_designed_33 : decode cP_designed 33 = .ok (.ldc 126, 2) := by decide +kernel
theorem dP_designed_35 : decode cP_designed 35 = .ok (.invokespecial 60, 3) := by decide +kernel
theorem dP_designed_38 : decode cP_designed 38 = .ok (.athrow, 1) := by decide +kernel
theorem dP_designed_39 : decode cP_designed 39 = .ok (.iload_n 1, 1) := by decide +kernel
theorem dP_designed_40 : decode cP_designed 40 = .ok (.ifCond .ne 19, 3) := by decide +kernel
theorem dP_designed_43 : decode cP_designed 43 = .ok (.aload_n 0, 1) := by decide +kernel
theorem dP_designed_44 : decode cP_designed 44 = .ok (.getfield 28, 3) := by decide +kernel
theorem dP_designed_47 : decode cP_designed 47 = .ok (.getfield 128, 3) := by decide +kernel
theorem dP_designed_50 : decode cP_designed 50 = .ok (.ifCond .eq 7, 3) := by decide +kernel
theorem dP_designed_53 : decode cP_designed 53 = .ok (.iconst 1, 1) := by decide +kernel
theorem dP_designed_54 : decode cP_designed 54 = .ok (.goto 4, 3) := by decide +kernel
theorem dP_designed_57 : decode cP_designed 57 = .ok (.iconst 0, 1) := by decide +kernel
theorem dP_designed_58 : decode cP_designed 58 = .ok (.ireturn, 1) := by decide +kernel
theorem dP_designed_59 : decode cP_designed 59 = .ok (.aload_n 0, 1) := by decide +kernel
theorem dP_designed_60 : decode cP_designed 60 = .ok (.getfield 28, 3) := by decide +kernel
theorem dP_designed_63 : decode cP_designed 63 = .ok (.getfield 131, 3) := by decide +kernel
theorem dP_designed_66 : decode cP_designed 66 = .ok (.ireturn, 1) := by decide +kernel
theorem dL_gap_0 : decode cL_gap 0 = .ok (.aload_n 1, 1) := by decide +kernel
theorem dL_gap_1 : decode cL_gap 1 = .ok (.iconst 0, 1) := by decide +kernel
theorem dL_gap_2 : decode cL_gap 2 = .ok (.aload_n 0, 1) := by decide +kernel
theorem dL_gap_3 : decode cL_gap 3 = .ok (.invokevirtual 42, 3) := by decide +kernel
theorem dL_gap_6 : decode cL_gap 6 = .ok (.i2l, 1) := by decide +kernel
theorem dL_gap_7 : decode cL_gap 7 = .ok (.lastore, 1) := by decide +kernel
theorem dL_gap_8 : decode cL_gap 8 = .ok (.goto 6, 3) := by decide +kernel
theorem dL_gap_11 : decode cL_gap 11 = .ok (.astore_n 2, 1) := by decide +kernel
theorem dL_gap_12 : decode cL_gap 12 = .ok (.iconst 1, 1) := by decide +kernel
theorem dL_gap_13 : decode cL_gap 13 = .ok (.ireturn, 1) := by decide +kernel
theorem dL_gap_14 : decode cL_gap 14 = .ok (.iconst 0, 1) := by decide +kernel
theorem dL_gap_15 : decode cL_gap 15 = .ok (.ireturn, 1) := by decide +kernel
theorem dP_gap_0 : decode cP_gap 0 = .ok (.aload_n 0, 1) := by decide +kernel
theorem dP_gap_1 : decode cP_gap 1 = .ok (.invokevirtual 134, 3) := by decide +kernel
theorem dP_gap_4 : decode cP_gap 4 = .ok (.aload_n 0, 1) := by decide +kernel
theorem dP_gap_5 : decode cP_gap 5 = .ok (.getfield 12, 3) := by decide +kernel
theorem dP_gap_8 : decode cP_gap 8 = .ok (.aload_n 0, 1) := by decide +kernel
theorem dP_gap_9 : decode cP_gap 9 = .ok (.getfield 12, 3) := by decide +kernel
theorem dP_gap_12 : decode cP_gap 12 = .ok (.invokevirtual 137, 3) := by decide +kernel
theorem dP_gap_15 : decode cP_gap 15 = .ok (.invokevirtual 140, 3) := by decide +kernel
theorem dP_gap_18 : decode cP_gap 18 = .ok (.istore_n 1, 1) := by decide +kernel
theorem dP_gap_19 : decode cP_gap 19 = .ok (.aload_n 0, 1) := by decide +kernel
theorem dP_gap_20 : decode cP_gap 20 = .ok (.getfield 28, 3) := by decide +kernel
theorem dP_gap_23 : decode cP_gap 23 = .ok (.getfield 117, 3) := by decide +kernel
theorem dP_gap_26 : decode cP_gap 26 = .ok (.iload_n 1, 1) := by decide +kernel
theorem dP_gap_27 : decode cP_gap 27 = .ok (.aload_n 0, 1) := by decide +kernel
theorem dP_gap_28 : decode cP_gap 28 = .ok (.invokevirtual 98, 3) := by decide +kernel
theorem dP_gap_31 : decode cP_gap 31 = .ok (.invokestatic 143, 3) := by decide +kernel
theorem dP_gap_34 : decode cP_gap 34 = .ok (.isub, 1) := by decide +kernel
theorem dP_gap_35 : decode cP_gap 35 = .ok (.ireturn, 1) := by decide +kernel
theorem dP_requireDesign_0 : decode cP_requireDesign 0 = .ok (.aload_n 0, 1) := by decide +kernel
theorem dP_requireDesign_1 : decode cP_requireDesign 1 = .ok (.getfield 28, 3) := by decide +kernel
theorem dP_requireDesign_4 : decode cP_requireDesign 4 = .ok (.getfield 117, 3) := by decide +kernel
theorem dP_requireDesign_7 : decode cP_requireDesign 7 = .ok (.iconst (-1), 1) := by decide +kernel
theorem dP_requireDesign_8 : decode cP_requireDesign 8 = .ok (.if_icmp .ne 13, 3) := by decide +kernel
theorem dP_requireDesign_11 : decode cP_requireDesign 11 = .ok (.new 56, 3) := by decide +kernel
theorem dP_requireDesign_14 : decode cP_requireDesign 14 = .ok (.dup, 1) := by decide +kernel
theorem dP_requireDesign_15 : decode cP_requireDesign 15 = .ok (.ldc 198, 2) := by decide +kernel
theorem dP_requireDesign_17 : decode cP_requireDesign 17 = .ok (.invokespecial 60, 3) := by decide +kernel
theorem dP_requireDesign_20 : decode cP_requireDesign 20 = .ok (.athrow, 1) := by decide +kernel
theorem dP_requireDesign_21 : decode cP_requireDesign 21 = .ok (.return_, 1) := by decide +kernel
theorem dL_cut_0 : decode cL_cut 0 = .ok (.aload_n 3, 1) := by decide +kernel
theorem dL_cut_1 : decode cL_cut 1 = .ok (.iconst 0, 1) := by decide +kernel
theorem dL_cut_2 : decode cL_cut 2 = .ok (.aload_n 0, 1) := by decide +kernel
theorem dL_cut_3 : decode cL_cut 3 = .ok (.iload_n 1, 1) := by decide +kernel
theorem dL_cut_4 : decode cL_cut 4 = .ok (.iload_n 2, 1) := by decide +kernel
theorem dL_cut_5 : decode cL_cut 5 = .ok (.invokevirtual 46, 3) := by decide +kernel
theorem dL_cut_8 : decode cL_cut 8 = .ok (.i2l, 1) := by decide +kernel
theorem dL_cut_9 : decode cL_cut 9 = .ok (.lastore, 1) := by decide +kernel
theorem dL_cut_10 : decode cL_cut 10 = .ok (.goto 11, 3) := by decide +kernel
theorem dL_cut_13 : decode cL_cut 13 = .ok (.astore 4, 2) := by decide +kernel
theorem dL_cut_15 : decode cL_cut 15 = .ok (.iconst 1, 1) := by decide +kernel
theorem dL_cut_16 : decode cL_cut 16 = .ok (.ireturn, 1) := by decide +kernel
theorem dL_cut_17 : decode cL_cut 17 = .ok (.astore 4, 2) := by decide +kernel
theorem dL_cut_19 : decode cL_cut 19 = .ok (.iconst 2, 1) := by decide +kernel
theorem dL_cut_20 : decode cL_cut 20 = .ok (.ireturn, 1) := by decide +kernel
theorem dL_cut_21 : decode cL_cut 21 = .ok (.iconst 0, 1) := by decide +kernel
theorem dL_cut_22 : decode cL_cut 22 = .ok (.ireturn, 1) := by decide +kernel
theorem dP_cut_0 : decode cP_cut 0 = .ok (.aload_n 0, 1) := by decide +kernel
theorem dP_cut_1 : decode cP_cut 1 = .ok (.invokevirtual 134, 3) := by decide +kernel
theorem dP_cut_4 : decode cP_cut 4 = .ok (.aload_n 0, 1) := by decide +kernel
theorem dP_cut_5 : decode cP_cut 5 = .ok (.iload_n 1, 1) := by decide +kernel
theorem dP_cut_6 : decode cP_cut 6 = .ok (.invokevirtual 148, 3) := by decide +kernel
theorem dP_cut_9 : decode cP_cut 9 = .ok (.aload_n 0, 1) := by decide +kernel
theorem dP_cut_10 : decode cP_cut 10 = .ok (.getfield 12, 3) := by decide +kernel
theorem dP_cut_13 : decode cP_cut 13 = .ok (.iload_n 2, 1) := by decide +kernel
theorem dP_cut_14 : decode cP_cut 14 = .ok (.invokevirtual 69, 3) := by decide +kernel
theorem dP_cut_17 : decode cP_cut 17 = .ok (.ifCond .ne 13, 3) := by decide +kernel
theorem dP_cut_20 : decode cP_cut 20 = .ok (.new 73, 3) := by decide +kernel
theorem dP_cut_23 : decode cP_cut 23 = .ok (.dup, 1) := by decide +kernel
theorem dP_cut_24 : decode cP_cut 24 = .ok (.ldc 75, 2) := by decide +kernel
theorem dP_cut_26 : decode cP_cut 26 = .ok (.invokespecial 77, 3) := by decide +kernel
theorem dP_cut_29 : decode cP_cut 29 = .ok (.athrow, 1) := by decide +kernel
theorem dP_cut_30 : decode cP_cut 30 = .ok (.aload_n 0, 1) := by decide +kernel
theorem dP_cut_31 : decode cP_cut 31 = .ok (.getfield 28, 3) := by decide +kernel
theorem dP_cut_34 : decode cP_cut 34 = .ok (.getfield 151, 3) := by decide +kernel
theorem dP_cut_37 : decode cP_cut 37 = .ok (.iload_n 1, 1) := by decide +kernel
theorem dP_cut_38 : decode cP_cut 38 = .ok (.aaload, 1) := by decide +kernel
theorem dP_cut_39 : decode cP_cut 39 = .ok (.iload_n 2, 1) := by decide +kernel
theorem dP_cut_40 : decode cP_cut 40 = .ok (.iaload, 1) := by decide +kernel
theorem dP_cut_41 : decode cP_cut 41 = .ok (.ireturn, 1) := by decide +kernel
theorem dP_requireSheet_0 : decode cP_requireSheet 0 = .ok (.iload_n 1, 1) := by decide +kernel
theorem dP_requireSheet_1 : decode cP_requireSheet 1 = .ok (.ifCond .lt 14, 3) := by decide +kernel
theorem dP_requireSheet_4 : decode cP_requireSheet 4 = .ok (.iload_n 1, 1) := by decide +kernel
theorem dP_requireSheet_5 : decode cP_requireSheet 5 = .ok (.aload_n 0, 1) := by decide +kernel
theorem dP_requireSheet_6 : decode cP_requireSheet 6 = .ok (.getfield 28, 3) := by decide +kernel
theorem dP_requireSheet_9 : decode cP_requireSheet 9 = .ok (.getfield 117, 3) := by decide +kernel
theorem dP_requireSheet_12 : decode cP_requireSheet 12 = .ok (.if_icmp .lt 13, 3) := by decide +kernel
theorem dP_requireSheet_15 : decode cP_requireSheet 15 = .ok (.new 73, 3) := by decide +kernel
theorem dP_requireSheet_18 : decode cP_requireSheet 18 = .ok (.dup, 1) := by decide +kernel
theorem dP_requireSheet_19 : decode cP_requireSheet 19 = .ok (.ldc 200, 2) := by decide +kernel
theorem dP_requireSheet_21 : decode cP_requireSheet 21 = .ok (.invokespecial 77, 3) := by decide +kernel
theorem dP_requireSheet_24 : decode cP_requireSheet 24 = .ok (.athrow, 1) := by decide +kernel
theorem dP_requireSheet_25 : decode cP_requireSheet 25 = .ok (.return_, 1) := by decide +kernel
theorem dL_over_0 : decode cL_over 0 = .ok (.aload_n 2, 1) := by decide +kernel
theorem dL_over_1 : decode cL_over 1 = .ok (.iconst 0, 1) := by decide +kernel
theorem dL_over_2 : decode cL_over 2 = .ok (.aload_n 0, 1) := by decide +kernel
theorem dL_over_3 : decode cL_over 3 = .ok (.iload_n 1, 1) := by decide +kernel
theorem dL_over_4 : decode cL_over 4 = .ok (.invokevirtual 49, 3) := by decide +kernel
theorem dL_over_7 : decode cL_over 7 = .ok (.i2l, 1) := by decide +kernel
theorem dL_over_8 : decode cL_over 8 = .ok (.lastore, 1) := by decide +kernel
theorem dL_over_9 : decode cL_over 9 = .ok (.goto 9, 3) := by decide +kernel
theorem dL_over_12 : decode cL_over 12 = .ok (.astore_n 3, 1) := by decide +kernel
theorem dL_over_13 : decode cL_over 13 = .ok (.iconst 1, 1) := by decide +kernel
theorem dL_over_14 : decode cL_over 14 = .ok (.ireturn, 1) := by decide +kernel
theorem dL_over_15 : decode cL_over 15 = .ok (.astore_n 3, 1) := by decide +kernel
theorem dL_over_16 : decode cL_over 16 = .ok (.iconst 2, 1) := by decide +kernel
theorem dL_over_17 : decode cL_over 17 = .ok (.ireturn, 1) := by decide +kernel
theorem dL_over_18 : decode cL_over 18 = .ok (.iconst 0, 1) := by decide +kernel
theorem dL_over_19 : decode cL_over 19 = .ok (.ireturn, 1) := by decide +kernel
theorem dP_over_0 : decode cP_over 0 = .ok (.aload_n 0, 1) := by decide +kernel
theorem dP_over_1 : decode cP_over 1 = .ok (.invokevirtual 134, 3) := by decide +kernel
theorem dP_over_4 : decode cP_over 4 = .ok (.aload_n 0, 1) := by decide +kernel
theorem dP_over_5 : decode cP_over 5 = .ok (.iload_n 1, 1) := by decide +kernel
theorem dP_over_6 : decode cP_over 6 = .ok (.invokevirtual 148, 3) := by decide +kernel
theorem dP_over_9 : decode cP_over 9 = .ok (.aload_n 0, 1) := by decide +kernel
theorem dP_over_10 : decode cP_over 10 = .ok (.getfield 12, 3) := by decide +kernel
theorem dP_over_13 : decode cP_over 13 = .ok (.getfield 46, 3) := by decide +kernel
theorem dP_over_16 : decode cP_over 16 = .ok (.aload_n 0, 1) := by decide +kernel
theorem dP_over_17 : decode cP_over 17 = .ok (.getfield 12, 3) := by decide +kernel
theorem dP_over_20 : decode cP_over 20 = .ok (.aload_n 0, 1) := by decide +kernel
theorem dP_over_21 : decode cP_over 21 = .ok (.getfield 28, 3) := by decide +kernel
theorem dP_over_24 : decode cP_over 24 = .ok (.getfield 151, 3) := by decide +kernel
theorem dP_over_27 : decode cP_over 27 = .ok (.iload_n 1, 1) := by decide +kernel
theorem dP_over_28 : decode cP_over 28 = .ok (.aaload, 1) := by decide +kernel
theorem dP_over_29 : decode cP_over 29 = .ok (.invokevirtual 155, 3) := by decide +kernel
theorem dP_over_32 : decode cP_over 32 = .ok (.isub, 1) := by decide +kernel
theorem dP_over_33 : decode cP_over 33 = .ok (.ireturn, 1) := by decide +kernel
theorem dL_keep_0 : decode cL_keep 0 = .ok (.aload_n 3, 1) := by decide +kernel
theorem dL_keep_1 : decode cL_keep 1 = .ok (.iconst 0, 1) := by decide +kernel
theorem dL_keep_2 : decode cL_keep 2 = .ok (.aload_n 0, 1) := by decide +kernel
theorem dL_keep_3 : decode cL_keep 3 = .ok (.iload_n 1, 1) := by decide +kernel
theorem dL_keep_4 : decode cL_keep 4 = .ok (.iload_n 2, 1) := by decide +kernel
theorem dL_keep_5 : decode cL_keep 5 = .ok (.invokevirtual 52, 3) := by decide +kernel
theorem dL_keep_8 : decode cL_keep 8 = .ok (.i2l, 1) := by decide +kernel
theorem dL_keep_9 : decode cL_keep 9 = .ok (.lastore, 1) := by decide +kernel
theorem dL_keep_10 : decode cL_keep 10 = .ok (.goto 19, 3) := by decide +kernel
theorem dL_keep_13 : decode cL_keep 13 = .ok (.astore 4, 2) := by decide +kernel
theorem dL_keep_15 : decode cL_keep 15 = .ok (.iconst 1, 1) := by decide +kernel
theorem dL_keep_16 : decode cL_keep 16 = .ok (.ireturn, 1) := by decide +kernel
theorem dL_keep_17 : decode cL_keep 17 = .ok (.astore 4, 2) := by decide +kernel
theorem dL_keep_19 : decode cL_keep 19 = .ok (.iconst 2, 1) := by decide +kernel
theorem dL_keep_20 : decode cL_keep 20 = .ok (.ireturn, 1) := by decide +kernel
theorem dL_keep_21 : decode cL_keep 21 = .ok (.astore 4, 2) := by decide +kernel
theorem dL_keep_23 : decode cL_keep 23 = .ok (.iconst 3, 1) := by decide +kernel
theorem dL_keep_24 : decode cL_keep 24 = .ok (.ireturn, 1) := by decide +kernel
theorem dL_keep_25 : decode cL_keep 25 = .ok (.astore 4, 2) := by decide +kernel
theorem dL_keep_27 : decode cL_keep 27 = .ok (.iconst 4, 1) := by decide +kernel
theorem dL_keep_28 : decode cL_keep 28 = .ok (.ireturn, 1) := by decide +kernel
theorem dL_keep_29 : decode cL_keep 29 = .ok (.iconst 0, 1) := by decide +kernel
theorem dL_keep_30 : decode cL_keep 30 = .ok (.ireturn, 1) := by decide +kernel
theorem dP_keep_0 : decode cP_keep 0 = .ok (.aload_n 0, 1) := by decide +kernel
theorem dP_keep_1 : decode cP_keep 1 = .ok (.invokevirtual 134, 3) := by decide +kernel
theorem dP_keep_4 : decode cP_keep 4 = .ok (.aload_n 0, 1) := by decide +kernel
theorem dP_keep_5 : decode cP_keep 5 = .ok (.iload_n 1, 1) := by decide +kernel
theorem dP_keep_6 : decode cP_keep 6 = .ok (.invokevirtual 148, 3) := by decide +kernel
theorem dP_keep_9 : decode cP_keep 9 = .ok (.iload_n 2, 1) := by decide +kernel
theorem dP_keep_10 : decode cP_keep 10 = .ok (.ifCond .lt 10, 3) := by decide +kernel
theorem dP_keep_13 : decode cP_keep 13 = .ok (.iload_n 2, 1) := by decide +kernel
theorem dP_keep_14 : decode cP_keep 14 = .ok (.sipush 9999, 3) := by decide +kernel
theorem dP_keep_17 : decode cP_keep 17 = .ok (.if_icmp .le 13, 3) := by decide +kernel
theorem dP_keep_20 : decode cP_keep 20 = .ok (.new 39, 3) := by decide +kernel
theorem dP_keep_23 : decode cP_keep 23 = .ok (.dup, 1) := by decide +kernel
theorem dP_keep_24 : decode cP_keep 24 = .ok (.ldc 159, 2) := by decide +kernel
theorem dP_keep_26 : decode cP_keep 26 = .ok (.invokespecial 43, 3) := by decide +kernel
theorem dP_keep_29 : decode cP_keep 29 = .ok (.athrow, 1) := by decide +kernel
theorem dP_keep_30 : decode cP_keep 30 = .ok (.aload_n 0, 1) := by decide +kernel
theorem dP_keep_31 : decode cP_keep 31 = .ok (.getfield 28, 3) := by decide +kernel
theorem dP_keep_34 : decode cP_keep 34 = .ok (.getfield 151, 3) := by decide +kernel
theorem dP_keep_37 : decode cP_keep 37 = .ok (.iload_n 1, 1) := by decide +kernel
theorem dP_keep_38 : decode cP_keep 38 = .ok (.aaload, 1) := by decide +kernel
theorem dP_keep_39 : decode cP_keep 39 = .ok (.astore_n 3, 1) := by decide +kernel
theorem dP_keep_40 : decode cP_keep 40 = .ok (.aload_n 0, 1) := by decide +kernel
theorem dP_keep_41 : decode cP_keep 41 = .ok (.getfield 35, 3) := by decide +kernel
theorem dP_keep_44 : decode cP_keep 44 = .ok (.aload_n 3, 1) := by decide +kernel
theorem dP_keep_45 : decode cP_keep 45 = .ok (.invokevirtual 161, 3) := by decide +kernel
theorem dP_keep_48 : decode cP_keep 48 = .ok (.istore 4, 2) := by decide +kernel
theorem dP_keep_50 : decode cP_keep 50 = .ok (.iload 4, 2) := by decide +kernel
theorem dP_keep_52 : decode cP_keep 52 = .ok (.iconst (-1), 1) := by decide +kernel
theorem dP_keep_53 : decode cP_keep 53 = .ok (.if_icmp .eq 16, 3) := by decide +kernel
theorem dP_keep_56 : decode cP_keep 56 = .ok (.aload_n 0, 1) := by decide +kernel
theorem dP_keep_57 : decode cP_keep 57 = .ok (.getfield 35, 3) := by decide +kernel
theorem dP_keep_60 : decode cP_keep 60 = .ok (.iload 4, 2) := by decide +kernel
theorem dP_keep_62 : decode cP_keep 62 = .ok (.iload_n 2, 1) := by decide +kernel
theorem dP_keep_63 : decode cP_keep 63 = .ok (.invokevirtual 164, 3) := by decide +kernel
theorem dP_keep_66 : decode cP_keep 66 = .ok (.iload 4, 2) := by decide +kernel
theorem dP_keep_68 : decode cP_keep 68 = .ok (.ireturn, 1) := by decide +kernel
theorem dP_keep_69 : decode cP_keep 69 = .ok (.aload_n 0, 1) := by decide +kernel
theorem dP_keep_70 : decode cP_keep 70 = .ok (.getfield 35, 3) := by decide +kernel
theorem dP_keep_73 : decode cP_keep 73 = .ok (.getfield 168, 3) := by decide +kernel
theorem dP_keep_76 : decode cP_keep 76 = .ok (.bipush 40, 2) := by decide +kernel
theorem dP_keep_78 : decode cP_keep 78 = .ok (.if_icmp .lt 13, 3) := by decide +kernel
theorem dP_keep_81 : decode cP_keep 81 = .ok (.new 108, 3) := by decide +kernel
theorem dP_keep_84 : decode cP_keep 84 = .ok (.dup, 1) := by decide +kernel
theorem dP_keep_85 : decode cP_keep 85 = .ok (.ldc 169, 2) := by decide +kernel
theorem dP_keep_87 : decode cP_keep 87 = .ok (.invokespecial 112, 3) := by decide +kernel
theorem dP_keep_90 : decode cP_keep 90 = .ok (.athrow, 1) := by decide +kernel
theorem dP_keep_91 : decode cP_keep 91 = .ok (.aload_n 0, 1) := by decide +kernel
theorem dP_keep_92 : decode cP_keep 92 = .ok (.getfield 35, 3) := by decide +kernel
theorem dP_keep_95 : decode cP_keep 95 = .ok (.aload_n 3, 1) := by decide +kernel
theorem dP_keep_96 : decode cP_keep 96 = .ok (.iload_n 2, 1) := by decide +kernel
theorem dP_keep_97 : decode cP_keep 97 = .ok (.invokevirtual 171, 3) := by decide +kernel
theorem dP_keep_100 : decode cP_keep 100 = .ok (.ireturn, 1) := by decide +kernel
theorem dT_find_0 : decode cT_find 0 = .ok (.iconst 0, 1) := by decide +kernel
theorem dT_find_1 : decode cT_find 1 = .ok (.istore_n 2, 1) := by decide +kernel
theorem dT_find_2 : decode cT_find 2 = .ok (.iload_n 2, 1) := by decide +kernel
theorem dT_find_3 : decode cT_find 3 = .ok (.aload_n 0, 1) := by decide +kernel
theorem dT_find_4 : decode cT_find 4 = .ok (.getfield 23, 3) := by decide +kernel
theorem dT_find_7 : decode cT_find 7 = .ok (.if_icmp .ge 24, 3) := by decide +kernel
theorem dT_find_10 : decode cT_find 10 = .ok (.aload_n 0, 1) := by decide +kernel
theorem dT_find_11 : decode cT_find 11 = .ok (.getfield 11, 3) := by decide +kernel
theorem dT_find_14 : decode cT_find 14 = .ok (.iload_n 2, 1) := by decide +kernel
theorem dT_find_15 : decode cT_find 15 = .ok (.aaload, 1) := by decide +kernel
theorem dT_find_16 : decode cT_find 16 = .ok (.aload_n 1, 1) := by decide +kernel
theorem dT_find_17 : decode cT_find 17 = .ok (.invokestatic 27, 3) := by decide +kernel
theorem dT_find_20 : decode cT_find 20 = .ok (.ifCond .eq 5, 3) := by decide +kernel
theorem dT_find_23 : decode cT_find 23 = .ok (.iload_n 2, 1) := by decide +kernel
theorem dT_find_24 : decode cT_find 24 = .ok (.ireturn, 1) := by decide +kernel
theorem dT_find_25 : decode cT_find 25 = .ok (.iinc 2 1, 3) := by decide +kernel
theorem dT_find_28 : decode cT_find 28 = .ok (.goto (-26), 3) := by decide +kernel
theorem dT_find_31 : decode cT_find 31 = .ok (.iconst (-1), 1) := by decide +kernel
theorem dT_find_32 : decode cT_find 32 = .ok (.ireturn, 1) := by decide +kernel
theorem dT_same_0 : decode cT_same 0 = .ok (.iconst 0, 1) := by decide +kernel
theorem dT_same_1 : decode cT_same 1 = .ok (.istore_n 2, 1) := by decide +kernel
theorem dT_same_2 : decode cT_same 2 = .ok (.iload_n 2, 1) := by decide +kernel
theorem dT_same_3 : decode cT_same 3 = .ok (.iconst 5, 1) := by decide +kernel
theorem dT_same_4 : decode cT_same 4 = .ok (.if_icmp .ge 20, 3) := by decide +kernel
theorem dT_same_7 : decode cT_same 7 = .ok (.aload_n 0, 1) := by decide +kernel
theorem dT_same_8 : decode cT_same 8 = .ok (.iload_n 2, 1) := by decide +kernel
theorem dT_same_9 : decode cT_same 9 = .ok (.iaload, 1) := by decide +kernel
theorem dT_same_10 : decode cT_same 10 = .ok (.aload_n 1, 1) := by decide +kernel
theorem dT_same_11 : decode cT_same 11 = .ok (.iload_n 2, 1) := by decide +kernel
theorem dT_same_12 : decode cT_same 12 = .ok (.iaload, 1) := by decide +kernel
theorem dT_same_13 : decode cT_same 13 = .ok (.if_icmp .eq 5, 3) := by decide +kernel
theorem dT_same_16 : decode cT_same 16 = .ok (.iconst 0, 1) := by decide +kernel
theorem dT_same_17 : decode cT_same 17 = .ok (.ireturn, 1) := by decide +kernel
theorem dT_same_18 : decode cT_same 18 = .ok (.iinc 2 1, 3) := by decide +kernel
theorem dT_same_21 : decode cT_same 21 = .ok (.goto (-19), 3) := by decide +kernel
theorem dT_same_24 : decode cT_same 24 = .ok (.iconst 1, 1) := by decide +kernel
theorem dT_same_25 : decode cT_same 25 = .ok (.ireturn, 1) := by decide +kernel
theorem dT_countAgain_0 : decode cT_countAgain 0 = .ok (.aload_n 0, 1) := by decide +kernel
theorem dT_countAgain_1 : decode cT_countAgain 1 = .ok (.getfield 16, 3) := by decide +kernel
theorem dT_countAgain_4 : decode cT_countAgain 4 = .ok (.iload_n 1, 1) := by decide +kernel
theorem dT_countAgain_5 : decode cT_countAgain 5 = .ok (.dup2, 1) := by decide +kernel
theorem dT_countAgain_6 : decode cT_countAgain 6 = .ok (.iaload, 1) := by decide +kernel
theorem dT_countAgain_7 : decode cT_countAgain 7 = .ok (.iconst 1, 1) := by decide +kernel
theorem dT_countAgain_8 : decode cT_countAgain 8 = .ok (.iadd, 1) := by decide +kernel
theorem dT_countAgain_9 : decode cT_countAgain 9 = .ok (.iastore, 1) := by decide +kernel
theorem dT_countAgain_10 : decode cT_countAgain 10 = .ok (.aload_n 0, 1) := by decide +kernel
theorem dT_countAgain_11 : decode cT_countAgain 11 = .ok (.getfield 20, 3) := by decide +kernel
theorem dT_countAgain_14 : decode cT_countAgain 14 = .ok (.iload_n 1, 1) := by decide +kernel
theorem dT_countAgain_15 : decode cT_countAgain 15 = .ok (.aload_n 0, 1) := by decide +kernel
theorem dT_countAgain_16 : decode cT_countAgain 16 = .ok (.getfield 20, 3) := by decide +kernel
theorem dT_countAgain_19 : decode cT_countAgain 19 = .ok (.iload_n 1, 1) := by decide +kernel
theorem dT_countAgain_20 : decode cT_countAgain 20 = .ok (.iaload, 1) := by decide +kernel
theorem dT_countAgain_21 : decode cT_countAgain 21 = .ok (.iload_n 2, 1) := by decide +kernel
theorem dT_countAgain_22 : decode cT_countAgain 22 = .ok (.invokestatic 31, 3) := by decide +kernel
theorem dT_countAgain_25 : decode cT_countAgain 25 = .ok (.iastore, 1) := by decide +kernel
theorem dT_countAgain_26 : decode cT_countAgain 26 = .ok (.return_, 1) := by decide +kernel
theorem dT_add_0 : decode cT_add 0 = .ok (.aload_n 0, 1) := by decide +kernel
theorem dT_add_1 : decode cT_add 1 = .ok (.getfield 23, 3) := by decide +kernel
theorem dT_add_4 : decode cT_add 4 = .ok (.istore_n 3, 1) := by decide +kernel
theorem dT_add_5 : decode cT_add 5 = .ok (.aload_n 1, 1) := by decide +kernel
theorem dT_add_6 : decode cT_add 6 = .ok (.iconst 0, 1) := by decide +kernel
theorem dT_add_7 : decode cT_add 7 = .ok (.aload_n 0, 1) := by decide +kernel
theorem dT_add_8 : decode cT_add 8 = .ok (.getfield 11, 3) := by decide +kernel
theorem dT_add_11 : decode cT_add 11 = .ok (.iload_n 3, 1) := by decide +kernel
theorem dT_add_12 : decode cT_add 12 = .ok (.aaload, 1) := by decide +kernel
theorem dT_add_13 : decode cT_add 13 = .ok (.iconst 0, 1) := by decide +kernel
theorem dT_add_14 : decode cT_add 14 = .ok (.iconst 5, 1) := by decide +kernel
theorem dT_add_15 : decode cT_add 15 = .ok (.invokestatic 37, 3) := by decide +kernel
theorem dT_add_18 : decode cT_add 18 = .ok (.aload_n 0, 1) := by decide +kernel
theorem dT_add_19 : decode cT_add 19 = .ok (.getfield 16, 3) := by decide +kernel
theorem dT_add_22 : decode cT_add 22 = .ok (.iload_n 3, 1) := by decide +kernel
theorem dT_add_23 : decode cT_add 23 = .ok (.iconst 1, 1) := by decide +kernel
theorem dT_add_24 : decode cT_add 24 = .ok (.iastore, 1) := by decide +kernel
theorem dT_add_25 : decode cT_add 25 = .ok (.aload_n 0, 1) := by decide +kernel
theorem dT_add_26 : decode cT_add 26 = .ok (.getfield 20, 3) := by decide +kernel
theorem dT_add_29 : decode cT_add 29 = .ok (.iload_n 3, 1) := by decide +kernel
theorem dT_add_30 : decode cT_add 30 = .ok (.iload_n 2, 1) := by decide +kernel
theorem dT_add_31 : decode cT_add 31 = .ok (.iastore, 1) := by decide +kernel
theorem dT_add_32 : decode cT_add 32 = .ok (.aload_n 0, 1) := by decide +kernel
theorem dT_add_33 : decode cT_add 33 = .ok (.iload_n 3, 1) := by decide +kernel
theorem dT_add_34 : decode cT_add 34 = .ok (.iconst 1, 1) := by decide +kernel
theorem dT_add_35 : decode cT_add 35 = .ok (.iadd, 1) := by decide +kernel
theorem dT_add_36 : decode cT_add 36 = .ok (.putfield 23, 3) := by decide +kernel
theorem dT_add_39 : decode cT_add 39 = .ok (.iload_n 3, 1) := by decide +kernel
theorem dT_add_40 : decode cT_add 40 = .ok (.ireturn, 1) := by decide +kernel
theorem dL_kept_0 : decode cL_kept 0 = .ok (.aload_n 3, 1) := by decide +kernel
theorem dL_kept_1 : decode cL_kept 1 = .ok (.iconst 0, 1) := by decide +kernel
theorem dL_kept_2 : decode cL_kept 2 = .ok (.aload_n 0, 1) := by decide +kernel
theorem dL_kept_3 : decode cL_kept 3 = .ok (.iload_n 1, 1) := by decide +kernel
theorem dL_kept_4 : decode cL_kept 4 = .ok (.iload_n 2, 1) := by decide +kernel
theorem dL_kept_5 : decode cL_kept 5 = .ok (.invokevirtual 55, 3) := by decide +kernel
theorem dL_kept_8 : decode cL_kept 8 = .ok (.i2l, 1) := by decide +kernel
theorem dL_kept_9 : decode cL_kept 9 = .ok (.lastore, 1) := by decide +kernel
theorem dL_kept_10 : decode cL_kept 10 = .ok (.goto 7, 3) := by decide +kernel
theorem dL_kept_13 : decode cL_kept 13 = .ok (.astore 4, 2) := by decide +kernel
theorem dL_kept_15 : decode cL_kept 15 = .ok (.iconst 1, 1) := by decide +kernel
theorem dL_kept_16 : decode cL_kept 16 = .ok (.ireturn, 1) := by decide +kernel
theorem dL_kept_17 : decode cL_kept 17 = .ok (.iconst 0, 1) := by decide +kernel
theorem dL_kept_18 : decode cL_kept 18 = .ok (.ireturn, 1) := by decide +kernel
theorem dP_kept_0 : decode cP_kept 0 = .ok (.iload_n 1, 1) := by decide +kernel
theorem dP_kept_1 : decode cP_kept 1 = .ok (.ifCond .lt 14, 3) := by decide +kernel
theorem dP_kept_4 : decode cP_kept 4 = .ok (.iload_n 1, 1) := by decide +kernel
theorem dP_kept_5 : decode cP_kept 5 = .ok (.aload_n 0, 1) := by decide +kernel
theorem dP_kept_6 : decode cP_kept 6 = .ok (.getfield 35, 3) := by decide +kernel
theorem dP_kept_9 : decode cP_kept 9 = .ok (.getfield 168, 3) := by decide +kernel
theorem dP_kept_12 : decode cP_kept 12 = .ok (.if_icmp .lt 13, 3) := by decide +kernel
theorem dP_kept_15 : decode cP_kept 15 = .ok (.new 73, 3) := by decide +kernel
theorem dP_kept_18 : decode cP_kept 18 = .ok (.dup, 1) := by decide +kernel
theorem dP_kept_19 : decode cP_kept 19 = .ok (.ldc 174, 2) := by decide +kernel
theorem dP_kept_21 : decode cP_kept 21 = .ok (.invokespecial 77, 3) := by decide +kernel
theorem dP_kept_24 : decode cP_kept 24 = .ok (.athrow, 1) := by decide +kernel
theorem dP_kept_25 : decode cP_kept 25 = .ok (.iload_n 2, 1) := by decide +kernel
theorem dP_kept_26 : decode cP_kept 26 = .ok (.ifCond .lt 9, 3) := by decide +kernel
theorem dP_kept_29 : decode cP_kept 29 = .ok (.iload_n 2, 1) := by decide +kernel
theorem dP_kept_30 : decode cP_kept 30 = .ok (.bipush 6, 2) := by decide +kernel
theorem dP_kept_32 : decode cP_kept 32 = .ok (.if_icmp .le 13, 3) := by decide +kernel
theorem dP_kept_35 : decode cP_kept 35 = .ok (.new 73, 3) := by decide +kernel
theorem dP_kept_38 : decode cP_kept 38 = .ok (.dup, 1) := by decide +kernel
theorem dP_kept_39 : decode cP_kept 39 = .ok (.ldc 120, 2) := by decide +kernel
theorem dP_kept_41 : decode cP_kept 41 = .ok (.invokespecial 77, 3) := by decide +kernel
theorem dP_kept_44 : decode cP_kept 44 = .ok (.athrow, 1) := by decide +kernel
theorem dP_kept_45 : decode cP_kept 45 = .ok (.iload_n 2, 1) := by decide +kernel
theorem dP_kept_46 : decode cP_kept 46 = .ok (.bipush 6, 2) := by decide +kernel
theorem dP_kept_48 : decode cP_kept 48 = .ok (.if_icmp .ne 13, 3) := by decide +kernel
theorem dP_kept_51 : decode cP_kept 51 = .ok (.aload_n 0, 1) := by decide +kernel
theorem dP_kept_52 : decode cP_kept 52 = .ok (.getfield 35, 3) := by decide +kernel
theorem dP_kept_55 : decode cP_kept 55 = .ok (.getfield 176, 3) := by decide +kernel
theorem dP_kept_58 : decode cP_kept 58 = .ok (.iload_n 1, 1) := by decide +kernel
theorem dP_kept_59 : decode cP_kept 59 = .ok (.iaload, 1) := by decide +kernel
theorem dP_kept_60 : decode cP_kept 60 = .ok (.ireturn, 1) := by decide +kernel
theorem dP_kept_61 : decode cP_kept 61 = .ok (.iload_n 2, 1) := by decide +kernel
theorem dP_kept_62 : decode cP_kept 62 = .ok (.iconst 5, 1) := by decide +kernel
theorem dP_kept_63 : decode cP_kept 63 = .ok (.if_icmp .ne 13, 3) := by decide +kernel
theorem dP_kept_66 : decode cP_kept 66 = .ok (.aload_n 0, 1) := by decide +kernel
theorem dP_kept_67 : decode cP_kept 67 = .ok (.getfield 35, 3) := by decide +kernel
theorem dP_kept_70 : decode cP_kept 70 = .ok (.getfield 179, 3) := by decide +kernel
theorem dP_kept_73 : decode cP_kept 73 = .ok (.iload_n 1, 1) := by decide +kernel
theorem dP_kept_74 : decode cP_kept 74 = .ok (.iaload, 1) := by decide +kernel
theorem dP_kept_75 : decode cP_kept 75 = .ok (.ireturn, 1) := by decide +kernel
theorem dP_kept_76 : decode cP_kept 76 = .ok (.aload_n 0, 1) := by decide +kernel
theorem dP_kept_77 : decode cP_kept 77 = .ok (.getfield 35, 3) := by decide +kernel
theorem dP_kept_80 : decode cP_kept 80 = .ok (.getfield 182, 3) := by decide +kernel
theorem dP_kept_83 : decode cP_kept 83 = .ok (.iload_n 1, 1) := by decide +kernel
theorem dP_kept_84 : decode cP_kept 84 = .ok (.aaload, 1) := by decide +kernel
theorem dP_kept_85 : decode cP_kept 85 = .ok (.iload_n 2, 1) := by decide +kernel
theorem dP_kept_86 : decode cP_kept 86 = .ok (.iaload, 1) := by decide +kernel
theorem dP_kept_87 : decode cP_kept 87 = .ok (.ireturn, 1) := by decide +kernel
theorem dL_fitting_0 : decode cL_fitting 0 = .ok (.aload_n 2, 1) := by decide +kernel
theorem dL_fitting_1 : decode cL_fitting 1 = .ok (.iconst 0, 1) := by decide +kernel
theorem dL_fitting_2 : decode cL_fitting 2 = .ok (.aload_n 0, 1) := by decide +kernel
theorem dL_fitting_3 : decode cL_fitting 3 = .ok (.iload_n 1, 1) := by decide +kernel
theorem dL_fitting_4 : decode cL_fitting 4 = .ok (.invokevirtual 58, 3) := by decide +kernel
theorem dL_fitting_7 : decode cL_fitting 7 = .ok (.i2l, 1) := by decide +kernel
theorem dL_fitting_8 : decode cL_fitting 8 = .ok (.lastore, 1) := by decide +kernel
theorem dL_fitting_9 : decode cL_fitting 9 = .ok (.goto 6, 3) := by decide +kernel
theorem dL_fitting_12 : decode cL_fitting 12 = .ok (.astore_n 3, 1) := by decide +kernel
theorem dL_fitting_13 : decode cL_fitting 13 = .ok (.iconst 1, 1) := by decide +kernel
theorem dL_fitting_14 : decode cL_fitting 14 = .ok (.ireturn, 1) := by decide +kernel
theorem dL_fitting_15 : decode cL_fitting 15 = .ok (.iconst 0, 1) := by decide +kernel
theorem dL_fitting_16 : decode cL_fitting 16 = .ok (.ireturn, 1) := by decide +kernel
theorem dP_fitting_0 : decode cP_fitting 0 = .ok (.iload_n 1, 1) := by decide +kernel
theorem dP_fitting_1 : decode cP_fitting 1 = .ok (.ifCond .ge 13, 3) := by decide +kernel
theorem dP_fitting_4 : decode cP_fitting 4 = .ok (.new 73, 3) := by decide +kernel
theorem dP_fitting_7 : decode cP_fitting 7 = .ok (.dup, 1) := by decide +kernel
theorem dP_fitting_8 : decode cP_fitting 8 = .ok (.ldc 185, 2) := by decide +kernel
theorem dP_fitting_10 : decode cP_fitting 10 = .ok (.invokespecial 77, 3) := by decide +kernel
theorem dP_fitting_13 : decode cP_fitting 13 = .ok (.athrow, 1) := by decide +kernel
theorem dP_fitting_14 : decode cP_fitting 14 = .ok (.iload_n 1, 1) := by decide +kernel
theorem dP_fitting_15 : decode cP_fitting 15 = .ok (.istore_n 2, 1) := by decide +kernel
theorem dP_fitting_16 : decode cP_fitting 16 = .ok (.iconst 0, 1) := by decide +kernel
theorem dP_fitting_17 : decode cP_fitting 17 = .ok (.istore_n 3, 1) := by decide +kernel
theorem dP_fitting_18 : decode cP_fitting 18 = .ok (.iload_n 3, 1) := by decide +kernel
theorem dP_fitting_19 : decode cP_fitting 19 = .ok (.aload_n 0, 1) := by decide +kernel
theorem dP_fitting_20 : decode cP_fitting 20 = .ok (.getfield 35, 3) := by decide +kernel
theorem dP_fitting_23 : decode cP_fitting 23 = .ok (.getfield 168, 3) := by decide +kernel
theorem dP_fitting_26 : decode cP_fitting 26 = .ok (.if_icmp .ge 37, 3) := by decide +kernel
theorem dP_fitting_29 : decode cP_fitting 29 = .ok (.aload_n 0, 1) := by decide +kernel
theorem dP_fitting_30 : decode cP_fitting 30 = .ok (.getfield 12, 3) := by decide +kernel
theorem dP_fitting_33 : decode cP_fitting 33 = .ok (.aload_n 0, 1) := by decide +kernel
theorem dP_fitting_34 : decode cP_fitting 34 = .ok (.getfield 35, 3) := by decide +kernel
theorem dP_fitting_37 : decode cP_fitting 37 = .ok (.getfield 182, 3) := by decide +kernel
theorem dP_fitting_40 : decode cP_fitting 40 = .ok (.iload_n 3, 1) := by decide +kernel
theorem dP_fitting_41 : decode cP_fitting 41 = .ok (.aaload, 1) := by decide +kernel
theorem dP_fitting_42 : decode cP_fitting 42 = .ok (.invokevirtual 187, 3) := by decide +kernel
theorem dP_fitting_45 : decode cP_fitting 45 = .ok (.ifCond .eq 12, 3) := by decide +kernel
theorem dP_fitting_48 : decode cP_fitting 48 = .ok (.iload_n 2, 1) := by decide +kernel
theorem dP_fitting_49 : decode cP_fitting 49 = .ok (.ifCond .ne 5, 3) := by decide +kernel
theorem dP_fitting_52 : decode cP_fitting 52 = .ok (.iload_n 3, 1) := by decide +kernel
theorem dP_fitting_53 : decode cP_fitting 53 = .ok (.ireturn, 1) := by decide +kernel
theorem dP_fitting_54 : decode cP_fitting 54 = .ok (.iinc 2 (-1), 3) := by decide +kernel
theorem dP_fitting_57 : decode cP_fitting 57 = .ok (.iinc 3 1, 3) := by decide +kernel
theorem dP_fitting_60 : decode cP_fitting 60 = .ok (.goto (-42), 3) := by decide +kernel
theorem dP_fitting_63 : decode cP_fitting 63 = .ok (.iconst (-1), 1) := by decide +kernel
theorem dP_fitting_64 : decode cP_fitting 64 = .ok (.ireturn, 1) := by decide +kernel
theorem dS_isPattern_0 : decode cS_isPattern 0 = .ok (.iconst 0, 1) := by decide +kernel
theorem dS_isPattern_1 : decode cS_isPattern 1 = .ok (.istore_n 2, 1) := by decide +kernel
theorem dS_isPattern_2 : decode cS_isPattern 2 = .ok (.iload_n 2, 1) := by decide +kernel
theorem dS_isPattern_3 : decode cS_isPattern 3 = .ok (.aload_n 0, 1) := by decide +kernel
theorem dS_isPattern_4 : decode cS_isPattern 4 = .ok (.getfield 25, 3) := by decide +kernel
theorem dS_isPattern_7 : decode cS_isPattern 7 = .ok (.if_icmp .ge 23, 3) := by decide +kernel
theorem dS_isPattern_10 : decode cS_isPattern 10 = .ok (.aload_n 1, 1) := by decide +kernel
theorem dS_isPattern_11 : decode cS_isPattern 11 = .ok (.iload_n 2, 1) := by decide +kernel
theorem dS_isPattern_12 : decode cS_isPattern 12 = .ok (.iaload, 1) := by decide +kernel
theorem dS_isPattern_13 : decode cS_isPattern 13 = .ok (.aload_n 0, 1) := by decide +kernel
theorem dS_isPattern_14 : decode cS_isPattern 14 = .ok (.getfield 19, 3) := by decide +kernel
theorem dS_isPattern_17 : decode cS_isPattern 17 = .ok (.iload_n 2, 1) := by decide +kernel
theorem dS_isPattern_18 : decode cS_isPattern 18 = .ok (.iaload, 1) := by decide +kernel
theorem dS_isPattern_19 : decode cS_isPattern 19 = .ok (.if_icmp .le 5, 3) := by decide +kernel
theorem dS_isPattern_22 : decode cS_isPattern 22 = .ok (.iconst 0, 1) := by decide +kernel
theorem dS_isPattern_23 : decode cS_isPattern 23 = .ok (.ireturn, 1) := by decide +kernel
theorem dS_isPattern_24 : decode cS_isPattern 24 = .ok (.iinc 2 1, 3) := by decide +kernel
theorem dS_isPattern_27 : decode cS_isPattern 27 = .ok (.goto (-25), 3) := by decide +kernel
theorem dS_isPattern_30 : decode cS_isPattern 30 = .ok (.aload_n 0, 1) := by decide +kernel
theorem dS_isPattern_31 : decode cS_isPattern 31 = .ok (.aload_n 1, 1) := by decide +kernel
theorem dS_isPattern_32 : decode cS_isPattern 32 = .ok (.invokevirtual 40, 3) := by decide +kernel
theorem dS_isPattern_35 : decode cS_isPattern 35 = .ok (.aload_n 0, 1) := by decide +kernel
theorem dS_isPattern_36 : decode cS_isPattern 36 = .ok (.getfield 9, 3) := by decide +kernel
theorem dS_isPattern_39 : decode cS_isPattern 39 = .ok (.if_icmp .gt 7, 3) := by decide +kernel
theorem dS_isPattern_42 : decode cS_isPattern 42 = .ok (.iconst 1, 1) := by decide +kernel
theorem dS_isPattern_43 : decode cS_isPattern 43 = .ok (.goto 4, 3) := by decide +kernel
theorem dS_isPattern_46 : decode cS_isPattern 46 = .ok (.iconst 0, 1) := by decide +kernel
theorem dS_isPattern_47 : decode cS_isPattern 47 = .ok (.ireturn, 1) := by decide +kernel
theorem dM_init_0 : decode cM_init 0 = .ok (.aload_n 0, 1) := by decide +kernel
theorem dM_init_1 : decode cM_init 1 = .ok (.invokespecial 1, 3) := by decide +kernel
theorem dM_init_4 : decode cM_init 4 = .ok (.aload_n 0, 1) := by decide +kernel
theorem dM_init_5 : decode cM_init 5 = .ok (.bipush 100, 2) := by decide +kernel
theorem dM_init_7 : decode cM_init 7 = .ok (.putfield 7, 3) := by decide +kernel
theorem dM_init_10 : decode cM_init 10 = .ok (.aload_n 0, 1) := by decide +kernel
theorem dM_init_11 : decode cM_init 11 = .ok (.iconst 5, 1) := by decide +kernel
theorem dM_init_12 : decode cM_init 12 = .ok (.newarray .int, 2) := by decide +kernel
theorem dM_init_14 : decode cM_init 14 = .ok (.putfield 13, 3) := by decide +kernel
theorem dM_init_17 : decode cM_init 17 = .ok (.aload_n 0, 1) := by decide +kernel
theorem dM_init_18 : decode cM_init 18 = .ok (.iconst 5, 1) := by decide +kernel
theorem dM_init_19 : decode cM_init 19 = .ok (.newarray .int, 2) := by decide +kernel
theorem dM_init_21 : decode cM_init 21 = .ok (.putfield 17, 3) := by decide +kernel
theorem dM_init_24 : decode cM_init 24 = .ok (.aload_n 0, 1) := by decide +kernel
theorem dM_init_25 : decode cM_init 25 = .ok (.iconst 5, 1) := by decide +kernel
theorem dM_init_26 : decode cM_init 26 = .ok (.newarray .int, 2) := by decide +kernel
theorem dM_init_28 : decode cM_init 28 = .ok (.putfield 20, 3) := by decide +kernel
theorem dM_init_31 : decode cM_init 31 = .ok (.aload_n 0, 1) := by decide +kernel
theorem dM_init_32 : decode cM_init 32 = .ok (.sipush 160, 3) := by decide +kernel
theorem dM_init_35 : decode cM_init 35 = .ok (.newarray .int, 2) := by decide +kernel
theorem dM_init_37 : decode cM_init 37 = .ok (.putfield 23, 3) := by decide +kernel
theorem dM_init_40 : decode cM_init 40 = .ok (.aload_n 0, 1) := by decide +kernel
theorem dM_init_41 : decode cM_init 41 = .ok (.sipush 160, 3) := by decide +kernel
theorem dM_init_44 : decode cM_init 44 = .ok (.newarray .int, 2) := by decide +kernel
theorem dM_init_46 : decode cM_init 46 = .ok (.putfield 26, 3) := by decide +kernel
theorem dM_init_49 : decode cM_init 49 = .ok (.aload_n 0, 1) := by decide +kernel
theorem dM_init_50 : decode cM_init 50 = .ok (.iconst (-1), 1) := by decide +kernel
theorem dM_init_51 : decode cM_init 51 = .ok (.putfield 29, 3) := by decide +kernel
theorem dM_init_54 : decode cM_init 54 = .ok (.aload_n 0, 1) := by decide +kernel
theorem dM_init_55 : decode cM_init 55 = .ok (.sipush 155, 3) := by decide +kernel
theorem dM_init_58 : decode cM_init 58 = .ok (.newarray .int, 2) := by decide +kernel
theorem dM_init_60 : decode cM_init 60 = .ok (.putfield 32, 3) := by decide +kernel
theorem dM_init_63 : decode cM_init 63 = .ok (.aload_n 0, 1) := by decide +kernel
theorem dM_init_64 : decode cM_init 64 = .ok (.sipush 280, 3) := by decide +kernel
theorem dM_init_67 : decode cM_init 67 = .ok (.newarray .int, 2) := by decide +kernel
theorem dM_init_69 : decode cM_init 69 = .ok (.putfield 35, 3) := by decide +kernel
theorem dM_init_72 : decode cM_init 72 = .ok (.return_, 1) := by decide +kernel
theorem dM_thrown_0 : decode cM_thrown 0 = .ok (.aload_n 0, 1) := by decide +kernel
theorem dM_thrown_1 : decode cM_thrown 1 = .ok (.getfield 38, 3) := by decide +kernel
theorem dM_thrown_4 : decode cM_thrown 4 = .ok (.ireturn, 1) := by decide +kernel
theorem dM_sheet_0 : decode cM_sheet 0 = .ok (.aload_n 0, 1) := by decide +kernel
theorem dM_sheet_1 : decode cM_sheet 1 = .ok (.iload_n 1, 1) := by decide +kernel
theorem dM_sheet_2 : decode cM_sheet 2 = .ok (.iconst 1, 1) := by decide +kernel
theorem dM_sheet_3 : decode cM_sheet 3 = .ok (.sipush 1000, 3) := by decide +kernel
theorem dM_sheet_6 : decode cM_sheet 6 = .ok (.invokestatic 44, 3) := by decide +kernel
theorem dM_sheet_9 : decode cM_sheet 9 = .ok (.ifCond .ne 7, 3) := by decide +kernel
theorem dM_sheet_12 : decode cM_sheet 12 = .ok (.iconst 1, 1) := by decide +kernel
theorem dM_sheet_13 : decode cM_sheet 13 = .ok (.goto 4, 3) := by decide +kernel
theorem dM_sheet_16 : decode cM_sheet 16 = .ok (.iconst 0, 1) := by decide +kernel
theorem dM_sheet_17 : decode cM_sheet 17 = .ok (.iconst 0, 1) := by decide +kernel
theorem dM_sheet_18 : decode cM_sheet 18 = .ok (.iconst 0, 1) := by decide +kernel
theorem dM_sheet_19 : decode cM_sheet 19 = .ok (.iconst 0, 1) := by decide +kernel
theorem dM_sheet_20 : decode cM_sheet 20 = .ok (.invokevirtual 52, 3) := by decide +kernel
theorem dM_sheet_23 : decode cM_sheet 23 = .ok (.ifCond .eq 4, 3) := by decide +kernel
theorem dM_sheet_26 : decode cM_sheet 26 = .ok (.return_, 1) := by decide +kernel
theorem dM_sheet_27 : decode cM_sheet 27 = .ok (.aload_n 0, 1) := by decide +kernel
theorem dM_sheet_28 : decode cM_sheet 28 = .ok (.iload_n 1, 1) := by decide +kernel
theorem dM_sheet_29 : decode cM_sheet 29 = .ok (.putfield 7, 3) := by decide +kernel
theorem dM_sheet_32 : decode cM_sheet 32 = .ok (.aload_n 0, 1) := by decide +kernel
theorem dM_sheet_33 : decode cM_sheet 33 = .ok (.invokevirtual 56, 3) := by decide +kernel
theorem dM_sheet_36 : decode cM_sheet 36 = .ok (.return_, 1) := by decide +kernel
theorem dM_in_0 : decode cM_in 0 = .ok (.iload_n 0, 1) := by decide +kernel
theorem dM_in_1 : decode cM_in 1 = .ok (.iload_n 1, 1) := by decide +kernel
theorem dM_in_2 : decode cM_in 2 = .ok (.if_icmp .lt 12, 3) := by decide +kernel
theorem dM_in_5 : decode cM_in 5 = .ok (.iload_n 0, 1) := by decide +kernel
theorem dM_in_6 : decode cM_in 6 = .ok (.iload_n 2, 1) := by decide +kernel
theorem dM_in_7 : decode cM_in 7 = .ok (.if_icmp .gt 7, 3) := by decide +kernel
theorem dM_in_10 : decode cM_in 10 = .ok (.iconst 1, 1) := by decide +kernel
theorem dM_in_11 : decode cM_in 11 = .ok (.goto 4, 3) := by decide +kernel
theorem dM_in_14 : decode cM_in 14 = .ok (.iconst 0, 1) := by decide +kernel
theorem dM_in_15 : decode cM_in 15 = .ok (.ireturn, 1) := by decide +kernel
theorem dM_throwing_0 : decode cM_throwing 0 = .ok (.aload_n 0, 1) := by decide +kernel
theorem dM_throwing_1 : decode cM_throwing 1 = .ok (.iload_n 1, 1) := by decide +kernel
theorem dM_throwing_2 : decode cM_throwing 2 = .ok (.ifCond .eq 7, 3) := by decide +kernel
theorem dM_throwing_5 : decode cM_throwing 5 = .ok (.iconst 1, 1) := by decide +kernel
theorem dM_throwing_6 : decode cM_throwing 6 = .ok (.goto 29, 3) := by decide +kernel
theorem dM_throwing_9 : decode cM_throwing 9 = .ok (.iload_n 2, 1) := by decide +kernel
theorem dM_throwing_10 : decode cM_throwing 10 = .ok (.ifCond .eq 7, 3) := by decide +kernel
theorem dM_throwing_13 : decode cM_throwing 13 = .ok (.iconst 2, 1) := by decide +kernel
theorem dM_throwing_14 : decode cM_throwing 14 = .ok (.goto 21, 3) := by decide +kernel
theorem dM_throwing_17 : decode cM_throwing 17 = .ok (.iload_n 3, 1) := by decide +kernel
theorem dM_throwing_18 : decode cM_throwing 18 = .ok (.ifCond .eq 7, 3) := by decide +kernel
theorem dM_throwing_21 : decode cM_throwing 21 = .ok (.iconst 3, 1) := by decide +kernel
theorem dM_throwing_22 : decode cM_throwing 22 = .ok (.goto 13, 3) := by decide +kernel
theorem dM_throwing_25 : decode cM_throwing 25 = .ok (.iload 4, 2) := by decide +kernel
theorem dM_throwing_27 : decode cM_throwing 27 = .ok (.ifCond .eq 7, 3) := by decide +kernel
theorem dM_throwing_30 : decode cM_throwing 30 = .ok (.iconst 4, 1) := by decide +kernel
theorem dM_throwing_31 : decode cM_throwing 31 = .ok (.goto 4, 3) := by decide +kernel
theorem dM_throwing_34 : decode cM_throwing 34 = .ok (.iconst 0, 1) := by decide +kernel
theorem dM_throwing_35 : decode cM_throwing 35 = .ok (.putfield 38, 3) := by decide +kernel
theorem dM_throwing_38 : decode cM_throwing 38 = .ok (.aload_n 0, 1) := by decide +kernel
theorem dM_throwing_39 : decode cM_throwing 39 = .ok (.getfield 38, 3) := by decide +kernel
theorem dM_throwing_42 : decode cM_throwing 42 = .ok (.ifCond .le 7, 3) := by decide +kernel
theorem dM_throwing_45 : decode cM_throwing 45 = .ok (.iconst 1, 1) := by decide +kernel
theorem dM_throwing_46 : decode cM_throwing 46 = .ok (.goto 4, 3) := by decide +kernel
theorem dM_throwing_49 : decode cM_throwing 49 = .ok (.iconst 0, 1) := by decide +kernel
theorem dM_throwing_50 : decode cM_throwing 50 = .ok (.ireturn, 1) := by decide +kernel
theorem dM_forget_0 : decode cM_forget 0 = .ok (.aload_n 0, 1) := by decide +kernel
theorem dM_forget_1 : decode cM_forget 1 = .ok (.iconst 0, 1) := by decide +kernel
theorem dM_forget_2 : decode cM_forget 2 = .ok (.putfield 48, 3) := by decide +kernel
theorem dM_forget_5 : decode cM_forget 5 = .ok (.aload_n 0, 1) := by decide +kernel
theorem dM_forget_6 : decode cM_forget 6 = .ok (.iconst (-1), 1) := by decide +kernel
theorem dM_forget_7 : decode cM_forget 7 = .ok (.putfield 29, 3) := by decide +kernel
theorem dM_forget_10 : decode cM_forget 10 = .ok (.return_, 1) := by decide +kernel
theorem dM_order_0 : decode cM_order 0 = .ok (.aload_n 0, 1) := by decide +kernel
theorem dM_order_1 : decode cM_order 1 = .ok (.aload_n 0, 1) := by decide +kernel
theorem dM_order_2 : decode cM_order 2 = .ok (.getfield 41, 3) := by decide +kernel
theorem dM_order_5 : decode cM_order 5 = .ok (.iconst 5, 1) := by decide +kernel
theorem dM_order_6 : decode cM_order 6 = .ok (.if_icmp .ne 7, 3) := by decide +kernel
theorem dM_order_9 : decode cM_order 9 = .ok (.iconst 1, 1) := by decide +kernel
theorem dM_order_10 : decode cM_order 10 = .ok (.goto 4, 3) := by decide +kernel
theorem dM_order_13 : decode cM_order 13 = .ok (.iconst 0, 1) := by decide +kernel
theorem dM_order_14 : decode cM_order 14 = .ok (.iload_n 1, 1) := by decide +kernel
theorem dM_order_15 : decode cM_order 15 = .ok (.iconst 1, 1) := by decide +kernel
theorem dM_order_16 : decode cM_order 16 = .ok (.sipush 1000, 3) := by decide +kernel
theorem dM_order_19 : decode cM_order 19 = .ok (.invokestatic 44, 3) := by decide +kernel
theorem dM_order_22 : decode cM_order 22 = .ok (.ifCond .eq 13, 3) := by decide +kernel
theorem dM_order_25 : decode cM_order 25 = .ok (.iload_n 2, 1) := by decide +kernel
theorem dM_order_26 : decode cM_order 26 = .ok (.iconst 0, 1) := by decide +kernel
theorem dM_order_27 : decode cM_order 27 = .ok (.bipush 6, 2) := by decide +kernel
theorem dM_order_29 : decode cM_order 29 = .ok (.invokestatic 44, 3) := by decide +kernel
theorem dM_order_32 : decode cM_order 32 = .ok (.ifCond .ne 7, 3) := by decide +kernel
theorem dM_order_35 : decode cM_order 35 = .ok (.iconst 1, 1) := by decide +kernel
theorem dM_order_36 : decode cM_order 36 = .ok (.goto 4, 3) := by decide +kernel
theorem dM_order_39 : decode cM_order 39 = .ok (.iconst 0, 1) := by decide +kernel
theorem dM_order_40 : decode cM_order 40 = .ok (.iconst 0, 1) := by decide +kernel
theorem dM_order_41 : decode cM_order 41 = .ok (.iconst 0, 1) := by decide +kernel
theorem dM_order_42 : decode cM_order 42 = .ok (.invokevirtual 52, 3) := by decide +kernel
theorem dM_order_45 : decode cM_order 45 = .ok (.ifCond .eq 5, 3) := by decide +kernel
theorem dM_order_48 : decode cM_order 48 = .ok (.iconst 0, 1) := by decide +kernel
theorem dM_order_49 : decode cM_order 49 = .ok (.ireturn, 1) := by decide +kernel
theorem dM_order_50 : decode cM_order 50 = .ok (.aload_n 0, 1) := by decide +kernel
theorem dM_order_51 : decode cM_order 51 = .ok (.getfield 13, 3) := by decide +kernel
theorem dM_order_54 : decode cM_order 54 = .ok (.aload_n 0, 1) := by decide +kernel
theorem dM_order_55 : decode cM_order 55 = .ok (.getfield 41, 3) := by decide +kernel
theorem dM_order_58 : decode cM_order 58 = .ok (.iload_n 1, 1) := by decide +kernel
theorem dM_order_59 : decode cM_order 59 = .ok (.iastore, 1) := by decide +kernel
theorem dM_order_60 : decode cM_order 60 = .ok (.aload_n 0, 1) := by decide +kernel
theorem dM_order_61 : decode cM_order 61 = .ok (.getfield 17, 3) := by decide +kernel
theorem dM_order_64 : decode cM_order 64 = .ok (.aload_n 0, 1) := by decide +kernel
theorem dM_order_65 : decode cM_order 65 = .ok (.getfield 41, 3) := by decide +kernel
theorem dM_order_68 : decode cM_order 68 = .ok (.iload_n 2, 1) := by decide +kernel
theorem dM_order_69 : decode cM_order 69 = .ok (.iastore, 1) := by decide +kernel
theorem dM_order_70 : decode cM_order 70 = .ok (.aload_n 0, 1) := by decide +kernel
theorem dM_order_71 : decode cM_order 71 = .ok (.getfield 20, 3) := by decide +kernel
theorem dM_order_74 : decode cM_order 74 = .ok (.aload_n 0, 1) := by decide +kernel
theorem dM_order_75 : decode cM_order 75 = .ok (.getfield 41, 3) := by decide +kernel
theorem dM_order_78 : decode cM_order 78 = .ok (.iconst 0, 1) := by decide +kernel
theorem dM_order_79 : decode cM_order 79 = .ok (.iastore, 1) := by decide +kernel
theorem dM_order_80 : decode cM_order 80 = .ok (.aload_n 0, 1) := by decide +kernel
theorem dM_order_81 : decode cM_order 81 = .ok (.dup, 1) := by decide +kernel
theorem dM_order_82 : decode cM_order 82 = .ok (.getfield 41, 3) := by decide +kernel
theorem dM_order_85 : decode cM_order 85 = .ok (.iconst 1, 1) := by decide +kernel
theorem dM_order_86 : decode cM_order 86 = .ok (.iadd, 1) := by decide +kernel
theorem dM_order_87 : decode cM_order 87 = .ok (.putfield 41, 3) := by decide +kernel
theorem dM_order_90 : decode cM_order 90 = .ok (.aload_n 0, 1) := by decide +kernel
theorem dM_order_91 : decode cM_order 91 = .ok (.invokevirtual 56, 3) := by decide +kernel
theorem dM_order_94 : decode cM_order 94 = .ok (.aload_n 0, 1) := by decide +kernel
theorem dM_order_95 : decode cM_order 95 = .ok (.getfield 41, 3) := by decide +kernel
theorem dM_order_98 : decode cM_order 98 = .ok (.iconst 1, 1) := by decide +kernel
theorem dM_order_99 : decode cM_order 99 = .ok (.isub, 1) := by decide +kernel
theorem dM_order_100 : decode cM_order 100 = .ok (.ireturn, 1) := by decide +kernel
theorem dM_pieces_0 : decode cM_pieces 0 = .ok (.aload_n 0, 1) := by decide +kernel
theorem dM_pieces_1 : decode cM_pieces 1 = .ok (.aload_n 0, 1) := by decide +kernel
theorem dM_pieces_2 : decode cM_pieces 2 = .ok (.iload_n 1, 1) := by decide +kernel
theorem dM_pieces_3 : decode cM_pieces 3 = .ok (.invokevirtual 59, 3) := by decide +kernel
theorem dM_pieces_6 : decode cM_pieces 6 = .ok (.ifCond .ne 7, 3) := by decide +kernel
theorem dM_pieces_9 : decode cM_pieces 9 = .ok (.iconst 1, 1) := by decide +kernel
theorem dM_pieces_10 : decode cM_pieces 10 = .ok (.goto 4, 3) := by decide +kernel
theorem dM_pieces_13 : decode cM_pieces 13 = .ok (.iconst 0, 1) := by decide +kernel
theorem dM_pieces_14 : decode cM_pieces 14 = .ok (.iload_n 2, 1) := by decide +kernel
theorem dM_pieces_15 : decode cM_pieces 15 = .ok (.iconst 0, 1) := by decide +kernel
theorem dM_pieces_16 : decode cM_pieces 16 = .ok (.bipush 6, 2) := by decide +kernel
theorem dM_pieces_18 : decode cM_pieces 18 = .ok (.invokestatic 44, 3) := by decide +kernel
theorem dM_pieces_21 : decode cM_pieces 21 = .ok (.ifCond .ne 7, 3) := by decide +kernel
theorem dM_pieces_24 : decode cM_pieces 24 = .ok (.iconst 1, 1) := by decide +kernel
theorem dM_pieces_25 : decode cM_pieces 25 = .ok (.goto 4, 3) := by decide +kernel
theorem dM_pieces_28 : decode cM_pieces 28 = .ok (.iconst 0, 1) := by decide +kernel
theorem dM_pieces_29 : decode cM_pieces 29 = .ok (.iconst 0, 1) := by decide +kernel
theorem dM_pieces_30 : decode cM_pieces 30 = .ok (.iconst 0, 1) := by decide +kernel
theorem dM_pieces_31 : decode cM_pieces 31 = .ok (.invokevirtual 52, 3) := by decide +kernel
theorem dM_pieces_34 : decode cM_pieces 34 = .ok (.ifCond .eq 4, 3) := by decide +kernel
theorem dM_pieces_37 : decode cM_pieces 37 = .ok (.return_, 1) := by decide +kernel
theorem dM_pieces_38 : decode cM_pieces 38 = .ok (.aload_n 0, 1) := by decide +kernel
theorem dM_pieces_39 : decode cM_pieces 39 = .ok (.getfield 17, 3) := by decide +kernel
theorem dM_pieces_42 : decode cM_pieces 42 = .ok (.iload_n 1, 1) := by decide +kernel
theorem dM_pieces_43 : decode cM_pieces 43 = .ok (.iload_n 2, 1) := by decide +kernel
theorem dM_pieces_44 : decode cM_pieces 44 = .ok (.iastore, 1) := by decide +kernel
theorem dM_pieces_45 : decode cM_pieces 45 = .ok (.aload_n 0, 1) := by decide +kernel
theorem dM_pieces_46 : decode cM_pieces 46 = .ok (.invokevirtual 56, 3) := by decide +kernel
theorem dM_pieces_49 : decode cM_pieces 49 = .ok (.return_, 1) := by decide +kernel
theorem dM_isOrder_0 : decode cM_isOrder 0 = .ok (.iload_n 1, 1) := by decide +kernel
theorem dM_isOrder_1 : decode cM_isOrder 1 = .ok (.iconst 0, 1) := by decide +kernel
theorem dM_isOrder_2 : decode cM_isOrder 2 = .ok (.aload_n 0, 1) := by decide +kernel
theorem dM_isOrder_3 : decode cM_isOrder 3 = .ok (.getfield 41, 3) := by decide +kernel
theorem dM_isOrder_6 : decode cM_isOrder 6 = .ok (.iconst 1, 1) := by decide +kernel
theorem dM_isOrder_7 : decode cM_isOrder 7 = .ok (.isub, 1) := by decide +kernel
theorem dM_isOrder_8 : decode cM_isOrder 8 = .ok (.invokestatic 44, 3) := by decide +kernel
theorem dM_isOrder_11 : decode cM_isOrder 11 = .ok (.ireturn, 1) := by decide +kernel
theorem dM_price_0 : decode cM_price 0 = .ok (.aload_n 0, 1) := by decide +kernel
theorem dM_price_1 : decode cM_price 1 = .ok (.aload_n 0, 1) := by decide +kernel
theorem dM_price_2 : decode cM_price 2 = .ok (.iload_n 1, 1) := by decide +kernel
theorem dM_price_3 : decode cM_price 3 = .ok (.invokevirtual 59, 3) := by decide +kernel
theorem dM_price_6 : decode cM_price 6 = .ok (.ifCond .ne 7, 3) := by decide +kernel
theorem dM_price_9 : decode cM_price 9 = .ok (.iconst 1, 1) := by decide +kernel
theorem dM_price_10 : decode cM_price 10 = .ok (.goto 4, 3) := by decide +kernel
theorem dM_price_13 : decode cM_price 13 = .ok (.iconst 0, 1) := by decide +kernel
theorem dM_price_14 : decode cM_price 14 = .ok (.iload_n 2, 1) := by decide +kernel
theorem dM_price_15 : decode cM_price 15 = .ok (.iconst 0, 1) := by decide +kernel
theorem dM_price_16 : decode cM_price 16 = .ok (.sipush 1000, 3) := by decide +kernel
theorem dM_price_19 : decode cM_price 19 = .ok (.invokestatic 44, 3) := by decide +kernel
theorem dM_price_22 : decode cM_price 22 = .ok (.ifCond .ne 7, 3) := by decide +kernel
theorem dM_price_25 : decode cM_price 25 = .ok (.iconst 1, 1) := by decide +kernel
theorem dM_price_26 : decode cM_price 26 = .ok (.goto 4, 3) := by decide +kernel
theorem dM_price_29 : decode cM_price 29 = .ok (.iconst 0, 1) := by decide +kernel
theorem dM_price_30 : decode cM_price 30 = .ok (.iconst 0, 1) := by decide +kernel
theorem dM_price_31 : decode cM_price 31 = .ok (.iconst 0, 1) := by decide +kernel
theorem dM_price_32 : decode cM_price 32 = .ok (.invokevirtual 52, 3) := by decide +kernel
theorem dM_price_35 : decode cM_price 35 = .ok (.ifCond .eq 4, 3) := by decide +kernel
theorem dM_price_38 : decode cM_price 38 = .ok (.return_, 1) := by decide +kernel
theorem dM_price_39 : decode cM_price 39 = .ok (.aload_n 0, 1) := by decide +kernel
theorem dM_price_40 : decode cM_price 40 = .ok (.getfield 20, 3) := by decide +kernel
theorem dM_price_43 : decode cM_price 43 = .ok (.iload_n 1, 1) := by decide +kernel
theorem dM_price_44 : decode cM_price 44 = .ok (.iload_n 2, 1) := by decide +kernel
theorem dM_price_45 : decode cM_price 45 = .ok (.iastore, 1) := by decide +kernel
theorem dM_price_46 : decode cM_price 46 = .ok (.return_, 1) := by decide +kernel
theorem dM_column_0 : decode cM_column 0 = .ok (.aload_n 0, 1) := by decide +kernel
theorem dM_column_1 : decode cM_column 1 = .ok (.iconst 0, 1) := by decide +kernel
theorem dM_column_2 : decode cM_column 2 = .ok (.putfield 38, 3) := by decide +kernel
theorem dM_column_5 : decode cM_column 5 = .ok (.aload_n 0, 1) := by decide +kernel
theorem dM_column_6 : decode cM_column 6 = .ok (.invokevirtual 78, 3) := by decide +kernel
theorem dM_column_9 : decode cM_column 9 = .ok (.ireturn, 1) := by decide +kernel
theorem dM_findColumn_0 : decode cM_findColumn 0 = .ok (.sipush 150, 3) := by decide +kernel
theorem dM_findColumn_3 : decode cM_findColumn 3 = .ok (.istore_n 1, 1) := by decide +kernel
theorem dM_findColumn_4 : decode cM_findColumn 4 = .ok (.iconst 0, 1) := by decide +kernel
theorem dM_findColumn_5 : decode cM_findColumn 5 = .ok (.istore_n 2, 1) := by decide +kernel
theorem dM_findColumn_6 : decode cM_findColumn 6 = .ok (.iload_n 2, 1) := by decide +kernel
theorem dM_findColumn_7 : decode cM_findColumn 7 = .ok (.iconst 5, 1) := by decide +kernel
theorem dM_findColumn_8 : decode cM_findColumn 8 = .ok (.if_icmp .ge 35, 3) := by decide +kernel
theorem dM_findColumn_11 : decode cM_findColumn 11 = .ok (.aload_n 0, 1) := by decide +kernel
theorem dM_findColumn_12 : decode cM_findColumn 12 = .ok (.getfield 23, 3) := by decide +kernel
theorem dM_findColumn_15 : decode cM_findColumn 15 = .ok (.iload_n 1, 1) := by decide +kernel
theorem dM_findColumn_16 : decode cM_findColumn 16 = .ok (.iload_n 2, 1) := by decide +kernel
theorem dM_findColumn_17 : decode cM_findColumn 17 = .ok (.iadd, 1) := by decide +kernel
theorem dM_findColumn_18 : decode cM_findColumn 18 = .ok (.iload_n 2, 1) := by decide +kernel
theorem dM_findColumn_19 : decode cM_findColumn 19 = .ok (.aload_n 0, 1) := by decide +kernel
theorem dM_findColumn_20 : decode cM_findColumn 20 = .ok (.getfield 41, 3) := by decide +kernel
theorem dM_findColumn_23 : decode cM_findColumn 23 = .ok (.if_icmp .ge 12, 3) := by decide +kernel
theorem dM_findColumn_26 : decode cM_findColumn 26 = .ok (.aload_n 0, 1) := by decide +kernel
theorem dM_findColumn_27 : decode cM_findColumn 27 = .ok (.getfield 17, 3) := by decide +kernel
theorem dM_findColumn_30 : decode cM_findColumn 30 = .ok (.iload_n 2, 1) := by decide +kernel
theorem dM_findColumn_31 : decode cM_findColumn 31 = .ok (.iaload, 1) := by decide +kernel
theorem dM_findColumn_32 : decode cM_findColumn 32 = .ok (.goto 4, 3) := by decide +kernel
theorem dM_findColumn_35 : decode cM_findColumn 35 = .ok (.iconst 0, 1) := by decide +kernel
theorem dM_findColumn_36 : decode cM_findColumn 36 = .ok (.iastore, 1) := by decide +kernel
theorem dM_findColumn_37 : decode cM_findColumn 37 = .ok (.iinc 2 1, 3) := by decide +kernel
theorem dM_findColumn_40 : decode cM_findColumn 40 = .ok (.goto (-34), 3) := by decide +kernel
theorem dM_findColumn_43 : decode cM_findColumn 43 = .ok (.aload_n 0, 1) := by decide +kernel
theorem dM_findColumn_44 : decode cM_findColumn 44 = .ok (.iload_n 1, 1) := by decide +kernel
theorem dM_findColumn_45 : decode cM_findColumn 45 = .ok (.iconst 0, 1) := by decide +kernel
theorem dM_findColumn_46 : decode cM_findColumn 46 = .ok (.invokevirtual 67, 3) := by decide +kernel
theorem dM_findColumn_49 : decode cM_findColumn 49 = .ok (.iconst (-1), 1) := by decide +kernel
theorem dM_findColumn_50 : decode cM_findColumn 50 = .ok (.istore_n 2, 1) := by decide +kernel
theorem dM_findColumn_51 : decode cM_findColumn 51 = .ok (.iconst 1, 1) := by decide +kernel
theorem dM_findColumn_52 : decode cM_findColumn 52 = .ok (.istore_n 3, 1) := by decide +kernel
theorem dM_findColumn_53 : decode cM_findColumn 53 = .ok (.iload_n 3, 1) := by decide +kernel
theorem dM_findColumn_54 : decode cM_findColumn 54 = .ok (.ifCond .eq 62, 3) := by decide +kernel
theorem dM_findColumn_57 : decode cM_findColumn 57 = .ok (.aload_n 0, 1) := by decide +kernel
theorem dM_findColumn_58 : decode cM_findColumn 58 = .ok (.iload_n 1, 1) := by decide +kernel
theorem dM_findColumn_59 : decode cM_findColumn 59 = .ok (.invokevirtual 71, 3) := by decide +kernel
theorem dM_findColumn_62 : decode cM_findColumn 62 = .ok (.iload_n 2, 1) := by decide +kernel
theorem dM_findColumn_63 : decode cM_findColumn 63 = .ok (.if_icmp .le 44, 3) := by decide +kernel
theorem dM_findColumn_66 : decode cM_findColumn 66 = .ok (.aload_n 0, 1) := by decide +kernel
theorem dM_findColumn_67 : decode cM_findColumn 67 = .ok (.iload_n 1, 1) := by decide +kernel
theorem dM_findColumn_68 : decode cM_findColumn 68 = .ok (.invokevirtual 71, 3) := by decide +kernel
theorem dM_findColumn_71 : decode cM_findColumn 71 = .ok (.istore_n 2, 1) := by decide +kernel
theorem dM_findColumn_72 : decode cM_findColumn 72 = .ok (.iconst 0, 1) := by decide +kernel
theorem dM_findColumn_73 : decode cM_findColumn 73 = .ok (.istore 4, 2) := by decide +kernel
theorem dM_findColumn_75 : decode cM_findColumn 75 = .ok (.iload 4, 2) := by decide +kernel
theorem dM_findColumn_77 : decode cM_findColumn 77 = .ok (.iconst 5, 1) := by decide +kernel
theorem dM_findColumn_78 : decode cM_findColumn 78 = .ok (.if_icmp .ge 29, 3) := by decide +kernel
theorem dM_findColumn_81 : decode cM_findColumn 81 = .ok (.aload_n 0, 1) := by decide +kernel
theorem dM_findColumn_82 : decode cM_findColumn 82 = .ok (.getfield 26, 3) := by decide +kernel
theorem dM_findColumn_85 : decode cM_findColumn 85 = .ok (.sipush 155, 3) := by decide +kernel
theorem dM_findColumn_88 : decode cM_findColumn 88 = .ok (.iload 4, 2) := by decide +kernel
theorem dM_findColumn_90 : decode cM_findColumn 90 = .ok (.iadd, 1) := by decide +kernel
theorem dM_findColumn_91 : decode cM_findColumn 91 = .ok (.aload_n 0, 1) := by decide +kernel
theorem dM_findColumn_92 : decode cM_findColumn 92 = .ok (.getfield 26, 3) := by decide +kernel
theorem dM_findColumn_95 : decode cM_findColumn 95 = .ok (.iload_n 1, 1) := by decide +kernel
theorem dM_findColumn_96 : decode cM_findColumn 96 = .ok (.iload 4, 2) := by decide +kernel
theorem dM_findColumn_98 : decode cM_findColumn 98 = .ok (.iadd, 1) := by decide +kernel
theorem dM_findColumn_99 : decode cM_findColumn 99 = .ok (.iaload, 1) := by decide +kernel
theorem dM_findColumn_100 : decode cM_findColumn 100 = .ok (.iastore, 1) := by decide +kernel
theorem dM_findColumn_101 : decode cM_findColumn 101 = .ok (.iinc 4 1, 3) := by decide +kernel
theorem dM_findColumn_104 : decode cM_findColumn 104 = .ok (.goto (-29), 3) := by decide +kernel
theorem dM_findColumn_107 : decode cM_findColumn 107 = .ok (.aload_n 0, 1) := by decide +kernel
theorem dM_findColumn_108 : decode cM_findColumn 108 = .ok (.iload_n 1, 1) := by decide +kernel
theorem dM_findColumn_109 : decode cM_findColumn 109 = .ok (.invokevirtual 75, 3) := by decide +kernel
theorem dM_findColumn_112 : decode cM_findColumn 112 = .ok (.istore_n 3, 1) := by decide +kernel
theorem dM_findColumn_113 : decode cM_findColumn 113 = .ok (.goto (-60), 3) := by decide +kernel
theorem dM_findColumn_116 : decode cM_findColumn 116 = .ok (.iload_n 2, 1) := by decide +kernel
theorem dM_findColumn_117 : decode cM_findColumn 117 = .ok (.ireturn, 1) := by decide +kernel
theorem dM_fill_0 : decode cM_fill 0 = .ok (.iload_n 2, 1) := by decide +kernel
theorem dM_fill_1 : decode cM_fill 1 = .ok (.istore_n 3, 1) := by decide +kernel
theorem dM_fill_2 : decode cM_fill 2 = .ok (.iload_n 3, 1) := by decide +kernel
theorem dM_fill_3 : decode cM_fill 3 = .ok (.iconst 5, 1) := by decide +kernel
theorem dM_fill_4 : decode cM_fill 4 = .ok (.if_icmp .ge 82, 3) := by decide +kernel
theorem dM_fill_7 : decode cM_fill 7 = .ok (.iload_n 3, 1) := by decide +kernel
theorem dM_fill_8 : decode cM_fill 8 = .ok (.aload_n 0, 1) := by decide +kernel
theorem dM_fill_9 : decode cM_fill 9 = .ok (.getfield 41, 3) := by decide +kernel
theorem dM_fill_12 : decode cM_fill 12 = .ok (.if_icmp .ge 19, 3) := by decide +kernel
theorem dM_fill_15 : decode cM_fill 15 = .ok (.aload_n 0, 1) := by decide +kernel
theorem dM_fill_16 : decode cM_fill 16 = .ok (.iload_n 1, 1) := by decide +kernel
theorem dM_fill_17 : decode cM_fill 17 = .ok (.iload_n 3, 1) := by decide +kernel
theorem dM_fill_18 : decode cM_fill 18 = .ok (.invokevirtual 63, 3) := by decide +kernel
theorem dM_fill_21 : decode cM_fill 21 = .ok (.aload_n 0, 1) := by decide +kernel
theorem dM_fill_22 : decode cM_fill 22 = .ok (.getfield 13, 3) := by decide +kernel
theorem dM_fill_25 : decode cM_fill 25 = .ok (.iload_n 3, 1) := by decide +kernel
theorem dM_fill_26 : decode cM_fill 26 = .ok (.iaload, 1) := by decide +kernel
theorem dM_fill_27 : decode cM_fill 27 = .ok (.idiv, 1) := by decide +kernel
theorem dM_fill_28 : decode cM_fill 28 = .ok (.goto 4, 3) := by decide +kernel
theorem dM_fill_31 : decode cM_fill 31 = .ok (.iconst 0, 1) := by decide +kernel
theorem dM_fill_32 : decode cM_fill 32 = .ok (.istore 4, 2) := by decide +kernel
theorem dM_fill_34 : decode cM_fill 34 = .ok (.aload_n 0, 1) := by decide +kernel
theorem dM_fill_35 : decode cM_fill 35 = .ok (.getfield 26, 3) := by decide +kernel
theorem dM_fill_38 : decode cM_fill 38 = .ok (.iload_n 1, 1) := by decide +kernel
theorem dM_fill_39 : decode cM_fill 39 = .ok (.iload_n 3, 1) := by decide +kernel
theorem dM_fill_40 : decode cM_fill 40 = .ok (.iadd, 1) := by decide +kernel
theorem dM_fill_41 : decode cM_fill 41 = .ok (.iload_n 3, 1) := by decide +kernel
theorem dM_fill_42 : decode cM_fill 42 = .ok (.aload_n 0, 1) := by decide +kernel
theorem dM_fill_43 : decode cM_fill 43 = .ok (.getfield 41, 3) := by decide +kernel
theorem dM_fill_46 : decode cM_fill 46 = .ok (.if_icmp .ge 32, 3) := by decide +kernel
theorem dM_fill_49 : decode cM_fill 49 = .ok (.iload 4, 2) := by decide +kernel
theorem dM_fill_51 : decode cM_fill 51 = .ok (.aload_n 0, 1) := by decide +kernel
theorem dM_fill_52 : decode cM_fill 52 = .ok (.getfield 23, 3) := by decide +kernel
theorem dM_fill_55 : decode cM_fill 55 = .ok (.iload_n 1, 1) := by decide +kernel
theorem dM_fill_56 : decode cM_fill 56 = .ok (.iload_n 3, 1) := by decide +kernel
theorem dM_fill_57 : decode cM_fill 57 = .ok (.iadd, 1) := by decide +kernel
theorem dM_fill_58 : decode cM_fill 58 = .ok (.iaload, 1) := by decide +kernel
theorem dM_fill_59 : decode cM_fill 59 = .ok (.if_icmp .ge 8, 3) := by decide +kernel
theorem dM_fill_62 : decode cM_fill 62 = .ok (.iload 4, 2) := by decide +kernel
theorem dM_fill_64 : decode cM_fill 64 = .ok (.goto 15, 3) := by decide +kernel
theorem dM_fill_67 : decode cM_fill 67 = .ok (.aload_n 0, 1) := by decide +kernel
theorem dM_fill_68 : decode cM_fill 68 = .ok (.getfield 23, 3) := by decide +kernel
theorem dM_fill_71 : decode cM_fill 71 = .ok (.iload_n 1, 1) := by decide +kernel
theorem dM_fill_72 : decode cM_fill 72 = .ok (.iload_n 3, 1) := by decide +kernel
theorem dM_fill_73 : decode cM_fill 73 = .ok (.iadd, 1) := by decide +kernel
theorem dM_fill_74 : decode cM_fill 74 = .ok (.iaload, 1) := by decide +kernel
theorem dM_fill_75 : decode cM_fill 75 = .ok (.goto 4, 3) := by decide +kernel
theorem dM_fill_78 : decode cM_fill 78 = .ok (.iconst 0, 1) := by decide +kernel
theorem dM_fill_79 : decode cM_fill 79 = .ok (.iastore, 1) := by decide +kernel
theorem dM_fill_80 : decode cM_fill 80 = .ok (.iinc 3 1, 3) := by decide +kernel
theorem dM_fill_83 : decode cM_fill 83 = .ok (.goto (-81), 3) := by decide +kernel
theorem dM_fill_86 : decode cM_fill 86 = .ok (.return_, 1) := by decide +kernel
