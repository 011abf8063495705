theorem dP_init_0 : decode cP_init 0 = .ok (.aload_n 0, 1) := by decide +kernel
theorem dP_init_1 : decode cP_init 1 = .ok (.invokespecial 3, 3) := by decide +kernel
theorem dP_init_4 : decode cP_init 4 = .ok (.aload_n 0, 1) := by decide +kernel
theorem dP_init_5 : decode cP_init 5 = .ok (.new 9, 3) := by decide +kernel
theorem dP_init_8 : decode cP_init 8 = .ok (.dup, 1) := by decide +kernel
theorem dP_init_9 : decode cP_init 9 = .ok (.invokespecial 11, 3) := by decide +kernel
theorem dP_init_12 : decode cP_init 12 = .ok (.putfield 12, 3) := by decide +kernel
theorem dP_init_15 : decode cP_init 15 = .ok (.aload_n 0, 1) := by decide +kernel
theorem dP_init_16 : decode cP_init 16 = .ok (.new 16, 3) := by decide +kernel
theorem dP_init_19 : decode cP_init 19 = .ok (.dup, 1) := by decide +kernel
theorem dP_init_20 : decode cP_init 20 = .ok (.aload_n 0, 1) := by decide +kernel
theorem dP_init_21 : decode cP_init 21 = .ok (.getfield 12, 3) := by decide +kernel
theorem dP_init_24 : decode cP_init 24 = .ok (.invokespecial 18, 3) := by decide +kernel
theorem dP_init_27 : decode cP_init 27 = .ok (.putfield 21, 3) := by decide +kernel
theorem dP_init_30 : decode cP_init 30 = .ok (.aload_n 0, 1) := by decide +kernel
theorem dP_init_31 : decode cP_init 31 = .ok (.new 25, 3) := by decide +kernel
theorem dP_init_34 : decode cP_init 34 = .ok (.dup, 1) := by decide +kernel
theorem dP_init_35 : decode cP_init 35 = .ok (.aload_n 0, 1) := by decide +kernel
theorem dP_init_36 : decode cP_init 36 = .ok (.getfield 12, 3) := by decide +kernel
theorem dP_init_39 : decode cP_init 39 = .ok (.invokespecial 27, 3) := by decide +kernel
theorem dP_init_42 : decode cP_init 42 = .ok (.putfield 28, 3) := by decide +kernel
theorem dP_init_45 : decode cP_init 45 = .ok (.aload_n 0, 1) := by decide +kernel
theorem dP_init_46 : decode cP_init 46 = .ok (.new 32, 3) := by decide +kernel
theorem dP_init_49 : decode cP_init 49 = .ok (.dup, 1) := by decide +kernel
theorem dP_init_50 : decode cP_init 50 = .ok (.invokespecial 34, 3) := by decide +kernel
theorem dP_init_53 : decode cP_init 53 = .ok (.putfield 35, 3) := by decide +kernel
theorem dP_init_56 : decode cP_init 56 = .ok (.return_, 1) := by decide +kernel
theorem dS_init_0 : decode cS_init 0 = .ok (.aload_n 0, 1) := by decide +kernel
theorem dS_init_1 : decode cS_init 1 = .ok (.invokespecial 3, 3) := by decide +kernel
theorem dS_init_4 : decode cS_init 4 = .ok (.aload_n 0, 1) := by decide +kernel
theorem dS_init_5 : decode cS_init 5 = .ok (.bipush 100, 2) := by decide +kernel
theorem dS_init_7 : decode cS_init 7 = .ok (.putfield 9, 3) := by decide +kernel
theorem dS_init_10 : decode cS_init 10 = .ok (.aload_n 0, 1) := by decide +kernel
theorem dS_init_11 : decode cS_init 11 = .ok (.iconst 5, 1) := by decide +kernel
theorem dS_init_12 : decode cS_init 12 = .ok (.newarray .int, 2) := by decide +kernel
theorem dS_init_14 : decode cS_init 14 = .ok (.putfield 15, 3) := by decide +kernel
theorem dS_init_17 : decode cS_init 17 = .ok (.aload_n 0, 1) := by decide +kernel
theorem dS_init_18 : decode cS_init 18 = .ok (.iconst 5, 1) := by decide +kernel
theorem dS_init_19 : decode cS_init 19 = .ok (.newarray .int, 2) := by decide +kernel
theorem dS_init_21 : decode cS_init 21 = .ok (.putfield 19, 3) := by decide +kernel
theorem dS_init_24 : decode cS_init 24 = .ok (.aload_n 0, 1) := by decide +kernel
theorem dS_init_25 : decode cS_init 25 = .ok (.iconst 5, 1) := by decide +kernel
theorem dS_init_26 : decode cS_init 26 = .ok (.newarray .int, 2) := by decide +kernel
theorem dS_init_28 : decode cS_init 28 = .ok (.putfield 22, 3) := by decide +kernel
theorem dS_init_31 : decode cS_init 31 = .ok (.return_, 1) := by decide +kernel
theorem dD_init_0 : decode cD_init 0 = .ok (.aload_n 0, 1) := by decide +kernel
theorem dD_init_1 : decode cD_init 1 = .ok (.invokespecial 3, 3) := by decide +kernel
theorem dD_init_4 : decode cD_init 4 = .ok (.aload_n 0, 1) := by decide +kernel
theorem dD_init_5 : decode cD_init 5 = .ok (.aload_n 1, 1) := by decide +kernel
theorem dD_init_6 : decode cD_init 6 = .ok (.putfield 9, 3) := by decide +kernel
theorem dD_init_9 : decode cD_init 9 = .ok (.aload_n 0, 1) := by decide +kernel
theorem dD_init_10 : decode cD_init 10 = .ok (.iconst 5, 1) := by decide +kernel
theorem dD_init_11 : decode cD_init 11 = .ok (.newarray .int, 2) := by decide +kernel
theorem dD_init_13 : decode cD_init 13 = .ok (.putfield 15, 3) := by decide +kernel
theorem dD_init_16 : decode cD_init 16 = .ok (.aload_n 0, 1) := by decide +kernel
theorem dD_init_17 : decode cD_init 17 = .ok (.iconst 5, 1) := by decide +kernel
theorem dD_init_18 : decode cD_init 18 = .ok (.newarray .int, 2) := by decide +kernel
theorem dD_init_20 : decode cD_init 20 = .ok (.putfield 19, 3) := by decide +kernel
theorem dD_init_23 : decode cD_init 23 = .ok (.return_, 1) := by decide +kernel
theorem dG_init_0 : decode cG_init 0 = .ok (.aload_n 0, 1) := by decide +kernel
theorem dG_init_1 : decode cG_init 1 = .ok (.invokespecial 3, 3) := by decide +kernel
theorem dG_init_4 : decode cG_init 4 = .ok (.aload_n 0, 1) := by decide +kernel
theorem dG_init_5 : decode cG_init 5 = .ok (.aload_n 1, 1) := by decide +kernel
theorem dG_init_6 : decode cG_init 6 = .ok (.putfield 9, 3) := by decide +kernel
theorem dG_init_9 : decode cG_init 9 = .ok (.aload_n 0, 1) := by decide +kernel
theorem dG_init_10 : decode cG_init 10 = .ok (.iconst 5, 1) := by decide +kernel
theorem dG_init_11 : decode cG_init 11 = .ok (.newarray .int, 2) := by decide +kernel
theorem dG_init_13 : decode cG_init 13 = .ok (.putfield 15, 3) := by decide +kernel
theorem dG_init_16 : decode cG_init 16 = .ok (.aload_n 0, 1) := by decide +kernel
theorem dG_init_17 : decode cG_init 17 = .ok (.bipush 30, 2) := by decide +kernel
theorem dG_init_19 : decode cG_init 19 = .ok (.iconst 5, 1) := by decide +kernel
theorem dG_init_20 : decode cG_init 20 = .ok (.multianewarray 19 2, 4) := by decide +kernel
theorem dG_init_24 : decode cG_init 24 = .ok (.putfield 21, 3) := by decide +kernel
theorem dG_init_27 : decode cG_init 27 = .ok (.aload_n 0, 1) := by decide +kernel
theorem dG_init_28 : decode cG_init 28 = .ok (.bipush 30, 2) := by decide +kernel
theorem dG_init_30 : decode cG_init 30 = .ok (.iconst 5, 1) := by decide +kernel
theorem dG_init_31 : decode cG_init 31 = .ok (.multianewarray 19 2, 4) := by decide +kernel
theorem dG_init_35 : decode cG_init 35 = .ok (.putfield 24, 3) := by decide +kernel
theorem dG_init_38 : decode cG_init 38 = .ok (.aload_n 0, 1) := by decide +kernel
theorem dG_init_39 : decode cG_init 39 = .ok (.iconst (-1), 1) := by decide +kernel
theorem dG_init_40 : decode cG_init 40 = .ok (.putfield 27, 3) := by decide +kernel
theorem dG_init_43 : decode cG_init 43 = .ok (.return_, 1) := by decide +kernel
theorem dT_init_0 : decode cT_init 0 = .ok (.aload_n 0, 1) := by decide +kernel
theorem dT_init_1 : decode cT_init 1 = .ok (.invokespecial 3, 3) := by decide +kernel
theorem dT_init_4 : decode cT_init 4 = .ok (.aload_n 0, 1) := by decide +kernel
theorem dT_init_5 : decode cT_init 5 = .ok (.bipush 40, 2) := by decide +kernel
theorem dT_init_7 : decode cT_init 7 = .ok (.iconst 5, 1) := by decide +kernel
theorem dT_init_8 : decode cT_init 8 = .ok (.multianewarray 9 2, 4) := by decide +kernel
theorem dT_init_12 : decode cT_init 12 = .ok (.putfield 11, 3) := by decide +kernel
theorem dT_init_15 : decode cT_init 15 = .ok (.aload_n 0, 1) := by decide +kernel
theorem dT_init_16 : decode cT_init 16 = .ok (.bipush 40, 2) := by decide +kernel
theorem dT_init_18 : decode cT_init 18 = .ok (.newarray .int, 2) := by decide +kernel
theorem dT_init_20 : decode cT_init 20 = .ok (.putfield 16, 3) := by decide +kernel
theorem dT_init_23 : decode cT_init 23 = .ok (.aload_n 0, 1) := by decide +kernel
theorem dT_init_24 : decode cT_init 24 = .ok (.bipush 40, 2) := by decide +kernel
theorem dT_init_26 : decode cT_init 26 = .ok (.newarray .int, 2) := by decide +kernel
theorem dT_init_28 : decode cT_init 28 = .ok (.putfield 20, 3) := by decide +kernel
theorem dT_init_31 : decode cT_init 31 = .ok (.return_, 1) := by decide +kernel
theorem dP_column_0 : decode cP_column 0 = .ok (.aload_n 0, 1) := by decide +kernel
theorem dP_column_1 : decode cP_column 1 = .ok (.getfield 21, 3) := by decide +kernel
theorem dP_column_4 : decode cP_column 4 = .ok (.invokevirtual 90, 3) := by decide +kernel
theorem dP_column_7 : decode cP_column 7 = .ok (.ireturn, 1) := by decide +kernel
theorem dD_priceSum_0 : decode cD_priceSum 0 = .ok (.aload_n 0, 1) := by decide +kernel
theorem dD_priceSum_1 : decode cD_priceSum 1 = .ok (.invokevirtual 26, 3) := by decide +kernel
theorem dD_priceSum_4 : decode cD_priceSum 4 = .ok (.aload_n 0, 1) := by decide +kernel
theorem dD_priceSum_5 : decode cD_priceSum 5 = .ok (.getfield 29, 3) := by decide +kernel
theorem dD_priceSum_8 : decode cD_priceSum 8 = .ok (.ireturn, 1) := by decide +kernel
theorem dD_seek_0 : decode cD_seek 0 = .ok (.aload_n 0, 1) := by decide +kernel
theorem dD_seek_1 : decode cD_seek 1 = .ok (.getfield 22, 3) := by decide +kernel
theorem dD_seek_4 : decode cD_seek 4 = .ok (.ifCond .eq 4, 3) := by decide +kernel
theorem dD_seek_7 : decode cD_seek 7 = .ok (.return_, 1) := by decide +kernel
theorem dD_seek_8 : decode cD_seek 8 = .ok (.aload_n 0, 1) := by decide +kernel
theorem dD_seek_9 : decode cD_seek 9 = .ok (.getfield 9, 3) := by decide +kernel
theorem dD_seek_12 : decode cD_seek 12 = .ok (.aload_n 0, 1) := by decide +kernel
theorem dD_seek_13 : decode cD_seek 13 = .ok (.getfield 19, 3) := by decide +kernel
theorem dD_seek_16 : decode cD_seek 16 = .ok (.aload_n 0, 1) := by decide +kernel
theorem dD_seek_17 : decode cD_seek 17 = .ok (.getfield 9, 3) := by decide +kernel
theorem dD_seek_20 : decode cD_seek 20 = .ok (.getfield 33, 3) := by decide +kernel
theorem dD_seek_23 : decode cD_seek 23 = .ok (.invokevirtual 38, 3) := by decide +kernel
theorem dD_seek_26 : decode cD_seek 26 = .ok (.aload_n 0, 1) := by decide +kernel
theorem dD_seek_27 : decode cD_seek 27 = .ok (.aload_n 0, 1) := by decide +kernel
theorem dD_seek_28 : decode cD_seek 28 = .ok (.getfield 9, 3) := by decide +kernel
theorem dD_seek_31 : decode cD_seek 31 = .ok (.aload_n 0, 1) := by decide +kernel
theorem dD_seek_32 : decode cD_seek 32 = .ok (.getfield 19, 3) := by decide +kernel
theorem dD_seek_35 : decode cD_seek 35 = .ok (.invokevirtual 42, 3) := by decide +kernel
theorem dD_seek_38 : decode cD_seek 38 = .ok (.invokevirtual 46, 3) := by decide +kernel
theorem dD_seek_41 : decode cD_seek 41 = .ok (.aload_n 0, 1) := by decide +kernel
theorem dD_seek_42 : decode cD_seek 42 = .ok (.getfield 9, 3) := by decide +kernel
theorem dD_seek_45 : decode cD_seek 45 = .ok (.getfield 50, 3) := by decide +kernel
theorem dD_seek_48 : decode cD_seek 48 = .ok (.iconst 2, 1) := by decide +kernel
theorem dD_seek_49 : decode cD_seek 49 = .ok (.isub, 1) := by decide +kernel
theorem dD_seek_50 : decode cD_seek 50 = .ok (.istore_n 1, 1) := by decide +kernel
theorem dD_seek_51 : decode cD_seek 51 = .ok (.aload_n 0, 1) := by decide +kernel
theorem dD_seek_52 : decode cD_seek 52 = .ok (.getfield 9, 3) := by decide +kernel
theorem dD_seek_55 : decode cD_seek 55 = .ok (.aload_n 0, 1) := by decide +kernel
theorem dD_seek_56 : decode cD_seek 56 = .ok (.getfield 19, 3) := by decide +kernel
theorem dD_seek_59 : decode cD_seek 59 = .ok (.aload_n 0, 1) := by decide +kernel
theorem dD_seek_60 : decode cD_seek 60 = .ok (.getfield 9, 3) := by decide +kernel
theorem dD_seek_63 : decode cD_seek 63 = .ok (.getfield 33, 3) := by decide +kernel
theorem dD_seek_66 : decode cD_seek 66 = .ok (.iload_n 1, 1) := by decide +kernel
theorem dD_seek_67 : decode cD_seek 67 = .ok (.iconst (-1), 1) := by decide +kernel
theorem dD_seek_68 : decode cD_seek 68 = .ok (.invokevirtual 53, 3) := by decide +kernel
theorem dD_seek_71 : decode cD_seek 71 = .ok (.istore_n 2, 1) := by decide +kernel
theorem dD_seek_72 : decode cD_seek 72 = .ok (.iconst 0, 1) := by decide +kernel
theorem dD_seek_73 : decode cD_seek 73 = .ok (.istore_n 3, 1) := by decide +kernel
theorem dD_seek_74 : decode cD_seek 74 = .ok (.iload_n 3, 1) := by decide +kernel
theorem dD_seek_75 : decode cD_seek 75 = .ok (.sipush 16807, 3) := by decide +kernel
theorem dD_seek_78 : decode cD_seek 78 = .ok (.if_icmp .ge 62, 3) := by decide +kernel
theorem dD_seek_81 : decode cD_seek 81 = .ok (.iload_n 2, 1) := by decide +kernel
theorem dD_seek_82 : decode cD_seek 82 = .ok (.ifCond .eq 58, 3) := by decide +kernel
theorem dD_seek_85 : decode cD_seek 85 = .ok (.aload_n 0, 1) := by decide +kernel
theorem dD_seek_86 : decode cD_seek 86 = .ok (.getfield 9, 3) := by decide +kernel
theorem dD_seek_89 : decode cD_seek 89 = .ok (.aload_n 0, 1) := by decide +kernel
theorem dD_seek_90 : decode cD_seek 90 = .ok (.getfield 19, 3) := by decide +kernel
theorem dD_seek_93 : decode cD_seek 93 = .ok (.invokevirtual 42, 3) := by decide +kernel
theorem dD_seek_96 : decode cD_seek 96 = .ok (.istore 4, 2) := by decide +kernel
theorem dD_seek_98 : decode cD_seek 98 = .ok (.iload 4, 2) := by decide +kernel
theorem dD_seek_100 : decode cD_seek 100 = .ok (.aload_n 0, 1) := by decide +kernel
theorem dD_seek_101 : decode cD_seek 101 = .ok (.getfield 29, 3) := by decide +kernel
theorem dD_seek_104 : decode cD_seek 104 = .ok (.if_icmp .le 9, 3) := by decide +kernel
theorem dD_seek_107 : decode cD_seek 107 = .ok (.aload_n 0, 1) := by decide +kernel
theorem dD_seek_108 : decode cD_seek 108 = .ok (.iload 4, 2) := by decide +kernel
theorem dD_seek_110 : decode cD_seek 110 = .ok (.invokevirtual 46, 3) := by decide +kernel
theorem dD_seek_113 : decode cD_seek 113 = .ok (.aload_n 0, 1) := by decide +kernel
theorem dD_seek_114 : decode cD_seek 114 = .ok (.getfield 9, 3) := by decide +kernel
theorem dD_seek_117 : decode cD_seek 117 = .ok (.aload_n 0, 1) := by decide +kernel
theorem dD_seek_118 : decode cD_seek 118 = .ok (.getfield 19, 3) := by decide +kernel
theorem dD_seek_121 : decode cD_seek 121 = .ok (.aload_n 0, 1) := by decide +kernel
theorem dD_seek_122 : decode cD_seek 122 = .ok (.getfield 9, 3) := by decide +kernel
theorem dD_seek_125 : decode cD_seek 125 = .ok (.getfield 33, 3) := by decide +kernel
theorem dD_seek_128 : decode cD_seek 128 = .ok (.iload_n 1, 1) := by decide +kernel
theorem dD_seek_129 : decode cD_seek 129 = .ok (.iconst (-1), 1) := by decide +kernel
theorem dD_seek_130 : decode cD_seek 130 = .ok (.invokevirtual 53, 3) := by decide +kernel
theorem dD_seek_133 : decode cD_seek 133 = .ok (.istore_n 2, 1) := by decide +kernel
theorem dD_seek_134 : decode cD_seek 134 = .ok (.iinc 3 1, 3) := by decide +kernel
theorem dD_seek_137 : decode cD_seek 137 = .ok (.goto (-63), 3) := by decide +kernel
theorem dD_seek_140 : decode cD_seek 140 = .ok (.aload_n 0, 1) := by decide +kernel
theorem dD_seek_141 : decode cD_seek 141 = .ok (.iconst 1, 1) := by decide +kernel
theorem dD_seek_142 : decode cD_seek 142 = .ok (.putfield 22, 3) := by decide +kernel
theorem dD_seek_145 : decode cD_seek 145 = .ok (.return_, 1) := by decide +kernel
theorem dS_firstPattern_0 : decode cS_firstPattern 0 = .ok (.aload_n 0, 1) := by decide +kernel
theorem dS_firstPattern_1 : decode cS_firstPattern 1 = .ok (.iconst 0, 1) := by decide +kernel
theorem dS_firstPattern_2 : decode cS_firstPattern 2 = .ok (.aload_n 1, 1) := by decide +kernel
theorem dS_firstPattern_3 : decode cS_firstPattern 3 = .ok (.aload_n 2, 1) := by decide +kernel
theorem dS_firstPattern_4 : decode cS_firstPattern 4 = .ok (.invokevirtual 43, 3) := by decide +kernel
theorem dS_firstPattern_7 : decode cS_firstPattern 7 = .ok (.return_, 1) := by decide +kernel
theorem dS_fillFrom_0 : decode cS_fillFrom 0 = .ok (.aload_n 0, 1) := by decide +kernel
theorem dS_fillFrom_1 : decode cS_fillFrom 1 = .ok (.getfield 9, 3) := by decide +kernel
theorem dS_fillFrom_4 : decode cS_fillFrom 4 = .ok (.aload_n 0, 1) := by decide +kernel
theorem dS_fillFrom_5 : decode cS_fillFrom 5 = .ok (.aload_n 2, 1) := by decide +kernel
theorem dS_fillFrom_6 : decode cS_fillFrom 6 = .ok (.iload_n 1, 1) := by decide +kernel
theorem dS_fillFrom_7 : decode cS_fillFrom 7 = .ok (.invokevirtual 28, 3) := by decide +kernel
theorem dS_fillFrom_10 : decode cS_fillFrom 10 = .ok (.isub, 1) := by decide +kernel
theorem dS_fillFrom_11 : decode cS_fillFrom 11 = .ok (.istore 4, 2) := by decide +kernel
theorem dS_fillFrom_13 : decode cS_fillFrom 13 = .ok (.iload_n 1, 1) := by decide +kernel
theorem dS_fillFrom_14 : decode cS_fillFrom 14 = .ok (.istore 5, 2) := by decide +kernel
theorem dS_fillFrom_16 : decode cS_fillFrom 16 = .ok (.iload 5, 2) := by decide +kernel
theorem dS_fillFrom_18 : decode cS_fillFrom 18 = .ok (.aload_n 0, 1) := by decide +kernel
theorem dS_fillFrom_19 : decode cS_fillFrom 19 = .ok (.getfield 25, 3) := by decide +kernel
theorem dS_fillFrom_22 : decode cS_fillFrom 22 = .ok (.if_icmp .ge 59, 3) := by decide +kernel
theorem dS_fillFrom_25 : decode cS_fillFrom 25 = .ok (.aload_n 0, 1) := by decide +kernel
theorem dS_fillFrom_26 : decode cS_fillFrom 26 = .ok (.getfield 15, 3) := by decide +kernel
theorem dS_fillFrom_29 : decode cS_fillFrom 29 = .ok (.iload 5, 2) := by decide +kernel
theorem dS_fillFrom_31 : decode cS_fillFrom 31 = .ok (.iaload, 1) := by decide +kernel
theorem dS_fillFrom_32 : decode cS_fillFrom 32 = .ok (.istore 6, 2) := by decide +kernel
theorem dS_fillFrom_34 : decode cS_fillFrom 34 = .ok (.iload 6, 2) := by decide +kernel
theorem dS_fillFrom_36 : decode cS_fillFrom 36 = .ok (.ifCond .gt 7, 3) := by decide +kernel
theorem dS_fillFrom_39 : decode cS_fillFrom 39 = .ok (.iconst 0, 1) := by decide +kernel
theorem dS_fillFrom_40 : decode cS_fillFrom 40 = .ok (.goto 8, 3) := by decide +kernel
theorem dS_fillFrom_43 : decode cS_fillFrom 43 = .ok (.iload 4, 2) := by decide +kernel
theorem dS_fillFrom_45 : decode cS_fillFrom 45 = .ok (.iload 6, 2) := by decide +kernel
theorem dS_fillFrom_47 : decode cS_fillFrom 47 = .ok (.idiv, 1) := by decide +kernel
theorem dS_fillFrom_48 : decode cS_fillFrom 48 = .ok (.istore 7, 2) := by decide +kernel
theorem dS_fillFrom_50 : decode cS_fillFrom 50 = .ok (.aload_n 2, 1) := by decide +kernel
theorem dS_fillFrom_51 : decode cS_fillFrom 51 = .ok (.iload 5, 2) := by decide +kernel
theorem dS_fillFrom_53 : decode cS_fillFrom 53 = .ok (.aload_n 3, 1) := by decide +kernel
theorem dS_fillFrom_54 : decode cS_fillFrom 54 = .ok (.iload 5, 2) := by decide +kernel
theorem dS_fillFrom_56 : decode cS_fillFrom 56 = .ok (.iaload, 1) := by decide +kernel
theorem dS_fillFrom_57 : decode cS_fillFrom 57 = .ok (.iload 7, 2) := by decide +kernel
theorem dS_fillFrom_59 : decode cS_fillFrom 59 = .ok (.invokestatic 47, 3) := by decide +kernel
theorem dS_fillFrom_62 : decode cS_fillFrom 62 = .ok (.iastore, 1) := by decide +kernel
theorem dS_fillFrom_63 : decode cS_fillFrom 63 = .ok (.iload 4, 2) := by decide +kernel
theorem dS_fillFrom_65 : decode cS_fillFrom 65 = .ok (.aload_n 2, 1) := by decide +kernel
theorem dS_fillFrom_66 : decode cS_fillFrom 66 = .ok (.iload 5, 2) := by decide +kernel
theorem dS_fillFrom_68 : decode cS_fillFrom 68 = .ok (.iaload, 1) := by decide +kernel
theorem dS_fillFrom_69 : decode cS_fillFrom 69 = .ok (.iload 6, 2) := by decide +kernel
theorem dS_fillFrom_71 : decode cS_fillFrom 71 = .ok (.imul, 1) := by decide +kernel
theorem dS_fillFrom_72 : decode cS_fillFrom 72 = .ok (.isub, 1) := by decide +kernel
theorem dS_fillFrom_73 : decode cS_fillFrom 73 = .ok (.istore 4, 2) := by decide +kernel
theorem dS_fillFrom_75 : decode cS_fillFrom 75 = .ok (.iinc 5 1, 3) := by decide +kernel
theorem dS_fillFrom_78 : decode cS_fillFrom 78 = .ok (.goto (-62), 3) := by decide +kernel
theorem dS_fillFrom_81 : decode cS_fillFrom 81 = .ok (.return_, 1) := by decide +kernel
theorem dS_widthOfFirst_0 : decode cS_widthOfFirst 0 = .ok (.iconst 0, 1) := by decide +kernel
theorem dS_widthOfFirst_1 : decode cS_widthOfFirst 1 = .ok (.istore_n 3, 1) := by decide +kernel
theorem dS_widthOfFirst_2 : decode cS_widthOfFirst 2 = .ok (.iconst 0, 1) := by decide +kernel
theorem dS_widthOfFirst_3 : decode cS_widthOfFirst 3 = .ok (.istore 4, 2) := by decide +kernel
theorem dS_widthOfFirst_5 : decode cS_widthOfFirst 5 = .ok (.iload 4, 2) := by decide +kernel
theorem dS_widthOfFirst_7 : decode cS_widthOfFirst 7 = .ok (.iload_n 2, 1) := by decide +kernel
theorem dS_widthOfFirst_8 : decode cS_widthOfFirst 8 = .ok (.if_icmp .ge 24, 3) := by decide +kernel
theorem dS_widthOfFirst_11 : decode cS_widthOfFirst 11 = .ok (.iload_n 3, 1) := by decide +kernel
theorem dS_widthOfFirst_12 : decode cS_widthOfFirst 12 = .ok (.aload_n 1, 1) := by decide +kernel
theorem dS_widthOfFirst_13 : decode cS_widthOfFirst 13 = .ok (.iload 4, 2) := by decide +kernel
theorem dS_widthOfFirst_15 : decode cS_widthOfFirst 15 = .ok (.iaload, 1) := by decide +kernel
theorem dS_widthOfFirst_16 : decode cS_widthOfFirst 16 = .ok (.aload_n 0, 1) := by decide +kernel
theorem dS_widthOfFirst_17 : decode cS_widthOfFirst 17 = .ok (.getfield 15, 3) := by decide +kernel
theorem dS_widthOfFirst_20 : decode cS_widthOfFirst 20 = .ok (.iload 4, 2) := by decide +kernel
theorem dS_widthOfFirst_22 : decode cS_widthOfFirst 22 = .ok (.iaload, 1) := by decide +kernel
theorem dS_widthOfFirst_23 : decode cS_widthOfFirst 23 = .ok (.imul, 1) := by decide +kernel
theorem dS_widthOfFirst_24 : decode cS_widthOfFirst 24 = .ok (.iadd, 1) := by decide +kernel
theorem dS_widthOfFirst_25 : decode cS_widthOfFirst 25 = .ok (.istore_n 3, 1) := by decide +kernel
theorem dS_widthOfFirst_26 : decode cS_widthOfFirst 26 = .ok (.iinc 4 1, 3) := by decide +kernel
theorem dS_widthOfFirst_29 : decode cS_widthOfFirst 29 = .ok (.goto (-24), 3) := by decide +kernel
theorem dS_widthOfFirst_32 : decode cS_widthOfFirst 32 = .ok (.iload_n 3, 1) := by decide +kernel
theorem dS_widthOfFirst_33 : decode cS_widthOfFirst 33 = .ok (.ireturn, 1) := by decide +kernel
theorem dS_priceOf_0 : decode cS_priceOf 0 = .ok (.iconst 0, 1) := by decide +kernel
theorem dS_priceOf_1 : decode cS_priceOf 1 = .ok (.istore_n 2, 1) := by decide +kernel
theorem dS_priceOf_2 : decode cS_priceOf 2 = .ok (.iconst 0, 1) := by decide +kernel
theorem dS_priceOf_3 : decode cS_priceOf 3 = .ok (.istore_n 3, 1) := by decide +kernel
theorem dS_priceOf_4 : decode cS_priceOf 4 = .ok (.iload_n 3, 1) := by decide +kernel
theorem dS_priceOf_5 : decode cS_priceOf 5 = .ok (.aload_n 0, 1) := by decide +kernel
theorem dS_priceOf_6 : decode cS_priceOf 6 = .ok (.getfield 25, 3) := by decide +kernel
theorem dS_priceOf_9 : decode cS_priceOf 9 = .ok (.if_icmp .ge 22, 3) := by decide +kernel
theorem dS_priceOf_12 : decode cS_priceOf 12 = .ok (.iload_n 2, 1) := by decide +kernel
theorem dS_priceOf_13 : decode cS_priceOf 13 = .ok (.aload_n 1, 1) := by decide +kernel
theorem dS_priceOf_14 : decode cS_priceOf 14 = .ok (.iload_n 3, 1) := by decide +kernel
theorem dS_priceOf_15 : decode cS_priceOf 15 = .ok (.iaload, 1) := by decide +kernel
theorem dS_priceOf_16 : decode cS_priceOf 16 = .ok (.aload_n 0, 1) := by decide +kernel
theorem dS_priceOf_17 : decode cS_priceOf 17 = .ok (.getfield 22, 3) := by decide +kernel
theorem dS_priceOf_20 : decode cS_priceOf 20 = .ok (.iload_n 3, 1) := by decide +kernel
theorem dS_priceOf_21 : decode cS_priceOf 21 = .ok (.iaload, 1) := by decide +kernel
theorem dS_priceOf_22 : decode cS_priceOf 22 = .ok (.imul, 1) := by decide +kernel
theorem dS_priceOf_23 : decode cS_priceOf 23 = .ok (.iadd, 1) := by decide +kernel
theorem dS_priceOf_24 : decode cS_priceOf 24 = .ok (.istore_n 2, 1) := by decide +kernel
theorem dS_priceOf_25 : decode cS_priceOf 25 = .ok (.iinc 3 1, 3) := by decide +kernel
theorem dS_priceOf_28 : decode cS_priceOf 28 = .ok (.goto (-24), 3) := by decide +kernel
theorem dS_priceOf_31 : decode cS_priceOf 31 = .ok (.iload_n 2, 1) := by decide +kernel
theorem dS_priceOf_32 : decode cS_priceOf 32 = .ok (.ireturn, 1) := by decide +kernel
theorem dD_take_0 : decode cD_take 0 = .ok (.aload_n 0, 1) := by decide +kernel
theorem dD_take_1 : decode cD_take 1 = .ok (.iload_n 1, 1) := by decide +kernel
theorem dD_take_2 : decode cD_take 2 = .ok (.putfield 29, 3) := by decide +kernel
theorem dD_take_5 : decode cD_take 5 = .ok (.aload_n 0, 1) := by decide +kernel
theorem dD_take_6 : decode cD_take 6 = .ok (.getfield 19, 3) := by decide +kernel
theorem dD_take_9 : decode cD_take 9 = .ok (.iconst 0, 1) := by decide +kernel
theorem dD_take_10 : decode cD_take 10 = .ok (.aload_n 0, 1) := by decide +kernel
theorem dD_take_11 : decode cD_take 11 = .ok (.getfield 15, 3) := by decide +kernel
theorem dD_take_14 : decode cD_take 14 = .ok (.iconst 0, 1) := by decide +kernel
theorem dD_take_15 : decode cD_take 15 = .ok (.iconst 5, 1) := by decide +kernel
theorem dD_take_16 : decode cD_take 16 = .ok (.invokestatic 57, 3) := by decide +kernel
theorem dD_take_19 : decode cD_take 19 = .ok (.return_, 1) := by decide +kernel
theorem dS_nextPattern_0 : decode cS_nextPattern 0 = .ok (.iload_n 3, 1) := by decide +kernel
theorem dS_nextPattern_1 : decode cS_nextPattern 1 = .ok (.aload_n 0, 1) := by decide +kernel
theorem dS_nextPattern_2 : decode cS_nextPattern 2 = .ok (.getfield 25, 3) := by decide +kernel
theorem dS_nextPattern_5 : decode cS_nextPattern 5 = .ok (.iconst 1, 1) := by decide +kernel
theorem dS_nextPattern_6 : decode cS_nextPattern 6 = .ok (.isub, 1) := by decide +kernel
theorem dS_nextPattern_7 : decode cS_nextPattern 7 = .ok (.invokestatic 47, 3) := by decide +kernel
theorem dS_nextPattern_10 : decode cS_nextPattern 10 = .ok (.istore 5, 2) := by decide +kernel
theorem dS_nextPattern_12 : decode cS_nextPattern 12 = .ok (.iload 5, 2) := by decide +kernel
theorem dS_nextPattern_14 : decode cS_nextPattern 14 = .ok (.ifCond .lt 52, 3) := by decide +kernel
theorem dS_nextPattern_17 : decode cS_nextPattern 17 = .ok (.iload 5, 2) := by decide +kernel
theorem dS_nextPattern_19 : decode cS_nextPattern 19 = .ok (.iload 4, 2) := by decide +kernel
theorem dS_nextPattern_21 : decode cS_nextPattern 21 = .ok (.if_icmp .ne 7, 3) := by decide +kernel
theorem dS_nextPattern_24 : decode cS_nextPattern 24 = .ok (.iconst 1, 1) := by decide +kernel
theorem dS_nextPattern_25 : decode cS_nextPattern 25 = .ok (.goto 4, 3) := by decide +kernel
theorem dS_nextPattern_28 : decode cS_nextPattern 28 = .ok (.iconst 0, 1) := by decide +kernel
theorem dS_nextPattern_29 : decode cS_nextPattern 29 = .ok (.istore 6, 2) := by decide +kernel
theorem dS_nextPattern_31 : decode cS_nextPattern 31 = .ok (.aload_n 1, 1) := by decide +kernel
theorem dS_nextPattern_32 : decode cS_nextPattern 32 = .ok (.iload 5, 2) := by decide +kernel
theorem dS_nextPattern_34 : decode cS_nextPattern 34 = .ok (.iaload, 1) := by decide +kernel
theorem dS_nextPattern_35 : decode cS_nextPattern 35 = .ok (.iload 6, 2) := by decide +kernel
theorem dS_nextPattern_37 : decode cS_nextPattern 37 = .ok (.if_icmp .le 23, 3) := by decide +kernel
theorem dS_nextPattern_40 : decode cS_nextPattern 40 = .ok (.aload_n 1, 1) := by decide +kernel
theorem dS_nextPattern_41 : decode cS_nextPattern 41 = .ok (.iload 5, 2) := by decide +kernel
theorem dS_nextPattern_43 : decode cS_nextPattern 43 = .ok (.dup2, 1) := by decide +kernel
theorem dS_nextPattern_44 : decode cS_nextPattern 44 = .ok (.iaload, 1) := by decide +kernel
theorem dS_nextPattern_45 : decode cS_nextPattern 45 = .ok (.iconst 1, 1) := by decide +kernel
theorem dS_nextPattern_46 : decode cS_nextPattern 46 = .ok (.isub, 1) := by decide +kernel
theorem dS_nextPattern_47 : decode cS_nextPattern 47 = .ok (.iastore, 1) := by decide +kernel
theorem dS_nextPattern_48 : decode cS_nextPattern 48 = .ok (.aload_n 0, 1) := by decide +kernel
theorem dS_nextPattern_49 : decode cS_nextPattern 49 = .ok (.iload 5, 2) := by decide +kernel
theorem dS_nextPattern_51 : decode cS_nextPattern 51 = .ok (.iconst 1, 1) := by decide +kernel
theorem dS_nextPattern_52 : decode cS_nextPattern 52 = .ok (.iadd, 1) := by decide +kernel
theorem dS_nextPattern_53 : decode cS_nextPattern 53 = .ok (.aload_n 1, 1) := by decide +kernel
theorem dS_nextPattern_54 : decode cS_nextPattern 54 = .ok (.aload_n 2, 1) := by decide +kernel
theorem dS_nextPattern_55 : decode cS_nextPattern 55 = .ok (.invokevirtual 43, 3) := by decide +kernel
theorem dS_nextPattern_58 : decode cS_nextPattern 58 = .ok (.iconst 1, 1) := by decide +kernel
theorem dS_nextPattern_59 : decode cS_nextPattern 59 = .ok (.ireturn, 1) := by decide +kernel
theorem dS_nextPattern_60 : decode cS_nextPattern 60 = .ok (.iinc 5 (-1), 3) := by decide +kernel
theorem dS_nextPattern_63 : decode cS_nextPattern 63 = .ok (.goto (-51), 3) := by decide +kernel
theorem dS_nextPattern_66 : decode cS_nextPattern 66 = .ok (.iconst 0, 1) := by decide +kernel
theorem dS_nextPattern_67 : decode cS_nextPattern 67 = .ok (.ireturn, 1) := by decide +kernel
theorem dP_bound_0 : decode cP_bound 0 = .ok (.aload_n 0, 1) := by decide +kernel
theorem dP_bound_1 : decode cP_bound 1 = .ok (.invokevirtual 98, 3) := by decide +kernel
theorem dP_bound_4 : decode cP_bound 4 = .ok (.ireturn, 1) := by decide +kernel
theorem dP_boundByPrices_0 : decode cP_boundByPrices 0 = .ok (.aload_n 0, 1) := by decide +kernel
theorem dP_boundByPrices_1 : decode cP_boundByPrices 1 = .ok (.getfield 12, 3) := by decide +kernel
theorem dP_boundByPrices_4 : decode cP_boundByPrices 4 = .ok (.invokevirtual 192, 3) := by decide +kernel
theorem dP_boundByPrices_7 : decode cP_boundByPrices 7 = .ok (.aload_n 0, 1) := by decide +kernel
theorem dP_boundByPrices_8 : decode cP_boundByPrices 8 = .ok (.getfield 21, 3) := by decide +kernel
theorem dP_boundByPrices_11 : decode cP_boundByPrices 11 = .ok (.invokevirtual 90, 3) := by decide +kernel
theorem dP_boundByPrices_14 : decode cP_boundByPrices 14 = .ok (.invokestatic 195, 3) := by decide +kernel
theorem dP_boundByPrices_17 : decode cP_boundByPrices 17 = .ok (.ireturn, 1) := by decide +kernel
theorem dS_priceOfAll_0 : decode cS_priceOfAll 0 = .ok (.aload_n 0, 1) := by decide +kernel
theorem dS_priceOfAll_1 : decode cS_priceOfAll 1 = .ok (.aload_n 0, 1) := by decide +kernel
theorem dS_priceOfAll_2 : decode cS_priceOfAll 2 = .ok (.getfield 19, 3) := by decide +kernel
theorem dS_priceOfAll_5 : decode cS_priceOfAll 5 = .ok (.invokevirtual 32, 3) := by decide +kernel
theorem dS_priceOfAll_8 : decode cS_priceOfAll 8 = .ok (.ireturn, 1) := by decide +kernel
theorem dP_roundedUp_0 : decode cP_roundedUp 0 = .ok (.iload_n 1, 1) := by decide +kernel
theorem dP_roundedUp_1 : decode cP_roundedUp 1 = .ok (.ifCond .gt 7, 3) := by decide +kernel
theorem dP_roundedUp_4 : decode cP_roundedUp 4 = .ok (.iconst 0, 1) := by decide +kernel
theorem dP_roundedUp_5 : decode cP_roundedUp 5 = .ok (.goto 10, 3) := by decide +kernel
theorem dP_roundedUp_8 : decode cP_roundedUp 8 = .ok (.iload_n 0, 1) := by decide +kernel
theorem dP_roundedUp_9 : decode cP_roundedUp 9 = .ok (.iload_n 1, 1) := by decide +kernel
theorem dP_roundedUp_10 : decode cP_roundedUp 10 = .ok (.iadd, 1) := by decide +kernel
theorem dP_roundedUp_11 : decode cP_roundedUp 11 = .ok (.iconst 1, 1) := by decide +kernel
theorem dP_roundedUp_12 : decode cP_roundedUp 12 = .ok (.isub, 1) := by decide +kernel
theorem dP_roundedUp_13 : decode cP_roundedUp 13 = .ok (.iload_n 1, 1) := by decide +kernel
theorem dP_roundedUp_14 : decode cP_roundedUp 14 = .ok (.idiv, 1) := by decide +kernel
theorem dP_roundedUp_15 : decode cP_roundedUp 15 = .ok (.ireturn, 1) := by decide +kernel
theorem dL_sheet_0 : decode cL_sheet 0 = .ok (.aload_n 0, 1) := by decide +kernel
theorem dL_sheet_1 : decode cL_sheet 1 = .ok (.iload_n 1, 1) := by decide +kernel
theorem dL_sheet_2 : decode cL_sheet 2 = .ok (.invokevirtual 7, 3) := by decide +kernel
theorem dL_sheet_5 : decode cL_sheet 5 = .ok (.goto 6, 3) := by decide +kernel
theorem dL_sheet_8 : decode cL_sheet 8 = .ok (.astore_n 2, 1) := by decide +kernel
theorem dL_sheet_9 : decode cL_sheet 9 = .ok (.iconst 1, 1) := by decide +kernel
theorem dL_sheet_10 : decode cL_sheet 10 = .ok (.ireturn, 1) := by decide +kernel
theorem dL_sheet_11 : decode cL_sheet 11 = .ok (.iconst 0, 1) := by decide +kernel
theorem dL_sheet_12 : decode cL_sheet 12 = .ok (.ireturn, 1) := by decide +kernel
theorem dP_sheet_0 : decode cP_sheet 0 = .ok (.iload_n 1, 1) := by decide +kernel
theorem dP_sheet_1 : decode cP_sheet 1 = .ok (.iconst 1, 1) := by decide +kernel
theorem dP_sheet_2 : decode cP_sheet 2 = .ok (.if_icmp .lt 10, 3) := by decide +kernel
theorem dP_sheet_5 : decode cP_sheet 5 = .ok (.iload_n 1, 1) := by decide +kernel
theorem dP_sheet_6 : decode cP_sheet 6 = .ok (.sipush 1000, 3) := by decide +kernel
theorem dP_sheet_9 : decode cP_sheet 9 = .ok (.if_icmp .le 13, 3) := by decide +kernel
theorem dP_sheet_12 : decode cP_sheet 12 = .ok (.new 39, 3) := by decide +kernel
theorem dP_sheet_15 : decode cP_sheet 15 = .ok (.dup, 1) := by decide +kernel
theorem dP_sheet_16 : decode cP_sheet 16 = .ok (.ldc 41, 2) := by decide +kernel
theorem dP_sheet_18 : decode cP_sheet 18 = .ok (.invokespecial 43, 3) := by decide +kernel
theorem dP_sheet_21 : decode cP_sheet 21 = .ok (.athrow, 1) := by decide +kernel
theorem dP_sheet_22 : decode cP_sheet 22 = .ok (.aload_n 0, 1) := by decide +kernel
theorem dP_sheet_23 : decode cP_sheet 23 = .ok (.getfield 12, 3) := by decide +kernel
theorem dP_sheet_26 : decode cP_sheet 26 = .ok (.iload_n 1, 1) := by decide +kernel
theorem dP_sheet_27 : decode cP_sheet 27 = .ok (.putfield 46, 3) := by decide +kernel
theorem dP_sheet_30 : decode cP_sheet 30 = .ok (.aload_n 0, 1) := by decide +kernel
theorem dP_sheet_31 : decode cP_sheet 31 = .ok (.invokevirtual 50, 3) := by decide +kernel
theorem dP_sheet_34 : decode cP_sheet 34 = .ok (.return_, 1) := by decide +kernel
theorem dP_forgetAnswers_0 : decode cP_forgetAnswers 0 = .ok (.aload_n 0, 1) := by decide +kernel
theorem dP_forgetAnswers_1 : decode cP_forgetAnswers 1 = .ok (.getfield 21, 3) := by decide +kernel
theorem dP_forgetAnswers_4 : decode cP_forgetAnswers 4 = .ok (.invokevirtual 87, 3) := by decide +kernel
theorem dP_forgetAnswers_7 : decode cP_forgetAnswers 7 = .ok (.aload_n 0, 1) := by decide +kernel
theorem dP_forgetAnswers_8 : decode cP_forgetAnswers 8 = .ok (.getfield 28, 3) := by decide +kernel
theorem dP_forgetAnswers_11 : decode cP_forgetAnswers 11 = .ok (.invokevirtual 191, 3) := by decide +kernel
theorem dP_forgetAnswers_14 : decode cP_forgetAnswers 14 = .ok (.return_, 1) := by decide +kernel
theorem dD_forget_0 : decode cD_forget 0 = .ok (.aload_n 0, 1) := by decide +kernel
theorem dD_forget_1 : decode cD_forget 1 = .ok (.iconst 0, 1) := by decide +kernel
theorem dD_forget_2 : decode cD_forget 2 = .ok (.putfield 22, 3) := by decide +kernel
theorem dD_forget_5 : decode cD_forget 5 = .ok (.return_, 1) := by decide +kernel
theorem dG_forget_0 : decode cG_forget 0 = .ok (.aload_n 0, 1) := by decide +kernel
theorem dG_forget_1 : decode cG_forget 1 = .ok (.iconst (-1), 1) := by decide +kernel
theorem dG_forget_2 : decode cG_forget 2 = .ok (.putfield 27, 3) := by decide +kernel
theorem dG_forget_5 : decode cG_forget 5 = .ok (.aload_n 0, 1) := by decide +kernel
theorem dG_forget_6 : decode cG_forget 6 = .ok (.iconst 0, 1) := by decide +kernel
theorem dG_forget_7 : decode cG_forget 7 = .ok (.putfield 31, 3) := by decide +kernel
theorem dG_forget_10 : decode cG_forget 10 = .ok (.aload_n 0, 1) := by decide +kernel
theorem dG_forget_11 : decode cG_forget 11 = .ok (.iconst 0, 1) := by decide +kernel
theorem dG_forget_12 : decode cG_forget 12 = .ok (.putfield 35, 3) := by decide +kernel
theorem dG_forget_15 : decode cG_forget 15 = .ok (.aload_n 0, 1) := by decide +kernel
theorem dG_forget_16 : decode cG_forget 16 = .ok (.iconst 0, 1) := by decide +kernel
theorem dG_forget_17 : decode cG_forget 17 = .ok (.putfield 38, 3) := by decide +kernel
theorem dG_forget_20 : decode cG_forget 20 = .ok (.return_, 1) := by decide +kernel
theorem dL_order_0 : decode cL_order 0 = .ok (.aload_n 3, 1) := by decide +kernel
theorem dL_order_1 : decode cL_order 1 = .ok (.iconst 0, 1) := by decide +kernel
theorem dL_order_2 : decode cL_order 2 = .ok (.aload_n 0, 1) := by decide +kernel
theorem dL_order_3 : decode cL_order 3 = .ok (.iload_n 1, 1) := by decide +kernel
theorem dL_order_4 : decode cL_order 4 = .ok (.iload_n 2, 1) := by decide +kernel
theorem dL_order_5 : decode cL_order 5 = .ok (.invokevirtual 15, 3) := by decide +kernel
theorem dL_order_8 : decode cL_order 8 = .ok (.i2l, 1) := by decide +kernel
theorem dL_order_9 : decode cL_order 9 = .ok (.lastore, 1) := by decide +kernel
theorem dL_order_10 : decode cL_order 10 = .ok (.goto 11, 3) := by decide +kernel
theorem dL_order_13 : decode cL_order 13 = .ok (.astore 4, 2) := by decide +kernel
theorem dL_order_15 : decode cL_order 15 = .ok (.iconst 1, 1) := by decide +kernel
theorem dL_order_16 : decode cL_order 16 = .ok (.ireturn, 1) := by decide +kernel
theorem dL_order_17 : decode cL_order 17 = .ok (.astore 4, 2) := by decide +kernel
theorem dL_order_19 : decode cL_order 19 = .ok (.iconst 2, 1) := by decide +kernel
theorem dL_order_20 : decode cL_order 20 = .ok (.ireturn, 1) := by decide +kernel
theorem dL_order_21 : decode cL_order 21 = .ok (.iconst 0, 1) := by decide +kernel
theorem dL_order_22 : decode cL_order 22 = .ok (.ireturn, 1) := by decide +kernel
theorem dP_order_0 : decode cP_order 0 = .ok (.aload_n 0, 1) := by decide +kernel
theorem dP_order_1 : decode cP_order 1 = .ok (.getfield 12, 3) := by decide +kernel
theorem dP_order_4 : decode cP_order 4 = .ok (.getfield 53, 3) := by decide +kernel
theorem dP_order_7 : decode cP_order 7 = .ok (.iconst 5, 1) := by decide +kernel
theorem dP_order_8 : decode cP_order 8 = .ok (.if_icmp .lt 13, 3) := by decide +kernel
theorem dP_order_11 : decode cP_order 11 = .ok (.new 56, 3) := by decide +kernel
theorem dP_order_14 : decode cP_order 14 = .ok (.dup, 1) := by decide +kernel
theorem dP_order_15 : decode cP_order 15 = .ok (.ldc 58, 2) := by decide +kernel
theorem dP_order_17 : decode cP_order 17 = .ok (.invokespecial 60, 3) := by decide +kernel
theorem dP_order_20 : decode cP_order 20 = .ok (.athrow, 1) := by decide +kernel
theorem dP_order_21 : decode cP_order 21 = .ok (.iload_n 1, 1) := by decide +kernel
theorem dP_order_22 : decode cP_order 22 = .ok (.iconst 1, 1) := by decide +kernel
theorem dP_order_23 : decode cP_order 23 = .ok (.if_icmp .lt 10, 3) := by decide +kernel
theorem dP_order_26 : decode cP_order 26 = .ok (.iload_n 1, 1) := by decide +kernel
theorem dP_order_27 : decode cP_order 27 = .ok (.sipush 1000, 3) := by decide +kernel
theorem dP_order_30 : decode cP_order 30 = .ok (.if_icmp .le 13, 3) := by decide +kernel
theorem dP_order_33 : decode cP_order 33 = .ok (.new 39, 3) := by decide +kernel
theorem dP_order_36 : decode cP_order 36 = .ok (.dup, 1) := by decide +kernel
theorem dP_order_37 : decode cP_order 37 = .ok (.ldc 61, 2) := by decide +kernel
theorem dP_order_39 : decode cP_order 39 = .ok (.invokespecial 43, 3) := by decide +kernel
theorem dP_order_42 : decode cP_order 42 = .ok (.athrow, 1) := by decide +kernel
theorem dP_order_43 : decode cP_order 43 = .ok (.iload_n 2, 1) := by decide +kernel
theorem dP_order_44 : decode cP_order 44 = .ok (.ifCond .lt 9, 3) := by decide +kernel
theorem dP_order_47 : decode cP_order 47 = .ok (.iload_n 2, 1) := by decide +kernel
theorem dP_order_48 : decode cP_order 48 = .ok (.bipush 6, 2) := by decide +kernel
theorem dP_order_50 : decode cP_order 50 = .ok (.if_icmp .le 13, 3) := by decide +kernel
theorem dP_order_53 : decode cP_order 53 = .ok (.new 39, 3) := by decide +kernel
theorem dP_order_56 : decode cP_order 56 = .ok (.dup, 1) := by decide +kernel
theorem dP_order_57 : decode cP_order 57 = .ok (.ldc 63, 2) := by decide +kernel
theorem dP_order_59 : decode cP_order 59 = .ok (.invokespecial 43, 3) := by decide +kernel
theorem dP_order_62 : decode cP_order 62 = .ok (.athrow, 1) := by decide +kernel
theorem dP_order_63 : decode cP_order 63 = .ok (.aload_n 0, 1) := by decide +kernel
theorem dP_order_64 : decode cP_order 64 = .ok (.getfield 12, 3) := by decide +kernel
theorem dP_order_67 : decode cP_order 67 = .ok (.iload_n 1, 1) := by decide +kernel
theorem dP_order_68 : decode cP_order 68 = .ok (.iload_n 2, 1) := by decide +kernel
theorem dP_order_69 : decode cP_order 69 = .ok (.invokevirtual 65, 3) := by decide +kernel
theorem dP_order_72 : decode cP_order 72 = .ok (.istore_n 3, 1) := by decide +kernel
theorem dP_order_73 : decode cP_order 73 = .ok (.aload_n 0, 1) := by decide +kernel
theorem dP_order_74 : decode cP_order 74 = .ok (.invokevirtual 50, 3) := by decide +kernel
theorem dP_order_77 : decode cP_order 77 = .ok (.iload_n 3, 1) := by decide +kernel
theorem dP_order_78 : decode cP_order 78 = .ok (.ireturn, 1) := by decide +kernel
theorem dS_add_0 : decode cS_add 0 = .ok (.aload_n 0, 1) := by decide +kernel
theorem dS_add_1 : decode cS_add 1 = .ok (.getfield 25, 3) := by decide +kernel
theorem dS_add_4 : decode cS_add 4 = .ok (.istore_n 3, 1) := by decide +kernel
theorem dS_add_5 : decode cS_add 5 = .ok (.aload_n 0, 1) := by decide +kernel
theorem dS_add_6 : decode cS_add 6 = .ok (.getfield 15, 3) := by decide +kernel
theorem dS_add_9 : decode cS_add 9 = .ok (.iload_n 3, 1) := by decide +kernel
theorem dS_add_10 : decode cS_add 10 = .ok (.iload_n 1, 1) := by decide +kernel
theorem dS_add_11 : decode cS_add 11 = .ok (.iastore, 1) := by decide +kernel
theorem dS_add_12 : decode cS_add 12 = .ok (.aload_n 0, 1) := by decide +kernel
theorem dS_add_13 : decode cS_add 13 = .ok (.getfield 19, 3) := by decide +kernel
theorem dS_add_16 : decode cS_add 16 = .ok (.iload_n 3, 1) := by decide +kernel
theorem dS_add_17 : decode cS_add 17 = .ok (.iload_n 2, 1) := by decide +kernel
theorem dS_add_18 : decode cS_add 18 = .ok (.iastore, 1) := by decide +kernel
theorem dS_add_19 : decode cS_add 19 = .ok (.aload_n 0, 1) := by decide +kernel
theorem dS_add_20 : decode cS_add 20 = .ok (.getfield 22, 3) := by decide +kernel
theorem dS_add_23 : decode cS_add 23 = .ok (.iload_n 3, 1) := by decide +kernel
theorem dS_add_24 : decode cS_add 24 = .ok (.iconst 0, 1) := by decide +kernel
theorem dS_add_25 : decode cS_add 25 = .ok (.iastore, 1) := by decide +kernel
theorem dS_add_26 : decode cS_add 26 = .ok (.aload_n 0, 1) := by decide +kernel
theorem dS_add_27 : decode cS_add 27 = .ok (.iload_n 3, 1) := by decide +kernel
theorem dS_add_28 : decode cS_add 28 = .ok (.iconst 1, 1) := by decide +kernel
theorem dS_add_29 : decode cS_add 29 = .ok (.iadd, 1) := by decide +kernel
theorem dS_add_30 : decode cS_add 30 = .ok (.putfield 25, 3) := by decide +kernel
theorem dS_add_33 : decode cS_add 33 = .ok (.iload_n 3, 1) := by decide +kernel
theorem dS_add_34 : decode cS_add 34 = .ok (.ireturn, 1) := by decide +kernel
theorem dL_pieces_0 : decode cL_pieces 0 = .ok (.aload_n 0, 1) := by decide +kernel
theorem dL_pieces_1 : decode cL_pieces 1 = .ok (.iload_n 1, 1) := by decide +kernel
theorem dL_pieces_2 : decode cL_pieces 2 = .ok (.iload_n 2, 1) := by decide +kernel
theorem dL_pieces_3 : decode cL_pieces 3 = .ok (.invokevirtual 21, 3) := by decide +kernel
theorem dL_pieces_6 : decode cL_pieces 6 = .ok (.goto 9, 3) := by decide +kernel
theorem dL_pieces_9 : decode cL_pieces 9 = .ok (.astore_n 3, 1) := by decide +kernel
theorem dL_pieces_10 : decode cL_pieces 10 = .ok (.iconst 1, 1) := by decide +kernel
theorem dL_pieces_11 : decode cL_pieces 11 = .ok (.ireturn, 1) := by decide +kernel
theorem dL_pieces_12 : decode cL_pieces 12 = .ok (.astore_n 3, 1) := by decide +kernel
theorem dL_pieces_13 : decode cL_pieces 13 = .ok (.iconst 2, 1) := by decide +kernel
theorem dL_pieces_14 : decode cL_pieces 14 = .ok (.ireturn, 1) := by decide +kernel
theorem dL_pieces_15 : decode cL_pieces 15 = .ok (.iconst 0, 1) := by decide +kernel
theorem dL_pieces_16 : decode cL_pieces 16 = .ok (.ireturn, 1) := by decide +kernel
theorem dP_pieces_0 : decode cP_pieces 0 = .ok (.aload_n 0, 1) := by decide +kernel
theorem dP_pieces_1 : decode cP_pieces 1 = .ok (.getfield 12, 3) := by decide +kernel
theorem dP_pieces_4 : decode cP_pieces 4 = .ok (.iload_n 1, 1) := by decide +kernel
theorem dP_pieces_5 : decode cP_pieces 5 = .ok (.invokevirtual 69, 3) := by decide +kernel
theorem dP_pieces_8 : decode cP_pieces 8 = .ok (.ifCond .ne 13, 3) := by decide +kernel
theorem dP_pieces_11 : decode cP_pieces 11 = .ok (.new 73, 3) := by decide +kernel
theorem dP_pieces_14 : decode cP_pieces 14 = .ok (.dup, 1) := by decide +kernel
theorem dP_pieces_15 : decode cP_pieces 15 = .ok (.ldc 75, 2) := by decide +kernel
theorem dP_pieces_17 : decode cP_pieces 17 = .ok (.invokespecial 77, 3) := by decide +kernel
theorem dP_pieces_20 : decode cP_pieces 20 = .ok (.athrow, 1) := by decide +kernel
theorem dP_pieces_21 : decode cP_pieces 21 = .ok (.iload_n 2, 1) := by decide +kernel
theorem dP_pieces_22 : decode cP_pieces 22 = .ok (.ifCond .lt 9, 3) := by decide +kernel
theorem dP_pieces_25 : decode cP_pieces 25 = .ok (.iload_n 2, 1) := by decide +kernel
theorem dP_pieces_26 : decode cP_pieces 26 = .ok (.bipush 6, 2) := by decide +kernel
theorem dP_pieces_28 : decode cP_pieces 28 = .ok (.if_icmp .le 13, 3) := by decide +kernel
theorem dP_pieces_31 : decode cP_pieces 31 = .ok (.new 39, 3) := by decide +kernel
theorem dP_pieces_34 : decode cP_pieces 34 = .ok (.dup, 1) := by decide +kernel
theorem dP_pieces_35 : decode cP_pieces 35 = .ok (.ldc 63, 2) := by decide +kernel
theorem dP_pieces_37 : decode cP_pieces 37 = .ok (.invokespecial 43, 3) := by decide +kernel
theorem dP_pieces_40 : decode cP_pieces 40 = .ok (.athrow, 1) := by decide +kernel
theorem dP_pieces_41 : decode cP_pieces 41 = .ok (.aload_n 0, 1) := by decide +kernel
theorem dP_pieces_42 : decode cP_pieces 42 = .ok (.getfield 12, 3) := by decide +kernel
theorem dP_pieces_45 : decode cP_pieces 45 = .ok (.getfield 78, 3) := by decide +kernel
theorem dP_pieces_48 : decode cP_pieces 48 = .ok (.iload_n 1, 1) := by decide +kernel
theorem dP_pieces_49 : decode cP_pieces 49 = .ok (.iload_n 2, 1) := by decide +kernel
theorem dP_pieces_50 : decode cP_pieces 50 = .ok (.iastore, 1) := by decide +kernel
theorem dP_pieces_51 : decode cP_pieces 51 = .ok (.aload_n 0, 1) := by decide +kernel
theorem dP_pieces_52 : decode cP_pieces 52 = .ok (.invokevirtual 50, 3) := by decide +kernel
theorem dP_pieces_55 : decode cP_pieces 55 = .ok (.return_, 1) := by decide +kernel
theorem dS_has_0 : decode cS_has 0 = .ok (.iload_n 1, 1) := by decide +kernel
theorem dS_has_1 : decode cS_has 1 = .ok (.ifCond .lt 15, 3) := by decide +kernel
theorem dS_has_4 : decode cS_has 4 = .ok (.iload_n 1, 1) := by decide +kernel
theorem dS_has_5 : decode cS_has 5 = .ok (.aload_n 0, 1) := by decide +kernel
theorem dS_has_6 : decode cS_has 6 = .ok (.getfield 25, 3) := by decide +kernel
theorem dS_has_9 : decode cS_has 9 = .ok (.if_icmp .ge 7, 3) := by decide +kernel
theorem dS_has_12 : decode cS_has 12 = .ok (.iconst 1, 1) := by decide +kernel
theorem dS_has_13 : decode cS_has 13 = .ok (.goto 4, 3) := by decide +kernel
theorem dS_has_16 : decode cS_has 16 = .ok (.iconst 0, 1) := by decide +kernel
theorem dS_has_17 : decode cS_has 17 = .ok (.ireturn, 1) := by decide +kernel
theorem dL_price_0 : decode cL_price 0 = .ok (.aload_n 0, 1) := by decide +kernel
theorem dL_price_1 : decode cL_price 1 = .ok (.iload_n 1, 1) := by decide +kernel
theorem dL_price_2 : decode cL_price 2 = .ok (.iload_n 2, 1) := by decide +kernel
theorem dL_price_3 : decode cL_price 3 = .ok (.invokevirtual 27, 3) := by decide +kernel
theorem dL_price_6 : decode cL_price 6 = .ok (.goto 9, 3) := by decide +kernel
theorem dL_price_9 : decode cL_price 9 = .ok (.astore_n 3, 1) := by decide +kernel
theorem dL_price_10 : decode cL_price 10 = .ok (.iconst 1, 1) := by decide +kernel
theorem dL_price_11 : decode cL_price 11 = .ok (.ireturn, 1) := by decide +kernel
theorem dL_price_12 : decode cL_price 12 = .ok (.astore_n 3, 1) := by decide +kernel
theorem dL_price_13 : decode cL_price 13 = .ok (.iconst 2, 1) := by decide +kernel
theorem dL_price_14 : decode cL_price 14 = .ok (.ireturn, 1) := by decide +kernel
theorem dL_price_15 : decode cL_price 15 = .ok (.iconst 0, 1) := by decide +kernel
theorem dL_price_16 : decode cL_price 16 = .ok (.ireturn, 1) := by decide +kernel
theorem dP_price_0 : decode cP_price 0 = .ok (.aload_n 0, 1) := by decide +kernel
theorem dP_price_1 : decode cP_price 1 = .ok (.getfield 12, 3) := by decide +kernel
theorem dP_price_4 : decode cP_price 4 = .ok (.iload_n 1, 1) := by decide +kernel
theorem dP_price_5 : decode cP_price 5 = .ok (.invokevirtual 69, 3) := by decide +kernel
theorem dP_price_8 : decode cP_price 8 = .ok (.ifCond .ne 13, 3) := by decide +kernel
theorem dP_price_11 : decode cP_price 11 = .ok (.new 73, 3) := by decide +kernel
theorem dP_price_14 : decode cP_price 14 = .ok (.dup, 1) := by decide +kernel
theorem dP_price_15 : decode cP_price 15 = .ok (.ldc 75, 2) := by decide +kernel
theorem dP_price_17 : decode cP_price 17 = .ok (.invokespecial 77, 3) := by decide +kernel
theorem dP_price_20 : decode cP_price 20 = .ok (.athrow, 1) := by decide +kernel
theorem dP_price_21 : decode cP_price 21 = .ok (.iload_n 2, 1) := by decide +kernel
theorem dP_price_22 : decode cP_price 22 = .ok (.ifCond .lt 10, 3) := by decide +kernel
theorem dP_price_25 : decode cP_price 25 = .ok (.iload_n 2, 1) := by decide +kernel
theorem dP_price_26 : decode cP_price 26 = .ok (.sipush 1000, 3) := by decide +kernel
theorem dP_price_29 : decode cP_price 29 = .ok (.if_icmp .le 13, 3) := by decide +kernel
theorem dP_price_32 : decode cP_price 32 = .ok (.new 39, 3) := by decide +kernel
theorem dP_price_35 : decode cP_price 35 = .ok (.dup, 1) := by decide +kernel
theorem dP_price_36 : decode cP_price 36 = .ok (.ldc 82, 2) := by decide +kernel
theorem dP_price_38 : decode cP_price 38 = .ok (.invokespecial 43, 3) := by decide +kernel
theorem dP_price_41 : decode cP_price 41 = .ok (.athrow, 1) := by decide +kernel
theorem dP_price_42 : decode cP_price 42 = .ok (.aload_n 0, 1) := by decide +kernel
theorem dP_price_43 : decode cP_price 43 = .ok (.getfield 12, 3) := by decide +kernel
theorem dP_price_46 : decode cP_price 46 = .ok (.getfield 84, 3) := by decide +kernel
theorem dP_price_49 : decode cP_price 49 = .ok (.iload_n 1, 1) := by decide +kernel
theorem dP_price_50 : decode cP_price 50 = .ok (.iload_n 2, 1) := by decide +kernel
theorem dP_price_51 : decode cP_price 51 = .ok (.iastore, 1) := by decide +kernel
theorem dP_price_52 : decode cP_price 52 = .ok (.aload_n 0, 1) := by decide +kernel
theorem dP_price_53 : decode cP_price 53 = .ok (.getfield 21, 3) := by decide +kernel
theorem dP_price_56 : decode cP_price 56 = .ok (.invokevirtual 87, 3) := by decide +kernel
theorem dP_price_59 : decode cP_price 59 = .ok (.return_, 1) := by decide +kernel
theorem dL_columnOf_0 : decode cL_columnOf 0 = .ok (.aload_n 2, 1) := by decide +kernel
theorem dL_columnOf_1 : decode cL_columnOf 1 = .ok (.iconst 0, 1) := by decide +kernel
theorem dL_columnOf_2 : decode cL_columnOf 2 = .ok (.aload_n 0, 1) := by decide +kernel
theorem dL_columnOf_3 : decode cL_columnOf 3 = .ok (.iload_n 1, 1) := by decide +kernel
theorem dL_columnOf_4 : decode cL_columnOf 4 = .ok (.invokevirtual 30, 3) := by decide +kernel
theorem dL_columnOf_7 : decode cL_columnOf 7 = .ok (.i2l, 1) := by decide +kernel
theorem dL_columnOf_8 : decode cL_columnOf 8 = .ok (.lastore, 1) := by decide +kernel
theorem dL_columnOf_9 : decode cL_columnOf 9 = .ok (.goto 6, 3) := by decide +kernel
theorem dL_columnOf_12 : decode cL_columnOf 12 = .ok (.astore_n 3, 1) := by decide +kernel
theorem dL_columnOf_13 : decode cL_columnOf 13 = .ok (.iconst 1, 1) := by decide +kernel
theorem dL_columnOf_14 : decode cL_columnOf 14 = .ok (.ireturn, 1) := by decide +kernel
theorem dL_columnOf_15 : decode cL_columnOf 15 = .ok (.iconst 0, 1) := by decide +kernel
theorem dL_columnOf_16 : decode cL_columnOf 16 = .ok (.ireturn, 1) := by decide +kernel
theorem dP_columnOf_0 : decode cP_columnOf 0 = .ok (.aload_n 0, 1) := by decide +kernel
theorem dP_columnOf_1 : decode cP_columnOf 1 = .ok (.getfield 12, 3) := by decide +kernel
theorem dP_columnOf_4 : decode cP_columnOf 4 = .ok (.iload_n 1, 1) := by decide +kernel
theorem dP_columnOf_5 : decode cP_columnOf 5 = .ok (.invokevirtual 69, 3) := by decide +kernel
theorem dP_columnOf_8 : decode cP_columnOf 8 = .ok (.ifCond .ne 13, 3) := by decide +kernel
theorem dP_columnOf_11 : decode cP_columnOf 11 = .ok (.new 73, 3) := by decide +kernel
theorem dP_columnOf_14 : decode cP_columnOf 14 = .ok (.dup, 1) := by decide +kernel
theorem dP_columnOf_15 : decode cP_columnOf 15 = .ok (.ldc 75, 2) := by decide +kernel
theorem dP_columnOf_17 : decode cP_columnOf 17 = .ok (.invokespecial 77, 3) := by decide +kernel
theorem dP_columnOf_20 : decode cP_columnOf 20 = .ok (.athrow, 1) := by decide +kernel
theorem dP_columnOf_21 : decode cP_columnOf 21 = .ok (.aload_n 0, 1) := by decide +kernel
theorem dP_columnOf_22 : decode cP_columnOf 22 = .ok (.getfield 21, 3) := by decide +kernel
theorem dP_columnOf_25 : decode cP_columnOf 25 = .ok (.iload_n 1, 1) := by decide +kernel
theorem dP_columnOf_26 : decode cP_columnOf 26 = .ok (.invokevirtual 94, 3) := by decide +kernel
theorem dP_columnOf_29 : decode cP_columnOf 29 = .ok (.ireturn, 1) := by decide +kernel
theorem dD_piecesOf_0 : decode cD_piecesOf 0 = .ok (.aload_n 0, 1) := by decide +kernel
theorem dD_piecesOf_1 : decode cD_piecesOf 1 = .ok (.invokevirtual 26, 3) := by decide +kernel
theorem dD_piecesOf_4 : decode cD_piecesOf 4 = .ok (.aload_n 0, 1) := by decide +kernel
theorem dD_piecesOf_5 : decode cD_piecesOf 5 = .ok (.getfield 15, 3) := by decide +kernel
theorem dD_piecesOf_8 : decode cD_piecesOf 8 = .ok (.iload_n 1, 1) := by decide +kernel
theorem dD_piecesOf_9 : decode cD_piecesOf 9 = .ok (.iaload, 1) := by decide +kernel
theorem dD_piecesOf_10 : decode cD_piecesOf 10 = .ok (.ireturn, 1) := by decide +kernel
theorem dL_design_0 : decode cL_design 0 = .ok (.aload_n 2, 1) := by decide +kernel
theorem dL_design_1 : decode cL_design 1 = .ok (.iconst 0, 1) := by decide +kernel
theorem dL_design_2 : decode cL_design 2 = .ok (.aload_n 0, 1) := by decide +kernel
theorem dL_design_3 : decode cL_design 3 = .ok (.iload_n 1, 1) := by decide +kernel
theorem dL_design_4 : decode cL_design 4 = .ok (.invokevirtual 34, 3) := by decide +kernel
theorem dL_design_7 : decode cL_design 7 = .ok (.i2l, 1) := by decide +kernel
theorem dL_design_8 : decode cL_design 8 = .ok (.lastore, 1) := by decide +kernel
theorem dL_design_9 : decode cL_design 9 = .ok (.goto 9, 3) := by decide +kernel
theorem dL_design_12 : decode cL_design 12 = .ok (.astore_n 3, 1) := by decide +kernel
theorem dL_design_13 : decode cL_design 13 = .ok (.iconst 1, 1) := by decide +kernel
theorem dL_design_14 : decode cL_design 14 = .ok (.ireturn, 1) := by decide +kernel
theorem dL_design_15 : decode cL_design 15 = .ok (.astore_n 3, 1) := by decide +kernel
theorem dL_design_16 : decode cL_design 16 = .ok (.iconst 2, 1) := by decide +kernel
theorem dL_design_17 : decode cL_design 17 = .ok (.ireturn, 1) := by decide +kernel
theorem dL_design_18 : decode cL_design 18 = .ok (.iconst 0, 1) := by decide +kernel
theorem dL_design_19 : decode cL_design 19 = .ok (.ireturn, 1) := by decide +kernel
theorem dP_design_0 : decode cP_design 0 = .ok (.iload_n 1, 1) := by decide +kernel
theorem dP_design_1 : decode cP_design 1 = .ok (.ifCond .lt 9, 3) := by decide +kernel
theorem dP_design_4 : decode cP_design 4 = .ok (.iload_n 1, 1) := by decide +kernel
theorem dP_design_5 : decode cP_design 5 = .ok (.ldc 101, 2) := by decide +kernel
theorem dP_design_7 : decode cP_design 7 = .ok (.if_icmp .le 13, 3) := by decide +kernel
theorem dP_design_10 : decode cP_design 10 = .ok (.new 39, 3) := by decide +kernel
theorem dP_design_13 : decode cP_design 13 = .ok (.dup, 1) := by decide +kernel
theorem dP_design_14 : decode cP_design 14 = .ok (.ldc 102, 2) := by decide +kernel
theorem dP_design_16 : decode cP_design 16 = .ok (.invokespecial 43, 3) := by decide +kernel
theorem dP_design_19 : decode cP_design 19 = .ok (.athrow, 1) := by decide +kernel
theorem dP_design_20 : decode cP_design 20 = .ok (.aload_n 0, 1) := by decide +kernel
theorem dP_design_21 : decode cP_design 21 = .ok (.getfield 12, 3) := by decide +kernel
theorem dP_design_24 : decode cP_design 24 = .ok (.invokevirtual 104, 3) := by decide +kernel
theorem dP_design_27 : decode cP_design 27 = .ok (.ifCond .eq 13, 3) := by decide +kernel
theorem dP_design_30 : decode cP_design 30 = .ok (.new 108, 3) := by decide +kernel
theorem dP_design_33 : decode cP_design 33 = .ok (.dup, 1) := by decide +kernel
theorem dP_design_34 : decode cP_design 34 = .ok (.ldc 110, 2) := by decide +kernel
theorem dP_design_36 : decode cP_design 36 = .ok (.invokespecial 112, 3) := by decide +kernel
theorem dP_design_39 : decode cP_design 39 = .ok (.athrow, 1) := by decide +kernel
theorem dP_design_40 : decode cP_design 40 = .ok (.aload_n 0, 1) := by decide +kernel
theorem dP_design_41 : decode cP_design 41 = .ok (.getfield 28, 3) := by decide +kernel
theorem dP_design_44 : decode cP_design 44 = .ok (.iload_n 1, 1) := by decide +kernel
theorem dP_design_45 : decode cP_design 45 = .ok (.invokevirtual 113, 3) := by decide +kernel
theorem dP_design_48 : decode cP_design 48 = .ok (.aload_n 0, 1) := by decide +kernel
theorem dP_design_49 : decode cP_design 49 = .ok (.getfield 28, 3) := by decide +kernel
theorem dP_design_52 : decode cP_design 52 = .ok (.getfield 117, 3) := by decide +kernel
theorem dP_design_55 : decode cP_design 55 = .ok (.ireturn, 1) := by decide +kernel
theorem dS_somePieceIsTooWide_0 : decode cS_somePieceIsTooWide 0 = .ok (.iconst 0, 1) := by decide +kernel
theorem dS_somePieceIsTooWide_1 : decode cS_somePieceIsTooWide 1 = .ok (.istore_n 1, 1) := by decide +kernel
theorem dS_somePieceIsTooWide_2 : decode cS_somePieceIsTooWide 2 = .ok (.iload_n 1, 1) := by decide +kernel
theorem dS_somePieceIsTooWide_3 : decode cS_somePieceIsTooWide 3 = .ok (.aload_n 0, 1) := by decide +kernel
theorem dS_somePieceIsTooWide_4 : decode cS_somePieceIsTooWide 4 = .ok (.getfield 25, 3) := by decide +kernel
theorem dS_somePieceIsTooWide_7 : decode cS_somePieceIsTooWide 7 = .ok (.if_icmp .ge 33, 3) := by decide +kernel
theorem dS_somePieceIsTooWide_10 : decode cS_somePieceIsTooWide 10 = .ok (.aload_n 0, 1) := by decide +kernel
theorem dS_somePieceIsTooWide_11 : decode cS_somePieceIsTooWide 11 = .ok (.getfield 19, 3) := by decide +kernel
theorem dS_somePieceIsTooWide_14 : decode cS_somePieceIsTooWide 14 = .ok (.iload_n 1, 1) := by decide +kernel
theorem dS_somePieceIsTooWide_15 : decode cS_somePieceIsTooWide 15 = .ok (.iaload, 1) := by decide +kernel
theorem dS_somePieceIsTooWide_16 : decode cS_somePieceIsTooWide 16 = .ok (.ifCond .le 18, 3) := by decide +kernel
theorem dS_somePieceIsTooWide_19 : decode cS_somePieceIsTooWide 19 = .ok (.aload_n 0, 1) := by decide +kernel
theorem dS_somePieceIsTooWide_20 : decode cS_somePieceIsTooWide 20 = .ok (.getfield 15, 3) := by decide +kernel
theorem dS_somePieceIsTooWide_23 : decode cS_somePieceIsTooWide 23 = .ok (.iload_n 1, 1) := by decide +kernel
theorem dS_somePieceIsTooWide_24 : decode cS_somePieceIsTooWide 24 = .ok (.iaload, 1) := by decide +kernel
theorem dS_somePieceIsTooWide_25 : decode cS_somePieceIsTooWide 25 = .ok (.aload_n 0, 1) := by decide +kernel
theorem dS_somePieceIsTooWide_26 : decode cS_somePieceIsTooWide 26 = .ok (.getfield 9, 3) := by decide +kernel
theorem dS_somePieceIsTooWide_29 : decode cS_somePieceIsTooWide 29 = .ok (.if_icmp .le 5, 3) := by decide +kernel
theorem dS_somePieceIsTooWide_32 : decode cS_somePieceIsTooWide 32 = .ok (.iconst 1, 1) := by decide +kernel
theorem dS_somePieceIsTooWide_33 : decode cS_somePieceIsTooWide 33 = .ok (.ireturn, 1) := by decide +kernel
theorem dS_somePieceIsTooWide_34 : decode cS_somePieceIsTooWide 34 = .ok (.iinc 1 1, 3) := by decide +kernel
theorem dS_somePieceIsTooWide_37 : decode cS_somePieceIsTooWide 37 = .ok (.goto (-35), 3) := by decide +kernel
theorem dS_somePieceIsTooWide_40 : decode cS_somePieceIsTooWide 40 = .ok (.iconst 0, 1) := by decide +kernel
theorem dS_somePieceIsTooWide_41 : decode cS_somePieceIsTooWide 41 = .ok (.ireturn, 1) := by decide +kernel
theorem dG_run_0 : decode cG_run 0 = .ok (.aload_n 0, 1) := by decide +kernel
theorem dG_run_1 : decode cG_run 1 = .ok (.invokevirtual 41, 3) := by decide +kernel
theorem dG_run_4 : decode cG_run 4 = .ok (.aload_n 0, 1) := by decide +kernel
theorem dG_run_5 : decode cG_run 5 = .ok (.iconst 1, 1) := by decide +kernel
theorem dG_run_6 : decode cG_run 6 = .ok (.putfield 31, 3) := by decide +kernel
theorem dG_run_9 : decode cG_run 9 = .ok (.aload_n 0, 1) := by decide +kernel
theorem dG_run_10 : decode cG_run 10 = .ok (.getfield 9, 3) := by decide +kernel
theorem dG_run_13 : decode cG_run 13 = .ok (.getfield 44, 3) := by decide +kernel
theorem dG_run_16 : decode cG_run 16 = .ok (.iconst 0, 1) := by decide +kernel
theorem dG_run_17 : decode cG_run 17 = .ok (.aload_n 0, 1) := by decide +kernel
theorem dG_run_18 : decode cG_run 18 = .ok (.getfield 15, 3) := by decide +kernel
theorem dG_run_21 : decode cG_run 21 = .ok (.iconst 0, 1) := by decide +kernel
theorem dG_run_22 : decode cG_run 22 = .ok (.iconst 5, 1) := by decide +kernel
theorem dG_run_23 : decode cG_run 23 = .ok (.invokestatic 49, 3) := by decide +kernel
theorem dG_run_26 : decode cG_run 26 = .ok (.aload_n 0, 1) := by decide +kernel
theorem dG_run_27 : decode cG_run 27 = .ok (.aload_n 0, 1) := by decide +kernel
theorem dG_run_28 : decode cG_run 28 = .ok (.getfield 9, 3) := by decide +kernel
theorem dG_run_31 : decode cG_run 31 = .ok (.invokevirtual 55, 3) := by decide +kernel
theorem dG_run_34 : decode cG_run 34 = .ok (.putfield 59, 3) := by decide +kernel
theorem dG_run_37 : decode cG_run 37 = .ok (.iconst 0, 1) := by decide +kernel
theorem dG_run_38 : decode cG_run 38 = .ok (.istore_n 2, 1) := by decide +kernel
theorem dG_run_39 : decode cG_run 39 = .ok (.aload_n 0, 1) := by decide +kernel
theorem dG_run_40 : decode cG_run 40 = .ok (.iload_n 2, 1) := by decide +kernel
theorem dG_run_41 : decode cG_run 41 = .ok (.invokevirtual 62, 3) := by decide +kernel
theorem dG_run_44 : decode cG_run 44 = .ok (.istore_n 3, 1) := by decide +kernel
theorem dG_run_45 : decode cG_run 45 = .ok (.iconst 0, 1) := by decide +kernel
theorem dG_run_46 : decode cG_run 46 = .ok (.istore 4, 2) := by decide +kernel
theorem dG_run_48 : decode cG_run 48 = .ok (.iload 4, 2) := by decide +kernel
theorem dG_run_50 : decode cG_run 50 = .ok (.ldc 66, 2) := by decide +kernel
theorem dG_run_52 : decode cG_run 52 = .ok (.if_icmp .ge 88, 3) := by decide +kernel
theorem dG_run_55 : decode cG_run 55 = .ok (.iload_n 3, 1) := by decide +kernel
theorem dG_run_56 : decode cG_run 56 = .ok (.ifCond .eq 49, 3) := by decide +kernel
theorem dG_run_59 : decode cG_run 59 = .ok (.aload_n 0, 1) := by decide +kernel
theorem dG_run_60 : decode cG_run 60 = .ok (.getfield 38, 3) := by decide +kernel
theorem dG_run_63 : decode cG_run 63 = .ok (.iload_n 1, 1) := by decide +kernel
theorem dG_run_64 : decode cG_run 64 = .ok (.if_icmp .lt 9, 3) := by decide +kernel
theorem dG_run_67 : decode cG_run 67 = .ok (.aload_n 0, 1) := by decide +kernel
theorem dG_run_68 : decode cG_run 68 = .ok (.iconst 1, 1) := by decide +kernel
theorem dG_run_69 : decode cG_run 69 = .ok (.putfield 35, 3) := by decide +kernel
theorem dG_run_72 : decode cG_run 72 = .ok (.return_, 1) := by decide +kernel
theorem dG_run_73 : decode cG_run 73 = .ok (.aload_n 0, 1) := by decide +kernel
theorem dG_run_74 : decode cG_run 74 = .ok (.dup, 1) := by decide +kernel
theorem dG_run_75 : decode cG_run 75 = .ok (.getfield 38, 3) := by decide +kernel
theorem dG_run_78 : decode cG_run 78 = .ok (.iconst 1, 1) := by decide +kernel
theorem dG_run_79 : decode cG_run 79 = .ok (.iadd, 1) := by decide +kernel
theorem dG_run_80 : decode cG_run 80 = .ok (.putfield 38, 3) := by decide +kernel
theorem dG_run_83 : decode cG_run 83 = .ok (.aload_n 0, 1) := by decide +kernel
theorem dG_run_84 : decode cG_run 84 = .ok (.aload_n 0, 1) := by decide +kernel
theorem dG_run_85 : decode cG_run 85 = .ok (.getfield 21, 3) := by decide +kernel
theorem dG_run_88 : decode cG_run 88 = .ok (.iload_n 2, 1) := by decide +kernel
theorem dG_run_89 : decode cG_run 89 = .ok (.aaload, 1) := by decide +kernel
theorem dG_run_90 : decode cG_run 90 = .ok (.invokevirtual 67, 3) := by decide +kernel
theorem dG_run_93 : decode cG_run 93 = .ok (.iinc 2 1, 3) := by decide +kernel
theorem dG_run_96 : decode cG_run 96 = .ok (.aload_n 0, 1) := by decide +kernel
theorem dG_run_97 : decode cG_run 97 = .ok (.iload_n 2, 1) := by decide +kernel
theorem dG_run_98 : decode cG_run 98 = .ok (.invokevirtual 62, 3) := by decide +kernel
theorem dG_run_101 : decode cG_run 101 = .ok (.istore_n 3, 1) := by decide +kernel
theorem dG_run_102 : decode cG_run 102 = .ok (.goto 32, 3) := by decide +kernel
theorem dG_run_105 : decode cG_run 105 = .ok (.iload_n 2, 1) := by decide +kernel
theorem dG_run_106 : decode cG_run 106 = .ok (.ifCond .gt 4, 3) := by decide +kernel
theorem dG_run_109 : decode cG_run 109 = .ok (.return_, 1) := by decide +kernel
theorem dG_run_110 : decode cG_run 110 = .ok (.iinc 2 (-1), 3) := by decide +kernel
theorem dG_run_113 : decode cG_run 113 = .ok (.aload_n 0, 1) := by decide +kernel
theorem dG_run_114 : decode cG_run 114 = .ok (.aload_n 0, 1) := by decide +kernel
theorem dG_run_115 : decode cG_run 115 = .ok (.getfield 21, 3) := by decide +kernel
theorem dG_run_118 : decode cG_run 118 = .ok (.iload_n 2, 1) := by decide +kernel
theorem dG_run_119 : decode cG_run 119 = .ok (.aaload, 1) := by decide +kernel
theorem dG_run_120 : decode cG_run 120 = .ok (.invokevirtual 71, 3) := by decide +kernel
theorem dG_run_123 : decode cG_run 123 = .ok (.aload_n 0, 1) := by decide +kernel
theorem dG_run_124 : decode cG_run 124 = .ok (.aload_n 0, 1) := by decide +kernel
theorem dG_run_125 : decode cG_run 125 = .ok (.getfield 21, 3) := by decide +kernel
theorem dG_run_128 : decode cG_run 128 = .ok (.iload_n 2, 1) := by decide +kernel
theorem dG_run_129 : decode cG_run 129 = .ok (.aaload, 1) := by decide +kernel
theorem dG_run_130 : decode cG_run 130 = .ok (.invokevirtual 74, 3) := by decide +kernel
theorem dG_run_133 : decode cG_run 133 = .ok (.istore_n 3, 1) := by decide +kernel
theorem dG_run_134 : decode cG_run 134 = .ok (.iinc 4 1, 3) := by decide +kernel
theorem dG_run_137 : decode cG_run 137 = .ok (.goto (-89), 3) := by decide +kernel
theorem dG_run_140 : decode cG_run 140 = .ok (.return_, 1) := by decide +kernel
theorem dS_widthOfAll_0 : decode cS_widthOfAll 0 = .ok (.aload_n 0, 1) := by decide +kernel
theorem dS_widthOfAll_1 : decode cS_widthOfAll 1 = .ok (.aload_n 0, 1) := by decide +kernel
theorem dS_widthOfAll_2 : decode cS_widthOfAll 2 = .ok (.getfield 19, 3) := by decide +kernel
theorem dS_widthOfAll_5 : decode cS_widthOfAll 5 = .ok (.aload_n 0, 1) := by decide +kernel
theorem dS_widthOfAll_6 : decode cS_widthOfAll 6 = .ok (.getfield 25, 3) := by decide +kernel
theorem dS_widthOfAll_9 : decode cS_widthOfAll 9 = .ok (.invokevirtual 28, 3) := by decide +kernel
theorem dS_widthOfAll_12 : decode cS_widthOfAll 12 = .ok (.ireturn, 1) := by decide +kernel
theorem dG_opens_0 : decode cG_opens 0 = .ok (.aload_n 0, 1) := by decide +kernel
theorem dG_opens_1 : decode cG_opens 1 = .ok (.getfield 27, 3) := by decide +kernel
theorem dG_opens_4 : decode cG_opens 4 = .ok (.iconst (-1), 1) := by decide +kernel
theorem dG_opens_5 : decode cG_opens 5 = .ok (.if_icmp .eq 25, 3) := by decide +kernel
theorem dG_opens_8 : decode cG_opens 8 = .ok (.iload_n 1, 1) := by decide +kernel
theorem dG_opens_9 : decode cG_opens 9 = .ok (.aload_n 0, 1) := by decide +kernel
theorem dG_opens_10 : decode cG_opens 10 = .ok (.getfield 9, 3) := by decide +kernel
theorem dG_opens_13 : decode cG_opens 13 = .ok (.aload_n 0, 1) := by decide +kernel
theorem dG_opens_14 : decode cG_opens 14 = .ok (.getfield 59, 3) := by decide +kernel
theorem dG_opens_17 : decode cG_opens 17 = .ok (.invokevirtual 78, 3) := by decide +kernel
theorem dG_opens_20 : decode cG_opens 20 = .ok (.iadd, 1) := by decide +kernel
theorem dG_opens_21 : decode cG_opens 21 = .ok (.aload_n 0, 1) := by decide +kernel
theorem dG_opens_22 : decode cG_opens 22 = .ok (.getfield 27, 3) := by decide +kernel
theorem dG_opens_25 : decode cG_opens 25 = .ok (.if_icmp .lt 5, 3) := by decide +kernel
theorem dG_opens_28 : decode cG_opens 28 = .ok (.iconst 0, 1) := by decide +kernel
theorem dG_opens_29 : decode cG_opens 29 = .ok (.ireturn, 1) := by decide +kernel
theorem dG_opens_30 : decode cG_opens 30 = .ok (.aload_n 0, 1) := by decide +kernel
theorem dG_opens_31 : decode cG_opens 31 = .ok (.getfield 59, 3) := by decide +kernel
theorem dG_opens_34 : decode cG_opens 34 = .ok (.ifCond .ne 10, 3) := by decide +kernel
theorem dG_opens_37 : decode cG_opens 37 = .ok (.aload_n 0, 1) := by decide +kernel
theorem dG_opens_38 : decode cG_opens 38 = .ok (.iload_n 1, 1) := by decide +kernel
theorem dG_opens_39 : decode cG_opens 39 = .ok (.invokevirtual 82, 3) := by decide +kernel
theorem dG_opens_42 : decode cG_opens 42 = .ok (.iconst 0, 1) := by decide +kernel
theorem dG_opens_43 : decode cG_opens 43 = .ok (.ireturn, 1) := by decide +kernel
theorem dG_opens_44 : decode cG_opens 44 = .ok (.iload_n 1, 1) := by decide +kernel
theorem dG_opens_45 : decode cG_opens 45 = .ok (.bipush 30, 2) := by decide +kernel
theorem dG_opens_47 : decode cG_opens 47 = .ok (.if_icmp .lt 5, 3) := by decide +kernel
theorem dG_opens_50 : decode cG_opens 50 = .ok (.iconst 0, 1) := by decide +kernel
theorem dG_opens_51 : decode cG_opens 51 = .ok (.ireturn, 1) := by decide +kernel
theorem dG_opens_52 : decode cG_opens 52 = .ok (.aload_n 0, 1) := by decide +kernel
theorem dG_opens_53 : decode cG_opens 53 = .ok (.getfield 9, 3) := by decide +kernel
theorem dG_opens_56 : decode cG_opens 56 = .ok (.aload_n 0, 1) := by decide +kernel
theorem dG_opens_57 : decode cG_opens 57 = .ok (.getfield 21, 3) := by decide +kernel
theorem dG_opens_60 : decode cG_opens 60 = .ok (.iload_n 1, 1) := by decide +kernel
theorem dG_opens_61 : decode cG_opens 61 = .ok (.aaload, 1) := by decide +kernel
theorem dG_opens_62 : decode cG_opens 62 = .ok (.aload_n 0, 1) := by decide +kernel
theorem dG_opens_63 : decode cG_opens 63 = .ok (.getfield 15, 3) := by decide +kernel
theorem dG_opens_66 : decode cG_opens 66 = .ok (.invokevirtual 86, 3) := by decide +kernel
theorem dG_opens_69 : decode cG_opens 69 = .ok (.iconst 1, 1) := by decide +kernel
theorem dG_opens_70 : decode cG_opens 70 = .ok (.ireturn, 1) := by decide +kernel
theorem dS_sheetsFor_0 : decode cS_sheetsFor 0 = .ok (.iload_n 1, 1) := by decide +kernel
theorem dS_sheetsFor_1 : decode cS_sheetsFor 1 = .ok (.aload_n 0, 1) := by decide +kernel
theorem dS_sheetsFor_2 : decode cS_sheetsFor 2 = .ok (.getfield 9, 3) := by decide +kernel
theorem dS_sheetsFor_5 : decode cS_sheetsFor 5 = .ok (.invokestatic 36, 3) := by decide +kernel
theorem dS_sheetsFor_8 : decode cS_sheetsFor 8 = .ok (.ireturn, 1) := by decide +kernel
theorem dG_takeAsBest_0 : decode cG_takeAsBest 0 = .ok (.iconst 0, 1) := by decide +kernel
theorem dG_takeAsBest_1 : decode cG_takeAsBest 1 = .ok (.istore_n 2, 1) := by decide +kernel
theorem dG_takeAsBest_2 : decode cG_takeAsBest 2 = .ok (.iload_n 2, 1) := by decide +kernel
theorem dG_takeAsBest_3 : decode cG_takeAsBest 3 = .ok (.iload_n 1, 1) := by decide +kernel
theorem dG_takeAsBest_4 : decode cG_takeAsBest 4 = .ok (.if_icmp .ge 33, 3) := by decide +kernel
theorem dG_takeAsBest_7 : decode cG_takeAsBest 7 = .ok (.iload_n 2, 1) := by decide +kernel
theorem dG_takeAsBest_8 : decode cG_takeAsBest 8 = .ok (.bipush 30, 2) := by decide +kernel
theorem dG_takeAsBest_10 : decode cG_takeAsBest 10 = .ok (.if_icmp .ge 27, 3) := by decide +kernel
theorem dG_takeAsBest_13 : decode cG_takeAsBest 13 = .ok (.aload_n 0, 1) := by decide +kernel
theorem dG_takeAsBest_14 : decode cG_takeAsBest 14 = .ok (.getfield 21, 3) := by decide +kernel
theorem dG_takeAsBest_17 : decode cG_takeAsBest 17 = .ok (.iload_n 2, 1) := by decide +kernel
theorem dG_takeAsBest_18 : decode cG_takeAsBest 18 = .ok (.aaload, 1) := by decide +kernel
theorem dG_takeAsBest_19 : decode cG_takeAsBest 19 = .ok (.iconst 0, 1) := by decide +kernel
theorem dG_takeAsBest_20 : decode cG_takeAsBest 20 = .ok (.aload_n 0, 1) := by decide +kernel
theorem dG_takeAsBest_21 : decode cG_takeAsBest 21 = .ok (.getfield 24, 3) := by decide +kernel
theorem dG_takeAsBest_24 : decode cG_takeAsBest 24 = .ok (.iload_n 2, 1) := by decide +kernel
theorem dG_takeAsBest_25 : decode cG_takeAsBest 25 = .ok (.aaload, 1) := by decide +kernel
theorem dG_takeAsBest_26 : decode cG_takeAsBest 26 = .ok (.iconst 0, 1) := by decide +kernel
theorem dG_takeAsBest_27 : decode cG_takeAsBest 27 = .ok (.iconst 5, 1) := by decide +kernel
theorem dG_takeAsBest_28 : decode cG_takeAsBest 28 = .ok (.invokestatic 49, 3) := by decide +kernel
theorem dG_takeAsBest_31 : decode cG_takeAsBest 31 = .ok (.iinc 2 1, 3) := by decide +kernel
theorem dG_takeAsBest_34 : decode cG_takeAsBest 34 = .ok (.goto (-32), 3) := by decide +kernel
theorem dG_takeAsBest_37 : decode cG_takeAsBest 37 = .ok (.aload_n 0, 1) := by decide +kernel
theorem dG_takeAsBest_38 : decode cG_takeAsBest 38 = .ok (.iload_n 1, 1) := by decide +kernel
theorem dG_takeAsBest_39 : decode cG_takeAsBest 39 = .ok (.putfield 27, 3) := by decide +kernel
theorem dG_takeAsBest_42 : decode cG_takeAsBest 42 = .ok (.return_, 1) := by decide +kernel
theorem dG_lay_0 : decode cG_lay 0 = .ok (.iconst 0, 1) := by decide +kernel
theorem dG_lay_1 : decode cG_lay 1 = .ok (.istore_n 2, 1) := by decide +kernel
theorem dG_lay_2 : decode cG_lay 2 = .ok (.iload_n 2, 1) := by decide +kernel
theorem dG_lay_3 : decode cG_lay 3 = .ok (.aload_n 0, 1) := by decide +kernel
theorem dG_lay_4 : decode cG_lay 4 = .ok (.getfield 9, 3) := by decide +kernel
theorem dG_lay_7 : decode cG_lay 7 = .ok (.getfield 90, 3) := by decide +kernel
theorem dG_lay_10 : decode cG_lay 10 = .ok (.if_icmp .ge 21, 3) := by decide +kernel
theorem dG_lay_13 : decode cG_lay 13 = .ok (.aload_n 0, 1) := by decide +kernel
theorem dG_lay_14 : decode cG_lay 14 = .ok (.getfield 15, 3) := by decide +kernel
theorem dG_lay_17 : decode cG_lay 17 = .ok (.iload_n 2, 1) := by decide +kernel
theorem dG_lay_18 : decode cG_lay 18 = .ok (.dup2, 1) := by decide +kernel
theorem dG_lay_19 : decode cG_lay 19 = .ok (.iaload, 1) := by decide +kernel
theorem dG_lay_20 : decode cG_lay 20 = .ok (.aload_n 1, 1) := by decide +kernel
theorem dG_lay_21 : decode cG_lay 21 = .ok (.iload_n 2, 1) := by decide +kernel
theorem dG_lay_22 : decode cG_lay 22 = .ok (.iaload, 1) := by decide +kernel
theorem dG_lay_23 : decode cG_lay 23 = .ok (.isub, 1) := by decide +kernel
theorem dG_lay_24 : decode cG_lay 24 = .ok (.iastore, 1) := by decide +kernel
theorem dG_lay_25 : decode cG_lay 25 = .ok (.iinc 2 1, 3) := by decide +kernel
theorem dG_lay_28 : decode cG_lay 28 = .ok (.goto (-26), 3) := by decide +kernel
theorem dG_lay_31 : decode cG_lay 31 = .ok (.aload_n 0, 1) := by decide +kernel
theorem dG_lay_32 : decode cG_lay 32 = .ok (.dup, 1) := by decide +kernel
theorem dG_lay_33 : decode cG_lay 33 = .ok (.getfield 59, 3) := by decide +kernel
theorem dG_lay_36 : decode cG_lay 36 = .ok (.aload_n 0, 1) := by decide +kernel
theorem dG_lay_37 : decode cG_lay 37 = .ok (.getfield 9, 3) := by decide +kernel
theorem dG_lay_40 : decode cG_lay 40 = .ok (.aload_n 1, 1) := by decide +kernel
theorem dG_lay_41 : decode cG_lay 41 = .ok (.invokevirtual 100, 3) := by decide +kernel
theorem dG_lay_44 : decode cG_lay 44 = .ok (.isub, 1) := by decide +kernel
theorem dG_lay_45 : decode cG_lay 45 = .ok (.putfield 59, 3) := by decide +kernel
theorem dG_lay_48 : decode cG_lay 48 = .ok (.return_, 1) := by decide +kernel
theorem dS_widthOf_0 : decode cS_widthOf 0 = .ok (.aload_n 0, 1) := by decide +kernel
theorem dS_widthOf_1 : decode cS_widthOf 1 = .ok (.aload_n 1, 1) := by decide +kernel
theorem dS_widthOf_2 : decode cS_widthOf 2 = .ok (.aload_n 0, 1) := by decide +kernel
theorem dS_widthOf_3 : decode cS_widthOf 3 = .ok (.getfield 25, 3) := by decide +kernel
theorem dS_widthOf_6 : decode cS_widthOf 6 = .ok (.invokevirtual 28, 3) := by decide +kernel
theorem dS_widthOf_9 : decode cS_widthOf 9 = .ok (.ireturn, 1) := by decide +kernel
