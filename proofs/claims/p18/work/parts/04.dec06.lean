theorem dMD_stronger_24 : decode cMD_stronger 24 = .ok (.iconst 4, 1) := by decide +kernel
theorem dMD_stronger_25 : decode cMD_stronger 25 = .ok (.if_icmp .eq 13, 3) := by decide +kernel
theorem dMD_stronger_28 : decode cMD_stronger 28 = .ok (.aload_n 0, 1) := by decide +kernel
theorem dMD_stronger_29 : decode cMD_stronger 29 = .ok (.getfield 47, 3) := by decide +kernel
theorem dMD_stronger_32 : decode cMD_stronger 32 = .ok (.iload_n 2, 1) := by decide +kernel
theorem dMD_stronger_33 : decode cMD_stronger 33 = .ok (.iaload, 1) := by decide +kernel
theorem dMD_stronger_34 : decode cMD_stronger 34 = .ok (.iconst 4, 1) := by decide +kernel
theorem dMD_stronger_35 : decode cMD_stronger 35 = .ok (.if_icmp .ne 19, 3) := by decide +kernel
theorem dMD_stronger_38 : decode cMD_stronger 38 = .ok (.aload_n 0, 1) := by decide +kernel
theorem dMD_stronger_39 : decode cMD_stronger 39 = .ok (.getfield 47, 3) := by decide +kernel
theorem dMD_stronger_42 : decode cMD_stronger 42 = .ok (.iload_n 1, 1) := by decide +kernel
theorem dMD_stronger_43 : decode cMD_stronger 43 = .ok (.iaload, 1) := by decide +kernel
theorem dMD_stronger_44 : decode cMD_stronger 44 = .ok (.iconst 4, 1) := by decide +kernel
theorem dMD_stronger_45 : decode cMD_stronger 45 = .ok (.if_icmp .ne 7, 3) := by decide +kernel
theorem dMD_stronger_48 : decode cMD_stronger 48 = .ok (.iload_n 1, 1) := by decide +kernel
theorem dMD_stronger_49 : decode cMD_stronger 49 = .ok (.goto 4, 3) := by decide +kernel
theorem dMD_stronger_52 : decode cMD_stronger 52 = .ok (.iload_n 2, 1) := by decide +kernel
theorem dMD_stronger_53 : decode cMD_stronger 53 = .ok (.ireturn, 1) := by decide +kernel
theorem dMD_stronger_54 : decode cMD_stronger 54 = .ok (.aload_n 0, 1) := by decide +kernel
theorem dMD_stronger_55 : decode cMD_stronger 55 = .ok (.getfield 44, 3) := by decide +kernel
theorem dMD_stronger_58 : decode cMD_stronger 58 = .ok (.iload_n 1, 1) := by decide +kernel
theorem dMD_stronger_59 : decode cMD_stronger 59 = .ok (.iaload, 1) := by decide +kernel
theorem dMD_stronger_60 : decode cMD_stronger 60 = .ok (.aload_n 0, 1) := by decide +kernel
theorem dMD_stronger_61 : decode cMD_stronger 61 = .ok (.getfield 44, 3) := by decide +kernel
theorem dMD_stronger_64 : decode cMD_stronger 64 = .ok (.iload_n 2, 1) := by decide +kernel
theorem dMD_stronger_65 : decode cMD_stronger 65 = .ok (.iaload, 1) := by decide +kernel
theorem dMD_stronger_66 : decode cMD_stronger 66 = .ok (.if_icmp .eq 24, 3) := by decide +kernel
theorem dMD_stronger_69 : decode cMD_stronger 69 = .ok (.aload_n 0, 1) := by decide +kernel
theorem dMD_stronger_70 : decode cMD_stronger 70 = .ok (.getfield 44, 3) := by decide +kernel
theorem dMD_stronger_73 : decode cMD_stronger 73 = .ok (.iload_n 1, 1) := by decide +kernel
theorem dMD_stronger_74 : decode cMD_stronger 74 = .ok (.iaload, 1) := by decide +kernel
theorem dMD_stronger_75 : decode cMD_stronger 75 = .ok (.aload_n 0, 1) := by decide +kernel
theorem dMD_stronger_76 : decode cMD_stronger 76 = .ok (.getfield 44, 3) := by decide +kernel
theorem dMD_stronger_79 : decode cMD_stronger 79 = .ok (.iload_n 2, 1) := by decide +kernel
theorem dMD_stronger_80 : decode cMD_stronger 80 = .ok (.iaload, 1) := by decide +kernel
theorem dMD_stronger_81 : decode cMD_stronger 81 = .ok (.if_icmp .le 7, 3) := by decide +kernel
theorem dMD_stronger_84 : decode cMD_stronger 84 = .ok (.iload_n 1, 1) := by decide +kernel
theorem dMD_stronger_85 : decode cMD_stronger 85 = .ok (.goto 4, 3) := by decide +kernel
theorem dMD_stronger_88 : decode cMD_stronger 88 = .ok (.iload_n 2, 1) := by decide +kernel
theorem dMD_stronger_89 : decode cMD_stronger 89 = .ok (.ireturn, 1) := by decide +kernel
theorem dMD_stronger_90 : decode cMD_stronger 90 = .ok (.aload_n 0, 1) := by decide +kernel
theorem dMD_stronger_91 : decode cMD_stronger 91 = .ok (.getfield 47, 3) := by decide +kernel
theorem dMD_stronger_94 : decode cMD_stronger 94 = .ok (.iload_n 2, 1) := by decide +kernel
theorem dMD_stronger_95 : decode cMD_stronger 95 = .ok (.iaload, 1) := by decide +kernel
theorem dMD_stronger_96 : decode cMD_stronger 96 = .ok (.aload_n 0, 1) := by decide +kernel
theorem dMD_stronger_97 : decode cMD_stronger 97 = .ok (.getfield 47, 3) := by decide +kernel
theorem dMD_stronger_100 : decode cMD_stronger 100 = .ok (.iload_n 1, 1) := by decide +kernel
theorem dMD_stronger_101 : decode cMD_stronger 101 = .ok (.iaload, 1) := by decide +kernel
theorem dMD_stronger_102 : decode cMD_stronger 102 = .ok (.if_icmp .le 7, 3) := by decide +kernel
theorem dMD_stronger_105 : decode cMD_stronger 105 = .ok (.iload_n 2, 1) := by decide +kernel
theorem dMD_stronger_106 : decode cMD_stronger 106 = .ok (.goto 4, 3) := by decide +kernel
theorem dMD_stronger_109 : decode cMD_stronger 109 = .ok (.iload_n 1, 1) := by decide +kernel
theorem dMD_stronger_110 : decode cMD_stronger 110 = .ok (.ireturn, 1) := by decide +kernel
theorem dMD_sumOf_0 : decode cMD_sumOf 0 = .ok (.iconst 0, 1) := by decide +kernel
theorem dMD_sumOf_1 : decode cMD_sumOf 1 = .ok (.istore_n 3, 1) := by decide +kernel
theorem dMD_sumOf_2 : decode cMD_sumOf 2 = .ok (.iload_n 1, 1) := by decide +kernel
theorem dMD_sumOf_3 : decode cMD_sumOf 3 = .ok (.istore 4, 2) := by decide +kernel
theorem dMD_sumOf_5 : decode cMD_sumOf 5 = .ok (.iload 4, 2) := by decide +kernel
theorem dMD_sumOf_7 : decode cMD_sumOf 7 = .ok (.iload_n 2, 1) := by decide +kernel
theorem dMD_sumOf_8 : decode cMD_sumOf 8 = .ok (.if_icmp .ge 16, 3) := by decide +kernel
theorem dMD_sumOf_11 : decode cMD_sumOf 11 = .ok (.iload_n 3, 1) := by decide +kernel
theorem dMD_sumOf_12 : decode cMD_sumOf 12 = .ok (.aload_n 0, 1) := by decide +kernel
theorem dMD_sumOf_13 : decode cMD_sumOf 13 = .ok (.iload 4, 2) := by decide +kernel
theorem dMD_sumOf_15 : decode cMD_sumOf 15 = .ok (.iaload, 1) := by decide +kernel
theorem dMD_sumOf_16 : decode cMD_sumOf 16 = .ok (.iadd, 1) := by decide +kernel
theorem dMD_sumOf_17 : decode cMD_sumOf 17 = .ok (.istore_n 3, 1) := by decide +kernel
theorem dMD_sumOf_18 : decode cMD_sumOf 18 = .ok (.iinc 4 1, 3) := by decide +kernel
theorem dMD_sumOf_21 : decode cMD_sumOf 21 = .ok (.goto (-16), 3) := by decide +kernel
theorem dMD_sumOf_24 : decode cMD_sumOf 24 = .ok (.iload_n 3, 1) := by decide +kernel
theorem dMD_sumOf_25 : decode cMD_sumOf 25 = .ok (.ireturn, 1) := by decide +kernel
theorem dMD_takes_0 : decode cMD_takes 0 = .ok (.iload_n 2, 1) := by decide +kernel
theorem dMD_takes_1 : decode cMD_takes 1 = .ok (.aload_n 0, 1) := by decide +kernel
theorem dMD_takes_2 : decode cMD_takes 2 = .ok (.getfield 20, 3) := by decide +kernel
theorem dMD_takes_5 : decode cMD_takes 5 = .ok (.iload_n 1, 1) := by decide +kernel
theorem dMD_takes_6 : decode cMD_takes 6 = .ok (.iaload, 1) := by decide +kernel
theorem dMD_takes_7 : decode cMD_takes 7 = .ok (.if_icmp .lt 50, 3) := by decide +kernel
theorem dMD_takes_10 : decode cMD_takes 10 = .ok (.iload_n 2, 1) := by decide +kernel
theorem dMD_takes_11 : decode cMD_takes 11 = .ok (.aload_n 0, 1) := by decide +kernel
theorem dMD_takes_12 : decode cMD_takes 12 = .ok (.getfield 20, 3) := by decide +kernel
theorem dMD_takes_15 : decode cMD_takes 15 = .ok (.iload_n 1, 1) := by decide +kernel
theorem dMD_takes_16 : decode cMD_takes 16 = .ok (.iaload, 1) := by decide +kernel
theorem dMD_takes_17 : decode cMD_takes 17 = .ok (.aload_n 0, 1) := by decide +kernel
theorem dMD_takes_18 : decode cMD_takes 18 = .ok (.getfield 26, 3) := by decide +kernel
theorem dMD_takes_21 : decode cMD_takes 21 = .ok (.iload_n 1, 1) := by decide +kernel
theorem dMD_takes_22 : decode cMD_takes 22 = .ok (.iaload, 1) := by decide +kernel
theorem dMD_takes_23 : decode cMD_takes 23 = .ok (.iadd, 1) := by decide +kernel
theorem dMD_takes_24 : decode cMD_takes 24 = .ok (.if_icmp .ge 33, 3) := by decide +kernel
theorem dMD_takes_27 : decode cMD_takes 27 = .ok (.iload_n 3, 1) := by decide +kernel
theorem dMD_takes_28 : decode cMD_takes 28 = .ok (.aload_n 0, 1) := by decide +kernel
theorem dMD_takes_29 : decode cMD_takes 29 = .ok (.getfield 23, 3) := by decide +kernel
theorem dMD_takes_32 : decode cMD_takes 32 = .ok (.iload_n 1, 1) := by decide +kernel
theorem dMD_takes_33 : decode cMD_takes 33 = .ok (.iaload, 1) := by decide +kernel
theorem dMD_takes_34 : decode cMD_takes 34 = .ok (.if_icmp .lt 23, 3) := by decide +kernel
theorem dMD_takes_37 : decode cMD_takes 37 = .ok (.iload_n 3, 1) := by decide +kernel
theorem dMD_takes_38 : decode cMD_takes 38 = .ok (.aload_n 0, 1) := by decide +kernel
theorem dMD_takes_39 : decode cMD_takes 39 = .ok (.getfield 23, 3) := by decide +kernel
theorem dMD_takes_42 : decode cMD_takes 42 = .ok (.iload_n 1, 1) := by decide +kernel
theorem dMD_takes_43 : decode cMD_takes 43 = .ok (.iaload, 1) := by decide +kernel
theorem dMD_takes_44 : decode cMD_takes 44 = .ok (.aload_n 0, 1) := by decide +kernel
theorem dMD_takes_45 : decode cMD_takes 45 = .ok (.iload_n 1, 1) := by decide +kernel
theorem dMD_takes_46 : decode cMD_takes 46 = .ok (.invokevirtual 102, 3) := by decide +kernel
theorem dMD_takes_49 : decode cMD_takes 49 = .ok (.iadd, 1) := by decide +kernel
theorem dMD_takes_50 : decode cMD_takes 50 = .ok (.if_icmp .ge 7, 3) := by decide +kernel
theorem dMD_takes_53 : decode cMD_takes 53 = .ok (.iconst 1, 1) := by decide +kernel
theorem dMD_takes_54 : decode cMD_takes 54 = .ok (.goto 4, 3) := by decide +kernel
theorem dMD_takes_57 : decode cMD_takes 57 = .ok (.iconst 0, 1) := by decide +kernel
theorem dMD_takes_58 : decode cMD_takes 58 = .ok (.ireturn, 1) := by decide +kernel
theorem dMD_weigh_0 : decode cMD_weigh 0 = .ok (.iconst 0, 1) := by decide +kernel
theorem dMD_weigh_1 : decode cMD_weigh 1 = .ok (.istore_n 2, 1) := by decide +kernel
theorem dMD_weigh_2 : decode cMD_weigh 2 = .ok (.iload_n 2, 1) := by decide +kernel
theorem dMD_weigh_3 : decode cMD_weigh 3 = .ok (.bipush 12, 2) := by decide +kernel
theorem dMD_weigh_5 : decode cMD_weigh 5 = .ok (.if_icmp .ge 18, 3) := by decide +kernel
theorem dMD_weigh_8 : decode cMD_weigh 8 = .ok (.aload_n 0, 1) := by decide +kernel
theorem dMD_weigh_9 : decode cMD_weigh 9 = .ok (.getfield 69, 3) := by decide +kernel
theorem dMD_weigh_12 : decode cMD_weigh 12 = .ok (.iload_n 2, 1) := by decide +kernel
theorem dMD_weigh_13 : decode cMD_weigh 13 = .ok (.aload_n 1, 1) := by decide +kernel
theorem dMD_weigh_14 : decode cMD_weigh 14 = .ok (.iload_n 2, 1) := by decide +kernel
theorem dMD_weigh_15 : decode cMD_weigh 15 = .ok (.iaload, 1) := by decide +kernel
theorem dMD_weigh_16 : decode cMD_weigh 16 = .ok (.iastore, 1) := by decide +kernel
theorem dMD_weigh_17 : decode cMD_weigh 17 = .ok (.iinc 2 1, 3) := by decide +kernel
theorem dMD_weigh_20 : decode cMD_weigh 20 = .ok (.goto (-18), 3) := by decide +kernel
theorem dMD_weigh_23 : decode cMD_weigh 23 = .ok (.return_, 1) := by decide +kernel
theorem dMD_wide_0 : decode cMD_wide 0 = .ok (.iload_n 1, 1) := by decide +kernel
theorem dMD_wide_1 : decode cMD_wide 1 = .ok (.ifCond .lt 11, 3) := by decide +kernel
theorem dMD_wide_4 : decode cMD_wide 4 = .ok (.iload_n 1, 1) := by decide +kernel
theorem dMD_wide_5 : decode cMD_wide 5 = .ok (.aload_n 0, 1) := by decide +kernel
theorem dMD_wide_6 : decode cMD_wide 6 = .ok (.invokevirtual 113, 3) := by decide +kernel
theorem dMD_wide_9 : decode cMD_wide 9 = .ok (.if_icmp .lt 5, 3) := by decide +kernel
theorem dMD_wide_12 : decode cMD_wide 12 = .ok (.iconst (-1), 1) := by decide +kernel
theorem dMD_wide_13 : decode cMD_wide 13 = .ok (.ireturn, 1) := by decide +kernel
theorem dMD_wide_14 : decode cMD_wide 14 = .ok (.aload_n 0, 1) := by decide +kernel
theorem dMD_wide_15 : decode cMD_wide 15 = .ok (.invokevirtual 149, 3) := by decide +kernel
theorem dMD_wide_18 : decode cMD_wide 18 = .ok (.iload_n 2, 1) := by decide +kernel
theorem dMD_wide_19 : decode cMD_wide 19 = .ok (.ifCond .ne 12, 3) := by decide +kernel
theorem dMD_wide_22 : decode cMD_wide 22 = .ok (.aload_n 0, 1) := by decide +kernel
theorem dMD_wide_23 : decode cMD_wide 23 = .ok (.getfield 53, 3) := by decide +kernel
theorem dMD_wide_26 : decode cMD_wide 26 = .ok (.iload_n 1, 1) := by decide +kernel
theorem dMD_wide_27 : decode cMD_wide 27 = .ok (.iaload, 1) := by decide +kernel
theorem dMD_wide_28 : decode cMD_wide 28 = .ok (.goto 23, 3) := by decide +kernel
theorem dMD_wide_31 : decode cMD_wide 31 = .ok (.iload_n 2, 1) := by decide +kernel
theorem dMD_wide_32 : decode cMD_wide 32 = .ok (.iconst 1, 1) := by decide +kernel
theorem dMD_wide_33 : decode cMD_wide 33 = .ok (.if_icmp .ne 12, 3) := by decide +kernel
theorem dMD_wide_36 : decode cMD_wide 36 = .ok (.aload_n 0, 1) := by decide +kernel
theorem dMD_wide_37 : decode cMD_wide 37 = .ok (.getfield 56, 3) := by decide +kernel
theorem dMD_wide_40 : decode cMD_wide 40 = .ok (.iload_n 1, 1) := by decide +kernel
theorem dMD_wide_41 : decode cMD_wide 41 = .ok (.iaload, 1) := by decide +kernel
theorem dMD_wide_42 : decode cMD_wide 42 = .ok (.goto 9, 3) := by decide +kernel
theorem dMD_wide_45 : decode cMD_wide 45 = .ok (.aload_n 0, 1) := by decide +kernel
theorem dMD_wide_46 : decode cMD_wide 46 = .ok (.getfield 59, 3) := by decide +kernel
theorem dMD_wide_49 : decode cMD_wide 49 = .ok (.iload_n 1, 1) := by decide +kernel
theorem dMD_wide_50 : decode cMD_wide 50 = .ok (.iaload, 1) := by decide +kernel
theorem dMD_wide_51 : decode cMD_wide 51 = .ok (.ireturn, 1) := by decide +kernel
theorem dOS_checkIndex_0 : decode cOS_checkIndex 0 = .ok (.iload_n 0, 1) := by decide +kernel
theorem dOS_checkIndex_1 : decode cOS_checkIndex 1 = .ok (.iload_n 1, 1) := by decide +kernel
theorem dOS_checkIndex_2 : decode cOS_checkIndex 2 = .ok (.aconst_null, 1) := by decide +kernel
theorem dOS_checkIndex_3 : decode cOS_checkIndex 3 = .ok (.invokestatic 105, 3) := by decide +kernel
theorem dOS_checkIndex_6 : decode cOS_checkIndex 6 = .ok (.ireturn, 1) := by decide +kernel
theorem dPR_checkIndex_0 : decode cPR_checkIndex 0 = .ok (.iload_n 0, 1) := by decide +kernel
theorem dPR_checkIndex_1 : decode cPR_checkIndex 1 = .ok (.ifCond .lt 8, 3) := by decide +kernel
theorem dPR_checkIndex_4 : decode cPR_checkIndex 4 = .ok (.iload_n 0, 1) := by decide +kernel
theorem dPR_checkIndex_5 : decode cPR_checkIndex 5 = .ok (.iload_n 1, 1) := by decide +kernel
theorem dPR_checkIndex_6 : decode cPR_checkIndex 6 = .ok (.if_icmp .lt 10, 3) := by decide +kernel
theorem dPR_checkIndex_9 : decode cPR_checkIndex 9 = .ok (.aload_n 2, 1) := by decide +kernel
theorem dPR_checkIndex_10 : decode cPR_checkIndex 10 = .ok (.iload_n 0, 1) := by decide +kernel
theorem dPR_checkIndex_11 : decode cPR_checkIndex 11 = .ok (.iload_n 1, 1) := by decide +kernel
theorem dPR_checkIndex_12 : decode cPR_checkIndex 12 = .ok (.invokestatic 95, 3) := by decide +kernel
theorem dPR_checkIndex_15 : decode cPR_checkIndex 15 = .ok (.athrow, 1) := by decide +kernel
theorem dPR_checkIndex_16 : decode cPR_checkIndex 16 = .ok (.iload_n 0, 1) := by decide +kernel
theorem dPR_checkIndex_17 : decode cPR_checkIndex 17 = .ok (.ireturn, 1) := by decide +kernel
theorem dSC_border_0 : decode cSC_border 0 = .ok (.aload_n 0, 1) := by decide +kernel
theorem dSC_border_1 : decode cSC_border 1 = .ok (.getfield 10, 3) := by decide +kernel
theorem dSC_border_4 : decode cSC_border 4 = .ok (.iload_n 1, 1) := by decide +kernel
theorem dSC_border_5 : decode cSC_border 5 = .ok (.invokevirtual 56, 3) := by decide +kernel
theorem dSC_border_8 : decode cSC_border 8 = .ok (.ifCond .eq 22, 3) := by decide +kernel
theorem dSC_border_11 : decode cSC_border 11 = .ok (.iload_n 2, 1) := by decide +kernel
theorem dSC_border_12 : decode cSC_border 12 = .ok (.iconst 0, 1) := by decide +kernel
theorem dSC_border_13 : decode cSC_border 13 = .ok (.bipush 9, 2) := by decide +kernel
theorem dSC_border_15 : decode cSC_border 15 = .ok (.invokestatic 48, 3) := by decide +kernel
theorem dSC_border_18 : decode cSC_border 18 = .ok (.ifCond .eq 12, 3) := by decide +kernel
theorem dSC_border_21 : decode cSC_border 21 = .ok (.iload_n 3, 1) := by decide +kernel
theorem dSC_border_22 : decode cSC_border 22 = .ok (.iconst 0, 1) := by decide +kernel
theorem dSC_border_23 : decode cSC_border 23 = .ok (.iconst 4, 1) := by decide +kernel
theorem dSC_border_24 : decode cSC_border 24 = .ok (.invokestatic 48, 3) := by decide +kernel
theorem dSC_border_27 : decode cSC_border 27 = .ok (.ifCond .ne 5, 3) := by decide +kernel
theorem dSC_border_30 : decode cSC_border 30 = .ok (.iconst 0, 1) := by decide +kernel
theorem dSC_border_31 : decode cSC_border 31 = .ok (.ireturn, 1) := by decide +kernel
theorem dSC_border_32 : decode cSC_border 32 = .ok (.aload_n 0, 1) := by decide +kernel
theorem dSC_border_33 : decode cSC_border 33 = .ok (.getfield 10, 3) := by decide +kernel
theorem dSC_border_36 : decode cSC_border 36 = .ok (.iload_n 1, 1) := by decide +kernel
theorem dSC_border_37 : decode cSC_border 37 = .ok (.invokevirtual 60, 3) := by decide +kernel
theorem dSC_border_40 : decode cSC_border 40 = .ok (.iload_n 2, 1) := by decide +kernel
theorem dSC_border_41 : decode cSC_border 41 = .ok (.iload_n 3, 1) := by decide +kernel
theorem dSC_border_42 : decode cSC_border 42 = .ok (.invokevirtual 64, 3) := by decide +kernel
theorem dSC_border_45 : decode cSC_border 45 = .ok (.iconst 1, 1) := by decide +kernel
theorem dSC_border_46 : decode cSC_border 46 = .ok (.ireturn, 1) := by decide +kernel
theorem dSC_cell_0 : decode cSC_cell 0 = .ok (.iload_n 1, 1) := by decide +kernel
theorem dSC_cell_1 : decode cSC_cell 1 = .ok (.iconst 1, 1) := by decide +kernel
theorem dSC_cell_2 : decode cSC_cell 2 = .ok (.bipush 6, 2) := by decide +kernel
theorem dSC_cell_4 : decode cSC_cell 4 = .ok (.invokestatic 48, 3) := by decide +kernel
theorem dSC_cell_7 : decode cSC_cell 7 = .ok (.ifCond .eq 17, 3) := by decide +kernel
theorem dSC_cell_10 : decode cSC_cell 10 = .ok (.iload_n 2, 1) := by decide +kernel
theorem dSC_cell_11 : decode cSC_cell 11 = .ok (.iconst 0, 1) := by decide +kernel
theorem dSC_cell_12 : decode cSC_cell 12 = .ok (.bipush 6, 2) := by decide +kernel
theorem dSC_cell_14 : decode cSC_cell 14 = .ok (.invokestatic 48, 3) := by decide +kernel
theorem dSC_cell_17 : decode cSC_cell 17 = .ok (.ifCond .eq 7, 3) := by decide +kernel
theorem dSC_cell_20 : decode cSC_cell 20 = .ok (.iconst 1, 1) := by decide +kernel
theorem dSC_cell_21 : decode cSC_cell 21 = .ok (.goto 4, 3) := by decide +kernel
theorem dSC_cell_24 : decode cSC_cell 24 = .ok (.iconst 0, 1) := by decide +kernel
theorem dSC_cell_25 : decode cSC_cell 25 = .ok (.istore 6, 2) := by decide +kernel
theorem dSC_cell_27 : decode cSC_cell 27 = .ok (.iload 4, 2) := by decide +kernel
theorem dSC_cell_29 : decode cSC_cell 29 = .ok (.iconst 0, 1) := by decide +kernel
theorem dSC_cell_30 : decode cSC_cell 30 = .ok (.sipush 1000, 3) := by decide +kernel
theorem dSC_cell_33 : decode cSC_cell 33 = .ok (.invokestatic 48, 3) := by decide +kernel
theorem dSC_cell_36 : decode cSC_cell 36 = .ok (.ifCond .eq 17, 3) := by decide +kernel
theorem dSC_cell_39 : decode cSC_cell 39 = .ok (.iload_n 3, 1) := by decide +kernel
theorem dSC_cell_40 : decode cSC_cell 40 = .ok (.iconst 0, 1) := by decide +kernel
theorem dSC_cell_41 : decode cSC_cell 41 = .ok (.iload 4, 2) := by decide +kernel
theorem dSC_cell_43 : decode cSC_cell 43 = .ok (.invokestatic 48, 3) := by decide +kernel
theorem dSC_cell_46 : decode cSC_cell 46 = .ok (.ifCond .eq 7, 3) := by decide +kernel
theorem dSC_cell_49 : decode cSC_cell 49 = .ok (.iconst 1, 1) := by decide +kernel
theorem dSC_cell_50 : decode cSC_cell 50 = .ok (.goto 4, 3) := by decide +kernel
theorem dSC_cell_53 : decode cSC_cell 53 = .ok (.iconst 0, 1) := by decide +kernel
theorem dSC_cell_54 : decode cSC_cell 54 = .ok (.istore 7, 2) := by decide +kernel
theorem dSC_cell_56 : decode cSC_cell 56 = .ok (.iload 5, 2) := by decide +kernel
theorem dSC_cell_58 : decode cSC_cell 58 = .ok (.iconst 0, 1) := by decide +kernel
theorem dSC_cell_59 : decode cSC_cell 59 = .ok (.sipush 1000, 3) := by decide +kernel
theorem dSC_cell_62 : decode cSC_cell 62 = .ok (.invokestatic 48, 3) := by decide +kernel
theorem dSC_cell_65 : decode cSC_cell 65 = .ok (.istore 8, 2) := by decide +kernel
theorem dSC_cell_67 : decode cSC_cell 67 = .ok (.iload 6, 2) := by decide +kernel
theorem dSC_cell_69 : decode cSC_cell 69 = .ok (.ifCond .eq 13, 3) := by decide +kernel
theorem dSC_cell_72 : decode cSC_cell 72 = .ok (.iload 7, 2) := by decide +kernel
theorem dSC_cell_74 : decode cSC_cell 74 = .ok (.ifCond .eq 8, 3) := by decide +kernel
theorem dSC_cell_77 : decode cSC_cell 77 = .ok (.iload 8, 2) := by decide +kernel
theorem dSC_cell_79 : decode cSC_cell 79 = .ok (.ifCond .ne 5, 3) := by decide +kernel
theorem dSC_cell_82 : decode cSC_cell 82 = .ok (.iconst (-1), 1) := by decide +kernel
theorem dSC_cell_83 : decode cSC_cell 83 = .ok (.ireturn, 1) := by decide +kernel
theorem dSC_cell_84 : decode cSC_cell 84 = .ok (.aload_n 0, 1) := by decide +kernel
theorem dSC_cell_85 : decode cSC_cell 85 = .ok (.getfield 10, 3) := by decide +kernel
theorem dSC_cell_88 : decode cSC_cell 88 = .ok (.iload_n 1, 1) := by decide +kernel
theorem dSC_cell_89 : decode cSC_cell 89 = .ok (.iload_n 2, 1) := by decide +kernel
theorem dSC_cell_90 : decode cSC_cell 90 = .ok (.iload_n 3, 1) := by decide +kernel
theorem dSC_cell_91 : decode cSC_cell 91 = .ok (.iload 4, 2) := by decide +kernel
theorem dSC_cell_93 : decode cSC_cell 93 = .ok (.iload 5, 2) := by decide +kernel
theorem dSC_cell_95 : decode cSC_cell 95 = .ok (.invokevirtual 52, 3) := by decide +kernel
theorem dSC_cell_98 : decode cSC_cell 98 = .ok (.ireturn, 1) := by decide +kernel
theorem dSC_chosenWidths_0 : decode cSC_chosenWidths 0 = .ok (.iconst 0, 1) := by decide +kernel
theorem dSC_chosenWidths_1 : decode cSC_chosenWidths 1 = .ok (.aload_n 0, 1) := by decide +kernel
theorem dSC_chosenWidths_2 : decode cSC_chosenWidths 2 = .ok (.getfield 30, 3) := by decide +kernel
theorem dSC_chosenWidths_5 : decode cSC_chosenWidths 5 = .ok (.aload_n 0, 1) := by decide +kernel
theorem dSC_chosenWidths_6 : decode cSC_chosenWidths 6 = .ok (.getfield 34, 3) := by decide +kernel
theorem dSC_chosenWidths_9 : decode cSC_chosenWidths 9 = .ok (.aload_n 0, 1) := by decide +kernel
theorem dSC_chosenWidths_10 : decode cSC_chosenWidths 10 = .ok (.getfield 10, 3) := by decide +kernel
theorem dSC_chosenWidths_13 : decode cSC_chosenWidths 13 = .ok (.invokevirtual 76, 3) := by decide +kernel
theorem dSC_chosenWidths_16 : decode cSC_chosenWidths 16 = .ok (.iconst 1, 1) := by decide +kernel
theorem dSC_chosenWidths_17 : decode cSC_chosenWidths 17 = .ok (.iadd, 1) := by decide +kernel
theorem dSC_chosenWidths_18 : decode cSC_chosenWidths 18 = .ok (.imul, 1) := by decide +kernel
theorem dSC_chosenWidths_19 : decode cSC_chosenWidths 19 = .ok (.isub, 1) := by decide +kernel
theorem dSC_chosenWidths_20 : decode cSC_chosenWidths 20 = .ok (.invokestatic 156, 3) := by decide +kernel
theorem dSC_chosenWidths_23 : decode cSC_chosenWidths 23 = .ok (.istore_n 1, 1) := by decide +kernel
theorem dSC_chosenWidths_24 : decode cSC_chosenWidths 24 = .ok (.aload_n 0, 1) := by decide +kernel
theorem dSC_chosenWidths_25 : decode cSC_chosenWidths 25 = .ok (.getfield 37, 3) := by decide +kernel
theorem dSC_chosenWidths_28 : decode cSC_chosenWidths 28 = .ok (.ifCond .eq 22, 3) := by decide +kernel
theorem dSC_chosenWidths_31 : decode cSC_chosenWidths 31 = .ok (.aload_n 0, 1) := by decide +kernel
theorem dSC_chosenWidths_32 : decode cSC_chosenWidths 32 = .ok (.getfield 19, 3) := by decide +kernel
theorem dSC_chosenWidths_35 : decode cSC_chosenWidths 35 = .ok (.aload_n 0, 1) := by decide +kernel
theorem dSC_chosenWidths_36 : decode cSC_chosenWidths 36 = .ok (.getfield 10, 3) := by decide +kernel
theorem dSC_chosenWidths_39 : decode cSC_chosenWidths 39 = .ok (.aload_n 0, 1) := by decide +kernel
theorem dSC_chosenWidths_40 : decode cSC_chosenWidths 40 = .ok (.getfield 34, 3) := by decide +kernel
theorem dSC_chosenWidths_43 : decode cSC_chosenWidths 43 = .ok (.iload_n 1, 1) := by decide +kernel
theorem dSC_chosenWidths_44 : decode cSC_chosenWidths 44 = .ok (.invokevirtual 161, 3) := by decide +kernel
theorem dSC_chosenWidths_47 : decode cSC_chosenWidths 47 = .ok (.goto 33, 3) := by decide +kernel
theorem dSC_chosenWidths_50 : decode cSC_chosenWidths 50 = .ok (.aload_n 0, 1) := by decide +kernel
theorem dSC_chosenWidths_51 : decode cSC_chosenWidths 51 = .ok (.getfield 19, 3) := by decide +kernel
theorem dSC_chosenWidths_54 : decode cSC_chosenWidths 54 = .ok (.aload_n 0, 1) := by decide +kernel
theorem dSC_chosenWidths_55 : decode cSC_chosenWidths 55 = .ok (.getfield 10, 3) := by decide +kernel
theorem dSC_chosenWidths_58 : decode cSC_chosenWidths 58 = .ok (.aload_n 0, 1) := by decide +kernel
theorem dSC_chosenWidths_59 : decode cSC_chosenWidths 59 = .ok (.getfield 34, 3) := by decide +kernel
theorem dSC_chosenWidths_62 : decode cSC_chosenWidths 62 = .ok (.invokevirtual 152, 3) := by decide +kernel
theorem dSC_chosenWidths_65 : decode cSC_chosenWidths 65 = .ok (.aload_n 0, 1) := by decide +kernel
theorem dSC_chosenWidths_66 : decode cSC_chosenWidths 66 = .ok (.getfield 19, 3) := by decide +kernel
theorem dSC_chosenWidths_69 : decode cSC_chosenWidths 69 = .ok (.aload_n 0, 1) := by decide +kernel
theorem dSC_chosenWidths_70 : decode cSC_chosenWidths 70 = .ok (.getfield 10, 3) := by decide +kernel
theorem dSC_chosenWidths_73 : decode cSC_chosenWidths 73 = .ok (.invokevirtual 76, 3) := by decide +kernel
theorem dSC_chosenWidths_76 : decode cSC_chosenWidths 76 = .ok (.iload_n 1, 1) := by decide +kernel
theorem dSC_chosenWidths_77 : decode cSC_chosenWidths 77 = .ok (.invokevirtual 165, 3) := by decide +kernel
theorem dSC_chosenWidths_80 : decode cSC_chosenWidths 80 = .ok (.aload_n 0, 1) := by decide +kernel
theorem dSC_chosenWidths_81 : decode cSC_chosenWidths 81 = .ok (.getfield 19, 3) := by decide +kernel
theorem dSC_chosenWidths_84 : decode cSC_chosenWidths 84 = .ok (.getfield 168, 3) := by decide +kernel
theorem dSC_chosenWidths_87 : decode cSC_chosenWidths 87 = .ok (.areturn, 1) := by decide +kernel
theorem dSC_clear_0 : decode cSC_clear 0 = .ok (.aload_n 0, 1) := by decide +kernel
theorem dSC_clear_1 : decode cSC_clear 1 = .ok (.getfield 10, 3) := by decide +kernel
theorem dSC_clear_4 : decode cSC_clear 4 = .ok (.invokevirtual 70, 3) := by decide +kernel
theorem dSC_clear_7 : decode cSC_clear 7 = .ok (.istore_n 1, 1) := by decide +kernel
theorem dSC_clear_8 : decode cSC_clear 8 = .ok (.aload_n 0, 1) := by decide +kernel
theorem dSC_clear_9 : decode cSC_clear 9 = .ok (.getfield 10, 3) := by decide +kernel
theorem dSC_clear_12 : decode cSC_clear 12 = .ok (.invokevirtual 73, 3) := by decide +kernel
theorem dSC_clear_15 : decode cSC_clear 15 = .ok (.iload_n 1, 1) := by decide +kernel
theorem dSC_clear_16 : decode cSC_clear 16 = .ok (.ireturn, 1) := by decide +kernel
theorem dSC_columns_0 : decode cSC_columns 0 = .ok (.aload_n 0, 1) := by decide +kernel
theorem dSC_columns_1 : decode cSC_columns 1 = .ok (.getfield 10, 3) := by decide +kernel
theorem dSC_columns_4 : decode cSC_columns 4 = .ok (.invokevirtual 76, 3) := by decide +kernel
theorem dSC_columns_7 : decode cSC_columns 7 = .ok (.ireturn, 1) := by decide +kernel
theorem dSC_edge_0 : decode cSC_edge 0 = .ok (.aload_n 0, 1) := by decide +kernel
theorem dSC_edge_1 : decode cSC_edge 1 = .ok (.getfield 10, 3) := by decide +kernel
theorem dSC_edge_4 : decode cSC_edge 4 = .ok (.iload_n 1, 1) := by decide +kernel
theorem dSC_edge_5 : decode cSC_edge 5 = .ok (.iload_n 2, 1) := by decide +kernel
theorem dSC_edge_6 : decode cSC_edge 6 = .ok (.invokevirtual 145, 3) := by decide +kernel
theorem dSC_edge_9 : decode cSC_edge 9 = .ok (.ifCond .ne 5, 3) := by decide +kernel
theorem dSC_edge_12 : decode cSC_edge 12 = .ok (.iconst (-1), 1) := by decide +kernel
theorem dSC_edge_13 : decode cSC_edge 13 = .ok (.ireturn, 1) := by decide +kernel
theorem dSC_edge_14 : decode cSC_edge 14 = .ok (.iload_n 3, 1) := by decide +kernel
theorem dSC_edge_15 : decode cSC_edge 15 = .ok (.ifCond .eq 17, 3) := by decide +kernel
theorem dSC_edge_18 : decode cSC_edge 18 = .ok (.aload_n 0, 1) := by decide +kernel
theorem dSC_edge_19 : decode cSC_edge 19 = .ok (.getfield 10, 3) := by decide +kernel
theorem dSC_edge_22 : decode cSC_edge 22 = .ok (.iload_n 1, 1) := by decide +kernel
theorem dSC_edge_23 : decode cSC_edge 23 = .ok (.iload_n 2, 1) := by decide +kernel
theorem dSC_edge_24 : decode cSC_edge 24 = .ok (.iconst 1, 1) := by decide +kernel
theorem dSC_edge_25 : decode cSC_edge 25 = .ok (.iadd, 1) := by decide +kernel
theorem dSC_edge_26 : decode cSC_edge 26 = .ok (.invokevirtual 82, 3) := by decide +kernel
theorem dSC_edge_29 : decode cSC_edge 29 = .ok (.goto 14, 3) := by decide +kernel
theorem dSC_edge_32 : decode cSC_edge 32 = .ok (.aload_n 0, 1) := by decide +kernel
theorem dSC_edge_33 : decode cSC_edge 33 = .ok (.getfield 10, 3) := by decide +kernel
theorem dSC_edge_36 : decode cSC_edge 36 = .ok (.iload_n 1, 1) := by decide +kernel
theorem dSC_edge_37 : decode cSC_edge 37 = .ok (.iconst 1, 1) := by decide +kernel
theorem dSC_edge_38 : decode cSC_edge 38 = .ok (.iadd, 1) := by decide +kernel
theorem dSC_edge_39 : decode cSC_edge 39 = .ok (.iload_n 2, 1) := by decide +kernel
theorem dSC_edge_40 : decode cSC_edge 40 = .ok (.invokevirtual 82, 3) := by decide +kernel
theorem dSC_edge_43 : decode cSC_edge 43 = .ok (.istore 4, 2) := by decide +kernel
theorem dSC_edge_45 : decode cSC_edge 45 = .ok (.aload_n 0, 1) := by decide +kernel
theorem dSC_edge_46 : decode cSC_edge 46 = .ok (.getfield 10, 3) := by decide +kernel
theorem dSC_edge_49 : decode cSC_edge 49 = .ok (.aload_n 0, 1) := by decide +kernel
theorem dSC_edge_50 : decode cSC_edge 50 = .ok (.getfield 10, 3) := by decide +kernel
theorem dSC_edge_53 : decode cSC_edge 53 = .ok (.iload_n 1, 1) := by decide +kernel
theorem dSC_edge_54 : decode cSC_edge 54 = .ok (.iload_n 2, 1) := by decide +kernel
theorem dSC_edge_55 : decode cSC_edge 55 = .ok (.invokevirtual 82, 3) := by decide +kernel
theorem dSC_edge_58 : decode cSC_edge 58 = .ok (.iload 4, 2) := by decide +kernel
theorem dSC_edge_60 : decode cSC_edge 60 = .ok (.invokevirtual 149, 3) := by decide +kernel
theorem dSC_edge_63 : decode cSC_edge 63 = .ok (.ireturn, 1) := by decide +kernel
theorem dSC_empties_0 : decode cSC_empties 0 = .ok (.aload_n 0, 1) := by decide +kernel
theorem dSC_empties_1 : decode cSC_empties 1 = .ok (.getfield 10, 3) := by decide +kernel
theorem dSC_empties_4 : decode cSC_empties 4 = .ok (.invokevirtual 89, 3) := by decide +kernel
theorem dSC_empties_7 : decode cSC_empties 7 = .ok (.bipush 100, 2) := by decide +kernel
theorem dSC_empties_9 : decode cSC_empties 9 = .ok (.aload_n 0, 1) := by decide +kernel
theorem dSC_empties_10 : decode cSC_empties 10 = .ok (.getfield 10, 3) := by decide +kernel
theorem dSC_empties_13 : decode cSC_empties 13 = .ok (.invokevirtual 92, 3) := by decide +kernel
theorem dSC_empties_16 : decode cSC_empties 16 = .ok (.imul, 1) := by decide +kernel
theorem dSC_empties_17 : decode cSC_empties 17 = .ok (.iadd, 1) := by decide +kernel
theorem dSC_empties_18 : decode cSC_empties 18 = .ok (.ireturn, 1) := by decide +kernel
theorem dSC_group_0 : decode cSC_group 0 = .ok (.aload_n 0, 1) := by decide +kernel
theorem dSC_group_1 : decode cSC_group 1 = .ok (.getfield 10, 3) := by decide +kernel
theorem dSC_group_4 : decode cSC_group 4 = .ok (.invokevirtual 41, 3) := by decide +kernel
theorem dSC_group_7 : decode cSC_group 7 = .ok (.ireturn, 1) := by decide +kernel
theorem dSC_high_0 : decode cSC_high 0 = .ok (.iload_n 1, 1) := by decide +kernel
theorem dSC_high_1 : decode cSC_high 1 = .ok (.iconst 0, 1) := by decide +kernel
theorem dSC_high_2 : decode cSC_high 2 = .ok (.aload_n 0, 1) := by decide +kernel
theorem dSC_high_3 : decode cSC_high 3 = .ok (.getfield 10, 3) := by decide +kernel
theorem dSC_high_6 : decode cSC_high 6 = .ok (.invokevirtual 79, 3) := by decide +kernel
theorem dSC_high_9 : decode cSC_high 9 = .ok (.iconst 1, 1) := by decide +kernel
theorem dSC_high_10 : decode cSC_high 10 = .ok (.isub, 1) := by decide +kernel
theorem dSC_high_11 : decode cSC_high 11 = .ok (.invokestatic 48, 3) := by decide +kernel
theorem dSC_high_14 : decode cSC_high 14 = .ok (.ifCond .ne 5, 3) := by decide +kernel
theorem dSC_high_17 : decode cSC_high 17 = .ok (.iconst (-1), 1) := by decide +kernel
theorem dSC_high_18 : decode cSC_high 18 = .ok (.ireturn, 1) := by decide +kernel
theorem dSC_high_19 : decode cSC_high 19 = .ok (.aload_n 0, 1) := by decide +kernel
theorem dSC_high_20 : decode cSC_high 20 = .ok (.invokevirtual 129, 3) := by decide +kernel
theorem dSC_high_23 : decode cSC_high 23 = .ok (.iload_n 1, 1) := by decide +kernel
theorem dSC_high_24 : decode cSC_high 24 = .ok (.invokevirtual 116, 3) := by decide +kernel
theorem dSC_high_27 : decode cSC_high 27 = .ok (.ireturn, 1) := by decide +kernel
theorem dSC_init_0 : decode cSC_init 0 = .ok (.aload_n 0, 1) := by decide +kernel
theorem dSC_init_1 : decode cSC_init 1 = .ok (.invokespecial 1, 3) := by decide +kernel
theorem dSC_init_4 : decode cSC_init 4 = .ok (.aload_n 0, 1) := by decide +kernel
theorem dSC_init_5 : decode cSC_init 5 = .ok (.new 7, 3) := by decide +kernel
theorem dSC_init_8 : decode cSC_init 8 = .ok (.dup, 1) := by decide +kernel
theorem dSC_init_9 : decode cSC_init 9 = .ok (.invokespecial 9, 3) := by decide +kernel
theorem dSC_init_12 : decode cSC_init 12 = .ok (.putfield 10, 3) := by decide +kernel
theorem dSC_init_15 : decode cSC_init 15 = .ok (.aload_n 0, 1) := by decide +kernel
theorem dSC_init_16 : decode cSC_init 16 = .ok (.new 16, 3) := by decide +kernel
theorem dSC_init_19 : decode cSC_init 19 = .ok (.dup, 1) := by decide +kernel
theorem dSC_init_20 : decode cSC_init 20 = .ok (.invokespecial 18, 3) := by decide +kernel
theorem dSC_init_23 : decode cSC_init 23 = .ok (.putfield 19, 3) := by decide +kernel
theorem dSC_init_26 : decode cSC_init 26 = .ok (.aload_n 0, 1) := by decide +kernel
theorem dSC_init_27 : decode cSC_init 27 = .ok (.new 23, 3) := by decide +kernel
theorem dSC_init_30 : decode cSC_init 30 = .ok (.dup, 1) := by decide +kernel
theorem dSC_init_31 : decode cSC_init 31 = .ok (.invokespecial 25, 3) := by decide +kernel
theorem dSC_init_34 : decode cSC_init 34 = .ok (.putfield 26, 3) := by decide +kernel
theorem dSC_init_37 : decode cSC_init 37 = .ok (.aload_n 0, 1) := by decide +kernel
theorem dSC_init_38 : decode cSC_init 38 = .ok (.iconst 0, 1) := by decide +kernel
theorem dSC_init_39 : decode cSC_init 39 = .ok (.putfield 30, 3) := by decide +kernel
theorem dSC_init_42 : decode cSC_init 42 = .ok (.aload_n 0, 1) := by decide +kernel
theorem dSC_init_43 : decode cSC_init 43 = .ok (.iconst 0, 1) := by decide +kernel
theorem dSC_init_44 : decode cSC_init 44 = .ok (.putfield 34, 3) := by decide +kernel
theorem dSC_init_47 : decode cSC_init 47 = .ok (.aload_n 0, 1) := by decide +kernel
theorem dSC_init_48 : decode cSC_init 48 = .ok (.iconst 0, 1) := by decide +kernel
theorem dSC_init_49 : decode cSC_init 49 = .ok (.putfield 37, 3) := by decide +kernel
theorem dSC_init_52 : decode cSC_init 52 = .ok (.return_, 1) := by decide +kernel
theorem dSC_layout_0 : decode cSC_layout 0 = .ok (.iload_n 1, 1) := by decide +kernel
theorem dSC_layout_1 : decode cSC_layout 1 = .ok (.iconst 0, 1) := by decide +kernel
theorem dSC_layout_2 : decode cSC_layout 2 = .ok (.sipush 10000, 3) := by decide +kernel
theorem dSC_layout_5 : decode cSC_layout 5 = .ok (.invokestatic 48, 3) := by decide +kernel
theorem dSC_layout_8 : decode cSC_layout 8 = .ok (.ifCond .eq 13, 3) := by decide +kernel
theorem dSC_layout_11 : decode cSC_layout 11 = .ok (.iload_n 2, 1) := by decide +kernel
theorem dSC_layout_12 : decode cSC_layout 12 = .ok (.iconst 0, 1) := by decide +kernel
theorem dSC_layout_13 : decode cSC_layout 13 = .ok (.bipush 20, 2) := by decide +kernel
theorem dSC_layout_15 : decode cSC_layout 15 = .ok (.invokestatic 48, 3) := by decide +kernel
theorem dSC_layout_18 : decode cSC_layout 18 = .ok (.ifCond .ne 5, 3) := by decide +kernel
theorem dSC_layout_21 : decode cSC_layout 21 = .ok (.iconst 0, 1) := by decide +kernel
theorem dSC_layout_22 : decode cSC_layout 22 = .ok (.ireturn, 1) := by decide +kernel
theorem dSC_layout_23 : decode cSC_layout 23 = .ok (.aload_n 0, 1) := by decide +kernel
theorem dSC_layout_24 : decode cSC_layout 24 = .ok (.iload_n 1, 1) := by decide +kernel
theorem dSC_layout_25 : decode cSC_layout 25 = .ok (.putfield 30, 3) := by decide +kernel
theorem dSC_layout_28 : decode cSC_layout 28 = .ok (.aload_n 0, 1) := by decide +kernel
theorem dSC_layout_29 : decode cSC_layout 29 = .ok (.iload_n 2, 1) := by decide +kernel
theorem dSC_layout_30 : decode cSC_layout 30 = .ok (.putfield 34, 3) := by decide +kernel
theorem dSC_layout_33 : decode cSC_layout 33 = .ok (.aload_n 0, 1) := by decide +kernel
theorem dSC_layout_34 : decode cSC_layout 34 = .ok (.iload_n 3, 1) := by decide +kernel
theorem dSC_layout_35 : decode cSC_layout 35 = .ok (.putfield 37, 3) := by decide +kernel
theorem dSC_layout_38 : decode cSC_layout 38 = .ok (.iconst 1, 1) := by decide +kernel
theorem dSC_layout_39 : decode cSC_layout 39 = .ok (.ireturn, 1) := by decide +kernel
theorem dSC_measuredHeights_0 : decode cSC_measuredHeights 0 = .ok (.aload_n 0, 1) := by decide +kernel
theorem dSC_measuredHeights_1 : decode cSC_measuredHeights 1 = .ok (.getfield 26, 3) := by decide +kernel
theorem dSC_measuredHeights_4 : decode cSC_measuredHeights 4 = .ok (.aload_n 0, 1) := by decide +kernel
theorem dSC_measuredHeights_5 : decode cSC_measuredHeights 5 = .ok (.getfield 10, 3) := by decide +kernel
theorem dSC_measuredHeights_8 : decode cSC_measuredHeights 8 = .ok (.aload_n 0, 1) := by decide +kernel
theorem dSC_measuredHeights_9 : decode cSC_measuredHeights 9 = .ok (.getfield 34, 3) := by decide +kernel
theorem dSC_measuredHeights_12 : decode cSC_measuredHeights 12 = .ok (.invokevirtual 171, 3) := by decide +kernel
theorem dSC_measuredHeights_15 : decode cSC_measuredHeights 15 = .ok (.aload_n 0, 1) := by decide +kernel
theorem dSC_measuredHeights_16 : decode cSC_measuredHeights 16 = .ok (.getfield 26, 3) := by decide +kernel
theorem dSC_measuredHeights_19 : decode cSC_measuredHeights 19 = .ok (.getfield 172, 3) := by decide +kernel
theorem dSC_measuredHeights_22 : decode cSC_measuredHeights 22 = .ok (.areturn, 1) := by decide +kernel
theorem dSC_measuredWidths_0 : decode cSC_measuredWidths 0 = .ok (.aload_n 0, 1) := by decide +kernel
