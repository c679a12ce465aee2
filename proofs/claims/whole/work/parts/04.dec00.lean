theorem dX0_init_0 : decode cX0_init 0 = .ok (.aload_n 0, 1) := by decide +kernel
theorem dX0_init_1 : decode cX0_init 1 = .ok (.invokespecial 1, 3) := by decide +kernel
theorem dX0_init_4 : decode cX0_init 4 = .ok (.aload_n 0, 1) := by decide +kernel
theorem dX0_init_5 : decode cX0_init 5 = .ok (.iload_n 1, 1) := by decide +kernel
theorem dX0_init_6 : decode cX0_init 6 = .ok (.putfield 7, 3) := by decide +kernel
theorem dX0_init_9 : decode cX0_init 9 = .ok (.aload_n 0, 1) := by decide +kernel
theorem dX0_init_10 : decode cX0_init 10 = .ok (.iload_n 2, 1) := by decide +kernel
theorem dX0_init_11 : decode cX0_init 11 = .ok (.putfield 13, 3) := by decide +kernel
theorem dX0_init_14 : decode cX0_init 14 = .ok (.return_, 1) := by decide +kernel
theorem dX1_init_0 : decode cX1_init 0 = .ok (.aload_n 0, 1) := by decide +kernel
theorem dX1_init_1 : decode cX1_init 1 = .ok (.invokespecial 3, 3) := by decide +kernel
theorem dX1_init_4 : decode cX1_init 4 = .ok (.aload_n 0, 1) := by decide +kernel
theorem dX1_init_5 : decode cX1_init 5 = .ok (.aconst_null, 1) := by decide +kernel
theorem dX1_init_6 : decode cX1_init 6 = .ok (.putfield 9, 3) := by decide +kernel
theorem dX1_init_9 : decode cX1_init 9 = .ok (.aload_n 0, 1) := by decide +kernel
theorem dX1_init_10 : decode cX1_init 10 = .ok (.iconst (-1), 1) := by decide +kernel
theorem dX1_init_11 : decode cX1_init 11 = .ok (.putfield 15, 3) := by decide +kernel
theorem dX1_init_14 : decode cX1_init 14 = .ok (.aload_n 0, 1) := by decide +kernel
theorem dX1_init_15 : decode cX1_init 15 = .ok (.iconst 0, 1) := by decide +kernel
theorem dX1_init_16 : decode cX1_init 16 = .ok (.putfield 19, 3) := by decide +kernel
theorem dX1_init_19 : decode cX1_init 19 = .ok (.aload_n 0, 1) := by decide +kernel
theorem dX1_init_20 : decode cX1_init 20 = .ok (.aload_n 1, 1) := by decide +kernel
theorem dX1_init_21 : decode cX1_init 21 = .ok (.putfield 22, 3) := by decide +kernel
theorem dX1_init_24 : decode cX1_init 24 = .ok (.aload_n 0, 1) := by decide +kernel
theorem dX1_init_25 : decode cX1_init 25 = .ok (.aload_n 2, 1) := by decide +kernel
theorem dX1_init_26 : decode cX1_init 26 = .ok (.getfield 26, 3) := by decide +kernel
theorem dX1_init_29 : decode cX1_init 29 = .ok (.aload_n 2, 1) := by decide +kernel
theorem dX1_init_30 : decode cX1_init 30 = .ok (.getfield 32, 3) := by decide +kernel
theorem dX1_init_33 : decode cX1_init 33 = .ok (.invokestatic 35, 3) := by decide +kernel
theorem dX1_init_36 : decode cX1_init 36 = .ok (.putfield 39, 3) := by decide +kernel
theorem dX1_init_39 : decode cX1_init 39 = .ok (.aload_n 0, 1) := by decide +kernel
theorem dX1_init_40 : decode cX1_init 40 = .ok (.aload_n 2, 1) := by decide +kernel
theorem dX1_init_41 : decode cX1_init 41 = .ok (.getfield 40, 3) := by decide +kernel
theorem dX1_init_44 : decode cX1_init 44 = .ok (.aload_n 2, 1) := by decide +kernel
theorem dX1_init_45 : decode cX1_init 45 = .ok (.getfield 32, 3) := by decide +kernel
theorem dX1_init_48 : decode cX1_init 48 = .ok (.invokestatic 35, 3) := by decide +kernel
theorem dX1_init_51 : decode cX1_init 51 = .ok (.putfield 43, 3) := by decide +kernel
theorem dX1_init_54 : decode cX1_init 54 = .ok (.aload_n 0, 1) := by decide +kernel
theorem dX1_init_55 : decode cX1_init 55 = .ok (.aload_n 2, 1) := by decide +kernel
theorem dX1_init_56 : decode cX1_init 56 = .ok (.getfield 44, 3) := by decide +kernel
theorem dX1_init_59 : decode cX1_init 59 = .ok (.aload_n 2, 1) := by decide +kernel
theorem dX1_init_60 : decode cX1_init 60 = .ok (.getfield 32, 3) := by decide +kernel
theorem dX1_init_63 : decode cX1_init 63 = .ok (.invokestatic 35, 3) := by decide +kernel
theorem dX1_init_66 : decode cX1_init 66 = .ok (.putfield 47, 3) := by decide +kernel
theorem dX1_init_69 : decode cX1_init 69 = .ok (.aload_n 0, 1) := by decide +kernel
theorem dX1_init_70 : decode cX1_init 70 = .ok (.aload_n 2, 1) := by decide +kernel
theorem dX1_init_71 : decode cX1_init 71 = .ok (.getfield 48, 3) := by decide +kernel
theorem dX1_init_74 : decode cX1_init 74 = .ok (.putfield 51, 3) := by decide +kernel
theorem dX1_init_77 : decode cX1_init 77 = .ok (.return_, 1) := by decide +kernel
theorem dX1_firstOf_0 : decode cX1_firstOf 0 = .ok (.aload_n 0, 1) := by decide +kernel
theorem dX1_firstOf_1 : decode cX1_firstOf 1 = .ok (.iconst 0, 1) := by decide +kernel
theorem dX1_firstOf_2 : decode cX1_firstOf 2 = .ok (.iload_n 1, 1) := by decide +kernel
theorem dX1_firstOf_3 : decode cX1_firstOf 3 = .ok (.aload_n 0, 1) := by decide +kernel
theorem dX1_firstOf_4 : decode cX1_firstOf 4 = .ok (.arraylength, 1) := by decide +kernel
theorem dX1_firstOf_5 : decode cX1_firstOf 5 = .ok (.invokestatic 52, 3) := by decide +kernel
theorem dX1_firstOf_8 : decode cX1_firstOf 8 = .ok (.invokestatic 58, 3) := by decide +kernel
theorem dX1_firstOf_11 : decode cX1_firstOf 11 = .ok (.invokestatic 61, 3) := by decide +kernel
theorem dX1_firstOf_14 : decode cX1_firstOf 14 = .ok (.areturn, 1) := by decide +kernel
theorem dX1_hasRange_0 : decode cX1_hasRange 0 = .ok (.iload_n 1, 1) := by decide +kernel
theorem dX1_hasRange_1 : decode cX1_hasRange 1 = .ok (.ifCond .lt 21, 3) := by decide +kernel
theorem dX1_hasRange_4 : decode cX1_hasRange 4 = .ok (.iload_n 1, 1) := by decide +kernel
theorem dX1_hasRange_5 : decode cX1_hasRange 5 = .ok (.iload_n 2, 1) := by decide +kernel
theorem dX1_hasRange_6 : decode cX1_hasRange 6 = .ok (.if_icmp .gt 16, 3) := by decide +kernel
theorem dX1_hasRange_9 : decode cX1_hasRange 9 = .ok (.iload_n 2, 1) := by decide +kernel
theorem dX1_hasRange_10 : decode cX1_hasRange 10 = .ok (.aload_n 0, 1) := by decide +kernel
theorem dX1_hasRange_11 : decode cX1_hasRange 11 = .ok (.getfield 39, 3) := by decide +kernel
theorem dX1_hasRange_14 : decode cX1_hasRange 14 = .ok (.arraylength, 1) := by decide +kernel
theorem dX1_hasRange_15 : decode cX1_hasRange 15 = .ok (.if_icmp .gt 7, 3) := by decide +kernel
theorem dX1_hasRange_18 : decode cX1_hasRange 18 = .ok (.iconst 1, 1) := by decide +kernel
theorem dX1_hasRange_19 : decode cX1_hasRange 19 = .ok (.goto 4, 3) := by decide +kernel
theorem dX1_hasRange_22 : decode cX1_hasRange 22 = .ok (.iconst 0, 1) := by decide +kernel
theorem dX1_hasRange_23 : decode cX1_hasRange 23 = .ok (.ireturn, 1) := by decide +kernel
theorem dX1_seenAt_0 : decode cX1_seenAt 0 = .ok (.iload_n 2, 1) := by decide +kernel
theorem dX1_seenAt_1 : decode cX1_seenAt 1 = .ok (.iconst (-1), 1) := by decide +kernel
theorem dX1_seenAt_2 : decode cX1_seenAt 2 = .ok (.if_icmp .eq 34, 3) := by decide +kernel
theorem dX1_seenAt_5 : decode cX1_seenAt 5 = .ok (.iload_n 1, 1) := by decide +kernel
theorem dX1_seenAt_6 : decode cX1_seenAt 6 = .ok (.ifCond .lt 30, 3) := by decide +kernel
theorem dX1_seenAt_9 : decode cX1_seenAt 9 = .ok (.iload_n 1, 1) := by decide +kernel
theorem dX1_seenAt_10 : decode cX1_seenAt 10 = .ok (.aload_n 0, 1) := by decide +kernel
theorem dX1_seenAt_11 : decode cX1_seenAt 11 = .ok (.getfield 39, 3) := by decide +kernel
theorem dX1_seenAt_14 : decode cX1_seenAt 14 = .ok (.arraylength, 1) := by decide +kernel
theorem dX1_seenAt_15 : decode cX1_seenAt 15 = .ok (.if_icmp .ge 21, 3) := by decide +kernel
theorem dX1_seenAt_18 : decode cX1_seenAt 18 = .ok (.iload_n 1, 1) := by decide +kernel
theorem dX1_seenAt_19 : decode cX1_seenAt 19 = .ok (.aload_n 0, 1) := by decide +kernel
theorem dX1_seenAt_20 : decode cX1_seenAt 20 = .ok (.getfield 43, 3) := by decide +kernel
theorem dX1_seenAt_23 : decode cX1_seenAt 23 = .ok (.arraylength, 1) := by decide +kernel
theorem dX1_seenAt_24 : decode cX1_seenAt 24 = .ok (.if_icmp .ge 12, 3) := by decide +kernel
theorem dX1_seenAt_27 : decode cX1_seenAt 27 = .ok (.iload_n 1, 1) := by decide +kernel
theorem dX1_seenAt_28 : decode cX1_seenAt 28 = .ok (.aload_n 0, 1) := by decide +kernel
theorem dX1_seenAt_29 : decode cX1_seenAt 29 = .ok (.getfield 47, 3) := by decide +kernel
theorem dX1_seenAt_32 : decode cX1_seenAt 32 = .ok (.arraylength, 1) := by decide +kernel
theorem dX1_seenAt_33 : decode cX1_seenAt 33 = .ok (.if_icmp .lt 5, 3) := by decide +kernel
theorem dX1_seenAt_36 : decode cX1_seenAt 36 = .ok (.iconst 0, 1) := by decide +kernel
theorem dX1_seenAt_37 : decode cX1_seenAt 37 = .ok (.ireturn, 1) := by decide +kernel
theorem dX1_seenAt_38 : decode cX1_seenAt 38 = .ok (.aload_n 0, 1) := by decide +kernel
theorem dX1_seenAt_39 : decode cX1_seenAt 39 = .ok (.getfield 39, 3) := by decide +kernel
theorem dX1_seenAt_42 : decode cX1_seenAt 42 = .ok (.iload_n 1, 1) := by decide +kernel
theorem dX1_seenAt_43 : decode cX1_seenAt 43 = .ok (.baload, 1) := by decide +kernel
theorem dX1_seenAt_44 : decode cX1_seenAt 44 = .ok (.bipush 10, 2) := by decide +kernel
theorem dX1_seenAt_46 : decode cX1_seenAt 46 = .ok (.if_icmp .ne 6, 3) := by decide +kernel
theorem dX1_seenAt_49 : decode cX1_seenAt 49 = .ok (.bipush 10, 2) := by decide +kernel
theorem dX1_seenAt_51 : decode cX1_seenAt 51 = .ok (.ireturn, 1) := by decide +kernel
theorem dX1_seenAt_52 : decode cX1_seenAt 52 = .ok (.aload_n 0, 1) := by decide +kernel
theorem dX1_seenAt_53 : decode cX1_seenAt 53 = .ok (.getfield 43, 3) := by decide +kernel
theorem dX1_seenAt_56 : decode cX1_seenAt 56 = .ok (.iload_n 1, 1) := by decide +kernel
theorem dX1_seenAt_57 : decode cX1_seenAt 57 = .ok (.baload, 1) := by decide +kernel
theorem dX1_seenAt_58 : decode cX1_seenAt 58 = .ok (.iload_n 2, 1) := by decide +kernel
theorem dX1_seenAt_59 : decode cX1_seenAt 59 = .ok (.if_icmp .le 6, 3) := by decide +kernel
theorem dX1_seenAt_62 : decode cX1_seenAt 62 = .ok (.bipush 35, 2) := by decide +kernel
theorem dX1_seenAt_64 : decode cX1_seenAt 64 = .ok (.ireturn, 1) := by decide +kernel
theorem dX1_seenAt_65 : decode cX1_seenAt 65 = .ok (.iload_n 2, 1) := by decide +kernel
theorem dX1_seenAt_66 : decode cX1_seenAt 66 = .ok (.ifCond .ne 18, 3) := by decide +kernel
theorem dX1_seenAt_69 : decode cX1_seenAt 69 = .ok (.aload_n 0, 1) := by decide +kernel
theorem dX1_seenAt_70 : decode cX1_seenAt 70 = .ok (.getfield 47, 3) := by decide +kernel
theorem dX1_seenAt_73 : decode cX1_seenAt 73 = .ok (.iload_n 1, 1) := by decide +kernel
theorem dX1_seenAt_74 : decode cX1_seenAt 74 = .ok (.baload, 1) := by decide +kernel
theorem dX1_seenAt_75 : decode cX1_seenAt 75 = .ok (.iconst 1, 1) := by decide +kernel
theorem dX1_seenAt_76 : decode cX1_seenAt 76 = .ok (.if_icmp .ne 8, 3) := by decide +kernel
theorem dX1_seenAt_79 : decode cX1_seenAt 79 = .ok (.bipush 42, 2) := by decide +kernel
theorem dX1_seenAt_81 : decode cX1_seenAt 81 = .ok (.goto 9, 3) := by decide +kernel
theorem dX1_seenAt_84 : decode cX1_seenAt 84 = .ok (.aload_n 0, 1) := by decide +kernel
theorem dX1_seenAt_85 : decode cX1_seenAt 85 = .ok (.getfield 39, 3) := by decide +kernel
theorem dX1_seenAt_88 : decode cX1_seenAt 88 = .ok (.iload_n 1, 1) := by decide +kernel
theorem dX1_seenAt_89 : decode cX1_seenAt 89 = .ok (.baload, 1) := by decide +kernel
theorem dX1_seenAt_90 : decode cX1_seenAt 90 = .ok (.ireturn, 1) := by decide +kernel
theorem dX1_countHidden_0 : decode cX1_countHidden 0 = .ok (.iconst 0, 1) := by decide +kernel
theorem dX1_countHidden_1 : decode cX1_countHidden 1 = .ok (.istore 4, 2) := by decide +kernel
theorem dX1_countHidden_3 : decode cX1_countHidden 3 = .ok (.iconst 0, 1) := by decide +kernel
theorem dX1_countHidden_4 : decode cX1_countHidden 4 = .ok (.iload_n 1, 1) := by decide +kernel
theorem dX1_countHidden_5 : decode cX1_countHidden 5 = .ok (.invokestatic 58, 3) := by decide +kernel
theorem dX1_countHidden_8 : decode cX1_countHidden 8 = .ok (.istore 5, 2) := by decide +kernel
theorem dX1_countHidden_10 : decode cX1_countHidden 10 = .ok (.iload 5, 2) := by decide +kernel
theorem dX1_countHidden_12 : decode cX1_countHidden 12 = .ok (.iload_n 2, 1) := by decide +kernel
theorem dX1_countHidden_13 : decode cX1_countHidden 13 = .ok (.if_icmp .ge 39, 3) := by decide +kernel
theorem dX1_countHidden_16 : decode cX1_countHidden 16 = .ok (.iload 5, 2) := by decide +kernel
theorem dX1_countHidden_18 : decode cX1_countHidden 18 = .ok (.aload_n 0, 1) := by decide +kernel
theorem dX1_countHidden_19 : decode cX1_countHidden 19 = .ok (.getfield 39, 3) := by decide +kernel
theorem dX1_countHidden_22 : decode cX1_countHidden 22 = .ok (.arraylength, 1) := by decide +kernel
theorem dX1_countHidden_23 : decode cX1_countHidden 23 = .ok (.if_icmp .ge 29, 3) := by decide +kernel
theorem dX1_countHidden_26 : decode cX1_countHidden 26 = .ok (.aload_n 0, 1) := by decide +kernel
theorem dX1_countHidden_27 : decode cX1_countHidden 27 = .ok (.iload 5, 2) := by decide +kernel
theorem dX1_countHidden_29 : decode cX1_countHidden 29 = .ok (.iload_n 3, 1) := by decide +kernel
theorem dX1_countHidden_30 : decode cX1_countHidden 30 = .ok (.invokevirtual 66, 3) := by decide +kernel
theorem dX1_countHidden_33 : decode cX1_countHidden 33 = .ok (.aload_n 0, 1) := by decide +kernel
theorem dX1_countHidden_34 : decode cX1_countHidden 34 = .ok (.getfield 39, 3) := by decide +kernel
theorem dX1_countHidden_37 : decode cX1_countHidden 37 = .ok (.iload 5, 2) := by decide +kernel
theorem dX1_countHidden_39 : decode cX1_countHidden 39 = .ok (.baload, 1) := by decide +kernel
theorem dX1_countHidden_40 : decode cX1_countHidden 40 = .ok (.if_icmp .eq 6, 3) := by decide +kernel
theorem dX1_countHidden_43 : decode cX1_countHidden 43 = .ok (.iinc 4 1, 3) := by decide +kernel
theorem dX1_countHidden_46 : decode cX1_countHidden 46 = .ok (.iinc 5 1, 3) := by decide +kernel
theorem dX1_countHidden_49 : decode cX1_countHidden 49 = .ok (.goto (-39), 3) := by decide +kernel
theorem dX1_countHidden_52 : decode cX1_countHidden 52 = .ok (.iload 4, 2) := by decide +kernel
theorem dX1_countHidden_54 : decode cX1_countHidden 54 = .ok (.ireturn, 1) := by decide +kernel
theorem dX1_setLevels_0 : decode cX1_setLevels 0 = .ok (.iconst 0, 1) := by decide +kernel
theorem dX1_setLevels_1 : decode cX1_setLevels 1 = .ok (.istore 4, 2) := by decide +kernel
theorem dX1_setLevels_3 : decode cX1_setLevels 3 = .ok (.iconst 0, 1) := by decide +kernel
theorem dX1_setLevels_4 : decode cX1_setLevels 4 = .ok (.iload_n 1, 1) := by decide +kernel
theorem dX1_setLevels_5 : decode cX1_setLevels 5 = .ok (.invokestatic 58, 3) := by decide +kernel
theorem dX1_setLevels_8 : decode cX1_setLevels 8 = .ok (.istore 5, 2) := by decide +kernel
theorem dX1_setLevels_10 : decode cX1_setLevels 10 = .ok (.iload 5, 2) := by decide +kernel
theorem dX1_setLevels_12 : decode cX1_setLevels 12 = .ok (.iload_n 2, 1) := by decide +kernel
theorem dX1_setLevels_13 : decode cX1_setLevels 13 = .ok (.if_icmp .ge 42, 3) := by decide +kernel
theorem dX1_setLevels_16 : decode cX1_setLevels 16 = .ok (.iload 5, 2) := by decide +kernel
theorem dX1_setLevels_18 : decode cX1_setLevels 18 = .ok (.aload_n 0, 1) := by decide +kernel
theorem dX1_setLevels_19 : decode cX1_setLevels 19 = .ok (.getfield 43, 3) := by decide +kernel
theorem dX1_setLevels_22 : decode cX1_setLevels 22 = .ok (.arraylength, 1) := by decide +kernel
theorem dX1_setLevels_23 : decode cX1_setLevels 23 = .ok (.if_icmp .ge 32, 3) := by decide +kernel
theorem dX1_setLevels_26 : decode cX1_setLevels 26 = .ok (.aload_n 0, 1) := by decide +kernel
theorem dX1_setLevels_27 : decode cX1_setLevels 27 = .ok (.getfield 43, 3) := by decide +kernel
theorem dX1_setLevels_30 : decode cX1_setLevels 30 = .ok (.iload 5, 2) := by decide +kernel
theorem dX1_setLevels_32 : decode cX1_setLevels 32 = .ok (.baload, 1) := by decide +kernel
theorem dX1_setLevels_33 : decode cX1_setLevels 33 = .ok (.iload_n 3, 1) := by decide +kernel
theorem dX1_setLevels_34 : decode cX1_setLevels 34 = .ok (.if_icmp .eq 15, 3) := by decide +kernel
theorem dX1_setLevels_37 : decode cX1_setLevels 37 = .ok (.aload_n 0, 1) := by decide +kernel
theorem dX1_setLevels_38 : decode cX1_setLevels 38 = .ok (.getfield 43, 3) := by decide +kernel
theorem dX1_setLevels_41 : decode cX1_setLevels 41 = .ok (.iload 5, 2) := by decide +kernel
theorem dX1_setLevels_43 : decode cX1_setLevels 43 = .ok (.iload_n 3, 1) := by decide +kernel
theorem dX1_setLevels_44 : decode cX1_setLevels 44 = .ok (.i2b, 1) := by decide +kernel
theorem dX1_setLevels_45 : decode cX1_setLevels 45 = .ok (.bastore, 1) := by decide +kernel
theorem dX1_setLevels_46 : decode cX1_setLevels 46 = .ok (.iinc 4 1, 3) := by decide +kernel
theorem dX1_setLevels_49 : decode cX1_setLevels 49 = .ok (.iinc 5 1, 3) := by decide +kernel
theorem dX1_setLevels_52 : decode cX1_setLevels 52 = .ok (.goto (-42), 3) := by decide +kernel
theorem dX1_setLevels_55 : decode cX1_setLevels 55 = .ok (.iload 4, 2) := by decide +kernel
theorem dX1_setLevels_57 : decode cX1_setLevels 57 = .ok (.ireturn, 1) := by decide +kernel
theorem dX1_countVeiled_0 : decode cX1_countVeiled 0 = .ok (.iconst 0, 1) := by decide +kernel
theorem dX1_countVeiled_1 : decode cX1_countVeiled 1 = .ok (.istore_n 1, 1) := by decide +kernel
theorem dX1_countVeiled_2 : decode cX1_countVeiled 2 = .ok (.iconst 0, 1) := by decide +kernel
theorem dX1_countVeiled_3 : decode cX1_countVeiled 3 = .ok (.istore_n 2, 1) := by decide +kernel
theorem dX1_countVeiled_4 : decode cX1_countVeiled 4 = .ok (.iload_n 2, 1) := by decide +kernel
theorem dX1_countVeiled_5 : decode cX1_countVeiled 5 = .ok (.aload_n 0, 1) := by decide +kernel
theorem dX1_countVeiled_6 : decode cX1_countVeiled 6 = .ok (.getfield 43, 3) := by decide +kernel
theorem dX1_countVeiled_9 : decode cX1_countVeiled 9 = .ok (.arraylength, 1) := by decide +kernel
theorem dX1_countVeiled_10 : decode cX1_countVeiled 10 = .ok (.if_icmp .ge 21, 3) := by decide +kernel
theorem dX1_countVeiled_13 : decode cX1_countVeiled 13 = .ok (.aload_n 0, 1) := by decide +kernel
theorem dX1_countVeiled_14 : decode cX1_countVeiled 14 = .ok (.getfield 43, 3) := by decide +kernel
theorem dX1_countVeiled_17 : decode cX1_countVeiled 17 = .ok (.iload_n 2, 1) := by decide +kernel
theorem dX1_countVeiled_18 : decode cX1_countVeiled 18 = .ok (.baload, 1) := by decide +kernel
theorem dX1_countVeiled_19 : decode cX1_countVeiled 19 = .ok (.ifCond .le 6, 3) := by decide +kernel
theorem dX1_countVeiled_22 : decode cX1_countVeiled 22 = .ok (.iinc 1 1, 3) := by decide +kernel
theorem dX1_countVeiled_25 : decode cX1_countVeiled 25 = .ok (.iinc 2 1, 3) := by decide +kernel
theorem dX1_countVeiled_28 : decode cX1_countVeiled 28 = .ok (.goto (-24), 3) := by decide +kernel
theorem dX1_countVeiled_31 : decode cX1_countVeiled 31 = .ok (.iload_n 1, 1) := by decide +kernel
theorem dX1_countVeiled_32 : decode cX1_countVeiled 32 = .ok (.ireturn, 1) := by decide +kernel
theorem dX1_greatestLevel_0 : decode cX1_greatestLevel 0 = .ok (.iconst 0, 1) := by decide +kernel
theorem dX1_greatestLevel_1 : decode cX1_greatestLevel 1 = .ok (.istore_n 1, 1) := by decide +kernel
theorem dX1_greatestLevel_2 : decode cX1_greatestLevel 2 = .ok (.iconst 0, 1) := by decide +kernel
theorem dX1_greatestLevel_3 : decode cX1_greatestLevel 3 = .ok (.istore_n 2, 1) := by decide +kernel
theorem dX1_greatestLevel_4 : decode cX1_greatestLevel 4 = .ok (.iload_n 2, 1) := by decide +kernel
theorem dX1_greatestLevel_5 : decode cX1_greatestLevel 5 = .ok (.aload_n 0, 1) := by decide +kernel
theorem dX1_greatestLevel_6 : decode cX1_greatestLevel 6 = .ok (.getfield 43, 3) := by decide +kernel
theorem dX1_greatestLevel_9 : decode cX1_greatestLevel 9 = .ok (.arraylength, 1) := by decide +kernel
theorem dX1_greatestLevel_10 : decode cX1_greatestLevel 10 = .ok (.if_icmp .ge 20, 3) := by decide +kernel
theorem dX1_greatestLevel_13 : decode cX1_greatestLevel 13 = .ok (.iload_n 1, 1) := by decide +kernel
theorem dX1_greatestLevel_14 : decode cX1_greatestLevel 14 = .ok (.aload_n 0, 1) := by decide +kernel
theorem dX1_greatestLevel_15 : decode cX1_greatestLevel 15 = .ok (.getfield 43, 3) := by decide +kernel
theorem dX1_greatestLevel_18 : decode cX1_greatestLevel 18 = .ok (.iload_n 2, 1) := by decide +kernel
theorem dX1_greatestLevel_19 : decode cX1_greatestLevel 19 = .ok (.baload, 1) := by decide +kernel
theorem dX1_greatestLevel_20 : decode cX1_greatestLevel 20 = .ok (.invokestatic 58, 3) := by decide +kernel
theorem dX1_greatestLevel_23 : decode cX1_greatestLevel 23 = .ok (.istore_n 1, 1) := by decide +kernel
theorem dX1_greatestLevel_24 : decode cX1_greatestLevel 24 = .ok (.iinc 2 1, 3) := by decide +kernel
theorem dX1_greatestLevel_27 : decode cX1_greatestLevel 27 = .ok (.goto (-23), 3) := by decide +kernel
theorem dX1_greatestLevel_30 : decode cX1_greatestLevel 30 = .ok (.iload_n 1, 1) := by decide +kernel
theorem dX1_greatestLevel_31 : decode cX1_greatestLevel 31 = .ok (.ireturn, 1) := by decide +kernel
theorem dX1_countMarked_0 : decode cX1_countMarked 0 = .ok (.iconst 0, 1) := by decide +kernel
theorem dX1_countMarked_1 : decode cX1_countMarked 1 = .ok (.istore_n 1, 1) := by decide +kernel
theorem dX1_countMarked_2 : decode cX1_countMarked 2 = .ok (.iconst 0, 1) := by decide +kernel
theorem dX1_countMarked_3 : decode cX1_countMarked 3 = .ok (.istore_n 2, 1) := by decide +kernel
theorem dX1_countMarked_4 : decode cX1_countMarked 4 = .ok (.iload_n 2, 1) := by decide +kernel
theorem dX1_countMarked_5 : decode cX1_countMarked 5 = .ok (.aload_n 0, 1) := by decide +kernel
theorem dX1_countMarked_6 : decode cX1_countMarked 6 = .ok (.getfield 47, 3) := by decide +kernel
theorem dX1_countMarked_9 : decode cX1_countMarked 9 = .ok (.arraylength, 1) := by decide +kernel
theorem dX1_countMarked_10 : decode cX1_countMarked 10 = .ok (.if_icmp .ge 18, 3) := by decide +kernel
theorem dX1_countMarked_13 : decode cX1_countMarked 13 = .ok (.iload_n 1, 1) := by decide +kernel
theorem dX1_countMarked_14 : decode cX1_countMarked 14 = .ok (.aload_n 0, 1) := by decide +kernel
theorem dX1_countMarked_15 : decode cX1_countMarked 15 = .ok (.getfield 47, 3) := by decide +kernel
theorem dX1_countMarked_18 : decode cX1_countMarked 18 = .ok (.iload_n 2, 1) := by decide +kernel
theorem dX1_countMarked_19 : decode cX1_countMarked 19 = .ok (.baload, 1) := by decide +kernel
theorem dX1_countMarked_20 : decode cX1_countMarked 20 = .ok (.iadd, 1) := by decide +kernel
theorem dX1_countMarked_21 : decode cX1_countMarked 21 = .ok (.istore_n 1, 1) := by decide +kernel
theorem dX1_countMarked_22 : decode cX1_countMarked 22 = .ok (.iinc 2 1, 3) := by decide +kernel
theorem dX1_countMarked_25 : decode cX1_countMarked 25 = .ok (.goto (-21), 3) := by decide +kernel
theorem dX1_countMarked_28 : decode cX1_countMarked 28 = .ok (.iload_n 1, 1) := by decide +kernel
theorem dX1_countMarked_29 : decode cX1_countMarked 29 = .ok (.ireturn, 1) := by decide +kernel
theorem dX1_writeLog_0 : decode cX1_writeLog 0 = .ok (.aload_n 0, 1) := by decide +kernel
theorem dX1_writeLog_1 : decode cX1_writeLog 1 = .ok (.dup, 1) := by decide +kernel
theorem dX1_writeLog_2 : decode cX1_writeLog 2 = .ok (.getfield 19, 3) := by decide +kernel
theorem dX1_writeLog_5 : decode cX1_writeLog 5 = .ok (.iconst 1, 1) := by decide +kernel
theorem dX1_writeLog_6 : decode cX1_writeLog 6 = .ok (.aload_n 1, 1) := by decide +kernel
theorem dX1_writeLog_7 : decode cX1_writeLog 7 = .ok (.getfield 69, 3) := by decide +kernel
theorem dX1_writeLog_10 : decode cX1_writeLog 10 = .ok (.ishl, 1) := by decide +kernel
theorem dX1_writeLog_11 : decode cX1_writeLog 11 = .ok (.ior, 1) := by decide +kernel
theorem dX1_writeLog_12 : decode cX1_writeLog 12 = .ok (.putfield 19, 3) := by decide +kernel
theorem dX1_writeLog_15 : decode cX1_writeLog 15 = .ok (.return_, 1) := by decide +kernel
theorem dX1_bringBack_0 : decode cX1_bringBack 0 = .ok (.aload_n 0, 1) := by decide +kernel
theorem dX1_bringBack_1 : decode cX1_bringBack 1 = .ok (.aconst_null, 1) := by decide +kernel
theorem dX1_bringBack_2 : decode cX1_bringBack 2 = .ok (.putfield 9, 3) := by decide +kernel
theorem dX1_bringBack_5 : decode cX1_bringBack 5 = .ok (.aload_n 0, 1) := by decide +kernel
theorem dX1_bringBack_6 : decode cX1_bringBack 6 = .ok (.iconst (-1), 1) := by decide +kernel
theorem dX1_bringBack_7 : decode cX1_bringBack 7 = .ok (.putfield 15, 3) := by decide +kernel
theorem dX1_bringBack_10 : decode cX1_bringBack 10 = .ok (.return_, 1) := by decide +kernel
theorem dX2_init_0 : decode cX2_init 0 = .ok (.aload_n 0, 1) := by decide +kernel
theorem dX2_init_1 : decode cX2_init 1 = .ok (.invokespecial 3, 3) := by decide +kernel
theorem dX2_init_4 : decode cX2_init 4 = .ok (.aload_n 0, 1) := by decide +kernel
theorem dX2_init_5 : decode cX2_init 5 = .ok (.sipush 2500, 3) := by decide +kernel
theorem dX2_init_8 : decode cX2_init 8 = .ok (.newarray .byte, 2) := by decide +kernel
theorem dX2_init_10 : decode cX2_init 10 = .ok (.putfield 9, 3) := by decide +kernel
theorem dX2_init_13 : decode cX2_init 13 = .ok (.aload_n 0, 1) := by decide +kernel
theorem dX2_init_14 : decode cX2_init 14 = .ok (.sipush 2500, 3) := by decide +kernel
theorem dX2_init_17 : decode cX2_init 17 = .ok (.newarray .byte, 2) := by decide +kernel
theorem dX2_init_19 : decode cX2_init 19 = .ok (.putfield 15, 3) := by decide +kernel
theorem dX2_init_22 : decode cX2_init 22 = .ok (.aload_n 0, 1) := by decide +kernel
theorem dX2_init_23 : decode cX2_init 23 = .ok (.sipush 2500, 3) := by decide +kernel
theorem dX2_init_26 : decode cX2_init 26 = .ok (.newarray .byte, 2) := by decide +kernel
theorem dX2_init_28 : decode cX2_init 28 = .ok (.putfield 18, 3) := by decide +kernel
theorem dX2_init_31 : decode cX2_init 31 = .ok (.aload_n 0, 1) := by decide +kernel
theorem dX2_init_32 : decode cX2_init 32 = .ok (.bipush 6, 2) := by decide +kernel
theorem dX2_init_34 : decode cX2_init 34 = .ok (.newarray .int, 2) := by decide +kernel
theorem dX2_init_36 : decode cX2_init 36 = .ok (.putfield 21, 3) := by decide +kernel
theorem dX2_init_39 : decode cX2_init 39 = .ok (.return_, 1) := by decide +kernel
theorem dX2_take_0 : decode cX2_take 0 = .ok (.aload_n 0, 1) := by decide +kernel
theorem dX2_take_1 : decode cX2_take 1 = .ok (.iload_n 3, 1) := by decide +kernel
theorem dX2_take_2 : decode cX2_take 2 = .ok (.invokevirtual 25, 3) := by decide +kernel
theorem dX2_take_5 : decode cX2_take 5 = .ok (.iconst 0, 1) := by decide +kernel
theorem dX2_take_6 : decode cX2_take 6 = .ok (.istore 4, 2) := by decide +kernel
theorem dX2_take_8 : decode cX2_take 8 = .ok (.iload 4, 2) := by decide +kernel
theorem dX2_take_10 : decode cX2_take 10 = .ok (.iload_n 2, 1) := by decide +kernel
theorem dX2_take_11 : decode cX2_take 11 = .ok (.if_icmp .ge 37, 3) := by decide +kernel
theorem dX2_take_14 : decode cX2_take 14 = .ok (.iload 4, 2) := by decide +kernel
theorem dX2_take_16 : decode cX2_take 16 = .ok (.aload_n 1, 1) := by decide +kernel
theorem dX2_take_17 : decode cX2_take 17 = .ok (.arraylength, 1) := by decide +kernel
theorem dX2_take_18 : decode cX2_take 18 = .ok (.if_icmp .ge 30, 3) := by decide +kernel
theorem dX2_take_21 : decode cX2_take 21 = .ok (.aload_n 0, 1) := by decide +kernel
theorem dX2_take_22 : decode cX2_take 22 = .ok (.aload_n 1, 1) := by decide +kernel
theorem dX2_take_23 : decode cX2_take 23 = .ok (.iload 4, 2) := by decide +kernel
theorem dX2_take_25 : decode cX2_take 25 = .ok (.iaload, 1) := by decide +kernel
theorem dX2_take_26 : decode cX2_take 26 = .ok (.iload 4, 2) := by decide +kernel
theorem dX2_take_28 : decode cX2_take 28 = .ok (.invokevirtual 29, 3) := by decide +kernel
theorem dX2_take_31 : decode cX2_take 31 = .ok (.ifCond .ne 11, 3) := by decide +kernel
theorem dX2_take_34 : decode cX2_take 34 = .ok (.aload_n 0, 1) := by decide +kernel
theorem dX2_take_35 : decode cX2_take 35 = .ok (.iload 4, 2) := by decide +kernel
theorem dX2_take_37 : decode cX2_take 37 = .ok (.putfield 33, 3) := by decide +kernel
theorem dX2_take_40 : decode cX2_take 40 = .ok (.iconst 1, 1) := by decide +kernel
theorem dX2_take_41 : decode cX2_take 41 = .ok (.ireturn, 1) := by decide +kernel
theorem dX2_take_42 : decode cX2_take 42 = .ok (.iinc 4 1, 3) := by decide +kernel
theorem dX2_take_45 : decode cX2_take 45 = .ok (.goto (-37), 3) := by decide +kernel
theorem dX2_take_48 : decode cX2_take 48 = .ok (.aload_n 0, 1) := by decide +kernel
theorem dX2_take_49 : decode cX2_take 49 = .ok (.invokevirtual 37, 3) := by decide +kernel
theorem dX2_take_52 : decode cX2_take 52 = .ok (.ifCond .ne 10, 3) := by decide +kernel
theorem dX2_take_55 : decode cX2_take 55 = .ok (.aload_n 0, 1) := by decide +kernel
theorem dX2_take_56 : decode cX2_take 56 = .ok (.iload_n 2, 1) := by decide +kernel
theorem dX2_take_57 : decode cX2_take 57 = .ok (.putfield 33, 3) := by decide +kernel
theorem dX2_take_60 : decode cX2_take 60 = .ok (.iconst 1, 1) := by decide +kernel
theorem dX2_take_61 : decode cX2_take 61 = .ok (.ireturn, 1) := by decide +kernel
theorem dX2_take_62 : decode cX2_take 62 = .ok (.aload_n 0, 1) := by decide +kernel
theorem dX2_take_63 : decode cX2_take 63 = .ok (.getfield 41, 3) := by decide +kernel
theorem dX2_take_66 : decode cX2_take 66 = .ok (.iconst 4, 1) := by decide +kernel
theorem dX2_take_67 : decode cX2_take 67 = .ok (.if_icmp .ne 7, 3) := by decide +kernel
theorem dX2_take_70 : decode cX2_take 70 = .ok (.aload_n 0, 1) := by decide +kernel
theorem dX2_take_71 : decode cX2_take 71 = .ok (.invokevirtual 44, 3) := by decide +kernel
theorem dX2_take_74 : decode cX2_take 74 = .ok (.aload_n 0, 1) := by decide +kernel
theorem dX2_take_75 : decode cX2_take 75 = .ok (.aload_n 0, 1) := by decide +kernel
theorem dX2_take_76 : decode cX2_take 76 = .ok (.getfield 47, 3) := by decide +kernel
theorem dX2_take_79 : decode cX2_take 79 = .ok (.putfield 33, 3) := by decide +kernel
theorem dX2_take_82 : decode cX2_take 82 = .ok (.aload_n 0, 1) := by decide +kernel
theorem dX2_take_83 : decode cX2_take 83 = .ok (.getfield 47, 3) := by decide +kernel
theorem dX2_take_86 : decode cX2_take 86 = .ok (.ifCond .lt 7, 3) := by decide +kernel
theorem dX2_take_89 : decode cX2_take 89 = .ok (.iconst 2, 1) := by decide +kernel
theorem dX2_take_90 : decode cX2_take 90 = .ok (.goto 4, 3) := by decide +kernel
theorem dX2_take_93 : decode cX2_take 93 = .ok (.iconst 0, 1) := by decide +kernel
theorem dX2_take_94 : decode cX2_take 94 = .ok (.ireturn, 1) := by decide +kernel
theorem dX2_start_0 : decode cX2_start 0 = .ok (.aload_n 0, 1) := by decide +kernel
theorem dX2_start_1 : decode cX2_start 1 = .ok (.iconst 0, 1) := by decide +kernel
theorem dX2_start_2 : decode cX2_start 2 = .ok (.putfield 50, 3) := by decide +kernel
theorem dX2_start_5 : decode cX2_start 5 = .ok (.aload_n 0, 1) := by decide +kernel
theorem dX2_start_6 : decode cX2_start 6 = .ok (.iconst 0, 1) := by decide +kernel
theorem dX2_start_7 : decode cX2_start 7 = .ok (.putfield 53, 3) := by decide +kernel
theorem dX2_start_10 : decode cX2_start 10 = .ok (.aload_n 0, 1) := by decide +kernel
theorem dX2_start_11 : decode cX2_start 11 = .ok (.iconst 0, 1) := by decide +kernel
theorem dX2_start_12 : decode cX2_start 12 = .ok (.putfield 56, 3) := by decide +kernel
theorem dX2_start_15 : decode cX2_start 15 = .ok (.aload_n 0, 1) := by decide +kernel
theorem dX2_start_16 : decode cX2_start 16 = .ok (.iconst 0, 1) := by decide +kernel
theorem dX2_start_17 : decode cX2_start 17 = .ok (.putfield 41, 3) := by decide +kernel
theorem dX2_start_20 : decode cX2_start 20 = .ok (.aload_n 0, 1) := by decide +kernel
theorem dX2_start_21 : decode cX2_start 21 = .ok (.iload_n 1, 1) := by decide +kernel
theorem dX2_start_22 : decode cX2_start 22 = .ok (.putfield 59, 3) := by decide +kernel
theorem dX2_start_25 : decode cX2_start 25 = .ok (.aload_n 0, 1) := by decide +kernel
theorem dX2_start_26 : decode cX2_start 26 = .ok (.iconst (-1), 1) := by decide +kernel
theorem dX2_start_27 : decode cX2_start 27 = .ok (.putfield 47, 3) := by decide +kernel
theorem dX2_start_30 : decode cX2_start 30 = .ok (.return_, 1) := by decide +kernel
theorem dX2_isWhole_0 : decode cX2_isWhole 0 = .ok (.aload_n 0, 1) := by decide +kernel
theorem dX2_isWhole_1 : decode cX2_isWhole 1 = .ok (.getfield 56, 3) := by decide +kernel
theorem dX2_isWhole_4 : decode cX2_isWhole 4 = .ok (.ifCond .ne 29, 3) := by decide +kernel
theorem dX2_isWhole_7 : decode cX2_isWhole 7 = .ok (.aload_n 0, 1) := by decide +kernel
theorem dX2_isWhole_8 : decode cX2_isWhole 8 = .ok (.getfield 41, 3) := by decide +kernel
theorem dX2_isWhole_11 : decode cX2_isWhole 11 = .ok (.ifCond .eq 18, 3) := by decide +kernel
theorem dX2_isWhole_14 : decode cX2_isWhole 14 = .ok (.aload_n 0, 1) := by decide +kernel
theorem dX2_isWhole_15 : decode cX2_isWhole 15 = .ok (.getfield 41, 3) := by decide +kernel
theorem dX2_isWhole_18 : decode cX2_isWhole 18 = .ok (.iconst 4, 1) := by decide +kernel
theorem dX2_isWhole_19 : decode cX2_isWhole 19 = .ok (.if_icmp .ne 14, 3) := by decide +kernel
theorem dX2_isWhole_22 : decode cX2_isWhole 22 = .ok (.aload_n 0, 1) := by decide +kernel
theorem dX2_isWhole_23 : decode cX2_isWhole 23 = .ok (.getfield 62, 3) := by decide +kernel
theorem dX2_isWhole_26 : decode cX2_isWhole 26 = .ok (.ifCond .le 7, 3) := by decide +kernel
theorem dX2_isWhole_29 : decode cX2_isWhole 29 = .ok (.iconst 1, 1) := by decide +kernel
theorem dX2_isWhole_30 : decode cX2_isWhole 30 = .ok (.goto 4, 3) := by decide +kernel
theorem dX2_isWhole_33 : decode cX2_isWhole 33 = .ok (.iconst 0, 1) := by decide +kernel
theorem dX2_isWhole_34 : decode cX2_isWhole 34 = .ok (.ireturn, 1) := by decide +kernel
theorem dX2_takeByte_0 : decode cX2_takeByte 0 = .ok (.aload_n 0, 1) := by decide +kernel
theorem dX2_takeByte_1 : decode cX2_takeByte 1 = .ok (.getfield 41, 3) := by decide +kernel
theorem dX2_takeByte_4 : decode cX2_takeByte 4 = .ok (.tableswitch 57 1 4 #[32, 38, 44, 50], 32) := by decide +kernel
theorem dX2_takeByte_36 : decode cX2_takeByte 36 = .ok (.aload_n 0, 1) := by decide +kernel
theorem dX2_takeByte_37 : decode cX2_takeByte 37 = .ok (.iload_n 1, 1) := by decide +kernel
theorem dX2_takeByte_38 : decode cX2_takeByte 38 = .ok (.invokevirtual 65, 3) := by decide +kernel
theorem dX2_takeByte_41 : decode cX2_takeByte 41 = .ok (.ireturn, 1) := by decide +kernel
theorem dX2_takeByte_42 : decode cX2_takeByte 42 = .ok (.aload_n 0, 1) := by decide +kernel
theorem dX2_takeByte_43 : decode cX2_takeByte 43 = .ok (.iload_n 1, 1) := by decide +kernel
theorem dX2_takeByte_44 : decode cX2_takeByte 44 = .ok (.invokevirtual 69, 3) := by decide +kernel
theorem dX2_takeByte_47 : decode cX2_takeByte 47 = .ok (.ireturn, 1) := by decide +kernel
theorem dX2_takeByte_48 : decode cX2_takeByte 48 = .ok (.aload_n 0, 1) := by decide +kernel
theorem dX2_takeByte_49 : decode cX2_takeByte 49 = .ok (.iload_n 1, 1) := by decide +kernel
theorem dX2_takeByte_50 : decode cX2_takeByte 50 = .ok (.invokevirtual 72, 3) := by decide +kernel
theorem dX2_takeByte_53 : decode cX2_takeByte 53 = .ok (.ireturn, 1) := by decide +kernel
theorem dX2_takeByte_54 : decode cX2_takeByte 54 = .ok (.aload_n 0, 1) := by decide +kernel
theorem dX2_takeByte_55 : decode cX2_takeByte 55 = .ok (.iload_n 1, 1) := by decide +kernel
theorem dX2_takeByte_56 : decode cX2_takeByte 56 = .ok (.iload_n 2, 1) := by decide +kernel
theorem dX2_takeByte_57 : decode cX2_takeByte 57 = .ok (.invokevirtual 75, 3) := by decide +kernel
theorem dX2_takeByte_60 : decode cX2_takeByte 60 = .ok (.ireturn, 1) := by decide +kernel
theorem dX2_takeByte_61 : decode cX2_takeByte 61 = .ok (.aload_n 0, 1) := by decide +kernel
theorem dX2_takeByte_62 : decode cX2_takeByte 62 = .ok (.iload_n 1, 1) := by decide +kernel
theorem dX2_takeByte_63 : decode cX2_takeByte 63 = .ok (.iload_n 2, 1) := by decide +kernel
theorem dX2_takeByte_64 : decode cX2_takeByte 64 = .ok (.invokevirtual 78, 3) := by decide +kernel
theorem dX2_takeByte_67 : decode cX2_takeByte 67 = .ok (.ireturn, 1) := by decide +kernel
theorem dX2_takeBodyByte_0 : decode cX2_takeBodyByte 0 = .ok (.iload_n 1, 1) := by decide +kernel
theorem dX2_takeBodyByte_1 : decode cX2_takeBodyByte 1 = .ok (.lookupswitch 129 #[(64, 107), (91, 51), (93, 70), (123, 93), (125, 105)], 51) := by decide +kernel
theorem dX2_takeBodyByte_52 : decode cX2_takeBodyByte 52 = .ok (.aload_n 0, 1) := by decide +kernel
theorem dX2_takeBodyByte_53 : decode cX2_takeBodyByte 53 = .ok (.iconst 1, 1) := by decide +kernel
theorem dX2_takeBodyByte_54 : decode cX2_takeBodyByte 54 = .ok (.putfield 41, 3) := by decide +kernel
theorem dX2_takeBodyByte_57 : decode cX2_takeBodyByte 57 = .ok (.aload_n 0, 1) := by decide +kernel
theorem dX2_takeBodyByte_58 : decode cX2_takeBodyByte 58 = .ok (.getfield 56, 3) := by decide +kernel
theorem dX2_takeBodyByte_61 : decode cX2_takeBodyByte 61 = .ok (.iconst 5, 1) := by decide +kernel
theorem dX2_takeBodyByte_62 : decode cX2_takeBodyByte 62 = .ok (.if_icmp .ge 7, 3) := by decide +kernel
theorem dX2_takeBodyByte_65 : decode cX2_takeBodyByte 65 = .ok (.iconst 1, 1) := by decide +kernel
theorem dX2_takeBodyByte_66 : decode cX2_takeBodyByte 66 = .ok (.goto 4, 3) := by decide +kernel
theorem dX2_takeBodyByte_69 : decode cX2_takeBodyByte 69 = .ok (.iconst 0, 1) := by decide +kernel
theorem dX2_takeBodyByte_70 : decode cX2_takeBodyByte 70 = .ok (.ireturn, 1) := by decide +kernel
theorem dX2_takeBodyByte_71 : decode cX2_takeBodyByte 71 = .ok (.aload_n 0, 1) := by decide +kernel
theorem dX2_takeBodyByte_72 : decode cX2_takeBodyByte 72 = .ok (.dup, 1) := by decide +kernel
theorem dX2_takeBodyByte_73 : decode cX2_takeBodyByte 73 = .ok (.getfield 56, 3) := by decide +kernel
theorem dX2_takeBodyByte_76 : decode cX2_takeBodyByte 76 = .ok (.iconst 1, 1) := by decide +kernel
theorem dX2_takeBodyByte_77 : decode cX2_takeBodyByte 77 = .ok (.isub, 1) := by decide +kernel
theorem dX2_takeBodyByte_78 : decode cX2_takeBodyByte 78 = .ok (.putfield 56, 3) := by decide +kernel
theorem dX2_takeBodyByte_81 : decode cX2_takeBodyByte 81 = .ok (.aload_n 0, 1) := by decide +kernel
theorem dX2_takeBodyByte_82 : decode cX2_takeBodyByte 82 = .ok (.getfield 56, 3) := by decide +kernel
theorem dX2_takeBodyByte_85 : decode cX2_takeBodyByte 85 = .ok (.ifCond .lt 7, 3) := by decide +kernel
theorem dX2_takeBodyByte_88 : decode cX2_takeBodyByte 88 = .ok (.iconst 1, 1) := by decide +kernel
theorem dX2_takeBodyByte_89 : decode cX2_takeBodyByte 89 = .ok (.goto 4, 3) := by decide +kernel
theorem dX2_takeBodyByte_92 : decode cX2_takeBodyByte 92 = .ok (.iconst 0, 1) := by decide +kernel
theorem dX2_takeBodyByte_93 : decode cX2_takeBodyByte 93 = .ok (.ireturn, 1) := by decide +kernel
theorem dX2_takeBodyByte_94 : decode cX2_takeBodyByte 94 = .ok (.aload_n 0, 1) := by decide +kernel
theorem dX2_takeBodyByte_95 : decode cX2_takeBodyByte 95 = .ok (.iconst 3, 1) := by decide +kernel
theorem dX2_takeBodyByte_96 : decode cX2_takeBodyByte 96 = .ok (.putfield 41, 3) := by decide +kernel
theorem dX2_takeBodyByte_99 : decode cX2_takeBodyByte 99 = .ok (.aload_n 0, 1) := by decide +kernel
theorem dX2_takeBodyByte_100 : decode cX2_takeBodyByte 100 = .ok (.iconst 0, 1) := by decide +kernel
theorem dX2_takeBodyByte_101 : decode cX2_takeBodyByte 101 = .ok (.putfield 62, 3) := by decide +kernel
theorem dX2_takeBodyByte_104 : decode cX2_takeBodyByte 104 = .ok (.iconst 1, 1) := by decide +kernel
theorem dX2_takeBodyByte_105 : decode cX2_takeBodyByte 105 = .ok (.ireturn, 1) := by decide +kernel
theorem dX2_takeBodyByte_106 : decode cX2_takeBodyByte 106 = .ok (.iconst 0, 1) := by decide +kernel
theorem dX2_takeBodyByte_107 : decode cX2_takeBodyByte 107 = .ok (.ireturn, 1) := by decide +kernel
theorem dX2_takeBodyByte_108 : decode cX2_takeBodyByte 108 = .ok (.aload_n 0, 1) := by decide +kernel
theorem dX2_takeBodyByte_109 : decode cX2_takeBodyByte 109 = .ok (.iconst 4, 1) := by decide +kernel
theorem dX2_takeBodyByte_110 : decode cX2_takeBodyByte 110 = .ok (.putfield 41, 3) := by decide +kernel
theorem dX2_takeBodyByte_113 : decode cX2_takeBodyByte 113 = .ok (.aload_n 0, 1) := by decide +kernel
theorem dX2_takeBodyByte_114 : decode cX2_takeBodyByte 114 = .ok (.iconst 0, 1) := by decide +kernel
theorem dX2_takeBodyByte_115 : decode cX2_takeBodyByte 115 = .ok (.putfield 62, 3) := by decide +kernel
theorem dX2_takeBodyByte_118 : decode cX2_takeBodyByte 118 = .ok (.aload_n 0, 1) := by decide +kernel
theorem dX2_takeBodyByte_119 : decode cX2_takeBodyByte 119 = .ok (.iconst 0, 1) := by decide +kernel
theorem dX2_takeBodyByte_120 : decode cX2_takeBodyByte 120 = .ok (.putfield 81, 3) := by decide +kernel
theorem dX2_takeBodyByte_123 : decode cX2_takeBodyByte 123 = .ok (.aload_n 0, 1) := by decide +kernel
theorem dX2_takeBodyByte_124 : decode cX2_takeBodyByte 124 = .ok (.iload_n 2, 1) := by decide +kernel
theorem dX2_takeBodyByte_125 : decode cX2_takeBodyByte 125 = .ok (.putfield 84, 3) := by decide +kernel
theorem dX2_takeBodyByte_128 : decode cX2_takeBodyByte 128 = .ok (.iconst 1, 1) := by decide +kernel
theorem dX2_takeBodyByte_129 : decode cX2_takeBodyByte 129 = .ok (.ireturn, 1) := by decide +kernel
theorem dX2_takeBodyByte_130 : decode cX2_takeBodyByte 130 = .ok (.aload_n 0, 1) := by decide +kernel
theorem dX2_takeBodyByte_131 : decode cX2_takeBodyByte 131 = .ok (.iload_n 1, 1) := by decide +kernel
theorem dX2_takeBodyByte_132 : decode cX2_takeBodyByte 132 = .ok (.invokevirtual 87, 3) := by decide +kernel
theorem dX2_takeBodyByte_135 : decode cX2_takeBodyByte 135 = .ok (.ireturn, 1) := by decide +kernel
theorem dX2_takePlain_0 : decode cX2_takePlain 0 = .ok (.iload_n 1, 1) := by decide +kernel
theorem dX2_takePlain_1 : decode cX2_takePlain 1 = .ok (.bipush 10, 2) := by decide +kernel
theorem dX2_takePlain_3 : decode cX2_takePlain 3 = .ok (.if_icmp .eq 17, 3) := by decide +kernel
theorem dX2_takePlain_6 : decode cX2_takePlain 6 = .ok (.iload_n 1, 1) := by decide +kernel
theorem dX2_takePlain_7 : decode cX2_takePlain 7 = .ok (.bipush 32, 2) := by decide +kernel
theorem dX2_takePlain_9 : decode cX2_takePlain 9 = .ok (.if_icmp .lt 9, 3) := by decide +kernel
theorem dX2_takePlain_12 : decode cX2_takePlain 12 = .ok (.iload_n 1, 1) := by decide +kernel
theorem dX2_takePlain_13 : decode cX2_takePlain 13 = .ok (.bipush 126, 2) := by decide +kernel
theorem dX2_takePlain_15 : decode cX2_takePlain 15 = .ok (.if_icmp .le 5, 3) := by decide +kernel
theorem dX2_takePlain_18 : decode cX2_takePlain 18 = .ok (.iconst 0, 1) := by decide +kernel
theorem dX2_takePlain_19 : decode cX2_takePlain 19 = .ok (.ireturn, 1) := by decide +kernel
theorem dX2_takePlain_20 : decode cX2_takePlain 20 = .ok (.aload_n 0, 1) := by decide +kernel
theorem dX2_takePlain_21 : decode cX2_takePlain 21 = .ok (.iload_n 1, 1) := by decide +kernel
theorem dX2_takePlain_22 : decode cX2_takePlain 22 = .ok (.iconst 0, 1) := by decide +kernel
theorem dX2_takePlain_23 : decode cX2_takePlain 23 = .ok (.invokevirtual 90, 3) := by decide +kernel
theorem dX2_takePlain_26 : decode cX2_takePlain 26 = .ok (.iconst 1, 1) := by decide +kernel
theorem dX2_takePlain_27 : decode cX2_takePlain 27 = .ok (.ireturn, 1) := by decide +kernel
theorem dX2_takeLevel_0 : decode cX2_takeLevel 0 = .ok (.iload_n 1, 1) := by decide +kernel
theorem dX2_takeLevel_1 : decode cX2_takeLevel 1 = .ok (.bipush 49, 2) := by decide +kernel
theorem dX2_takeLevel_3 : decode cX2_takeLevel 3 = .ok (.if_icmp .lt 30, 3) := by decide +kernel
theorem dX2_takeLevel_6 : decode cX2_takeLevel 6 = .ok (.iload_n 1, 1) := by decide +kernel
theorem dX2_takeLevel_7 : decode cX2_takeLevel 7 = .ok (.bipush 57, 2) := by decide +kernel
theorem dX2_takeLevel_9 : decode cX2_takeLevel 9 = .ok (.if_icmp .gt 24, 3) := by decide +kernel
theorem dX2_takeLevel_12 : decode cX2_takeLevel 12 = .ok (.aload_n 0, 1) := by decide +kernel
theorem dX2_takeLevel_13 : decode cX2_takeLevel 13 = .ok (.getfield 56, 3) := by decide +kernel
theorem dX2_takeLevel_16 : decode cX2_takeLevel 16 = .ok (.ifCond .lt 17, 3) := by decide +kernel
theorem dX2_takeLevel_19 : decode cX2_takeLevel 19 = .ok (.aload_n 0, 1) := by decide +kernel
theorem dX2_takeLevel_20 : decode cX2_takeLevel 20 = .ok (.getfield 56, 3) := by decide +kernel
theorem dX2_takeLevel_23 : decode cX2_takeLevel 23 = .ok (.iconst 1, 1) := by decide +kernel
theorem dX2_takeLevel_24 : decode cX2_takeLevel 24 = .ok (.iadd, 1) := by decide +kernel
theorem dX2_takeLevel_25 : decode cX2_takeLevel 25 = .ok (.aload_n 0, 1) := by decide +kernel
theorem dX2_takeLevel_26 : decode cX2_takeLevel 26 = .ok (.getfield 21, 3) := by decide +kernel
theorem dX2_takeLevel_29 : decode cX2_takeLevel 29 = .ok (.arraylength, 1) := by decide +kernel
theorem dX2_takeLevel_30 : decode cX2_takeLevel 30 = .ok (.if_icmp .lt 5, 3) := by decide +kernel
theorem dX2_takeLevel_33 : decode cX2_takeLevel 33 = .ok (.iconst 0, 1) := by decide +kernel
theorem dX2_takeLevel_34 : decode cX2_takeLevel 34 = .ok (.ireturn, 1) := by decide +kernel
theorem dX2_takeLevel_35 : decode cX2_takeLevel 35 = .ok (.aload_n 0, 1) := by decide +kernel
theorem dX2_takeLevel_36 : decode cX2_takeLevel 36 = .ok (.getfield 21, 3) := by decide +kernel
theorem dX2_takeLevel_39 : decode cX2_takeLevel 39 = .ok (.aload_n 0, 1) := by decide +kernel
theorem dX2_takeLevel_40 : decode cX2_takeLevel 40 = .ok (.getfield 56, 3) := by decide +kernel
theorem dX2_takeLevel_43 : decode cX2_takeLevel 43 = .ok (.iconst 1, 1) := by decide +kernel
theorem dX2_takeLevel_44 : decode cX2_takeLevel 44 = .ok (.iadd, 1) := by decide +kernel
theorem dX2_takeLevel_45 : decode cX2_takeLevel 45 = .ok (.aload_n 0, 1) := by decide +kernel
theorem dX2_takeLevel_46 : decode cX2_takeLevel 46 = .ok (.getfield 21, 3) := by decide +kernel
theorem dX2_takeLevel_49 : decode cX2_takeLevel 49 = .ok (.aload_n 0, 1) := by decide +kernel
theorem dX2_takeLevel_50 : decode cX2_takeLevel 50 = .ok (.getfield 56, 3) := by decide +kernel
theorem dX2_takeLevel_53 : decode cX2_takeLevel 53 = .ok (.iaload, 1) := by decide +kernel
theorem dX2_takeLevel_54 : decode cX2_takeLevel 54 = .ok (.iload_n 1, 1) := by decide +kernel
theorem dX2_takeLevel_55 : decode cX2_takeLevel 55 = .ok (.bipush 48, 2) := by decide +kernel
theorem dX2_takeLevel_57 : decode cX2_takeLevel 57 = .ok (.isub, 1) := by decide +kernel
theorem dX2_takeLevel_58 : decode cX2_takeLevel 58 = .ok (.invokestatic 94, 3) := by decide +kernel
theorem dX2_takeLevel_61 : decode cX2_takeLevel 61 = .ok (.iastore, 1) := by decide +kernel
theorem dX2_takeLevel_62 : decode cX2_takeLevel 62 = .ok (.aload_n 0, 1) := by decide +kernel
theorem dX2_takeLevel_63 : decode cX2_takeLevel 63 = .ok (.dup, 1) := by decide +kernel
theorem dX2_takeLevel_64 : decode cX2_takeLevel 64 = .ok (.getfield 56, 3) := by decide +kernel
theorem dX2_takeLevel_67 : decode cX2_takeLevel 67 = .ok (.iconst 1, 1) := by decide +kernel
theorem dX2_takeLevel_68 : decode cX2_takeLevel 68 = .ok (.iadd, 1) := by decide +kernel
theorem dX2_takeLevel_69 : decode cX2_takeLevel 69 = .ok (.putfield 56, 3) := by decide +kernel
theorem dX2_takeLevel_72 : decode cX2_takeLevel 72 = .ok (.aload_n 0, 1) := by decide +kernel
theorem dX2_takeLevel_73 : decode cX2_takeLevel 73 = .ok (.iconst 2, 1) := by decide +kernel
theorem dX2_takeLevel_74 : decode cX2_takeLevel 74 = .ok (.putfield 41, 3) := by decide +kernel
theorem dX2_takeLevel_77 : decode cX2_takeLevel 77 = .ok (.iconst 1, 1) := by decide +kernel
theorem dX2_takeLevel_78 : decode cX2_takeLevel 78 = .ok (.ireturn, 1) := by decide +kernel
theorem dX2_takeColon_0 : decode cX2_takeColon 0 = .ok (.aload_n 0, 1) := by decide +kernel
theorem dX2_takeColon_1 : decode cX2_takeColon 1 = .ok (.iconst 0, 1) := by decide +kernel
theorem dX2_takeColon_2 : decode cX2_takeColon 2 = .ok (.putfield 41, 3) := by decide +kernel
theorem dX2_takeColon_5 : decode cX2_takeColon 5 = .ok (.iload_n 1, 1) := by decide +kernel
theorem dX2_takeColon_6 : decode cX2_takeColon 6 = .ok (.bipush 58, 2) := by decide +kernel
theorem dX2_takeColon_8 : decode cX2_takeColon 8 = .ok (.if_icmp .ne 7, 3) := by decide +kernel
theorem dX2_takeColon_11 : decode cX2_takeColon 11 = .ok (.iconst 1, 1) := by decide +kernel
theorem dX2_takeColon_12 : decode cX2_takeColon 12 = .ok (.goto 4, 3) := by decide +kernel
theorem dX2_takeColon_15 : decode cX2_takeColon 15 = .ok (.iconst 0, 1) := by decide +kernel
theorem dX2_takeColon_16 : decode cX2_takeColon 16 = .ok (.ireturn, 1) := by decide +kernel
theorem dX2_takeNameByte_0 : decode cX2_takeNameByte 0 = .ok (.iload_n 1, 1) := by decide +kernel
theorem dX2_takeNameByte_1 : decode cX2_takeNameByte 1 = .ok (.bipush 125, 2) := by decide +kernel
theorem dX2_takeNameByte_3 : decode cX2_takeNameByte 3 = .ok (.if_icmp .ne 21, 3) := by decide +kernel
theorem dX2_takeNameByte_6 : decode cX2_takeNameByte 6 = .ok (.aload_n 0, 1) := by decide +kernel
theorem dX2_takeNameByte_7 : decode cX2_takeNameByte 7 = .ok (.iconst 0, 1) := by decide +kernel
theorem dX2_takeNameByte_8 : decode cX2_takeNameByte 8 = .ok (.putfield 41, 3) := by decide +kernel
theorem dX2_takeNameByte_11 : decode cX2_takeNameByte 11 = .ok (.aload_n 0, 1) := by decide +kernel
theorem dX2_takeNameByte_12 : decode cX2_takeNameByte 12 = .ok (.getfield 62, 3) := by decide +kernel
theorem dX2_takeNameByte_15 : decode cX2_takeNameByte 15 = .ok (.ifCond .le 7, 3) := by decide +kernel
theorem dX2_takeNameByte_18 : decode cX2_takeNameByte 18 = .ok (.iconst 1, 1) := by decide +kernel
theorem dX2_takeNameByte_19 : decode cX2_takeNameByte 19 = .ok (.goto 4, 3) := by decide +kernel
theorem dX2_takeNameByte_22 : decode cX2_takeNameByte 22 = .ok (.iconst 0, 1) := by decide +kernel
theorem dX2_takeNameByte_23 : decode cX2_takeNameByte 23 = .ok (.ireturn, 1) := by decide +kernel
theorem dX2_takeNameByte_24 : decode cX2_takeNameByte 24 = .ok (.aload_n 0, 1) := by decide +kernel
theorem dX2_takeNameByte_25 : decode cX2_takeNameByte 25 = .ok (.getfield 62, 3) := by decide +kernel
theorem dX2_takeNameByte_28 : decode cX2_takeNameByte 28 = .ok (.bipush 12, 2) := by decide +kernel
theorem dX2_takeNameByte_30 : decode cX2_takeNameByte 30 = .ok (.if_icmp .ge 10, 3) := by decide +kernel
theorem dX2_takeNameByte_33 : decode cX2_takeNameByte 33 = .ok (.iload_n 1, 1) := by decide +kernel
theorem dX2_takeNameByte_34 : decode cX2_takeNameByte 34 = .ok (.invokestatic 100, 3) := by decide +kernel
theorem dX2_takeNameByte_37 : decode cX2_takeNameByte 37 = .ok (.ifCond .ne 5, 3) := by decide +kernel
theorem dX2_takeNameByte_40 : decode cX2_takeNameByte 40 = .ok (.iconst 0, 1) := by decide +kernel
theorem dX2_takeNameByte_41 : decode cX2_takeNameByte 41 = .ok (.ireturn, 1) := by decide +kernel
theorem dX2_takeNameByte_42 : decode cX2_takeNameByte 42 = .ok (.aload_n 0, 1) := by decide +kernel
theorem dX2_takeNameByte_43 : decode cX2_takeNameByte 43 = .ok (.iload_n 1, 1) := by decide +kernel
theorem dX2_takeNameByte_44 : decode cX2_takeNameByte 44 = .ok (.aload_n 0, 1) := by decide +kernel
theorem dX2_takeNameByte_45 : decode cX2_takeNameByte 45 = .ok (.getfield 62, 3) := by decide +kernel
theorem dX2_takeNameByte_48 : decode cX2_takeNameByte 48 = .ok (.ifCond .le 7, 3) := by decide +kernel
theorem dX2_takeNameByte_51 : decode cX2_takeNameByte 51 = .ok (.iconst 1, 1) := by decide +kernel
theorem dX2_takeNameByte_52 : decode cX2_takeNameByte 52 = .ok (.goto 4, 3) := by decide +kernel
theorem dX2_takeNameByte_55 : decode cX2_takeNameByte 55 = .ok (.iconst 0, 1) := by decide +kernel
theorem dX2_takeNameByte_56 : decode cX2_takeNameByte 56 = .ok (.invokevirtual 90, 3) := by decide +kernel
theorem dX2_takeNameByte_59 : decode cX2_takeNameByte 59 = .ok (.aload_n 0, 1) := by decide +kernel
theorem dX2_takeNameByte_60 : decode cX2_takeNameByte 60 = .ok (.dup, 1) := by decide +kernel
theorem dX2_takeNameByte_61 : decode cX2_takeNameByte 61 = .ok (.getfield 62, 3) := by decide +kernel
theorem dX2_takeNameByte_64 : decode cX2_takeNameByte 64 = .ok (.iconst 1, 1) := by decide +kernel
theorem dX2_takeNameByte_65 : decode cX2_takeNameByte 65 = .ok (.iadd, 1) := by decide +kernel
theorem dX2_takeNameByte_66 : decode cX2_takeNameByte 66 = .ok (.putfield 62, 3) := by decide +kernel
theorem dX2_takeNameByte_69 : decode cX2_takeNameByte 69 = .ok (.iconst 1, 1) := by decide +kernel
theorem dX2_takeNameByte_70 : decode cX2_takeNameByte 70 = .ok (.ireturn, 1) := by decide +kernel
theorem dX2_takeNumberByte_0 : decode cX2_takeNumberByte 0 = .ok (.iload_n 1, 1) := by decide +kernel
theorem dX2_takeNumberByte_1 : decode cX2_takeNumberByte 1 = .ok (.bipush 48, 2) := by decide +kernel
theorem dX2_takeNumberByte_3 : decode cX2_takeNumberByte 3 = .ok (.if_icmp .lt 9, 3) := by decide +kernel
theorem dX2_takeNumberByte_6 : decode cX2_takeNumberByte 6 = .ok (.iload_n 1, 1) := by decide +kernel
theorem dX2_takeNumberByte_7 : decode cX2_takeNumberByte 7 = .ok (.bipush 57, 2) := by decide +kernel
theorem dX2_takeNumberByte_9 : decode cX2_takeNumberByte 9 = .ok (.if_icmp .le 23, 3) := by decide +kernel
theorem dX2_takeNumberByte_12 : decode cX2_takeNumberByte 12 = .ok (.aload_n 0, 1) := by decide +kernel
theorem dX2_takeNumberByte_13 : decode cX2_takeNumberByte 13 = .ok (.getfield 62, 3) := by decide +kernel
theorem dX2_takeNumberByte_16 : decode cX2_takeNumberByte 16 = .ok (.ifCond .ne 5, 3) := by decide +kernel
theorem dX2_takeNumberByte_19 : decode cX2_takeNumberByte 19 = .ok (.iconst 0, 1) := by decide +kernel
theorem dX2_takeNumberByte_20 : decode cX2_takeNumberByte 20 = .ok (.ireturn, 1) := by decide +kernel
theorem dX2_takeNumberByte_21 : decode cX2_takeNumberByte 21 = .ok (.aload_n 0, 1) := by decide +kernel
theorem dX2_takeNumberByte_22 : decode cX2_takeNumberByte 22 = .ok (.invokevirtual 44, 3) := by decide +kernel
theorem dX2_takeNumberByte_25 : decode cX2_takeNumberByte 25 = .ok (.aload_n 0, 1) := by decide +kernel
theorem dX2_takeNumberByte_26 : decode cX2_takeNumberByte 26 = .ok (.iload_n 1, 1) := by decide +kernel
theorem dX2_takeNumberByte_27 : decode cX2_takeNumberByte 27 = .ok (.iload_n 2, 1) := by decide +kernel
theorem dX2_takeNumberByte_28 : decode cX2_takeNumberByte 28 = .ok (.invokevirtual 78, 3) := by decide +kernel
theorem dX2_takeNumberByte_31 : decode cX2_takeNumberByte 31 = .ok (.ireturn, 1) := by decide +kernel
theorem dX2_takeNumberByte_32 : decode cX2_takeNumberByte 32 = .ok (.aload_n 0, 1) := by decide +kernel
theorem dX2_takeNumberByte_33 : decode cX2_takeNumberByte 33 = .ok (.aload_n 0, 1) := by decide +kernel
theorem dX2_takeNumberByte_34 : decode cX2_takeNumberByte 34 = .ok (.getfield 81, 3) := by decide +kernel
theorem dX2_takeNumberByte_37 : decode cX2_takeNumberByte 37 = .ok (.bipush 10, 2) := by decide +kernel
theorem dX2_takeNumberByte_39 : decode cX2_takeNumberByte 39 = .ok (.imul, 1) := by decide +kernel
theorem dX2_takeNumberByte_40 : decode cX2_takeNumberByte 40 = .ok (.iload_n 1, 1) := by decide +kernel
theorem dX2_takeNumberByte_41 : decode cX2_takeNumberByte 41 = .ok (.iadd, 1) := by decide +kernel
theorem dX2_takeNumberByte_42 : decode cX2_takeNumberByte 42 = .ok (.bipush 48, 2) := by decide +kernel
theorem dX2_takeNumberByte_44 : decode cX2_takeNumberByte 44 = .ok (.isub, 1) := by decide +kernel
theorem dX2_takeNumberByte_45 : decode cX2_takeNumberByte 45 = .ok (.putfield 81, 3) := by decide +kernel
theorem dX2_takeNumberByte_48 : decode cX2_takeNumberByte 48 = .ok (.aload_n 0, 1) := by decide +kernel
theorem dX2_takeNumberByte_49 : decode cX2_takeNumberByte 49 = .ok (.dup, 1) := by decide +kernel
theorem dX2_takeNumberByte_50 : decode cX2_takeNumberByte 50 = .ok (.getfield 62, 3) := by decide +kernel
theorem dX2_takeNumberByte_53 : decode cX2_takeNumberByte 53 = .ok (.iconst 1, 1) := by decide +kernel
theorem dX2_takeNumberByte_54 : decode cX2_takeNumberByte 54 = .ok (.iadd, 1) := by decide +kernel
theorem dX2_takeNumberByte_55 : decode cX2_takeNumberByte 55 = .ok (.putfield 62, 3) := by decide +kernel
theorem dX2_takeNumberByte_58 : decode cX2_takeNumberByte 58 = .ok (.aload_n 0, 1) := by decide +kernel
theorem dX2_takeNumberByte_59 : decode cX2_takeNumberByte 59 = .ok (.getfield 62, 3) := by decide +kernel
theorem dX2_takeNumberByte_62 : decode cX2_takeNumberByte 62 = .ok (.iconst 3, 1) := by decide +kernel
theorem dX2_takeNumberByte_63 : decode cX2_takeNumberByte 63 = .ok (.if_icmp .lt 7, 3) := by decide +kernel
theorem dX2_takeNumberByte_66 : decode cX2_takeNumberByte 66 = .ok (.aload_n 0, 1) := by decide +kernel
theorem dX2_takeNumberByte_67 : decode cX2_takeNumberByte 67 = .ok (.invokevirtual 44, 3) := by decide +kernel
theorem dX2_takeNumberByte_70 : decode cX2_takeNumberByte 70 = .ok (.iconst 1, 1) := by decide +kernel
theorem dX2_takeNumberByte_71 : decode cX2_takeNumberByte 71 = .ok (.ireturn, 1) := by decide +kernel
theorem dX2_endNumber_0 : decode cX2_endNumber 0 = .ok (.aload_n 0, 1) := by decide +kernel
theorem dX2_endNumber_1 : decode cX2_endNumber 1 = .ok (.iconst 0, 1) := by decide +kernel
theorem dX2_endNumber_2 : decode cX2_endNumber 2 = .ok (.putfield 41, 3) := by decide +kernel
theorem dX2_endNumber_5 : decode cX2_endNumber 5 = .ok (.aload_n 0, 1) := by decide +kernel
theorem dX2_endNumber_6 : decode cX2_endNumber 6 = .ok (.getfield 81, 3) := by decide +kernel
theorem dX2_endNumber_9 : decode cX2_endNumber 9 = .ok (.bipush 20, 2) := by decide +kernel
theorem dX2_endNumber_11 : decode cX2_endNumber 11 = .ok (.if_icmp .ge 17, 3) := by decide +kernel
theorem dX2_endNumber_14 : decode cX2_endNumber 14 = .ok (.aload_n 0, 1) := by decide +kernel
theorem dX2_endNumber_15 : decode cX2_endNumber 15 = .ok (.getfield 59, 3) := by decide +kernel
theorem dX2_endNumber_18 : decode cX2_endNumber 18 = .ok (.aload_n 0, 1) := by decide +kernel
theorem dX2_endNumber_19 : decode cX2_endNumber 19 = .ok (.getfield 81, 3) := by decide +kernel
theorem dX2_endNumber_22 : decode cX2_endNumber 22 = .ok (.ishr, 1) := by decide +kernel
theorem dX2_endNumber_23 : decode cX2_endNumber 23 = .ok (.iconst 1, 1) := by decide +kernel
theorem dX2_endNumber_24 : decode cX2_endNumber 24 = .ok (.iand, 1) := by decide +kernel
theorem dX2_endNumber_25 : decode cX2_endNumber 25 = .ok (.ifCond .ne 26, 3) := by decide +kernel
theorem dX2_endNumber_28 : decode cX2_endNumber 28 = .ok (.aload_n 0, 1) := by decide +kernel
theorem dX2_endNumber_29 : decode cX2_endNumber 29 = .ok (.aload_n 0, 1) := by decide +kernel
theorem dX2_endNumber_30 : decode cX2_endNumber 30 = .ok (.getfield 47, 3) := by decide +kernel
theorem dX2_endNumber_33 : decode cX2_endNumber 33 = .ok (.ifCond .ge 10, 3) := by decide +kernel
theorem dX2_endNumber_36 : decode cX2_endNumber 36 = .ok (.aload_n 0, 1) := by decide +kernel
theorem dX2_endNumber_37 : decode cX2_endNumber 37 = .ok (.getfield 84, 3) := by decide +kernel
theorem dX2_endNumber_40 : decode cX2_endNumber 40 = .ok (.goto 7, 3) := by decide +kernel
theorem dX2_endNumber_43 : decode cX2_endNumber 43 = .ok (.aload_n 0, 1) := by decide +kernel
theorem dX2_endNumber_44 : decode cX2_endNumber 44 = .ok (.getfield 47, 3) := by decide +kernel
theorem dX2_endNumber_47 : decode cX2_endNumber 47 = .ok (.putfield 47, 3) := by decide +kernel
theorem dX2_endNumber_50 : decode cX2_endNumber 50 = .ok (.return_, 1) := by decide +kernel
theorem dX2_endNumber_51 : decode cX2_endNumber 51 = .ok (.aload_n 0, 1) := by decide +kernel
theorem dX2_endNumber_52 : decode cX2_endNumber 52 = .ok (.dup, 1) := by decide +kernel
theorem dX2_endNumber_53 : decode cX2_endNumber 53 = .ok (.getfield 53, 3) := by decide +kernel
theorem dX2_endNumber_56 : decode cX2_endNumber 56 = .ok (.iconst 1, 1) := by decide +kernel
theorem dX2_endNumber_57 : decode cX2_endNumber 57 = .ok (.aload_n 0, 1) := by decide +kernel
theorem dX2_endNumber_58 : decode cX2_endNumber 58 = .ok (.getfield 81, 3) := by decide +kernel
theorem dX2_endNumber_61 : decode cX2_endNumber 61 = .ok (.ishl, 1) := by decide +kernel
theorem dX2_endNumber_62 : decode cX2_endNumber 62 = .ok (.ior, 1) := by decide +kernel
theorem dX2_endNumber_63 : decode cX2_endNumber 63 = .ok (.putfield 53, 3) := by decide +kernel
theorem dX2_endNumber_66 : decode cX2_endNumber 66 = .ok (.aload_n 0, 1) := by decide +kernel
theorem dX2_endNumber_67 : decode cX2_endNumber 67 = .ok (.bipush 69, 2) := by decide +kernel
theorem dX2_endNumber_69 : decode cX2_endNumber 69 = .ok (.iconst 0, 1) := by decide +kernel
theorem dX2_endNumber_70 : decode cX2_endNumber 70 = .ok (.invokevirtual 90, 3) := by decide +kernel
theorem dX2_endNumber_73 : decode cX2_endNumber 73 = .ok (.aload_n 0, 1) := by decide +kernel
theorem dX2_endNumber_74 : decode cX2_endNumber 74 = .ok (.bipush 120, 2) := by decide +kernel
theorem dX2_endNumber_76 : decode cX2_endNumber 76 = .ok (.iconst 0, 1) := by decide +kernel
theorem dX2_endNumber_77 : decode cX2_endNumber 77 = .ok (.invokevirtual 90, 3) := by decide +kernel
theorem dX2_endNumber_80 : decode cX2_endNumber 80 = .ok (.aload_n 0, 1) := by decide +kernel
theorem dX2_endNumber_81 : decode cX2_endNumber 81 = .ok (.bipush 46, 2) := by decide +kernel
theorem dX2_endNumber_83 : decode cX2_endNumber 83 = .ok (.iconst 0, 1) := by decide +kernel
theorem dX2_endNumber_84 : decode cX2_endNumber 84 = .ok (.invokevirtual 90, 3) := by decide +kernel
theorem dX2_endNumber_87 : decode cX2_endNumber 87 = .ok (.aload_n 0, 1) := by decide +kernel
theorem dX2_endNumber_88 : decode cX2_endNumber 88 = .ok (.bipush 32, 2) := by decide +kernel
theorem dX2_endNumber_90 : decode cX2_endNumber 90 = .ok (.iconst 0, 1) := by decide +kernel
theorem dX2_endNumber_91 : decode cX2_endNumber 91 = .ok (.invokevirtual 90, 3) := by decide +kernel
theorem dX2_endNumber_94 : decode cX2_endNumber 94 = .ok (.aload_n 0, 1) := by decide +kernel
theorem dX2_endNumber_95 : decode cX2_endNumber 95 = .ok (.getfield 81, 3) := by decide +kernel
theorem dX2_endNumber_98 : decode cX2_endNumber 98 = .ok (.bipush 10, 2) := by decide +kernel
theorem dX2_endNumber_100 : decode cX2_endNumber 100 = .ok (.if_icmp .lt 18, 3) := by decide +kernel
theorem dX2_endNumber_103 : decode cX2_endNumber 103 = .ok (.aload_n 0, 1) := by decide +kernel
theorem dX2_endNumber_104 : decode cX2_endNumber 104 = .ok (.bipush 48, 2) := by decide +kernel
theorem dX2_endNumber_106 : decode cX2_endNumber 106 = .ok (.aload_n 0, 1) := by decide +kernel
theorem dX2_endNumber_107 : decode cX2_endNumber 107 = .ok (.getfield 81, 3) := by decide +kernel
theorem dX2_endNumber_110 : decode cX2_endNumber 110 = .ok (.bipush 10, 2) := by decide +kernel
theorem dX2_endNumber_112 : decode cX2_endNumber 112 = .ok (.idiv, 1) := by decide +kernel
theorem dX2_endNumber_113 : decode cX2_endNumber 113 = .ok (.iadd, 1) := by decide +kernel
theorem dX2_endNumber_114 : decode cX2_endNumber 114 = .ok (.iconst 0, 1) := by decide +kernel
theorem dX2_endNumber_115 : decode cX2_endNumber 115 = .ok (.invokevirtual 90, 3) := by decide +kernel
theorem dX2_endNumber_118 : decode cX2_endNumber 118 = .ok (.aload_n 0, 1) := by decide +kernel
theorem dX2_endNumber_119 : decode cX2_endNumber 119 = .ok (.bipush 48, 2) := by decide +kernel
theorem dX2_endNumber_121 : decode cX2_endNumber 121 = .ok (.aload_n 0, 1) := by decide +kernel
theorem dX2_endNumber_122 : decode cX2_endNumber 122 = .ok (.getfield 81, 3) := by decide +kernel
theorem dX2_endNumber_125 : decode cX2_endNumber 125 = .ok (.bipush 10, 2) := by decide +kernel
theorem dX2_endNumber_127 : decode cX2_endNumber 127 = .ok (.irem, 1) := by decide +kernel
theorem dX2_endNumber_128 : decode cX2_endNumber 128 = .ok (.iadd, 1) := by decide +kernel
theorem dX2_endNumber_129 : decode cX2_endNumber 129 = .ok (.iconst 0, 1) := by decide +kernel
theorem dX2_endNumber_130 : decode cX2_endNumber 130 = .ok (.invokevirtual 90, 3) := by decide +kernel
theorem dX2_endNumber_133 : decode cX2_endNumber 133 = .ok (.return_, 1) := by decide +kernel
theorem dX2_isLetter_0 : decode cX2_isLetter 0 = .ok (.iload_n 0, 1) := by decide +kernel
theorem dX2_isLetter_1 : decode cX2_isLetter 1 = .ok (.bipush 65, 2) := by decide +kernel
theorem dX2_isLetter_3 : decode cX2_isLetter 3 = .ok (.if_icmp .lt 9, 3) := by decide +kernel
theorem dX2_isLetter_6 : decode cX2_isLetter 6 = .ok (.iload_n 0, 1) := by decide +kernel
theorem dX2_isLetter_7 : decode cX2_isLetter 7 = .ok (.bipush 90, 2) := by decide +kernel
theorem dX2_isLetter_9 : decode cX2_isLetter 9 = .ok (.if_icmp .le 15, 3) := by decide +kernel
theorem dX2_isLetter_12 : decode cX2_isLetter 12 = .ok (.iload_n 0, 1) := by decide +kernel
theorem dX2_isLetter_13 : decode cX2_isLetter 13 = .ok (.bipush 97, 2) := by decide +kernel
theorem dX2_isLetter_15 : decode cX2_isLetter 15 = .ok (.if_icmp .lt 13, 3) := by decide +kernel
theorem dX2_isLetter_18 : decode cX2_isLetter 18 = .ok (.iload_n 0, 1) := by decide +kernel
theorem dX2_isLetter_19 : decode cX2_isLetter 19 = .ok (.bipush 122, 2) := by decide +kernel
theorem dX2_isLetter_21 : decode cX2_isLetter 21 = .ok (.if_icmp .gt 7, 3) := by decide +kernel
theorem dX2_isLetter_24 : decode cX2_isLetter 24 = .ok (.iconst 1, 1) := by decide +kernel
theorem dX2_isLetter_25 : decode cX2_isLetter 25 = .ok (.goto 4, 3) := by decide +kernel
theorem dX2_isLetter_28 : decode cX2_isLetter 28 = .ok (.iconst 0, 1) := by decide +kernel
theorem dX2_isLetter_29 : decode cX2_isLetter 29 = .ok (.ireturn, 1) := by decide +kernel
theorem dX2_put_0 : decode cX2_put 0 = .ok (.aload_n 0, 1) := by decide +kernel
theorem dX2_put_1 : decode cX2_put 1 = .ok (.getfield 50, 3) := by decide +kernel
theorem dX2_put_4 : decode cX2_put 4 = .ok (.ifCond .lt 34, 3) := by decide +kernel
theorem dX2_put_7 : decode cX2_put 7 = .ok (.aload_n 0, 1) := by decide +kernel
theorem dX2_put_8 : decode cX2_put 8 = .ok (.getfield 50, 3) := by decide +kernel
theorem dX2_put_11 : decode cX2_put 11 = .ok (.aload_n 0, 1) := by decide +kernel
theorem dX2_put_12 : decode cX2_put 12 = .ok (.getfield 9, 3) := by decide +kernel
theorem dX2_put_15 : decode cX2_put 15 = .ok (.arraylength, 1) := by decide +kernel
theorem dX2_put_16 : decode cX2_put 16 = .ok (.if_icmp .ge 22, 3) := by decide +kernel
theorem dX2_put_19 : decode cX2_put 19 = .ok (.aload_n 0, 1) := by decide +kernel
theorem dX2_put_20 : decode cX2_put 20 = .ok (.getfield 56, 3) := by decide +kernel
theorem dX2_put_23 : decode cX2_put 23 = .ok (.ifCond .lt 15, 3) := by decide +kernel
theorem dX2_put_26 : decode cX2_put 26 = .ok (.aload_n 0, 1) := by decide +kernel
theorem dX2_put_27 : decode cX2_put 27 = .ok (.getfield 56, 3) := by decide +kernel
theorem dX2_put_30 : decode cX2_put 30 = .ok (.aload_n 0, 1) := by decide +kernel
theorem dX2_put_31 : decode cX2_put 31 = .ok (.getfield 21, 3) := by decide +kernel
theorem dX2_put_34 : decode cX2_put 34 = .ok (.arraylength, 1) := by decide +kernel
theorem dX2_put_35 : decode cX2_put 35 = .ok (.if_icmp .lt 4, 3) := by decide +kernel
theorem dX2_put_38 : decode cX2_put 38 = .ok (.return_, 1) := by decide +kernel
theorem dX2_put_39 : decode cX2_put 39 = .ok (.aload_n 0, 1) := by decide +kernel
theorem dX2_put_40 : decode cX2_put 40 = .ok (.getfield 9, 3) := by decide +kernel
theorem dX2_put_43 : decode cX2_put 43 = .ok (.aload_n 0, 1) := by decide +kernel
theorem dX2_put_44 : decode cX2_put 44 = .ok (.getfield 50, 3) := by decide +kernel
theorem dX2_put_47 : decode cX2_put 47 = .ok (.iload_n 1, 1) := by decide +kernel
theorem dX2_put_48 : decode cX2_put 48 = .ok (.i2b, 1) := by decide +kernel
theorem dX2_put_49 : decode cX2_put 49 = .ok (.bastore, 1) := by decide +kernel
theorem dX2_put_50 : decode cX2_put 50 = .ok (.aload_n 0, 1) := by decide +kernel
theorem dX2_put_51 : decode cX2_put 51 = .ok (.getfield 15, 3) := by decide +kernel
theorem dX2_put_54 : decode cX2_put 54 = .ok (.aload_n 0, 1) := by decide +kernel
theorem dX2_put_55 : decode cX2_put 55 = .ok (.getfield 50, 3) := by decide +kernel
theorem dX2_put_58 : decode cX2_put 58 = .ok (.aload_n 0, 1) := by decide +kernel
theorem dX2_put_59 : decode cX2_put 59 = .ok (.getfield 21, 3) := by decide +kernel
theorem dX2_put_62 : decode cX2_put 62 = .ok (.aload_n 0, 1) := by decide +kernel
theorem dX2_put_63 : decode cX2_put 63 = .ok (.getfield 56, 3) := by decide +kernel
theorem dX2_put_66 : decode cX2_put 66 = .ok (.iaload, 1) := by decide +kernel
theorem dX2_put_67 : decode cX2_put 67 = .ok (.i2b, 1) := by decide +kernel
theorem dX2_put_68 : decode cX2_put 68 = .ok (.bastore, 1) := by decide +kernel
theorem dX2_put_69 : decode cX2_put 69 = .ok (.aload_n 0, 1) := by decide +kernel
theorem dX2_put_70 : decode cX2_put 70 = .ok (.getfield 18, 3) := by decide +kernel
theorem dX2_put_73 : decode cX2_put 73 = .ok (.aload_n 0, 1) := by decide +kernel
theorem dX2_put_74 : decode cX2_put 74 = .ok (.getfield 50, 3) := by decide +kernel
theorem dX2_put_77 : decode cX2_put 77 = .ok (.iload_n 2, 1) := by decide +kernel
theorem dX2_put_78 : decode cX2_put 78 = .ok (.i2b, 1) := by decide +kernel
theorem dX2_put_79 : decode cX2_put 79 = .ok (.bastore, 1) := by decide +kernel
theorem dX2_put_80 : decode cX2_put 80 = .ok (.aload_n 0, 1) := by decide +kernel
theorem dX2_put_81 : decode cX2_put 81 = .ok (.dup, 1) := by decide +kernel
theorem dX2_put_82 : decode cX2_put 82 = .ok (.getfield 50, 3) := by decide +kernel
theorem dX2_put_85 : decode cX2_put 85 = .ok (.iconst 1, 1) := by decide +kernel
theorem dX2_put_86 : decode cX2_put 86 = .ok (.iadd, 1) := by decide +kernel
theorem dX2_put_87 : decode cX2_put 87 = .ok (.putfield 50, 3) := by decide +kernel
theorem dX2_put_90 : decode cX2_put 90 = .ok (.return_, 1) := by decide +kernel
theorem dX3_init_0 : decode cX3_init 0 = .ok (.aload_n 0, 1) := by decide +kernel
theorem dX3_init_1 : decode cX3_init 1 = .ok (.invokespecial 3, 3) := by decide +kernel
theorem dX3_init_4 : decode cX3_init 4 = .ok (.aload_n 0, 1) := by decide +kernel
theorem dX3_init_5 : decode cX3_init 5 = .ok (.aconst_null, 1) := by decide +kernel
theorem dX3_init_6 : decode cX3_init 6 = .ok (.putfield 9, 3) := by decide +kernel
theorem dX3_init_9 : decode cX3_init 9 = .ok (.aload_n 0, 1) := by decide +kernel
theorem dX3_init_10 : decode cX3_init 10 = .ok (.iconst 0, 1) := by decide +kernel
theorem dX3_init_11 : decode cX3_init 11 = .ok (.putfield 15, 3) := by decide +kernel
theorem dX3_init_14 : decode cX3_init 14 = .ok (.aload_n 0, 1) := by decide +kernel
theorem dX3_init_15 : decode cX3_init 15 = .ok (.new 19, 3) := by decide +kernel
theorem dX3_init_18 : decode cX3_init 18 = .ok (.dup, 1) := by decide +kernel
theorem dX3_init_19 : decode cX3_init 19 = .ok (.invokespecial 21, 3) := by decide +kernel
theorem dX3_init_22 : decode cX3_init 22 = .ok (.putfield 22, 3) := by decide +kernel
theorem dX3_init_25 : decode cX3_init 25 = .ok (.aload_n 0, 1) := by decide +kernel
theorem dX3_init_26 : decode cX3_init 26 = .ok (.iload_n 1, 1) := by decide +kernel
theorem dX3_init_27 : decode cX3_init 27 = .ok (.putfield 26, 3) := by decide +kernel
theorem dX3_init_30 : decode cX3_init 30 = .ok (.aload_n 0, 1) := by decide +kernel
theorem dX3_init_31 : decode cX3_init 31 = .ok (.aload_n 2, 1) := by decide +kernel
theorem dX3_init_32 : decode cX3_init 32 = .ok (.putfield 30, 3) := by decide +kernel
theorem dX3_init_35 : decode cX3_init 35 = .ok (.aload_n 0, 1) := by decide +kernel
theorem dX3_init_36 : decode cX3_init 36 = .ok (.sipush 1000, 3) := by decide +kernel
theorem dX3_init_39 : decode cX3_init 39 = .ok (.iload_n 1, 1) := by decide +kernel
theorem dX3_init_40 : decode cX3_init 40 = .ok (.iadd, 1) := by decide +kernel
theorem dX3_init_41 : decode cX3_init 41 = .ok (.putfield 34, 3) := by decide +kernel
theorem dX3_init_44 : decode cX3_init 44 = .ok (.return_, 1) := by decide +kernel
theorem dX3_hasFullChain_0 : decode cX3_hasFullChain 0 = .ok (.aload_n 0, 1) := by decide +kernel
theorem dX3_hasFullChain_1 : decode cX3_hasFullChain 1 = .ok (.getfield 22, 3) := by decide +kernel
theorem dX3_hasFullChain_4 : decode cX3_hasFullChain 4 = .ok (.invokevirtual 37, 3) := by decide +kernel
theorem dX3_hasFullChain_7 : decode cX3_hasFullChain 7 = .ok (.bipush 12, 2) := by decide +kernel
theorem dX3_hasFullChain_9 : decode cX3_hasFullChain 9 = .ok (.if_icmp .lt 7, 3) := by decide +kernel
theorem dX3_hasFullChain_12 : decode cX3_hasFullChain 12 = .ok (.iconst 1, 1) := by decide +kernel
theorem dX3_hasFullChain_13 : decode cX3_hasFullChain 13 = .ok (.goto 4, 3) := by decide +kernel
theorem dX3_hasFullChain_16 : decode cX3_hasFullChain 16 = .ok (.iconst 0, 1) := by decide +kernel
theorem dX3_hasFullChain_17 : decode cX3_hasFullChain 17 = .ok (.ireturn, 1) := by decide +kernel
theorem dX3_addLink_0 : decode cX3_addLink 0 = .ok (.aload_n 0, 1) := by decide +kernel
theorem dX3_addLink_1 : decode cX3_addLink 1 = .ok (.getfield 22, 3) := by decide +kernel
theorem dX3_addLink_4 : decode cX3_addLink 4 = .ok (.aload_n 1, 1) := by decide +kernel
theorem dX3_addLink_5 : decode cX3_addLink 5 = .ok (.invokevirtual 41, 3) := by decide +kernel
theorem dX3_addLink_8 : decode cX3_addLink 8 = .ok (.pop, 1) := by decide +kernel
theorem dX3_addLink_9 : decode cX3_addLink 9 = .ok (.return_, 1) := by decide +kernel
theorem dX3_countGaps_0 : decode cX3_countGaps 0 = .ok (.iconst 0, 1) := by decide +kernel
theorem dX3_countGaps_1 : decode cX3_countGaps 1 = .ok (.istore_n 1, 1) := by decide +kernel
theorem dX3_countGaps_2 : decode cX3_countGaps 2 = .ok (.iconst 0, 1) := by decide +kernel
theorem dX3_countGaps_3 : decode cX3_countGaps 3 = .ok (.istore_n 2, 1) := by decide +kernel
theorem dX3_countGaps_4 : decode cX3_countGaps 4 = .ok (.iload_n 2, 1) := by decide +kernel
theorem dX3_countGaps_5 : decode cX3_countGaps 5 = .ok (.aload_n 0, 1) := by decide +kernel
theorem dX3_countGaps_6 : decode cX3_countGaps 6 = .ok (.getfield 22, 3) := by decide +kernel
theorem dX3_countGaps_9 : decode cX3_countGaps 9 = .ok (.invokevirtual 37, 3) := by decide +kernel
theorem dX3_countGaps_12 : decode cX3_countGaps 12 = .ok (.if_icmp .ge 30, 3) := by decide +kernel
theorem dX3_countGaps_15 : decode cX3_countGaps 15 = .ok (.aload_n 0, 1) := by decide +kernel
theorem dX3_countGaps_16 : decode cX3_countGaps 16 = .ok (.getfield 22, 3) := by decide +kernel
theorem dX3_countGaps_19 : decode cX3_countGaps 19 = .ok (.iload_n 2, 1) := by decide +kernel
theorem dX3_countGaps_20 : decode cX3_countGaps 20 = .ok (.invokevirtual 45, 3) := by decide +kernel
theorem dX3_countGaps_23 : decode cX3_countGaps 23 = .ok (.checkcast 49, 3) := by decide +kernel
theorem dX3_countGaps_26 : decode cX3_countGaps 26 = .ok (.getfield 51, 3) := by decide +kernel
theorem dX3_countGaps_29 : decode cX3_countGaps 29 = .ok (.iconst 1, 1) := by decide +kernel
theorem dX3_countGaps_30 : decode cX3_countGaps 30 = .ok (.if_icmp .ne 6, 3) := by decide +kernel
theorem dX3_countGaps_33 : decode cX3_countGaps 33 = .ok (.iinc 1 1, 3) := by decide +kernel
theorem dX3_countGaps_36 : decode cX3_countGaps 36 = .ok (.iinc 2 1, 3) := by decide +kernel
theorem dX3_countGaps_39 : decode cX3_countGaps 39 = .ok (.goto (-35), 3) := by decide +kernel
theorem dX3_countGaps_42 : decode cX3_countGaps 42 = .ok (.iload_n 1, 1) := by decide +kernel
theorem dX3_countGaps_43 : decode cX3_countGaps 43 = .ok (.ireturn, 1) := by decide +kernel
theorem dX3_canBeAdmitted_0 : decode cX3_canBeAdmitted 0 = .ok (.aload_n 0, 1) := by decide +kernel
theorem dX3_canBeAdmitted_1 : decode cX3_canBeAdmitted 1 = .ok (.getfield 15, 3) := by decide +kernel
theorem dX3_canBeAdmitted_4 : decode cX3_canBeAdmitted 4 = .ok (.ifCond .ne 31, 3) := by decide +kernel
theorem dX3_canBeAdmitted_7 : decode cX3_canBeAdmitted 7 = .ok (.aload_n 0, 1) := by decide +kernel
theorem dX3_canBeAdmitted_8 : decode cX3_canBeAdmitted 8 = .ok (.getfield 9, 3) := by decide +kernel
theorem dX3_canBeAdmitted_11 : decode cX3_canBeAdmitted 11 = .ok (.ifnull 26, 3) := by decide +kernel
theorem dX3_canBeAdmitted_14 : decode cX3_canBeAdmitted 14 = .ok (.aload_n 0, 1) := by decide +kernel
theorem dX3_canBeAdmitted_15 : decode cX3_canBeAdmitted 15 = .ok (.getfield 9, 3) := by decide +kernel
theorem dX3_canBeAdmitted_18 : decode cX3_canBeAdmitted 18 = .ok (.getfield 54, 3) := by decide +kernel
theorem dX3_canBeAdmitted_21 : decode cX3_canBeAdmitted 21 = .ok (.iconst 1, 1) := by decide +kernel
theorem dX3_canBeAdmitted_22 : decode cX3_canBeAdmitted 22 = .ok (.if_icmp .eq 15, 3) := by decide +kernel
theorem dX3_canBeAdmitted_25 : decode cX3_canBeAdmitted 25 = .ok (.aload_n 0, 1) := by decide +kernel
theorem dX3_canBeAdmitted_26 : decode cX3_canBeAdmitted 26 = .ok (.getfield 9, 3) := by decide +kernel
theorem dX3_canBeAdmitted_29 : decode cX3_canBeAdmitted 29 = .ok (.getfield 54, 3) := by decide +kernel
theorem dX3_canBeAdmitted_32 : decode cX3_canBeAdmitted 32 = .ok (.ifCond .eq 5, 3) := by decide +kernel
theorem dX3_canBeAdmitted_35 : decode cX3_canBeAdmitted 35 = .ok (.iconst 0, 1) := by decide +kernel
theorem dX3_canBeAdmitted_36 : decode cX3_canBeAdmitted 36 = .ok (.ireturn, 1) := by decide +kernel
theorem dX3_canBeAdmitted_37 : decode cX3_canBeAdmitted 37 = .ok (.iconst 0, 1) := by decide +kernel
theorem dX3_canBeAdmitted_38 : decode cX3_canBeAdmitted 38 = .ok (.istore_n 1, 1) := by decide +kernel
theorem dX3_canBeAdmitted_39 : decode cX3_canBeAdmitted 39 = .ok (.iload_n 1, 1) := by decide +kernel
theorem dX3_canBeAdmitted_40 : decode cX3_canBeAdmitted 40 = .ok (.aload_n 0, 1) := by decide +kernel
theorem dX3_canBeAdmitted_41 : decode cX3_canBeAdmitted 41 = .ok (.getfield 22, 3) := by decide +kernel
theorem dX3_canBeAdmitted_44 : decode cX3_canBeAdmitted 44 = .ok (.invokevirtual 37, 3) := by decide +kernel
theorem dX3_canBeAdmitted_47 : decode cX3_canBeAdmitted 47 = .ok (.if_icmp .ge 28, 3) := by decide +kernel
theorem dX3_canBeAdmitted_50 : decode cX3_canBeAdmitted 50 = .ok (.aload_n 0, 1) := by decide +kernel
theorem dX3_canBeAdmitted_51 : decode cX3_canBeAdmitted 51 = .ok (.getfield 22, 3) := by decide +kernel
theorem dX3_canBeAdmitted_54 : decode cX3_canBeAdmitted 54 = .ok (.iload_n 1, 1) := by decide +kernel
theorem dX3_canBeAdmitted_55 : decode cX3_canBeAdmitted 55 = .ok (.invokevirtual 45, 3) := by decide +kernel
theorem dX3_canBeAdmitted_58 : decode cX3_canBeAdmitted 58 = .ok (.checkcast 49, 3) := by decide +kernel
theorem dX3_canBeAdmitted_61 : decode cX3_canBeAdmitted 61 = .ok (.invokevirtual 59, 3) := by decide +kernel
theorem dX3_canBeAdmitted_64 : decode cX3_canBeAdmitted 64 = .ok (.ifCond .eq 5, 3) := by decide +kernel
theorem dX3_canBeAdmitted_67 : decode cX3_canBeAdmitted 67 = .ok (.iconst 0, 1) := by decide +kernel
theorem dX3_canBeAdmitted_68 : decode cX3_canBeAdmitted 68 = .ok (.ireturn, 1) := by decide +kernel
theorem dX3_canBeAdmitted_69 : decode cX3_canBeAdmitted 69 = .ok (.iinc 1 1, 3) := by decide +kernel
theorem dX3_canBeAdmitted_72 : decode cX3_canBeAdmitted 72 = .ok (.goto (-33), 3) := by decide +kernel
theorem dX3_canBeAdmitted_75 : decode cX3_canBeAdmitted 75 = .ok (.iconst 1, 1) := by decide +kernel
theorem dX3_canBeAdmitted_76 : decode cX3_canBeAdmitted 76 = .ok (.ireturn, 1) := by decide +kernel
theorem dX4_init_0 : decode cX4_init 0 = .ok (.aload_n 0, 1) := by decide +kernel
theorem dX4_init_1 : decode cX4_init 1 = .ok (.invokespecial 3, 3) := by decide +kernel
theorem dX4_init_4 : decode cX4_init 4 = .ok (.aload_n 0, 1) := by decide +kernel
theorem dX4_init_5 : decode cX4_init 5 = .ok (.iconst 0, 1) := by decide +kernel
theorem dX4_init_6 : decode cX4_init 6 = .ok (.putfield 9, 3) := by decide +kernel
theorem dX4_init_9 : decode cX4_init 9 = .ok (.aload_n 0, 1) := by decide +kernel
theorem dX4_init_10 : decode cX4_init 10 = .ok (.iconst (-1), 1) := by decide +kernel
theorem dX4_init_11 : decode cX4_init 11 = .ok (.putfield 15, 3) := by decide +kernel
theorem dX4_init_14 : decode cX4_init 14 = .ok (.aload_n 0, 1) := by decide +kernel
theorem dX4_init_15 : decode cX4_init 15 = .ok (.aload_n 1, 1) := by decide +kernel
theorem dX4_init_16 : decode cX4_init 16 = .ok (.putfield 18, 3) := by decide +kernel
theorem dX4_init_19 : decode cX4_init 19 = .ok (.aload_n 0, 1) := by decide +kernel
theorem dX4_init_20 : decode cX4_init 20 = .ok (.iload_n 2, 1) := by decide +kernel
theorem dX4_init_21 : decode cX4_init 21 = .ok (.putfield 22, 3) := by decide +kernel
theorem dX4_init_24 : decode cX4_init 24 = .ok (.aload_n 0, 1) := by decide +kernel
theorem dX4_init_25 : decode cX4_init 25 = .ok (.aload_n 3, 1) := by decide +kernel
theorem dX4_init_26 : decode cX4_init 26 = .ok (.putfield 25, 3) := by decide +kernel
theorem dX4_init_29 : decode cX4_init 29 = .ok (.aload_n 0, 1) := by decide +kernel
theorem dX4_init_30 : decode cX4_init 30 = .ok (.iload 4, 2) := by decide +kernel
theorem dX4_init_32 : decode cX4_init 32 = .ok (.putfield 29, 3) := by decide +kernel
theorem dX4_init_35 : decode cX4_init 35 = .ok (.return_, 1) := by decide +kernel
theorem dX5_init_0 : decode cX5_init 0 = .ok (.aload_n 0, 1) := by decide +kernel
theorem dX5_init_1 : decode cX5_init 1 = .ok (.invokespecial 3, 3) := by decide +kernel
theorem dX5_init_4 : decode cX5_init 4 = .ok (.aload_n 0, 1) := by decide +kernel
theorem dX5_init_5 : decode cX5_init 5 = .ok (.iload_n 1, 1) := by decide +kernel
theorem dX5_init_6 : decode cX5_init 6 = .ok (.putfield 9, 3) := by decide +kernel
theorem dX5_init_9 : decode cX5_init 9 = .ok (.aload_n 0, 1) := by decide +kernel
theorem dX5_init_10 : decode cX5_init 10 = .ok (.aload_n 2, 1) := by decide +kernel
theorem dX5_init_11 : decode cX5_init 11 = .ok (.putfield 15, 3) := by decide +kernel
theorem dX5_init_14 : decode cX5_init 14 = .ok (.aload_n 0, 1) := by decide +kernel
theorem dX5_init_15 : decode cX5_init 15 = .ok (.aload_n 3, 1) := by decide +kernel
theorem dX5_init_16 : decode cX5_init 16 = .ok (.putfield 19, 3) := by decide +kernel
theorem dX5_init_19 : decode cX5_init 19 = .ok (.aload_n 0, 1) := by decide +kernel
theorem dX5_init_20 : decode cX5_init 20 = .ok (.iload 4, 2) := by decide +kernel
theorem dX5_init_22 : decode cX5_init 22 = .ok (.putfield 22, 3) := by decide +kernel
theorem dX5_init_25 : decode cX5_init 25 = .ok (.return_, 1) := by decide +kernel
theorem dX5_taints_0 : decode cX5_taints 0 = .ok (.aload_n 0, 1) := by decide +kernel
theorem dX5_taints_1 : decode cX5_taints 1 = .ok (.getfield 22, 3) := by decide +kernel
theorem dX5_taints_4 : decode cX5_taints 4 = .ok (.iconst 1, 1) := by decide +kernel
theorem dX5_taints_5 : decode cX5_taints 5 = .ok (.if_icmp .ne 5, 3) := by decide +kernel
theorem dX5_taints_8 : decode cX5_taints 8 = .ok (.iconst 1, 1) := by decide +kernel
theorem dX5_taints_9 : decode cX5_taints 9 = .ok (.ireturn, 1) := by decide +kernel
theorem dX5_taints_10 : decode cX5_taints 10 = .ok (.aload_n 0, 1) := by decide +kernel
theorem dX5_taints_11 : decode cX5_taints 11 = .ok (.getfield 19, 3) := by decide +kernel
theorem dX5_taints_14 : decode cX5_taints 14 = .ok (.ifnonnull 5, 3) := by decide +kernel
theorem dX5_taints_17 : decode cX5_taints 17 = .ok (.iconst 0, 1) := by decide +kernel
theorem dX5_taints_18 : decode cX5_taints 18 = .ok (.ireturn, 1) := by decide +kernel
theorem dX5_taints_19 : decode cX5_taints 19 = .ok (.aload_n 0, 1) := by decide +kernel
theorem dX5_taints_20 : decode cX5_taints 20 = .ok (.getfield 19, 3) := by decide +kernel
theorem dX5_taints_23 : decode cX5_taints 23 = .ok (.getfield 25, 3) := by decide +kernel
theorem dX5_taints_26 : decode cX5_taints 26 = .ok (.iconst 3, 1) := by decide +kernel
theorem dX5_taints_27 : decode cX5_taints 27 = .ok (.if_icmp .eq 22, 3) := by decide +kernel
theorem dX5_taints_30 : decode cX5_taints 30 = .ok (.aload_n 0, 1) := by decide +kernel
theorem dX5_taints_31 : decode cX5_taints 31 = .ok (.getfield 22, 3) := by decide +kernel
theorem dX5_taints_34 : decode cX5_taints 34 = .ok (.iconst 2, 1) := by decide +kernel
theorem dX5_taints_35 : decode cX5_taints 35 = .ok (.if_icmp .ne 18, 3) := by decide +kernel
theorem dX5_taints_38 : decode cX5_taints 38 = .ok (.aload_n 0, 1) := by decide +kernel
theorem dX5_taints_39 : decode cX5_taints 39 = .ok (.getfield 19, 3) := by decide +kernel
theorem dX5_taints_42 : decode cX5_taints 42 = .ok (.getfield 25, 3) := by decide +kernel
theorem dX5_taints_45 : decode cX5_taints 45 = .ok (.iconst 1, 1) := by decide +kernel
theorem dX5_taints_46 : decode cX5_taints 46 = .ok (.if_icmp .eq 7, 3) := by decide +kernel
theorem dX5_taints_49 : decode cX5_taints 49 = .ok (.iconst 1, 1) := by decide +kernel
theorem dX5_taints_50 : decode cX5_taints 50 = .ok (.goto 4, 3) := by decide +kernel
theorem dX5_taints_53 : decode cX5_taints 53 = .ok (.iconst 0, 1) := by decide +kernel
theorem dX5_taints_54 : decode cX5_taints 54 = .ok (.ireturn, 1) := by decide +kernel
theorem dX6_init_0 : decode cX6_init 0 = .ok (.aload_n 0, 1) := by decide +kernel
theorem dX6_init_1 : decode cX6_init 1 = .ok (.invokespecial 3, 3) := by decide +kernel
theorem dX6_init_4 : decode cX6_init 4 = .ok (.aload_n 0, 1) := by decide +kernel
theorem dX6_init_5 : decode cX6_init 5 = .ok (.iconst 0, 1) := by decide +kernel
theorem dX6_init_6 : decode cX6_init 6 = .ok (.putfield 9, 3) := by decide +kernel
theorem dX6_init_9 : decode cX6_init 9 = .ok (.aload_n 0, 1) := by decide +kernel
theorem dX6_init_10 : decode cX6_init 10 = .ok (.iconst 0, 1) := by decide +kernel
theorem dX6_init_11 : decode cX6_init 11 = .ok (.putfield 15, 3) := by decide +kernel
theorem dX6_init_14 : decode cX6_init 14 = .ok (.aload_n 0, 1) := by decide +kernel
theorem dX6_init_15 : decode cX6_init 15 = .ok (.iload_n 1, 1) := by decide +kernel
theorem dX6_init_16 : decode cX6_init 16 = .ok (.putfield 18, 3) := by decide +kernel
theorem dX6_init_19 : decode cX6_init 19 = .ok (.aload_n 0, 1) := by decide +kernel
theorem dX6_init_20 : decode cX6_init 20 = .ok (.iload_n 2, 1) := by decide +kernel
theorem dX6_init_21 : decode cX6_init 21 = .ok (.putfield 21, 3) := by decide +kernel
theorem dX6_init_24 : decode cX6_init 24 = .ok (.aload_n 0, 1) := by decide +kernel
theorem dX6_init_25 : decode cX6_init 25 = .ok (.iload_n 3, 1) := by decide +kernel
theorem dX6_init_26 : decode cX6_init 26 = .ok (.putfield 24, 3) := by decide +kernel
theorem dX6_init_29 : decode cX6_init 29 = .ok (.return_, 1) := by decide +kernel
theorem dX6_isAttachedTo_0 : decode cX6_isAttachedTo 0 = .ok (.aload_n 0, 1) := by decide +kernel
theorem dX6_isAttachedTo_1 : decode cX6_isAttachedTo 1 = .ok (.getfield 9, 3) := by decide +kernel
theorem dX6_isAttachedTo_4 : decode cX6_isAttachedTo 4 = .ok (.aload_n 1, 1) := by decide +kernel
theorem dX6_isAttachedTo_5 : decode cX6_isAttachedTo 5 = .ok (.getfield 27, 3) := by decide +kernel
theorem dX6_isAttachedTo_8 : decode cX6_isAttachedTo 8 = .ok (.ishr, 1) := by decide +kernel
theorem dX6_isAttachedTo_9 : decode cX6_isAttachedTo 9 = .ok (.iconst 1, 1) := by decide +kernel
theorem dX6_isAttachedTo_10 : decode cX6_isAttachedTo 10 = .ok (.iand, 1) := by decide +kernel
theorem dX6_isAttachedTo_11 : decode cX6_isAttachedTo 11 = .ok (.iconst 1, 1) := by decide +kernel
theorem dX6_isAttachedTo_12 : decode cX6_isAttachedTo 12 = .ok (.if_icmp .ne 7, 3) := by decide +kernel
theorem dX6_isAttachedTo_15 : decode cX6_isAttachedTo 15 = .ok (.iconst 1, 1) := by decide +kernel
theorem dX6_isAttachedTo_16 : decode cX6_isAttachedTo 16 = .ok (.goto 4, 3) := by decide +kernel
theorem dX6_isAttachedTo_19 : decode cX6_isAttachedTo 19 = .ok (.iconst 0, 1) := by decide +kernel
theorem dX6_isAttachedTo_20 : decode cX6_isAttachedTo 20 = .ok (.ireturn, 1) := by decide +kernel
theorem dX6_reachInto_0 : decode cX6_reachInto 0 = .ok (.aload_n 0, 1) := by decide +kernel
theorem dX6_reachInto_1 : decode cX6_reachInto 1 = .ok (.aload_n 1, 1) := by decide +kernel
theorem dX6_reachInto_2 : decode cX6_reachInto 2 = .ok (.invokevirtual 30, 3) := by decide +kernel
theorem dX6_reachInto_5 : decode cX6_reachInto 5 = .ok (.ifCond .eq 15, 3) := by decide +kernel
theorem dX6_reachInto_8 : decode cX6_reachInto 8 = .ok (.aload_n 0, 1) := by decide +kernel
theorem dX6_reachInto_9 : decode cX6_reachInto 9 = .ok (.aload_n 0, 1) := by decide +kernel
theorem dX6_reachInto_10 : decode cX6_reachInto 10 = .ok (.getfield 24, 3) := by decide +kernel
theorem dX6_reachInto_13 : decode cX6_reachInto 13 = .ok (.aload_n 1, 1) := by decide +kernel
theorem dX6_reachInto_14 : decode cX6_reachInto 14 = .ok (.invokevirtual 34, 3) := by decide +kernel
theorem dX6_reachInto_17 : decode cX6_reachInto 17 = .ok (.goto 4, 3) := by decide +kernel
theorem dX6_reachInto_20 : decode cX6_reachInto 20 = .ok (.iconst (-1), 1) := by decide +kernel
theorem dX6_reachInto_21 : decode cX6_reachInto 21 = .ok (.ireturn, 1) := by decide +kernel
theorem dX6_reachWith_0 : decode cX6_reachWith 0 = .ok (.aload_n 0, 1) := by decide +kernel
theorem dX6_reachWith_1 : decode cX6_reachWith 1 = .ok (.getfield 21, 3) := by decide +kernel
theorem dX6_reachWith_4 : decode cX6_reachWith 4 = .ok (.iconst 1, 1) := by decide +kernel
theorem dX6_reachWith_5 : decode cX6_reachWith 5 = .ok (.if_icmp .ne 6, 3) := by decide +kernel
theorem dX6_reachWith_8 : decode cX6_reachWith 8 = .ok (.bipush 9, 2) := by decide +kernel
theorem dX6_reachWith_10 : decode cX6_reachWith 10 = .ok (.ireturn, 1) := by decide +kernel
theorem dX6_reachWith_11 : decode cX6_reachWith 11 = .ok (.bipush 9, 2) := by decide +kernel
theorem dX6_reachWith_13 : decode cX6_reachWith 13 = .ok (.aload_n 0, 1) := by decide +kernel
theorem dX6_reachWith_14 : decode cX6_reachWith 14 = .ok (.aload_n 2, 1) := by decide +kernel
theorem dX6_reachWith_15 : decode cX6_reachWith 15 = .ok (.invokevirtual 38, 3) := by decide +kernel
theorem dX6_reachWith_18 : decode cX6_reachWith 18 = .ok (.ifCond .eq 9, 3) := by decide +kernel
theorem dX6_reachWith_21 : decode cX6_reachWith 21 = .ok (.iload_n 1, 1) := by decide +kernel
theorem dX6_reachWith_22 : decode cX6_reachWith 22 = .ok (.iconst 2, 1) := by decide +kernel
theorem dX6_reachWith_23 : decode cX6_reachWith 23 = .ok (.iadd, 1) := by decide +kernel
theorem dX6_reachWith_24 : decode cX6_reachWith 24 = .ok (.goto 4, 3) := by decide +kernel
theorem dX6_reachWith_27 : decode cX6_reachWith 27 = .ok (.iload_n 1, 1) := by decide +kernel
theorem dX6_reachWith_28 : decode cX6_reachWith 28 = .ok (.invokestatic 41, 3) := by decide +kernel
theorem dX6_reachWith_31 : decode cX6_reachWith 31 = .ok (.ireturn, 1) := by decide +kernel
theorem dX6_canSeeInto_0 : decode cX6_canSeeInto 0 = .ok (.aload_n 1, 1) := by decide +kernel
theorem dX6_canSeeInto_1 : decode cX6_canSeeInto 1 = .ok (.getfield 47, 3) := by decide +kernel
theorem dX6_canSeeInto_4 : decode cX6_canSeeInto 4 = .ok (.aload_n 0, 1) := by decide +kernel
theorem dX6_canSeeInto_5 : decode cX6_canSeeInto 5 = .ok (.aload_n 0, 1) := by decide +kernel
theorem dX6_canSeeInto_6 : decode cX6_canSeeInto 6 = .ok (.getfield 24, 3) := by decide +kernel
theorem dX6_canSeeInto_9 : decode cX6_canSeeInto 9 = .ok (.aload_n 1, 1) := by decide +kernel
theorem dX6_canSeeInto_10 : decode cX6_canSeeInto 10 = .ok (.invokevirtual 34, 3) := by decide +kernel
theorem dX6_canSeeInto_13 : decode cX6_canSeeInto 13 = .ok (.if_icmp .gt 7, 3) := by decide +kernel
theorem dX6_canSeeInto_16 : decode cX6_canSeeInto 16 = .ok (.iconst 1, 1) := by decide +kernel
theorem dX6_canSeeInto_17 : decode cX6_canSeeInto 17 = .ok (.goto 4, 3) := by decide +kernel
theorem dX6_canSeeInto_20 : decode cX6_canSeeInto 20 = .ok (.iconst 0, 1) := by decide +kernel
theorem dX6_canSeeInto_21 : decode cX6_canSeeInto 21 = .ok (.ireturn, 1) := by decide +kernel
theorem dX6_warn_0 : decode cX6_warn 0 = .ok (.aload_n 0, 1) := by decide +kernel
theorem dX6_warn_1 : decode cX6_warn 1 = .ok (.dup, 1) := by decide +kernel
theorem dX6_warn_2 : decode cX6_warn 2 = .ok (.getfield 15, 3) := by decide +kernel
theorem dX6_warn_5 : decode cX6_warn 5 = .ok (.iconst 1, 1) := by decide +kernel
theorem dX6_warn_6 : decode cX6_warn 6 = .ok (.iadd, 1) := by decide +kernel
theorem dX6_warn_7 : decode cX6_warn 7 = .ok (.putfield 15, 3) := by decide +kernel
theorem dX6_warn_10 : decode cX6_warn 10 = .ok (.aload_n 0, 1) := by decide +kernel
theorem dX6_warn_11 : decode cX6_warn 11 = .ok (.getfield 15, 3) := by decide +kernel
theorem dX6_warn_14 : decode cX6_warn 14 = .ok (.iconst 3, 1) := by decide +kernel
theorem dX6_warn_15 : decode cX6_warn 15 = .ok (.if_icmp .lt 22, 3) := by decide +kernel
theorem dX6_warn_18 : decode cX6_warn 18 = .ok (.aload_n 0, 1) := by decide +kernel
theorem dX6_warn_19 : decode cX6_warn 19 = .ok (.iconst 0, 1) := by decide +kernel
theorem dX6_warn_20 : decode cX6_warn 20 = .ok (.putfield 15, 3) := by decide +kernel
theorem dX6_warn_23 : decode cX6_warn 23 = .ok (.aload_n 0, 1) := by decide +kernel
theorem dX6_warn_24 : decode cX6_warn 24 = .ok (.iconst 0, 1) := by decide +kernel
theorem dX6_warn_25 : decode cX6_warn 25 = .ok (.aload_n 0, 1) := by decide +kernel
theorem dX6_warn_26 : decode cX6_warn 26 = .ok (.getfield 24, 3) := by decide +kernel
theorem dX6_warn_29 : decode cX6_warn 29 = .ok (.iconst 1, 1) := by decide +kernel
theorem dX6_warn_30 : decode cX6_warn 30 = .ok (.isub, 1) := by decide +kernel
theorem dX6_warn_31 : decode cX6_warn 31 = .ok (.invokestatic 50, 3) := by decide +kernel
theorem dX6_warn_34 : decode cX6_warn 34 = .ok (.putfield 24, 3) := by decide +kernel
theorem dX6_warn_37 : decode cX6_warn 37 = .ok (.return_, 1) := by decide +kernel
theorem dX7_init_0 : decode cX7_init 0 = .ok (.aload_n 0, 1) := by decide +kernel
theorem dX7_init_1 : decode cX7_init 1 = .ok (.invokespecial 3, 3) := by decide +kernel
theorem dX7_init_4 : decode cX7_init 4 = .ok (.aload_n 0, 1) := by decide +kernel
theorem dX7_init_5 : decode cX7_init 5 = .ok (.new 9, 3) := by decide +kernel
theorem dX7_init_8 : decode cX7_init 8 = .ok (.dup, 1) := by decide +kernel
theorem dX7_init_9 : decode cX7_init 9 = .ok (.invokespecial 11, 3) := by decide +kernel
theorem dX7_init_12 : decode cX7_init 12 = .ok (.putfield 12, 3) := by decide +kernel
theorem dX7_init_15 : decode cX7_init 15 = .ok (.aload_n 0, 1) := by decide +kernel
theorem dX7_init_16 : decode cX7_init 16 = .ok (.new 9, 3) := by decide +kernel
theorem dX7_init_19 : decode cX7_init 19 = .ok (.dup, 1) := by decide +kernel
theorem dX7_init_20 : decode cX7_init 20 = .ok (.invokespecial 11, 3) := by decide +kernel
theorem dX7_init_23 : decode cX7_init 23 = .ok (.putfield 16, 3) := by decide +kernel
theorem dX7_init_26 : decode cX7_init 26 = .ok (.aload_n 0, 1) := by decide +kernel
theorem dX7_init_27 : decode cX7_init 27 = .ok (.new 9, 3) := by decide +kernel
theorem dX7_init_30 : decode cX7_init 30 = .ok (.dup, 1) := by decide +kernel
theorem dX7_init_31 : decode cX7_init 31 = .ok (.invokespecial 11, 3) := by decide +kernel
theorem dX7_init_34 : decode cX7_init 34 = .ok (.putfield 19, 3) := by decide +kernel
theorem dX7_init_37 : decode cX7_init 37 = .ok (.aload_n 0, 1) := by decide +kernel
theorem dX7_init_38 : decode cX7_init 38 = .ok (.new 9, 3) := by decide +kernel
theorem dX7_init_41 : decode cX7_init 41 = .ok (.dup, 1) := by decide +kernel
theorem dX7_init_42 : decode cX7_init 42 = .ok (.invokespecial 11, 3) := by decide +kernel
theorem dX7_init_45 : decode cX7_init 45 = .ok (.putfield 22, 3) := by decide +kernel
theorem dX7_init_48 : decode cX7_init 48 = .ok (.aload_n 0, 1) := by decide +kernel
theorem dX7_init_49 : decode cX7_init 49 = .ok (.new 9, 3) := by decide +kernel
theorem dX7_init_52 : decode cX7_init 52 = .ok (.dup, 1) := by decide +kernel
theorem dX7_init_53 : decode cX7_init 53 = .ok (.invokespecial 11, 3) := by decide +kernel
theorem dX7_init_56 : decode cX7_init 56 = .ok (.putfield 25, 3) := by decide +kernel
theorem dX7_init_59 : decode cX7_init 59 = .ok (.aload_n 0, 1) := by decide +kernel
theorem dX7_init_60 : decode cX7_init 60 = .ok (.sipush 1000, 3) := by decide +kernel
theorem dX7_init_63 : decode cX7_init 63 = .ok (.newarray .int, 2) := by decide +kernel
theorem dX7_init_65 : decode cX7_init 65 = .ok (.putfield 28, 3) := by decide +kernel
theorem dX7_init_68 : decode cX7_init 68 = .ok (.aload_n 0, 1) := by decide +kernel
theorem dX7_init_69 : decode cX7_init 69 = .ok (.iconst 0, 1) := by decide +kernel
theorem dX7_init_70 : decode cX7_init 70 = .ok (.putfield 32, 3) := by decide +kernel
theorem dX7_init_73 : decode cX7_init 73 = .ok (.aload_n 0, 1) := by decide +kernel
theorem dX7_init_74 : decode cX7_init 74 = .ok (.sipush 2500, 3) := by decide +kernel
theorem dX7_init_77 : decode cX7_init 77 = .ok (.newarray .int, 2) := by decide +kernel
theorem dX7_init_79 : decode cX7_init 79 = .ok (.putfield 36, 3) := by decide +kernel
theorem dX7_init_82 : decode cX7_init 82 = .ok (.aload_n 0, 1) := by decide +kernel
theorem dX7_init_83 : decode cX7_init 83 = .ok (.iconst 0, 1) := by decide +kernel
theorem dX7_init_84 : decode cX7_init 84 = .ok (.putfield 39, 3) := by decide +kernel
theorem dX7_init_87 : decode cX7_init 87 = .ok (.aload_n 0, 1) := by decide +kernel
theorem dX7_init_88 : decode cX7_init 88 = .ok (.new 42, 3) := by decide +kernel
theorem dX7_init_91 : decode cX7_init 91 = .ok (.dup, 1) := by decide +kernel
theorem dX7_init_92 : decode cX7_init 92 = .ok (.invokespecial 44, 3) := by decide +kernel
theorem dX7_init_95 : decode cX7_init 95 = .ok (.putfield 45, 3) := by decide +kernel
theorem dX7_init_98 : decode cX7_init 98 = .ok (.aload_n 0, 1) := by decide +kernel
theorem dX7_init_99 : decode cX7_init 99 = .ok (.iconst (-1), 1) := by decide +kernel
theorem dX7_init_100 : decode cX7_init 100 = .ok (.putfield 49, 3) := by decide +kernel
theorem dX7_init_103 : decode cX7_init 103 = .ok (.aload_n 0, 1) := by decide +kernel
theorem dX7_init_104 : decode cX7_init 104 = .ok (.iconst 0, 1) := by decide +kernel
theorem dX7_init_105 : decode cX7_init 105 = .ok (.putfield 52, 3) := by decide +kernel
theorem dX7_init_108 : decode cX7_init 108 = .ok (.return_, 1) := by decide +kernel
theorem dX7_feed_0 : decode cX7_feed 0 = .ok (.aload_n 0, 1) := by decide +kernel
theorem dX7_feed_1 : decode cX7_feed 1 = .ok (.getfield 32, 3) := by decide +kernel
theorem dX7_feed_4 : decode cX7_feed 4 = .ok (.bipush 20, 2) := by decide +kernel
theorem dX7_feed_6 : decode cX7_feed 6 = .ok (.iadd, 1) := by decide +kernel
theorem dX7_feed_7 : decode cX7_feed 7 = .ok (.sipush 1000, 3) := by decide +kernel
theorem dX7_feed_10 : decode cX7_feed 10 = .ok (.if_icmp .le 13, 3) := by decide +kernel
theorem dX7_feed_13 : decode cX7_feed 13 = .ok (.new 55, 3) := by decide +kernel
theorem dX7_feed_16 : decode cX7_feed 16 = .ok (.dup, 1) := by decide +kernel
theorem dX7_feed_17 : decode cX7_feed 17 = .ok (.ldc 57, 2) := by decide +kernel
theorem dX7_feed_19 : decode cX7_feed 19 = .ok (.invokespecial 59, 3) := by decide +kernel
theorem dX7_feed_22 : decode cX7_feed 22 = .ok (.athrow, 1) := by decide +kernel
theorem dX7_feed_23 : decode cX7_feed 23 = .ok (.aload_n 0, 1) := by decide +kernel
theorem dX7_feed_24 : decode cX7_feed 24 = .ok (.iload_n 1, 1) := by decide +kernel
theorem dX7_feed_25 : decode cX7_feed 25 = .ok (.invokevirtual 62, 3) := by decide +kernel
theorem dX7_feed_28 : decode cX7_feed 28 = .ok (.aload_n 0, 1) := by decide +kernel
theorem dX7_feed_29 : decode cX7_feed 29 = .ok (.iload_n 2, 1) := by decide +kernel
theorem dX7_feed_30 : decode cX7_feed 30 = .ok (.invokevirtual 62, 3) := by decide +kernel
theorem dX7_feed_33 : decode cX7_feed 33 = .ok (.aload_n 0, 1) := by decide +kernel
theorem dX7_feed_34 : decode cX7_feed 34 = .ok (.iload_n 3, 1) := by decide +kernel
theorem dX7_feed_35 : decode cX7_feed 35 = .ok (.invokevirtual 62, 3) := by decide +kernel
theorem dX7_feed_38 : decode cX7_feed 38 = .ok (.aload_n 0, 1) := by decide +kernel
theorem dX7_feed_39 : decode cX7_feed 39 = .ok (.iload 4, 2) := by decide +kernel
theorem dX7_feed_41 : decode cX7_feed 41 = .ok (.invokevirtual 62, 3) := by decide +kernel
theorem dX7_feed_44 : decode cX7_feed 44 = .ok (.aload_n 0, 1) := by decide +kernel
theorem dX7_feed_45 : decode cX7_feed 45 = .ok (.iload 5, 2) := by decide +kernel
theorem dX7_feed_47 : decode cX7_feed 47 = .ok (.invokevirtual 62, 3) := by decide +kernel
theorem dX7_feed_50 : decode cX7_feed 50 = .ok (.aload_n 0, 1) := by decide +kernel
theorem dX7_feed_51 : decode cX7_feed 51 = .ok (.getfield 32, 3) := by decide +kernel
theorem dX7_feed_54 : decode cX7_feed 54 = .ok (.ireturn, 1) := by decide +kernel
theorem dX7_trim_0 : decode cX7_trim 0 = .ok (.iload_n 1, 1) := by decide +kernel
theorem dX7_trim_1 : decode cX7_trim 1 = .ok (.ifCond .lt 11, 3) := by decide +kernel
theorem dX7_trim_4 : decode cX7_trim 4 = .ok (.iload_n 1, 1) := by decide +kernel
theorem dX7_trim_5 : decode cX7_trim 5 = .ok (.aload_n 0, 1) := by decide +kernel
theorem dX7_trim_6 : decode cX7_trim 6 = .ok (.getfield 32, 3) := by decide +kernel
theorem dX7_trim_9 : decode cX7_trim 9 = .ok (.if_icmp .le 13, 3) := by decide +kernel
theorem dX7_trim_12 : decode cX7_trim 12 = .ok (.new 66, 3) := by decide +kernel
theorem dX7_trim_15 : decode cX7_trim 15 = .ok (.dup, 1) := by decide +kernel
theorem dX7_trim_16 : decode cX7_trim 16 = .ok (.ldc 68, 2) := by decide +kernel
theorem dX7_trim_18 : decode cX7_trim 18 = .ok (.invokespecial 70, 3) := by decide +kernel
theorem dX7_trim_21 : decode cX7_trim 21 = .ok (.athrow, 1) := by decide +kernel
theorem dX7_trim_22 : decode cX7_trim 22 = .ok (.aload_n 0, 1) := by decide +kernel
theorem dX7_trim_23 : decode cX7_trim 23 = .ok (.iload_n 1, 1) := by decide +kernel
theorem dX7_trim_24 : decode cX7_trim 24 = .ok (.putfield 32, 3) := by decide +kernel
theorem dX7_trim_27 : decode cX7_trim 27 = .ok (.iload_n 1, 1) := by decide +kernel
theorem dX7_trim_28 : decode cX7_trim 28 = .ok (.ireturn, 1) := by decide +kernel
theorem dX7_file_0 : decode cX7_file 0 = .ok (.aload_n 0, 1) := by decide +kernel
theorem dX7_file_1 : decode cX7_file 1 = .ok (.iload_n 1, 1) := by decide +kernel
theorem dX7_file_2 : decode cX7_file 2 = .ok (.invokevirtual 71, 3) := by decide +kernel
theorem dX7_file_5 : decode cX7_file 5 = .ok (.astore_n 2, 1) := by decide +kernel
theorem dX7_file_6 : decode cX7_file 6 = .ok (.aload_n 2, 1) := by decide +kernel
theorem dX7_file_7 : decode cX7_file 7 = .ok (.ifnonnull 13, 3) := by decide +kernel
theorem dX7_file_10 : decode cX7_file 10 = .ok (.new 75, 3) := by decide +kernel
theorem dX7_file_13 : decode cX7_file 13 = .ok (.dup, 1) := by decide +kernel
theorem dX7_file_14 : decode cX7_file 14 = .ok (.ldc 77, 2) := by decide +kernel
theorem dX7_file_16 : decode cX7_file 16 = .ok (.invokespecial 79, 3) := by decide +kernel
theorem dX7_file_19 : decode cX7_file 19 = .ok (.athrow, 1) := by decide +kernel
theorem dX7_file_20 : decode cX7_file 20 = .ok (.aload_n 0, 1) := by decide +kernel
theorem dX7_file_21 : decode cX7_file 21 = .ok (.getfield 19, 3) := by decide +kernel
theorem dX7_file_24 : decode cX7_file 24 = .ok (.invokevirtual 80, 3) := by decide +kernel
theorem dX7_file_27 : decode cX7_file 27 = .ok (.bipush 24, 2) := by decide +kernel
theorem dX7_file_29 : decode cX7_file 29 = .ok (.if_icmp .lt 13, 3) := by decide +kernel
theorem dX7_file_32 : decode cX7_file 32 = .ok (.new 55, 3) := by decide +kernel
theorem dX7_file_35 : decode cX7_file 35 = .ok (.dup, 1) := by decide +kernel
theorem dX7_file_36 : decode cX7_file 36 = .ok (.ldc 84, 2) := by decide +kernel
theorem dX7_file_38 : decode cX7_file 38 = .ok (.invokespecial 59, 3) := by decide +kernel
theorem dX7_file_41 : decode cX7_file 41 = .ok (.athrow, 1) := by decide +kernel
theorem dX7_file_42 : decode cX7_file 42 = .ok (.aload_n 0, 1) := by decide +kernel
theorem dX7_file_43 : decode cX7_file 43 = .ok (.getfield 45, 3) := by decide +kernel
theorem dX7_file_46 : decode cX7_file 46 = .ok (.aload_n 0, 1) := by decide +kernel
theorem dX7_file_47 : decode cX7_file 47 = .ok (.getfield 28, 3) := by decide +kernel
theorem dX7_file_50 : decode cX7_file 50 = .ok (.aload_n 0, 1) := by decide +kernel
theorem dX7_file_51 : decode cX7_file 51 = .ok (.getfield 32, 3) := by decide +kernel
theorem dX7_file_54 : decode cX7_file 54 = .ok (.aload_n 0, 1) := by decide +kernel
theorem dX7_file_55 : decode cX7_file 55 = .ok (.aload_n 2, 1) := by decide +kernel
theorem dX7_file_56 : decode cX7_file 56 = .ok (.invokevirtual 86, 3) := by decide +kernel
theorem dX7_file_59 : decode cX7_file 59 = .ok (.invokevirtual 90, 3) := by decide +kernel
theorem dX7_file_62 : decode cX7_file 62 = .ok (.istore_n 3, 1) := by decide +kernel
theorem dX7_file_63 : decode cX7_file 63 = .ok (.aload_n 0, 1) := by decide +kernel
theorem dX7_file_64 : decode cX7_file 64 = .ok (.iconst 0, 1) := by decide +kernel
theorem dX7_file_65 : decode cX7_file 65 = .ok (.putfield 32, 3) := by decide +kernel
theorem dX7_file_68 : decode cX7_file 68 = .ok (.aload_n 0, 1) := by decide +kernel
theorem dX7_file_69 : decode cX7_file 69 = .ok (.aload_n 0, 1) := by decide +kernel
theorem dX7_file_70 : decode cX7_file 70 = .ok (.getfield 45, 3) := by decide +kernel
theorem dX7_file_73 : decode cX7_file 73 = .ok (.getfield 94, 3) := by decide +kernel
theorem dX7_file_76 : decode cX7_file 76 = .ok (.putfield 49, 3) := by decide +kernel
theorem dX7_file_79 : decode cX7_file 79 = .ok (.iload_n 3, 1) := by decide +kernel
theorem dX7_file_80 : decode cX7_file 80 = .ok (.ifCond .eq 6, 3) := by decide +kernel
theorem dX7_file_83 : decode cX7_file 83 = .ok (.iload_n 3, 1) := by decide +kernel
theorem dX7_file_84 : decode cX7_file 84 = .ok (.ineg, 1) := by decide +kernel
theorem dX7_file_85 : decode cX7_file 85 = .ok (.ireturn, 1) := by decide +kernel
theorem dX7_file_86 : decode cX7_file 86 = .ok (.aload_n 0, 1) := by decide +kernel
theorem dX7_file_87 : decode cX7_file 87 = .ok (.getfield 19, 3) := by decide +kernel
theorem dX7_file_90 : decode cX7_file 90 = .ok (.new 95, 3) := by decide +kernel
theorem dX7_file_93 : decode cX7_file 93 = .ok (.dup, 1) := by decide +kernel
theorem dX7_file_94 : decode cX7_file 94 = .ok (.aload_n 2, 1) := by decide +kernel
theorem dX7_file_95 : decode cX7_file 95 = .ok (.aload_n 0, 1) := by decide +kernel
theorem dX7_file_96 : decode cX7_file 96 = .ok (.getfield 45, 3) := by decide +kernel
theorem dX7_file_99 : decode cX7_file 99 = .ok (.invokespecial 97, 3) := by decide +kernel
theorem dX7_file_102 : decode cX7_file 102 = .ok (.invokevirtual 100, 3) := by decide +kernel
theorem dX7_file_105 : decode cX7_file 105 = .ok (.pop, 1) := by decide +kernel
theorem dX7_file_106 : decode cX7_file 106 = .ok (.aload_n 0, 1) := by decide +kernel
theorem dX7_file_107 : decode cX7_file 107 = .ok (.getfield 19, 3) := by decide +kernel
theorem dX7_file_110 : decode cX7_file 110 = .ok (.invokevirtual 80, 3) := by decide +kernel
theorem dX7_file_113 : decode cX7_file 113 = .ok (.iconst 1, 1) := by decide +kernel
theorem dX7_file_114 : decode cX7_file 114 = .ok (.isub, 1) := by decide +kernel
theorem dX7_file_115 : decode cX7_file 115 = .ok (.ireturn, 1) := by decide +kernel
theorem dX7_errorAt_0 : decode cX7_errorAt 0 = .ok (.aload_n 0, 1) := by decide +kernel
theorem dX7_errorAt_1 : decode cX7_errorAt 1 = .ok (.getfield 49, 3) := by decide +kernel
theorem dX7_errorAt_4 : decode cX7_errorAt 4 = .ok (.ireturn, 1) := by decide +kernel
theorem dX7_veil_0 : decode cX7_veil 0 = .ok (.aload_n 0, 1) := by decide +kernel
theorem dX7_veil_1 : decode cX7_veil 1 = .ok (.iload_n 1, 1) := by decide +kernel
theorem dX7_veil_2 : decode cX7_veil 2 = .ok (.invokevirtual 104, 3) := by decide +kernel
theorem dX7_veil_5 : decode cX7_veil 5 = .ok (.astore 5, 2) := by decide +kernel
theorem dX7_veil_7 : decode cX7_veil 7 = .ok (.aload 5, 2) := by decide +kernel
theorem dX7_veil_9 : decode cX7_veil 9 = .ok (.ifnonnull 13, 3) := by decide +kernel
theorem dX7_veil_12 : decode cX7_veil 12 = .ok (.new 75, 3) := by decide +kernel
theorem dX7_veil_15 : decode cX7_veil 15 = .ok (.dup, 1) := by decide +kernel
theorem dX7_veil_16 : decode cX7_veil 16 = .ok (.ldc 108, 2) := by decide +kernel
theorem dX7_veil_18 : decode cX7_veil 18 = .ok (.invokespecial 79, 3) := by decide +kernel
theorem dX7_veil_21 : decode cX7_veil 21 = .ok (.athrow, 1) := by decide +kernel
theorem dX7_veil_22 : decode cX7_veil 22 = .ok (.aload 5, 2) := by decide +kernel
theorem dX7_veil_24 : decode cX7_veil 24 = .ok (.iload_n 2, 1) := by decide +kernel
theorem dX7_veil_25 : decode cX7_veil 25 = .ok (.iload_n 3, 1) := by decide +kernel
theorem dX7_veil_26 : decode cX7_veil 26 = .ok (.invokevirtual 110, 3) := by decide +kernel
theorem dX7_veil_29 : decode cX7_veil 29 = .ok (.ifCond .eq 11, 3) := by decide +kernel
theorem dX7_veil_32 : decode cX7_veil 32 = .ok (.iload 4, 2) := by decide +kernel
theorem dX7_veil_34 : decode cX7_veil 34 = .ok (.invokestatic 114, 3) := by decide +kernel
theorem dX7_veil_37 : decode cX7_veil 37 = .ok (.ifCond .ne 13, 3) := by decide +kernel
theorem dX7_veil_40 : decode cX7_veil 40 = .ok (.new 66, 3) := by decide +kernel
theorem dX7_veil_43 : decode cX7_veil 43 = .ok (.dup, 1) := by decide +kernel
theorem dX7_veil_44 : decode cX7_veil 44 = .ok (.ldc 118, 2) := by decide +kernel
theorem dX7_veil_46 : decode cX7_veil 46 = .ok (.invokespecial 70, 3) := by decide +kernel
theorem dX7_veil_49 : decode cX7_veil 49 = .ok (.athrow, 1) := by decide +kernel
theorem dX7_veil_50 : decode cX7_veil 50 = .ok (.aload 5, 2) := by decide +kernel
theorem dX7_veil_52 : decode cX7_veil 52 = .ok (.iload_n 2, 1) := by decide +kernel
theorem dX7_veil_53 : decode cX7_veil 53 = .ok (.iload_n 3, 1) := by decide +kernel
theorem dX7_veil_54 : decode cX7_veil 54 = .ok (.iload 4, 2) := by decide +kernel
theorem dX7_veil_56 : decode cX7_veil 56 = .ok (.invokevirtual 120, 3) := by decide +kernel
theorem dX7_veil_59 : decode cX7_veil 59 = .ok (.ireturn, 1) := by decide +kernel
theorem dX7_document_0 : decode cX7_document 0 = .ok (.aload_n 0, 1) := by decide +kernel
theorem dX7_document_1 : decode cX7_document 1 = .ok (.iload_n 1, 1) := by decide +kernel
theorem dX7_document_2 : decode cX7_document 2 = .ok (.invokevirtual 104, 3) := by decide +kernel
theorem dX7_document_5 : decode cX7_document 5 = .ok (.astore_n 3, 1) := by decide +kernel
theorem dX7_document_6 : decode cX7_document 6 = .ok (.aload_n 3, 1) := by decide +kernel
theorem dX7_document_7 : decode cX7_document 7 = .ok (.ifnull 13, 3) := by decide +kernel
theorem dX7_document_10 : decode cX7_document 10 = .ok (.iload_n 2, 1) := by decide +kernel
theorem dX7_document_11 : decode cX7_document 11 = .ok (.ifCond .lt 9, 3) := by decide +kernel
theorem dX7_document_14 : decode cX7_document 14 = .ok (.iload_n 2, 1) := by decide +kernel
theorem dX7_document_15 : decode cX7_document 15 = .ok (.bipush 7, 2) := by decide +kernel
theorem dX7_document_17 : decode cX7_document 17 = .ok (.if_icmp .le 13, 3) := by decide +kernel
theorem dX7_document_20 : decode cX7_document 20 = .ok (.new 75, 3) := by decide +kernel
theorem dX7_document_23 : decode cX7_document 23 = .ok (.dup, 1) := by decide +kernel
theorem dX7_document_24 : decode cX7_document 24 = .ok (.ldc 124, 2) := by decide +kernel
theorem dX7_document_26 : decode cX7_document 26 = .ok (.invokespecial 79, 3) := by decide +kernel
theorem dX7_document_29 : decode cX7_document 29 = .ok (.athrow, 1) := by decide +kernel
theorem dX7_document_30 : decode cX7_document 30 = .ok (.aload_n 3, 1) := by decide +kernel
theorem dX7_document_31 : decode cX7_document 31 = .ok (.iload_n 2, 1) := by decide +kernel
theorem dX7_document_32 : decode cX7_document 32 = .ok (.invokestatic 126, 3) := by decide +kernel
theorem dX7_document_35 : decode cX7_document 35 = .ok (.ireturn, 1) := by decide +kernel
theorem dX7_open_0 : decode cX7_open 0 = .ok (.iload_n 1, 1) := by decide +kernel
theorem dX7_open_1 : decode cX7_open 1 = .ok (.invokestatic 114, 3) := by decide +kernel
theorem dX7_open_4 : decode cX7_open 4 = .ok (.ifCond .ne 13, 3) := by decide +kernel
theorem dX7_open_7 : decode cX7_open 7 = .ok (.new 66, 3) := by decide +kernel
theorem dX7_open_10 : decode cX7_open 10 = .ok (.dup, 1) := by decide +kernel
theorem dX7_open_11 : decode cX7_open 11 = .ok (.ldc 130, 2) := by decide +kernel
theorem dX7_open_13 : decode cX7_open 13 = .ok (.invokespecial 70, 3) := by decide +kernel
theorem dX7_open_16 : decode cX7_open 16 = .ok (.athrow, 1) := by decide +kernel
theorem dX7_open_17 : decode cX7_open 17 = .ok (.aload_n 0, 1) := by decide +kernel
theorem dX7_open_18 : decode cX7_open 18 = .ok (.getfield 12, 3) := by decide +kernel
theorem dX7_open_21 : decode cX7_open 21 = .ok (.invokevirtual 80, 3) := by decide +kernel
theorem dX7_open_24 : decode cX7_open 24 = .ok (.bipush 8, 2) := by decide +kernel
theorem dX7_open_26 : decode cX7_open 26 = .ok (.if_icmp .lt 13, 3) := by decide +kernel
theorem dX7_open_29 : decode cX7_open 29 = .ok (.new 55, 3) := by decide +kernel
theorem dX7_open_32 : decode cX7_open 32 = .ok (.dup, 1) := by decide +kernel
theorem dX7_open_33 : decode cX7_open 33 = .ok (.ldc 132, 2) := by decide +kernel
theorem dX7_open_35 : decode cX7_open 35 = .ok (.invokespecial 59, 3) := by decide +kernel
theorem dX7_open_38 : decode cX7_open 38 = .ok (.athrow, 1) := by decide +kernel
theorem dX7_open_39 : decode cX7_open 39 = .ok (.aload_n 0, 1) := by decide +kernel
theorem dX7_open_40 : decode cX7_open 40 = .ok (.getfield 12, 3) := by decide +kernel
theorem dX7_open_43 : decode cX7_open 43 = .ok (.new 134, 3) := by decide +kernel
theorem dX7_open_46 : decode cX7_open 46 = .ok (.dup, 1) := by decide +kernel
theorem dX7_open_47 : decode cX7_open 47 = .ok (.aload_n 0, 1) := by decide +kernel
theorem dX7_open_48 : decode cX7_open 48 = .ok (.getfield 12, 3) := by decide +kernel
theorem dX7_open_51 : decode cX7_open 51 = .ok (.invokevirtual 80, 3) := by decide +kernel
theorem dX7_open_54 : decode cX7_open 54 = .ok (.iload_n 1, 1) := by decide +kernel
theorem dX7_open_55 : decode cX7_open 55 = .ok (.invokespecial 136, 3) := by decide +kernel
theorem dX7_open_58 : decode cX7_open 58 = .ok (.invokevirtual 100, 3) := by decide +kernel
theorem dX7_open_61 : decode cX7_open 61 = .ok (.pop, 1) := by decide +kernel
theorem dX7_open_62 : decode cX7_open 62 = .ok (.aload_n 0, 1) := by decide +kernel
theorem dX7_open_63 : decode cX7_open 63 = .ok (.getfield 12, 3) := by decide +kernel
theorem dX7_open_66 : decode cX7_open 66 = .ok (.invokevirtual 80, 3) := by decide +kernel
theorem dX7_open_69 : decode cX7_open 69 = .ok (.iconst 1, 1) := by decide +kernel
theorem dX7_open_70 : decode cX7_open 70 = .ok (.isub, 1) := by decide +kernel
theorem dX7_open_71 : decode cX7_open 71 = .ok (.ireturn, 1) := by decide +kernel
theorem dX7_seal_0 : decode cX7_seal 0 = .ok (.aload_n 0, 1) := by decide +kernel
theorem dX7_seal_1 : decode cX7_seal 1 = .ok (.iload_n 1, 1) := by decide +kernel
theorem dX7_seal_2 : decode cX7_seal 2 = .ok (.invokevirtual 71, 3) := by decide +kernel
theorem dX7_seal_5 : decode cX7_seal 5 = .ok (.astore_n 3, 1) := by decide +kernel
theorem dX7_seal_6 : decode cX7_seal 6 = .ok (.aload_n 3, 1) := by decide +kernel
theorem dX7_seal_7 : decode cX7_seal 7 = .ok (.ifnonnull 13, 3) := by decide +kernel
theorem dX7_seal_10 : decode cX7_seal 10 = .ok (.new 75, 3) := by decide +kernel
theorem dX7_seal_13 : decode cX7_seal 13 = .ok (.dup, 1) := by decide +kernel
theorem dX7_seal_14 : decode cX7_seal 14 = .ok (.ldc 77, 2) := by decide +kernel
theorem dX7_seal_16 : decode cX7_seal 16 = .ok (.invokespecial 79, 3) := by decide +kernel
theorem dX7_seal_19 : decode cX7_seal 19 = .ok (.athrow, 1) := by decide +kernel
theorem dX7_seal_20 : decode cX7_seal 20 = .ok (.iload_n 2, 1) := by decide +kernel
theorem dX7_seal_21 : decode cX7_seal 21 = .ok (.invokestatic 114, 3) := by decide +kernel
theorem dX7_seal_24 : decode cX7_seal 24 = .ok (.ifCond .ne 13, 3) := by decide +kernel
theorem dX7_seal_27 : decode cX7_seal 27 = .ok (.new 66, 3) := by decide +kernel
theorem dX7_seal_30 : decode cX7_seal 30 = .ok (.dup, 1) := by decide +kernel
theorem dX7_seal_31 : decode cX7_seal 31 = .ok (.ldc 130, 2) := by decide +kernel
theorem dX7_seal_33 : decode cX7_seal 33 = .ok (.invokespecial 70, 3) := by decide +kernel
theorem dX7_seal_36 : decode cX7_seal 36 = .ok (.athrow, 1) := by decide +kernel
theorem dX7_seal_37 : decode cX7_seal 37 = .ok (.aload_n 3, 1) := by decide +kernel
theorem dX7_seal_38 : decode cX7_seal 38 = .ok (.getfield 139, 3) := by decide +kernel
theorem dX7_seal_41 : decode cX7_seal 41 = .ok (.istore 4, 2) := by decide +kernel
theorem dX7_seal_43 : decode cX7_seal 43 = .ok (.aload_n 3, 1) := by decide +kernel
theorem dX7_seal_44 : decode cX7_seal 44 = .ok (.iload_n 2, 1) := by decide +kernel
theorem dX7_seal_45 : decode cX7_seal 45 = .ok (.putfield 139, 3) := by decide +kernel
theorem dX7_seal_48 : decode cX7_seal 48 = .ok (.iload 4, 2) := by decide +kernel
theorem dX7_seal_50 : decode cX7_seal 50 = .ok (.ireturn, 1) := by decide +kernel
theorem dX7_addPerson_0 : decode cX7_addPerson 0 = .ok (.iload_n 1, 1) := by decide +kernel
theorem dX7_addPerson_1 : decode cX7_addPerson 1 = .ok (.ifCond .lt 15, 3) := by decide +kernel
theorem dX7_addPerson_4 : decode cX7_addPerson 4 = .ok (.iload_n 1, 1) := by decide +kernel
theorem dX7_addPerson_5 : decode cX7_addPerson 5 = .ok (.iconst 3, 1) := by decide +kernel
theorem dX7_addPerson_6 : decode cX7_addPerson 6 = .ok (.if_icmp .gt 10, 3) := by decide +kernel
theorem dX7_addPerson_9 : decode cX7_addPerson 9 = .ok (.iload_n 2, 1) := by decide +kernel
theorem dX7_addPerson_10 : decode cX7_addPerson 10 = .ok (.invokestatic 114, 3) := by decide +kernel
theorem dX7_addPerson_13 : decode cX7_addPerson 13 = .ok (.ifCond .ne 13, 3) := by decide +kernel
theorem dX7_addPerson_16 : decode cX7_addPerson 16 = .ok (.new 66, 3) := by decide +kernel
theorem dX7_addPerson_19 : decode cX7_addPerson 19 = .ok (.dup, 1) := by decide +kernel
theorem dX7_addPerson_20 : decode cX7_addPerson 20 = .ok (.ldc 142, 2) := by decide +kernel
theorem dX7_addPerson_22 : decode cX7_addPerson 22 = .ok (.invokespecial 70, 3) := by decide +kernel
theorem dX7_addPerson_25 : decode cX7_addPerson 25 = .ok (.athrow, 1) := by decide +kernel
theorem dX7_addPerson_26 : decode cX7_addPerson 26 = .ok (.aload_n 0, 1) := by decide +kernel
theorem dX7_addPerson_27 : decode cX7_addPerson 27 = .ok (.getfield 16, 3) := by decide +kernel
theorem dX7_addPerson_30 : decode cX7_addPerson 30 = .ok (.invokevirtual 80, 3) := by decide +kernel
theorem dX7_addPerson_33 : decode cX7_addPerson 33 = .ok (.bipush 12, 2) := by decide +kernel
theorem dX7_addPerson_35 : decode cX7_addPerson 35 = .ok (.if_icmp .lt 13, 3) := by decide +kernel
theorem dX7_addPerson_38 : decode cX7_addPerson 38 = .ok (.new 55, 3) := by decide +kernel
theorem dX7_addPerson_41 : decode cX7_addPerson 41 = .ok (.dup, 1) := by decide +kernel
theorem dX7_addPerson_42 : decode cX7_addPerson 42 = .ok (.ldc 144, 2) := by decide +kernel
theorem dX7_addPerson_44 : decode cX7_addPerson 44 = .ok (.invokespecial 59, 3) := by decide +kernel
theorem dX7_addPerson_47 : decode cX7_addPerson 47 = .ok (.athrow, 1) := by decide +kernel
theorem dX7_addPerson_48 : decode cX7_addPerson 48 = .ok (.aload_n 0, 1) := by decide +kernel
theorem dX7_addPerson_49 : decode cX7_addPerson 49 = .ok (.getfield 16, 3) := by decide +kernel
theorem dX7_addPerson_52 : decode cX7_addPerson 52 = .ok (.new 146, 3) := by decide +kernel
theorem dX7_addPerson_55 : decode cX7_addPerson 55 = .ok (.dup, 1) := by decide +kernel
theorem dX7_addPerson_56 : decode cX7_addPerson 56 = .ok (.aload_n 0, 1) := by decide +kernel
theorem dX7_addPerson_57 : decode cX7_addPerson 57 = .ok (.getfield 16, 3) := by decide +kernel
theorem dX7_addPerson_60 : decode cX7_addPerson 60 = .ok (.invokevirtual 80, 3) := by decide +kernel
theorem dX7_addPerson_63 : decode cX7_addPerson 63 = .ok (.iload_n 1, 1) := by decide +kernel
theorem dX7_addPerson_64 : decode cX7_addPerson 64 = .ok (.iload_n 2, 1) := by decide +kernel
theorem dX7_addPerson_65 : decode cX7_addPerson 65 = .ok (.invokespecial 148, 3) := by decide +kernel
theorem dX7_addPerson_68 : decode cX7_addPerson 68 = .ok (.invokevirtual 100, 3) := by decide +kernel
theorem dX7_addPerson_71 : decode cX7_addPerson 71 = .ok (.pop, 1) := by decide +kernel
theorem dX7_addPerson_72 : decode cX7_addPerson 72 = .ok (.aload_n 0, 1) := by decide +kernel
theorem dX7_addPerson_73 : decode cX7_addPerson 73 = .ok (.getfield 16, 3) := by decide +kernel
theorem dX7_addPerson_76 : decode cX7_addPerson 76 = .ok (.invokevirtual 80, 3) := by decide +kernel
theorem dX7_addPerson_79 : decode cX7_addPerson 79 = .ok (.iconst 1, 1) := by decide +kernel
theorem dX7_addPerson_80 : decode cX7_addPerson 80 = .ok (.isub, 1) := by decide +kernel
theorem dX7_addPerson_81 : decode cX7_addPerson 81 = .ok (.ireturn, 1) := by decide +kernel
theorem dX7_attach_0 : decode cX7_attach 0 = .ok (.aload_n 0, 1) := by decide +kernel
theorem dX7_attach_1 : decode cX7_attach 1 = .ok (.iload_n 1, 1) := by decide +kernel
theorem dX7_attach_2 : decode cX7_attach 2 = .ok (.invokevirtual 151, 3) := by decide +kernel
theorem dX7_attach_5 : decode cX7_attach 5 = .ok (.astore_n 3, 1) := by decide +kernel
theorem dX7_attach_6 : decode cX7_attach 6 = .ok (.aload_n 0, 1) := by decide +kernel
theorem dX7_attach_7 : decode cX7_attach 7 = .ok (.iload_n 2, 1) := by decide +kernel
theorem dX7_attach_8 : decode cX7_attach 8 = .ok (.invokevirtual 71, 3) := by decide +kernel
theorem dX7_attach_11 : decode cX7_attach 11 = .ok (.astore 4, 2) := by decide +kernel
theorem dX7_attach_13 : decode cX7_attach 13 = .ok (.aload_n 3, 1) := by decide +kernel
theorem dX7_attach_14 : decode cX7_attach 14 = .ok (.ifnull 8, 3) := by decide +kernel
theorem dX7_attach_17 : decode cX7_attach 17 = .ok (.aload 4, 2) := by decide +kernel
theorem dX7_attach_19 : decode cX7_attach 19 = .ok (.ifnonnull 13, 3) := by decide +kernel
theorem dX7_attach_22 : decode cX7_attach 22 = .ok (.new 75, 3) := by decide +kernel
theorem dX7_attach_25 : decode cX7_attach 25 = .ok (.dup, 1) := by decide +kernel
theorem dX7_attach_26 : decode cX7_attach 26 = .ok (.ldc 155, 2) := by decide +kernel
theorem dX7_attach_28 : decode cX7_attach 28 = .ok (.invokespecial 79, 3) := by decide +kernel
theorem dX7_attach_31 : decode cX7_attach 31 = .ok (.athrow, 1) := by decide +kernel
theorem dX7_attach_32 : decode cX7_attach 32 = .ok (.aload_n 3, 1) := by decide +kernel
theorem dX7_attach_33 : decode cX7_attach 33 = .ok (.dup, 1) := by decide +kernel
theorem dX7_attach_34 : decode cX7_attach 34 = .ok (.getfield 157, 3) := by decide +kernel
theorem dX7_attach_37 : decode cX7_attach 37 = .ok (.iconst 1, 1) := by decide +kernel
theorem dX7_attach_38 : decode cX7_attach 38 = .ok (.aload 4, 2) := by decide +kernel
theorem dX7_attach_40 : decode cX7_attach 40 = .ok (.getfield 160, 3) := by decide +kernel
theorem dX7_attach_43 : decode cX7_attach 43 = .ok (.ishl, 1) := by decide +kernel
theorem dX7_attach_44 : decode cX7_attach 44 = .ok (.ixor, 1) := by decide +kernel
theorem dX7_attach_45 : decode cX7_attach 45 = .ok (.putfield 157, 3) := by decide +kernel
theorem dX7_attach_48 : decode cX7_attach 48 = .ok (.aload_n 3, 1) := by decide +kernel
theorem dX7_attach_49 : decode cX7_attach 49 = .ok (.aload 4, 2) := by decide +kernel
theorem dX7_attach_51 : decode cX7_attach 51 = .ok (.invokevirtual 163, 3) := by decide +kernel
theorem dX7_attach_54 : decode cX7_attach 54 = .ok (.ireturn, 1) := by decide +kernel
theorem dX7_person_0 : decode cX7_person 0 = .ok (.aload_n 0, 1) := by decide +kernel
theorem dX7_person_1 : decode cX7_person 1 = .ok (.iload_n 1, 1) := by decide +kernel
theorem dX7_person_2 : decode cX7_person 2 = .ok (.invokevirtual 151, 3) := by decide +kernel
theorem dX7_person_5 : decode cX7_person 5 = .ok (.astore_n 3, 1) := by decide +kernel
theorem dX7_person_6 : decode cX7_person 6 = .ok (.aload_n 3, 1) := by decide +kernel
theorem dX7_person_7 : decode cX7_person 7 = .ok (.ifnull 13, 3) := by decide +kernel
theorem dX7_person_10 : decode cX7_person 10 = .ok (.iload_n 2, 1) := by decide +kernel
theorem dX7_person_11 : decode cX7_person 11 = .ok (.ifCond .lt 9, 3) := by decide +kernel
theorem dX7_person_14 : decode cX7_person 14 = .ok (.iload_n 2, 1) := by decide +kernel
theorem dX7_person_15 : decode cX7_person 15 = .ok (.bipush 7, 2) := by decide +kernel
theorem dX7_person_17 : decode cX7_person 17 = .ok (.if_icmp .le 13, 3) := by decide +kernel
theorem dX7_person_20 : decode cX7_person 20 = .ok (.new 75, 3) := by decide +kernel
theorem dX7_person_23 : decode cX7_person 23 = .ok (.dup, 1) := by decide +kernel
theorem dX7_person_24 : decode cX7_person 24 = .ok (.ldc 167, 2) := by decide +kernel
theorem dX7_person_26 : decode cX7_person 26 = .ok (.invokespecial 79, 3) := by decide +kernel
theorem dX7_person_29 : decode cX7_person 29 = .ok (.athrow, 1) := by decide +kernel
theorem dX7_person_30 : decode cX7_person 30 = .ok (.aload_n 0, 1) := by decide +kernel
theorem dX7_person_31 : decode cX7_person 31 = .ok (.aload_n 3, 1) := by decide +kernel
theorem dX7_person_32 : decode cX7_person 32 = .ok (.iload_n 2, 1) := by decide +kernel
theorem dX7_person_33 : decode cX7_person 33 = .ok (.invokevirtual 169, 3) := by decide +kernel
theorem dX7_person_36 : decode cX7_person 36 = .ok (.ireturn, 1) := by decide +kernel
theorem dX7_caseOf_0 : decode cX7_caseOf 0 = .ok (.aload_n 0, 1) := by decide +kernel
theorem dX7_caseOf_1 : decode cX7_caseOf 1 = .ok (.iload_n 1, 1) := by decide +kernel
theorem dX7_caseOf_2 : decode cX7_caseOf 2 = .ok (.invokevirtual 71, 3) := by decide +kernel
theorem dX7_caseOf_5 : decode cX7_caseOf 5 = .ok (.astore_n 3, 1) := by decide +kernel
theorem dX7_caseOf_6 : decode cX7_caseOf 6 = .ok (.aload_n 3, 1) := by decide +kernel
theorem dX7_caseOf_7 : decode cX7_caseOf 7 = .ok (.ifnull 12, 3) := by decide +kernel
theorem dX7_caseOf_10 : decode cX7_caseOf 10 = .ok (.iload_n 2, 1) := by decide +kernel
theorem dX7_caseOf_11 : decode cX7_caseOf 11 = .ok (.ifCond .lt 8, 3) := by decide +kernel
theorem dX7_caseOf_14 : decode cX7_caseOf 14 = .ok (.iload_n 2, 1) := by decide +kernel
theorem dX7_caseOf_15 : decode cX7_caseOf 15 = .ok (.iconst 4, 1) := by decide +kernel
theorem dX7_caseOf_16 : decode cX7_caseOf 16 = .ok (.if_icmp .le 13, 3) := by decide +kernel
theorem dX7_caseOf_19 : decode cX7_caseOf 19 = .ok (.new 75, 3) := by decide +kernel
theorem dX7_caseOf_22 : decode cX7_caseOf 22 = .ok (.dup, 1) := by decide +kernel
theorem dX7_caseOf_23 : decode cX7_caseOf 23 = .ok (.ldc 173, 2) := by decide +kernel
theorem dX7_caseOf_25 : decode cX7_caseOf 25 = .ok (.invokespecial 79, 3) := by decide +kernel
theorem dX7_caseOf_28 : decode cX7_caseOf 28 = .ok (.athrow, 1) := by decide +kernel
theorem dX7_caseOf_29 : decode cX7_caseOf 29 = .ok (.aload_n 0, 1) := by decide +kernel
theorem dX7_caseOf_30 : decode cX7_caseOf 30 = .ok (.aload_n 3, 1) := by decide +kernel
theorem dX7_caseOf_31 : decode cX7_caseOf 31 = .ok (.iload_n 2, 1) := by decide +kernel
theorem dX7_caseOf_32 : decode cX7_caseOf 32 = .ok (.invokevirtual 175, 3) := by decide +kernel
theorem dX7_caseOf_35 : decode cX7_caseOf 35 = .ok (.ireturn, 1) := by decide +kernel
theorem dX7_read_0 : decode cX7_read 0 = .ok (.aload_n 0, 1) := by decide +kernel
theorem dX7_read_1 : decode cX7_read 1 = .ok (.iload_n 1, 1) := by decide +kernel
theorem dX7_read_2 : decode cX7_read 2 = .ok (.invokevirtual 151, 3) := by decide +kernel
theorem dX7_read_5 : decode cX7_read 5 = .ok (.astore_n 3, 1) := by decide +kernel
theorem dX7_read_6 : decode cX7_read 6 = .ok (.aload_n 0, 1) := by decide +kernel
theorem dX7_read_7 : decode cX7_read 7 = .ok (.iload_n 2, 1) := by decide +kernel
theorem dX7_read_8 : decode cX7_read 8 = .ok (.invokevirtual 104, 3) := by decide +kernel
theorem dX7_read_11 : decode cX7_read 11 = .ok (.astore 4, 2) := by decide +kernel
theorem dX7_read_13 : decode cX7_read 13 = .ok (.aload_n 3, 1) := by decide +kernel
theorem dX7_read_14 : decode cX7_read 14 = .ok (.ifnull 8, 3) := by decide +kernel
theorem dX7_read_17 : decode cX7_read 17 = .ok (.aload 4, 2) := by decide +kernel
theorem dX7_read_19 : decode cX7_read 19 = .ok (.ifnonnull 13, 3) := by decide +kernel
theorem dX7_read_22 : decode cX7_read 22 = .ok (.new 75, 3) := by decide +kernel
theorem dX7_read_25 : decode cX7_read 25 = .ok (.dup, 1) := by decide +kernel
theorem dX7_read_26 : decode cX7_read 26 = .ok (.ldc 179, 2) := by decide +kernel
theorem dX7_read_28 : decode cX7_read 28 = .ok (.invokespecial 79, 3) := by decide +kernel
theorem dX7_read_31 : decode cX7_read 31 = .ok (.athrow, 1) := by decide +kernel
theorem dX7_read_32 : decode cX7_read 32 = .ok (.aload_n 3, 1) := by decide +kernel
theorem dX7_read_33 : decode cX7_read 33 = .ok (.aload 4, 2) := by decide +kernel
theorem dX7_read_35 : decode cX7_read 35 = .ok (.getfield 181, 3) := by decide +kernel
theorem dX7_read_38 : decode cX7_read 38 = .ok (.invokevirtual 185, 3) := by decide +kernel
theorem dX7_read_41 : decode cX7_read 41 = .ok (.istore 5, 2) := by decide +kernel
theorem dX7_read_43 : decode cX7_read 43 = .ok (.iload 5, 2) := by decide +kernel
theorem dX7_read_45 : decode cX7_read 45 = .ok (.iconst (-1), 1) := by decide +kernel
theorem dX7_read_46 : decode cX7_read 46 = .ok (.if_icmp .ne 5, 3) := by decide +kernel
theorem dX7_read_49 : decode cX7_read 49 = .ok (.iconst (-1), 1) := by decide +kernel
theorem dX7_read_50 : decode cX7_read 50 = .ok (.ireturn, 1) := by decide +kernel
theorem dX7_read_51 : decode cX7_read 51 = .ok (.aload_n 0, 1) := by decide +kernel
theorem dX7_read_52 : decode cX7_read 52 = .ok (.aload 4, 2) := by decide +kernel
theorem dX7_read_54 : decode cX7_read 54 = .ok (.iload 5, 2) := by decide +kernel
theorem dX7_read_56 : decode cX7_read 56 = .ok (.invokevirtual 188, 3) := by decide +kernel
theorem dX7_read_59 : decode cX7_read 59 = .ok (.aload 4, 2) := by decide +kernel
theorem dX7_read_61 : decode cX7_read 61 = .ok (.aload_n 3, 1) := by decide +kernel
theorem dX7_read_62 : decode cX7_read 62 = .ok (.invokevirtual 192, 3) := by decide +kernel
theorem dX7_read_65 : decode cX7_read 65 = .ok (.aload_n 0, 1) := by decide +kernel
theorem dX7_read_66 : decode cX7_read 66 = .ok (.getfield 39, 3) := by decide +kernel
theorem dX7_read_69 : decode cX7_read 69 = .ok (.ireturn, 1) := by decide +kernel
theorem dX7_byteAt_0 : decode cX7_byteAt 0 = .ok (.iload_n 1, 1) := by decide +kernel
theorem dX7_byteAt_1 : decode cX7_byteAt 1 = .ok (.ifCond .lt 20, 3) := by decide +kernel
theorem dX7_byteAt_4 : decode cX7_byteAt 4 = .ok (.iload_n 1, 1) := by decide +kernel
theorem dX7_byteAt_5 : decode cX7_byteAt 5 = .ok (.aload_n 0, 1) := by decide +kernel
theorem dX7_byteAt_6 : decode cX7_byteAt 6 = .ok (.getfield 39, 3) := by decide +kernel
theorem dX7_byteAt_9 : decode cX7_byteAt 9 = .ok (.if_icmp .ge 12, 3) := by decide +kernel
theorem dX7_byteAt_12 : decode cX7_byteAt 12 = .ok (.iload_n 1, 1) := by decide +kernel
theorem dX7_byteAt_13 : decode cX7_byteAt 13 = .ok (.aload_n 0, 1) := by decide +kernel
theorem dX7_byteAt_14 : decode cX7_byteAt 14 = .ok (.getfield 36, 3) := by decide +kernel
theorem dX7_byteAt_17 : decode cX7_byteAt 17 = .ok (.arraylength, 1) := by decide +kernel
theorem dX7_byteAt_18 : decode cX7_byteAt 18 = .ok (.if_icmp .lt 13, 3) := by decide +kernel
theorem dX7_byteAt_21 : decode cX7_byteAt 21 = .ok (.new 75, 3) := by decide +kernel
theorem dX7_byteAt_24 : decode cX7_byteAt 24 = .ok (.dup, 1) := by decide +kernel
theorem dX7_byteAt_25 : decode cX7_byteAt 25 = .ok (.ldc 196, 2) := by decide +kernel
theorem dX7_byteAt_27 : decode cX7_byteAt 27 = .ok (.invokespecial 79, 3) := by decide +kernel
theorem dX7_byteAt_30 : decode cX7_byteAt 30 = .ok (.athrow, 1) := by decide +kernel
theorem dX7_byteAt_31 : decode cX7_byteAt 31 = .ok (.aload_n 0, 1) := by decide +kernel
theorem dX7_byteAt_32 : decode cX7_byteAt 32 = .ok (.getfield 36, 3) := by decide +kernel
theorem dX7_byteAt_35 : decode cX7_byteAt 35 = .ok (.iload_n 1, 1) := by decide +kernel
theorem dX7_byteAt_36 : decode cX7_byteAt 36 = .ok (.iaload, 1) := by decide +kernel
theorem dX7_byteAt_37 : decode cX7_byteAt 37 = .ok (.ireturn, 1) := by decide +kernel
theorem dX7_hidden_0 : decode cX7_hidden 0 = .ok (.aload_n 0, 1) := by decide +kernel
theorem dX7_hidden_1 : decode cX7_hidden 1 = .ok (.iload_n 1, 1) := by decide +kernel
theorem dX7_hidden_2 : decode cX7_hidden 2 = .ok (.invokevirtual 151, 3) := by decide +kernel
theorem dX7_hidden_5 : decode cX7_hidden 5 = .ok (.astore_n 3, 1) := by decide +kernel
theorem dX7_hidden_6 : decode cX7_hidden 6 = .ok (.aload_n 0, 1) := by decide +kernel
theorem dX7_hidden_7 : decode cX7_hidden 7 = .ok (.iload_n 2, 1) := by decide +kernel
theorem dX7_hidden_8 : decode cX7_hidden 8 = .ok (.invokevirtual 104, 3) := by decide +kernel
theorem dX7_hidden_11 : decode cX7_hidden 11 = .ok (.astore 4, 2) := by decide +kernel
theorem dX7_hidden_13 : decode cX7_hidden 13 = .ok (.aload_n 3, 1) := by decide +kernel
theorem dX7_hidden_14 : decode cX7_hidden 14 = .ok (.ifnull 8, 3) := by decide +kernel
theorem dX7_hidden_17 : decode cX7_hidden 17 = .ok (.aload 4, 2) := by decide +kernel
theorem dX7_hidden_19 : decode cX7_hidden 19 = .ok (.ifnonnull 13, 3) := by decide +kernel
theorem dX7_hidden_22 : decode cX7_hidden 22 = .ok (.new 75, 3) := by decide +kernel
theorem dX7_hidden_25 : decode cX7_hidden 25 = .ok (.dup, 1) := by decide +kernel
theorem dX7_hidden_26 : decode cX7_hidden 26 = .ok (.ldc 179, 2) := by decide +kernel
theorem dX7_hidden_28 : decode cX7_hidden 28 = .ok (.invokespecial 79, 3) := by decide +kernel
theorem dX7_hidden_31 : decode cX7_hidden 31 = .ok (.athrow, 1) := by decide +kernel
theorem dX7_hidden_32 : decode cX7_hidden 32 = .ok (.aload_n 3, 1) := by decide +kernel
theorem dX7_hidden_33 : decode cX7_hidden 33 = .ok (.aload 4, 2) := by decide +kernel
theorem dX7_hidden_35 : decode cX7_hidden 35 = .ok (.invokestatic 198, 3) := by decide +kernel
theorem dX7_hidden_38 : decode cX7_hidden 38 = .ok (.ireturn, 1) := by decide +kernel
theorem dX7_differs_0 : decode cX7_differs 0 = .ok (.aload_n 0, 1) := by decide +kernel
theorem dX7_differs_1 : decode cX7_differs 1 = .ok (.iload_n 1, 1) := by decide +kernel
theorem dX7_differs_2 : decode cX7_differs 2 = .ok (.invokevirtual 151, 3) := by decide +kernel
theorem dX7_differs_5 : decode cX7_differs 5 = .ok (.astore 4, 2) := by decide +kernel
theorem dX7_differs_7 : decode cX7_differs 7 = .ok (.aload_n 0, 1) := by decide +kernel
theorem dX7_differs_8 : decode cX7_differs 8 = .ok (.iload_n 2, 1) := by decide +kernel
theorem dX7_differs_9 : decode cX7_differs 9 = .ok (.invokevirtual 151, 3) := by decide +kernel
theorem dX7_differs_12 : decode cX7_differs 12 = .ok (.astore 5, 2) := by decide +kernel
theorem dX7_differs_14 : decode cX7_differs 14 = .ok (.aload_n 0, 1) := by decide +kernel
theorem dX7_differs_15 : decode cX7_differs 15 = .ok (.iload_n 3, 1) := by decide +kernel
theorem dX7_differs_16 : decode cX7_differs 16 = .ok (.invokevirtual 104, 3) := by decide +kernel
theorem dX7_differs_19 : decode cX7_differs 19 = .ok (.astore 6, 2) := by decide +kernel
theorem dX7_differs_21 : decode cX7_differs 21 = .ok (.aload 4, 2) := by decide +kernel
theorem dX7_differs_23 : decode cX7_differs 23 = .ok (.ifnull 13, 3) := by decide +kernel
theorem dX7_differs_26 : decode cX7_differs 26 = .ok (.aload 5, 2) := by decide +kernel
theorem dX7_differs_28 : decode cX7_differs 28 = .ok (.ifnull 8, 3) := by decide +kernel
theorem dX7_differs_31 : decode cX7_differs 31 = .ok (.aload 6, 2) := by decide +kernel
theorem dX7_differs_33 : decode cX7_differs 33 = .ok (.ifnonnull 13, 3) := by decide +kernel
theorem dX7_differs_36 : decode cX7_differs 36 = .ok (.new 75, 3) := by decide +kernel
theorem dX7_differs_39 : decode cX7_differs 39 = .ok (.dup, 1) := by decide +kernel
theorem dX7_differs_40 : decode cX7_differs 40 = .ok (.ldc 179, 2) := by decide +kernel
theorem dX7_differs_42 : decode cX7_differs 42 = .ok (.invokespecial 79, 3) := by decide +kernel
theorem dX7_differs_45 : decode cX7_differs 45 = .ok (.athrow, 1) := by decide +kernel
theorem dX7_differs_46 : decode cX7_differs 46 = .ok (.aload 4, 2) := by decide +kernel
theorem dX7_differs_48 : decode cX7_differs 48 = .ok (.aload 6, 2) := by decide +kernel
theorem dX7_differs_50 : decode cX7_differs 50 = .ok (.getfield 181, 3) := by decide +kernel
theorem dX7_differs_53 : decode cX7_differs 53 = .ok (.invokevirtual 185, 3) := by decide +kernel
theorem dX7_differs_56 : decode cX7_differs 56 = .ok (.istore 7, 2) := by decide +kernel
theorem dX7_differs_58 : decode cX7_differs 58 = .ok (.aload 5, 2) := by decide +kernel
theorem dX7_differs_60 : decode cX7_differs 60 = .ok (.aload 6, 2) := by decide +kernel
theorem dX7_differs_62 : decode cX7_differs 62 = .ok (.getfield 181, 3) := by decide +kernel
theorem dX7_differs_65 : decode cX7_differs 65 = .ok (.invokevirtual 185, 3) := by decide +kernel
theorem dX7_differs_68 : decode cX7_differs 68 = .ok (.istore 8, 2) := by decide +kernel
theorem dX7_differs_70 : decode cX7_differs 70 = .ok (.iconst 0, 1) := by decide +kernel
theorem dX7_differs_71 : decode cX7_differs 71 = .ok (.istore 9, 2) := by decide +kernel
theorem dX7_differs_73 : decode cX7_differs 73 = .ok (.iload 9, 2) := by decide +kernel
theorem dX7_differs_75 : decode cX7_differs 75 = .ok (.aload 6, 2) := by decide +kernel
theorem dX7_differs_77 : decode cX7_differs 77 = .ok (.getfield 202, 3) := by decide +kernel
theorem dX7_differs_80 : decode cX7_differs 80 = .ok (.arraylength, 1) := by decide +kernel
theorem dX7_differs_81 : decode cX7_differs 81 = .ok (.if_icmp .ge 33, 3) := by decide +kernel
theorem dX7_differs_84 : decode cX7_differs 84 = .ok (.aload 6, 2) := by decide +kernel
theorem dX7_differs_86 : decode cX7_differs 86 = .ok (.iload 9, 2) := by decide +kernel
theorem dX7_differs_88 : decode cX7_differs 88 = .ok (.iload 7, 2) := by decide +kernel
theorem dX7_differs_90 : decode cX7_differs 90 = .ok (.invokevirtual 206, 3) := by decide +kernel
theorem dX7_differs_93 : decode cX7_differs 93 = .ok (.aload 6, 2) := by decide +kernel
theorem dX7_differs_95 : decode cX7_differs 95 = .ok (.iload 9, 2) := by decide +kernel
theorem dX7_differs_97 : decode cX7_differs 97 = .ok (.iload 8, 2) := by decide +kernel
theorem dX7_differs_99 : decode cX7_differs 99 = .ok (.invokevirtual 206, 3) := by decide +kernel
theorem dX7_differs_102 : decode cX7_differs 102 = .ok (.if_icmp .eq 6, 3) := by decide +kernel
theorem dX7_differs_105 : decode cX7_differs 105 = .ok (.iload 9, 2) := by decide +kernel
theorem dX7_differs_107 : decode cX7_differs 107 = .ok (.ireturn, 1) := by decide +kernel
theorem dX7_differs_108 : decode cX7_differs 108 = .ok (.iinc 9 1, 3) := by decide +kernel
theorem dX7_differs_111 : decode cX7_differs 111 = .ok (.goto (-38), 3) := by decide +kernel
theorem dX7_differs_114 : decode cX7_differs 114 = .ok (.iconst (-1), 1) := by decide +kernel
theorem dX7_differs_115 : decode cX7_differs 115 = .ok (.ireturn, 1) := by decide +kernel
theorem dX7_find_0 : decode cX7_find 0 = .ok (.aload_n 0, 1) := by decide +kernel
theorem dX7_find_1 : decode cX7_find 1 = .ok (.iload_n 1, 1) := by decide +kernel
theorem dX7_find_2 : decode cX7_find 2 = .ok (.invokevirtual 151, 3) := by decide +kernel
theorem dX7_find_5 : decode cX7_find 5 = .ok (.astore_n 3, 1) := by decide +kernel
theorem dX7_find_6 : decode cX7_find 6 = .ok (.aload_n 0, 1) := by decide +kernel
theorem dX7_find_7 : decode cX7_find 7 = .ok (.iload_n 2, 1) := by decide +kernel
theorem dX7_find_8 : decode cX7_find 8 = .ok (.invokevirtual 104, 3) := by decide +kernel
theorem dX7_find_11 : decode cX7_find 11 = .ok (.astore 4, 2) := by decide +kernel
theorem dX7_find_13 : decode cX7_find 13 = .ok (.aload_n 3, 1) := by decide +kernel
theorem dX7_find_14 : decode cX7_find 14 = .ok (.ifnull 8, 3) := by decide +kernel
theorem dX7_find_17 : decode cX7_find 17 = .ok (.aload 4, 2) := by decide +kernel
theorem dX7_find_19 : decode cX7_find 19 = .ok (.ifnonnull 13, 3) := by decide +kernel
theorem dX7_find_22 : decode cX7_find 22 = .ok (.new 75, 3) := by decide +kernel
theorem dX7_find_25 : decode cX7_find 25 = .ok (.dup, 1) := by decide +kernel
theorem dX7_find_26 : decode cX7_find 26 = .ok (.ldc 179, 2) := by decide +kernel
theorem dX7_find_28 : decode cX7_find 28 = .ok (.invokespecial 79, 3) := by decide +kernel
theorem dX7_find_31 : decode cX7_find 31 = .ok (.athrow, 1) := by decide +kernel
theorem dX7_find_32 : decode cX7_find 32 = .ok (.aload_n 3, 1) := by decide +kernel
theorem dX7_find_33 : decode cX7_find 33 = .ok (.aload 4, 2) := by decide +kernel
theorem dX7_find_35 : decode cX7_find 35 = .ok (.getfield 181, 3) := by decide +kernel
theorem dX7_find_38 : decode cX7_find 38 = .ok (.invokevirtual 185, 3) := by decide +kernel
theorem dX7_find_41 : decode cX7_find 41 = .ok (.istore 5, 2) := by decide +kernel
theorem dX7_find_43 : decode cX7_find 43 = .ok (.aload_n 0, 1) := by decide +kernel
theorem dX7_find_44 : decode cX7_find 44 = .ok (.getfield 32, 3) := by decide +kernel
theorem dX7_find_47 : decode cX7_find 47 = .ok (.ifCond .eq 9, 3) := by decide +kernel
theorem dX7_find_50 : decode cX7_find 50 = .ok (.iload 5, 2) := by decide +kernel
theorem dX7_find_52 : decode cX7_find 52 = .ok (.iconst (-1), 1) := by decide +kernel
theorem dX7_find_53 : decode cX7_find 53 = .ok (.if_icmp .ne 5, 3) := by decide +kernel
theorem dX7_find_56 : decode cX7_find 56 = .ok (.iconst (-1), 1) := by decide +kernel
theorem dX7_find_57 : decode cX7_find 57 = .ok (.ireturn, 1) := by decide +kernel
theorem dX7_find_58 : decode cX7_find 58 = .ok (.iconst 0, 1) := by decide +kernel
theorem dX7_find_59 : decode cX7_find 59 = .ok (.istore 6, 2) := by decide +kernel
theorem dX7_find_61 : decode cX7_find 61 = .ok (.iload 6, 2) := by decide +kernel
theorem dX7_find_63 : decode cX7_find 63 = .ok (.aload_n 0, 1) := by decide +kernel
theorem dX7_find_64 : decode cX7_find 64 = .ok (.getfield 32, 3) := by decide +kernel
theorem dX7_find_67 : decode cX7_find 67 = .ok (.iadd, 1) := by decide +kernel
theorem dX7_find_68 : decode cX7_find 68 = .ok (.aload 4, 2) := by decide +kernel
theorem dX7_find_70 : decode cX7_find 70 = .ok (.getfield 202, 3) := by decide +kernel
theorem dX7_find_73 : decode cX7_find 73 = .ok (.arraylength, 1) := by decide +kernel
theorem dX7_find_74 : decode cX7_find 74 = .ok (.if_icmp .gt 25, 3) := by decide +kernel
theorem dX7_find_77 : decode cX7_find 77 = .ok (.aload_n 0, 1) := by decide +kernel
theorem dX7_find_78 : decode cX7_find 78 = .ok (.aload 4, 2) := by decide +kernel
theorem dX7_find_80 : decode cX7_find 80 = .ok (.iload 6, 2) := by decide +kernel
theorem dX7_find_82 : decode cX7_find 82 = .ok (.iload 5, 2) := by decide +kernel
theorem dX7_find_84 : decode cX7_find 84 = .ok (.invokevirtual 210, 3) := by decide +kernel
theorem dX7_find_87 : decode cX7_find 87 = .ok (.ifCond .eq 6, 3) := by decide +kernel
theorem dX7_find_90 : decode cX7_find 90 = .ok (.iload 6, 2) := by decide +kernel
theorem dX7_find_92 : decode cX7_find 92 = .ok (.ireturn, 1) := by decide +kernel
theorem dX7_find_93 : decode cX7_find 93 = .ok (.iinc 6 1, 3) := by decide +kernel
theorem dX7_find_96 : decode cX7_find 96 = .ok (.goto (-35), 3) := by decide +kernel
theorem dX7_find_99 : decode cX7_find 99 = .ok (.iconst (-1), 1) := by decide +kernel
theorem dX7_find_100 : decode cX7_find 100 = .ok (.ireturn, 1) := by decide +kernel
theorem dX7_least_0 : decode cX7_least 0 = .ok (.aload_n 0, 1) := by decide +kernel
theorem dX7_least_1 : decode cX7_least 1 = .ok (.iload_n 1, 1) := by decide +kernel
theorem dX7_least_2 : decode cX7_least 2 = .ok (.invokevirtual 104, 3) := by decide +kernel
theorem dX7_least_5 : decode cX7_least 5 = .ok (.astore 4, 2) := by decide +kernel
theorem dX7_least_7 : decode cX7_least 7 = .ok (.aload 4, 2) := by decide +kernel
theorem dX7_least_9 : decode cX7_least 9 = .ok (.ifnonnull 13, 3) := by decide +kernel
theorem dX7_least_12 : decode cX7_least 12 = .ok (.new 75, 3) := by decide +kernel
theorem dX7_least_15 : decode cX7_least 15 = .ok (.dup, 1) := by decide +kernel
theorem dX7_least_16 : decode cX7_least 16 = .ok (.ldc 108, 2) := by decide +kernel
theorem dX7_least_18 : decode cX7_least 18 = .ok (.invokespecial 79, 3) := by decide +kernel
theorem dX7_least_21 : decode cX7_least 21 = .ok (.athrow, 1) := by decide +kernel
theorem dX7_least_22 : decode cX7_least 22 = .ok (.aload 4, 2) := by decide +kernel
theorem dX7_least_24 : decode cX7_least 24 = .ok (.iload_n 2, 1) := by decide +kernel
theorem dX7_least_25 : decode cX7_least 25 = .ok (.iload_n 3, 1) := by decide +kernel
theorem dX7_least_26 : decode cX7_least 26 = .ok (.invokevirtual 110, 3) := by decide +kernel
theorem dX7_least_29 : decode cX7_least 29 = .ok (.ifCond .ne 13, 3) := by decide +kernel
theorem dX7_least_32 : decode cX7_least 32 = .ok (.new 66, 3) := by decide +kernel
theorem dX7_least_35 : decode cX7_least 35 = .ok (.dup, 1) := by decide +kernel
theorem dX7_least_36 : decode cX7_least 36 = .ok (.ldc 214, 2) := by decide +kernel
theorem dX7_least_38 : decode cX7_least 38 = .ok (.invokespecial 70, 3) := by decide +kernel
theorem dX7_least_41 : decode cX7_least 41 = .ok (.athrow, 1) := by decide +kernel
theorem dX7_least_42 : decode cX7_least 42 = .ok (.aload 4, 2) := by decide +kernel
theorem dX7_least_44 : decode cX7_least 44 = .ok (.getfield 181, 3) := by decide +kernel
theorem dX7_least_47 : decode cX7_least 47 = .ok (.getfield 139, 3) := by decide +kernel
theorem dX7_least_50 : decode cX7_least 50 = .ok (.istore 5, 2) := by decide +kernel
theorem dX7_least_52 : decode cX7_least 52 = .ok (.iload 5, 2) := by decide +kernel
theorem dX7_least_54 : decode cX7_least 54 = .ok (.bipush 9, 2) := by decide +kernel
theorem dX7_least_56 : decode cX7_least 56 = .ok (.if_icmp .ge 24, 3) := by decide +kernel
theorem dX7_least_59 : decode cX7_least 59 = .ok (.aload 4, 2) := by decide +kernel
theorem dX7_least_61 : decode cX7_least 61 = .ok (.iload_n 2, 1) := by decide +kernel
theorem dX7_least_62 : decode cX7_least 62 = .ok (.iload_n 3, 1) := by decide +kernel
theorem dX7_least_63 : decode cX7_least 63 = .ok (.iload 5, 2) := by decide +kernel
theorem dX7_least_65 : decode cX7_least 65 = .ok (.invokevirtual 216, 3) := by decide +kernel
theorem dX7_least_68 : decode cX7_least 68 = .ok (.ifCond .ne 6, 3) := by decide +kernel
theorem dX7_least_71 : decode cX7_least 71 = .ok (.iload 5, 2) := by decide +kernel
theorem dX7_least_73 : decode cX7_least 73 = .ok (.ireturn, 1) := by decide +kernel
theorem dX7_least_74 : decode cX7_least 74 = .ok (.iinc 5 1, 3) := by decide +kernel
theorem dX7_least_77 : decode cX7_least 77 = .ok (.goto (-25), 3) := by decide +kernel
theorem dX7_least_80 : decode cX7_least 80 = .ok (.bipush 9, 2) := by decide +kernel
theorem dX7_least_82 : decode cX7_least 82 = .ok (.ireturn, 1) := by decide +kernel
theorem dX7_lend_0 : decode cX7_lend 0 = .ok (.aload_n 0, 1) := by decide +kernel
theorem dX7_lend_1 : decode cX7_lend 1 = .ok (.iload_n 1, 1) := by decide +kernel
theorem dX7_lend_2 : decode cX7_lend 2 = .ok (.invokevirtual 104, 3) := by decide +kernel
theorem dX7_lend_5 : decode cX7_lend 5 = .ok (.astore 4, 2) := by decide +kernel
theorem dX7_lend_7 : decode cX7_lend 7 = .ok (.aload_n 0, 1) := by decide +kernel
theorem dX7_lend_8 : decode cX7_lend 8 = .ok (.iload_n 2, 1) := by decide +kernel
theorem dX7_lend_9 : decode cX7_lend 9 = .ok (.invokevirtual 151, 3) := by decide +kernel
theorem dX7_lend_12 : decode cX7_lend 12 = .ok (.astore 5, 2) := by decide +kernel
theorem dX7_lend_14 : decode cX7_lend 14 = .ok (.aload 4, 2) := by decide +kernel
theorem dX7_lend_16 : decode cX7_lend 16 = .ok (.ifnull 8, 3) := by decide +kernel
theorem dX7_lend_19 : decode cX7_lend 19 = .ok (.aload 5, 2) := by decide +kernel
theorem dX7_lend_21 : decode cX7_lend 21 = .ok (.ifnonnull 13, 3) := by decide +kernel
theorem dX7_lend_24 : decode cX7_lend 24 = .ok (.new 75, 3) := by decide +kernel
theorem dX7_lend_27 : decode cX7_lend 27 = .ok (.dup, 1) := by decide +kernel
theorem dX7_lend_28 : decode cX7_lend 28 = .ok (.ldc 219, 2) := by decide +kernel
theorem dX7_lend_30 : decode cX7_lend 30 = .ok (.invokespecial 79, 3) := by decide +kernel
theorem dX7_lend_33 : decode cX7_lend 33 = .ok (.athrow, 1) := by decide +kernel
theorem dX7_lend_34 : decode cX7_lend 34 = .ok (.iload_n 3, 1) := by decide +kernel
theorem dX7_lend_35 : decode cX7_lend 35 = .ok (.iconst 1, 1) := by decide +kernel
theorem dX7_lend_36 : decode cX7_lend 36 = .ok (.if_icmp .lt 9, 3) := by decide +kernel
theorem dX7_lend_39 : decode cX7_lend 39 = .ok (.iload_n 3, 1) := by decide +kernel
theorem dX7_lend_40 : decode cX7_lend 40 = .ok (.bipush 60, 2) := by decide +kernel
theorem dX7_lend_42 : decode cX7_lend 42 = .ok (.if_icmp .le 13, 3) := by decide +kernel
theorem dX7_lend_45 : decode cX7_lend 45 = .ok (.new 66, 3) := by decide +kernel
theorem dX7_lend_48 : decode cX7_lend 48 = .ok (.dup, 1) := by decide +kernel
theorem dX7_lend_49 : decode cX7_lend 49 = .ok (.ldc 221, 2) := by decide +kernel
theorem dX7_lend_51 : decode cX7_lend 51 = .ok (.invokespecial 70, 3) := by decide +kernel
theorem dX7_lend_54 : decode cX7_lend 54 = .ok (.athrow, 1) := by decide +kernel
theorem dX7_lend_55 : decode cX7_lend 55 = .ok (.aload 4, 2) := by decide +kernel
theorem dX7_lend_57 : decode cX7_lend 57 = .ok (.getfield 223, 3) := by decide +kernel
theorem dX7_lend_60 : decode cX7_lend 60 = .ok (.ifnonnull 13, 3) := by decide +kernel
theorem dX7_lend_63 : decode cX7_lend 63 = .ok (.aload 5, 2) := by decide +kernel
theorem dX7_lend_65 : decode cX7_lend 65 = .ok (.aload 4, 2) := by decide +kernel
theorem dX7_lend_67 : decode cX7_lend 67 = .ok (.invokestatic 198, 3) := by decide +kernel
theorem dX7_lend_70 : decode cX7_lend 70 = .ok (.ifCond .eq 13, 3) := by decide +kernel
theorem dX7_lend_73 : decode cX7_lend 73 = .ok (.new 55, 3) := by decide +kernel
theorem dX7_lend_76 : decode cX7_lend 76 = .ok (.dup, 1) := by decide +kernel
theorem dX7_lend_77 : decode cX7_lend 77 = .ok (.ldc 227, 2) := by decide +kernel
theorem dX7_lend_79 : decode cX7_lend 79 = .ok (.invokespecial 59, 3) := by decide +kernel
theorem dX7_lend_82 : decode cX7_lend 82 = .ok (.athrow, 1) := by decide +kernel
theorem dX7_lend_83 : decode cX7_lend 83 = .ok (.aload 4, 2) := by decide +kernel
theorem dX7_lend_85 : decode cX7_lend 85 = .ok (.aload 5, 2) := by decide +kernel
theorem dX7_lend_87 : decode cX7_lend 87 = .ok (.putfield 223, 3) := by decide +kernel
theorem dX7_lend_90 : decode cX7_lend 90 = .ok (.aload 4, 2) := by decide +kernel
theorem dX7_lend_92 : decode cX7_lend 92 = .ok (.aload_n 0, 1) := by decide +kernel
theorem dX7_lend_93 : decode cX7_lend 93 = .ok (.getfield 52, 3) := by decide +kernel
theorem dX7_lend_96 : decode cX7_lend 96 = .ok (.iload_n 3, 1) := by decide +kernel
theorem dX7_lend_97 : decode cX7_lend 97 = .ok (.iadd, 1) := by decide +kernel
theorem dX7_lend_98 : decode cX7_lend 98 = .ok (.putfield 229, 3) := by decide +kernel
theorem dX7_lend_101 : decode cX7_lend 101 = .ok (.aload 4, 2) := by decide +kernel
theorem dX7_lend_103 : decode cX7_lend 103 = .ok (.getfield 229, 3) := by decide +kernel
theorem dX7_lend_106 : decode cX7_lend 106 = .ok (.ireturn, 1) := by decide +kernel
theorem dX7_back_0 : decode cX7_back 0 = .ok (.aload_n 0, 1) := by decide +kernel
theorem dX7_back_1 : decode cX7_back 1 = .ok (.iload_n 1, 1) := by decide +kernel
theorem dX7_back_2 : decode cX7_back 2 = .ok (.invokevirtual 104, 3) := by decide +kernel
theorem dX7_back_5 : decode cX7_back 5 = .ok (.astore_n 2, 1) := by decide +kernel
theorem dX7_back_6 : decode cX7_back 6 = .ok (.aload_n 2, 1) := by decide +kernel
theorem dX7_back_7 : decode cX7_back 7 = .ok (.ifnonnull 13, 3) := by decide +kernel
theorem dX7_back_10 : decode cX7_back 10 = .ok (.new 75, 3) := by decide +kernel
theorem dX7_back_13 : decode cX7_back 13 = .ok (.dup, 1) := by decide +kernel
theorem dX7_back_14 : decode cX7_back 14 = .ok (.ldc 108, 2) := by decide +kernel
theorem dX7_back_16 : decode cX7_back 16 = .ok (.invokespecial 79, 3) := by decide +kernel
theorem dX7_back_19 : decode cX7_back 19 = .ok (.athrow, 1) := by decide +kernel
theorem dX7_back_20 : decode cX7_back 20 = .ok (.aload_n 2, 1) := by decide +kernel
theorem dX7_back_21 : decode cX7_back 21 = .ok (.getfield 223, 3) := by decide +kernel
theorem dX7_back_24 : decode cX7_back 24 = .ok (.invokestatic 232, 3) := by decide +kernel
theorem dX7_back_27 : decode cX7_back 27 = .ok (.istore_n 3, 1) := by decide +kernel
theorem dX7_back_28 : decode cX7_back 28 = .ok (.aload_n 2, 1) := by decide +kernel
theorem dX7_back_29 : decode cX7_back 29 = .ok (.invokevirtual 236, 3) := by decide +kernel
theorem dX7_back_32 : decode cX7_back 32 = .ok (.iload_n 3, 1) := by decide +kernel
theorem dX7_back_33 : decode cX7_back 33 = .ok (.ireturn, 1) := by decide +kernel
theorem dX7_takeIn_0 : decode cX7_takeIn 0 = .ok (.aload_n 0, 1) := by decide +kernel
theorem dX7_takeIn_1 : decode cX7_takeIn 1 = .ok (.iload_n 1, 1) := by decide +kernel
theorem dX7_takeIn_2 : decode cX7_takeIn 2 = .ok (.invokevirtual 71, 3) := by decide +kernel
theorem dX7_takeIn_5 : decode cX7_takeIn 5 = .ok (.astore_n 2, 1) := by decide +kernel
theorem dX7_takeIn_6 : decode cX7_takeIn 6 = .ok (.aload_n 2, 1) := by decide +kernel
theorem dX7_takeIn_7 : decode cX7_takeIn 7 = .ok (.ifnonnull 13, 3) := by decide +kernel
theorem dX7_takeIn_10 : decode cX7_takeIn 10 = .ok (.new 75, 3) := by decide +kernel
theorem dX7_takeIn_13 : decode cX7_takeIn 13 = .ok (.dup, 1) := by decide +kernel
theorem dX7_takeIn_14 : decode cX7_takeIn 14 = .ok (.ldc 77, 2) := by decide +kernel
theorem dX7_takeIn_16 : decode cX7_takeIn 16 = .ok (.invokespecial 79, 3) := by decide +kernel
theorem dX7_takeIn_19 : decode cX7_takeIn 19 = .ok (.athrow, 1) := by decide +kernel
theorem dX7_takeIn_20 : decode cX7_takeIn 20 = .ok (.aload_n 0, 1) := by decide +kernel
theorem dX7_takeIn_21 : decode cX7_takeIn 21 = .ok (.getfield 22, 3) := by decide +kernel
theorem dX7_takeIn_24 : decode cX7_takeIn 24 = .ok (.invokevirtual 80, 3) := by decide +kernel
theorem dX7_takeIn_27 : decode cX7_takeIn 27 = .ok (.bipush 20, 2) := by decide +kernel
theorem dX7_takeIn_29 : decode cX7_takeIn 29 = .ok (.if_icmp .lt 13, 3) := by decide +kernel
theorem dX7_takeIn_32 : decode cX7_takeIn 32 = .ok (.new 55, 3) := by decide +kernel
theorem dX7_takeIn_35 : decode cX7_takeIn 35 = .ok (.dup, 1) := by decide +kernel
theorem dX7_takeIn_36 : decode cX7_takeIn 36 = .ok (.ldc 239, 2) := by decide +kernel
theorem dX7_takeIn_38 : decode cX7_takeIn 38 = .ok (.invokespecial 59, 3) := by decide +kernel
theorem dX7_takeIn_41 : decode cX7_takeIn 41 = .ok (.athrow, 1) := by decide +kernel
theorem dX7_takeIn_42 : decode cX7_takeIn 42 = .ok (.aload_n 0, 1) := by decide +kernel
theorem dX7_takeIn_43 : decode cX7_takeIn 43 = .ok (.getfield 22, 3) := by decide +kernel
theorem dX7_takeIn_46 : decode cX7_takeIn 46 = .ok (.new 241, 3) := by decide +kernel
theorem dX7_takeIn_49 : decode cX7_takeIn 49 = .ok (.dup, 1) := by decide +kernel
theorem dX7_takeIn_50 : decode cX7_takeIn 50 = .ok (.aload_n 0, 1) := by decide +kernel
theorem dX7_takeIn_51 : decode cX7_takeIn 51 = .ok (.getfield 22, 3) := by decide +kernel
theorem dX7_takeIn_54 : decode cX7_takeIn 54 = .ok (.invokevirtual 80, 3) := by decide +kernel
theorem dX7_takeIn_57 : decode cX7_takeIn 57 = .ok (.aload_n 2, 1) := by decide +kernel
theorem dX7_takeIn_58 : decode cX7_takeIn 58 = .ok (.invokespecial 243, 3) := by decide +kernel
theorem dX7_takeIn_61 : decode cX7_takeIn 61 = .ok (.invokevirtual 100, 3) := by decide +kernel
theorem dX7_takeIn_64 : decode cX7_takeIn 64 = .ok (.pop, 1) := by decide +kernel
theorem dX7_takeIn_65 : decode cX7_takeIn 65 = .ok (.aload_n 0, 1) := by decide +kernel
theorem dX7_takeIn_66 : decode cX7_takeIn 66 = .ok (.getfield 22, 3) := by decide +kernel
theorem dX7_takeIn_69 : decode cX7_takeIn 69 = .ok (.invokevirtual 80, 3) := by decide +kernel
theorem dX7_takeIn_72 : decode cX7_takeIn 72 = .ok (.iconst 1, 1) := by decide +kernel
theorem dX7_takeIn_73 : decode cX7_takeIn 73 = .ok (.isub, 1) := by decide +kernel
theorem dX7_takeIn_74 : decode cX7_takeIn 74 = .ok (.ireturn, 1) := by decide +kernel
theorem dX7_hand_0 : decode cX7_hand 0 = .ok (.aload_n 0, 1) := by decide +kernel
theorem dX7_hand_1 : decode cX7_hand 1 = .ok (.iload_n 1, 1) := by decide +kernel
theorem dX7_hand_2 : decode cX7_hand 2 = .ok (.invokevirtual 246, 3) := by decide +kernel
theorem dX7_hand_5 : decode cX7_hand 5 = .ok (.astore_n 3, 1) := by decide +kernel
theorem dX7_hand_6 : decode cX7_hand 6 = .ok (.aload_n 0, 1) := by decide +kernel
theorem dX7_hand_7 : decode cX7_hand 7 = .ok (.iload_n 2, 1) := by decide +kernel
theorem dX7_hand_8 : decode cX7_hand 8 = .ok (.invokevirtual 151, 3) := by decide +kernel
theorem dX7_hand_11 : decode cX7_hand 11 = .ok (.astore 4, 2) := by decide +kernel
theorem dX7_hand_13 : decode cX7_hand 13 = .ok (.aload_n 3, 1) := by decide +kernel
theorem dX7_hand_14 : decode cX7_hand 14 = .ok (.ifnull 13, 3) := by decide +kernel
theorem dX7_hand_17 : decode cX7_hand 17 = .ok (.aload 4, 2) := by decide +kernel
theorem dX7_hand_19 : decode cX7_hand 19 = .ok (.ifnonnull 18, 3) := by decide +kernel
theorem dX7_hand_22 : decode cX7_hand 22 = .ok (.iload_n 2, 1) := by decide +kernel
theorem dX7_hand_23 : decode cX7_hand 23 = .ok (.iconst (-1), 1) := by decide +kernel
theorem dX7_hand_24 : decode cX7_hand 24 = .ok (.if_icmp .eq 13, 3) := by decide +kernel
theorem dX7_hand_27 : decode cX7_hand 27 = .ok (.new 75, 3) := by decide +kernel
theorem dX7_hand_30 : decode cX7_hand 30 = .ok (.dup, 1) := by decide +kernel
theorem dX7_hand_31 : decode cX7_hand 31 = .ok (.ldc 250, 2) := by decide +kernel
theorem dX7_hand_33 : decode cX7_hand 33 = .ok (.invokespecial 79, 3) := by decide +kernel
theorem dX7_hand_36 : decode cX7_hand 36 = .ok (.athrow, 1) := by decide +kernel
theorem dX7_hand_37 : decode cX7_hand 37 = .ok (.aload_n 3, 1) := by decide +kernel
theorem dX7_hand_38 : decode cX7_hand 38 = .ok (.getfield 252, 3) := by decide +kernel
theorem dX7_hand_41 : decode cX7_hand 41 = .ok (.ifCond .ne 19, 3) := by decide +kernel
theorem dX7_hand_44 : decode cX7_hand 44 = .ok (.aload_n 3, 1) := by decide +kernel
theorem dX7_hand_45 : decode cX7_hand 45 = .ok (.getfield 256, 3) := by decide +kernel
theorem dX7_hand_48 : decode cX7_hand 48 = .ok (.aload 4, 2) := by decide +kernel
theorem dX7_hand_50 : decode cX7_hand 50 = .ok (.if_acmp .eq 10, 3) := by decide +kernel
theorem dX7_hand_53 : decode cX7_hand 53 = .ok (.aload_n 3, 1) := by decide +kernel
theorem dX7_hand_54 : decode cX7_hand 54 = .ok (.invokevirtual 257, 3) := by decide +kernel
theorem dX7_hand_57 : decode cX7_hand 57 = .ok (.ifCond .eq 14, 3) := by decide +kernel
theorem dX7_hand_60 : decode cX7_hand 60 = .ok (.new 55, 3) := by decide +kernel
theorem dX7_hand_63 : decode cX7_hand 63 = .ok (.dup, 1) := by decide +kernel
theorem dX7_hand_64 : decode cX7_hand 64 = .ok (.ldc_w 261, 3) := by decide +kernel
theorem dX7_hand_67 : decode cX7_hand 67 = .ok (.invokespecial 59, 3) := by decide +kernel
theorem dX7_hand_70 : decode cX7_hand 70 = .ok (.athrow, 1) := by decide +kernel
theorem dX7_hand_71 : decode cX7_hand 71 = .ok (.aload 4, 2) := by decide +kernel
theorem dX7_hand_73 : decode cX7_hand 73 = .ok (.ifnull 26, 3) := by decide +kernel
theorem dX7_hand_76 : decode cX7_hand 76 = .ok (.aload 4, 2) := by decide +kernel
theorem dX7_hand_78 : decode cX7_hand 78 = .ok (.aload_n 3, 1) := by decide +kernel
theorem dX7_hand_79 : decode cX7_hand 79 = .ok (.getfield 263, 3) := by decide +kernel
theorem dX7_hand_82 : decode cX7_hand 82 = .ok (.invokevirtual 264, 3) := by decide +kernel
theorem dX7_hand_85 : decode cX7_hand 85 = .ok (.ifCond .ne 14, 3) := by decide +kernel
theorem dX7_hand_88 : decode cX7_hand 88 = .ok (.new 55, 3) := by decide +kernel
theorem dX7_hand_91 : decode cX7_hand 91 = .ok (.dup, 1) := by decide +kernel
theorem dX7_hand_92 : decode cX7_hand 92 = .ok (.ldc_w 267, 3) := by decide +kernel
theorem dX7_hand_95 : decode cX7_hand 95 = .ok (.invokespecial 59, 3) := by decide +kernel
theorem dX7_hand_98 : decode cX7_hand 98 = .ok (.athrow, 1) := by decide +kernel
theorem dX7_hand_99 : decode cX7_hand 99 = .ok (.aload_n 3, 1) := by decide +kernel
theorem dX7_hand_100 : decode cX7_hand 100 = .ok (.new 269, 3) := by decide +kernel
theorem dX7_hand_103 : decode cX7_hand 103 = .ok (.dup, 1) := by decide +kernel
theorem dX7_hand_104 : decode cX7_hand 104 = .ok (.aload_n 0, 1) := by decide +kernel
theorem dX7_hand_105 : decode cX7_hand 105 = .ok (.getfield 52, 3) := by decide +kernel
theorem dX7_hand_108 : decode cX7_hand 108 = .ok (.aload_n 3, 1) := by decide +kernel
theorem dX7_hand_109 : decode cX7_hand 109 = .ok (.getfield 256, 3) := by decide +kernel
theorem dX7_hand_112 : decode cX7_hand 112 = .ok (.aload 4, 2) := by decide +kernel
theorem dX7_hand_114 : decode cX7_hand 114 = .ok (.iconst 0, 1) := by decide +kernel
theorem dX7_hand_115 : decode cX7_hand 115 = .ok (.invokespecial 271, 3) := by decide +kernel
theorem dX7_hand_118 : decode cX7_hand 118 = .ok (.invokevirtual 274, 3) := by decide +kernel
theorem dX7_hand_121 : decode cX7_hand 121 = .ok (.aload_n 3, 1) := by decide +kernel
theorem dX7_hand_122 : decode cX7_hand 122 = .ok (.aload 4, 2) := by decide +kernel
theorem dX7_hand_124 : decode cX7_hand 124 = .ok (.putfield 256, 3) := by decide +kernel
theorem dX7_hand_127 : decode cX7_hand 127 = .ok (.aload_n 3, 1) := by decide +kernel
theorem dX7_hand_128 : decode cX7_hand 128 = .ok (.getfield 278, 3) := by decide +kernel
theorem dX7_hand_131 : decode cX7_hand 131 = .ok (.invokevirtual 80, 3) := by decide +kernel
theorem dX7_hand_134 : decode cX7_hand 134 = .ok (.ireturn, 1) := by decide +kernel
theorem dX7_unseal_0 : decode cX7_unseal 0 = .ok (.aload_n 0, 1) := by decide +kernel
theorem dX7_unseal_1 : decode cX7_unseal 1 = .ok (.iload_n 1, 1) := by decide +kernel
theorem dX7_unseal_2 : decode cX7_unseal 2 = .ok (.invokevirtual 246, 3) := by decide +kernel
theorem dX7_unseal_5 : decode cX7_unseal 5 = .ok (.astore_n 2, 1) := by decide +kernel
theorem dX7_unseal_6 : decode cX7_unseal 6 = .ok (.aload_n 2, 1) := by decide +kernel
theorem dX7_unseal_7 : decode cX7_unseal 7 = .ok (.ifnonnull 14, 3) := by decide +kernel
theorem dX7_unseal_10 : decode cX7_unseal 10 = .ok (.new 75, 3) := by decide +kernel
theorem dX7_unseal_13 : decode cX7_unseal 13 = .ok (.dup, 1) := by decide +kernel
theorem dX7_unseal_14 : decode cX7_unseal 14 = .ok (.ldc_w 281, 3) := by decide +kernel
theorem dX7_unseal_17 : decode cX7_unseal 17 = .ok (.invokespecial 79, 3) := by decide +kernel
theorem dX7_unseal_20 : decode cX7_unseal 20 = .ok (.athrow, 1) := by decide +kernel
theorem dX7_unseal_21 : decode cX7_unseal 21 = .ok (.aload_n 2, 1) := by decide +kernel
theorem dX7_unseal_22 : decode cX7_unseal 22 = .ok (.getfield 256, 3) := by decide +kernel
theorem dX7_unseal_25 : decode cX7_unseal 25 = .ok (.ifnull 10, 3) := by decide +kernel
theorem dX7_unseal_28 : decode cX7_unseal 28 = .ok (.aload_n 2, 1) := by decide +kernel
theorem dX7_unseal_29 : decode cX7_unseal 29 = .ok (.invokevirtual 257, 3) := by decide +kernel
theorem dX7_unseal_32 : decode cX7_unseal 32 = .ok (.ifCond .eq 14, 3) := by decide +kernel
theorem dX7_unseal_35 : decode cX7_unseal 35 = .ok (.new 55, 3) := by decide +kernel
theorem dX7_unseal_38 : decode cX7_unseal 38 = .ok (.dup, 1) := by decide +kernel
theorem dX7_unseal_39 : decode cX7_unseal 39 = .ok (.ldc_w 283, 3) := by decide +kernel
theorem dX7_unseal_42 : decode cX7_unseal 42 = .ok (.invokespecial 59, 3) := by decide +kernel
theorem dX7_unseal_45 : decode cX7_unseal 45 = .ok (.athrow, 1) := by decide +kernel
theorem dX7_unseal_46 : decode cX7_unseal 46 = .ok (.aload_n 2, 1) := by decide +kernel
theorem dX7_unseal_47 : decode cX7_unseal 47 = .ok (.new 269, 3) := by decide +kernel
theorem dX7_unseal_50 : decode cX7_unseal 50 = .ok (.dup, 1) := by decide +kernel
theorem dX7_unseal_51 : decode cX7_unseal 51 = .ok (.aload_n 0, 1) := by decide +kernel
theorem dX7_unseal_52 : decode cX7_unseal 52 = .ok (.getfield 52, 3) := by decide +kernel
theorem dX7_unseal_55 : decode cX7_unseal 55 = .ok (.aload_n 2, 1) := by decide +kernel
theorem dX7_unseal_56 : decode cX7_unseal 56 = .ok (.getfield 256, 3) := by decide +kernel
theorem dX7_unseal_59 : decode cX7_unseal 59 = .ok (.aload_n 2, 1) := by decide +kernel
theorem dX7_unseal_60 : decode cX7_unseal 60 = .ok (.getfield 256, 3) := by decide +kernel
theorem dX7_unseal_63 : decode cX7_unseal 63 = .ok (.iconst 2, 1) := by decide +kernel
theorem dX7_unseal_64 : decode cX7_unseal 64 = .ok (.invokespecial 271, 3) := by decide +kernel
theorem dX7_unseal_67 : decode cX7_unseal 67 = .ok (.invokevirtual 274, 3) := by decide +kernel
theorem dX7_unseal_70 : decode cX7_unseal 70 = .ok (.aload_n 2, 1) := by decide +kernel
theorem dX7_unseal_71 : decode cX7_unseal 71 = .ok (.aload_n 2, 1) := by decide +kernel
theorem dX7_unseal_72 : decode cX7_unseal 72 = .ok (.getfield 285, 3) := by decide +kernel
theorem dX7_unseal_75 : decode cX7_unseal 75 = .ok (.bipush 31, 2) := by decide +kernel
theorem dX7_unseal_77 : decode cX7_unseal 77 = .ok (.imul, 1) := by decide +kernel
theorem dX7_unseal_78 : decode cX7_unseal 78 = .ok (.aload_n 0, 1) := by decide +kernel
theorem dX7_unseal_79 : decode cX7_unseal 79 = .ok (.getfield 52, 3) := by decide +kernel
theorem dX7_unseal_82 : decode cX7_unseal 82 = .ok (.iadd, 1) := by decide +kernel
theorem dX7_unseal_83 : decode cX7_unseal 83 = .ok (.sipush 10007, 3) := by decide +kernel
theorem dX7_unseal_86 : decode cX7_unseal 86 = .ok (.irem, 1) := by decide +kernel
theorem dX7_unseal_87 : decode cX7_unseal 87 = .ok (.putfield 285, 3) := by decide +kernel
theorem dX7_unseal_90 : decode cX7_unseal 90 = .ok (.aload_n 2, 1) := by decide +kernel
theorem dX7_unseal_91 : decode cX7_unseal 91 = .ok (.getfield 285, 3) := by decide +kernel
theorem dX7_unseal_94 : decode cX7_unseal 94 = .ok (.ireturn, 1) := by decide +kernel
theorem dX7_lose_0 : decode cX7_lose 0 = .ok (.aload_n 0, 1) := by decide +kernel
theorem dX7_lose_1 : decode cX7_lose 1 = .ok (.iload_n 1, 1) := by decide +kernel
theorem dX7_lose_2 : decode cX7_lose 2 = .ok (.invokevirtual 246, 3) := by decide +kernel
theorem dX7_lose_5 : decode cX7_lose 5 = .ok (.astore_n 2, 1) := by decide +kernel
theorem dX7_lose_6 : decode cX7_lose 6 = .ok (.aload_n 2, 1) := by decide +kernel
theorem dX7_lose_7 : decode cX7_lose 7 = .ok (.ifnonnull 14, 3) := by decide +kernel
theorem dX7_lose_10 : decode cX7_lose 10 = .ok (.new 75, 3) := by decide +kernel
theorem dX7_lose_13 : decode cX7_lose 13 = .ok (.dup, 1) := by decide +kernel
theorem dX7_lose_14 : decode cX7_lose 14 = .ok (.ldc_w 281, 3) := by decide +kernel
theorem dX7_lose_17 : decode cX7_lose 17 = .ok (.invokespecial 79, 3) := by decide +kernel
theorem dX7_lose_20 : decode cX7_lose 20 = .ok (.athrow, 1) := by decide +kernel
theorem dX7_lose_21 : decode cX7_lose 21 = .ok (.aload_n 2, 1) := by decide +kernel
theorem dX7_lose_22 : decode cX7_lose 22 = .ok (.getfield 252, 3) := by decide +kernel
theorem dX7_lose_25 : decode cX7_lose 25 = .ok (.ifCond .eq 14, 3) := by decide +kernel
theorem dX7_lose_28 : decode cX7_lose 28 = .ok (.new 55, 3) := by decide +kernel
theorem dX7_lose_31 : decode cX7_lose 31 = .ok (.dup, 1) := by decide +kernel
theorem dX7_lose_32 : decode cX7_lose 32 = .ok (.ldc_w 288, 3) := by decide +kernel
theorem dX7_lose_35 : decode cX7_lose 35 = .ok (.invokespecial 59, 3) := by decide +kernel
theorem dX7_lose_38 : decode cX7_lose 38 = .ok (.athrow, 1) := by decide +kernel
theorem dX7_lose_39 : decode cX7_lose 39 = .ok (.aload_n 2, 1) := by decide +kernel
theorem dX7_lose_40 : decode cX7_lose 40 = .ok (.getfield 256, 3) := by decide +kernel
theorem dX7_lose_43 : decode cX7_lose 43 = .ok (.invokestatic 232, 3) := by decide +kernel
theorem dX7_lose_46 : decode cX7_lose 46 = .ok (.istore_n 3, 1) := by decide +kernel
theorem dX7_lose_47 : decode cX7_lose 47 = .ok (.aload_n 2, 1) := by decide +kernel
theorem dX7_lose_48 : decode cX7_lose 48 = .ok (.iconst 1, 1) := by decide +kernel
theorem dX7_lose_49 : decode cX7_lose 49 = .ok (.putfield 252, 3) := by decide +kernel
theorem dX7_lose_52 : decode cX7_lose 52 = .ok (.aload_n 2, 1) := by decide +kernel
theorem dX7_lose_53 : decode cX7_lose 53 = .ok (.aconst_null, 1) := by decide +kernel
theorem dX7_lose_54 : decode cX7_lose 54 = .ok (.putfield 256, 3) := by decide +kernel
theorem dX7_lose_57 : decode cX7_lose 57 = .ok (.iload_n 3, 1) := by decide +kernel
theorem dX7_lose_58 : decode cX7_lose 58 = .ok (.ireturn, 1) := by decide +kernel
theorem dX7_found_0 : decode cX7_found 0 = .ok (.aload_n 0, 1) := by decide +kernel
theorem dX7_found_1 : decode cX7_found 1 = .ok (.iload_n 1, 1) := by decide +kernel
theorem dX7_found_2 : decode cX7_found 2 = .ok (.invokevirtual 246, 3) := by decide +kernel
theorem dX7_found_5 : decode cX7_found 5 = .ok (.astore_n 3, 1) := by decide +kernel
theorem dX7_found_6 : decode cX7_found 6 = .ok (.aload_n 0, 1) := by decide +kernel
theorem dX7_found_7 : decode cX7_found 7 = .ok (.iload_n 2, 1) := by decide +kernel
theorem dX7_found_8 : decode cX7_found 8 = .ok (.invokevirtual 151, 3) := by decide +kernel
theorem dX7_found_11 : decode cX7_found 11 = .ok (.astore 4, 2) := by decide +kernel
theorem dX7_found_13 : decode cX7_found 13 = .ok (.aload_n 3, 1) := by decide +kernel
theorem dX7_found_14 : decode cX7_found 14 = .ok (.ifnull 13, 3) := by decide +kernel
theorem dX7_found_17 : decode cX7_found 17 = .ok (.aload 4, 2) := by decide +kernel
theorem dX7_found_19 : decode cX7_found 19 = .ok (.ifnonnull 18, 3) := by decide +kernel
theorem dX7_found_22 : decode cX7_found 22 = .ok (.iload_n 2, 1) := by decide +kernel
theorem dX7_found_23 : decode cX7_found 23 = .ok (.iconst (-1), 1) := by decide +kernel
theorem dX7_found_24 : decode cX7_found 24 = .ok (.if_icmp .eq 13, 3) := by decide +kernel
theorem dX7_found_27 : decode cX7_found 27 = .ok (.new 75, 3) := by decide +kernel
theorem dX7_found_30 : decode cX7_found 30 = .ok (.dup, 1) := by decide +kernel
theorem dX7_found_31 : decode cX7_found 31 = .ok (.ldc 250, 2) := by decide +kernel
theorem dX7_found_33 : decode cX7_found 33 = .ok (.invokespecial 79, 3) := by decide +kernel
theorem dX7_found_36 : decode cX7_found 36 = .ok (.athrow, 1) := by decide +kernel
theorem dX7_found_37 : decode cX7_found 37 = .ok (.aload_n 3, 1) := by decide +kernel
theorem dX7_found_38 : decode cX7_found 38 = .ok (.getfield 252, 3) := by decide +kernel
theorem dX7_found_41 : decode cX7_found 41 = .ok (.ifCond .eq 10, 3) := by decide +kernel
theorem dX7_found_44 : decode cX7_found 44 = .ok (.aload_n 3, 1) := by decide +kernel
theorem dX7_found_45 : decode cX7_found 45 = .ok (.invokevirtual 257, 3) := by decide +kernel
theorem dX7_found_48 : decode cX7_found 48 = .ok (.ifCond .eq 14, 3) := by decide +kernel
theorem dX7_found_51 : decode cX7_found 51 = .ok (.new 55, 3) := by decide +kernel
theorem dX7_found_54 : decode cX7_found 54 = .ok (.dup, 1) := by decide +kernel
theorem dX7_found_55 : decode cX7_found 55 = .ok (.ldc_w 290, 3) := by decide +kernel
theorem dX7_found_58 : decode cX7_found 58 = .ok (.invokespecial 59, 3) := by decide +kernel
theorem dX7_found_61 : decode cX7_found 61 = .ok (.athrow, 1) := by decide +kernel
theorem dX7_found_62 : decode cX7_found 62 = .ok (.aload_n 3, 1) := by decide +kernel
theorem dX7_found_63 : decode cX7_found 63 = .ok (.new 269, 3) := by decide +kernel
theorem dX7_found_66 : decode cX7_found 66 = .ok (.dup, 1) := by decide +kernel
theorem dX7_found_67 : decode cX7_found 67 = .ok (.aload_n 0, 1) := by decide +kernel
theorem dX7_found_68 : decode cX7_found 68 = .ok (.getfield 52, 3) := by decide +kernel
theorem dX7_found_71 : decode cX7_found 71 = .ok (.aconst_null, 1) := by decide +kernel
theorem dX7_found_72 : decode cX7_found 72 = .ok (.aload 4, 2) := by decide +kernel
theorem dX7_found_74 : decode cX7_found 74 = .ok (.iconst 1, 1) := by decide +kernel
theorem dX7_found_75 : decode cX7_found 75 = .ok (.invokespecial 271, 3) := by decide +kernel
theorem dX7_found_78 : decode cX7_found 78 = .ok (.invokevirtual 274, 3) := by decide +kernel
theorem dX7_found_81 : decode cX7_found 81 = .ok (.aload_n 3, 1) := by decide +kernel
theorem dX7_found_82 : decode cX7_found 82 = .ok (.iconst 0, 1) := by decide +kernel
theorem dX7_found_83 : decode cX7_found 83 = .ok (.putfield 252, 3) := by decide +kernel
theorem dX7_found_86 : decode cX7_found 86 = .ok (.aload_n 3, 1) := by decide +kernel
theorem dX7_found_87 : decode cX7_found 87 = .ok (.aload 4, 2) := by decide +kernel
theorem dX7_found_89 : decode cX7_found 89 = .ok (.putfield 256, 3) := by decide +kernel
theorem dX7_found_92 : decode cX7_found 92 = .ok (.aload_n 3, 1) := by decide +kernel
theorem dX7_found_93 : decode cX7_found 93 = .ok (.getfield 278, 3) := by decide +kernel
theorem dX7_found_96 : decode cX7_found 96 = .ok (.invokevirtual 80, 3) := by decide +kernel
theorem dX7_found_99 : decode cX7_found 99 = .ok (.ireturn, 1) := by decide +kernel
theorem dX7_exhibit_0 : decode cX7_exhibit 0 = .ok (.aload_n 0, 1) := by decide +kernel
theorem dX7_exhibit_1 : decode cX7_exhibit 1 = .ok (.iload_n 1, 1) := by decide +kernel
theorem dX7_exhibit_2 : decode cX7_exhibit 2 = .ok (.invokevirtual 246, 3) := by decide +kernel
theorem dX7_exhibit_5 : decode cX7_exhibit 5 = .ok (.astore_n 3, 1) := by decide +kernel
theorem dX7_exhibit_6 : decode cX7_exhibit 6 = .ok (.aload_n 3, 1) := by decide +kernel
theorem dX7_exhibit_7 : decode cX7_exhibit 7 = .ok (.ifnull 13, 3) := by decide +kernel
theorem dX7_exhibit_10 : decode cX7_exhibit 10 = .ok (.iload_n 2, 1) := by decide +kernel
theorem dX7_exhibit_11 : decode cX7_exhibit 11 = .ok (.ifCond .lt 9, 3) := by decide +kernel
theorem dX7_exhibit_14 : decode cX7_exhibit 14 = .ok (.iload_n 2, 1) := by decide +kernel
theorem dX7_exhibit_15 : decode cX7_exhibit 15 = .ok (.bipush 6, 2) := by decide +kernel
theorem dX7_exhibit_17 : decode cX7_exhibit 17 = .ok (.if_icmp .le 14, 3) := by decide +kernel
theorem dX7_exhibit_20 : decode cX7_exhibit 20 = .ok (.new 75, 3) := by decide +kernel
theorem dX7_exhibit_23 : decode cX7_exhibit 23 = .ok (.dup, 1) := by decide +kernel
theorem dX7_exhibit_24 : decode cX7_exhibit 24 = .ok (.ldc_w 292, 3) := by decide +kernel
theorem dX7_exhibit_27 : decode cX7_exhibit 27 = .ok (.invokespecial 79, 3) := by decide +kernel
theorem dX7_exhibit_30 : decode cX7_exhibit 30 = .ok (.athrow, 1) := by decide +kernel
theorem dX7_exhibit_31 : decode cX7_exhibit 31 = .ok (.aload_n 0, 1) := by decide +kernel
theorem dX7_exhibit_32 : decode cX7_exhibit 32 = .ok (.aload_n 3, 1) := by decide +kernel
theorem dX7_exhibit_33 : decode cX7_exhibit 33 = .ok (.iload_n 2, 1) := by decide +kernel
theorem dX7_exhibit_34 : decode cX7_exhibit 34 = .ok (.invokevirtual 294, 3) := by decide +kernel
theorem dX7_exhibit_37 : decode cX7_exhibit 37 = .ok (.ireturn, 1) := by decide +kernel
theorem dX7_link_0 : decode cX7_link 0 = .ok (.aload_n 0, 1) := by decide +kernel
theorem dX7_link_1 : decode cX7_link 1 = .ok (.iload_n 1, 1) := by decide +kernel
theorem dX7_link_2 : decode cX7_link 2 = .ok (.invokevirtual 246, 3) := by decide +kernel
theorem dX7_link_5 : decode cX7_link 5 = .ok (.astore 4, 2) := by decide +kernel
theorem dX7_link_7 : decode cX7_link 7 = .ok (.aload 4, 2) := by decide +kernel
theorem dX7_link_9 : decode cX7_link 9 = .ok (.ifnull 28, 3) := by decide +kernel
theorem dX7_link_12 : decode cX7_link 12 = .ok (.iload_n 2, 1) := by decide +kernel
theorem dX7_link_13 : decode cX7_link 13 = .ok (.ifCond .lt 24, 3) := by decide +kernel
theorem dX7_link_16 : decode cX7_link 16 = .ok (.iload_n 2, 1) := by decide +kernel
theorem dX7_link_17 : decode cX7_link 17 = .ok (.aload 4, 2) := by decide +kernel
theorem dX7_link_19 : decode cX7_link 19 = .ok (.getfield 278, 3) := by decide +kernel
theorem dX7_link_22 : decode cX7_link 22 = .ok (.invokevirtual 80, 3) := by decide +kernel
theorem dX7_link_25 : decode cX7_link 25 = .ok (.if_icmp .ge 12, 3) := by decide +kernel
theorem dX7_link_28 : decode cX7_link 28 = .ok (.iload_n 3, 1) := by decide +kernel
theorem dX7_link_29 : decode cX7_link 29 = .ok (.ifCond .lt 8, 3) := by decide +kernel
theorem dX7_link_32 : decode cX7_link 32 = .ok (.iload_n 3, 1) := by decide +kernel
theorem dX7_link_33 : decode cX7_link 33 = .ok (.iconst 3, 1) := by decide +kernel
theorem dX7_link_34 : decode cX7_link 34 = .ok (.if_icmp .le 14, 3) := by decide +kernel
theorem dX7_link_37 : decode cX7_link 37 = .ok (.new 75, 3) := by decide +kernel
theorem dX7_link_40 : decode cX7_link 40 = .ok (.dup, 1) := by decide +kernel
theorem dX7_link_41 : decode cX7_link 41 = .ok (.ldc_w 298, 3) := by decide +kernel
theorem dX7_link_44 : decode cX7_link 44 = .ok (.invokespecial 79, 3) := by decide +kernel
theorem dX7_link_47 : decode cX7_link 47 = .ok (.athrow, 1) := by decide +kernel
theorem dX7_link_48 : decode cX7_link 48 = .ok (.aload 4, 2) := by decide +kernel
theorem dX7_link_50 : decode cX7_link 50 = .ok (.getfield 278, 3) := by decide +kernel
theorem dX7_link_53 : decode cX7_link 53 = .ok (.iload_n 2, 1) := by decide +kernel
theorem dX7_link_54 : decode cX7_link 54 = .ok (.invokevirtual 300, 3) := by decide +kernel
theorem dX7_link_57 : decode cX7_link 57 = .ok (.checkcast 269, 3) := by decide +kernel
theorem dX7_link_60 : decode cX7_link 60 = .ok (.iload_n 3, 1) := by decide +kernel
theorem dX7_link_61 : decode cX7_link 61 = .ok (.invokestatic 304, 3) := by decide +kernel
theorem dX7_link_64 : decode cX7_link 64 = .ok (.ireturn, 1) := by decide +kernel
theorem dX7_send_0 : decode cX7_send 0 = .ok (.aload_n 0, 1) := by decide +kernel
theorem dX7_send_1 : decode cX7_send 1 = .ok (.iload_n 1, 1) := by decide +kernel
theorem dX7_send_2 : decode cX7_send 2 = .ok (.invokevirtual 104, 3) := by decide +kernel
theorem dX7_send_5 : decode cX7_send 5 = .ok (.astore 4, 2) := by decide +kernel
theorem dX7_send_7 : decode cX7_send 7 = .ok (.aload_n 0, 1) := by decide +kernel
theorem dX7_send_8 : decode cX7_send 8 = .ok (.iload_n 2, 1) := by decide +kernel
theorem dX7_send_9 : decode cX7_send 9 = .ok (.invokevirtual 151, 3) := by decide +kernel
theorem dX7_send_12 : decode cX7_send 12 = .ok (.astore 5, 2) := by decide +kernel
theorem dX7_send_14 : decode cX7_send 14 = .ok (.aload 4, 2) := by decide +kernel
theorem dX7_send_16 : decode cX7_send 16 = .ok (.ifnull 8, 3) := by decide +kernel
theorem dX7_send_19 : decode cX7_send 19 = .ok (.aload 5, 2) := by decide +kernel
theorem dX7_send_21 : decode cX7_send 21 = .ok (.ifnonnull 13, 3) := by decide +kernel
theorem dX7_send_24 : decode cX7_send 24 = .ok (.new 75, 3) := by decide +kernel
theorem dX7_send_27 : decode cX7_send 27 = .ok (.dup, 1) := by decide +kernel
theorem dX7_send_28 : decode cX7_send 28 = .ok (.ldc 219, 2) := by decide +kernel
theorem dX7_send_30 : decode cX7_send 30 = .ok (.invokespecial 79, 3) := by decide +kernel
theorem dX7_send_33 : decode cX7_send 33 = .ok (.athrow, 1) := by decide +kernel
theorem dX7_send_34 : decode cX7_send 34 = .ok (.iload_n 3, 1) := by decide +kernel
theorem dX7_send_35 : decode cX7_send 35 = .ok (.ifCond .lt 9, 3) := by decide +kernel
theorem dX7_send_38 : decode cX7_send 38 = .ok (.iload_n 3, 1) := by decide +kernel
theorem dX7_send_39 : decode cX7_send 39 = .ok (.bipush 30, 2) := by decide +kernel
theorem dX7_send_41 : decode cX7_send 41 = .ok (.if_icmp .le 14, 3) := by decide +kernel
theorem dX7_send_44 : decode cX7_send 44 = .ok (.new 66, 3) := by decide +kernel
theorem dX7_send_47 : decode cX7_send 47 = .ok (.dup, 1) := by decide +kernel
theorem dX7_send_48 : decode cX7_send 48 = .ok (.ldc_w 308, 3) := by decide +kernel
theorem dX7_send_51 : decode cX7_send 51 = .ok (.invokespecial 70, 3) := by decide +kernel
theorem dX7_send_54 : decode cX7_send 54 = .ok (.athrow, 1) := by decide +kernel
theorem dX7_send_55 : decode cX7_send 55 = .ok (.aload_n 0, 1) := by decide +kernel
theorem dX7_send_56 : decode cX7_send 56 = .ok (.getfield 25, 3) := by decide +kernel
theorem dX7_send_59 : decode cX7_send 59 = .ok (.invokevirtual 80, 3) := by decide +kernel
theorem dX7_send_62 : decode cX7_send 62 = .ok (.bipush 40, 2) := by decide +kernel
theorem dX7_send_64 : decode cX7_send 64 = .ok (.if_icmp .lt 14, 3) := by decide +kernel
theorem dX7_send_67 : decode cX7_send 67 = .ok (.new 55, 3) := by decide +kernel
theorem dX7_send_70 : decode cX7_send 70 = .ok (.dup, 1) := by decide +kernel
theorem dX7_send_71 : decode cX7_send 71 = .ok (.ldc_w 310, 3) := by decide +kernel
theorem dX7_send_74 : decode cX7_send 74 = .ok (.invokespecial 59, 3) := by decide +kernel
theorem dX7_send_77 : decode cX7_send 77 = .ok (.athrow, 1) := by decide +kernel
theorem dX7_send_78 : decode cX7_send 78 = .ok (.aload_n 0, 1) := by decide +kernel
theorem dX7_send_79 : decode cX7_send 79 = .ok (.getfield 25, 3) := by decide +kernel
theorem dX7_send_82 : decode cX7_send 82 = .ok (.new 312, 3) := by decide +kernel
theorem dX7_send_85 : decode cX7_send 85 = .ok (.dup, 1) := by decide +kernel
theorem dX7_send_86 : decode cX7_send 86 = .ok (.aload 4, 2) := by decide +kernel
theorem dX7_send_88 : decode cX7_send 88 = .ok (.iload_n 1, 1) := by decide +kernel
theorem dX7_send_89 : decode cX7_send 89 = .ok (.aload 5, 2) := by decide +kernel
theorem dX7_send_91 : decode cX7_send 91 = .ok (.aload_n 0, 1) := by decide +kernel
theorem dX7_send_92 : decode cX7_send 92 = .ok (.getfield 52, 3) := by decide +kernel
theorem dX7_send_95 : decode cX7_send 95 = .ok (.iload_n 3, 1) := by decide +kernel
theorem dX7_send_96 : decode cX7_send 96 = .ok (.iadd, 1) := by decide +kernel
theorem dX7_send_97 : decode cX7_send 97 = .ok (.invokespecial 314, 3) := by decide +kernel
theorem dX7_send_100 : decode cX7_send 100 = .ok (.invokevirtual 100, 3) := by decide +kernel
theorem dX7_send_103 : decode cX7_send 103 = .ok (.pop, 1) := by decide +kernel
theorem dX7_send_104 : decode cX7_send 104 = .ok (.aload_n 0, 1) := by decide +kernel
theorem dX7_send_105 : decode cX7_send 105 = .ok (.getfield 25, 3) := by decide +kernel
theorem dX7_send_108 : decode cX7_send 108 = .ok (.invokevirtual 80, 3) := by decide +kernel
theorem dX7_send_111 : decode cX7_send 111 = .ok (.iconst 1, 1) := by decide +kernel
theorem dX7_send_112 : decode cX7_send 112 = .ok (.isub, 1) := by decide +kernel
theorem dX7_send_113 : decode cX7_send 113 = .ok (.ireturn, 1) := by decide +kernel
theorem dX7_letter_0 : decode cX7_letter 0 = .ok (.aload_n 0, 1) := by decide +kernel
theorem dX7_letter_1 : decode cX7_letter 1 = .ok (.iload_n 1, 1) := by decide +kernel
theorem dX7_letter_2 : decode cX7_letter 2 = .ok (.invokevirtual 317, 3) := by decide +kernel
theorem dX7_letter_5 : decode cX7_letter 5 = .ok (.astore_n 3, 1) := by decide +kernel
theorem dX7_letter_6 : decode cX7_letter 6 = .ok (.aload_n 3, 1) := by decide +kernel
theorem dX7_letter_7 : decode cX7_letter 7 = .ok (.ifnull 12, 3) := by decide +kernel
theorem dX7_letter_10 : decode cX7_letter 10 = .ok (.iload_n 2, 1) := by decide +kernel
theorem dX7_letter_11 : decode cX7_letter 11 = .ok (.ifCond .lt 8, 3) := by decide +kernel
theorem dX7_letter_14 : decode cX7_letter 14 = .ok (.iload_n 2, 1) := by decide +kernel
theorem dX7_letter_15 : decode cX7_letter 15 = .ok (.iconst 4, 1) := by decide +kernel
theorem dX7_letter_16 : decode cX7_letter 16 = .ok (.if_icmp .le 14, 3) := by decide +kernel
theorem dX7_letter_19 : decode cX7_letter 19 = .ok (.new 75, 3) := by decide +kernel
theorem dX7_letter_22 : decode cX7_letter 22 = .ok (.dup, 1) := by decide +kernel
theorem dX7_letter_23 : decode cX7_letter 23 = .ok (.ldc_w 321, 3) := by decide +kernel
theorem dX7_letter_26 : decode cX7_letter 26 = .ok (.invokespecial 79, 3) := by decide +kernel
theorem dX7_letter_29 : decode cX7_letter 29 = .ok (.athrow, 1) := by decide +kernel
theorem dX7_letter_30 : decode cX7_letter 30 = .ok (.aload_n 3, 1) := by decide +kernel
theorem dX7_letter_31 : decode cX7_letter 31 = .ok (.iload_n 2, 1) := by decide +kernel
theorem dX7_letter_32 : decode cX7_letter 32 = .ok (.invokestatic 323, 3) := by decide +kernel
theorem dX7_letter_35 : decode cX7_letter 35 = .ok (.ireturn, 1) := by decide +kernel
theorem dX7_pass_0 : decode cX7_pass 0 = .ok (.iload_n 1, 1) := by decide +kernel
theorem dX7_pass_1 : decode cX7_pass 1 = .ok (.iconst 1, 1) := by decide +kernel
theorem dX7_pass_2 : decode cX7_pass 2 = .ok (.if_icmp .lt 9, 3) := by decide +kernel
theorem dX7_pass_5 : decode cX7_pass 5 = .ok (.iload_n 1, 1) := by decide +kernel
theorem dX7_pass_6 : decode cX7_pass 6 = .ok (.bipush 100, 2) := by decide +kernel
theorem dX7_pass_8 : decode cX7_pass 8 = .ok (.if_icmp .le 14, 3) := by decide +kernel
theorem dX7_pass_11 : decode cX7_pass 11 = .ok (.new 66, 3) := by decide +kernel
theorem dX7_pass_14 : decode cX7_pass 14 = .ok (.dup, 1) := by decide +kernel
theorem dX7_pass_15 : decode cX7_pass 15 = .ok (.ldc_w 327, 3) := by decide +kernel
theorem dX7_pass_18 : decode cX7_pass 18 = .ok (.invokespecial 70, 3) := by decide +kernel
theorem dX7_pass_21 : decode cX7_pass 21 = .ok (.athrow, 1) := by decide +kernel
theorem dX7_pass_22 : decode cX7_pass 22 = .ok (.iconst 0, 1) := by decide +kernel
theorem dX7_pass_23 : decode cX7_pass 23 = .ok (.istore_n 2, 1) := by decide +kernel
theorem dX7_pass_24 : decode cX7_pass 24 = .ok (.iconst 0, 1) := by decide +kernel
theorem dX7_pass_25 : decode cX7_pass 25 = .ok (.istore_n 3, 1) := by decide +kernel
theorem dX7_pass_26 : decode cX7_pass 26 = .ok (.iload_n 3, 1) := by decide +kernel
theorem dX7_pass_27 : decode cX7_pass 27 = .ok (.iload_n 1, 1) := by decide +kernel
theorem dX7_pass_28 : decode cX7_pass 28 = .ok (.if_icmp .ge 30, 3) := by decide +kernel
theorem dX7_pass_31 : decode cX7_pass 31 = .ok (.iload_n 2, 1) := by decide +kernel
theorem dX7_pass_32 : decode cX7_pass 32 = .ok (.aload_n 0, 1) := by decide +kernel
theorem dX7_pass_33 : decode cX7_pass 33 = .ok (.invokevirtual 329, 3) := by decide +kernel
theorem dX7_pass_36 : decode cX7_pass 36 = .ok (.iadd, 1) := by decide +kernel
theorem dX7_pass_37 : decode cX7_pass 37 = .ok (.istore_n 2, 1) := by decide +kernel
theorem dX7_pass_38 : decode cX7_pass 38 = .ok (.aload_n 0, 1) := by decide +kernel
theorem dX7_pass_39 : decode cX7_pass 39 = .ok (.dup, 1) := by decide +kernel
theorem dX7_pass_40 : decode cX7_pass 40 = .ok (.getfield 52, 3) := by decide +kernel
theorem dX7_pass_43 : decode cX7_pass 43 = .ok (.iconst 1, 1) := by decide +kernel
theorem dX7_pass_44 : decode cX7_pass 44 = .ok (.iadd, 1) := by decide +kernel
theorem dX7_pass_45 : decode cX7_pass 45 = .ok (.putfield 52, 3) := by decide +kernel
theorem dX7_pass_48 : decode cX7_pass 48 = .ok (.aload_n 0, 1) := by decide +kernel
theorem dX7_pass_49 : decode cX7_pass 49 = .ok (.invokevirtual 332, 3) := by decide +kernel
theorem dX7_pass_52 : decode cX7_pass 52 = .ok (.iinc 3 1, 3) := by decide +kernel
theorem dX7_pass_55 : decode cX7_pass 55 = .ok (.goto (-29), 3) := by decide +kernel
theorem dX7_pass_58 : decode cX7_pass 58 = .ok (.iload_n 2, 1) := by decide +kernel
theorem dX7_pass_59 : decode cX7_pass 59 = .ok (.ireturn, 1) := by decide +kernel
theorem dX7_arrives_0 : decode cX7_arrives 0 = .ok (.aload_n 0, 1) := by decide +kernel
theorem dX7_arrives_1 : decode cX7_arrives 1 = .ok (.iload_n 1, 1) := by decide +kernel
theorem dX7_arrives_2 : decode cX7_arrives 2 = .ok (.invokevirtual 317, 3) := by decide +kernel
theorem dX7_arrives_5 : decode cX7_arrives 5 = .ok (.astore_n 2, 1) := by decide +kernel
theorem dX7_arrives_6 : decode cX7_arrives 6 = .ok (.aload_n 2, 1) := by decide +kernel
theorem dX7_arrives_7 : decode cX7_arrives 7 = .ok (.ifnonnull 14, 3) := by decide +kernel
theorem dX7_arrives_10 : decode cX7_arrives 10 = .ok (.new 75, 3) := by decide +kernel
theorem dX7_arrives_13 : decode cX7_arrives 13 = .ok (.dup, 1) := by decide +kernel
theorem dX7_arrives_14 : decode cX7_arrives 14 = .ok (.ldc_w 335, 3) := by decide +kernel
theorem dX7_arrives_17 : decode cX7_arrives 17 = .ok (.invokespecial 79, 3) := by decide +kernel
theorem dX7_arrives_20 : decode cX7_arrives 20 = .ok (.athrow, 1) := by decide +kernel
theorem dX7_arrives_21 : decode cX7_arrives 21 = .ok (.aload_n 2, 1) := by decide +kernel
theorem dX7_arrives_22 : decode cX7_arrives 22 = .ok (.getfield 337, 3) := by decide +kernel
theorem dX7_arrives_25 : decode cX7_arrives 25 = .ok (.iconst 1, 1) := by decide +kernel
theorem dX7_arrives_26 : decode cX7_arrives 26 = .ok (.if_icmp .ne 5, 3) := by decide +kernel
theorem dX7_arrives_29 : decode cX7_arrives 29 = .ok (.iconst 0, 1) := by decide +kernel
theorem dX7_arrives_30 : decode cX7_arrives 30 = .ok (.ireturn, 1) := by decide +kernel
theorem dX7_arrives_31 : decode cX7_arrives 31 = .ok (.aload_n 0, 1) := by decide +kernel
theorem dX7_arrives_32 : decode cX7_arrives 32 = .ok (.invokevirtual 340, 3) := by decide +kernel
theorem dX7_arrives_35 : decode cX7_arrives 35 = .ok (.istore_n 3, 1) := by decide +kernel
theorem dX7_arrives_36 : decode cX7_arrives 36 = .ok (.aload_n 2, 1) := by decide +kernel
theorem dX7_arrives_37 : decode cX7_arrives 37 = .ok (.getfield 337, 3) := by decide +kernel
theorem dX7_arrives_40 : decode cX7_arrives 40 = .ok (.iconst 2, 1) := by decide +kernel
theorem dX7_arrives_41 : decode cX7_arrives 41 = .ok (.if_icmp .eq 7, 3) := by decide +kernel
theorem dX7_arrives_44 : decode cX7_arrives 44 = .ok (.iload_n 3, 1) := by decide +kernel
theorem dX7_arrives_45 : decode cX7_arrives 45 = .ok (.ifCond .gt 5, 3) := by decide +kernel
theorem dX7_arrives_48 : decode cX7_arrives 48 = .ok (.iconst (-1), 1) := by decide +kernel
theorem dX7_arrives_49 : decode cX7_arrives 49 = .ok (.ireturn, 1) := by decide +kernel
theorem dX7_arrives_50 : decode cX7_arrives 50 = .ok (.aload_n 0, 1) := by decide +kernel
theorem dX7_arrives_51 : decode cX7_arrives 51 = .ok (.iload_n 1, 1) := by decide +kernel
theorem dX7_arrives_52 : decode cX7_arrives 52 = .ok (.aload_n 2, 1) := by decide +kernel
theorem dX7_arrives_53 : decode cX7_arrives 53 = .ok (.invokevirtual 343, 3) := by decide +kernel
theorem dX7_arrives_56 : decode cX7_arrives 56 = .ok (.iload_n 3, 1) := by decide +kernel
theorem dX7_arrives_57 : decode cX7_arrives 57 = .ok (.idiv, 1) := by decide +kernel
theorem dX7_arrives_58 : decode cX7_arrives 58 = .ok (.iconst 1, 1) := by decide +kernel
theorem dX7_arrives_59 : decode cX7_arrives 59 = .ok (.iadd, 1) := by decide +kernel
theorem dX7_arrives_60 : decode cX7_arrives 60 = .ok (.istore 4, 2) := by decide +kernel
theorem dX7_arrives_62 : decode cX7_arrives 62 = .ok (.aload_n 2, 1) := by decide +kernel
theorem dX7_arrives_63 : decode cX7_arrives 63 = .ok (.getfield 347, 3) := by decide +kernel
theorem dX7_arrives_66 : decode cX7_arrives 66 = .ok (.getfield 181, 3) := by decide +kernel
theorem dX7_arrives_69 : decode cX7_arrives 69 = .ok (.astore 5, 2) := by decide +kernel
theorem dX7_arrives_71 : decode cX7_arrives 71 = .ok (.aload 5, 2) := by decide +kernel
theorem dX7_arrives_73 : decode cX7_arrives 73 = .ok (.getfield 139, 3) := by decide +kernel
theorem dX7_arrives_76 : decode cX7_arrives 76 = .ok (.aload_n 2, 1) := by decide +kernel
theorem dX7_arrives_77 : decode cX7_arrives 77 = .ok (.getfield 351, 3) := by decide +kernel
theorem dX7_arrives_80 : decode cX7_arrives 80 = .ok (.aload_n 0, 1) := by decide +kernel
theorem dX7_arrives_81 : decode cX7_arrives 81 = .ok (.aload_n 2, 1) := by decide +kernel
theorem dX7_arrives_82 : decode cX7_arrives 82 = .ok (.getfield 351, 3) := by decide +kernel
theorem dX7_arrives_85 : decode cX7_arrives 85 = .ok (.iload 4, 2) := by decide +kernel
theorem dX7_arrives_87 : decode cX7_arrives 87 = .ok (.iconst 1, 1) := by decide +kernel
theorem dX7_arrives_88 : decode cX7_arrives 88 = .ok (.isub, 1) := by decide +kernel
theorem dX7_arrives_89 : decode cX7_arrives 89 = .ok (.invokevirtual 354, 3) := by decide +kernel
theorem dX7_arrives_92 : decode cX7_arrives 92 = .ok (.aload 5, 2) := by decide +kernel
theorem dX7_arrives_94 : decode cX7_arrives 94 = .ok (.invokevirtual 357, 3) := by decide +kernel
theorem dX7_arrives_97 : decode cX7_arrives 97 = .ok (.if_icmp .gt 8, 3) := by decide +kernel
theorem dX7_arrives_100 : decode cX7_arrives 100 = .ok (.iload 4, 2) := by decide +kernel
theorem dX7_arrives_102 : decode cX7_arrives 102 = .ok (.goto 4, 3) := by decide +kernel
theorem dX7_arrives_105 : decode cX7_arrives 105 = .ok (.iconst (-1), 1) := by decide +kernel
theorem dX7_arrives_106 : decode cX7_arrives 106 = .ok (.ireturn, 1) := by decide +kernel
theorem dX7_count_0 : decode cX7_count 0 = .ok (.iload_n 1, 1) := by decide +kernel
theorem dX7_count_1 : decode cX7_count 1 = .ok (.ifCond .lt 9, 3) := by decide +kernel
theorem dX7_count_4 : decode cX7_count 4 = .ok (.iload_n 1, 1) := by decide +kernel
theorem dX7_count_5 : decode cX7_count 5 = .ok (.bipush 11, 2) := by decide +kernel
theorem dX7_count_7 : decode cX7_count 7 = .ok (.if_icmp .le 14, 3) := by decide +kernel
theorem dX7_count_10 : decode cX7_count 10 = .ok (.new 75, 3) := by decide +kernel
theorem dX7_count_13 : decode cX7_count 13 = .ok (.dup, 1) := by decide +kernel
theorem dX7_count_14 : decode cX7_count 14 = .ok (.ldc_w 361, 3) := by decide +kernel
theorem dX7_count_17 : decode cX7_count 17 = .ok (.invokespecial 79, 3) := by decide +kernel
theorem dX7_count_20 : decode cX7_count 20 = .ok (.athrow, 1) := by decide +kernel
theorem dX7_count_21 : decode cX7_count 21 = .ok (.aload_n 0, 1) := by decide +kernel
theorem dX7_count_22 : decode cX7_count 22 = .ok (.iload_n 1, 1) := by decide +kernel
theorem dX7_count_23 : decode cX7_count 23 = .ok (.invokevirtual 363, 3) := by decide +kernel
theorem dX7_count_26 : decode cX7_count 26 = .ok (.ireturn, 1) := by decide +kernel
theorem dX7_sees_0 : decode cX7_sees 0 = .ok (.aload_n 0, 1) := by decide +kernel
theorem dX7_sees_1 : decode cX7_sees 1 = .ok (.iload_n 1, 1) := by decide +kernel
theorem dX7_sees_2 : decode cX7_sees 2 = .ok (.invokevirtual 71, 3) := by decide +kernel
theorem dX7_sees_5 : decode cX7_sees 5 = .ok (.astore_n 2, 1) := by decide +kernel
theorem dX7_sees_6 : decode cX7_sees 6 = .ok (.aload_n 2, 1) := by decide +kernel
theorem dX7_sees_7 : decode cX7_sees 7 = .ok (.ifnonnull 13, 3) := by decide +kernel
theorem dX7_sees_10 : decode cX7_sees 10 = .ok (.new 75, 3) := by decide +kernel
theorem dX7_sees_13 : decode cX7_sees 13 = .ok (.dup, 1) := by decide +kernel
theorem dX7_sees_14 : decode cX7_sees 14 = .ok (.ldc 77, 2) := by decide +kernel
theorem dX7_sees_16 : decode cX7_sees 16 = .ok (.invokespecial 79, 3) := by decide +kernel
theorem dX7_sees_19 : decode cX7_sees 19 = .ok (.athrow, 1) := by decide +kernel
theorem dX7_sees_20 : decode cX7_sees 20 = .ok (.iconst (-1), 1) := by decide +kernel
theorem dX7_sees_21 : decode cX7_sees 21 = .ok (.istore_n 3, 1) := by decide +kernel
theorem dX7_sees_22 : decode cX7_sees 22 = .ok (.iconst 0, 1) := by decide +kernel
theorem dX7_sees_23 : decode cX7_sees 23 = .ok (.istore 4, 2) := by decide +kernel
theorem dX7_sees_25 : decode cX7_sees 25 = .ok (.iconst 0, 1) := by decide +kernel
theorem dX7_sees_26 : decode cX7_sees 26 = .ok (.istore 5, 2) := by decide +kernel
theorem dX7_sees_28 : decode cX7_sees 28 = .ok (.iload 5, 2) := by decide +kernel
theorem dX7_sees_30 : decode cX7_sees 30 = .ok (.aload_n 0, 1) := by decide +kernel
theorem dX7_sees_31 : decode cX7_sees 31 = .ok (.getfield 16, 3) := by decide +kernel
theorem dX7_sees_34 : decode cX7_sees 34 = .ok (.invokevirtual 80, 3) := by decide +kernel
theorem dX7_sees_37 : decode cX7_sees 37 = .ok (.if_icmp .ge 68, 3) := by decide +kernel
theorem dX7_sees_40 : decode cX7_sees 40 = .ok (.aload_n 0, 1) := by decide +kernel
theorem dX7_sees_41 : decode cX7_sees 41 = .ok (.getfield 16, 3) := by decide +kernel
theorem dX7_sees_44 : decode cX7_sees 44 = .ok (.iload 5, 2) := by decide +kernel
theorem dX7_sees_46 : decode cX7_sees 46 = .ok (.invokevirtual 300, 3) := by decide +kernel
theorem dX7_sees_49 : decode cX7_sees 49 = .ok (.checkcast 146, 3) := by decide +kernel
theorem dX7_sees_52 : decode cX7_sees 52 = .ok (.astore 6, 2) := by decide +kernel
theorem dX7_sees_54 : decode cX7_sees 54 = .ok (.aload 6, 2) := by decide +kernel
theorem dX7_sees_56 : decode cX7_sees 56 = .ok (.getfield 367, 3) := by decide +kernel
theorem dX7_sees_59 : decode cX7_sees 59 = .ok (.iconst 2, 1) := by decide +kernel
theorem dX7_sees_60 : decode cX7_sees 60 = .ok (.if_icmp .eq 12, 3) := by decide +kernel
theorem dX7_sees_63 : decode cX7_sees 63 = .ok (.aload 6, 2) := by decide +kernel
theorem dX7_sees_65 : decode cX7_sees 65 = .ok (.getfield 367, 3) := by decide +kernel
theorem dX7_sees_68 : decode cX7_sees 68 = .ok (.iconst 3, 1) := by decide +kernel
theorem dX7_sees_69 : decode cX7_sees 69 = .ok (.if_icmp .ne 13, 3) := by decide +kernel
theorem dX7_sees_72 : decode cX7_sees 72 = .ok (.aload_n 0, 1) := by decide +kernel
theorem dX7_sees_73 : decode cX7_sees 73 = .ok (.aload 6, 2) := by decide +kernel
theorem dX7_sees_75 : decode cX7_sees 75 = .ok (.aload_n 2, 1) := by decide +kernel
theorem dX7_sees_76 : decode cX7_sees 76 = .ok (.invokevirtual 370, 3) := by decide +kernel
theorem dX7_sees_79 : decode cX7_sees 79 = .ok (.goto 4, 3) := by decide +kernel
theorem dX7_sees_82 : decode cX7_sees 82 = .ok (.iconst 0, 1) := by decide +kernel
theorem dX7_sees_83 : decode cX7_sees 83 = .ok (.istore 7, 2) := by decide +kernel
theorem dX7_sees_85 : decode cX7_sees 85 = .ok (.iload 7, 2) := by decide +kernel
theorem dX7_sees_87 : decode cX7_sees 87 = .ok (.iload 4, 2) := by decide +kernel
theorem dX7_sees_89 : decode cX7_sees 89 = .ok (.if_icmp .le 10, 3) := by decide +kernel
theorem dX7_sees_92 : decode cX7_sees 92 = .ok (.iload 7, 2) := by decide +kernel
theorem dX7_sees_94 : decode cX7_sees 94 = .ok (.istore 4, 2) := by decide +kernel
theorem dX7_sees_96 : decode cX7_sees 96 = .ok (.iload 5, 2) := by decide +kernel
theorem dX7_sees_98 : decode cX7_sees 98 = .ok (.istore_n 3, 1) := by decide +kernel
theorem dX7_sees_99 : decode cX7_sees 99 = .ok (.iinc 5 1, 3) := by decide +kernel
theorem dX7_sees_102 : decode cX7_sees 102 = .ok (.goto (-74), 3) := by decide +kernel
theorem dX7_sees_105 : decode cX7_sees 105 = .ok (.iload_n 3, 1) := by decide +kernel
theorem dX7_sees_106 : decode cX7_sees 106 = .ok (.ireturn, 1) := by decide +kernel
theorem dX7_plain_0 : decode cX7_plain 0 = .ok (.iconst 0, 1) := by decide +kernel
theorem dX7_plain_1 : decode cX7_plain 1 = .ok (.istore_n 1, 1) := by decide +kernel
theorem dX7_plain_2 : decode cX7_plain 2 = .ok (.iconst 0, 1) := by decide +kernel
theorem dX7_plain_3 : decode cX7_plain 3 = .ok (.istore_n 2, 1) := by decide +kernel
theorem dX7_plain_4 : decode cX7_plain 4 = .ok (.iconst 0, 1) := by decide +kernel
theorem dX7_plain_5 : decode cX7_plain 5 = .ok (.istore_n 3, 1) := by decide +kernel
theorem dX7_plain_6 : decode cX7_plain 6 = .ok (.iload_n 3, 1) := by decide +kernel
theorem dX7_plain_7 : decode cX7_plain 7 = .ok (.aload_n 0, 1) := by decide +kernel
theorem dX7_plain_8 : decode cX7_plain 8 = .ok (.getfield 19, 3) := by decide +kernel
theorem dX7_plain_11 : decode cX7_plain 11 = .ok (.invokevirtual 80, 3) := by decide +kernel
theorem dX7_plain_14 : decode cX7_plain 14 = .ok (.if_icmp .ge 44, 3) := by decide +kernel
theorem dX7_plain_17 : decode cX7_plain 17 = .ok (.iload_n 1, 1) := by decide +kernel
theorem dX7_plain_18 : decode cX7_plain 18 = .ok (.aload_n 0, 1) := by decide +kernel
theorem dX7_plain_19 : decode cX7_plain 19 = .ok (.getfield 19, 3) := by decide +kernel
theorem dX7_plain_22 : decode cX7_plain 22 = .ok (.iload_n 3, 1) := by decide +kernel
theorem dX7_plain_23 : decode cX7_plain 23 = .ok (.invokevirtual 300, 3) := by decide +kernel
theorem dX7_plain_26 : decode cX7_plain 26 = .ok (.checkcast 95, 3) := by decide +kernel
theorem dX7_plain_29 : decode cX7_plain 29 = .ok (.getfield 202, 3) := by decide +kernel
theorem dX7_plain_32 : decode cX7_plain 32 = .ok (.arraylength, 1) := by decide +kernel
theorem dX7_plain_33 : decode cX7_plain 33 = .ok (.iadd, 1) := by decide +kernel
theorem dX7_plain_34 : decode cX7_plain 34 = .ok (.istore_n 1, 1) := by decide +kernel
theorem dX7_plain_35 : decode cX7_plain 35 = .ok (.iload_n 2, 1) := by decide +kernel
theorem dX7_plain_36 : decode cX7_plain 36 = .ok (.aload_n 0, 1) := by decide +kernel
theorem dX7_plain_37 : decode cX7_plain 37 = .ok (.getfield 19, 3) := by decide +kernel
theorem dX7_plain_40 : decode cX7_plain 40 = .ok (.iload_n 3, 1) := by decide +kernel
theorem dX7_plain_41 : decode cX7_plain 41 = .ok (.invokevirtual 300, 3) := by decide +kernel
theorem dX7_plain_44 : decode cX7_plain 44 = .ok (.checkcast 95, 3) := by decide +kernel
theorem dX7_plain_47 : decode cX7_plain 47 = .ok (.invokevirtual 374, 3) := by decide +kernel
theorem dX7_plain_50 : decode cX7_plain 50 = .ok (.iadd, 1) := by decide +kernel
theorem dX7_plain_51 : decode cX7_plain 51 = .ok (.istore_n 2, 1) := by decide +kernel
theorem dX7_plain_52 : decode cX7_plain 52 = .ok (.iinc 3 1, 3) := by decide +kernel
theorem dX7_plain_55 : decode cX7_plain 55 = .ok (.goto (-49), 3) := by decide +kernel
theorem dX7_plain_58 : decode cX7_plain 58 = .ok (.iload_n 1, 1) := by decide +kernel
theorem dX7_plain_59 : decode cX7_plain 59 = .ok (.ifCond .gt 5, 3) := by decide +kernel
theorem dX7_plain_62 : decode cX7_plain 62 = .ok (.dconst 1, 1) := by decide +kernel
theorem dX7_plain_63 : decode cX7_plain 63 = .ok (.dreturn, 1) := by decide +kernel
theorem dX7_plain_64 : decode cX7_plain 64 = .ok (.iload_n 1, 1) := by decide +kernel
theorem dX7_plain_65 : decode cX7_plain 65 = .ok (.iload_n 2, 1) := by decide +kernel
theorem dX7_plain_66 : decode cX7_plain 66 = .ok (.isub, 1) := by decide +kernel
theorem dX7_plain_67 : decode cX7_plain 67 = .ok (.i2d, 1) := by decide +kernel
theorem dX7_plain_68 : decode cX7_plain 68 = .ok (.iload_n 1, 1) := by decide +kernel
theorem dX7_plain_69 : decode cX7_plain 69 = .ok (.i2d, 1) := by decide +kernel
theorem dX7_plain_70 : decode cX7_plain 70 = .ok (.ddiv, 1) := by decide +kernel
theorem dX7_plain_71 : decode cX7_plain 71 = .ok (.dreturn, 1) := by decide +kernel
theorem dX7_digest_0 : decode cX7_digest 0 = .ok (.ldc2_w 377, 3) := by decide +kernel
theorem dX7_digest_3 : decode cX7_digest 3 = .ok (.lstore_n 1, 1) := by decide +kernel
theorem dX7_digest_4 : decode cX7_digest 4 = .ok (.iconst 0, 1) := by decide +kernel
theorem dX7_digest_5 : decode cX7_digest 5 = .ok (.istore_n 3, 1) := by decide +kernel
theorem dX7_digest_6 : decode cX7_digest 6 = .ok (.iload_n 3, 1) := by decide +kernel
theorem dX7_digest_7 : decode cX7_digest 7 = .ok (.bipush 11, 2) := by decide +kernel
theorem dX7_digest_9 : decode cX7_digest 9 = .ok (.if_icmp .gt 22, 3) := by decide +kernel
theorem dX7_digest_12 : decode cX7_digest 12 = .ok (.lload_n 1, 1) := by decide +kernel
theorem dX7_digest_13 : decode cX7_digest 13 = .ok (.ldc2_w 379, 3) := by decide +kernel
theorem dX7_digest_16 : decode cX7_digest 16 = .ok (.lmul, 1) := by decide +kernel
theorem dX7_digest_17 : decode cX7_digest 17 = .ok (.aload_n 0, 1) := by decide +kernel
theorem dX7_digest_18 : decode cX7_digest 18 = .ok (.iload_n 3, 1) := by decide +kernel
theorem dX7_digest_19 : decode cX7_digest 19 = .ok (.invokevirtual 363, 3) := by decide +kernel
theorem dX7_digest_22 : decode cX7_digest 22 = .ok (.i2l, 1) := by decide +kernel
theorem dX7_digest_23 : decode cX7_digest 23 = .ok (.ladd, 1) := by decide +kernel
theorem dX7_digest_24 : decode cX7_digest 24 = .ok (.lstore_n 1, 1) := by decide +kernel
theorem dX7_digest_25 : decode cX7_digest 25 = .ok (.iinc 3 1, 3) := by decide +kernel
theorem dX7_digest_28 : decode cX7_digest 28 = .ok (.goto (-22), 3) := by decide +kernel
theorem dX7_digest_31 : decode cX7_digest 31 = .ok (.aload_n 0, 1) := by decide +kernel
theorem dX7_digest_32 : decode cX7_digest 32 = .ok (.lload_n 1, 1) := by decide +kernel
theorem dX7_digest_33 : decode cX7_digest 33 = .ok (.invokevirtual 381, 3) := by decide +kernel
theorem dX7_digest_36 : decode cX7_digest 36 = .ok (.lstore_n 1, 1) := by decide +kernel
theorem dX7_digest_37 : decode cX7_digest 37 = .ok (.aload_n 0, 1) := by decide +kernel
theorem dX7_digest_38 : decode cX7_digest 38 = .ok (.lload_n 1, 1) := by decide +kernel
theorem dX7_digest_39 : decode cX7_digest 39 = .ok (.invokevirtual 385, 3) := by decide +kernel
theorem dX7_digest_42 : decode cX7_digest 42 = .ok (.lstore_n 1, 1) := by decide +kernel
theorem dX7_digest_43 : decode cX7_digest 43 = .ok (.aload_n 0, 1) := by decide +kernel
theorem dX7_digest_44 : decode cX7_digest 44 = .ok (.lload_n 1, 1) := by decide +kernel
theorem dX7_digest_45 : decode cX7_digest 45 = .ok (.invokevirtual 388, 3) := by decide +kernel
theorem dX7_digest_48 : decode cX7_digest 48 = .ok (.lstore_n 1, 1) := by decide +kernel
theorem dX7_digest_49 : decode cX7_digest 49 = .ok (.aload_n 0, 1) := by decide +kernel
theorem dX7_digest_50 : decode cX7_digest 50 = .ok (.lload_n 1, 1) := by decide +kernel
theorem dX7_digest_51 : decode cX7_digest 51 = .ok (.invokevirtual 391, 3) := by decide +kernel
theorem dX7_digest_54 : decode cX7_digest 54 = .ok (.lstore_n 1, 1) := by decide +kernel
theorem dX7_digest_55 : decode cX7_digest 55 = .ok (.aload_n 0, 1) := by decide +kernel
theorem dX7_digest_56 : decode cX7_digest 56 = .ok (.lload_n 1, 1) := by decide +kernel
theorem dX7_digest_57 : decode cX7_digest 57 = .ok (.invokevirtual 394, 3) := by decide +kernel
theorem dX7_digest_60 : decode cX7_digest 60 = .ok (.lstore_n 1, 1) := by decide +kernel
theorem dX7_digest_61 : decode cX7_digest 61 = .ok (.iconst 0, 1) := by decide +kernel
theorem dX7_digest_62 : decode cX7_digest 62 = .ok (.istore_n 3, 1) := by decide +kernel
theorem dX7_digest_63 : decode cX7_digest 63 = .ok (.iload_n 3, 1) := by decide +kernel
theorem dX7_digest_64 : decode cX7_digest 64 = .ok (.aload_n 0, 1) := by decide +kernel
theorem dX7_digest_65 : decode cX7_digest 65 = .ok (.getfield 39, 3) := by decide +kernel
theorem dX7_digest_68 : decode cX7_digest 68 = .ok (.if_icmp .ge 32, 3) := by decide +kernel
theorem dX7_digest_71 : decode cX7_digest 71 = .ok (.iload_n 3, 1) := by decide +kernel
theorem dX7_digest_72 : decode cX7_digest 72 = .ok (.aload_n 0, 1) := by decide +kernel
theorem dX7_digest_73 : decode cX7_digest 73 = .ok (.getfield 36, 3) := by decide +kernel
theorem dX7_digest_76 : decode cX7_digest 76 = .ok (.arraylength, 1) := by decide +kernel
theorem dX7_digest_77 : decode cX7_digest 77 = .ok (.if_icmp .ge 23, 3) := by decide +kernel
theorem dX7_digest_80 : decode cX7_digest 80 = .ok (.lload_n 1, 1) := by decide +kernel
theorem dX7_digest_81 : decode cX7_digest 81 = .ok (.ldc2_w 379, 3) := by decide +kernel
theorem dX7_digest_84 : decode cX7_digest 84 = .ok (.lmul, 1) := by decide +kernel
theorem dX7_digest_85 : decode cX7_digest 85 = .ok (.aload_n 0, 1) := by decide +kernel
theorem dX7_digest_86 : decode cX7_digest 86 = .ok (.getfield 36, 3) := by decide +kernel
theorem dX7_digest_89 : decode cX7_digest 89 = .ok (.iload_n 3, 1) := by decide +kernel
theorem dX7_digest_90 : decode cX7_digest 90 = .ok (.iaload, 1) := by decide +kernel
theorem dX7_digest_91 : decode cX7_digest 91 = .ok (.i2l, 1) := by decide +kernel
theorem dX7_digest_92 : decode cX7_digest 92 = .ok (.ladd, 1) := by decide +kernel
theorem dX7_digest_93 : decode cX7_digest 93 = .ok (.lstore_n 1, 1) := by decide +kernel
theorem dX7_digest_94 : decode cX7_digest 94 = .ok (.iinc 3 1, 3) := by decide +kernel
theorem dX7_digest_97 : decode cX7_digest 97 = .ok (.goto (-34), 3) := by decide +kernel
theorem dX7_digest_100 : decode cX7_digest 100 = .ok (.lload_n 1, 1) := by decide +kernel
theorem dX7_digest_101 : decode cX7_digest 101 = .ok (.lreturn, 1) := by decide +kernel
theorem dX7_caseAt_0 : decode cX7_caseAt 0 = .ok (.iload_n 1, 1) := by decide +kernel
theorem dX7_caseAt_1 : decode cX7_caseAt 1 = .ok (.ifCond .lt 14, 3) := by decide +kernel
theorem dX7_caseAt_4 : decode cX7_caseAt 4 = .ok (.iload_n 1, 1) := by decide +kernel
theorem dX7_caseAt_5 : decode cX7_caseAt 5 = .ok (.aload_n 0, 1) := by decide +kernel
theorem dX7_caseAt_6 : decode cX7_caseAt 6 = .ok (.getfield 12, 3) := by decide +kernel
theorem dX7_caseAt_9 : decode cX7_caseAt 9 = .ok (.invokevirtual 80, 3) := by decide +kernel
theorem dX7_caseAt_12 : decode cX7_caseAt 12 = .ok (.if_icmp .lt 7, 3) := by decide +kernel
theorem dX7_caseAt_15 : decode cX7_caseAt 15 = .ok (.aconst_null, 1) := by decide +kernel
theorem dX7_caseAt_16 : decode cX7_caseAt 16 = .ok (.goto 14, 3) := by decide +kernel
theorem dX7_caseAt_19 : decode cX7_caseAt 19 = .ok (.aload_n 0, 1) := by decide +kernel
theorem dX7_caseAt_20 : decode cX7_caseAt 20 = .ok (.getfield 12, 3) := by decide +kernel
theorem dX7_caseAt_23 : decode cX7_caseAt 23 = .ok (.iload_n 1, 1) := by decide +kernel
theorem dX7_caseAt_24 : decode cX7_caseAt 24 = .ok (.invokevirtual 300, 3) := by decide +kernel
theorem dX7_caseAt_27 : decode cX7_caseAt 27 = .ok (.checkcast 134, 3) := by decide +kernel
theorem dX7_caseAt_30 : decode cX7_caseAt 30 = .ok (.areturn, 1) := by decide +kernel
theorem dX7_personAt_0 : decode cX7_personAt 0 = .ok (.iload_n 1, 1) := by decide +kernel
theorem dX7_personAt_1 : decode cX7_personAt 1 = .ok (.ifCond .lt 14, 3) := by decide +kernel
theorem dX7_personAt_4 : decode cX7_personAt 4 = .ok (.iload_n 1, 1) := by decide +kernel
theorem dX7_personAt_5 : decode cX7_personAt 5 = .ok (.aload_n 0, 1) := by decide +kernel
theorem dX7_personAt_6 : decode cX7_personAt 6 = .ok (.getfield 16, 3) := by decide +kernel
theorem dX7_personAt_9 : decode cX7_personAt 9 = .ok (.invokevirtual 80, 3) := by decide +kernel
theorem dX7_personAt_12 : decode cX7_personAt 12 = .ok (.if_icmp .lt 7, 3) := by decide +kernel
theorem dX7_personAt_15 : decode cX7_personAt 15 = .ok (.aconst_null, 1) := by decide +kernel
theorem dX7_personAt_16 : decode cX7_personAt 16 = .ok (.goto 14, 3) := by decide +kernel
theorem dX7_personAt_19 : decode cX7_personAt 19 = .ok (.aload_n 0, 1) := by decide +kernel
theorem dX7_personAt_20 : decode cX7_personAt 20 = .ok (.getfield 16, 3) := by decide +kernel
theorem dX7_personAt_23 : decode cX7_personAt 23 = .ok (.iload_n 1, 1) := by decide +kernel
theorem dX7_personAt_24 : decode cX7_personAt 24 = .ok (.invokevirtual 300, 3) := by decide +kernel
theorem dX7_personAt_27 : decode cX7_personAt 27 = .ok (.checkcast 146, 3) := by decide +kernel
theorem dX7_personAt_30 : decode cX7_personAt 30 = .ok (.areturn, 1) := by decide +kernel
theorem dX7_documentAt_0 : decode cX7_documentAt 0 = .ok (.iload_n 1, 1) := by decide +kernel
theorem dX7_documentAt_1 : decode cX7_documentAt 1 = .ok (.ifCond .lt 14, 3) := by decide +kernel
theorem dX7_documentAt_4 : decode cX7_documentAt 4 = .ok (.iload_n 1, 1) := by decide +kernel
theorem dX7_documentAt_5 : decode cX7_documentAt 5 = .ok (.aload_n 0, 1) := by decide +kernel
theorem dX7_documentAt_6 : decode cX7_documentAt 6 = .ok (.getfield 19, 3) := by decide +kernel
theorem dX7_documentAt_9 : decode cX7_documentAt 9 = .ok (.invokevirtual 80, 3) := by decide +kernel
theorem dX7_documentAt_12 : decode cX7_documentAt 12 = .ok (.if_icmp .lt 7, 3) := by decide +kernel
theorem dX7_documentAt_15 : decode cX7_documentAt 15 = .ok (.aconst_null, 1) := by decide +kernel
theorem dX7_documentAt_16 : decode cX7_documentAt 16 = .ok (.goto 14, 3) := by decide +kernel
theorem dX7_documentAt_19 : decode cX7_documentAt 19 = .ok (.aload_n 0, 1) := by decide +kernel
theorem dX7_documentAt_20 : decode cX7_documentAt 20 = .ok (.getfield 19, 3) := by decide +kernel
theorem dX7_documentAt_23 : decode cX7_documentAt 23 = .ok (.iload_n 1, 1) := by decide +kernel
theorem dX7_documentAt_24 : decode cX7_documentAt 24 = .ok (.invokevirtual 300, 3) := by decide +kernel
theorem dX7_documentAt_27 : decode cX7_documentAt 27 = .ok (.checkcast 95, 3) := by decide +kernel
theorem dX7_documentAt_30 : decode cX7_documentAt 30 = .ok (.areturn, 1) := by decide +kernel
theorem dX7_exhibitAt_0 : decode cX7_exhibitAt 0 = .ok (.iload_n 1, 1) := by decide +kernel
theorem dX7_exhibitAt_1 : decode cX7_exhibitAt 1 = .ok (.ifCond .lt 14, 3) := by decide +kernel
theorem dX7_exhibitAt_4 : decode cX7_exhibitAt 4 = .ok (.iload_n 1, 1) := by decide +kernel
theorem dX7_exhibitAt_5 : decode cX7_exhibitAt 5 = .ok (.aload_n 0, 1) := by decide +kernel
theorem dX7_exhibitAt_6 : decode cX7_exhibitAt 6 = .ok (.getfield 22, 3) := by decide +kernel
theorem dX7_exhibitAt_9 : decode cX7_exhibitAt 9 = .ok (.invokevirtual 80, 3) := by decide +kernel
theorem dX7_exhibitAt_12 : decode cX7_exhibitAt 12 = .ok (.if_icmp .lt 7, 3) := by decide +kernel
theorem dX7_exhibitAt_15 : decode cX7_exhibitAt 15 = .ok (.aconst_null, 1) := by decide +kernel
theorem dX7_exhibitAt_16 : decode cX7_exhibitAt 16 = .ok (.goto 14, 3) := by decide +kernel
theorem dX7_exhibitAt_19 : decode cX7_exhibitAt 19 = .ok (.aload_n 0, 1) := by decide +kernel
theorem dX7_exhibitAt_20 : decode cX7_exhibitAt 20 = .ok (.getfield 22, 3) := by decide +kernel
theorem dX7_exhibitAt_23 : decode cX7_exhibitAt 23 = .ok (.iload_n 1, 1) := by decide +kernel
theorem dX7_exhibitAt_24 : decode cX7_exhibitAt 24 = .ok (.invokevirtual 300, 3) := by decide +kernel
theorem dX7_exhibitAt_27 : decode cX7_exhibitAt 27 = .ok (.checkcast 241, 3) := by decide +kernel
theorem dX7_exhibitAt_30 : decode cX7_exhibitAt 30 = .ok (.areturn, 1) := by decide +kernel
theorem dX7_letterAt_0 : decode cX7_letterAt 0 = .ok (.iload_n 1, 1) := by decide +kernel
theorem dX7_letterAt_1 : decode cX7_letterAt 1 = .ok (.ifCond .lt 14, 3) := by decide +kernel
theorem dX7_letterAt_4 : decode cX7_letterAt 4 = .ok (.iload_n 1, 1) := by decide +kernel
theorem dX7_letterAt_5 : decode cX7_letterAt 5 = .ok (.aload_n 0, 1) := by decide +kernel
theorem dX7_letterAt_6 : decode cX7_letterAt 6 = .ok (.getfield 25, 3) := by decide +kernel
theorem dX7_letterAt_9 : decode cX7_letterAt 9 = .ok (.invokevirtual 80, 3) := by decide +kernel
theorem dX7_letterAt_12 : decode cX7_letterAt 12 = .ok (.if_icmp .lt 7, 3) := by decide +kernel
theorem dX7_letterAt_15 : decode cX7_letterAt 15 = .ok (.aconst_null, 1) := by decide +kernel
theorem dX7_letterAt_16 : decode cX7_letterAt 16 = .ok (.goto 14, 3) := by decide +kernel
theorem dX7_letterAt_19 : decode cX7_letterAt 19 = .ok (.aload_n 0, 1) := by decide +kernel
theorem dX7_letterAt_20 : decode cX7_letterAt 20 = .ok (.getfield 25, 3) := by decide +kernel
theorem dX7_letterAt_23 : decode cX7_letterAt 23 = .ok (.iload_n 1, 1) := by decide +kernel
theorem dX7_letterAt_24 : decode cX7_letterAt 24 = .ok (.invokevirtual 300, 3) := by decide +kernel
theorem dX7_letterAt_27 : decode cX7_letterAt 27 = .ok (.checkcast 312, 3) := by decide +kernel
theorem dX7_letterAt_30 : decode cX7_letterAt 30 = .ok (.areturn, 1) := by decide +kernel
theorem dX7_numberOf_0 : decode cX7_numberOf 0 = .ok (.aload_n 0, 1) := by decide +kernel
theorem dX7_numberOf_1 : decode cX7_numberOf 1 = .ok (.ifnonnull 7, 3) := by decide +kernel
theorem dX7_numberOf_4 : decode cX7_numberOf 4 = .ok (.iconst (-1), 1) := by decide +kernel
theorem dX7_numberOf_5 : decode cX7_numberOf 5 = .ok (.goto 7, 3) := by decide +kernel
theorem dX7_numberOf_8 : decode cX7_numberOf 8 = .ok (.aload_n 0, 1) := by decide +kernel
theorem dX7_numberOf_9 : decode cX7_numberOf 9 = .ok (.getfield 397, 3) := by decide +kernel
theorem dX7_numberOf_12 : decode cX7_numberOf 12 = .ok (.ireturn, 1) := by decide +kernel
theorem dX7_isLevel_0 : decode cX7_isLevel 0 = .ok (.iload_n 0, 1) := by decide +kernel
theorem dX7_isLevel_1 : decode cX7_isLevel 1 = .ok (.ifCond .lt 13, 3) := by decide +kernel
theorem dX7_isLevel_4 : decode cX7_isLevel 4 = .ok (.iload_n 0, 1) := by decide +kernel
theorem dX7_isLevel_5 : decode cX7_isLevel 5 = .ok (.bipush 9, 2) := by decide +kernel
