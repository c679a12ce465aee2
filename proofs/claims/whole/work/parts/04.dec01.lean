theorem dX7_isLevel_7 : decode cX7_isLevel 7 = .ok (.if_icmp .gt 7, 3) := by decide +kernel
theorem dX7_isLevel_10 : decode cX7_isLevel 10 = .ok (.iconst 1, 1) := by decide +kernel
theorem dX7_isLevel_11 : decode cX7_isLevel 11 = .ok (.goto 4, 3) := by decide +kernel
theorem dX7_isLevel_14 : decode cX7_isLevel 14 = .ok (.iconst 0, 1) := by decide +kernel
theorem dX7_isLevel_15 : decode cX7_isLevel 15 = .ok (.ireturn, 1) := by decide +kernel
theorem dX7_append_0 : decode cX7_append 0 = .ok (.bipush 24, 2) := by decide +kernel
theorem dX7_append_2 : decode cX7_append 2 = .ok (.istore_n 2, 1) := by decide +kernel
theorem dX7_append_3 : decode cX7_append 3 = .ok (.iload_n 2, 1) := by decide +kernel
theorem dX7_append_4 : decode cX7_append 4 = .ok (.ifCond .lt 54, 3) := by decide +kernel
theorem dX7_append_7 : decode cX7_append 7 = .ok (.aload_n 0, 1) := by decide +kernel
theorem dX7_append_8 : decode cX7_append 8 = .ok (.getfield 32, 3) := by decide +kernel
theorem dX7_append_11 : decode cX7_append 11 = .ok (.ifCond .lt 41, 3) := by decide +kernel
theorem dX7_append_14 : decode cX7_append 14 = .ok (.aload_n 0, 1) := by decide +kernel
theorem dX7_append_15 : decode cX7_append 15 = .ok (.getfield 32, 3) := by decide +kernel
theorem dX7_append_18 : decode cX7_append 18 = .ok (.aload_n 0, 1) := by decide +kernel
theorem dX7_append_19 : decode cX7_append 19 = .ok (.getfield 28, 3) := by decide +kernel
theorem dX7_append_22 : decode cX7_append 22 = .ok (.arraylength, 1) := by decide +kernel
theorem dX7_append_23 : decode cX7_append 23 = .ok (.if_icmp .ge 29, 3) := by decide +kernel
theorem dX7_append_26 : decode cX7_append 26 = .ok (.aload_n 0, 1) := by decide +kernel
theorem dX7_append_27 : decode cX7_append 27 = .ok (.getfield 28, 3) := by decide +kernel
theorem dX7_append_30 : decode cX7_append 30 = .ok (.aload_n 0, 1) := by decide +kernel
theorem dX7_append_31 : decode cX7_append 31 = .ok (.getfield 32, 3) := by decide +kernel
theorem dX7_append_34 : decode cX7_append 34 = .ok (.iload_n 1, 1) := by decide +kernel
theorem dX7_append_35 : decode cX7_append 35 = .ok (.iload_n 2, 1) := by decide +kernel
theorem dX7_append_36 : decode cX7_append 36 = .ok (.iushr, 1) := by decide +kernel
theorem dX7_append_37 : decode cX7_append 37 = .ok (.sipush 255, 3) := by decide +kernel
theorem dX7_append_40 : decode cX7_append 40 = .ok (.iand, 1) := by decide +kernel
theorem dX7_append_41 : decode cX7_append 41 = .ok (.iastore, 1) := by decide +kernel
theorem dX7_append_42 : decode cX7_append 42 = .ok (.aload_n 0, 1) := by decide +kernel
theorem dX7_append_43 : decode cX7_append 43 = .ok (.dup, 1) := by decide +kernel
theorem dX7_append_44 : decode cX7_append 44 = .ok (.getfield 32, 3) := by decide +kernel
theorem dX7_append_47 : decode cX7_append 47 = .ok (.iconst 1, 1) := by decide +kernel
theorem dX7_append_48 : decode cX7_append 48 = .ok (.iadd, 1) := by decide +kernel
theorem dX7_append_49 : decode cX7_append 49 = .ok (.putfield 32, 3) := by decide +kernel
theorem dX7_append_52 : decode cX7_append 52 = .ok (.iinc 2 (-8), 3) := by decide +kernel
theorem dX7_append_55 : decode cX7_append 55 = .ok (.goto (-52), 3) := by decide +kernel
theorem dX7_append_58 : decode cX7_append 58 = .ok (.return_, 1) := by decide +kernel
theorem dX7_writePaper_0 : decode cX7_writePaper 0 = .ok (.aload_n 0, 1) := by decide +kernel
theorem dX7_writePaper_1 : decode cX7_writePaper 1 = .ok (.aload_n 1, 1) := by decide +kernel
theorem dX7_writePaper_2 : decode cX7_writePaper 2 = .ok (.getfield 202, 3) := by decide +kernel
theorem dX7_writePaper_5 : decode cX7_writePaper 5 = .ok (.arraylength, 1) := by decide +kernel
theorem dX7_writePaper_6 : decode cX7_writePaper 6 = .ok (.aload_n 0, 1) := by decide +kernel
theorem dX7_writePaper_7 : decode cX7_writePaper 7 = .ok (.getfield 36, 3) := by decide +kernel
theorem dX7_writePaper_10 : decode cX7_writePaper 10 = .ok (.arraylength, 1) := by decide +kernel
theorem dX7_writePaper_11 : decode cX7_writePaper 11 = .ok (.invokestatic 398, 3) := by decide +kernel
theorem dX7_writePaper_14 : decode cX7_writePaper 14 = .ok (.putfield 39, 3) := by decide +kernel
theorem dX7_writePaper_17 : decode cX7_writePaper 17 = .ok (.iconst 0, 1) := by decide +kernel
theorem dX7_writePaper_18 : decode cX7_writePaper 18 = .ok (.istore_n 3, 1) := by decide +kernel
theorem dX7_writePaper_19 : decode cX7_writePaper 19 = .ok (.iload_n 3, 1) := by decide +kernel
theorem dX7_writePaper_20 : decode cX7_writePaper 20 = .ok (.aload_n 0, 1) := by decide +kernel
theorem dX7_writePaper_21 : decode cX7_writePaper 21 = .ok (.getfield 39, 3) := by decide +kernel
theorem dX7_writePaper_24 : decode cX7_writePaper 24 = .ok (.if_icmp .ge 21, 3) := by decide +kernel
theorem dX7_writePaper_27 : decode cX7_writePaper 27 = .ok (.aload_n 0, 1) := by decide +kernel
theorem dX7_writePaper_28 : decode cX7_writePaper 28 = .ok (.getfield 36, 3) := by decide +kernel
theorem dX7_writePaper_31 : decode cX7_writePaper 31 = .ok (.iload_n 3, 1) := by decide +kernel
theorem dX7_writePaper_32 : decode cX7_writePaper 32 = .ok (.aload_n 1, 1) := by decide +kernel
theorem dX7_writePaper_33 : decode cX7_writePaper 33 = .ok (.iload_n 3, 1) := by decide +kernel
theorem dX7_writePaper_34 : decode cX7_writePaper 34 = .ok (.iload_n 2, 1) := by decide +kernel
theorem dX7_writePaper_35 : decode cX7_writePaper 35 = .ok (.invokevirtual 206, 3) := by decide +kernel
theorem dX7_writePaper_38 : decode cX7_writePaper 38 = .ok (.iastore, 1) := by decide +kernel
theorem dX7_writePaper_39 : decode cX7_writePaper 39 = .ok (.iinc 3 1, 3) := by decide +kernel
theorem dX7_writePaper_42 : decode cX7_writePaper 42 = .ok (.goto (-23), 3) := by decide +kernel
theorem dX7_writePaper_45 : decode cX7_writePaper 45 = .ok (.return_, 1) := by decide +kernel
theorem dX7_isTapeSeen_0 : decode cX7_isTapeSeen 0 = .ok (.iconst 0, 1) := by decide +kernel
theorem dX7_isTapeSeen_1 : decode cX7_isTapeSeen 1 = .ok (.istore 4, 2) := by decide +kernel
theorem dX7_isTapeSeen_3 : decode cX7_isTapeSeen 3 = .ok (.iload 4, 2) := by decide +kernel
theorem dX7_isTapeSeen_5 : decode cX7_isTapeSeen 5 = .ok (.aload_n 0, 1) := by decide +kernel
theorem dX7_isTapeSeen_6 : decode cX7_isTapeSeen 6 = .ok (.getfield 32, 3) := by decide +kernel
theorem dX7_isTapeSeen_9 : decode cX7_isTapeSeen 9 = .ok (.if_icmp .ge 40, 3) := by decide +kernel
theorem dX7_isTapeSeen_12 : decode cX7_isTapeSeen 12 = .ok (.iload 4, 2) := by decide +kernel
theorem dX7_isTapeSeen_14 : decode cX7_isTapeSeen 14 = .ok (.aload_n 0, 1) := by decide +kernel
theorem dX7_isTapeSeen_15 : decode cX7_isTapeSeen 15 = .ok (.getfield 28, 3) := by decide +kernel
theorem dX7_isTapeSeen_18 : decode cX7_isTapeSeen 18 = .ok (.arraylength, 1) := by decide +kernel
theorem dX7_isTapeSeen_19 : decode cX7_isTapeSeen 19 = .ok (.if_icmp .ge 30, 3) := by decide +kernel
theorem dX7_isTapeSeen_22 : decode cX7_isTapeSeen 22 = .ok (.aload_n 1, 1) := by decide +kernel
theorem dX7_isTapeSeen_23 : decode cX7_isTapeSeen 23 = .ok (.iload_n 2, 1) := by decide +kernel
theorem dX7_isTapeSeen_24 : decode cX7_isTapeSeen 24 = .ok (.iload 4, 2) := by decide +kernel
theorem dX7_isTapeSeen_26 : decode cX7_isTapeSeen 26 = .ok (.iadd, 1) := by decide +kernel
theorem dX7_isTapeSeen_27 : decode cX7_isTapeSeen 27 = .ok (.iload_n 3, 1) := by decide +kernel
theorem dX7_isTapeSeen_28 : decode cX7_isTapeSeen 28 = .ok (.invokevirtual 206, 3) := by decide +kernel
theorem dX7_isTapeSeen_31 : decode cX7_isTapeSeen 31 = .ok (.aload_n 0, 1) := by decide +kernel
theorem dX7_isTapeSeen_32 : decode cX7_isTapeSeen 32 = .ok (.getfield 28, 3) := by decide +kernel
theorem dX7_isTapeSeen_35 : decode cX7_isTapeSeen 35 = .ok (.iload 4, 2) := by decide +kernel
theorem dX7_isTapeSeen_37 : decode cX7_isTapeSeen 37 = .ok (.iaload, 1) := by decide +kernel
theorem dX7_isTapeSeen_38 : decode cX7_isTapeSeen 38 = .ok (.if_icmp .eq 5, 3) := by decide +kernel
theorem dX7_isTapeSeen_41 : decode cX7_isTapeSeen 41 = .ok (.iconst 0, 1) := by decide +kernel
theorem dX7_isTapeSeen_42 : decode cX7_isTapeSeen 42 = .ok (.ireturn, 1) := by decide +kernel
theorem dX7_isTapeSeen_43 : decode cX7_isTapeSeen 43 = .ok (.iinc 4 1, 3) := by decide +kernel
theorem dX7_isTapeSeen_46 : decode cX7_isTapeSeen 46 = .ok (.goto (-43), 3) := by decide +kernel
theorem dX7_isTapeSeen_49 : decode cX7_isTapeSeen 49 = .ok (.iconst 1, 1) := by decide +kernel
theorem dX7_isTapeSeen_50 : decode cX7_isTapeSeen 50 = .ok (.ireturn, 1) := by decide +kernel
theorem dX7_hiddenBytes_0 : decode cX7_hiddenBytes 0 = .ok (.aload_n 1, 1) := by decide +kernel
theorem dX7_hiddenBytes_1 : decode cX7_hiddenBytes 1 = .ok (.iconst 0, 1) := by decide +kernel
theorem dX7_hiddenBytes_2 : decode cX7_hiddenBytes 2 = .ok (.aload_n 1, 1) := by decide +kernel
theorem dX7_hiddenBytes_3 : decode cX7_hiddenBytes 3 = .ok (.getfield 202, 3) := by decide +kernel
theorem dX7_hiddenBytes_6 : decode cX7_hiddenBytes 6 = .ok (.arraylength, 1) := by decide +kernel
theorem dX7_hiddenBytes_7 : decode cX7_hiddenBytes 7 = .ok (.aload_n 0, 1) := by decide +kernel
theorem dX7_hiddenBytes_8 : decode cX7_hiddenBytes 8 = .ok (.aload_n 1, 1) := by decide +kernel
theorem dX7_hiddenBytes_9 : decode cX7_hiddenBytes 9 = .ok (.getfield 181, 3) := by decide +kernel
theorem dX7_hiddenBytes_12 : decode cX7_hiddenBytes 12 = .ok (.invokevirtual 185, 3) := by decide +kernel
theorem dX7_hiddenBytes_15 : decode cX7_hiddenBytes 15 = .ok (.invokevirtual 216, 3) := by decide +kernel
theorem dX7_hiddenBytes_18 : decode cX7_hiddenBytes 18 = .ok (.ireturn, 1) := by decide +kernel
theorem dX7_bytesSeenBy_0 : decode cX7_bytesSeenBy 0 = .ok (.iconst 0, 1) := by decide +kernel
theorem dX7_bytesSeenBy_1 : decode cX7_bytesSeenBy 1 = .ok (.istore_n 3, 1) := by decide +kernel
theorem dX7_bytesSeenBy_2 : decode cX7_bytesSeenBy 2 = .ok (.iconst 0, 1) := by decide +kernel
theorem dX7_bytesSeenBy_3 : decode cX7_bytesSeenBy 3 = .ok (.istore 4, 2) := by decide +kernel
theorem dX7_bytesSeenBy_5 : decode cX7_bytesSeenBy 5 = .ok (.iload 4, 2) := by decide +kernel
theorem dX7_bytesSeenBy_7 : decode cX7_bytesSeenBy 7 = .ok (.aload_n 0, 1) := by decide +kernel
theorem dX7_bytesSeenBy_8 : decode cX7_bytesSeenBy 8 = .ok (.getfield 19, 3) := by decide +kernel
theorem dX7_bytesSeenBy_11 : decode cX7_bytesSeenBy 11 = .ok (.invokevirtual 80, 3) := by decide +kernel
theorem dX7_bytesSeenBy_14 : decode cX7_bytesSeenBy 14 = .ok (.if_icmp .ge 48, 3) := by decide +kernel
theorem dX7_bytesSeenBy_17 : decode cX7_bytesSeenBy 17 = .ok (.aload_n 0, 1) := by decide +kernel
theorem dX7_bytesSeenBy_18 : decode cX7_bytesSeenBy 18 = .ok (.getfield 19, 3) := by decide +kernel
theorem dX7_bytesSeenBy_21 : decode cX7_bytesSeenBy 21 = .ok (.iload 4, 2) := by decide +kernel
theorem dX7_bytesSeenBy_23 : decode cX7_bytesSeenBy 23 = .ok (.invokevirtual 300, 3) := by decide +kernel
theorem dX7_bytesSeenBy_26 : decode cX7_bytesSeenBy 26 = .ok (.checkcast 95, 3) := by decide +kernel
theorem dX7_bytesSeenBy_29 : decode cX7_bytesSeenBy 29 = .ok (.astore 5, 2) := by decide +kernel
theorem dX7_bytesSeenBy_31 : decode cX7_bytesSeenBy 31 = .ok (.aload 5, 2) := by decide +kernel
theorem dX7_bytesSeenBy_33 : decode cX7_bytesSeenBy 33 = .ok (.getfield 181, 3) := by decide +kernel
theorem dX7_bytesSeenBy_36 : decode cX7_bytesSeenBy 36 = .ok (.aload_n 2, 1) := by decide +kernel
theorem dX7_bytesSeenBy_37 : decode cX7_bytesSeenBy 37 = .ok (.if_acmp .ne 19, 3) := by decide +kernel
theorem dX7_bytesSeenBy_40 : decode cX7_bytesSeenBy 40 = .ok (.iload_n 3, 1) := by decide +kernel
theorem dX7_bytesSeenBy_41 : decode cX7_bytesSeenBy 41 = .ok (.aload 5, 2) := by decide +kernel
theorem dX7_bytesSeenBy_43 : decode cX7_bytesSeenBy 43 = .ok (.getfield 202, 3) := by decide +kernel
theorem dX7_bytesSeenBy_46 : decode cX7_bytesSeenBy 46 = .ok (.arraylength, 1) := by decide +kernel
theorem dX7_bytesSeenBy_47 : decode cX7_bytesSeenBy 47 = .ok (.aload_n 1, 1) := by decide +kernel
theorem dX7_bytesSeenBy_48 : decode cX7_bytesSeenBy 48 = .ok (.aload 5, 2) := by decide +kernel
theorem dX7_bytesSeenBy_50 : decode cX7_bytesSeenBy 50 = .ok (.invokestatic 198, 3) := by decide +kernel
theorem dX7_bytesSeenBy_53 : decode cX7_bytesSeenBy 53 = .ok (.isub, 1) := by decide +kernel
theorem dX7_bytesSeenBy_54 : decode cX7_bytesSeenBy 54 = .ok (.iadd, 1) := by decide +kernel
theorem dX7_bytesSeenBy_55 : decode cX7_bytesSeenBy 55 = .ok (.istore_n 3, 1) := by decide +kernel
theorem dX7_bytesSeenBy_56 : decode cX7_bytesSeenBy 56 = .ok (.iinc 4 1, 3) := by decide +kernel
theorem dX7_bytesSeenBy_59 : decode cX7_bytesSeenBy 59 = .ok (.goto (-54), 3) := by decide +kernel
theorem dX7_bytesSeenBy_62 : decode cX7_bytesSeenBy 62 = .ok (.iload_n 3, 1) := by decide +kernel
theorem dX7_bytesSeenBy_63 : decode cX7_bytesSeenBy 63 = .ok (.ireturn, 1) := by decide +kernel
theorem dX7_exhibitsOf_0 : decode cX7_exhibitsOf 0 = .ok (.iconst 0, 1) := by decide +kernel
theorem dX7_exhibitsOf_1 : decode cX7_exhibitsOf 1 = .ok (.istore_n 2, 1) := by decide +kernel
theorem dX7_exhibitsOf_2 : decode cX7_exhibitsOf 2 = .ok (.iconst 0, 1) := by decide +kernel
theorem dX7_exhibitsOf_3 : decode cX7_exhibitsOf 3 = .ok (.istore_n 3, 1) := by decide +kernel
theorem dX7_exhibitsOf_4 : decode cX7_exhibitsOf 4 = .ok (.iload_n 3, 1) := by decide +kernel
theorem dX7_exhibitsOf_5 : decode cX7_exhibitsOf 5 = .ok (.aload_n 0, 1) := by decide +kernel
theorem dX7_exhibitsOf_6 : decode cX7_exhibitsOf 6 = .ok (.getfield 22, 3) := by decide +kernel
theorem dX7_exhibitsOf_9 : decode cX7_exhibitsOf 9 = .ok (.invokevirtual 80, 3) := by decide +kernel
theorem dX7_exhibitsOf_12 : decode cX7_exhibitsOf 12 = .ok (.if_icmp .ge 33, 3) := by decide +kernel
theorem dX7_exhibitsOf_15 : decode cX7_exhibitsOf 15 = .ok (.aload_n 0, 1) := by decide +kernel
theorem dX7_exhibitsOf_16 : decode cX7_exhibitsOf 16 = .ok (.getfield 22, 3) := by decide +kernel
theorem dX7_exhibitsOf_19 : decode cX7_exhibitsOf 19 = .ok (.iload_n 3, 1) := by decide +kernel
theorem dX7_exhibitsOf_20 : decode cX7_exhibitsOf 20 = .ok (.invokevirtual 300, 3) := by decide +kernel
theorem dX7_exhibitsOf_23 : decode cX7_exhibitsOf 23 = .ok (.checkcast 241, 3) := by decide +kernel
theorem dX7_exhibitsOf_26 : decode cX7_exhibitsOf 26 = .ok (.getfield 263, 3) := by decide +kernel
theorem dX7_exhibitsOf_29 : decode cX7_exhibitsOf 29 = .ok (.aload_n 1, 1) := by decide +kernel
theorem dX7_exhibitsOf_30 : decode cX7_exhibitsOf 30 = .ok (.if_acmp .ne 9, 3) := by decide +kernel
theorem dX7_exhibitsOf_33 : decode cX7_exhibitsOf 33 = .ok (.iload_n 2, 1) := by decide +kernel
theorem dX7_exhibitsOf_34 : decode cX7_exhibitsOf 34 = .ok (.iconst 1, 1) := by decide +kernel
theorem dX7_exhibitsOf_35 : decode cX7_exhibitsOf 35 = .ok (.iload_n 3, 1) := by decide +kernel
theorem dX7_exhibitsOf_36 : decode cX7_exhibitsOf 36 = .ok (.ishl, 1) := by decide +kernel
theorem dX7_exhibitsOf_37 : decode cX7_exhibitsOf 37 = .ok (.ior, 1) := by decide +kernel
theorem dX7_exhibitsOf_38 : decode cX7_exhibitsOf 38 = .ok (.istore_n 2, 1) := by decide +kernel
theorem dX7_exhibitsOf_39 : decode cX7_exhibitsOf 39 = .ok (.iinc 3 1, 3) := by decide +kernel
theorem dX7_exhibitsOf_42 : decode cX7_exhibitsOf 42 = .ok (.goto (-38), 3) := by decide +kernel
theorem dX7_exhibitsOf_45 : decode cX7_exhibitsOf 45 = .ok (.iload_n 2, 1) := by decide +kernel
theorem dX7_exhibitsOf_46 : decode cX7_exhibitsOf 46 = .ok (.ireturn, 1) := by decide +kernel
theorem dX7_carryOutLetters_0 : decode cX7_carryOutLetters 0 = .ok (.iconst 0, 1) := by decide +kernel
theorem dX7_carryOutLetters_1 : decode cX7_carryOutLetters 1 = .ok (.istore_n 1, 1) := by decide +kernel
theorem dX7_carryOutLetters_2 : decode cX7_carryOutLetters 2 = .ok (.aload_n 0, 1) := by decide +kernel
theorem dX7_carryOutLetters_3 : decode cX7_carryOutLetters 3 = .ok (.invokevirtual 340, 3) := by decide +kernel
theorem dX7_carryOutLetters_6 : decode cX7_carryOutLetters 6 = .ok (.istore_n 2, 1) := by decide +kernel
theorem dX7_carryOutLetters_7 : decode cX7_carryOutLetters 7 = .ok (.iconst 0, 1) := by decide +kernel
theorem dX7_carryOutLetters_8 : decode cX7_carryOutLetters 8 = .ok (.istore_n 3, 1) := by decide +kernel
theorem dX7_carryOutLetters_9 : decode cX7_carryOutLetters 9 = .ok (.iload_n 3, 1) := by decide +kernel
theorem dX7_carryOutLetters_10 : decode cX7_carryOutLetters 10 = .ok (.iload_n 2, 1) := by decide +kernel
theorem dX7_carryOutLetters_11 : decode cX7_carryOutLetters 11 = .ok (.if_icmp .ge 40, 3) := by decide +kernel
theorem dX7_carryOutLetters_14 : decode cX7_carryOutLetters 14 = .ok (.aload_n 0, 1) := by decide +kernel
theorem dX7_carryOutLetters_15 : decode cX7_carryOutLetters 15 = .ok (.invokevirtual 403, 3) := by decide +kernel
theorem dX7_carryOutLetters_18 : decode cX7_carryOutLetters 18 = .ok (.astore 4, 2) := by decide +kernel
theorem dX7_carryOutLetters_20 : decode cX7_carryOutLetters 20 = .ok (.aload 4, 2) := by decide +kernel
theorem dX7_carryOutLetters_22 : decode cX7_carryOutLetters 22 = .ok (.ifnonnull 5, 3) := by decide +kernel
theorem dX7_carryOutLetters_25 : decode cX7_carryOutLetters 25 = .ok (.iload_n 1, 1) := by decide +kernel
theorem dX7_carryOutLetters_26 : decode cX7_carryOutLetters 26 = .ok (.ireturn, 1) := by decide +kernel
theorem dX7_carryOutLetters_27 : decode cX7_carryOutLetters 27 = .ok (.aload_n 0, 1) := by decide +kernel
theorem dX7_carryOutLetters_28 : decode cX7_carryOutLetters 28 = .ok (.aload 4, 2) := by decide +kernel
theorem dX7_carryOutLetters_30 : decode cX7_carryOutLetters 30 = .ok (.invokevirtual 407, 3) := by decide +kernel
theorem dX7_carryOutLetters_33 : decode cX7_carryOutLetters 33 = .ok (.aload 4, 2) := by decide +kernel
theorem dX7_carryOutLetters_35 : decode cX7_carryOutLetters 35 = .ok (.getfield 337, 3) := by decide +kernel
theorem dX7_carryOutLetters_38 : decode cX7_carryOutLetters 38 = .ok (.iconst 1, 1) := by decide +kernel
theorem dX7_carryOutLetters_39 : decode cX7_carryOutLetters 39 = .ok (.if_icmp .ne 6, 3) := by decide +kernel
theorem dX7_carryOutLetters_42 : decode cX7_carryOutLetters 42 = .ok (.iinc 1 1, 3) := by decide +kernel
theorem dX7_carryOutLetters_45 : decode cX7_carryOutLetters 45 = .ok (.iinc 3 1, 3) := by decide +kernel
theorem dX7_carryOutLetters_48 : decode cX7_carryOutLetters 48 = .ok (.goto (-39), 3) := by decide +kernel
theorem dX7_carryOutLetters_51 : decode cX7_carryOutLetters 51 = .ok (.iload_n 1, 1) := by decide +kernel
theorem dX7_carryOutLetters_52 : decode cX7_carryOutLetters 52 = .ok (.ireturn, 1) := by decide +kernel
theorem dX7_lettersOfADay_0 : decode cX7_lettersOfADay 0 = .ok (.iconst 0, 1) := by decide +kernel
theorem dX7_lettersOfADay_1 : decode cX7_lettersOfADay 1 = .ok (.istore_n 1, 1) := by decide +kernel
theorem dX7_lettersOfADay_2 : decode cX7_lettersOfADay 2 = .ok (.iconst 0, 1) := by decide +kernel
theorem dX7_lettersOfADay_3 : decode cX7_lettersOfADay 3 = .ok (.istore_n 2, 1) := by decide +kernel
theorem dX7_lettersOfADay_4 : decode cX7_lettersOfADay 4 = .ok (.iload_n 2, 1) := by decide +kernel
theorem dX7_lettersOfADay_5 : decode cX7_lettersOfADay 5 = .ok (.aload_n 0, 1) := by decide +kernel
theorem dX7_lettersOfADay_6 : decode cX7_lettersOfADay 6 = .ok (.getfield 16, 3) := by decide +kernel
theorem dX7_lettersOfADay_9 : decode cX7_lettersOfADay 9 = .ok (.invokevirtual 80, 3) := by decide +kernel
theorem dX7_lettersOfADay_12 : decode cX7_lettersOfADay 12 = .ok (.if_icmp .ge 29, 3) := by decide +kernel
theorem dX7_lettersOfADay_15 : decode cX7_lettersOfADay 15 = .ok (.aload_n 0, 1) := by decide +kernel
theorem dX7_lettersOfADay_16 : decode cX7_lettersOfADay 16 = .ok (.getfield 16, 3) := by decide +kernel
theorem dX7_lettersOfADay_19 : decode cX7_lettersOfADay 19 = .ok (.iload_n 2, 1) := by decide +kernel
theorem dX7_lettersOfADay_20 : decode cX7_lettersOfADay 20 = .ok (.invokevirtual 300, 3) := by decide +kernel
theorem dX7_lettersOfADay_23 : decode cX7_lettersOfADay 23 = .ok (.checkcast 146, 3) := by decide +kernel
theorem dX7_lettersOfADay_26 : decode cX7_lettersOfADay 26 = .ok (.getfield 367, 3) := by decide +kernel
theorem dX7_lettersOfADay_29 : decode cX7_lettersOfADay 29 = .ok (.ifCond .ne 6, 3) := by decide +kernel
theorem dX7_lettersOfADay_32 : decode cX7_lettersOfADay 32 = .ok (.iinc 1 1, 3) := by decide +kernel
theorem dX7_lettersOfADay_35 : decode cX7_lettersOfADay 35 = .ok (.iinc 2 1, 3) := by decide +kernel
theorem dX7_lettersOfADay_38 : decode cX7_lettersOfADay 38 = .ok (.goto (-34), 3) := by decide +kernel
theorem dX7_lettersOfADay_41 : decode cX7_lettersOfADay 41 = .ok (.iconst 3, 1) := by decide +kernel
theorem dX7_lettersOfADay_42 : decode cX7_lettersOfADay 42 = .ok (.iload_n 1, 1) := by decide +kernel
theorem dX7_lettersOfADay_43 : decode cX7_lettersOfADay 43 = .ok (.imul, 1) := by decide +kernel
theorem dX7_lettersOfADay_44 : decode cX7_lettersOfADay 44 = .ok (.ireturn, 1) := by decide +kernel
theorem dX7_nextLetter_0 : decode cX7_nextLetter 0 = .ok (.aconst_null, 1) := by decide +kernel
theorem dX7_nextLetter_1 : decode cX7_nextLetter 1 = .ok (.astore_n 1, 1) := by decide +kernel
theorem dX7_nextLetter_2 : decode cX7_nextLetter 2 = .ok (.iconst 0, 1) := by decide +kernel
theorem dX7_nextLetter_3 : decode cX7_nextLetter 3 = .ok (.istore_n 2, 1) := by decide +kernel
theorem dX7_nextLetter_4 : decode cX7_nextLetter 4 = .ok (.iload_n 2, 1) := by decide +kernel
theorem dX7_nextLetter_5 : decode cX7_nextLetter 5 = .ok (.aload_n 0, 1) := by decide +kernel
theorem dX7_nextLetter_6 : decode cX7_nextLetter 6 = .ok (.getfield 25, 3) := by decide +kernel
theorem dX7_nextLetter_9 : decode cX7_nextLetter 9 = .ok (.invokevirtual 80, 3) := by decide +kernel
theorem dX7_nextLetter_12 : decode cX7_nextLetter 12 = .ok (.if_icmp .ge 45, 3) := by decide +kernel
theorem dX7_nextLetter_15 : decode cX7_nextLetter 15 = .ok (.aload_n 0, 1) := by decide +kernel
theorem dX7_nextLetter_16 : decode cX7_nextLetter 16 = .ok (.getfield 25, 3) := by decide +kernel
theorem dX7_nextLetter_19 : decode cX7_nextLetter 19 = .ok (.iload_n 2, 1) := by decide +kernel
theorem dX7_nextLetter_20 : decode cX7_nextLetter 20 = .ok (.invokevirtual 300, 3) := by decide +kernel
theorem dX7_nextLetter_23 : decode cX7_nextLetter 23 = .ok (.checkcast 312, 3) := by decide +kernel
theorem dX7_nextLetter_26 : decode cX7_nextLetter 26 = .ok (.astore_n 3, 1) := by decide +kernel
theorem dX7_nextLetter_27 : decode cX7_nextLetter 27 = .ok (.aload_n 3, 1) := by decide +kernel
theorem dX7_nextLetter_28 : decode cX7_nextLetter 28 = .ok (.getfield 337, 3) := by decide +kernel
theorem dX7_nextLetter_31 : decode cX7_nextLetter 31 = .ok (.ifCond .ne 20, 3) := by decide +kernel
theorem dX7_nextLetter_34 : decode cX7_nextLetter 34 = .ok (.aload_n 1, 1) := by decide +kernel
theorem dX7_nextLetter_35 : decode cX7_nextLetter 35 = .ok (.ifnull 14, 3) := by decide +kernel
theorem dX7_nextLetter_38 : decode cX7_nextLetter 38 = .ok (.aload_n 3, 1) := by decide +kernel
theorem dX7_nextLetter_39 : decode cX7_nextLetter 39 = .ok (.getfield 411, 3) := by decide +kernel
theorem dX7_nextLetter_42 : decode cX7_nextLetter 42 = .ok (.aload_n 1, 1) := by decide +kernel
theorem dX7_nextLetter_43 : decode cX7_nextLetter 43 = .ok (.getfield 411, 3) := by decide +kernel
theorem dX7_nextLetter_46 : decode cX7_nextLetter 46 = .ok (.if_icmp .ge 5, 3) := by decide +kernel
theorem dX7_nextLetter_49 : decode cX7_nextLetter 49 = .ok (.aload_n 3, 1) := by decide +kernel
theorem dX7_nextLetter_50 : decode cX7_nextLetter 50 = .ok (.astore_n 1, 1) := by decide +kernel
theorem dX7_nextLetter_51 : decode cX7_nextLetter 51 = .ok (.iinc 2 1, 3) := by decide +kernel
theorem dX7_nextLetter_54 : decode cX7_nextLetter 54 = .ok (.goto (-50), 3) := by decide +kernel
theorem dX7_nextLetter_57 : decode cX7_nextLetter 57 = .ok (.aload_n 1, 1) := by decide +kernel
theorem dX7_nextLetter_58 : decode cX7_nextLetter 58 = .ok (.areturn, 1) := by decide +kernel
theorem dX7_carryOut_0 : decode cX7_carryOut 0 = .ok (.aload_n 1, 1) := by decide +kernel
theorem dX7_carryOut_1 : decode cX7_carryOut 1 = .ok (.aload_n 0, 1) := by decide +kernel
theorem dX7_carryOut_2 : decode cX7_carryOut 2 = .ok (.getfield 52, 3) := by decide +kernel
theorem dX7_carryOut_5 : decode cX7_carryOut 5 = .ok (.putfield 414, 3) := by decide +kernel
theorem dX7_carryOut_8 : decode cX7_carryOut 8 = .ok (.aload_n 1, 1) := by decide +kernel
theorem dX7_carryOut_9 : decode cX7_carryOut 9 = .ok (.getfield 351, 3) := by decide +kernel
theorem dX7_carryOut_12 : decode cX7_carryOut 12 = .ok (.aload_n 1, 1) := by decide +kernel
theorem dX7_carryOut_13 : decode cX7_carryOut 13 = .ok (.getfield 347, 3) := by decide +kernel
theorem dX7_carryOut_16 : decode cX7_carryOut 16 = .ok (.getfield 181, 3) := by decide +kernel
theorem dX7_carryOut_19 : decode cX7_carryOut 19 = .ok (.invokevirtual 264, 3) := by decide +kernel
theorem dX7_carryOut_22 : decode cX7_carryOut 22 = .ok (.ifCond .eq 22, 3) := by decide +kernel
theorem dX7_carryOut_25 : decode cX7_carryOut 25 = .ok (.aload_n 1, 1) := by decide +kernel
theorem dX7_carryOut_26 : decode cX7_carryOut 26 = .ok (.iconst 1, 1) := by decide +kernel
theorem dX7_carryOut_27 : decode cX7_carryOut 27 = .ok (.putfield 337, 3) := by decide +kernel
theorem dX7_carryOut_30 : decode cX7_carryOut 30 = .ok (.aload_n 1, 1) := by decide +kernel
theorem dX7_carryOut_31 : decode cX7_carryOut 31 = .ok (.getfield 347, 3) := by decide +kernel
theorem dX7_carryOut_34 : decode cX7_carryOut 34 = .ok (.aload_n 1, 1) := by decide +kernel
theorem dX7_carryOut_35 : decode cX7_carryOut 35 = .ok (.getfield 351, 3) := by decide +kernel
theorem dX7_carryOut_38 : decode cX7_carryOut 38 = .ok (.invokevirtual 192, 3) := by decide +kernel
theorem dX7_carryOut_41 : decode cX7_carryOut 41 = .ok (.goto 8, 3) := by decide +kernel
theorem dX7_carryOut_44 : decode cX7_carryOut 44 = .ok (.aload_n 1, 1) := by decide +kernel
theorem dX7_carryOut_45 : decode cX7_carryOut 45 = .ok (.iconst 2, 1) := by decide +kernel
theorem dX7_carryOut_46 : decode cX7_carryOut 46 = .ok (.putfield 337, 3) := by decide +kernel
theorem dX7_carryOut_49 : decode cX7_carryOut 49 = .ok (.return_, 1) := by decide +kernel
theorem dX7_callBackOriginals_0 : decode cX7_callBackOriginals 0 = .ok (.iconst 0, 1) := by decide +kernel
theorem dX7_callBackOriginals_1 : decode cX7_callBackOriginals 1 = .ok (.istore_n 1, 1) := by decide +kernel
theorem dX7_callBackOriginals_2 : decode cX7_callBackOriginals 2 = .ok (.iload_n 1, 1) := by decide +kernel
theorem dX7_callBackOriginals_3 : decode cX7_callBackOriginals 3 = .ok (.aload_n 0, 1) := by decide +kernel
theorem dX7_callBackOriginals_4 : decode cX7_callBackOriginals 4 = .ok (.getfield 19, 3) := by decide +kernel
theorem dX7_callBackOriginals_7 : decode cX7_callBackOriginals 7 = .ok (.invokevirtual 80, 3) := by decide +kernel
theorem dX7_callBackOriginals_10 : decode cX7_callBackOriginals 10 = .ok (.if_icmp .ge 50, 3) := by decide +kernel
theorem dX7_callBackOriginals_13 : decode cX7_callBackOriginals 13 = .ok (.aload_n 0, 1) := by decide +kernel
theorem dX7_callBackOriginals_14 : decode cX7_callBackOriginals 14 = .ok (.getfield 19, 3) := by decide +kernel
theorem dX7_callBackOriginals_17 : decode cX7_callBackOriginals 17 = .ok (.iload_n 1, 1) := by decide +kernel
theorem dX7_callBackOriginals_18 : decode cX7_callBackOriginals 18 = .ok (.invokevirtual 300, 3) := by decide +kernel
theorem dX7_callBackOriginals_21 : decode cX7_callBackOriginals 21 = .ok (.checkcast 95, 3) := by decide +kernel
theorem dX7_callBackOriginals_24 : decode cX7_callBackOriginals 24 = .ok (.astore_n 2, 1) := by decide +kernel
theorem dX7_callBackOriginals_25 : decode cX7_callBackOriginals 25 = .ok (.aload_n 2, 1) := by decide +kernel
theorem dX7_callBackOriginals_26 : decode cX7_callBackOriginals 26 = .ok (.getfield 223, 3) := by decide +kernel
theorem dX7_callBackOriginals_29 : decode cX7_callBackOriginals 29 = .ok (.ifnull 25, 3) := by decide +kernel
theorem dX7_callBackOriginals_32 : decode cX7_callBackOriginals 32 = .ok (.aload_n 2, 1) := by decide +kernel
theorem dX7_callBackOriginals_33 : decode cX7_callBackOriginals 33 = .ok (.getfield 229, 3) := by decide +kernel
theorem dX7_callBackOriginals_36 : decode cX7_callBackOriginals 36 = .ok (.aload_n 0, 1) := by decide +kernel
theorem dX7_callBackOriginals_37 : decode cX7_callBackOriginals 37 = .ok (.getfield 52, 3) := by decide +kernel
theorem dX7_callBackOriginals_40 : decode cX7_callBackOriginals 40 = .ok (.if_icmp .ge 14, 3) := by decide +kernel
theorem dX7_callBackOriginals_43 : decode cX7_callBackOriginals 43 = .ok (.aload_n 2, 1) := by decide +kernel
theorem dX7_callBackOriginals_44 : decode cX7_callBackOriginals 44 = .ok (.getfield 223, 3) := by decide +kernel
theorem dX7_callBackOriginals_47 : decode cX7_callBackOriginals 47 = .ok (.invokevirtual 417, 3) := by decide +kernel
theorem dX7_callBackOriginals_50 : decode cX7_callBackOriginals 50 = .ok (.aload_n 2, 1) := by decide +kernel
theorem dX7_callBackOriginals_51 : decode cX7_callBackOriginals 51 = .ok (.invokevirtual 236, 3) := by decide +kernel
theorem dX7_callBackOriginals_54 : decode cX7_callBackOriginals 54 = .ok (.iinc 1 1, 3) := by decide +kernel
theorem dX7_callBackOriginals_57 : decode cX7_callBackOriginals 57 = .ok (.goto (-55), 3) := by decide +kernel
theorem dX7_callBackOriginals_60 : decode cX7_callBackOriginals 60 = .ok (.return_, 1) := by decide +kernel
theorem dX7_lettersAhead_0 : decode cX7_lettersAhead 0 = .ok (.iconst 0, 1) := by decide +kernel
theorem dX7_lettersAhead_1 : decode cX7_lettersAhead 1 = .ok (.istore_n 3, 1) := by decide +kernel
theorem dX7_lettersAhead_2 : decode cX7_lettersAhead 2 = .ok (.iconst 0, 1) := by decide +kernel
theorem dX7_lettersAhead_3 : decode cX7_lettersAhead 3 = .ok (.istore 4, 2) := by decide +kernel
theorem dX7_lettersAhead_5 : decode cX7_lettersAhead 5 = .ok (.iload 4, 2) := by decide +kernel
theorem dX7_lettersAhead_7 : decode cX7_lettersAhead 7 = .ok (.aload_n 0, 1) := by decide +kernel
theorem dX7_lettersAhead_8 : decode cX7_lettersAhead 8 = .ok (.getfield 25, 3) := by decide +kernel
theorem dX7_lettersAhead_11 : decode cX7_lettersAhead 11 = .ok (.invokevirtual 80, 3) := by decide +kernel
theorem dX7_lettersAhead_14 : decode cX7_lettersAhead 14 = .ok (.if_icmp .ge 64, 3) := by decide +kernel
theorem dX7_lettersAhead_17 : decode cX7_lettersAhead 17 = .ok (.aload_n 0, 1) := by decide +kernel
theorem dX7_lettersAhead_18 : decode cX7_lettersAhead 18 = .ok (.getfield 25, 3) := by decide +kernel
theorem dX7_lettersAhead_21 : decode cX7_lettersAhead 21 = .ok (.iload 4, 2) := by decide +kernel
theorem dX7_lettersAhead_23 : decode cX7_lettersAhead 23 = .ok (.invokevirtual 300, 3) := by decide +kernel
theorem dX7_lettersAhead_26 : decode cX7_lettersAhead 26 = .ok (.checkcast 312, 3) := by decide +kernel
theorem dX7_lettersAhead_29 : decode cX7_lettersAhead 29 = .ok (.astore 5, 2) := by decide +kernel
theorem dX7_lettersAhead_31 : decode cX7_lettersAhead 31 = .ok (.aload 5, 2) := by decide +kernel
theorem dX7_lettersAhead_33 : decode cX7_lettersAhead 33 = .ok (.getfield 337, 3) := by decide +kernel
theorem dX7_lettersAhead_36 : decode cX7_lettersAhead 36 = .ok (.ifCond .ne 36, 3) := by decide +kernel
theorem dX7_lettersAhead_39 : decode cX7_lettersAhead 39 = .ok (.aload 5, 2) := by decide +kernel
theorem dX7_lettersAhead_41 : decode cX7_lettersAhead 41 = .ok (.getfield 411, 3) := by decide +kernel
theorem dX7_lettersAhead_44 : decode cX7_lettersAhead 44 = .ok (.aload_n 2, 1) := by decide +kernel
theorem dX7_lettersAhead_45 : decode cX7_lettersAhead 45 = .ok (.getfield 411, 3) := by decide +kernel
theorem dX7_lettersAhead_48 : decode cX7_lettersAhead 48 = .ok (.if_icmp .lt 21, 3) := by decide +kernel
theorem dX7_lettersAhead_51 : decode cX7_lettersAhead 51 = .ok (.aload 5, 2) := by decide +kernel
theorem dX7_lettersAhead_53 : decode cX7_lettersAhead 53 = .ok (.getfield 411, 3) := by decide +kernel
theorem dX7_lettersAhead_56 : decode cX7_lettersAhead 56 = .ok (.aload_n 2, 1) := by decide +kernel
theorem dX7_lettersAhead_57 : decode cX7_lettersAhead 57 = .ok (.getfield 411, 3) := by decide +kernel
theorem dX7_lettersAhead_60 : decode cX7_lettersAhead 60 = .ok (.if_icmp .ne 12, 3) := by decide +kernel
theorem dX7_lettersAhead_63 : decode cX7_lettersAhead 63 = .ok (.iload 4, 2) := by decide +kernel
theorem dX7_lettersAhead_65 : decode cX7_lettersAhead 65 = .ok (.iload_n 1, 1) := by decide +kernel
theorem dX7_lettersAhead_66 : decode cX7_lettersAhead 66 = .ok (.if_icmp .ge 6, 3) := by decide +kernel
theorem dX7_lettersAhead_69 : decode cX7_lettersAhead 69 = .ok (.iinc 3 1, 3) := by decide +kernel
theorem dX7_lettersAhead_72 : decode cX7_lettersAhead 72 = .ok (.iinc 4 1, 3) := by decide +kernel
theorem dX7_lettersAhead_75 : decode cX7_lettersAhead 75 = .ok (.goto (-70), 3) := by decide +kernel
theorem dX7_lettersAhead_78 : decode cX7_lettersAhead 78 = .ok (.iload_n 3, 1) := by decide +kernel
theorem dX7_lettersAhead_79 : decode cX7_lettersAhead 79 = .ok (.ireturn, 1) := by decide +kernel
theorem dX7_clearanceBehind_0 : decode cX7_clearanceBehind 0 = .ok (.aload_n 1, 1) := by decide +kernel
theorem dX7_clearanceBehind_1 : decode cX7_clearanceBehind 1 = .ok (.getfield 420, 3) := by decide +kernel
theorem dX7_clearanceBehind_4 : decode cX7_clearanceBehind 4 = .ok (.istore_n 3, 1) := by decide +kernel
theorem dX7_clearanceBehind_5 : decode cX7_clearanceBehind 5 = .ok (.iconst 0, 1) := by decide +kernel
theorem dX7_clearanceBehind_6 : decode cX7_clearanceBehind 6 = .ok (.istore 4, 2) := by decide +kernel
theorem dX7_clearanceBehind_8 : decode cX7_clearanceBehind 8 = .ok (.iload 4, 2) := by decide +kernel
theorem dX7_clearanceBehind_10 : decode cX7_clearanceBehind 10 = .ok (.aload_n 0, 1) := by decide +kernel
theorem dX7_clearanceBehind_11 : decode cX7_clearanceBehind 11 = .ok (.getfield 19, 3) := by decide +kernel
theorem dX7_clearanceBehind_14 : decode cX7_clearanceBehind 14 = .ok (.invokevirtual 80, 3) := by decide +kernel
theorem dX7_clearanceBehind_17 : decode cX7_clearanceBehind 17 = .ok (.if_icmp .ge 49, 3) := by decide +kernel
theorem dX7_clearanceBehind_20 : decode cX7_clearanceBehind 20 = .ok (.aload_n 0, 1) := by decide +kernel
theorem dX7_clearanceBehind_21 : decode cX7_clearanceBehind 21 = .ok (.getfield 19, 3) := by decide +kernel
theorem dX7_clearanceBehind_24 : decode cX7_clearanceBehind 24 = .ok (.iload 4, 2) := by decide +kernel
theorem dX7_clearanceBehind_26 : decode cX7_clearanceBehind 26 = .ok (.invokevirtual 300, 3) := by decide +kernel
theorem dX7_clearanceBehind_29 : decode cX7_clearanceBehind 29 = .ok (.checkcast 95, 3) := by decide +kernel
theorem dX7_clearanceBehind_32 : decode cX7_clearanceBehind 32 = .ok (.astore 5, 2) := by decide +kernel
theorem dX7_clearanceBehind_34 : decode cX7_clearanceBehind 34 = .ok (.aload 5, 2) := by decide +kernel
theorem dX7_clearanceBehind_36 : decode cX7_clearanceBehind 36 = .ok (.getfield 223, 3) := by decide +kernel
theorem dX7_clearanceBehind_39 : decode cX7_clearanceBehind 39 = .ok (.aload_n 1, 1) := by decide +kernel
theorem dX7_clearanceBehind_40 : decode cX7_clearanceBehind 40 = .ok (.if_acmp .ne 20, 3) := by decide +kernel
theorem dX7_clearanceBehind_43 : decode cX7_clearanceBehind 43 = .ok (.aload 5, 2) := by decide +kernel
theorem dX7_clearanceBehind_45 : decode cX7_clearanceBehind 45 = .ok (.getfield 229, 3) := by decide +kernel
theorem dX7_clearanceBehind_48 : decode cX7_clearanceBehind 48 = .ok (.aload_n 0, 1) := by decide +kernel
theorem dX7_clearanceBehind_49 : decode cX7_clearanceBehind 49 = .ok (.getfield 52, 3) := by decide +kernel
theorem dX7_clearanceBehind_52 : decode cX7_clearanceBehind 52 = .ok (.iload_n 2, 1) := by decide +kernel
theorem dX7_clearanceBehind_53 : decode cX7_clearanceBehind 53 = .ok (.iadd, 1) := by decide +kernel
theorem dX7_clearanceBehind_54 : decode cX7_clearanceBehind 54 = .ok (.if_icmp .ge 6, 3) := by decide +kernel
theorem dX7_clearanceBehind_57 : decode cX7_clearanceBehind 57 = .ok (.iinc 3 1, 3) := by decide +kernel
theorem dX7_clearanceBehind_60 : decode cX7_clearanceBehind 60 = .ok (.iinc 4 1, 3) := by decide +kernel
theorem dX7_clearanceBehind_63 : decode cX7_clearanceBehind 63 = .ok (.goto (-55), 3) := by decide +kernel
theorem dX7_clearanceBehind_66 : decode cX7_clearanceBehind 66 = .ok (.iconst 0, 1) := by decide +kernel
theorem dX7_clearanceBehind_67 : decode cX7_clearanceBehind 67 = .ok (.aload_n 1, 1) := by decide +kernel
theorem dX7_clearanceBehind_68 : decode cX7_clearanceBehind 68 = .ok (.getfield 423, 3) := by decide +kernel
theorem dX7_clearanceBehind_71 : decode cX7_clearanceBehind 71 = .ok (.iload_n 3, 1) := by decide +kernel
theorem dX7_clearanceBehind_72 : decode cX7_clearanceBehind 72 = .ok (.iconst 3, 1) := by decide +kernel
theorem dX7_clearanceBehind_73 : decode cX7_clearanceBehind 73 = .ok (.idiv, 1) := by decide +kernel
theorem dX7_clearanceBehind_74 : decode cX7_clearanceBehind 74 = .ok (.isub, 1) := by decide +kernel
theorem dX7_clearanceBehind_75 : decode cX7_clearanceBehind 75 = .ok (.invokestatic 426, 3) := by decide +kernel
theorem dX7_clearanceBehind_78 : decode cX7_clearanceBehind 78 = .ok (.ireturn, 1) := by decide +kernel
theorem dX7_tellCount_0 : decode cX7_tellCount 0 = .ok (.iload_n 1, 1) := by decide +kernel
theorem dX7_tellCount_1 : decode cX7_tellCount 1 = .ok (.tableswitch 131 0 10 #[59, 64, 72, 80, 88, 96, 104, 110, 116, 121, 126], 59) := by decide +kernel
theorem dX7_tellCount_60 : decode cX7_tellCount 60 = .ok (.aload_n 0, 1) := by decide +kernel
theorem dX7_tellCount_61 : decode cX7_tellCount 61 = .ok (.getfield 52, 3) := by decide +kernel
theorem dX7_tellCount_64 : decode cX7_tellCount 64 = .ok (.ireturn, 1) := by decide +kernel
theorem dX7_tellCount_65 : decode cX7_tellCount 65 = .ok (.aload_n 0, 1) := by decide +kernel
theorem dX7_tellCount_66 : decode cX7_tellCount 66 = .ok (.getfield 12, 3) := by decide +kernel
theorem dX7_tellCount_69 : decode cX7_tellCount 69 = .ok (.invokevirtual 80, 3) := by decide +kernel
theorem dX7_tellCount_72 : decode cX7_tellCount 72 = .ok (.ireturn, 1) := by decide +kernel
theorem dX7_tellCount_73 : decode cX7_tellCount 73 = .ok (.aload_n 0, 1) := by decide +kernel
theorem dX7_tellCount_74 : decode cX7_tellCount 74 = .ok (.getfield 16, 3) := by decide +kernel
theorem dX7_tellCount_77 : decode cX7_tellCount 77 = .ok (.invokevirtual 80, 3) := by decide +kernel
theorem dX7_tellCount_80 : decode cX7_tellCount 80 = .ok (.ireturn, 1) := by decide +kernel
theorem dX7_tellCount_81 : decode cX7_tellCount 81 = .ok (.aload_n 0, 1) := by decide +kernel
theorem dX7_tellCount_82 : decode cX7_tellCount 82 = .ok (.getfield 19, 3) := by decide +kernel
theorem dX7_tellCount_85 : decode cX7_tellCount 85 = .ok (.invokevirtual 80, 3) := by decide +kernel
theorem dX7_tellCount_88 : decode cX7_tellCount 88 = .ok (.ireturn, 1) := by decide +kernel
theorem dX7_tellCount_89 : decode cX7_tellCount 89 = .ok (.aload_n 0, 1) := by decide +kernel
theorem dX7_tellCount_90 : decode cX7_tellCount 90 = .ok (.getfield 22, 3) := by decide +kernel
theorem dX7_tellCount_93 : decode cX7_tellCount 93 = .ok (.invokevirtual 80, 3) := by decide +kernel
theorem dX7_tellCount_96 : decode cX7_tellCount 96 = .ok (.ireturn, 1) := by decide +kernel
theorem dX7_tellCount_97 : decode cX7_tellCount 97 = .ok (.aload_n 0, 1) := by decide +kernel
theorem dX7_tellCount_98 : decode cX7_tellCount 98 = .ok (.getfield 25, 3) := by decide +kernel
theorem dX7_tellCount_101 : decode cX7_tellCount 101 = .ok (.invokevirtual 80, 3) := by decide +kernel
theorem dX7_tellCount_104 : decode cX7_tellCount 104 = .ok (.ireturn, 1) := by decide +kernel
theorem dX7_tellCount_105 : decode cX7_tellCount 105 = .ok (.aload_n 0, 1) := by decide +kernel
theorem dX7_tellCount_106 : decode cX7_tellCount 106 = .ok (.iconst 0, 1) := by decide +kernel
theorem dX7_tellCount_107 : decode cX7_tellCount 107 = .ok (.invokevirtual 429, 3) := by decide +kernel
theorem dX7_tellCount_110 : decode cX7_tellCount 110 = .ok (.ireturn, 1) := by decide +kernel
theorem dX7_tellCount_111 : decode cX7_tellCount 111 = .ok (.aload_n 0, 1) := by decide +kernel
theorem dX7_tellCount_112 : decode cX7_tellCount 112 = .ok (.iconst 1, 1) := by decide +kernel
theorem dX7_tellCount_113 : decode cX7_tellCount 113 = .ok (.invokevirtual 429, 3) := by decide +kernel
theorem dX7_tellCount_116 : decode cX7_tellCount 116 = .ok (.ireturn, 1) := by decide +kernel
theorem dX7_tellCount_117 : decode cX7_tellCount 117 = .ok (.aload_n 0, 1) := by decide +kernel
theorem dX7_tellCount_118 : decode cX7_tellCount 118 = .ok (.getfield 32, 3) := by decide +kernel
theorem dX7_tellCount_121 : decode cX7_tellCount 121 = .ok (.ireturn, 1) := by decide +kernel
theorem dX7_tellCount_122 : decode cX7_tellCount 122 = .ok (.aload_n 0, 1) := by decide +kernel
theorem dX7_tellCount_123 : decode cX7_tellCount 123 = .ok (.getfield 39, 3) := by decide +kernel
theorem dX7_tellCount_126 : decode cX7_tellCount 126 = .ok (.ireturn, 1) := by decide +kernel
theorem dX7_tellCount_127 : decode cX7_tellCount 127 = .ok (.aload_n 0, 1) := by decide +kernel
theorem dX7_tellCount_128 : decode cX7_tellCount 128 = .ok (.invokevirtual 432, 3) := by decide +kernel
theorem dX7_tellCount_131 : decode cX7_tellCount 131 = .ok (.ireturn, 1) := by decide +kernel
theorem dX7_tellCount_132 : decode cX7_tellCount 132 = .ok (.aload_n 0, 1) := by decide +kernel
theorem dX7_tellCount_133 : decode cX7_tellCount 133 = .ok (.invokevirtual 435, 3) := by decide +kernel
theorem dX7_tellCount_136 : decode cX7_tellCount 136 = .ok (.ireturn, 1) := by decide +kernel
theorem dX7_countLetters_0 : decode cX7_countLetters 0 = .ok (.iconst 0, 1) := by decide +kernel
theorem dX7_countLetters_1 : decode cX7_countLetters 1 = .ok (.istore_n 2, 1) := by decide +kernel
theorem dX7_countLetters_2 : decode cX7_countLetters 2 = .ok (.iconst 0, 1) := by decide +kernel
theorem dX7_countLetters_3 : decode cX7_countLetters 3 = .ok (.istore_n 3, 1) := by decide +kernel
theorem dX7_countLetters_4 : decode cX7_countLetters 4 = .ok (.iload_n 3, 1) := by decide +kernel
theorem dX7_countLetters_5 : decode cX7_countLetters 5 = .ok (.aload_n 0, 1) := by decide +kernel
theorem dX7_countLetters_6 : decode cX7_countLetters 6 = .ok (.getfield 25, 3) := by decide +kernel
theorem dX7_countLetters_9 : decode cX7_countLetters 9 = .ok (.invokevirtual 80, 3) := by decide +kernel
theorem dX7_countLetters_12 : decode cX7_countLetters 12 = .ok (.if_icmp .ge 30, 3) := by decide +kernel
theorem dX7_countLetters_15 : decode cX7_countLetters 15 = .ok (.aload_n 0, 1) := by decide +kernel
theorem dX7_countLetters_16 : decode cX7_countLetters 16 = .ok (.getfield 25, 3) := by decide +kernel
theorem dX7_countLetters_19 : decode cX7_countLetters 19 = .ok (.iload_n 3, 1) := by decide +kernel
theorem dX7_countLetters_20 : decode cX7_countLetters 20 = .ok (.invokevirtual 300, 3) := by decide +kernel
theorem dX7_countLetters_23 : decode cX7_countLetters 23 = .ok (.checkcast 312, 3) := by decide +kernel
theorem dX7_countLetters_26 : decode cX7_countLetters 26 = .ok (.getfield 337, 3) := by decide +kernel
theorem dX7_countLetters_29 : decode cX7_countLetters 29 = .ok (.iload_n 1, 1) := by decide +kernel
theorem dX7_countLetters_30 : decode cX7_countLetters 30 = .ok (.if_icmp .ne 6, 3) := by decide +kernel
theorem dX7_countLetters_33 : decode cX7_countLetters 33 = .ok (.iinc 2 1, 3) := by decide +kernel
theorem dX7_countLetters_36 : decode cX7_countLetters 36 = .ok (.iinc 3 1, 3) := by decide +kernel
theorem dX7_countLetters_39 : decode cX7_countLetters 39 = .ok (.goto (-35), 3) := by decide +kernel
theorem dX7_countLetters_42 : decode cX7_countLetters 42 = .ok (.iload_n 2, 1) := by decide +kernel
theorem dX7_countLetters_43 : decode cX7_countLetters 43 = .ok (.ireturn, 1) := by decide +kernel
theorem dX7_countLost_0 : decode cX7_countLost 0 = .ok (.iconst 0, 1) := by decide +kernel
theorem dX7_countLost_1 : decode cX7_countLost 1 = .ok (.istore_n 1, 1) := by decide +kernel
theorem dX7_countLost_2 : decode cX7_countLost 2 = .ok (.iconst 0, 1) := by decide +kernel
theorem dX7_countLost_3 : decode cX7_countLost 3 = .ok (.istore_n 2, 1) := by decide +kernel
theorem dX7_countLost_4 : decode cX7_countLost 4 = .ok (.iload_n 2, 1) := by decide +kernel
theorem dX7_countLost_5 : decode cX7_countLost 5 = .ok (.aload_n 0, 1) := by decide +kernel
theorem dX7_countLost_6 : decode cX7_countLost 6 = .ok (.getfield 22, 3) := by decide +kernel
theorem dX7_countLost_9 : decode cX7_countLost 9 = .ok (.invokevirtual 80, 3) := by decide +kernel
theorem dX7_countLost_12 : decode cX7_countLost 12 = .ok (.if_icmp .ge 29, 3) := by decide +kernel
theorem dX7_countLost_15 : decode cX7_countLost 15 = .ok (.aload_n 0, 1) := by decide +kernel
theorem dX7_countLost_16 : decode cX7_countLost 16 = .ok (.getfield 22, 3) := by decide +kernel
theorem dX7_countLost_19 : decode cX7_countLost 19 = .ok (.iload_n 2, 1) := by decide +kernel
theorem dX7_countLost_20 : decode cX7_countLost 20 = .ok (.invokevirtual 300, 3) := by decide +kernel
theorem dX7_countLost_23 : decode cX7_countLost 23 = .ok (.checkcast 241, 3) := by decide +kernel
theorem dX7_countLost_26 : decode cX7_countLost 26 = .ok (.getfield 252, 3) := by decide +kernel
theorem dX7_countLost_29 : decode cX7_countLost 29 = .ok (.ifCond .eq 6, 3) := by decide +kernel
theorem dX7_countLost_32 : decode cX7_countLost 32 = .ok (.iinc 1 1, 3) := by decide +kernel
theorem dX7_countLost_35 : decode cX7_countLost 35 = .ok (.iinc 2 1, 3) := by decide +kernel
theorem dX7_countLost_38 : decode cX7_countLost 38 = .ok (.goto (-34), 3) := by decide +kernel
theorem dX7_countLost_41 : decode cX7_countLost 41 = .ok (.iload_n 1, 1) := by decide +kernel
theorem dX7_countLost_42 : decode cX7_countLost 42 = .ok (.ireturn, 1) := by decide +kernel
theorem dX7_countLent_0 : decode cX7_countLent 0 = .ok (.iconst 0, 1) := by decide +kernel
theorem dX7_countLent_1 : decode cX7_countLent 1 = .ok (.istore_n 1, 1) := by decide +kernel
theorem dX7_countLent_2 : decode cX7_countLent 2 = .ok (.iconst 0, 1) := by decide +kernel
theorem dX7_countLent_3 : decode cX7_countLent 3 = .ok (.istore_n 2, 1) := by decide +kernel
theorem dX7_countLent_4 : decode cX7_countLent 4 = .ok (.iload_n 2, 1) := by decide +kernel
theorem dX7_countLent_5 : decode cX7_countLent 5 = .ok (.aload_n 0, 1) := by decide +kernel
theorem dX7_countLent_6 : decode cX7_countLent 6 = .ok (.getfield 19, 3) := by decide +kernel
theorem dX7_countLent_9 : decode cX7_countLent 9 = .ok (.invokevirtual 80, 3) := by decide +kernel
theorem dX7_countLent_12 : decode cX7_countLent 12 = .ok (.if_icmp .ge 29, 3) := by decide +kernel
theorem dX7_countLent_15 : decode cX7_countLent 15 = .ok (.aload_n 0, 1) := by decide +kernel
theorem dX7_countLent_16 : decode cX7_countLent 16 = .ok (.getfield 19, 3) := by decide +kernel
theorem dX7_countLent_19 : decode cX7_countLent 19 = .ok (.iload_n 2, 1) := by decide +kernel
theorem dX7_countLent_20 : decode cX7_countLent 20 = .ok (.invokevirtual 300, 3) := by decide +kernel
theorem dX7_countLent_23 : decode cX7_countLent 23 = .ok (.checkcast 95, 3) := by decide +kernel
theorem dX7_countLent_26 : decode cX7_countLent 26 = .ok (.getfield 223, 3) := by decide +kernel
theorem dX7_countLent_29 : decode cX7_countLent 29 = .ok (.ifnull 6, 3) := by decide +kernel
theorem dX7_countLent_32 : decode cX7_countLent 32 = .ok (.iinc 1 1, 3) := by decide +kernel
theorem dX7_countLent_35 : decode cX7_countLent 35 = .ok (.iinc 2 1, 3) := by decide +kernel
theorem dX7_countLent_38 : decode cX7_countLent 38 = .ok (.goto (-34), 3) := by decide +kernel
theorem dX7_countLent_41 : decode cX7_countLent 41 = .ok (.iload_n 1, 1) := by decide +kernel
theorem dX7_countLent_42 : decode cX7_countLent 42 = .ok (.ireturn, 1) := by decide +kernel
theorem dX7_tellCase_0 : decode cX7_tellCase 0 = .ok (.iload_n 2, 1) := by decide +kernel
theorem dX7_tellCase_1 : decode cX7_tellCase 1 = .ok (.tableswitch 57 0 3 #[31, 36, 42, 51], 31) := by decide +kernel
theorem dX7_tellCase_32 : decode cX7_tellCase 32 = .ok (.aload_n 1, 1) := by decide +kernel
theorem dX7_tellCase_33 : decode cX7_tellCase 33 = .ok (.getfield 139, 3) := by decide +kernel
theorem dX7_tellCase_36 : decode cX7_tellCase 36 = .ok (.ireturn, 1) := by decide +kernel
theorem dX7_tellCase_37 : decode cX7_tellCase 37 = .ok (.aload_n 0, 1) := by decide +kernel
theorem dX7_tellCase_38 : decode cX7_tellCase 38 = .ok (.aload_n 1, 1) := by decide +kernel
theorem dX7_tellCase_39 : decode cX7_tellCase 39 = .ok (.invokevirtual 438, 3) := by decide +kernel
theorem dX7_tellCase_42 : decode cX7_tellCase 42 = .ok (.ireturn, 1) := by decide +kernel
theorem dX7_tellCase_43 : decode cX7_tellCase 43 = .ok (.aload_n 0, 1) := by decide +kernel
theorem dX7_tellCase_44 : decode cX7_tellCase 44 = .ok (.aload_n 1, 1) := by decide +kernel
theorem dX7_tellCase_45 : decode cX7_tellCase 45 = .ok (.invokevirtual 86, 3) := by decide +kernel
theorem dX7_tellCase_48 : decode cX7_tellCase 48 = .ok (.invokestatic 441, 3) := by decide +kernel
theorem dX7_tellCase_51 : decode cX7_tellCase 51 = .ok (.ireturn, 1) := by decide +kernel
theorem dX7_tellCase_52 : decode cX7_tellCase 52 = .ok (.aload_n 0, 1) := by decide +kernel
theorem dX7_tellCase_53 : decode cX7_tellCase 53 = .ok (.aload_n 1, 1) := by decide +kernel
theorem dX7_tellCase_54 : decode cX7_tellCase 54 = .ok (.invokevirtual 446, 3) := by decide +kernel
theorem dX7_tellCase_57 : decode cX7_tellCase 57 = .ok (.ireturn, 1) := by decide +kernel
theorem dX7_tellCase_58 : decode cX7_tellCase 58 = .ok (.aload_n 0, 1) := by decide +kernel
theorem dX7_tellCase_59 : decode cX7_tellCase 59 = .ok (.aload_n 1, 1) := by decide +kernel
theorem dX7_tellCase_60 : decode cX7_tellCase 60 = .ok (.invokevirtual 449, 3) := by decide +kernel
theorem dX7_tellCase_63 : decode cX7_tellCase 63 = .ok (.ireturn, 1) := by decide +kernel
theorem dX7_countDocumentsOf_0 : decode cX7_countDocumentsOf 0 = .ok (.iconst 0, 1) := by decide +kernel
theorem dX7_countDocumentsOf_1 : decode cX7_countDocumentsOf 1 = .ok (.istore_n 2, 1) := by decide +kernel
theorem dX7_countDocumentsOf_2 : decode cX7_countDocumentsOf 2 = .ok (.iconst 0, 1) := by decide +kernel
theorem dX7_countDocumentsOf_3 : decode cX7_countDocumentsOf 3 = .ok (.istore_n 3, 1) := by decide +kernel
theorem dX7_countDocumentsOf_4 : decode cX7_countDocumentsOf 4 = .ok (.iload_n 3, 1) := by decide +kernel
theorem dX7_countDocumentsOf_5 : decode cX7_countDocumentsOf 5 = .ok (.aload_n 0, 1) := by decide +kernel
theorem dX7_countDocumentsOf_6 : decode cX7_countDocumentsOf 6 = .ok (.getfield 19, 3) := by decide +kernel
theorem dX7_countDocumentsOf_9 : decode cX7_countDocumentsOf 9 = .ok (.invokevirtual 80, 3) := by decide +kernel
theorem dX7_countDocumentsOf_12 : decode cX7_countDocumentsOf 12 = .ok (.if_icmp .ge 30, 3) := by decide +kernel
theorem dX7_countDocumentsOf_15 : decode cX7_countDocumentsOf 15 = .ok (.aload_n 0, 1) := by decide +kernel
theorem dX7_countDocumentsOf_16 : decode cX7_countDocumentsOf 16 = .ok (.getfield 19, 3) := by decide +kernel
theorem dX7_countDocumentsOf_19 : decode cX7_countDocumentsOf 19 = .ok (.iload_n 3, 1) := by decide +kernel
theorem dX7_countDocumentsOf_20 : decode cX7_countDocumentsOf 20 = .ok (.invokevirtual 300, 3) := by decide +kernel
theorem dX7_countDocumentsOf_23 : decode cX7_countDocumentsOf 23 = .ok (.checkcast 95, 3) := by decide +kernel
theorem dX7_countDocumentsOf_26 : decode cX7_countDocumentsOf 26 = .ok (.getfield 181, 3) := by decide +kernel
theorem dX7_countDocumentsOf_29 : decode cX7_countDocumentsOf 29 = .ok (.aload_n 1, 1) := by decide +kernel
theorem dX7_countDocumentsOf_30 : decode cX7_countDocumentsOf 30 = .ok (.if_acmp .ne 6, 3) := by decide +kernel
theorem dX7_countDocumentsOf_33 : decode cX7_countDocumentsOf 33 = .ok (.iinc 2 1, 3) := by decide +kernel
theorem dX7_countDocumentsOf_36 : decode cX7_countDocumentsOf 36 = .ok (.iinc 3 1, 3) := by decide +kernel
theorem dX7_countDocumentsOf_39 : decode cX7_countDocumentsOf 39 = .ok (.goto (-35), 3) := by decide +kernel
theorem dX7_countDocumentsOf_42 : decode cX7_countDocumentsOf 42 = .ok (.iload_n 2, 1) := by decide +kernel
theorem dX7_countDocumentsOf_43 : decode cX7_countDocumentsOf 43 = .ok (.ireturn, 1) := by decide +kernel
theorem dX7_countAdmitted_0 : decode cX7_countAdmitted 0 = .ok (.iconst 0, 1) := by decide +kernel
theorem dX7_countAdmitted_1 : decode cX7_countAdmitted 1 = .ok (.istore_n 2, 1) := by decide +kernel
theorem dX7_countAdmitted_2 : decode cX7_countAdmitted 2 = .ok (.iconst 0, 1) := by decide +kernel
theorem dX7_countAdmitted_3 : decode cX7_countAdmitted 3 = .ok (.istore_n 3, 1) := by decide +kernel
theorem dX7_countAdmitted_4 : decode cX7_countAdmitted 4 = .ok (.iload_n 3, 1) := by decide +kernel
theorem dX7_countAdmitted_5 : decode cX7_countAdmitted 5 = .ok (.aload_n 0, 1) := by decide +kernel
theorem dX7_countAdmitted_6 : decode cX7_countAdmitted 6 = .ok (.getfield 22, 3) := by decide +kernel
theorem dX7_countAdmitted_9 : decode cX7_countAdmitted 9 = .ok (.invokevirtual 80, 3) := by decide +kernel
theorem dX7_countAdmitted_12 : decode cX7_countAdmitted 12 = .ok (.if_icmp .ge 42, 3) := by decide +kernel
theorem dX7_countAdmitted_15 : decode cX7_countAdmitted 15 = .ok (.aload_n 0, 1) := by decide +kernel
theorem dX7_countAdmitted_16 : decode cX7_countAdmitted 16 = .ok (.getfield 22, 3) := by decide +kernel
theorem dX7_countAdmitted_19 : decode cX7_countAdmitted 19 = .ok (.iload_n 3, 1) := by decide +kernel
theorem dX7_countAdmitted_20 : decode cX7_countAdmitted 20 = .ok (.invokevirtual 300, 3) := by decide +kernel
theorem dX7_countAdmitted_23 : decode cX7_countAdmitted 23 = .ok (.checkcast 241, 3) := by decide +kernel
theorem dX7_countAdmitted_26 : decode cX7_countAdmitted 26 = .ok (.astore 4, 2) := by decide +kernel
theorem dX7_countAdmitted_28 : decode cX7_countAdmitted 28 = .ok (.aload 4, 2) := by decide +kernel
theorem dX7_countAdmitted_30 : decode cX7_countAdmitted 30 = .ok (.getfield 263, 3) := by decide +kernel
theorem dX7_countAdmitted_33 : decode cX7_countAdmitted 33 = .ok (.aload_n 1, 1) := by decide +kernel
theorem dX7_countAdmitted_34 : decode cX7_countAdmitted 34 = .ok (.if_acmp .ne 14, 3) := by decide +kernel
theorem dX7_countAdmitted_37 : decode cX7_countAdmitted 37 = .ok (.aload 4, 2) := by decide +kernel
theorem dX7_countAdmitted_39 : decode cX7_countAdmitted 39 = .ok (.invokevirtual 452, 3) := by decide +kernel
theorem dX7_countAdmitted_42 : decode cX7_countAdmitted 42 = .ok (.ifCond .eq 6, 3) := by decide +kernel
theorem dX7_countAdmitted_45 : decode cX7_countAdmitted 45 = .ok (.iinc 2 1, 3) := by decide +kernel
theorem dX7_countAdmitted_48 : decode cX7_countAdmitted 48 = .ok (.iinc 3 1, 3) := by decide +kernel
theorem dX7_countAdmitted_51 : decode cX7_countAdmitted 51 = .ok (.goto (-47), 3) := by decide +kernel
theorem dX7_countAdmitted_54 : decode cX7_countAdmitted 54 = .ok (.iload_n 2, 1) := by decide +kernel
theorem dX7_countAdmitted_55 : decode cX7_countAdmitted 55 = .ok (.ireturn, 1) := by decide +kernel
theorem dX7_countWhoSeeInto_0 : decode cX7_countWhoSeeInto 0 = .ok (.iconst 0, 1) := by decide +kernel
theorem dX7_countWhoSeeInto_1 : decode cX7_countWhoSeeInto 1 = .ok (.istore_n 2, 1) := by decide +kernel
theorem dX7_countWhoSeeInto_2 : decode cX7_countWhoSeeInto 2 = .ok (.iconst 0, 1) := by decide +kernel
theorem dX7_countWhoSeeInto_3 : decode cX7_countWhoSeeInto 3 = .ok (.istore_n 3, 1) := by decide +kernel
theorem dX7_countWhoSeeInto_4 : decode cX7_countWhoSeeInto 4 = .ok (.iload_n 3, 1) := by decide +kernel
theorem dX7_countWhoSeeInto_5 : decode cX7_countWhoSeeInto 5 = .ok (.aload_n 0, 1) := by decide +kernel
theorem dX7_countWhoSeeInto_6 : decode cX7_countWhoSeeInto 6 = .ok (.getfield 16, 3) := by decide +kernel
theorem dX7_countWhoSeeInto_9 : decode cX7_countWhoSeeInto 9 = .ok (.invokevirtual 80, 3) := by decide +kernel
theorem dX7_countWhoSeeInto_12 : decode cX7_countWhoSeeInto 12 = .ok (.if_icmp .ge 30, 3) := by decide +kernel
theorem dX7_countWhoSeeInto_15 : decode cX7_countWhoSeeInto 15 = .ok (.aload_n 0, 1) := by decide +kernel
theorem dX7_countWhoSeeInto_16 : decode cX7_countWhoSeeInto 16 = .ok (.getfield 16, 3) := by decide +kernel
theorem dX7_countWhoSeeInto_19 : decode cX7_countWhoSeeInto 19 = .ok (.iload_n 3, 1) := by decide +kernel
theorem dX7_countWhoSeeInto_20 : decode cX7_countWhoSeeInto 20 = .ok (.invokevirtual 300, 3) := by decide +kernel
theorem dX7_countWhoSeeInto_23 : decode cX7_countWhoSeeInto 23 = .ok (.checkcast 146, 3) := by decide +kernel
theorem dX7_countWhoSeeInto_26 : decode cX7_countWhoSeeInto 26 = .ok (.aload_n 1, 1) := by decide +kernel
theorem dX7_countWhoSeeInto_27 : decode cX7_countWhoSeeInto 27 = .ok (.invokevirtual 264, 3) := by decide +kernel
theorem dX7_countWhoSeeInto_30 : decode cX7_countWhoSeeInto 30 = .ok (.ifCond .eq 6, 3) := by decide +kernel
theorem dX7_countWhoSeeInto_33 : decode cX7_countWhoSeeInto 33 = .ok (.iinc 2 1, 3) := by decide +kernel
theorem dX7_countWhoSeeInto_36 : decode cX7_countWhoSeeInto 36 = .ok (.iinc 3 1, 3) := by decide +kernel
theorem dX7_countWhoSeeInto_39 : decode cX7_countWhoSeeInto 39 = .ok (.goto (-35), 3) := by decide +kernel
theorem dX7_countWhoSeeInto_42 : decode cX7_countWhoSeeInto 42 = .ok (.iload_n 2, 1) := by decide +kernel
theorem dX7_countWhoSeeInto_43 : decode cX7_countWhoSeeInto 43 = .ok (.ireturn, 1) := by decide +kernel
theorem dX7_tellPerson_0 : decode cX7_tellPerson 0 = .ok (.iload_n 2, 1) := by decide +kernel
theorem dX7_tellPerson_1 : decode cX7_tellPerson 1 = .ok (.tableswitch 81 0 6 #[43, 48, 53, 58, 64, 69, 75], 43) := by decide +kernel
theorem dX7_tellPerson_44 : decode cX7_tellPerson 44 = .ok (.aload_n 1, 1) := by decide +kernel
theorem dX7_tellPerson_45 : decode cX7_tellPerson 45 = .ok (.getfield 367, 3) := by decide +kernel
theorem dX7_tellPerson_48 : decode cX7_tellPerson 48 = .ok (.ireturn, 1) := by decide +kernel
theorem dX7_tellPerson_49 : decode cX7_tellPerson 49 = .ok (.aload_n 1, 1) := by decide +kernel
theorem dX7_tellPerson_50 : decode cX7_tellPerson 50 = .ok (.getfield 423, 3) := by decide +kernel
theorem dX7_tellPerson_53 : decode cX7_tellPerson 53 = .ok (.ireturn, 1) := by decide +kernel
theorem dX7_tellPerson_54 : decode cX7_tellPerson 54 = .ok (.aload_n 1, 1) := by decide +kernel
theorem dX7_tellPerson_55 : decode cX7_tellPerson 55 = .ok (.getfield 157, 3) := by decide +kernel
theorem dX7_tellPerson_58 : decode cX7_tellPerson 58 = .ok (.ireturn, 1) := by decide +kernel
theorem dX7_tellPerson_59 : decode cX7_tellPerson 59 = .ok (.aload_n 0, 1) := by decide +kernel
theorem dX7_tellPerson_60 : decode cX7_tellPerson 60 = .ok (.aload_n 1, 1) := by decide +kernel
theorem dX7_tellPerson_61 : decode cX7_tellPerson 61 = .ok (.invokevirtual 455, 3) := by decide +kernel
theorem dX7_tellPerson_64 : decode cX7_tellPerson 64 = .ok (.ireturn, 1) := by decide +kernel
theorem dX7_tellPerson_65 : decode cX7_tellPerson 65 = .ok (.aload_n 1, 1) := by decide +kernel
theorem dX7_tellPerson_66 : decode cX7_tellPerson 66 = .ok (.getfield 420, 3) := by decide +kernel
theorem dX7_tellPerson_69 : decode cX7_tellPerson 69 = .ok (.ireturn, 1) := by decide +kernel
theorem dX7_tellPerson_70 : decode cX7_tellPerson 70 = .ok (.aload_n 0, 1) := by decide +kernel
theorem dX7_tellPerson_71 : decode cX7_tellPerson 71 = .ok (.aload_n 1, 1) := by decide +kernel
theorem dX7_tellPerson_72 : decode cX7_tellPerson 72 = .ok (.invokevirtual 458, 3) := by decide +kernel
theorem dX7_tellPerson_75 : decode cX7_tellPerson 75 = .ok (.ireturn, 1) := by decide +kernel
theorem dX7_tellPerson_76 : decode cX7_tellPerson 76 = .ok (.aload_n 0, 1) := by decide +kernel
theorem dX7_tellPerson_77 : decode cX7_tellPerson 77 = .ok (.aload_n 1, 1) := by decide +kernel
theorem dX7_tellPerson_78 : decode cX7_tellPerson 78 = .ok (.invokevirtual 461, 3) := by decide +kernel
theorem dX7_tellPerson_81 : decode cX7_tellPerson 81 = .ok (.ireturn, 1) := by decide +kernel
theorem dX7_tellPerson_82 : decode cX7_tellPerson 82 = .ok (.aload_n 0, 1) := by decide +kernel
theorem dX7_tellPerson_83 : decode cX7_tellPerson 83 = .ok (.aload_n 1, 1) := by decide +kernel
theorem dX7_tellPerson_84 : decode cX7_tellPerson 84 = .ok (.invokevirtual 464, 3) := by decide +kernel
theorem dX7_tellPerson_87 : decode cX7_tellPerson 87 = .ok (.ireturn, 1) := by decide +kernel
theorem dX7_casesSeenBy_0 : decode cX7_casesSeenBy 0 = .ok (.iconst 0, 1) := by decide +kernel
theorem dX7_casesSeenBy_1 : decode cX7_casesSeenBy 1 = .ok (.istore_n 2, 1) := by decide +kernel
theorem dX7_casesSeenBy_2 : decode cX7_casesSeenBy 2 = .ok (.iconst 0, 1) := by decide +kernel
theorem dX7_casesSeenBy_3 : decode cX7_casesSeenBy 3 = .ok (.istore_n 3, 1) := by decide +kernel
theorem dX7_casesSeenBy_4 : decode cX7_casesSeenBy 4 = .ok (.iload_n 3, 1) := by decide +kernel
theorem dX7_casesSeenBy_5 : decode cX7_casesSeenBy 5 = .ok (.aload_n 0, 1) := by decide +kernel
theorem dX7_casesSeenBy_6 : decode cX7_casesSeenBy 6 = .ok (.getfield 12, 3) := by decide +kernel
theorem dX7_casesSeenBy_9 : decode cX7_casesSeenBy 9 = .ok (.invokevirtual 80, 3) := by decide +kernel
theorem dX7_casesSeenBy_12 : decode cX7_casesSeenBy 12 = .ok (.if_icmp .ge 33, 3) := by decide +kernel
theorem dX7_casesSeenBy_15 : decode cX7_casesSeenBy 15 = .ok (.aload_n 1, 1) := by decide +kernel
theorem dX7_casesSeenBy_16 : decode cX7_casesSeenBy 16 = .ok (.aload_n 0, 1) := by decide +kernel
theorem dX7_casesSeenBy_17 : decode cX7_casesSeenBy 17 = .ok (.getfield 12, 3) := by decide +kernel
theorem dX7_casesSeenBy_20 : decode cX7_casesSeenBy 20 = .ok (.iload_n 3, 1) := by decide +kernel
theorem dX7_casesSeenBy_21 : decode cX7_casesSeenBy 21 = .ok (.invokevirtual 300, 3) := by decide +kernel
theorem dX7_casesSeenBy_24 : decode cX7_casesSeenBy 24 = .ok (.checkcast 134, 3) := by decide +kernel
theorem dX7_casesSeenBy_27 : decode cX7_casesSeenBy 27 = .ok (.invokevirtual 264, 3) := by decide +kernel
theorem dX7_casesSeenBy_30 : decode cX7_casesSeenBy 30 = .ok (.ifCond .eq 9, 3) := by decide +kernel
theorem dX7_casesSeenBy_33 : decode cX7_casesSeenBy 33 = .ok (.iload_n 2, 1) := by decide +kernel
theorem dX7_casesSeenBy_34 : decode cX7_casesSeenBy 34 = .ok (.iconst 1, 1) := by decide +kernel
theorem dX7_casesSeenBy_35 : decode cX7_casesSeenBy 35 = .ok (.iload_n 3, 1) := by decide +kernel
theorem dX7_casesSeenBy_36 : decode cX7_casesSeenBy 36 = .ok (.ishl, 1) := by decide +kernel
theorem dX7_casesSeenBy_37 : decode cX7_casesSeenBy 37 = .ok (.ior, 1) := by decide +kernel
theorem dX7_casesSeenBy_38 : decode cX7_casesSeenBy 38 = .ok (.istore_n 2, 1) := by decide +kernel
theorem dX7_casesSeenBy_39 : decode cX7_casesSeenBy 39 = .ok (.iinc 3 1, 3) := by decide +kernel
theorem dX7_casesSeenBy_42 : decode cX7_casesSeenBy 42 = .ok (.goto (-38), 3) := by decide +kernel
theorem dX7_casesSeenBy_45 : decode cX7_casesSeenBy 45 = .ok (.iload_n 2, 1) := by decide +kernel
theorem dX7_casesSeenBy_46 : decode cX7_casesSeenBy 46 = .ok (.ireturn, 1) := by decide +kernel
theorem dX7_countOriginalsWith_0 : decode cX7_countOriginalsWith 0 = .ok (.iconst 0, 1) := by decide +kernel
theorem dX7_countOriginalsWith_1 : decode cX7_countOriginalsWith 1 = .ok (.istore_n 2, 1) := by decide +kernel
theorem dX7_countOriginalsWith_2 : decode cX7_countOriginalsWith 2 = .ok (.iconst 0, 1) := by decide +kernel
theorem dX7_countOriginalsWith_3 : decode cX7_countOriginalsWith 3 = .ok (.istore_n 3, 1) := by decide +kernel
theorem dX7_countOriginalsWith_4 : decode cX7_countOriginalsWith 4 = .ok (.iload_n 3, 1) := by decide +kernel
theorem dX7_countOriginalsWith_5 : decode cX7_countOriginalsWith 5 = .ok (.aload_n 0, 1) := by decide +kernel
theorem dX7_countOriginalsWith_6 : decode cX7_countOriginalsWith 6 = .ok (.getfield 19, 3) := by decide +kernel
theorem dX7_countOriginalsWith_9 : decode cX7_countOriginalsWith 9 = .ok (.invokevirtual 80, 3) := by decide +kernel
theorem dX7_countOriginalsWith_12 : decode cX7_countOriginalsWith 12 = .ok (.if_icmp .ge 30, 3) := by decide +kernel
theorem dX7_countOriginalsWith_15 : decode cX7_countOriginalsWith 15 = .ok (.aload_n 0, 1) := by decide +kernel
theorem dX7_countOriginalsWith_16 : decode cX7_countOriginalsWith 16 = .ok (.getfield 19, 3) := by decide +kernel
theorem dX7_countOriginalsWith_19 : decode cX7_countOriginalsWith 19 = .ok (.iload_n 3, 1) := by decide +kernel
theorem dX7_countOriginalsWith_20 : decode cX7_countOriginalsWith 20 = .ok (.invokevirtual 300, 3) := by decide +kernel
theorem dX7_countOriginalsWith_23 : decode cX7_countOriginalsWith 23 = .ok (.checkcast 95, 3) := by decide +kernel
theorem dX7_countOriginalsWith_26 : decode cX7_countOriginalsWith 26 = .ok (.getfield 223, 3) := by decide +kernel
theorem dX7_countOriginalsWith_29 : decode cX7_countOriginalsWith 29 = .ok (.aload_n 1, 1) := by decide +kernel
theorem dX7_countOriginalsWith_30 : decode cX7_countOriginalsWith 30 = .ok (.if_acmp .ne 6, 3) := by decide +kernel
theorem dX7_countOriginalsWith_33 : decode cX7_countOriginalsWith 33 = .ok (.iinc 2 1, 3) := by decide +kernel
theorem dX7_countOriginalsWith_36 : decode cX7_countOriginalsWith 36 = .ok (.iinc 3 1, 3) := by decide +kernel
theorem dX7_countOriginalsWith_39 : decode cX7_countOriginalsWith 39 = .ok (.goto (-35), 3) := by decide +kernel
theorem dX7_countOriginalsWith_42 : decode cX7_countOriginalsWith 42 = .ok (.iload_n 2, 1) := by decide +kernel
theorem dX7_countOriginalsWith_43 : decode cX7_countOriginalsWith 43 = .ok (.ireturn, 1) := by decide +kernel
theorem dX7_countExhibitsWith_0 : decode cX7_countExhibitsWith 0 = .ok (.iconst 0, 1) := by decide +kernel
theorem dX7_countExhibitsWith_1 : decode cX7_countExhibitsWith 1 = .ok (.istore_n 2, 1) := by decide +kernel
theorem dX7_countExhibitsWith_2 : decode cX7_countExhibitsWith 2 = .ok (.iconst 0, 1) := by decide +kernel
theorem dX7_countExhibitsWith_3 : decode cX7_countExhibitsWith 3 = .ok (.istore_n 3, 1) := by decide +kernel
theorem dX7_countExhibitsWith_4 : decode cX7_countExhibitsWith 4 = .ok (.iload_n 3, 1) := by decide +kernel
theorem dX7_countExhibitsWith_5 : decode cX7_countExhibitsWith 5 = .ok (.aload_n 0, 1) := by decide +kernel
theorem dX7_countExhibitsWith_6 : decode cX7_countExhibitsWith 6 = .ok (.getfield 22, 3) := by decide +kernel
theorem dX7_countExhibitsWith_9 : decode cX7_countExhibitsWith 9 = .ok (.invokevirtual 80, 3) := by decide +kernel
theorem dX7_countExhibitsWith_12 : decode cX7_countExhibitsWith 12 = .ok (.if_icmp .ge 30, 3) := by decide +kernel
theorem dX7_countExhibitsWith_15 : decode cX7_countExhibitsWith 15 = .ok (.aload_n 0, 1) := by decide +kernel
theorem dX7_countExhibitsWith_16 : decode cX7_countExhibitsWith 16 = .ok (.getfield 22, 3) := by decide +kernel
theorem dX7_countExhibitsWith_19 : decode cX7_countExhibitsWith 19 = .ok (.iload_n 3, 1) := by decide +kernel
theorem dX7_countExhibitsWith_20 : decode cX7_countExhibitsWith 20 = .ok (.invokevirtual 300, 3) := by decide +kernel
theorem dX7_countExhibitsWith_23 : decode cX7_countExhibitsWith 23 = .ok (.checkcast 241, 3) := by decide +kernel
theorem dX7_countExhibitsWith_26 : decode cX7_countExhibitsWith 26 = .ok (.getfield 256, 3) := by decide +kernel
theorem dX7_countExhibitsWith_29 : decode cX7_countExhibitsWith 29 = .ok (.aload_n 1, 1) := by decide +kernel
theorem dX7_countExhibitsWith_30 : decode cX7_countExhibitsWith 30 = .ok (.if_acmp .ne 6, 3) := by decide +kernel
theorem dX7_countExhibitsWith_33 : decode cX7_countExhibitsWith 33 = .ok (.iinc 2 1, 3) := by decide +kernel
theorem dX7_countExhibitsWith_36 : decode cX7_countExhibitsWith 36 = .ok (.iinc 3 1, 3) := by decide +kernel
theorem dX7_countExhibitsWith_39 : decode cX7_countExhibitsWith 39 = .ok (.goto (-35), 3) := by decide +kernel
theorem dX7_countExhibitsWith_42 : decode cX7_countExhibitsWith 42 = .ok (.iload_n 2, 1) := by decide +kernel
theorem dX7_countExhibitsWith_43 : decode cX7_countExhibitsWith 43 = .ok (.ireturn, 1) := by decide +kernel
theorem dX7_countDeliveredTo_0 : decode cX7_countDeliveredTo 0 = .ok (.iconst 0, 1) := by decide +kernel
theorem dX7_countDeliveredTo_1 : decode cX7_countDeliveredTo 1 = .ok (.istore_n 2, 1) := by decide +kernel
theorem dX7_countDeliveredTo_2 : decode cX7_countDeliveredTo 2 = .ok (.iconst 0, 1) := by decide +kernel
theorem dX7_countDeliveredTo_3 : decode cX7_countDeliveredTo 3 = .ok (.istore_n 3, 1) := by decide +kernel
theorem dX7_countDeliveredTo_4 : decode cX7_countDeliveredTo 4 = .ok (.iload_n 3, 1) := by decide +kernel
theorem dX7_countDeliveredTo_5 : decode cX7_countDeliveredTo 5 = .ok (.aload_n 0, 1) := by decide +kernel
theorem dX7_countDeliveredTo_6 : decode cX7_countDeliveredTo 6 = .ok (.getfield 25, 3) := by decide +kernel
theorem dX7_countDeliveredTo_9 : decode cX7_countDeliveredTo 9 = .ok (.invokevirtual 80, 3) := by decide +kernel
theorem dX7_countDeliveredTo_12 : decode cX7_countDeliveredTo 12 = .ok (.if_icmp .ge 43, 3) := by decide +kernel
theorem dX7_countDeliveredTo_15 : decode cX7_countDeliveredTo 15 = .ok (.aload_n 0, 1) := by decide +kernel
theorem dX7_countDeliveredTo_16 : decode cX7_countDeliveredTo 16 = .ok (.getfield 25, 3) := by decide +kernel
theorem dX7_countDeliveredTo_19 : decode cX7_countDeliveredTo 19 = .ok (.iload_n 3, 1) := by decide +kernel
theorem dX7_countDeliveredTo_20 : decode cX7_countDeliveredTo 20 = .ok (.invokevirtual 300, 3) := by decide +kernel
theorem dX7_countDeliveredTo_23 : decode cX7_countDeliveredTo 23 = .ok (.checkcast 312, 3) := by decide +kernel
theorem dX7_countDeliveredTo_26 : decode cX7_countDeliveredTo 26 = .ok (.astore 4, 2) := by decide +kernel
theorem dX7_countDeliveredTo_28 : decode cX7_countDeliveredTo 28 = .ok (.aload 4, 2) := by decide +kernel
theorem dX7_countDeliveredTo_30 : decode cX7_countDeliveredTo 30 = .ok (.getfield 351, 3) := by decide +kernel
theorem dX7_countDeliveredTo_33 : decode cX7_countDeliveredTo 33 = .ok (.aload_n 1, 1) := by decide +kernel
theorem dX7_countDeliveredTo_34 : decode cX7_countDeliveredTo 34 = .ok (.if_acmp .ne 15, 3) := by decide +kernel
theorem dX7_countDeliveredTo_37 : decode cX7_countDeliveredTo 37 = .ok (.aload 4, 2) := by decide +kernel
theorem dX7_countDeliveredTo_39 : decode cX7_countDeliveredTo 39 = .ok (.getfield 337, 3) := by decide +kernel
theorem dX7_countDeliveredTo_42 : decode cX7_countDeliveredTo 42 = .ok (.iconst 1, 1) := by decide +kernel
theorem dX7_countDeliveredTo_43 : decode cX7_countDeliveredTo 43 = .ok (.if_icmp .ne 6, 3) := by decide +kernel
theorem dX7_countDeliveredTo_46 : decode cX7_countDeliveredTo 46 = .ok (.iinc 2 1, 3) := by decide +kernel
theorem dX7_countDeliveredTo_49 : decode cX7_countDeliveredTo 49 = .ok (.iinc 3 1, 3) := by decide +kernel
theorem dX7_countDeliveredTo_52 : decode cX7_countDeliveredTo 52 = .ok (.goto (-48), 3) := by decide +kernel
theorem dX7_countDeliveredTo_55 : decode cX7_countDeliveredTo 55 = .ok (.iload_n 2, 1) := by decide +kernel
theorem dX7_countDeliveredTo_56 : decode cX7_countDeliveredTo 56 = .ok (.ireturn, 1) := by decide +kernel
theorem dX7_tellDocument_0 : decode cX7_tellDocument 0 = .ok (.iload_n 1, 1) := by decide +kernel
theorem dX7_tellDocument_1 : decode cX7_tellDocument 1 = .ok (.tableswitch 85 0 6 #[43, 51, 57, 62, 67, 72, 80], 43) := by decide +kernel
theorem dX7_tellDocument_44 : decode cX7_tellDocument 44 = .ok (.aload_n 0, 1) := by decide +kernel
theorem dX7_tellDocument_45 : decode cX7_tellDocument 45 = .ok (.getfield 181, 3) := by decide +kernel
theorem dX7_tellDocument_48 : decode cX7_tellDocument 48 = .ok (.getfield 160, 3) := by decide +kernel
theorem dX7_tellDocument_51 : decode cX7_tellDocument 51 = .ok (.ireturn, 1) := by decide +kernel
theorem dX7_tellDocument_52 : decode cX7_tellDocument 52 = .ok (.aload_n 0, 1) := by decide +kernel
theorem dX7_tellDocument_53 : decode cX7_tellDocument 53 = .ok (.getfield 202, 3) := by decide +kernel
theorem dX7_tellDocument_56 : decode cX7_tellDocument 56 = .ok (.arraylength, 1) := by decide +kernel
theorem dX7_tellDocument_57 : decode cX7_tellDocument 57 = .ok (.ireturn, 1) := by decide +kernel
theorem dX7_tellDocument_58 : decode cX7_tellDocument 58 = .ok (.aload_n 0, 1) := by decide +kernel
theorem dX7_tellDocument_59 : decode cX7_tellDocument 59 = .ok (.invokevirtual 374, 3) := by decide +kernel
theorem dX7_tellDocument_62 : decode cX7_tellDocument 62 = .ok (.ireturn, 1) := by decide +kernel
theorem dX7_tellDocument_63 : decode cX7_tellDocument 63 = .ok (.aload_n 0, 1) := by decide +kernel
theorem dX7_tellDocument_64 : decode cX7_tellDocument 64 = .ok (.invokevirtual 467, 3) := by decide +kernel
theorem dX7_tellDocument_67 : decode cX7_tellDocument 67 = .ok (.ireturn, 1) := by decide +kernel
theorem dX7_tellDocument_68 : decode cX7_tellDocument 68 = .ok (.aload_n 0, 1) := by decide +kernel
theorem dX7_tellDocument_69 : decode cX7_tellDocument 69 = .ok (.invokevirtual 470, 3) := by decide +kernel
theorem dX7_tellDocument_72 : decode cX7_tellDocument 72 = .ok (.ireturn, 1) := by decide +kernel
theorem dX7_tellDocument_73 : decode cX7_tellDocument 73 = .ok (.aload_n 0, 1) := by decide +kernel
theorem dX7_tellDocument_74 : decode cX7_tellDocument 74 = .ok (.getfield 223, 3) := by decide +kernel
theorem dX7_tellDocument_77 : decode cX7_tellDocument 77 = .ok (.invokestatic 232, 3) := by decide +kernel
theorem dX7_tellDocument_80 : decode cX7_tellDocument 80 = .ok (.ireturn, 1) := by decide +kernel
theorem dX7_tellDocument_81 : decode cX7_tellDocument 81 = .ok (.aload_n 0, 1) := by decide +kernel
theorem dX7_tellDocument_82 : decode cX7_tellDocument 82 = .ok (.getfield 229, 3) := by decide +kernel
theorem dX7_tellDocument_85 : decode cX7_tellDocument 85 = .ok (.ireturn, 1) := by decide +kernel
theorem dX7_tellDocument_86 : decode cX7_tellDocument 86 = .ok (.aload_n 0, 1) := by decide +kernel
theorem dX7_tellDocument_87 : decode cX7_tellDocument 87 = .ok (.getfield 473, 3) := by decide +kernel
theorem dX7_tellDocument_90 : decode cX7_tellDocument 90 = .ok (.ireturn, 1) := by decide +kernel
theorem dX7_tellExhibit_0 : decode cX7_tellExhibit 0 = .ok (.iload_n 2, 1) := by decide +kernel
theorem dX7_tellExhibit_1 : decode cX7_tellExhibit 1 = .ok (.tableswitch 98 0 5 #[39, 47, 67, 72, 80, 85], 39) := by decide +kernel
theorem dX7_tellExhibit_40 : decode cX7_tellExhibit 40 = .ok (.aload_n 1, 1) := by decide +kernel
theorem dX7_tellExhibit_41 : decode cX7_tellExhibit 41 = .ok (.getfield 263, 3) := by decide +kernel
theorem dX7_tellExhibit_44 : decode cX7_tellExhibit 44 = .ok (.getfield 160, 3) := by decide +kernel
theorem dX7_tellExhibit_47 : decode cX7_tellExhibit 47 = .ok (.ireturn, 1) := by decide +kernel
theorem dX7_tellExhibit_48 : decode cX7_tellExhibit 48 = .ok (.aload_n 1, 1) := by decide +kernel
theorem dX7_tellExhibit_49 : decode cX7_tellExhibit 49 = .ok (.getfield 252, 3) := by decide +kernel
theorem dX7_tellExhibit_52 : decode cX7_tellExhibit 52 = .ok (.ifCond .eq 8, 3) := by decide +kernel
theorem dX7_tellExhibit_55 : decode cX7_tellExhibit 55 = .ok (.bipush (-2), 2) := by decide +kernel
theorem dX7_tellExhibit_57 : decode cX7_tellExhibit 57 = .ok (.goto 10, 3) := by decide +kernel
theorem dX7_tellExhibit_60 : decode cX7_tellExhibit 60 = .ok (.aload_n 1, 1) := by decide +kernel
theorem dX7_tellExhibit_61 : decode cX7_tellExhibit 61 = .ok (.getfield 256, 3) := by decide +kernel
theorem dX7_tellExhibit_64 : decode cX7_tellExhibit 64 = .ok (.invokestatic 232, 3) := by decide +kernel
theorem dX7_tellExhibit_67 : decode cX7_tellExhibit 67 = .ok (.ireturn, 1) := by decide +kernel
theorem dX7_tellExhibit_68 : decode cX7_tellExhibit 68 = .ok (.aload_n 1, 1) := by decide +kernel
theorem dX7_tellExhibit_69 : decode cX7_tellExhibit 69 = .ok (.getfield 285, 3) := by decide +kernel
theorem dX7_tellExhibit_72 : decode cX7_tellExhibit 72 = .ok (.ireturn, 1) := by decide +kernel
theorem dX7_tellExhibit_73 : decode cX7_tellExhibit 73 = .ok (.aload_n 1, 1) := by decide +kernel
theorem dX7_tellExhibit_74 : decode cX7_tellExhibit 74 = .ok (.getfield 278, 3) := by decide +kernel
theorem dX7_tellExhibit_77 : decode cX7_tellExhibit 77 = .ok (.invokevirtual 80, 3) := by decide +kernel
theorem dX7_tellExhibit_80 : decode cX7_tellExhibit 80 = .ok (.ireturn, 1) := by decide +kernel
theorem dX7_tellExhibit_81 : decode cX7_tellExhibit 81 = .ok (.aload_n 1, 1) := by decide +kernel
theorem dX7_tellExhibit_82 : decode cX7_tellExhibit 82 = .ok (.invokevirtual 476, 3) := by decide +kernel
theorem dX7_tellExhibit_85 : decode cX7_tellExhibit 85 = .ok (.ireturn, 1) := by decide +kernel
theorem dX7_tellExhibit_86 : decode cX7_tellExhibit 86 = .ok (.aload_n 1, 1) := by decide +kernel
theorem dX7_tellExhibit_87 : decode cX7_tellExhibit 87 = .ok (.invokevirtual 452, 3) := by decide +kernel
theorem dX7_tellExhibit_90 : decode cX7_tellExhibit 90 = .ok (.ifCond .eq 7, 3) := by decide +kernel
theorem dX7_tellExhibit_93 : decode cX7_tellExhibit 93 = .ok (.iconst 1, 1) := by decide +kernel
theorem dX7_tellExhibit_94 : decode cX7_tellExhibit 94 = .ok (.goto 4, 3) := by decide +kernel
theorem dX7_tellExhibit_97 : decode cX7_tellExhibit 97 = .ok (.iconst 0, 1) := by decide +kernel
theorem dX7_tellExhibit_98 : decode cX7_tellExhibit 98 = .ok (.ireturn, 1) := by decide +kernel
theorem dX7_tellExhibit_99 : decode cX7_tellExhibit 99 = .ok (.aload_n 0, 1) := by decide +kernel
theorem dX7_tellExhibit_100 : decode cX7_tellExhibit 100 = .ok (.aload_n 1, 1) := by decide +kernel
theorem dX7_tellExhibit_101 : decode cX7_tellExhibit 101 = .ok (.invokevirtual 479, 3) := by decide +kernel
theorem dX7_tellExhibit_104 : decode cX7_tellExhibit 104 = .ok (.ireturn, 1) := by decide +kernel
theorem dX7_countDocumentsThatMark_0 : decode cX7_countDocumentsThatMark 0 = .ok (.iconst 0, 1) := by decide +kernel
theorem dX7_countDocumentsThatMark_1 : decode cX7_countDocumentsThatMark 1 = .ok (.istore_n 2, 1) := by decide +kernel
theorem dX7_countDocumentsThatMark_2 : decode cX7_countDocumentsThatMark 2 = .ok (.iconst 0, 1) := by decide +kernel
theorem dX7_countDocumentsThatMark_3 : decode cX7_countDocumentsThatMark 3 = .ok (.istore_n 3, 1) := by decide +kernel
theorem dX7_countDocumentsThatMark_4 : decode cX7_countDocumentsThatMark 4 = .ok (.iload_n 3, 1) := by decide +kernel
theorem dX7_countDocumentsThatMark_5 : decode cX7_countDocumentsThatMark 5 = .ok (.aload_n 0, 1) := by decide +kernel
theorem dX7_countDocumentsThatMark_6 : decode cX7_countDocumentsThatMark 6 = .ok (.getfield 19, 3) := by decide +kernel
theorem dX7_countDocumentsThatMark_9 : decode cX7_countDocumentsThatMark 9 = .ok (.invokevirtual 80, 3) := by decide +kernel
theorem dX7_countDocumentsThatMark_12 : decode cX7_countDocumentsThatMark 12 = .ok (.if_icmp .ge 37, 3) := by decide +kernel
theorem dX7_countDocumentsThatMark_15 : decode cX7_countDocumentsThatMark 15 = .ok (.aload_n 0, 1) := by decide +kernel
theorem dX7_countDocumentsThatMark_16 : decode cX7_countDocumentsThatMark 16 = .ok (.getfield 19, 3) := by decide +kernel
theorem dX7_countDocumentsThatMark_19 : decode cX7_countDocumentsThatMark 19 = .ok (.iload_n 3, 1) := by decide +kernel
theorem dX7_countDocumentsThatMark_20 : decode cX7_countDocumentsThatMark 20 = .ok (.invokevirtual 300, 3) := by decide +kernel
theorem dX7_countDocumentsThatMark_23 : decode cX7_countDocumentsThatMark 23 = .ok (.checkcast 95, 3) := by decide +kernel
theorem dX7_countDocumentsThatMark_26 : decode cX7_countDocumentsThatMark 26 = .ok (.getfield 483, 3) := by decide +kernel
theorem dX7_countDocumentsThatMark_29 : decode cX7_countDocumentsThatMark 29 = .ok (.aload_n 1, 1) := by decide +kernel
theorem dX7_countDocumentsThatMark_30 : decode cX7_countDocumentsThatMark 30 = .ok (.getfield 485, 3) := by decide +kernel
theorem dX7_countDocumentsThatMark_33 : decode cX7_countDocumentsThatMark 33 = .ok (.ishr, 1) := by decide +kernel
theorem dX7_countDocumentsThatMark_34 : decode cX7_countDocumentsThatMark 34 = .ok (.iconst 1, 1) := by decide +kernel
theorem dX7_countDocumentsThatMark_35 : decode cX7_countDocumentsThatMark 35 = .ok (.iand, 1) := by decide +kernel
theorem dX7_countDocumentsThatMark_36 : decode cX7_countDocumentsThatMark 36 = .ok (.iconst 1, 1) := by decide +kernel
theorem dX7_countDocumentsThatMark_37 : decode cX7_countDocumentsThatMark 37 = .ok (.if_icmp .ne 6, 3) := by decide +kernel
theorem dX7_countDocumentsThatMark_40 : decode cX7_countDocumentsThatMark 40 = .ok (.iinc 2 1, 3) := by decide +kernel
theorem dX7_countDocumentsThatMark_43 : decode cX7_countDocumentsThatMark 43 = .ok (.iinc 3 1, 3) := by decide +kernel
theorem dX7_countDocumentsThatMark_46 : decode cX7_countDocumentsThatMark 46 = .ok (.goto (-42), 3) := by decide +kernel
theorem dX7_countDocumentsThatMark_49 : decode cX7_countDocumentsThatMark 49 = .ok (.iload_n 2, 1) := by decide +kernel
theorem dX7_countDocumentsThatMark_50 : decode cX7_countDocumentsThatMark 50 = .ok (.ireturn, 1) := by decide +kernel
theorem dX7_tellLink_0 : decode cX7_tellLink 0 = .ok (.iload_n 1, 1) := by decide +kernel
theorem dX7_tellLink_1 : decode cX7_tellLink 1 = .ok (.tableswitch 48 0 2 #[27, 32, 40], 27) := by decide +kernel
theorem dX7_tellLink_28 : decode cX7_tellLink 28 = .ok (.aload_n 0, 1) := by decide +kernel
theorem dX7_tellLink_29 : decode cX7_tellLink 29 = .ok (.getfield 486, 3) := by decide +kernel
theorem dX7_tellLink_32 : decode cX7_tellLink 32 = .ok (.ireturn, 1) := by decide +kernel
theorem dX7_tellLink_33 : decode cX7_tellLink 33 = .ok (.aload_n 0, 1) := by decide +kernel
theorem dX7_tellLink_34 : decode cX7_tellLink 34 = .ok (.getfield 487, 3) := by decide +kernel
theorem dX7_tellLink_37 : decode cX7_tellLink 37 = .ok (.invokestatic 232, 3) := by decide +kernel
theorem dX7_tellLink_40 : decode cX7_tellLink 40 = .ok (.ireturn, 1) := by decide +kernel
theorem dX7_tellLink_41 : decode cX7_tellLink 41 = .ok (.aload_n 0, 1) := by decide +kernel
theorem dX7_tellLink_42 : decode cX7_tellLink 42 = .ok (.getfield 490, 3) := by decide +kernel
theorem dX7_tellLink_45 : decode cX7_tellLink 45 = .ok (.invokestatic 232, 3) := by decide +kernel
theorem dX7_tellLink_48 : decode cX7_tellLink 48 = .ok (.ireturn, 1) := by decide +kernel
theorem dX7_tellLink_49 : decode cX7_tellLink 49 = .ok (.aload_n 0, 1) := by decide +kernel
theorem dX7_tellLink_50 : decode cX7_tellLink 50 = .ok (.getfield 493, 3) := by decide +kernel
theorem dX7_tellLink_53 : decode cX7_tellLink 53 = .ok (.ireturn, 1) := by decide +kernel
theorem dX7_tellLetter_0 : decode cX7_tellLetter 0 = .ok (.iload_n 1, 1) := by decide +kernel
theorem dX7_tellLetter_1 : decode cX7_tellLetter 1 = .ok (.tableswitch 54 0 3 #[31, 36, 44, 49], 31) := by decide +kernel
theorem dX7_tellLetter_32 : decode cX7_tellLetter 32 = .ok (.aload_n 0, 1) := by decide +kernel
theorem dX7_tellLetter_33 : decode cX7_tellLetter 33 = .ok (.getfield 496, 3) := by decide +kernel
theorem dX7_tellLetter_36 : decode cX7_tellLetter 36 = .ok (.ireturn, 1) := by decide +kernel
theorem dX7_tellLetter_37 : decode cX7_tellLetter 37 = .ok (.aload_n 0, 1) := by decide +kernel
theorem dX7_tellLetter_38 : decode cX7_tellLetter 38 = .ok (.getfield 351, 3) := by decide +kernel
theorem dX7_tellLetter_41 : decode cX7_tellLetter 41 = .ok (.getfield 397, 3) := by decide +kernel
theorem dX7_tellLetter_44 : decode cX7_tellLetter 44 = .ok (.ireturn, 1) := by decide +kernel
theorem dX7_tellLetter_45 : decode cX7_tellLetter 45 = .ok (.aload_n 0, 1) := by decide +kernel
theorem dX7_tellLetter_46 : decode cX7_tellLetter 46 = .ok (.getfield 411, 3) := by decide +kernel
theorem dX7_tellLetter_49 : decode cX7_tellLetter 49 = .ok (.ireturn, 1) := by decide +kernel
theorem dX7_tellLetter_50 : decode cX7_tellLetter 50 = .ok (.aload_n 0, 1) := by decide +kernel
theorem dX7_tellLetter_51 : decode cX7_tellLetter 51 = .ok (.getfield 337, 3) := by decide +kernel
theorem dX7_tellLetter_54 : decode cX7_tellLetter 54 = .ok (.ireturn, 1) := by decide +kernel
theorem dX7_tellLetter_55 : decode cX7_tellLetter 55 = .ok (.aload_n 0, 1) := by decide +kernel
theorem dX7_tellLetter_56 : decode cX7_tellLetter 56 = .ok (.getfield 414, 3) := by decide +kernel
theorem dX7_tellLetter_59 : decode cX7_tellLetter 59 = .ok (.ireturn, 1) := by decide +kernel
theorem dX7_digestCases_0 : decode cX7_digestCases 0 = .ok (.lload_n 1, 1) := by decide +kernel
theorem dX7_digestCases_1 : decode cX7_digestCases 1 = .ok (.lstore_n 3, 1) := by decide +kernel
theorem dX7_digestCases_2 : decode cX7_digestCases 2 = .ok (.iconst 0, 1) := by decide +kernel
theorem dX7_digestCases_3 : decode cX7_digestCases 3 = .ok (.istore 5, 2) := by decide +kernel
theorem dX7_digestCases_5 : decode cX7_digestCases 5 = .ok (.iload 5, 2) := by decide +kernel
theorem dX7_digestCases_7 : decode cX7_digestCases 7 = .ok (.aload_n 0, 1) := by decide +kernel
theorem dX7_digestCases_8 : decode cX7_digestCases 8 = .ok (.getfield 12, 3) := by decide +kernel
theorem dX7_digestCases_11 : decode cX7_digestCases 11 = .ok (.invokevirtual 80, 3) := by decide +kernel
theorem dX7_digestCases_14 : decode cX7_digestCases 14 = .ok (.if_icmp .ge 50, 3) := by decide +kernel
theorem dX7_digestCases_17 : decode cX7_digestCases 17 = .ok (.iconst 0, 1) := by decide +kernel
theorem dX7_digestCases_18 : decode cX7_digestCases 18 = .ok (.istore 6, 2) := by decide +kernel
theorem dX7_digestCases_20 : decode cX7_digestCases 20 = .ok (.iload 6, 2) := by decide +kernel
theorem dX7_digestCases_22 : decode cX7_digestCases 22 = .ok (.iconst 4, 1) := by decide +kernel
theorem dX7_digestCases_23 : decode cX7_digestCases 23 = .ok (.if_icmp .gt 35, 3) := by decide +kernel
theorem dX7_digestCases_26 : decode cX7_digestCases 26 = .ok (.lload_n 3, 1) := by decide +kernel
theorem dX7_digestCases_27 : decode cX7_digestCases 27 = .ok (.ldc2_w 379, 3) := by decide +kernel
theorem dX7_digestCases_30 : decode cX7_digestCases 30 = .ok (.lmul, 1) := by decide +kernel
theorem dX7_digestCases_31 : decode cX7_digestCases 31 = .ok (.aload_n 0, 1) := by decide +kernel
theorem dX7_digestCases_32 : decode cX7_digestCases 32 = .ok (.aload_n 0, 1) := by decide +kernel
theorem dX7_digestCases_33 : decode cX7_digestCases 33 = .ok (.getfield 12, 3) := by decide +kernel
theorem dX7_digestCases_36 : decode cX7_digestCases 36 = .ok (.iload 5, 2) := by decide +kernel
theorem dX7_digestCases_38 : decode cX7_digestCases 38 = .ok (.invokevirtual 300, 3) := by decide +kernel
theorem dX7_digestCases_41 : decode cX7_digestCases 41 = .ok (.checkcast 134, 3) := by decide +kernel
theorem dX7_digestCases_44 : decode cX7_digestCases 44 = .ok (.iload 6, 2) := by decide +kernel
theorem dX7_digestCases_46 : decode cX7_digestCases 46 = .ok (.invokevirtual 175, 3) := by decide +kernel
theorem dX7_digestCases_49 : decode cX7_digestCases 49 = .ok (.i2l, 1) := by decide +kernel
theorem dX7_digestCases_50 : decode cX7_digestCases 50 = .ok (.ladd, 1) := by decide +kernel
theorem dX7_digestCases_51 : decode cX7_digestCases 51 = .ok (.lstore_n 3, 1) := by decide +kernel
theorem dX7_digestCases_52 : decode cX7_digestCases 52 = .ok (.iinc 6 1, 3) := by decide +kernel
theorem dX7_digestCases_55 : decode cX7_digestCases 55 = .ok (.goto (-35), 3) := by decide +kernel
theorem dX7_digestCases_58 : decode cX7_digestCases 58 = .ok (.iinc 5 1, 3) := by decide +kernel
theorem dX7_digestCases_61 : decode cX7_digestCases 61 = .ok (.goto (-56), 3) := by decide +kernel
theorem dX7_digestCases_64 : decode cX7_digestCases 64 = .ok (.lload_n 3, 1) := by decide +kernel
theorem dX7_digestCases_65 : decode cX7_digestCases 65 = .ok (.lreturn, 1) := by decide +kernel
theorem dX7_digestPeople_0 : decode cX7_digestPeople 0 = .ok (.lload_n 1, 1) := by decide +kernel
theorem dX7_digestPeople_1 : decode cX7_digestPeople 1 = .ok (.lstore_n 3, 1) := by decide +kernel
theorem dX7_digestPeople_2 : decode cX7_digestPeople 2 = .ok (.iconst 0, 1) := by decide +kernel
theorem dX7_digestPeople_3 : decode cX7_digestPeople 3 = .ok (.istore 5, 2) := by decide +kernel
theorem dX7_digestPeople_5 : decode cX7_digestPeople 5 = .ok (.iload 5, 2) := by decide +kernel
theorem dX7_digestPeople_7 : decode cX7_digestPeople 7 = .ok (.aload_n 0, 1) := by decide +kernel
theorem dX7_digestPeople_8 : decode cX7_digestPeople 8 = .ok (.getfield 16, 3) := by decide +kernel
theorem dX7_digestPeople_11 : decode cX7_digestPeople 11 = .ok (.invokevirtual 80, 3) := by decide +kernel
theorem dX7_digestPeople_14 : decode cX7_digestPeople 14 = .ok (.if_icmp .ge 51, 3) := by decide +kernel
theorem dX7_digestPeople_17 : decode cX7_digestPeople 17 = .ok (.iconst 0, 1) := by decide +kernel
theorem dX7_digestPeople_18 : decode cX7_digestPeople 18 = .ok (.istore 6, 2) := by decide +kernel
theorem dX7_digestPeople_20 : decode cX7_digestPeople 20 = .ok (.iload 6, 2) := by decide +kernel
theorem dX7_digestPeople_22 : decode cX7_digestPeople 22 = .ok (.bipush 7, 2) := by decide +kernel
theorem dX7_digestPeople_24 : decode cX7_digestPeople 24 = .ok (.if_icmp .gt 35, 3) := by decide +kernel
theorem dX7_digestPeople_27 : decode cX7_digestPeople 27 = .ok (.lload_n 3, 1) := by decide +kernel
theorem dX7_digestPeople_28 : decode cX7_digestPeople 28 = .ok (.ldc2_w 379, 3) := by decide +kernel
theorem dX7_digestPeople_31 : decode cX7_digestPeople 31 = .ok (.lmul, 1) := by decide +kernel
theorem dX7_digestPeople_32 : decode cX7_digestPeople 32 = .ok (.aload_n 0, 1) := by decide +kernel
theorem dX7_digestPeople_33 : decode cX7_digestPeople 33 = .ok (.aload_n 0, 1) := by decide +kernel
theorem dX7_digestPeople_34 : decode cX7_digestPeople 34 = .ok (.getfield 16, 3) := by decide +kernel
theorem dX7_digestPeople_37 : decode cX7_digestPeople 37 = .ok (.iload 5, 2) := by decide +kernel
theorem dX7_digestPeople_39 : decode cX7_digestPeople 39 = .ok (.invokevirtual 300, 3) := by decide +kernel
theorem dX7_digestPeople_42 : decode cX7_digestPeople 42 = .ok (.checkcast 146, 3) := by decide +kernel
theorem dX7_digestPeople_45 : decode cX7_digestPeople 45 = .ok (.iload 6, 2) := by decide +kernel
theorem dX7_digestPeople_47 : decode cX7_digestPeople 47 = .ok (.invokevirtual 169, 3) := by decide +kernel
theorem dX7_digestPeople_50 : decode cX7_digestPeople 50 = .ok (.i2l, 1) := by decide +kernel
theorem dX7_digestPeople_51 : decode cX7_digestPeople 51 = .ok (.ladd, 1) := by decide +kernel
theorem dX7_digestPeople_52 : decode cX7_digestPeople 52 = .ok (.lstore_n 3, 1) := by decide +kernel
theorem dX7_digestPeople_53 : decode cX7_digestPeople 53 = .ok (.iinc 6 1, 3) := by decide +kernel
theorem dX7_digestPeople_56 : decode cX7_digestPeople 56 = .ok (.goto (-36), 3) := by decide +kernel
theorem dX7_digestPeople_59 : decode cX7_digestPeople 59 = .ok (.iinc 5 1, 3) := by decide +kernel
theorem dX7_digestPeople_62 : decode cX7_digestPeople 62 = .ok (.goto (-57), 3) := by decide +kernel
theorem dX7_digestPeople_65 : decode cX7_digestPeople 65 = .ok (.lload_n 3, 1) := by decide +kernel
theorem dX7_digestPeople_66 : decode cX7_digestPeople 66 = .ok (.lreturn, 1) := by decide +kernel
theorem dX7_digestDocuments_0 : decode cX7_digestDocuments 0 = .ok (.lload_n 1, 1) := by decide +kernel
theorem dX7_digestDocuments_1 : decode cX7_digestDocuments 1 = .ok (.lstore_n 3, 1) := by decide +kernel
theorem dX7_digestDocuments_2 : decode cX7_digestDocuments 2 = .ok (.iconst 0, 1) := by decide +kernel
theorem dX7_digestDocuments_3 : decode cX7_digestDocuments 3 = .ok (.istore 5, 2) := by decide +kernel
theorem dX7_digestDocuments_5 : decode cX7_digestDocuments 5 = .ok (.iload 5, 2) := by decide +kernel
theorem dX7_digestDocuments_7 : decode cX7_digestDocuments 7 = .ok (.aload_n 0, 1) := by decide +kernel
theorem dX7_digestDocuments_8 : decode cX7_digestDocuments 8 = .ok (.getfield 19, 3) := by decide +kernel
theorem dX7_digestDocuments_11 : decode cX7_digestDocuments 11 = .ok (.invokevirtual 80, 3) := by decide +kernel
theorem dX7_digestDocuments_14 : decode cX7_digestDocuments 14 = .ok (.if_icmp .ge 117, 3) := by decide +kernel
theorem dX7_digestDocuments_17 : decode cX7_digestDocuments 17 = .ok (.aload_n 0, 1) := by decide +kernel
theorem dX7_digestDocuments_18 : decode cX7_digestDocuments 18 = .ok (.getfield 19, 3) := by decide +kernel
theorem dX7_digestDocuments_21 : decode cX7_digestDocuments 21 = .ok (.iload 5, 2) := by decide +kernel
theorem dX7_digestDocuments_23 : decode cX7_digestDocuments 23 = .ok (.invokevirtual 300, 3) := by decide +kernel
theorem dX7_digestDocuments_26 : decode cX7_digestDocuments 26 = .ok (.checkcast 95, 3) := by decide +kernel
theorem dX7_digestDocuments_29 : decode cX7_digestDocuments 29 = .ok (.astore 6, 2) := by decide +kernel
theorem dX7_digestDocuments_31 : decode cX7_digestDocuments 31 = .ok (.iconst 0, 1) := by decide +kernel
theorem dX7_digestDocuments_32 : decode cX7_digestDocuments 32 = .ok (.istore 7, 2) := by decide +kernel
theorem dX7_digestDocuments_34 : decode cX7_digestDocuments 34 = .ok (.iload 7, 2) := by decide +kernel
theorem dX7_digestDocuments_36 : decode cX7_digestDocuments 36 = .ok (.bipush 7, 2) := by decide +kernel
theorem dX7_digestDocuments_38 : decode cX7_digestDocuments 38 = .ok (.if_icmp .gt 24, 3) := by decide +kernel
theorem dX7_digestDocuments_41 : decode cX7_digestDocuments 41 = .ok (.lload_n 3, 1) := by decide +kernel
theorem dX7_digestDocuments_42 : decode cX7_digestDocuments 42 = .ok (.ldc2_w 379, 3) := by decide +kernel
theorem dX7_digestDocuments_45 : decode cX7_digestDocuments 45 = .ok (.lmul, 1) := by decide +kernel
theorem dX7_digestDocuments_46 : decode cX7_digestDocuments 46 = .ok (.aload 6, 2) := by decide +kernel
theorem dX7_digestDocuments_48 : decode cX7_digestDocuments 48 = .ok (.iload 7, 2) := by decide +kernel
theorem dX7_digestDocuments_50 : decode cX7_digestDocuments 50 = .ok (.invokestatic 126, 3) := by decide +kernel
theorem dX7_digestDocuments_53 : decode cX7_digestDocuments 53 = .ok (.i2l, 1) := by decide +kernel
theorem dX7_digestDocuments_54 : decode cX7_digestDocuments 54 = .ok (.ladd, 1) := by decide +kernel
theorem dX7_digestDocuments_55 : decode cX7_digestDocuments 55 = .ok (.lstore_n 3, 1) := by decide +kernel
theorem dX7_digestDocuments_56 : decode cX7_digestDocuments 56 = .ok (.iinc 7 1, 3) := by decide +kernel
theorem dX7_digestDocuments_59 : decode cX7_digestDocuments 59 = .ok (.goto (-25), 3) := by decide +kernel
theorem dX7_digestDocuments_62 : decode cX7_digestDocuments 62 = .ok (.iconst 0, 1) := by decide +kernel
theorem dX7_digestDocuments_63 : decode cX7_digestDocuments 63 = .ok (.istore 7, 2) := by decide +kernel
theorem dX7_digestDocuments_65 : decode cX7_digestDocuments 65 = .ok (.iload 7, 2) := by decide +kernel
theorem dX7_digestDocuments_67 : decode cX7_digestDocuments 67 = .ok (.aload 6, 2) := by decide +kernel
theorem dX7_digestDocuments_69 : decode cX7_digestDocuments 69 = .ok (.getfield 202, 3) := by decide +kernel
theorem dX7_digestDocuments_72 : decode cX7_digestDocuments 72 = .ok (.arraylength, 1) := by decide +kernel
theorem dX7_digestDocuments_73 : decode cX7_digestDocuments 73 = .ok (.if_icmp .ge 52, 3) := by decide +kernel
theorem dX7_digestDocuments_76 : decode cX7_digestDocuments 76 = .ok (.iload 7, 2) := by decide +kernel
theorem dX7_digestDocuments_78 : decode cX7_digestDocuments 78 = .ok (.aload 6, 2) := by decide +kernel
theorem dX7_digestDocuments_80 : decode cX7_digestDocuments 80 = .ok (.getfield 499, 3) := by decide +kernel
theorem dX7_digestDocuments_83 : decode cX7_digestDocuments 83 = .ok (.arraylength, 1) := by decide +kernel
theorem dX7_digestDocuments_84 : decode cX7_digestDocuments 84 = .ok (.if_icmp .ge 41, 3) := by decide +kernel
theorem dX7_digestDocuments_87 : decode cX7_digestDocuments 87 = .ok (.lload_n 3, 1) := by decide +kernel
theorem dX7_digestDocuments_88 : decode cX7_digestDocuments 88 = .ok (.ldc2_w 379, 3) := by decide +kernel
theorem dX7_digestDocuments_91 : decode cX7_digestDocuments 91 = .ok (.lmul, 1) := by decide +kernel
theorem dX7_digestDocuments_92 : decode cX7_digestDocuments 92 = .ok (.aload 6, 2) := by decide +kernel
theorem dX7_digestDocuments_94 : decode cX7_digestDocuments 94 = .ok (.getfield 202, 3) := by decide +kernel
theorem dX7_digestDocuments_97 : decode cX7_digestDocuments 97 = .ok (.iload 7, 2) := by decide +kernel
theorem dX7_digestDocuments_99 : decode cX7_digestDocuments 99 = .ok (.baload, 1) := by decide +kernel
theorem dX7_digestDocuments_100 : decode cX7_digestDocuments 100 = .ok (.i2l, 1) := by decide +kernel
theorem dX7_digestDocuments_101 : decode cX7_digestDocuments 101 = .ok (.ladd, 1) := by decide +kernel
theorem dX7_digestDocuments_102 : decode cX7_digestDocuments 102 = .ok (.lstore_n 3, 1) := by decide +kernel
theorem dX7_digestDocuments_103 : decode cX7_digestDocuments 103 = .ok (.lload_n 3, 1) := by decide +kernel
theorem dX7_digestDocuments_104 : decode cX7_digestDocuments 104 = .ok (.ldc2_w 379, 3) := by decide +kernel
theorem dX7_digestDocuments_107 : decode cX7_digestDocuments 107 = .ok (.lmul, 1) := by decide +kernel
theorem dX7_digestDocuments_108 : decode cX7_digestDocuments 108 = .ok (.aload 6, 2) := by decide +kernel
theorem dX7_digestDocuments_110 : decode cX7_digestDocuments 110 = .ok (.getfield 499, 3) := by decide +kernel
theorem dX7_digestDocuments_113 : decode cX7_digestDocuments 113 = .ok (.iload 7, 2) := by decide +kernel
theorem dX7_digestDocuments_115 : decode cX7_digestDocuments 115 = .ok (.baload, 1) := by decide +kernel
theorem dX7_digestDocuments_116 : decode cX7_digestDocuments 116 = .ok (.i2l, 1) := by decide +kernel
theorem dX7_digestDocuments_117 : decode cX7_digestDocuments 117 = .ok (.ladd, 1) := by decide +kernel
theorem dX7_digestDocuments_118 : decode cX7_digestDocuments 118 = .ok (.lstore_n 3, 1) := by decide +kernel
theorem dX7_digestDocuments_119 : decode cX7_digestDocuments 119 = .ok (.iinc 7 1, 3) := by decide +kernel
theorem dX7_digestDocuments_122 : decode cX7_digestDocuments 122 = .ok (.goto (-57), 3) := by decide +kernel
theorem dX7_digestDocuments_125 : decode cX7_digestDocuments 125 = .ok (.iinc 5 1, 3) := by decide +kernel
theorem dX7_digestDocuments_128 : decode cX7_digestDocuments 128 = .ok (.goto (-123), 3) := by decide +kernel
theorem dX7_digestDocuments_131 : decode cX7_digestDocuments 131 = .ok (.lload_n 3, 1) := by decide +kernel
theorem dX7_digestDocuments_132 : decode cX7_digestDocuments 132 = .ok (.lreturn, 1) := by decide +kernel
theorem dX7_digestExhibits_0 : decode cX7_digestExhibits 0 = .ok (.lload_n 1, 1) := by decide +kernel
theorem dX7_digestExhibits_1 : decode cX7_digestExhibits 1 = .ok (.lstore_n 3, 1) := by decide +kernel
theorem dX7_digestExhibits_2 : decode cX7_digestExhibits 2 = .ok (.iconst 0, 1) := by decide +kernel
theorem dX7_digestExhibits_3 : decode cX7_digestExhibits 3 = .ok (.istore 5, 2) := by decide +kernel
theorem dX7_digestExhibits_5 : decode cX7_digestExhibits 5 = .ok (.iload 5, 2) := by decide +kernel
theorem dX7_digestExhibits_7 : decode cX7_digestExhibits 7 = .ok (.aload_n 0, 1) := by decide +kernel
theorem dX7_digestExhibits_8 : decode cX7_digestExhibits 8 = .ok (.getfield 22, 3) := by decide +kernel
theorem dX7_digestExhibits_11 : decode cX7_digestExhibits 11 = .ok (.invokevirtual 80, 3) := by decide +kernel
theorem dX7_digestExhibits_14 : decode cX7_digestExhibits 14 = .ok (.if_icmp .ge 118, 3) := by decide +kernel
theorem dX7_digestExhibits_17 : decode cX7_digestExhibits 17 = .ok (.aload_n 0, 1) := by decide +kernel
theorem dX7_digestExhibits_18 : decode cX7_digestExhibits 18 = .ok (.getfield 22, 3) := by decide +kernel
theorem dX7_digestExhibits_21 : decode cX7_digestExhibits 21 = .ok (.iload 5, 2) := by decide +kernel
theorem dX7_digestExhibits_23 : decode cX7_digestExhibits 23 = .ok (.invokevirtual 300, 3) := by decide +kernel
theorem dX7_digestExhibits_26 : decode cX7_digestExhibits 26 = .ok (.checkcast 241, 3) := by decide +kernel
theorem dX7_digestExhibits_29 : decode cX7_digestExhibits 29 = .ok (.astore 6, 2) := by decide +kernel
theorem dX7_digestExhibits_31 : decode cX7_digestExhibits 31 = .ok (.iconst 0, 1) := by decide +kernel
theorem dX7_digestExhibits_32 : decode cX7_digestExhibits 32 = .ok (.istore 7, 2) := by decide +kernel
theorem dX7_digestExhibits_34 : decode cX7_digestExhibits 34 = .ok (.iload 7, 2) := by decide +kernel
theorem dX7_digestExhibits_36 : decode cX7_digestExhibits 36 = .ok (.bipush 6, 2) := by decide +kernel
theorem dX7_digestExhibits_38 : decode cX7_digestExhibits 38 = .ok (.if_icmp .gt 25, 3) := by decide +kernel
theorem dX7_digestExhibits_41 : decode cX7_digestExhibits 41 = .ok (.lload_n 3, 1) := by decide +kernel
theorem dX7_digestExhibits_42 : decode cX7_digestExhibits 42 = .ok (.ldc2_w 379, 3) := by decide +kernel
theorem dX7_digestExhibits_45 : decode cX7_digestExhibits 45 = .ok (.lmul, 1) := by decide +kernel
theorem dX7_digestExhibits_46 : decode cX7_digestExhibits 46 = .ok (.aload_n 0, 1) := by decide +kernel
theorem dX7_digestExhibits_47 : decode cX7_digestExhibits 47 = .ok (.aload 6, 2) := by decide +kernel
theorem dX7_digestExhibits_49 : decode cX7_digestExhibits 49 = .ok (.iload 7, 2) := by decide +kernel
theorem dX7_digestExhibits_51 : decode cX7_digestExhibits 51 = .ok (.invokevirtual 294, 3) := by decide +kernel
theorem dX7_digestExhibits_54 : decode cX7_digestExhibits 54 = .ok (.i2l, 1) := by decide +kernel
theorem dX7_digestExhibits_55 : decode cX7_digestExhibits 55 = .ok (.ladd, 1) := by decide +kernel
theorem dX7_digestExhibits_56 : decode cX7_digestExhibits 56 = .ok (.lstore_n 3, 1) := by decide +kernel
theorem dX7_digestExhibits_57 : decode cX7_digestExhibits 57 = .ok (.iinc 7 1, 3) := by decide +kernel
theorem dX7_digestExhibits_60 : decode cX7_digestExhibits 60 = .ok (.goto (-26), 3) := by decide +kernel
theorem dX7_digestExhibits_63 : decode cX7_digestExhibits 63 = .ok (.iconst 0, 1) := by decide +kernel
theorem dX7_digestExhibits_64 : decode cX7_digestExhibits 64 = .ok (.istore 7, 2) := by decide +kernel
theorem dX7_digestExhibits_66 : decode cX7_digestExhibits 66 = .ok (.iload 7, 2) := by decide +kernel
theorem dX7_digestExhibits_68 : decode cX7_digestExhibits 68 = .ok (.aload 6, 2) := by decide +kernel
theorem dX7_digestExhibits_70 : decode cX7_digestExhibits 70 = .ok (.getfield 278, 3) := by decide +kernel
theorem dX7_digestExhibits_73 : decode cX7_digestExhibits 73 = .ok (.invokevirtual 80, 3) := by decide +kernel
theorem dX7_digestExhibits_76 : decode cX7_digestExhibits 76 = .ok (.if_icmp .ge 50, 3) := by decide +kernel
theorem dX7_digestExhibits_79 : decode cX7_digestExhibits 79 = .ok (.iconst 0, 1) := by decide +kernel
theorem dX7_digestExhibits_80 : decode cX7_digestExhibits 80 = .ok (.istore 8, 2) := by decide +kernel
theorem dX7_digestExhibits_82 : decode cX7_digestExhibits 82 = .ok (.iload 8, 2) := by decide +kernel
theorem dX7_digestExhibits_84 : decode cX7_digestExhibits 84 = .ok (.iconst 3, 1) := by decide +kernel
theorem dX7_digestExhibits_85 : decode cX7_digestExhibits 85 = .ok (.if_icmp .gt 35, 3) := by decide +kernel
theorem dX7_digestExhibits_88 : decode cX7_digestExhibits 88 = .ok (.lload_n 3, 1) := by decide +kernel
theorem dX7_digestExhibits_89 : decode cX7_digestExhibits 89 = .ok (.ldc2_w 379, 3) := by decide +kernel
theorem dX7_digestExhibits_92 : decode cX7_digestExhibits 92 = .ok (.lmul, 1) := by decide +kernel
theorem dX7_digestExhibits_93 : decode cX7_digestExhibits 93 = .ok (.aload 6, 2) := by decide +kernel
theorem dX7_digestExhibits_95 : decode cX7_digestExhibits 95 = .ok (.getfield 278, 3) := by decide +kernel
theorem dX7_digestExhibits_98 : decode cX7_digestExhibits 98 = .ok (.iload 7, 2) := by decide +kernel
theorem dX7_digestExhibits_100 : decode cX7_digestExhibits 100 = .ok (.invokevirtual 300, 3) := by decide +kernel
theorem dX7_digestExhibits_103 : decode cX7_digestExhibits 103 = .ok (.checkcast 269, 3) := by decide +kernel
theorem dX7_digestExhibits_106 : decode cX7_digestExhibits 106 = .ok (.iload 8, 2) := by decide +kernel
theorem dX7_digestExhibits_108 : decode cX7_digestExhibits 108 = .ok (.invokestatic 304, 3) := by decide +kernel
theorem dX7_digestExhibits_111 : decode cX7_digestExhibits 111 = .ok (.i2l, 1) := by decide +kernel
theorem dX7_digestExhibits_112 : decode cX7_digestExhibits 112 = .ok (.ladd, 1) := by decide +kernel
theorem dX7_digestExhibits_113 : decode cX7_digestExhibits 113 = .ok (.lstore_n 3, 1) := by decide +kernel
theorem dX7_digestExhibits_114 : decode cX7_digestExhibits 114 = .ok (.iinc 8 1, 3) := by decide +kernel
theorem dX7_digestExhibits_117 : decode cX7_digestExhibits 117 = .ok (.goto (-35), 3) := by decide +kernel
theorem dX7_digestExhibits_120 : decode cX7_digestExhibits 120 = .ok (.iinc 7 1, 3) := by decide +kernel
theorem dX7_digestExhibits_123 : decode cX7_digestExhibits 123 = .ok (.goto (-57), 3) := by decide +kernel
theorem dX7_digestExhibits_126 : decode cX7_digestExhibits 126 = .ok (.iinc 5 1, 3) := by decide +kernel
theorem dX7_digestExhibits_129 : decode cX7_digestExhibits 129 = .ok (.goto (-124), 3) := by decide +kernel
theorem dX7_digestExhibits_132 : decode cX7_digestExhibits 132 = .ok (.lload_n 3, 1) := by decide +kernel
theorem dX7_digestExhibits_133 : decode cX7_digestExhibits 133 = .ok (.lreturn, 1) := by decide +kernel
theorem dX7_digestLetters_0 : decode cX7_digestLetters 0 = .ok (.lload_n 1, 1) := by decide +kernel
theorem dX7_digestLetters_1 : decode cX7_digestLetters 1 = .ok (.lstore_n 3, 1) := by decide +kernel
theorem dX7_digestLetters_2 : decode cX7_digestLetters 2 = .ok (.iconst 0, 1) := by decide +kernel
theorem dX7_digestLetters_3 : decode cX7_digestLetters 3 = .ok (.istore 5, 2) := by decide +kernel
theorem dX7_digestLetters_5 : decode cX7_digestLetters 5 = .ok (.iload 5, 2) := by decide +kernel
theorem dX7_digestLetters_7 : decode cX7_digestLetters 7 = .ok (.aload_n 0, 1) := by decide +kernel
theorem dX7_digestLetters_8 : decode cX7_digestLetters 8 = .ok (.getfield 25, 3) := by decide +kernel
theorem dX7_digestLetters_11 : decode cX7_digestLetters 11 = .ok (.invokevirtual 80, 3) := by decide +kernel
theorem dX7_digestLetters_14 : decode cX7_digestLetters 14 = .ok (.if_icmp .ge 49, 3) := by decide +kernel
theorem dX7_digestLetters_17 : decode cX7_digestLetters 17 = .ok (.iconst 0, 1) := by decide +kernel
theorem dX7_digestLetters_18 : decode cX7_digestLetters 18 = .ok (.istore 6, 2) := by decide +kernel
theorem dX7_digestLetters_20 : decode cX7_digestLetters 20 = .ok (.iload 6, 2) := by decide +kernel
theorem dX7_digestLetters_22 : decode cX7_digestLetters 22 = .ok (.iconst 4, 1) := by decide +kernel
theorem dX7_digestLetters_23 : decode cX7_digestLetters 23 = .ok (.if_icmp .gt 34, 3) := by decide +kernel
theorem dX7_digestLetters_26 : decode cX7_digestLetters 26 = .ok (.lload_n 3, 1) := by decide +kernel
theorem dX7_digestLetters_27 : decode cX7_digestLetters 27 = .ok (.ldc2_w 379, 3) := by decide +kernel
theorem dX7_digestLetters_30 : decode cX7_digestLetters 30 = .ok (.lmul, 1) := by decide +kernel
theorem dX7_digestLetters_31 : decode cX7_digestLetters 31 = .ok (.aload_n 0, 1) := by decide +kernel
theorem dX7_digestLetters_32 : decode cX7_digestLetters 32 = .ok (.getfield 25, 3) := by decide +kernel
theorem dX7_digestLetters_35 : decode cX7_digestLetters 35 = .ok (.iload 5, 2) := by decide +kernel
theorem dX7_digestLetters_37 : decode cX7_digestLetters 37 = .ok (.invokevirtual 300, 3) := by decide +kernel
theorem dX7_digestLetters_40 : decode cX7_digestLetters 40 = .ok (.checkcast 312, 3) := by decide +kernel
theorem dX7_digestLetters_43 : decode cX7_digestLetters 43 = .ok (.iload 6, 2) := by decide +kernel
theorem dX7_digestLetters_45 : decode cX7_digestLetters 45 = .ok (.invokestatic 323, 3) := by decide +kernel
theorem dX7_digestLetters_48 : decode cX7_digestLetters 48 = .ok (.i2l, 1) := by decide +kernel
theorem dX7_digestLetters_49 : decode cX7_digestLetters 49 = .ok (.ladd, 1) := by decide +kernel
theorem dX7_digestLetters_50 : decode cX7_digestLetters 50 = .ok (.lstore_n 3, 1) := by decide +kernel
theorem dX7_digestLetters_51 : decode cX7_digestLetters 51 = .ok (.iinc 6 1, 3) := by decide +kernel
theorem dX7_digestLetters_54 : decode cX7_digestLetters 54 = .ok (.goto (-34), 3) := by decide +kernel
theorem dX7_digestLetters_57 : decode cX7_digestLetters 57 = .ok (.iinc 5 1, 3) := by decide +kernel
theorem dX7_digestLetters_60 : decode cX7_digestLetters 60 = .ok (.goto (-55), 3) := by decide +kernel
theorem dX7_digestLetters_63 : decode cX7_digestLetters 63 = .ok (.lload_n 3, 1) := by decide +kernel
theorem dX7_digestLetters_64 : decode cX7_digestLetters 64 = .ok (.lreturn, 1) := by decide +kernel
theorem dX8_init_0 : decode cX8_init 0 = .ok (.aload_n 0, 1) := by decide +kernel
theorem dX8_init_1 : decode cX8_init 1 = .ok (.aload_n 1, 1) := by decide +kernel
theorem dX8_init_2 : decode cX8_init 2 = .ok (.putfield 3, 3) := by decide +kernel
theorem dX8_init_5 : decode cX8_init 5 = .ok (.aload_n 0, 1) := by decide +kernel
theorem dX8_init_6 : decode cX8_init 6 = .ok (.invokespecial 9, 3) := by decide +kernel
theorem dX8_init_9 : decode cX8_init 9 = .ok (.aload_n 0, 1) := by decide +kernel
theorem dX8_init_10 : decode cX8_init 10 = .ok (.bipush 12, 2) := by decide +kernel
theorem dX8_init_12 : decode cX8_init 12 = .ok (.newarray .int, 2) := by decide +kernel
theorem dX8_init_14 : decode cX8_init 14 = .ok (.putfield 15, 3) := by decide +kernel
theorem dX8_init_17 : decode cX8_init 17 = .ok (.aload_n 0, 1) := by decide +kernel
theorem dX8_init_18 : decode cX8_init 18 = .ok (.bipush 12, 2) := by decide +kernel
theorem dX8_init_20 : decode cX8_init 20 = .ok (.newarray .int, 2) := by decide +kernel
theorem dX8_init_22 : decode cX8_init 22 = .ok (.putfield 19, 3) := by decide +kernel
theorem dX8_init_25 : decode cX8_init 25 = .ok (.aload_n 0, 1) := by decide +kernel
theorem dX8_init_26 : decode cX8_init 26 = .ok (.bipush 24, 2) := by decide +kernel
theorem dX8_init_28 : decode cX8_init 28 = .ok (.newarray .int, 2) := by decide +kernel
theorem dX8_init_30 : decode cX8_init 30 = .ok (.putfield 22, 3) := by decide +kernel
theorem dX8_init_33 : decode cX8_init 33 = .ok (.aload_n 0, 1) := by decide +kernel
theorem dX8_init_34 : decode cX8_init 34 = .ok (.bipush 24, 2) := by decide +kernel
theorem dX8_init_36 : decode cX8_init 36 = .ok (.newarray .int, 2) := by decide +kernel
theorem dX8_init_38 : decode cX8_init 38 = .ok (.putfield 25, 3) := by decide +kernel
theorem dX8_init_41 : decode cX8_init 41 = .ok (.aload_n 0, 1) := by decide +kernel
theorem dX8_init_42 : decode cX8_init 42 = .ok (.bipush 24, 2) := by decide +kernel
theorem dX8_init_44 : decode cX8_init 44 = .ok (.newarray .int, 2) := by decide +kernel
theorem dX8_init_46 : decode cX8_init 46 = .ok (.putfield 28, 3) := by decide +kernel
theorem dX8_init_49 : decode cX8_init 49 = .ok (.aload_n 0, 1) := by decide +kernel
theorem dX8_init_50 : decode cX8_init 50 = .ok (.bipush 40, 2) := by decide +kernel
theorem dX8_init_52 : decode cX8_init 52 = .ok (.newarray .int, 2) := by decide +kernel
theorem dX8_init_54 : decode cX8_init 54 = .ok (.putfield 31, 3) := by decide +kernel
theorem dX8_init_57 : decode cX8_init 57 = .ok (.aload_n 0, 1) := by decide +kernel
theorem dX8_init_58 : decode cX8_init 58 = .ok (.bipush 40, 2) := by decide +kernel
theorem dX8_init_60 : decode cX8_init 60 = .ok (.newarray .int, 2) := by decide +kernel
theorem dX8_init_62 : decode cX8_init 62 = .ok (.putfield 34, 3) := by decide +kernel
theorem dX8_init_65 : decode cX8_init 65 = .ok (.return_, 1) := by decide +kernel
theorem dX8_copy_0 : decode cX8_copy 0 = .ok (.aload_n 1, 1) := by decide +kernel
theorem dX8_copy_1 : decode cX8_copy 1 = .ok (.iconst 0, 1) := by decide +kernel
theorem dX8_copy_2 : decode cX8_copy 2 = .ok (.aload_n 2, 1) := by decide +kernel
theorem dX8_copy_3 : decode cX8_copy 3 = .ok (.iconst 0, 1) := by decide +kernel
theorem dX8_copy_4 : decode cX8_copy 4 = .ok (.aload_n 1, 1) := by decide +kernel
theorem dX8_copy_5 : decode cX8_copy 5 = .ok (.arraylength, 1) := by decide +kernel
theorem dX8_copy_6 : decode cX8_copy 6 = .ok (.invokestatic 37, 3) := by decide +kernel
theorem dX8_copy_9 : decode cX8_copy 9 = .ok (.return_, 1) := by decide +kernel
theorem dX8_become_0 : decode cX8_become 0 = .ok (.aload_n 0, 1) := by decide +kernel
theorem dX8_become_1 : decode cX8_become 1 = .ok (.aload_n 1, 1) := by decide +kernel
theorem dX8_become_2 : decode cX8_become 2 = .ok (.getfield 43, 3) := by decide +kernel
theorem dX8_become_5 : decode cX8_become 5 = .ok (.putfield 43, 3) := by decide +kernel
theorem dX8_become_8 : decode cX8_become 8 = .ok (.aload_n 0, 1) := by decide +kernel
theorem dX8_become_9 : decode cX8_become 9 = .ok (.aload_n 1, 1) := by decide +kernel
theorem dX8_become_10 : decode cX8_become 10 = .ok (.getfield 15, 3) := by decide +kernel
theorem dX8_become_13 : decode cX8_become 13 = .ok (.aload_n 0, 1) := by decide +kernel
theorem dX8_become_14 : decode cX8_become 14 = .ok (.getfield 15, 3) := by decide +kernel
theorem dX8_become_17 : decode cX8_become 17 = .ok (.invokevirtual 47, 3) := by decide +kernel
theorem dX8_become_20 : decode cX8_become 20 = .ok (.aload_n 0, 1) := by decide +kernel
theorem dX8_become_21 : decode cX8_become 21 = .ok (.aload_n 1, 1) := by decide +kernel
theorem dX8_become_22 : decode cX8_become 22 = .ok (.getfield 19, 3) := by decide +kernel
theorem dX8_become_25 : decode cX8_become 25 = .ok (.aload_n 0, 1) := by decide +kernel
theorem dX8_become_26 : decode cX8_become 26 = .ok (.getfield 19, 3) := by decide +kernel
theorem dX8_become_29 : decode cX8_become 29 = .ok (.invokevirtual 47, 3) := by decide +kernel
theorem dX8_become_32 : decode cX8_become 32 = .ok (.aload_n 0, 1) := by decide +kernel
theorem dX8_become_33 : decode cX8_become 33 = .ok (.aload_n 1, 1) := by decide +kernel
theorem dX8_become_34 : decode cX8_become 34 = .ok (.getfield 22, 3) := by decide +kernel
theorem dX8_become_37 : decode cX8_become 37 = .ok (.aload_n 0, 1) := by decide +kernel
theorem dX8_become_38 : decode cX8_become 38 = .ok (.getfield 22, 3) := by decide +kernel
theorem dX8_become_41 : decode cX8_become 41 = .ok (.invokevirtual 47, 3) := by decide +kernel
theorem dX8_become_44 : decode cX8_become 44 = .ok (.aload_n 0, 1) := by decide +kernel
theorem dX8_become_45 : decode cX8_become 45 = .ok (.aload_n 1, 1) := by decide +kernel
theorem dX8_become_46 : decode cX8_become 46 = .ok (.getfield 25, 3) := by decide +kernel
theorem dX8_become_49 : decode cX8_become 49 = .ok (.aload_n 0, 1) := by decide +kernel
theorem dX8_become_50 : decode cX8_become 50 = .ok (.getfield 25, 3) := by decide +kernel
theorem dX8_become_53 : decode cX8_become 53 = .ok (.invokevirtual 47, 3) := by decide +kernel
theorem dX8_become_56 : decode cX8_become 56 = .ok (.aload_n 0, 1) := by decide +kernel
theorem dX8_become_57 : decode cX8_become 57 = .ok (.aload_n 1, 1) := by decide +kernel
theorem dX8_become_58 : decode cX8_become 58 = .ok (.getfield 28, 3) := by decide +kernel
theorem dX8_become_61 : decode cX8_become 61 = .ok (.aload_n 0, 1) := by decide +kernel
theorem dX8_become_62 : decode cX8_become 62 = .ok (.getfield 28, 3) := by decide +kernel
theorem dX8_become_65 : decode cX8_become 65 = .ok (.invokevirtual 47, 3) := by decide +kernel
theorem dX8_become_68 : decode cX8_become 68 = .ok (.aload_n 0, 1) := by decide +kernel
theorem dX8_become_69 : decode cX8_become 69 = .ok (.aload_n 1, 1) := by decide +kernel
theorem dX8_become_70 : decode cX8_become 70 = .ok (.getfield 31, 3) := by decide +kernel
theorem dX8_become_73 : decode cX8_become 73 = .ok (.aload_n 0, 1) := by decide +kernel
theorem dX8_become_74 : decode cX8_become 74 = .ok (.getfield 31, 3) := by decide +kernel
theorem dX8_become_77 : decode cX8_become 77 = .ok (.invokevirtual 47, 3) := by decide +kernel
theorem dX8_become_80 : decode cX8_become 80 = .ok (.aload_n 0, 1) := by decide +kernel
theorem dX8_become_81 : decode cX8_become 81 = .ok (.aload_n 1, 1) := by decide +kernel
theorem dX8_become_82 : decode cX8_become 82 = .ok (.getfield 34, 3) := by decide +kernel
theorem dX8_become_85 : decode cX8_become 85 = .ok (.aload_n 0, 1) := by decide +kernel
theorem dX8_become_86 : decode cX8_become 86 = .ok (.getfield 34, 3) := by decide +kernel
theorem dX8_become_89 : decode cX8_become 89 = .ok (.invokevirtual 47, 3) := by decide +kernel
theorem dX8_become_92 : decode cX8_become 92 = .ok (.return_, 1) := by decide +kernel
theorem dX8_reach_0 : decode cX8_reach 0 = .ok (.aload_n 0, 1) := by decide +kernel
theorem dX8_reach_1 : decode cX8_reach 1 = .ok (.getfield 3, 3) := by decide +kernel
theorem dX8_reach_4 : decode cX8_reach 4 = .ok (.getfield 51, 3) := by decide +kernel
theorem dX8_reach_7 : decode cX8_reach 7 = .ok (.iload_n 1, 1) := by decide +kernel
theorem dX8_reach_8 : decode cX8_reach 8 = .ok (.iaload, 1) := by decide +kernel
theorem dX8_reach_9 : decode cX8_reach 9 = .ok (.iconst 1, 1) := by decide +kernel
theorem dX8_reach_10 : decode cX8_reach 10 = .ok (.if_icmp .ne 6, 3) := by decide +kernel
theorem dX8_reach_13 : decode cX8_reach 13 = .ok (.bipush 9, 2) := by decide +kernel
theorem dX8_reach_15 : decode cX8_reach 15 = .ok (.ireturn, 1) := by decide +kernel
theorem dX8_reach_16 : decode cX8_reach 16 = .ok (.bipush 9, 2) := by decide +kernel
theorem dX8_reach_18 : decode cX8_reach 18 = .ok (.aload_n 0, 1) := by decide +kernel
theorem dX8_reach_19 : decode cX8_reach 19 = .ok (.getfield 15, 3) := by decide +kernel
theorem dX8_reach_22 : decode cX8_reach 22 = .ok (.iload_n 1, 1) := by decide +kernel
theorem dX8_reach_23 : decode cX8_reach 23 = .ok (.iaload, 1) := by decide +kernel
theorem dX8_reach_24 : decode cX8_reach 24 = .ok (.aload_n 0, 1) := by decide +kernel
theorem dX8_reach_25 : decode cX8_reach 25 = .ok (.getfield 3, 3) := by decide +kernel
theorem dX8_reach_28 : decode cX8_reach 28 = .ok (.getfield 54, 3) := by decide +kernel
theorem dX8_reach_31 : decode cX8_reach 31 = .ok (.iload_n 1, 1) := by decide +kernel
theorem dX8_reach_32 : decode cX8_reach 32 = .ok (.iaload, 1) := by decide +kernel
theorem dX8_reach_33 : decode cX8_reach 33 = .ok (.iload_n 2, 1) := by decide +kernel
theorem dX8_reach_34 : decode cX8_reach 34 = .ok (.ishr, 1) := by decide +kernel
theorem dX8_reach_35 : decode cX8_reach 35 = .ok (.iconst 1, 1) := by decide +kernel
theorem dX8_reach_36 : decode cX8_reach 36 = .ok (.iand, 1) := by decide +kernel
theorem dX8_reach_37 : decode cX8_reach 37 = .ok (.iconst 1, 1) := by decide +kernel
theorem dX8_reach_38 : decode cX8_reach 38 = .ok (.if_icmp .ne 7, 3) := by decide +kernel
theorem dX8_reach_41 : decode cX8_reach 41 = .ok (.iconst 2, 1) := by decide +kernel
theorem dX8_reach_42 : decode cX8_reach 42 = .ok (.goto 4, 3) := by decide +kernel
theorem dX8_reach_45 : decode cX8_reach 45 = .ok (.iconst 0, 1) := by decide +kernel
theorem dX8_reach_46 : decode cX8_reach 46 = .ok (.iadd, 1) := by decide +kernel
theorem dX8_reach_47 : decode cX8_reach 47 = .ok (.invokestatic 57, 3) := by decide +kernel
theorem dX8_reach_50 : decode cX8_reach 50 = .ok (.ireturn, 1) := by decide +kernel
theorem dX8_isIn_0 : decode cX8_isIn 0 = .ok (.aload_n 0, 1) := by decide +kernel
theorem dX8_isIn_1 : decode cX8_isIn 1 = .ok (.getfield 3, 3) := by decide +kernel
theorem dX8_isIn_4 : decode cX8_isIn 4 = .ok (.getfield 63, 3) := by decide +kernel
theorem dX8_isIn_7 : decode cX8_isIn 7 = .ok (.iload_n 2, 1) := by decide +kernel
theorem dX8_isIn_8 : decode cX8_isIn 8 = .ok (.iaload, 1) := by decide +kernel
theorem dX8_isIn_9 : decode cX8_isIn 9 = .ok (.aload_n 0, 1) := by decide +kernel
theorem dX8_isIn_10 : decode cX8_isIn 10 = .ok (.iload_n 1, 1) := by decide +kernel
theorem dX8_isIn_11 : decode cX8_isIn 11 = .ok (.iload_n 2, 1) := by decide +kernel
theorem dX8_isIn_12 : decode cX8_isIn 12 = .ok (.invokevirtual 66, 3) := by decide +kernel
theorem dX8_isIn_15 : decode cX8_isIn 15 = .ok (.if_icmp .gt 7, 3) := by decide +kernel
theorem dX8_isIn_18 : decode cX8_isIn 18 = .ok (.iconst 1, 1) := by decide +kernel
theorem dX8_isIn_19 : decode cX8_isIn 19 = .ok (.goto 4, 3) := by decide +kernel
theorem dX8_isIn_22 : decode cX8_isIn 22 = .ok (.iconst 0, 1) := by decide +kernel
theorem dX8_isIn_23 : decode cX8_isIn 23 = .ok (.ireturn, 1) := by decide +kernel
theorem dX8_next_0 : decode cX8_next 0 = .ok (.iconst (-1), 1) := by decide +kernel
theorem dX8_next_1 : decode cX8_next 1 = .ok (.istore_n 1, 1) := by decide +kernel
theorem dX8_next_2 : decode cX8_next 2 = .ok (.iconst 0, 1) := by decide +kernel
theorem dX8_next_3 : decode cX8_next 3 = .ok (.istore_n 2, 1) := by decide +kernel
theorem dX8_next_4 : decode cX8_next 4 = .ok (.iload_n 2, 1) := by decide +kernel
theorem dX8_next_5 : decode cX8_next 5 = .ok (.aload_n 0, 1) := by decide +kernel
theorem dX8_next_6 : decode cX8_next 6 = .ok (.getfield 3, 3) := by decide +kernel
theorem dX8_next_9 : decode cX8_next 9 = .ok (.getfield 69, 3) := by decide +kernel
theorem dX8_next_12 : decode cX8_next 12 = .ok (.if_icmp .ge 46, 3) := by decide +kernel
theorem dX8_next_15 : decode cX8_next 15 = .ok (.aload_n 0, 1) := by decide +kernel
theorem dX8_next_16 : decode cX8_next 16 = .ok (.getfield 31, 3) := by decide +kernel
theorem dX8_next_19 : decode cX8_next 19 = .ok (.iload_n 2, 1) := by decide +kernel
theorem dX8_next_20 : decode cX8_next 20 = .ok (.iaload, 1) := by decide +kernel
theorem dX8_next_21 : decode cX8_next 21 = .ok (.ifCond .ne 31, 3) := by decide +kernel
theorem dX8_next_24 : decode cX8_next 24 = .ok (.iload_n 1, 1) := by decide +kernel
theorem dX8_next_25 : decode cX8_next 25 = .ok (.iconst (-1), 1) := by decide +kernel
theorem dX8_next_26 : decode cX8_next 26 = .ok (.if_icmp .eq 24, 3) := by decide +kernel
theorem dX8_next_29 : decode cX8_next 29 = .ok (.aload_n 0, 1) := by decide +kernel
theorem dX8_next_30 : decode cX8_next 30 = .ok (.getfield 3, 3) := by decide +kernel
theorem dX8_next_33 : decode cX8_next 33 = .ok (.getfield 72, 3) := by decide +kernel
theorem dX8_next_36 : decode cX8_next 36 = .ok (.iload_n 2, 1) := by decide +kernel
theorem dX8_next_37 : decode cX8_next 37 = .ok (.iaload, 1) := by decide +kernel
theorem dX8_next_38 : decode cX8_next 38 = .ok (.aload_n 0, 1) := by decide +kernel
theorem dX8_next_39 : decode cX8_next 39 = .ok (.getfield 3, 3) := by decide +kernel
theorem dX8_next_42 : decode cX8_next 42 = .ok (.getfield 72, 3) := by decide +kernel
theorem dX8_next_45 : decode cX8_next 45 = .ok (.iload_n 1, 1) := by decide +kernel
theorem dX8_next_46 : decode cX8_next 46 = .ok (.iaload, 1) := by decide +kernel
theorem dX8_next_47 : decode cX8_next 47 = .ok (.if_icmp .ge 5, 3) := by decide +kernel
theorem dX8_next_50 : decode cX8_next 50 = .ok (.iload_n 2, 1) := by decide +kernel
theorem dX8_next_51 : decode cX8_next 51 = .ok (.istore_n 1, 1) := by decide +kernel
theorem dX8_next_52 : decode cX8_next 52 = .ok (.iinc 2 1, 3) := by decide +kernel
theorem dX8_next_55 : decode cX8_next 55 = .ok (.goto (-51), 3) := by decide +kernel
theorem dX8_next_58 : decode cX8_next 58 = .ok (.iload_n 1, 1) := by decide +kernel
theorem dX8_next_59 : decode cX8_next 59 = .ok (.ireturn, 1) := by decide +kernel
theorem dX8_pass_0 : decode cX8_pass 0 = .ok (.iconst 0, 1) := by decide +kernel
theorem dX8_pass_1 : decode cX8_pass 1 = .ok (.istore_n 1, 1) := by decide +kernel
theorem dX8_pass_2 : decode cX8_pass 2 = .ok (.iconst 3, 1) := by decide +kernel
theorem dX8_pass_3 : decode cX8_pass 3 = .ok (.aload_n 0, 1) := by decide +kernel
theorem dX8_pass_4 : decode cX8_pass 4 = .ok (.getfield 3, 3) := by decide +kernel
theorem dX8_pass_7 : decode cX8_pass 7 = .ok (.invokevirtual 75, 3) := by decide +kernel
theorem dX8_pass_10 : decode cX8_pass 10 = .ok (.imul, 1) := by decide +kernel
theorem dX8_pass_11 : decode cX8_pass 11 = .ok (.istore_n 2, 1) := by decide +kernel
theorem dX8_pass_12 : decode cX8_pass 12 = .ok (.iload_n 2, 1) := by decide +kernel
theorem dX8_pass_13 : decode cX8_pass 13 = .ok (.ifCond .le 116, 3) := by decide +kernel
theorem dX8_pass_16 : decode cX8_pass 16 = .ok (.aload_n 0, 1) := by decide +kernel
theorem dX8_pass_17 : decode cX8_pass 17 = .ok (.invokevirtual 79, 3) := by decide +kernel
theorem dX8_pass_20 : decode cX8_pass 20 = .ok (.istore_n 3, 1) := by decide +kernel
theorem dX8_pass_21 : decode cX8_pass 21 = .ok (.iload_n 3, 1) := by decide +kernel
theorem dX8_pass_22 : decode cX8_pass 22 = .ok (.iconst (-1), 1) := by decide +kernel
theorem dX8_pass_23 : decode cX8_pass 23 = .ok (.if_icmp .ne 6, 3) := by decide +kernel
theorem dX8_pass_26 : decode cX8_pass 26 = .ok (.goto 103, 3) := by decide +kernel
theorem dX8_pass_29 : decode cX8_pass 29 = .ok (.aload_n 0, 1) := by decide +kernel
theorem dX8_pass_30 : decode cX8_pass 30 = .ok (.aload_n 0, 1) := by decide +kernel
theorem dX8_pass_31 : decode cX8_pass 31 = .ok (.getfield 3, 3) := by decide +kernel
theorem dX8_pass_34 : decode cX8_pass 34 = .ok (.getfield 82, 3) := by decide +kernel
theorem dX8_pass_37 : decode cX8_pass 37 = .ok (.iload_n 3, 1) := by decide +kernel
theorem dX8_pass_38 : decode cX8_pass 38 = .ok (.iaload, 1) := by decide +kernel
theorem dX8_pass_39 : decode cX8_pass 39 = .ok (.aload_n 0, 1) := by decide +kernel
theorem dX8_pass_40 : decode cX8_pass 40 = .ok (.getfield 3, 3) := by decide +kernel
theorem dX8_pass_43 : decode cX8_pass 43 = .ok (.getfield 85, 3) := by decide +kernel
theorem dX8_pass_46 : decode cX8_pass 46 = .ok (.aload_n 0, 1) := by decide +kernel
theorem dX8_pass_47 : decode cX8_pass 47 = .ok (.getfield 3, 3) := by decide +kernel
theorem dX8_pass_50 : decode cX8_pass 50 = .ok (.getfield 88, 3) := by decide +kernel
theorem dX8_pass_53 : decode cX8_pass 53 = .ok (.iload_n 3, 1) := by decide +kernel
theorem dX8_pass_54 : decode cX8_pass 54 = .ok (.iaload, 1) := by decide +kernel
theorem dX8_pass_55 : decode cX8_pass 55 = .ok (.iaload, 1) := by decide +kernel
theorem dX8_pass_56 : decode cX8_pass 56 = .ok (.invokevirtual 91, 3) := by decide +kernel
theorem dX8_pass_59 : decode cX8_pass 59 = .ok (.istore 4, 2) := by decide +kernel
theorem dX8_pass_61 : decode cX8_pass 61 = .ok (.aload_n 0, 1) := by decide +kernel
theorem dX8_pass_62 : decode cX8_pass 62 = .ok (.getfield 31, 3) := by decide +kernel
theorem dX8_pass_65 : decode cX8_pass 65 = .ok (.iload_n 3, 1) := by decide +kernel
theorem dX8_pass_66 : decode cX8_pass 66 = .ok (.iload 4, 2) := by decide +kernel
theorem dX8_pass_68 : decode cX8_pass 68 = .ok (.ifCond .eq 7, 3) := by decide +kernel
theorem dX8_pass_71 : decode cX8_pass 71 = .ok (.iconst 1, 1) := by decide +kernel
theorem dX8_pass_72 : decode cX8_pass 72 = .ok (.goto 4, 3) := by decide +kernel
theorem dX8_pass_75 : decode cX8_pass 75 = .ok (.iconst 2, 1) := by decide +kernel
theorem dX8_pass_76 : decode cX8_pass 76 = .ok (.iastore, 1) := by decide +kernel
theorem dX8_pass_77 : decode cX8_pass 77 = .ok (.aload_n 0, 1) := by decide +kernel
theorem dX8_pass_78 : decode cX8_pass 78 = .ok (.getfield 34, 3) := by decide +kernel
theorem dX8_pass_81 : decode cX8_pass 81 = .ok (.iload_n 3, 1) := by decide +kernel
theorem dX8_pass_82 : decode cX8_pass 82 = .ok (.aload_n 0, 1) := by decide +kernel
theorem dX8_pass_83 : decode cX8_pass 83 = .ok (.getfield 43, 3) := by decide +kernel
theorem dX8_pass_86 : decode cX8_pass 86 = .ok (.iastore, 1) := by decide +kernel
theorem dX8_pass_87 : decode cX8_pass 87 = .ok (.iload 4, 2) := by decide +kernel
theorem dX8_pass_89 : decode cX8_pass 89 = .ok (.ifCond .eq 34, 3) := by decide +kernel
theorem dX8_pass_92 : decode cX8_pass 92 = .ok (.aload_n 0, 1) := by decide +kernel
theorem dX8_pass_93 : decode cX8_pass 93 = .ok (.getfield 28, 3) := by decide +kernel
theorem dX8_pass_96 : decode cX8_pass 96 = .ok (.aload_n 0, 1) := by decide +kernel
theorem dX8_pass_97 : decode cX8_pass 97 = .ok (.getfield 3, 3) := by decide +kernel
theorem dX8_pass_100 : decode cX8_pass 100 = .ok (.getfield 88, 3) := by decide +kernel
theorem dX8_pass_103 : decode cX8_pass 103 = .ok (.iload_n 3, 1) := by decide +kernel
theorem dX8_pass_104 : decode cX8_pass 104 = .ok (.iaload, 1) := by decide +kernel
theorem dX8_pass_105 : decode cX8_pass 105 = .ok (.dup2, 1) := by decide +kernel
theorem dX8_pass_106 : decode cX8_pass 106 = .ok (.iaload, 1) := by decide +kernel
theorem dX8_pass_107 : decode cX8_pass 107 = .ok (.iconst 1, 1) := by decide +kernel
theorem dX8_pass_108 : decode cX8_pass 108 = .ok (.aload_n 0, 1) := by decide +kernel
theorem dX8_pass_109 : decode cX8_pass 109 = .ok (.getfield 3, 3) := by decide +kernel
theorem dX8_pass_112 : decode cX8_pass 112 = .ok (.getfield 82, 3) := by decide +kernel
theorem dX8_pass_115 : decode cX8_pass 115 = .ok (.iload_n 3, 1) := by decide +kernel
theorem dX8_pass_116 : decode cX8_pass 116 = .ok (.iaload, 1) := by decide +kernel
theorem dX8_pass_117 : decode cX8_pass 117 = .ok (.ishl, 1) := by decide +kernel
theorem dX8_pass_118 : decode cX8_pass 118 = .ok (.ior, 1) := by decide +kernel
theorem dX8_pass_119 : decode cX8_pass 119 = .ok (.iastore, 1) := by decide +kernel
theorem dX8_pass_120 : decode cX8_pass 120 = .ok (.iinc 1 1, 3) := by decide +kernel
theorem dX8_pass_123 : decode cX8_pass 123 = .ok (.iinc 2 (-1), 3) := by decide +kernel
theorem dX8_pass_126 : decode cX8_pass 126 = .ok (.goto (-114), 3) := by decide +kernel
theorem dX8_pass_129 : decode cX8_pass 129 = .ok (.aload_n 0, 1) := by decide +kernel
theorem dX8_pass_130 : decode cX8_pass 130 = .ok (.dup, 1) := by decide +kernel
theorem dX8_pass_131 : decode cX8_pass 131 = .ok (.getfield 43, 3) := by decide +kernel
theorem dX8_pass_134 : decode cX8_pass 134 = .ok (.iconst 1, 1) := by decide +kernel
theorem dX8_pass_135 : decode cX8_pass 135 = .ok (.iadd, 1) := by decide +kernel
theorem dX8_pass_136 : decode cX8_pass 136 = .ok (.putfield 43, 3) := by decide +kernel
theorem dX8_pass_139 : decode cX8_pass 139 = .ok (.iconst 0, 1) := by decide +kernel
theorem dX8_pass_140 : decode cX8_pass 140 = .ok (.istore_n 2, 1) := by decide +kernel
theorem dX8_pass_141 : decode cX8_pass 141 = .ok (.iload_n 2, 1) := by decide +kernel
theorem dX8_pass_142 : decode cX8_pass 142 = .ok (.aload_n 0, 1) := by decide +kernel
theorem dX8_pass_143 : decode cX8_pass 143 = .ok (.getfield 3, 3) := by decide +kernel
theorem dX8_pass_146 : decode cX8_pass 146 = .ok (.getfield 95, 3) := by decide +kernel
theorem dX8_pass_149 : decode cX8_pass 149 = .ok (.if_icmp .ge 99, 3) := by decide +kernel
theorem dX8_pass_152 : decode cX8_pass 152 = .ok (.aload_n 0, 1) := by decide +kernel
theorem dX8_pass_153 : decode cX8_pass 153 = .ok (.getfield 22, 3) := by decide +kernel
theorem dX8_pass_156 : decode cX8_pass 156 = .ok (.iload_n 2, 1) := by decide +kernel
theorem dX8_pass_157 : decode cX8_pass 157 = .ok (.iaload, 1) := by decide +kernel
theorem dX8_pass_158 : decode cX8_pass 158 = .ok (.istore_n 3, 1) := by decide +kernel
theorem dX8_pass_159 : decode cX8_pass 159 = .ok (.iload_n 3, 1) := by decide +kernel
theorem dX8_pass_160 : decode cX8_pass 160 = .ok (.iconst (-1), 1) := by decide +kernel
theorem dX8_pass_161 : decode cX8_pass 161 = .ok (.if_icmp .eq 81, 3) := by decide +kernel
theorem dX8_pass_164 : decode cX8_pass 164 = .ok (.aload_n 0, 1) := by decide +kernel
theorem dX8_pass_165 : decode cX8_pass 165 = .ok (.getfield 25, 3) := by decide +kernel
theorem dX8_pass_168 : decode cX8_pass 168 = .ok (.iload_n 2, 1) := by decide +kernel
theorem dX8_pass_169 : decode cX8_pass 169 = .ok (.iaload, 1) := by decide +kernel
theorem dX8_pass_170 : decode cX8_pass 170 = .ok (.aload_n 0, 1) := by decide +kernel
theorem dX8_pass_171 : decode cX8_pass 171 = .ok (.getfield 43, 3) := by decide +kernel
theorem dX8_pass_174 : decode cX8_pass 174 = .ok (.if_icmp .lt 6, 3) := by decide +kernel
theorem dX8_pass_177 : decode cX8_pass 177 = .ok (.goto 65, 3) := by decide +kernel
theorem dX8_pass_180 : decode cX8_pass 180 = .ok (.aload_n 0, 1) := by decide +kernel
theorem dX8_pass_181 : decode cX8_pass 181 = .ok (.getfield 22, 3) := by decide +kernel
theorem dX8_pass_184 : decode cX8_pass 184 = .ok (.iload_n 2, 1) := by decide +kernel
theorem dX8_pass_185 : decode cX8_pass 185 = .ok (.iconst (-1), 1) := by decide +kernel
theorem dX8_pass_186 : decode cX8_pass 186 = .ok (.iastore, 1) := by decide +kernel
theorem dX8_pass_187 : decode cX8_pass 187 = .ok (.aload_n 0, 1) := by decide +kernel
theorem dX8_pass_188 : decode cX8_pass 188 = .ok (.getfield 25, 3) := by decide +kernel
theorem dX8_pass_191 : decode cX8_pass 191 = .ok (.iload_n 2, 1) := by decide +kernel
theorem dX8_pass_192 : decode cX8_pass 192 = .ok (.iconst (-1), 1) := by decide +kernel
theorem dX8_pass_193 : decode cX8_pass 193 = .ok (.iastore, 1) := by decide +kernel
theorem dX8_pass_194 : decode cX8_pass 194 = .ok (.aload_n 0, 1) := by decide +kernel
theorem dX8_pass_195 : decode cX8_pass 195 = .ok (.getfield 19, 3) := by decide +kernel
theorem dX8_pass_198 : decode cX8_pass 198 = .ok (.iload_n 3, 1) := by decide +kernel
theorem dX8_pass_199 : decode cX8_pass 199 = .ok (.dup2, 1) := by decide +kernel
theorem dX8_pass_200 : decode cX8_pass 200 = .ok (.iaload, 1) := by decide +kernel
theorem dX8_pass_201 : decode cX8_pass 201 = .ok (.iconst 1, 1) := by decide +kernel
theorem dX8_pass_202 : decode cX8_pass 202 = .ok (.iadd, 1) := by decide +kernel
theorem dX8_pass_203 : decode cX8_pass 203 = .ok (.iastore, 1) := by decide +kernel
theorem dX8_pass_204 : decode cX8_pass 204 = .ok (.aload_n 0, 1) := by decide +kernel
theorem dX8_pass_205 : decode cX8_pass 205 = .ok (.getfield 19, 3) := by decide +kernel
theorem dX8_pass_208 : decode cX8_pass 208 = .ok (.iload_n 3, 1) := by decide +kernel
theorem dX8_pass_209 : decode cX8_pass 209 = .ok (.iaload, 1) := by decide +kernel
theorem dX8_pass_210 : decode cX8_pass 210 = .ok (.iconst 3, 1) := by decide +kernel
theorem dX8_pass_211 : decode cX8_pass 211 = .ok (.if_icmp .ge 6, 3) := by decide +kernel
theorem dX8_pass_214 : decode cX8_pass 214 = .ok (.goto 28, 3) := by decide +kernel
theorem dX8_pass_217 : decode cX8_pass 217 = .ok (.aload_n 0, 1) := by decide +kernel
theorem dX8_pass_218 : decode cX8_pass 218 = .ok (.getfield 19, 3) := by decide +kernel
theorem dX8_pass_221 : decode cX8_pass 221 = .ok (.iload_n 3, 1) := by decide +kernel
theorem dX8_pass_222 : decode cX8_pass 222 = .ok (.iconst 0, 1) := by decide +kernel
theorem dX8_pass_223 : decode cX8_pass 223 = .ok (.iastore, 1) := by decide +kernel
theorem dX8_pass_224 : decode cX8_pass 224 = .ok (.aload_n 0, 1) := by decide +kernel
theorem dX8_pass_225 : decode cX8_pass 225 = .ok (.getfield 15, 3) := by decide +kernel
theorem dX8_pass_228 : decode cX8_pass 228 = .ok (.iload_n 3, 1) := by decide +kernel
theorem dX8_pass_229 : decode cX8_pass 229 = .ok (.iconst 0, 1) := by decide +kernel
theorem dX8_pass_230 : decode cX8_pass 230 = .ok (.aload_n 0, 1) := by decide +kernel
theorem dX8_pass_231 : decode cX8_pass 231 = .ok (.getfield 15, 3) := by decide +kernel
theorem dX8_pass_234 : decode cX8_pass 234 = .ok (.iload_n 3, 1) := by decide +kernel
theorem dX8_pass_235 : decode cX8_pass 235 = .ok (.iaload, 1) := by decide +kernel
theorem dX8_pass_236 : decode cX8_pass 236 = .ok (.iconst 1, 1) := by decide +kernel
theorem dX8_pass_237 : decode cX8_pass 237 = .ok (.isub, 1) := by decide +kernel
theorem dX8_pass_238 : decode cX8_pass 238 = .ok (.invokestatic 98, 3) := by decide +kernel
theorem dX8_pass_241 : decode cX8_pass 241 = .ok (.iastore, 1) := by decide +kernel
theorem dX8_pass_242 : decode cX8_pass 242 = .ok (.iinc 2 1, 3) := by decide +kernel
theorem dX8_pass_245 : decode cX8_pass 245 = .ok (.goto (-104), 3) := by decide +kernel
theorem dX8_pass_248 : decode cX8_pass 248 = .ok (.iload_n 1, 1) := by decide +kernel
theorem dX8_pass_249 : decode cX8_pass 249 = .ok (.ireturn, 1) := by decide +kernel
theorem dX9_init_0 : decode cX9_init 0 = .ok (.aload_n 0, 1) := by decide +kernel
theorem dX9_init_1 : decode cX9_init 1 = .ok (.invokespecial 1, 3) := by decide +kernel
theorem dX9_init_4 : decode cX9_init 4 = .ok (.aload_n 0, 1) := by decide +kernel
theorem dX9_init_5 : decode cX9_init 5 = .ok (.sipush 1000, 3) := by decide +kernel
theorem dX9_init_8 : decode cX9_init 8 = .ok (.newarray .int, 2) := by decide +kernel
theorem dX9_init_10 : decode cX9_init 10 = .ok (.putfield 9, 3) := by decide +kernel
theorem dX9_init_13 : decode cX9_init 13 = .ok (.aload_n 0, 1) := by decide +kernel
theorem dX9_init_14 : decode cX9_init 14 = .ok (.iconst (-1), 1) := by decide +kernel
theorem dX9_init_15 : decode cX9_init 15 = .ok (.putfield 13, 3) := by decide +kernel
theorem dX9_init_18 : decode cX9_init 18 = .ok (.aload_n 0, 1) := by decide +kernel
theorem dX9_init_19 : decode cX9_init 19 = .ok (.sipush 2500, 3) := by decide +kernel
theorem dX9_init_22 : decode cX9_init 22 = .ok (.newarray .int, 2) := by decide +kernel
theorem dX9_init_24 : decode cX9_init 24 = .ok (.putfield 17, 3) := by decide +kernel
theorem dX9_init_27 : decode cX9_init 27 = .ok (.aload_n 0, 1) := by decide +kernel
theorem dX9_init_28 : decode cX9_init 28 = .ok (.bipush 8, 2) := by decide +kernel
theorem dX9_init_30 : decode cX9_init 30 = .ok (.newarray .int, 2) := by decide +kernel
theorem dX9_init_32 : decode cX9_init 32 = .ok (.putfield 20, 3) := by decide +kernel
theorem dX9_init_35 : decode cX9_init 35 = .ok (.aload_n 0, 1) := by decide +kernel
theorem dX9_init_36 : decode cX9_init 36 = .ok (.bipush 12, 2) := by decide +kernel
theorem dX9_init_38 : decode cX9_init 38 = .ok (.newarray .int, 2) := by decide +kernel
theorem dX9_init_40 : decode cX9_init 40 = .ok (.putfield 23, 3) := by decide +kernel
theorem dX9_init_43 : decode cX9_init 43 = .ok (.aload_n 0, 1) := by decide +kernel
theorem dX9_init_44 : decode cX9_init 44 = .ok (.bipush 12, 2) := by decide +kernel
theorem dX9_init_46 : decode cX9_init 46 = .ok (.newarray .int, 2) := by decide +kernel
theorem dX9_init_48 : decode cX9_init 48 = .ok (.putfield 26, 3) := by decide +kernel
theorem dX9_init_51 : decode cX9_init 51 = .ok (.aload_n 0, 1) := by decide +kernel
theorem dX9_init_52 : decode cX9_init 52 = .ok (.bipush 24, 2) := by decide +kernel
theorem dX9_init_54 : decode cX9_init 54 = .ok (.newarray .int, 2) := by decide +kernel
theorem dX9_init_56 : decode cX9_init 56 = .ok (.putfield 29, 3) := by decide +kernel
theorem dX9_init_59 : decode cX9_init 59 = .ok (.aload_n 0, 1) := by decide +kernel
theorem dX9_init_60 : decode cX9_init 60 = .ok (.bipush 24, 2) := by decide +kernel
theorem dX9_init_62 : decode cX9_init 62 = .ok (.anewarray 32, 3) := by decide +kernel
theorem dX9_init_65 : decode cX9_init 65 = .ok (.putfield 33, 3) := by decide +kernel
theorem dX9_init_68 : decode cX9_init 68 = .ok (.aload_n 0, 1) := by decide +kernel
theorem dX9_init_69 : decode cX9_init 69 = .ok (.bipush 24, 2) := by decide +kernel
theorem dX9_init_71 : decode cX9_init 71 = .ok (.anewarray 32, 3) := by decide +kernel
theorem dX9_init_74 : decode cX9_init 74 = .ok (.putfield 37, 3) := by decide +kernel
theorem dX9_init_77 : decode cX9_init 77 = .ok (.aload_n 0, 1) := by decide +kernel
theorem dX9_init_78 : decode cX9_init 78 = .ok (.bipush 24, 2) := by decide +kernel
theorem dX9_init_80 : decode cX9_init 80 = .ok (.anewarray 32, 3) := by decide +kernel
theorem dX9_init_83 : decode cX9_init 83 = .ok (.putfield 40, 3) := by decide +kernel
theorem dX9_init_86 : decode cX9_init 86 = .ok (.aload_n 0, 1) := by decide +kernel
theorem dX9_init_87 : decode cX9_init 87 = .ok (.bipush 24, 2) := by decide +kernel
theorem dX9_init_89 : decode cX9_init 89 = .ok (.newarray .int, 2) := by decide +kernel
theorem dX9_init_91 : decode cX9_init 91 = .ok (.putfield 43, 3) := by decide +kernel
theorem dX9_init_94 : decode cX9_init 94 = .ok (.aload_n 0, 1) := by decide +kernel
theorem dX9_init_95 : decode cX9_init 95 = .ok (.bipush 20, 2) := by decide +kernel
theorem dX9_init_97 : decode cX9_init 97 = .ok (.newarray .int, 2) := by decide +kernel
theorem dX9_init_99 : decode cX9_init 99 = .ok (.putfield 46, 3) := by decide +kernel
theorem dX9_init_102 : decode cX9_init 102 = .ok (.aload_n 0, 1) := by decide +kernel
theorem dX9_init_103 : decode cX9_init 103 = .ok (.bipush 20, 2) := by decide +kernel
theorem dX9_init_105 : decode cX9_init 105 = .ok (.newarray .int, 2) := by decide +kernel
theorem dX9_init_107 : decode cX9_init 107 = .ok (.putfield 49, 3) := by decide +kernel
theorem dX9_init_110 : decode cX9_init 110 = .ok (.aload_n 0, 1) := by decide +kernel
theorem dX9_init_111 : decode cX9_init 111 = .ok (.bipush 20, 2) := by decide +kernel
theorem dX9_init_113 : decode cX9_init 113 = .ok (.newarray .int, 2) := by decide +kernel
theorem dX9_init_115 : decode cX9_init 115 = .ok (.putfield 52, 3) := by decide +kernel
theorem dX9_init_118 : decode cX9_init 118 = .ok (.aload_n 0, 1) := by decide +kernel
theorem dX9_init_119 : decode cX9_init 119 = .ok (.bipush 20, 2) := by decide +kernel
theorem dX9_init_121 : decode cX9_init 121 = .ok (.newarray .int, 2) := by decide +kernel
theorem dX9_init_123 : decode cX9_init 123 = .ok (.putfield 55, 3) := by decide +kernel
theorem dX9_init_126 : decode cX9_init 126 = .ok (.aload_n 0, 1) := by decide +kernel
theorem dX9_init_127 : decode cX9_init 127 = .ok (.sipush 960, 3) := by decide +kernel
theorem dX9_init_130 : decode cX9_init 130 = .ok (.newarray .int, 2) := by decide +kernel
theorem dX9_init_132 : decode cX9_init 132 = .ok (.putfield 58, 3) := by decide +kernel
theorem dX9_init_135 : decode cX9_init 135 = .ok (.aload_n 0, 1) := by decide +kernel
theorem dX9_init_136 : decode cX9_init 136 = .ok (.bipush 40, 2) := by decide +kernel
theorem dX9_init_138 : decode cX9_init 138 = .ok (.newarray .int, 2) := by decide +kernel
theorem dX9_init_140 : decode cX9_init 140 = .ok (.putfield 61, 3) := by decide +kernel
theorem dX9_init_143 : decode cX9_init 143 = .ok (.aload_n 0, 1) := by decide +kernel
theorem dX9_init_144 : decode cX9_init 144 = .ok (.bipush 40, 2) := by decide +kernel
theorem dX9_init_146 : decode cX9_init 146 = .ok (.newarray .int, 2) := by decide +kernel
theorem dX9_init_148 : decode cX9_init 148 = .ok (.putfield 64, 3) := by decide +kernel
theorem dX9_init_151 : decode cX9_init 151 = .ok (.aload_n 0, 1) := by decide +kernel
theorem dX9_init_152 : decode cX9_init 152 = .ok (.bipush 40, 2) := by decide +kernel
theorem dX9_init_154 : decode cX9_init 154 = .ok (.newarray .int, 2) := by decide +kernel
theorem dX9_init_156 : decode cX9_init 156 = .ok (.putfield 67, 3) := by decide +kernel
theorem dX9_init_159 : decode cX9_init 159 = .ok (.aload_n 0, 1) := by decide +kernel
theorem dX9_init_160 : decode cX9_init 160 = .ok (.new 70, 3) := by decide +kernel
theorem dX9_init_163 : decode cX9_init 163 = .ok (.dup, 1) := by decide +kernel
theorem dX9_init_164 : decode cX9_init 164 = .ok (.aload_n 0, 1) := by decide +kernel
theorem dX9_init_165 : decode cX9_init 165 = .ok (.invokespecial 72, 3) := by decide +kernel
theorem dX9_init_168 : decode cX9_init 168 = .ok (.putfield 75, 3) := by decide +kernel
theorem dX9_init_171 : decode cX9_init 171 = .ok (.aload_n 0, 1) := by decide +kernel
theorem dX9_init_172 : decode cX9_init 172 = .ok (.new 70, 3) := by decide +kernel
theorem dX9_init_175 : decode cX9_init 175 = .ok (.dup, 1) := by decide +kernel
theorem dX9_init_176 : decode cX9_init 176 = .ok (.aload_n 0, 1) := by decide +kernel
theorem dX9_init_177 : decode cX9_init 177 = .ok (.invokespecial 72, 3) := by decide +kernel
theorem dX9_init_180 : decode cX9_init 180 = .ok (.putfield 79, 3) := by decide +kernel
theorem dX9_init_183 : decode cX9_init 183 = .ok (.aload_n 0, 1) := by decide +kernel
theorem dX9_init_184 : decode cX9_init 184 = .ok (.sipush 2500, 3) := by decide +kernel
theorem dX9_init_187 : decode cX9_init 187 = .ok (.newarray .int, 2) := by decide +kernel
theorem dX9_init_189 : decode cX9_init 189 = .ok (.putfield 82, 3) := by decide +kernel
theorem dX9_init_192 : decode cX9_init 192 = .ok (.aload_n 0, 1) := by decide +kernel
theorem dX9_init_193 : decode cX9_init 193 = .ok (.sipush 2500, 3) := by decide +kernel
theorem dX9_init_196 : decode cX9_init 196 = .ok (.newarray .int, 2) := by decide +kernel
theorem dX9_init_198 : decode cX9_init 198 = .ok (.putfield 85, 3) := by decide +kernel
theorem dX9_init_201 : decode cX9_init 201 = .ok (.aload_n 0, 1) := by decide +kernel
theorem dX9_init_202 : decode cX9_init 202 = .ok (.sipush 2500, 3) := by decide +kernel
theorem dX9_init_205 : decode cX9_init 205 = .ok (.newarray .int, 2) := by decide +kernel
theorem dX9_init_207 : decode cX9_init 207 = .ok (.putfield 88, 3) := by decide +kernel
theorem dX9_init_210 : decode cX9_init 210 = .ok (.return_, 1) := by decide +kernel
theorem dX9_thrown_0 : decode cX9_thrown 0 = .ok (.aload_n 0, 1) := by decide +kernel
theorem dX9_thrown_1 : decode cX9_thrown 1 = .ok (.getfield 91, 3) := by decide +kernel
theorem dX9_thrown_4 : decode cX9_thrown 4 = .ok (.ireturn, 1) := by decide +kernel
theorem dX9_no_0 : decode cX9_no 0 = .ok (.aload_n 0, 1) := by decide +kernel
theorem dX9_no_1 : decode cX9_no 1 = .ok (.iload_n 1, 1) := by decide +kernel
theorem dX9_no_2 : decode cX9_no 2 = .ok (.putfield 91, 3) := by decide +kernel
theorem dX9_no_5 : decode cX9_no 5 = .ok (.iconst 0, 1) := by decide +kernel
theorem dX9_no_6 : decode cX9_no 6 = .ok (.ireturn, 1) := by decide +kernel
theorem dX9_isIn_0 : decode cX9_isIn 0 = .ok (.iload_n 0, 1) := by decide +kernel
theorem dX9_isIn_1 : decode cX9_isIn 1 = .ok (.iload_n 1, 1) := by decide +kernel
theorem dX9_isIn_2 : decode cX9_isIn 2 = .ok (.if_icmp .lt 12, 3) := by decide +kernel
theorem dX9_isIn_5 : decode cX9_isIn 5 = .ok (.iload_n 0, 1) := by decide +kernel
theorem dX9_isIn_6 : decode cX9_isIn 6 = .ok (.iload_n 2, 1) := by decide +kernel
theorem dX9_isIn_7 : decode cX9_isIn 7 = .ok (.if_icmp .gt 7, 3) := by decide +kernel
theorem dX9_isIn_10 : decode cX9_isIn 10 = .ok (.iconst 1, 1) := by decide +kernel
theorem dX9_isIn_11 : decode cX9_isIn 11 = .ok (.goto 4, 3) := by decide +kernel
theorem dX9_isIn_14 : decode cX9_isIn 14 = .ok (.iconst 0, 1) := by decide +kernel
theorem dX9_isIn_15 : decode cX9_isIn 15 = .ok (.ireturn, 1) := by decide +kernel
theorem dX9_isCase_0 : decode cX9_isCase 0 = .ok (.iload_n 1, 1) := by decide +kernel
theorem dX9_isCase_1 : decode cX9_isCase 1 = .ok (.iconst 0, 1) := by decide +kernel
theorem dX9_isCase_2 : decode cX9_isCase 2 = .ok (.aload_n 0, 1) := by decide +kernel
theorem dX9_isCase_3 : decode cX9_isCase 3 = .ok (.getfield 94, 3) := by decide +kernel
theorem dX9_isCase_6 : decode cX9_isCase 6 = .ok (.iconst 1, 1) := by decide +kernel
theorem dX9_isCase_7 : decode cX9_isCase 7 = .ok (.isub, 1) := by decide +kernel
theorem dX9_isCase_8 : decode cX9_isCase 8 = .ok (.invokestatic 97, 3) := by decide +kernel
theorem dX9_isCase_11 : decode cX9_isCase 11 = .ok (.ireturn, 1) := by decide +kernel
theorem dX9_isPerson_0 : decode cX9_isPerson 0 = .ok (.iload_n 1, 1) := by decide +kernel
theorem dX9_isPerson_1 : decode cX9_isPerson 1 = .ok (.iconst 0, 1) := by decide +kernel
theorem dX9_isPerson_2 : decode cX9_isPerson 2 = .ok (.aload_n 0, 1) := by decide +kernel
theorem dX9_isPerson_3 : decode cX9_isPerson 3 = .ok (.getfield 101, 3) := by decide +kernel
theorem dX9_isPerson_6 : decode cX9_isPerson 6 = .ok (.iconst 1, 1) := by decide +kernel
theorem dX9_isPerson_7 : decode cX9_isPerson 7 = .ok (.isub, 1) := by decide +kernel
theorem dX9_isPerson_8 : decode cX9_isPerson 8 = .ok (.invokestatic 97, 3) := by decide +kernel
theorem dX9_isPerson_11 : decode cX9_isPerson 11 = .ok (.ireturn, 1) := by decide +kernel
theorem dX9_isDocument_0 : decode cX9_isDocument 0 = .ok (.iload_n 1, 1) := by decide +kernel
theorem dX9_isDocument_1 : decode cX9_isDocument 1 = .ok (.iconst 0, 1) := by decide +kernel
theorem dX9_isDocument_2 : decode cX9_isDocument 2 = .ok (.aload_n 0, 1) := by decide +kernel
theorem dX9_isDocument_3 : decode cX9_isDocument 3 = .ok (.getfield 104, 3) := by decide +kernel
theorem dX9_isDocument_6 : decode cX9_isDocument 6 = .ok (.iconst 1, 1) := by decide +kernel
theorem dX9_isDocument_7 : decode cX9_isDocument 7 = .ok (.isub, 1) := by decide +kernel
theorem dX9_isDocument_8 : decode cX9_isDocument 8 = .ok (.invokestatic 97, 3) := by decide +kernel
theorem dX9_isDocument_11 : decode cX9_isDocument 11 = .ok (.ireturn, 1) := by decide +kernel
theorem dX9_isExhibit_0 : decode cX9_isExhibit 0 = .ok (.iload_n 1, 1) := by decide +kernel
theorem dX9_isExhibit_1 : decode cX9_isExhibit 1 = .ok (.iconst 0, 1) := by decide +kernel
theorem dX9_isExhibit_2 : decode cX9_isExhibit 2 = .ok (.aload_n 0, 1) := by decide +kernel
theorem dX9_isExhibit_3 : decode cX9_isExhibit 3 = .ok (.getfield 107, 3) := by decide +kernel
theorem dX9_isExhibit_6 : decode cX9_isExhibit 6 = .ok (.iconst 1, 1) := by decide +kernel
theorem dX9_isExhibit_7 : decode cX9_isExhibit 7 = .ok (.isub, 1) := by decide +kernel
theorem dX9_isExhibit_8 : decode cX9_isExhibit 8 = .ok (.invokestatic 97, 3) := by decide +kernel
theorem dX9_isExhibit_11 : decode cX9_isExhibit 11 = .ok (.ireturn, 1) := by decide +kernel
theorem dX9_clerks_0 : decode cX9_clerks 0 = .ok (.iconst 0, 1) := by decide +kernel
theorem dX9_clerks_1 : decode cX9_clerks 1 = .ok (.istore_n 1, 1) := by decide +kernel
theorem dX9_clerks_2 : decode cX9_clerks 2 = .ok (.iconst 0, 1) := by decide +kernel
theorem dX9_clerks_3 : decode cX9_clerks 3 = .ok (.istore_n 2, 1) := by decide +kernel
theorem dX9_clerks_4 : decode cX9_clerks 4 = .ok (.iload_n 2, 1) := by decide +kernel
theorem dX9_clerks_5 : decode cX9_clerks 5 = .ok (.aload_n 0, 1) := by decide +kernel
theorem dX9_clerks_6 : decode cX9_clerks 6 = .ok (.getfield 101, 3) := by decide +kernel
theorem dX9_clerks_9 : decode cX9_clerks 9 = .ok (.if_icmp .ge 26, 3) := by decide +kernel
theorem dX9_clerks_12 : decode cX9_clerks 12 = .ok (.iload_n 1, 1) := by decide +kernel
theorem dX9_clerks_13 : decode cX9_clerks 13 = .ok (.aload_n 0, 1) := by decide +kernel
theorem dX9_clerks_14 : decode cX9_clerks 14 = .ok (.getfield 23, 3) := by decide +kernel
theorem dX9_clerks_17 : decode cX9_clerks 17 = .ok (.iload_n 2, 1) := by decide +kernel
theorem dX9_clerks_18 : decode cX9_clerks 18 = .ok (.iaload, 1) := by decide +kernel
theorem dX9_clerks_19 : decode cX9_clerks 19 = .ok (.ifCond .ne 7, 3) := by decide +kernel
theorem dX9_clerks_22 : decode cX9_clerks 22 = .ok (.iconst 1, 1) := by decide +kernel
theorem dX9_clerks_23 : decode cX9_clerks 23 = .ok (.goto 4, 3) := by decide +kernel
theorem dX9_clerks_26 : decode cX9_clerks 26 = .ok (.iconst 0, 1) := by decide +kernel
theorem dX9_clerks_27 : decode cX9_clerks 27 = .ok (.iadd, 1) := by decide +kernel
theorem dX9_clerks_28 : decode cX9_clerks 28 = .ok (.istore_n 1, 1) := by decide +kernel
theorem dX9_clerks_29 : decode cX9_clerks 29 = .ok (.iinc 2 1, 3) := by decide +kernel
theorem dX9_clerks_32 : decode cX9_clerks 32 = .ok (.goto (-28), 3) := by decide +kernel
theorem dX9_clerks_35 : decode cX9_clerks 35 = .ok (.iload_n 1, 1) := by decide +kernel
theorem dX9_clerks_36 : decode cX9_clerks 36 = .ok (.ireturn, 1) := by decide +kernel
theorem dX9_feed_0 : decode cX9_feed 0 = .ok (.aload_n 0, 1) := by decide +kernel
theorem dX9_feed_1 : decode cX9_feed 1 = .ok (.iconst 0, 1) := by decide +kernel
theorem dX9_feed_2 : decode cX9_feed 2 = .ok (.putfield 91, 3) := by decide +kernel
theorem dX9_feed_5 : decode cX9_feed 5 = .ok (.aload_n 0, 1) := by decide +kernel
theorem dX9_feed_6 : decode cX9_feed 6 = .ok (.getfield 110, 3) := by decide +kernel
theorem dX9_feed_9 : decode cX9_feed 9 = .ok (.bipush 20, 2) := by decide +kernel
theorem dX9_feed_11 : decode cX9_feed 11 = .ok (.iadd, 1) := by decide +kernel
theorem dX9_feed_12 : decode cX9_feed 12 = .ok (.sipush 1000, 3) := by decide +kernel
theorem dX9_feed_15 : decode cX9_feed 15 = .ok (.if_icmp .le 9, 3) := by decide +kernel
theorem dX9_feed_18 : decode cX9_feed 18 = .ok (.aload_n 0, 1) := by decide +kernel
theorem dX9_feed_19 : decode cX9_feed 19 = .ok (.iconst 1, 1) := by decide +kernel
theorem dX9_feed_20 : decode cX9_feed 20 = .ok (.invokevirtual 113, 3) := by decide +kernel
theorem dX9_feed_23 : decode cX9_feed 23 = .ok (.ireturn, 1) := by decide +kernel
theorem dX9_feed_24 : decode cX9_feed 24 = .ok (.iconst 5, 1) := by decide +kernel
theorem dX9_feed_25 : decode cX9_feed 25 = .ok (.newarray .int, 2) := by decide +kernel
theorem dX9_feed_27 : decode cX9_feed 27 = .ok (.dup, 1) := by decide +kernel
theorem dX9_feed_28 : decode cX9_feed 28 = .ok (.iconst 0, 1) := by decide +kernel
theorem dX9_feed_29 : decode cX9_feed 29 = .ok (.iload_n 1, 1) := by decide +kernel
theorem dX9_feed_30 : decode cX9_feed 30 = .ok (.iastore, 1) := by decide +kernel
theorem dX9_feed_31 : decode cX9_feed 31 = .ok (.dup, 1) := by decide +kernel
theorem dX9_feed_32 : decode cX9_feed 32 = .ok (.iconst 1, 1) := by decide +kernel
theorem dX9_feed_33 : decode cX9_feed 33 = .ok (.iload_n 2, 1) := by decide +kernel
theorem dX9_feed_34 : decode cX9_feed 34 = .ok (.iastore, 1) := by decide +kernel
theorem dX9_feed_35 : decode cX9_feed 35 = .ok (.dup, 1) := by decide +kernel
theorem dX9_feed_36 : decode cX9_feed 36 = .ok (.iconst 2, 1) := by decide +kernel
theorem dX9_feed_37 : decode cX9_feed 37 = .ok (.iload_n 3, 1) := by decide +kernel
theorem dX9_feed_38 : decode cX9_feed 38 = .ok (.iastore, 1) := by decide +kernel
theorem dX9_feed_39 : decode cX9_feed 39 = .ok (.dup, 1) := by decide +kernel
theorem dX9_feed_40 : decode cX9_feed 40 = .ok (.iconst 3, 1) := by decide +kernel
theorem dX9_feed_41 : decode cX9_feed 41 = .ok (.iload 4, 2) := by decide +kernel
theorem dX9_feed_43 : decode cX9_feed 43 = .ok (.iastore, 1) := by decide +kernel
theorem dX9_feed_44 : decode cX9_feed 44 = .ok (.dup, 1) := by decide +kernel
theorem dX9_feed_45 : decode cX9_feed 45 = .ok (.iconst 4, 1) := by decide +kernel
theorem dX9_feed_46 : decode cX9_feed 46 = .ok (.iload 5, 2) := by decide +kernel
theorem dX9_feed_48 : decode cX9_feed 48 = .ok (.iastore, 1) := by decide +kernel
theorem dX9_feed_49 : decode cX9_feed 49 = .ok (.astore 6, 2) := by decide +kernel
theorem dX9_feed_51 : decode cX9_feed 51 = .ok (.iconst 0, 1) := by decide +kernel
theorem dX9_feed_52 : decode cX9_feed 52 = .ok (.istore 7, 2) := by decide +kernel
theorem dX9_feed_54 : decode cX9_feed 54 = .ok (.iload 7, 2) := by decide +kernel
theorem dX9_feed_56 : decode cX9_feed 56 = .ok (.bipush 20, 2) := by decide +kernel
theorem dX9_feed_58 : decode cX9_feed 58 = .ok (.if_icmp .ge 43, 3) := by decide +kernel
theorem dX9_feed_61 : decode cX9_feed 61 = .ok (.aload_n 0, 1) := by decide +kernel
theorem dX9_feed_62 : decode cX9_feed 62 = .ok (.getfield 9, 3) := by decide +kernel
theorem dX9_feed_65 : decode cX9_feed 65 = .ok (.aload_n 0, 1) := by decide +kernel
theorem dX9_feed_66 : decode cX9_feed 66 = .ok (.getfield 110, 3) := by decide +kernel
theorem dX9_feed_69 : decode cX9_feed 69 = .ok (.iload 7, 2) := by decide +kernel
theorem dX9_feed_71 : decode cX9_feed 71 = .ok (.iadd, 1) := by decide +kernel
theorem dX9_feed_72 : decode cX9_feed 72 = .ok (.aload 6, 2) := by decide +kernel
theorem dX9_feed_74 : decode cX9_feed 74 = .ok (.iload 7, 2) := by decide +kernel
theorem dX9_feed_76 : decode cX9_feed 76 = .ok (.iconst 4, 1) := by decide +kernel
theorem dX9_feed_77 : decode cX9_feed 77 = .ok (.idiv, 1) := by decide +kernel
theorem dX9_feed_78 : decode cX9_feed 78 = .ok (.iaload, 1) := by decide +kernel
theorem dX9_feed_79 : decode cX9_feed 79 = .ok (.bipush 24, 2) := by decide +kernel
theorem dX9_feed_81 : decode cX9_feed 81 = .ok (.bipush 8, 2) := by decide +kernel
theorem dX9_feed_83 : decode cX9_feed 83 = .ok (.iload 7, 2) := by decide +kernel
theorem dX9_feed_85 : decode cX9_feed 85 = .ok (.iconst 4, 1) := by decide +kernel
theorem dX9_feed_86 : decode cX9_feed 86 = .ok (.irem, 1) := by decide +kernel
theorem dX9_feed_87 : decode cX9_feed 87 = .ok (.imul, 1) := by decide +kernel
theorem dX9_feed_88 : decode cX9_feed 88 = .ok (.isub, 1) := by decide +kernel
theorem dX9_feed_89 : decode cX9_feed 89 = .ok (.iushr, 1) := by decide +kernel
theorem dX9_feed_90 : decode cX9_feed 90 = .ok (.sipush 255, 3) := by decide +kernel
theorem dX9_feed_93 : decode cX9_feed 93 = .ok (.iand, 1) := by decide +kernel
theorem dX9_feed_94 : decode cX9_feed 94 = .ok (.iastore, 1) := by decide +kernel
theorem dX9_feed_95 : decode cX9_feed 95 = .ok (.iinc 7 1, 3) := by decide +kernel
theorem dX9_feed_98 : decode cX9_feed 98 = .ok (.goto (-44), 3) := by decide +kernel
theorem dX9_feed_101 : decode cX9_feed 101 = .ok (.aload_n 0, 1) := by decide +kernel
theorem dX9_feed_102 : decode cX9_feed 102 = .ok (.dup, 1) := by decide +kernel
theorem dX9_feed_103 : decode cX9_feed 103 = .ok (.getfield 110, 3) := by decide +kernel
theorem dX9_feed_106 : decode cX9_feed 106 = .ok (.bipush 20, 2) := by decide +kernel
theorem dX9_feed_108 : decode cX9_feed 108 = .ok (.iadd, 1) := by decide +kernel
theorem dX9_feed_109 : decode cX9_feed 109 = .ok (.putfield 110, 3) := by decide +kernel
theorem dX9_feed_112 : decode cX9_feed 112 = .ok (.aload_n 0, 1) := by decide +kernel
theorem dX9_feed_113 : decode cX9_feed 113 = .ok (.getfield 110, 3) := by decide +kernel
theorem dX9_feed_116 : decode cX9_feed 116 = .ok (.ireturn, 1) := by decide +kernel
theorem dX9_trim_0 : decode cX9_trim 0 = .ok (.aload_n 0, 1) := by decide +kernel
theorem dX9_trim_1 : decode cX9_trim 1 = .ok (.iconst 0, 1) := by decide +kernel
theorem dX9_trim_2 : decode cX9_trim 2 = .ok (.putfield 91, 3) := by decide +kernel
theorem dX9_trim_5 : decode cX9_trim 5 = .ok (.iload_n 1, 1) := by decide +kernel
theorem dX9_trim_6 : decode cX9_trim 6 = .ok (.iconst 0, 1) := by decide +kernel
theorem dX9_trim_7 : decode cX9_trim 7 = .ok (.aload_n 0, 1) := by decide +kernel
theorem dX9_trim_8 : decode cX9_trim 8 = .ok (.getfield 110, 3) := by decide +kernel
theorem dX9_trim_11 : decode cX9_trim 11 = .ok (.invokestatic 97, 3) := by decide +kernel
theorem dX9_trim_14 : decode cX9_trim 14 = .ok (.ifCond .ne 9, 3) := by decide +kernel
theorem dX9_trim_17 : decode cX9_trim 17 = .ok (.aload_n 0, 1) := by decide +kernel
theorem dX9_trim_18 : decode cX9_trim 18 = .ok (.iconst 1, 1) := by decide +kernel
theorem dX9_trim_19 : decode cX9_trim 19 = .ok (.invokevirtual 113, 3) := by decide +kernel
theorem dX9_trim_22 : decode cX9_trim 22 = .ok (.ireturn, 1) := by decide +kernel
theorem dX9_trim_23 : decode cX9_trim 23 = .ok (.aload_n 0, 1) := by decide +kernel
theorem dX9_trim_24 : decode cX9_trim 24 = .ok (.iload_n 1, 1) := by decide +kernel
theorem dX9_trim_25 : decode cX9_trim 25 = .ok (.putfield 110, 3) := by decide +kernel
theorem dX9_trim_28 : decode cX9_trim 28 = .ok (.iload_n 1, 1) := by decide +kernel
theorem dX9_trim_29 : decode cX9_trim 29 = .ok (.ireturn, 1) := by decide +kernel
theorem dX9_write_0 : decode cX9_write 0 = .ok (.aload_n 0, 1) := by decide +kernel
theorem dX9_write_1 : decode cX9_write 1 = .ok (.getfield 82, 3) := by decide +kernel
theorem dX9_write_4 : decode cX9_write 4 = .ok (.aload_n 0, 1) := by decide +kernel
theorem dX9_write_5 : decode cX9_write 5 = .ok (.getfield 117, 3) := by decide +kernel
theorem dX9_write_8 : decode cX9_write 8 = .ok (.iload_n 1, 1) := by decide +kernel
theorem dX9_write_9 : decode cX9_write 9 = .ok (.iastore, 1) := by decide +kernel
theorem dX9_write_10 : decode cX9_write 10 = .ok (.aload_n 0, 1) := by decide +kernel
theorem dX9_write_11 : decode cX9_write 11 = .ok (.getfield 85, 3) := by decide +kernel
theorem dX9_write_14 : decode cX9_write 14 = .ok (.aload_n 0, 1) := by decide +kernel
theorem dX9_write_15 : decode cX9_write 15 = .ok (.getfield 117, 3) := by decide +kernel
theorem dX9_write_18 : decode cX9_write 18 = .ok (.iload_n 2, 1) := by decide +kernel
theorem dX9_write_19 : decode cX9_write 19 = .ok (.iastore, 1) := by decide +kernel
theorem dX9_write_20 : decode cX9_write 20 = .ok (.aload_n 0, 1) := by decide +kernel
theorem dX9_write_21 : decode cX9_write 21 = .ok (.getfield 88, 3) := by decide +kernel
theorem dX9_write_24 : decode cX9_write 24 = .ok (.aload_n 0, 1) := by decide +kernel
theorem dX9_write_25 : decode cX9_write 25 = .ok (.getfield 117, 3) := by decide +kernel
theorem dX9_write_28 : decode cX9_write 28 = .ok (.iload_n 3, 1) := by decide +kernel
theorem dX9_write_29 : decode cX9_write 29 = .ok (.iastore, 1) := by decide +kernel
theorem dX9_write_30 : decode cX9_write 30 = .ok (.aload_n 0, 1) := by decide +kernel
theorem dX9_write_31 : decode cX9_write 31 = .ok (.dup, 1) := by decide +kernel
theorem dX9_write_32 : decode cX9_write 32 = .ok (.getfield 117, 3) := by decide +kernel
theorem dX9_write_35 : decode cX9_write 35 = .ok (.iconst 1, 1) := by decide +kernel
theorem dX9_write_36 : decode cX9_write 36 = .ok (.iadd, 1) := by decide +kernel
theorem dX9_write_37 : decode cX9_write 37 = .ok (.putfield 117, 3) := by decide +kernel
theorem dX9_write_40 : decode cX9_write 40 = .ok (.return_, 1) := by decide +kernel
theorem dX9_at_0 : decode cX9_at 0 = .ok (.iload_n 1, 1) := by decide +kernel
theorem dX9_at_1 : decode cX9_at 1 = .ok (.aload_n 0, 1) := by decide +kernel
theorem dX9_at_2 : decode cX9_at 2 = .ok (.getfield 110, 3) := by decide +kernel
theorem dX9_at_5 : decode cX9_at 5 = .ok (.if_icmp .ge 12, 3) := by decide +kernel
theorem dX9_at_8 : decode cX9_at 8 = .ok (.aload_n 0, 1) := by decide +kernel
theorem dX9_at_9 : decode cX9_at 9 = .ok (.getfield 9, 3) := by decide +kernel
theorem dX9_at_12 : decode cX9_at 12 = .ok (.iload_n 1, 1) := by decide +kernel
theorem dX9_at_13 : decode cX9_at 13 = .ok (.iaload, 1) := by decide +kernel
theorem dX9_at_14 : decode cX9_at 14 = .ok (.goto 4, 3) := by decide +kernel
theorem dX9_at_17 : decode cX9_at 17 = .ok (.iconst (-1), 1) := by decide +kernel
theorem dX9_at_18 : decode cX9_at 18 = .ok (.ireturn, 1) := by decide +kernel
theorem dX9_isLetter_0 : decode cX9_isLetter 0 = .ok (.iload_n 0, 1) := by decide +kernel
theorem dX9_isLetter_1 : decode cX9_isLetter 1 = .ok (.bipush 65, 2) := by decide +kernel
theorem dX9_isLetter_3 : decode cX9_isLetter 3 = .ok (.bipush 90, 2) := by decide +kernel
theorem dX9_isLetter_5 : decode cX9_isLetter 5 = .ok (.invokestatic 97, 3) := by decide +kernel
theorem dX9_isLetter_8 : decode cX9_isLetter 8 = .ok (.ifCond .ne 14, 3) := by decide +kernel
theorem dX9_isLetter_11 : decode cX9_isLetter 11 = .ok (.iload_n 0, 1) := by decide +kernel
theorem dX9_isLetter_12 : decode cX9_isLetter 12 = .ok (.bipush 97, 2) := by decide +kernel
theorem dX9_isLetter_14 : decode cX9_isLetter 14 = .ok (.bipush 122, 2) := by decide +kernel
theorem dX9_isLetter_16 : decode cX9_isLetter 16 = .ok (.invokestatic 97, 3) := by decide +kernel
theorem dX9_isLetter_19 : decode cX9_isLetter 19 = .ok (.ifCond .eq 7, 3) := by decide +kernel
theorem dX9_isLetter_22 : decode cX9_isLetter 22 = .ok (.iconst 1, 1) := by decide +kernel
theorem dX9_isLetter_23 : decode cX9_isLetter 23 = .ok (.goto 4, 3) := by decide +kernel
theorem dX9_isLetter_26 : decode cX9_isLetter 26 = .ok (.iconst 0, 1) := by decide +kernel
theorem dX9_isLetter_27 : decode cX9_isLetter 27 = .ok (.ireturn, 1) := by decide +kernel
theorem dX9_parse_0 : decode cX9_parse 0 = .ok (.bipush 6, 2) := by decide +kernel
theorem dX9_parse_2 : decode cX9_parse 2 = .ok (.newarray .int, 2) := by decide +kernel
theorem dX9_parse_4 : decode cX9_parse 4 = .ok (.astore_n 2, 1) := by decide +kernel
theorem dX9_parse_5 : decode cX9_parse 5 = .ok (.iconst 0, 1) := by decide +kernel
theorem dX9_parse_6 : decode cX9_parse 6 = .ok (.istore_n 3, 1) := by decide +kernel
theorem dX9_parse_7 : decode cX9_parse 7 = .ok (.aload_n 0, 1) := by decide +kernel
theorem dX9_parse_8 : decode cX9_parse 8 = .ok (.iconst 0, 1) := by decide +kernel
theorem dX9_parse_9 : decode cX9_parse 9 = .ok (.putfield 117, 3) := by decide +kernel
theorem dX9_parse_12 : decode cX9_parse 12 = .ok (.aload_n 0, 1) := by decide +kernel
theorem dX9_parse_13 : decode cX9_parse 13 = .ok (.iconst (-1), 1) := by decide +kernel
theorem dX9_parse_14 : decode cX9_parse 14 = .ok (.putfield 120, 3) := by decide +kernel
theorem dX9_parse_17 : decode cX9_parse 17 = .ok (.aload_n 0, 1) := by decide +kernel
theorem dX9_parse_18 : decode cX9_parse 18 = .ok (.iconst 0, 1) := by decide +kernel
theorem dX9_parse_19 : decode cX9_parse 19 = .ok (.putfield 123, 3) := by decide +kernel
theorem dX9_parse_22 : decode cX9_parse 22 = .ok (.iconst 0, 1) := by decide +kernel
theorem dX9_parse_23 : decode cX9_parse 23 = .ok (.istore 4, 2) := by decide +kernel
theorem dX9_parse_25 : decode cX9_parse 25 = .ok (.iload 4, 2) := by decide +kernel
theorem dX9_parse_27 : decode cX9_parse 27 = .ok (.aload_n 0, 1) := by decide +kernel
theorem dX9_parse_28 : decode cX9_parse 28 = .ok (.getfield 110, 3) := by decide +kernel
theorem dX9_parse_31 : decode cX9_parse 31 = .ok (.if_icmp .ge 413, 3) := by decide +kernel
theorem dX9_parse_34 : decode cX9_parse 34 = .ok (.aload_n 0, 1) := by decide +kernel
theorem dX9_parse_35 : decode cX9_parse 35 = .ok (.getfield 9, 3) := by decide +kernel
theorem dX9_parse_38 : decode cX9_parse 38 = .ok (.iload 4, 2) := by decide +kernel
theorem dX9_parse_40 : decode cX9_parse 40 = .ok (.iaload, 1) := by decide +kernel
theorem dX9_parse_41 : decode cX9_parse 41 = .ok (.istore 5, 2) := by decide +kernel
theorem dX9_parse_43 : decode cX9_parse 43 = .ok (.iload 5, 2) := by decide +kernel
theorem dX9_parse_45 : decode cX9_parse 45 = .ok (.bipush 91, 2) := by decide +kernel
theorem dX9_parse_47 : decode cX9_parse 47 = .ok (.if_icmp .ne 84, 3) := by decide +kernel
theorem dX9_parse_50 : decode cX9_parse 50 = .ok (.iload_n 3, 1) := by decide +kernel
theorem dX9_parse_51 : decode cX9_parse 51 = .ok (.iconst 5, 1) := by decide +kernel
theorem dX9_parse_52 : decode cX9_parse 52 = .ok (.if_icmp .ne 6, 3) := by decide +kernel
theorem dX9_parse_55 : decode cX9_parse 55 = .ok (.iload 4, 2) := by decide +kernel
theorem dX9_parse_57 : decode cX9_parse 57 = .ok (.ireturn, 1) := by decide +kernel
theorem dX9_parse_58 : decode cX9_parse 58 = .ok (.aload_n 0, 1) := by decide +kernel
theorem dX9_parse_59 : decode cX9_parse 59 = .ok (.iload 4, 2) := by decide +kernel
theorem dX9_parse_61 : decode cX9_parse 61 = .ok (.iconst 1, 1) := by decide +kernel
theorem dX9_parse_62 : decode cX9_parse 62 = .ok (.iadd, 1) := by decide +kernel
theorem dX9_parse_63 : decode cX9_parse 63 = .ok (.invokevirtual 126, 3) := by decide +kernel
theorem dX9_parse_66 : decode cX9_parse 66 = .ok (.bipush 49, 2) := by decide +kernel
theorem dX9_parse_68 : decode cX9_parse 68 = .ok (.bipush 57, 2) := by decide +kernel
theorem dX9_parse_70 : decode cX9_parse 70 = .ok (.invokestatic 97, 3) := by decide +kernel
theorem dX9_parse_73 : decode cX9_parse 73 = .ok (.ifCond .ne 8, 3) := by decide +kernel
theorem dX9_parse_76 : decode cX9_parse 76 = .ok (.iload 4, 2) := by decide +kernel
theorem dX9_parse_78 : decode cX9_parse 78 = .ok (.iconst 1, 1) := by decide +kernel
theorem dX9_parse_79 : decode cX9_parse 79 = .ok (.iadd, 1) := by decide +kernel
theorem dX9_parse_80 : decode cX9_parse 80 = .ok (.ireturn, 1) := by decide +kernel
theorem dX9_parse_81 : decode cX9_parse 81 = .ok (.aload_n 0, 1) := by decide +kernel
theorem dX9_parse_82 : decode cX9_parse 82 = .ok (.iload 4, 2) := by decide +kernel
theorem dX9_parse_84 : decode cX9_parse 84 = .ok (.iconst 2, 1) := by decide +kernel
theorem dX9_parse_85 : decode cX9_parse 85 = .ok (.iadd, 1) := by decide +kernel
theorem dX9_parse_86 : decode cX9_parse 86 = .ok (.invokevirtual 126, 3) := by decide +kernel
theorem dX9_parse_89 : decode cX9_parse 89 = .ok (.bipush 58, 2) := by decide +kernel
theorem dX9_parse_91 : decode cX9_parse 91 = .ok (.if_icmp .eq 8, 3) := by decide +kernel
theorem dX9_parse_94 : decode cX9_parse 94 = .ok (.iload 4, 2) := by decide +kernel
theorem dX9_parse_96 : decode cX9_parse 96 = .ok (.iconst 2, 1) := by decide +kernel
theorem dX9_parse_97 : decode cX9_parse 97 = .ok (.iadd, 1) := by decide +kernel
theorem dX9_parse_98 : decode cX9_parse 98 = .ok (.ireturn, 1) := by decide +kernel
theorem dX9_parse_99 : decode cX9_parse 99 = .ok (.iinc 3 1, 3) := by decide +kernel
theorem dX9_parse_102 : decode cX9_parse 102 = .ok (.aload_n 2, 1) := by decide +kernel
theorem dX9_parse_103 : decode cX9_parse 103 = .ok (.iload_n 3, 1) := by decide +kernel
theorem dX9_parse_104 : decode cX9_parse 104 = .ok (.aload_n 2, 1) := by decide +kernel
theorem dX9_parse_105 : decode cX9_parse 105 = .ok (.iload_n 3, 1) := by decide +kernel
theorem dX9_parse_106 : decode cX9_parse 106 = .ok (.iconst 1, 1) := by decide +kernel
theorem dX9_parse_107 : decode cX9_parse 107 = .ok (.isub, 1) := by decide +kernel
theorem dX9_parse_108 : decode cX9_parse 108 = .ok (.iaload, 1) := by decide +kernel
theorem dX9_parse_109 : decode cX9_parse 109 = .ok (.aload_n 0, 1) := by decide +kernel
theorem dX9_parse_110 : decode cX9_parse 110 = .ok (.getfield 9, 3) := by decide +kernel
theorem dX9_parse_113 : decode cX9_parse 113 = .ok (.iload 4, 2) := by decide +kernel
theorem dX9_parse_115 : decode cX9_parse 115 = .ok (.iconst 1, 1) := by decide +kernel
theorem dX9_parse_116 : decode cX9_parse 116 = .ok (.iadd, 1) := by decide +kernel
theorem dX9_parse_117 : decode cX9_parse 117 = .ok (.iaload, 1) := by decide +kernel
theorem dX9_parse_118 : decode cX9_parse 118 = .ok (.bipush 48, 2) := by decide +kernel
theorem dX9_parse_120 : decode cX9_parse 120 = .ok (.isub, 1) := by decide +kernel
theorem dX9_parse_121 : decode cX9_parse 121 = .ok (.invokestatic 129, 3) := by decide +kernel
theorem dX9_parse_124 : decode cX9_parse 124 = .ok (.iastore, 1) := by decide +kernel
theorem dX9_parse_125 : decode cX9_parse 125 = .ok (.iinc 4 3, 3) := by decide +kernel
theorem dX9_parse_128 : decode cX9_parse 128 = .ok (.goto 313, 3) := by decide +kernel
theorem dX9_parse_131 : decode cX9_parse 131 = .ok (.iload 5, 2) := by decide +kernel
theorem dX9_parse_133 : decode cX9_parse 133 = .ok (.bipush 93, 2) := by decide +kernel
theorem dX9_parse_135 : decode cX9_parse 135 = .ok (.if_icmp .ne 19, 3) := by decide +kernel
theorem dX9_parse_138 : decode cX9_parse 138 = .ok (.iload_n 3, 1) := by decide +kernel
theorem dX9_parse_139 : decode cX9_parse 139 = .ok (.ifCond .ne 6, 3) := by decide +kernel
theorem dX9_parse_142 : decode cX9_parse 142 = .ok (.iload 4, 2) := by decide +kernel
theorem dX9_parse_144 : decode cX9_parse 144 = .ok (.ireturn, 1) := by decide +kernel
theorem dX9_parse_145 : decode cX9_parse 145 = .ok (.iinc 3 (-1), 3) := by decide +kernel
theorem dX9_parse_148 : decode cX9_parse 148 = .ok (.iinc 4 1, 3) := by decide +kernel
theorem dX9_parse_151 : decode cX9_parse 151 = .ok (.goto 290, 3) := by decide +kernel
theorem dX9_parse_154 : decode cX9_parse 154 = .ok (.iload 5, 2) := by decide +kernel
theorem dX9_parse_156 : decode cX9_parse 156 = .ok (.bipush 123, 2) := by decide +kernel
theorem dX9_parse_158 : decode cX9_parse 158 = .ok (.if_icmp .ne 94, 3) := by decide +kernel
theorem dX9_parse_161 : decode cX9_parse 161 = .ok (.iload 4, 2) := by decide +kernel
theorem dX9_parse_163 : decode cX9_parse 163 = .ok (.iconst 1, 1) := by decide +kernel
theorem dX9_parse_164 : decode cX9_parse 164 = .ok (.iadd, 1) := by decide +kernel
theorem dX9_parse_165 : decode cX9_parse 165 = .ok (.istore 6, 2) := by decide +kernel
theorem dX9_parse_167 : decode cX9_parse 167 = .ok (.iload 6, 2) := by decide +kernel
theorem dX9_parse_169 : decode cX9_parse 169 = .ok (.istore 4, 2) := by decide +kernel
theorem dX9_parse_171 : decode cX9_parse 171 = .ok (.iload 4, 2) := by decide +kernel
theorem dX9_parse_173 : decode cX9_parse 173 = .ok (.iload 6, 2) := by decide +kernel
theorem dX9_parse_175 : decode cX9_parse 175 = .ok (.bipush 12, 2) := by decide +kernel
theorem dX9_parse_177 : decode cX9_parse 177 = .ok (.iadd, 1) := by decide +kernel
theorem dX9_parse_178 : decode cX9_parse 178 = .ok (.if_icmp .ge 47, 3) := by decide +kernel
theorem dX9_parse_181 : decode cX9_parse 181 = .ok (.aload_n 0, 1) := by decide +kernel
theorem dX9_parse_182 : decode cX9_parse 182 = .ok (.iload 4, 2) := by decide +kernel
theorem dX9_parse_184 : decode cX9_parse 184 = .ok (.invokevirtual 126, 3) := by decide +kernel
theorem dX9_parse_187 : decode cX9_parse 187 = .ok (.invokestatic 135, 3) := by decide +kernel
theorem dX9_parse_190 : decode cX9_parse 190 = .ok (.ifCond .eq 35, 3) := by decide +kernel
theorem dX9_parse_193 : decode cX9_parse 193 = .ok (.aload_n 0, 1) := by decide +kernel
theorem dX9_parse_194 : decode cX9_parse 194 = .ok (.aload_n 0, 1) := by decide +kernel
theorem dX9_parse_195 : decode cX9_parse 195 = .ok (.getfield 9, 3) := by decide +kernel
theorem dX9_parse_198 : decode cX9_parse 198 = .ok (.iload 4, 2) := by decide +kernel
theorem dX9_parse_200 : decode cX9_parse 200 = .ok (.iaload, 1) := by decide +kernel
theorem dX9_parse_201 : decode cX9_parse 201 = .ok (.aload_n 2, 1) := by decide +kernel
theorem dX9_parse_202 : decode cX9_parse 202 = .ok (.iload_n 3, 1) := by decide +kernel
theorem dX9_parse_203 : decode cX9_parse 203 = .ok (.iaload, 1) := by decide +kernel
theorem dX9_parse_204 : decode cX9_parse 204 = .ok (.iload 4, 2) := by decide +kernel
theorem dX9_parse_206 : decode cX9_parse 206 = .ok (.iload 6, 2) := by decide +kernel
theorem dX9_parse_208 : decode cX9_parse 208 = .ok (.if_icmp .ne 7, 3) := by decide +kernel
theorem dX9_parse_211 : decode cX9_parse 211 = .ok (.iconst 0, 1) := by decide +kernel
theorem dX9_parse_212 : decode cX9_parse 212 = .ok (.goto 4, 3) := by decide +kernel
theorem dX9_parse_215 : decode cX9_parse 215 = .ok (.iconst 1, 1) := by decide +kernel
theorem dX9_parse_216 : decode cX9_parse 216 = .ok (.invokevirtual 139, 3) := by decide +kernel
theorem dX9_parse_219 : decode cX9_parse 219 = .ok (.iinc 4 1, 3) := by decide +kernel
theorem dX9_parse_222 : decode cX9_parse 222 = .ok (.goto (-51), 3) := by decide +kernel
theorem dX9_parse_225 : decode cX9_parse 225 = .ok (.iload 4, 2) := by decide +kernel
theorem dX9_parse_227 : decode cX9_parse 227 = .ok (.iload 6, 2) := by decide +kernel
theorem dX9_parse_229 : decode cX9_parse 229 = .ok (.if_icmp .eq 14, 3) := by decide +kernel
theorem dX9_parse_232 : decode cX9_parse 232 = .ok (.aload_n 0, 1) := by decide +kernel
theorem dX9_parse_233 : decode cX9_parse 233 = .ok (.iload 4, 2) := by decide +kernel
theorem dX9_parse_235 : decode cX9_parse 235 = .ok (.invokevirtual 126, 3) := by decide +kernel
theorem dX9_parse_238 : decode cX9_parse 238 = .ok (.bipush 125, 2) := by decide +kernel
theorem dX9_parse_240 : decode cX9_parse 240 = .ok (.if_icmp .eq 6, 3) := by decide +kernel
theorem dX9_parse_243 : decode cX9_parse 243 = .ok (.iload 4, 2) := by decide +kernel
theorem dX9_parse_245 : decode cX9_parse 245 = .ok (.ireturn, 1) := by decide +kernel
theorem dX9_parse_246 : decode cX9_parse 246 = .ok (.iinc 4 1, 3) := by decide +kernel
theorem dX9_parse_249 : decode cX9_parse 249 = .ok (.goto 192, 3) := by decide +kernel
theorem dX9_parse_252 : decode cX9_parse 252 = .ok (.iload 5, 2) := by decide +kernel
theorem dX9_parse_254 : decode cX9_parse 254 = .ok (.bipush 64, 2) := by decide +kernel
theorem dX9_parse_256 : decode cX9_parse 256 = .ok (.if_icmp .ne 143, 3) := by decide +kernel
theorem dX9_parse_259 : decode cX9_parse 259 = .ok (.iload 4, 2) := by decide +kernel
theorem dX9_parse_261 : decode cX9_parse 261 = .ok (.istore 6, 2) := by decide +kernel
theorem dX9_parse_263 : decode cX9_parse 263 = .ok (.iconst 0, 1) := by decide +kernel
theorem dX9_parse_264 : decode cX9_parse 264 = .ok (.istore 7, 2) := by decide +kernel
theorem dX9_parse_266 : decode cX9_parse 266 = .ok (.iinc 4 1, 3) := by decide +kernel
theorem dX9_parse_269 : decode cX9_parse 269 = .ok (.iload 4, 2) := by decide +kernel
theorem dX9_parse_271 : decode cX9_parse 271 = .ok (.iload 6, 2) := by decide +kernel
theorem dX9_parse_273 : decode cX9_parse 273 = .ok (.iconst 4, 1) := by decide +kernel
theorem dX9_parse_274 : decode cX9_parse 274 = .ok (.iadd, 1) := by decide +kernel
theorem dX9_parse_275 : decode cX9_parse 275 = .ok (.if_icmp .ge 43, 3) := by decide +kernel
theorem dX9_parse_278 : decode cX9_parse 278 = .ok (.aload_n 0, 1) := by decide +kernel
theorem dX9_parse_279 : decode cX9_parse 279 = .ok (.iload 4, 2) := by decide +kernel
theorem dX9_parse_281 : decode cX9_parse 281 = .ok (.invokevirtual 126, 3) := by decide +kernel
theorem dX9_parse_284 : decode cX9_parse 284 = .ok (.bipush 48, 2) := by decide +kernel
theorem dX9_parse_286 : decode cX9_parse 286 = .ok (.bipush 57, 2) := by decide +kernel
theorem dX9_parse_288 : decode cX9_parse 288 = .ok (.invokestatic 97, 3) := by decide +kernel
theorem dX9_parse_291 : decode cX9_parse 291 = .ok (.ifCond .eq 27, 3) := by decide +kernel
theorem dX9_parse_294 : decode cX9_parse 294 = .ok (.bipush 10, 2) := by decide +kernel
theorem dX9_parse_296 : decode cX9_parse 296 = .ok (.iload 7, 2) := by decide +kernel
theorem dX9_parse_298 : decode cX9_parse 298 = .ok (.imul, 1) := by decide +kernel
theorem dX9_parse_299 : decode cX9_parse 299 = .ok (.aload_n 0, 1) := by decide +kernel
theorem dX9_parse_300 : decode cX9_parse 300 = .ok (.getfield 9, 3) := by decide +kernel
theorem dX9_parse_303 : decode cX9_parse 303 = .ok (.iload 4, 2) := by decide +kernel
theorem dX9_parse_305 : decode cX9_parse 305 = .ok (.iaload, 1) := by decide +kernel
theorem dX9_parse_306 : decode cX9_parse 306 = .ok (.iadd, 1) := by decide +kernel
theorem dX9_parse_307 : decode cX9_parse 307 = .ok (.bipush 48, 2) := by decide +kernel
theorem dX9_parse_309 : decode cX9_parse 309 = .ok (.isub, 1) := by decide +kernel
theorem dX9_parse_310 : decode cX9_parse 310 = .ok (.istore 7, 2) := by decide +kernel
theorem dX9_parse_312 : decode cX9_parse 312 = .ok (.iinc 4 1, 3) := by decide +kernel
theorem dX9_parse_315 : decode cX9_parse 315 = .ok (.goto (-46), 3) := by decide +kernel
theorem dX9_parse_318 : decode cX9_parse 318 = .ok (.iload 4, 2) := by decide +kernel
theorem dX9_parse_320 : decode cX9_parse 320 = .ok (.iload 6, 2) := by decide +kernel
theorem dX9_parse_322 : decode cX9_parse 322 = .ok (.iconst 1, 1) := by decide +kernel
theorem dX9_parse_323 : decode cX9_parse 323 = .ok (.iadd, 1) := by decide +kernel
theorem dX9_parse_324 : decode cX9_parse 324 = .ok (.if_icmp .ne 6, 3) := by decide +kernel
theorem dX9_parse_327 : decode cX9_parse 327 = .ok (.iload 4, 2) := by decide +kernel
theorem dX9_parse_329 : decode cX9_parse 329 = .ok (.ireturn, 1) := by decide +kernel
theorem dX9_parse_330 : decode cX9_parse 330 = .ok (.aload_n 0, 1) := by decide +kernel
theorem dX9_parse_331 : decode cX9_parse 331 = .ok (.iload 7, 2) := by decide +kernel
theorem dX9_parse_333 : decode cX9_parse 333 = .ok (.aload_n 2, 1) := by decide +kernel
theorem dX9_parse_334 : decode cX9_parse 334 = .ok (.iload_n 3, 1) := by decide +kernel
theorem dX9_parse_335 : decode cX9_parse 335 = .ok (.iaload, 1) := by decide +kernel
theorem dX9_parse_336 : decode cX9_parse 336 = .ok (.invokevirtual 143, 3) := by decide +kernel
theorem dX9_parse_339 : decode cX9_parse 339 = .ok (.iload 7, 2) := by decide +kernel
theorem dX9_parse_341 : decode cX9_parse 341 = .ok (.aload_n 0, 1) := by decide +kernel
theorem dX9_parse_342 : decode cX9_parse 342 = .ok (.getfield 107, 3) := by decide +kernel
theorem dX9_parse_345 : decode cX9_parse 345 = .ok (.if_icmp .ge 14, 3) := by decide +kernel
theorem dX9_parse_348 : decode cX9_parse 348 = .ok (.aload_n 0, 1) := by decide +kernel
theorem dX9_parse_349 : decode cX9_parse 349 = .ok (.getfield 46, 3) := by decide +kernel
theorem dX9_parse_352 : decode cX9_parse 352 = .ok (.iload 7, 2) := by decide +kernel
theorem dX9_parse_354 : decode cX9_parse 354 = .ok (.iaload, 1) := by decide +kernel
theorem dX9_parse_355 : decode cX9_parse 355 = .ok (.iload_n 1, 1) := by decide +kernel
theorem dX9_parse_356 : decode cX9_parse 356 = .ok (.if_icmp .eq 27, 3) := by decide +kernel
theorem dX9_parse_359 : decode cX9_parse 359 = .ok (.aload_n 0, 1) := by decide +kernel
theorem dX9_parse_360 : decode cX9_parse 360 = .ok (.aload_n 0, 1) := by decide +kernel
theorem dX9_parse_361 : decode cX9_parse 361 = .ok (.getfield 120, 3) := by decide +kernel
theorem dX9_parse_364 : decode cX9_parse 364 = .ok (.iconst (-1), 1) := by decide +kernel
theorem dX9_parse_365 : decode cX9_parse 365 = .ok (.if_icmp .ne 8, 3) := by decide +kernel
theorem dX9_parse_368 : decode cX9_parse 368 = .ok (.iload 6, 2) := by decide +kernel
theorem dX9_parse_370 : decode cX9_parse 370 = .ok (.goto 7, 3) := by decide +kernel
theorem dX9_parse_373 : decode cX9_parse 373 = .ok (.aload_n 0, 1) := by decide +kernel
theorem dX9_parse_374 : decode cX9_parse 374 = .ok (.getfield 120, 3) := by decide +kernel
theorem dX9_parse_377 : decode cX9_parse 377 = .ok (.putfield 120, 3) := by decide +kernel
theorem dX9_parse_380 : decode cX9_parse 380 = .ok (.goto 16, 3) := by decide +kernel
theorem dX9_parse_383 : decode cX9_parse 383 = .ok (.aload_n 0, 1) := by decide +kernel
theorem dX9_parse_384 : decode cX9_parse 384 = .ok (.dup, 1) := by decide +kernel
theorem dX9_parse_385 : decode cX9_parse 385 = .ok (.getfield 123, 3) := by decide +kernel
theorem dX9_parse_388 : decode cX9_parse 388 = .ok (.iconst 1, 1) := by decide +kernel
theorem dX9_parse_389 : decode cX9_parse 389 = .ok (.iload 7, 2) := by decide +kernel
theorem dX9_parse_391 : decode cX9_parse 391 = .ok (.ishl, 1) := by decide +kernel
theorem dX9_parse_392 : decode cX9_parse 392 = .ok (.ior, 1) := by decide +kernel
theorem dX9_parse_393 : decode cX9_parse 393 = .ok (.putfield 123, 3) := by decide +kernel
theorem dX9_parse_396 : decode cX9_parse 396 = .ok (.goto 45, 3) := by decide +kernel
theorem dX9_parse_399 : decode cX9_parse 399 = .ok (.iload 5, 2) := by decide +kernel
theorem dX9_parse_401 : decode cX9_parse 401 = .ok (.bipush 10, 2) := by decide +kernel
theorem dX9_parse_403 : decode cX9_parse 403 = .ok (.if_icmp .eq 15, 3) := by decide +kernel
theorem dX9_parse_406 : decode cX9_parse 406 = .ok (.iload 5, 2) := by decide +kernel
theorem dX9_parse_408 : decode cX9_parse 408 = .ok (.bipush 32, 2) := by decide +kernel
theorem dX9_parse_410 : decode cX9_parse 410 = .ok (.bipush 126, 2) := by decide +kernel
theorem dX9_parse_412 : decode cX9_parse 412 = .ok (.invokestatic 97, 3) := by decide +kernel
theorem dX9_parse_415 : decode cX9_parse 415 = .ok (.ifCond .eq 10, 3) := by decide +kernel
theorem dX9_parse_418 : decode cX9_parse 418 = .ok (.iload 5, 2) := by decide +kernel
theorem dX9_parse_420 : decode cX9_parse 420 = .ok (.bipush 125, 2) := by decide +kernel
theorem dX9_parse_422 : decode cX9_parse 422 = .ok (.if_icmp .ne 6, 3) := by decide +kernel
theorem dX9_parse_425 : decode cX9_parse 425 = .ok (.iload 4, 2) := by decide +kernel
theorem dX9_parse_427 : decode cX9_parse 427 = .ok (.ireturn, 1) := by decide +kernel
theorem dX9_parse_428 : decode cX9_parse 428 = .ok (.aload_n 0, 1) := by decide +kernel
theorem dX9_parse_429 : decode cX9_parse 429 = .ok (.iload 5, 2) := by decide +kernel
theorem dX9_parse_431 : decode cX9_parse 431 = .ok (.aload_n 2, 1) := by decide +kernel
theorem dX9_parse_432 : decode cX9_parse 432 = .ok (.iload_n 3, 1) := by decide +kernel
theorem dX9_parse_433 : decode cX9_parse 433 = .ok (.iaload, 1) := by decide +kernel
theorem dX9_parse_434 : decode cX9_parse 434 = .ok (.iconst 0, 1) := by decide +kernel
theorem dX9_parse_435 : decode cX9_parse 435 = .ok (.invokevirtual 139, 3) := by decide +kernel
theorem dX9_parse_438 : decode cX9_parse 438 = .ok (.iinc 4 1, 3) := by decide +kernel
theorem dX9_parse_441 : decode cX9_parse 441 = .ok (.goto (-416), 3) := by decide +kernel
theorem dX9_parse_444 : decode cX9_parse 444 = .ok (.iload_n 3, 1) := by decide +kernel
theorem dX9_parse_445 : decode cX9_parse 445 = .ok (.ifCond .ne 7, 3) := by decide +kernel
theorem dX9_parse_448 : decode cX9_parse 448 = .ok (.iconst (-1), 1) := by decide +kernel
theorem dX9_parse_449 : decode cX9_parse 449 = .ok (.goto 7, 3) := by decide +kernel
theorem dX9_parse_452 : decode cX9_parse 452 = .ok (.aload_n 0, 1) := by decide +kernel
theorem dX9_parse_453 : decode cX9_parse 453 = .ok (.getfield 110, 3) := by decide +kernel
theorem dX9_parse_456 : decode cX9_parse 456 = .ok (.ireturn, 1) := by decide +kernel
theorem dX9_writeExhibit_0 : decode cX9_writeExhibit 0 = .ok (.aload_n 0, 1) := by decide +kernel
theorem dX9_writeExhibit_1 : decode cX9_writeExhibit 1 = .ok (.bipush 69, 2) := by decide +kernel
theorem dX9_writeExhibit_3 : decode cX9_writeExhibit 3 = .ok (.iload_n 2, 1) := by decide +kernel
theorem dX9_writeExhibit_4 : decode cX9_writeExhibit 4 = .ok (.iconst 0, 1) := by decide +kernel
theorem dX9_writeExhibit_5 : decode cX9_writeExhibit 5 = .ok (.invokevirtual 139, 3) := by decide +kernel
theorem dX9_writeExhibit_8 : decode cX9_writeExhibit 8 = .ok (.aload_n 0, 1) := by decide +kernel
theorem dX9_writeExhibit_9 : decode cX9_writeExhibit 9 = .ok (.bipush 120, 2) := by decide +kernel
theorem dX9_writeExhibit_11 : decode cX9_writeExhibit 11 = .ok (.iload_n 2, 1) := by decide +kernel
theorem dX9_writeExhibit_12 : decode cX9_writeExhibit 12 = .ok (.iconst 0, 1) := by decide +kernel
theorem dX9_writeExhibit_13 : decode cX9_writeExhibit 13 = .ok (.invokevirtual 139, 3) := by decide +kernel
theorem dX9_writeExhibit_16 : decode cX9_writeExhibit 16 = .ok (.aload_n 0, 1) := by decide +kernel
theorem dX9_writeExhibit_17 : decode cX9_writeExhibit 17 = .ok (.bipush 46, 2) := by decide +kernel
theorem dX9_writeExhibit_19 : decode cX9_writeExhibit 19 = .ok (.iload_n 2, 1) := by decide +kernel
theorem dX9_writeExhibit_20 : decode cX9_writeExhibit 20 = .ok (.iconst 0, 1) := by decide +kernel
theorem dX9_writeExhibit_21 : decode cX9_writeExhibit 21 = .ok (.invokevirtual 139, 3) := by decide +kernel
theorem dX9_writeExhibit_24 : decode cX9_writeExhibit 24 = .ok (.aload_n 0, 1) := by decide +kernel
theorem dX9_writeExhibit_25 : decode cX9_writeExhibit 25 = .ok (.bipush 32, 2) := by decide +kernel
theorem dX9_writeExhibit_27 : decode cX9_writeExhibit 27 = .ok (.iload_n 2, 1) := by decide +kernel
theorem dX9_writeExhibit_28 : decode cX9_writeExhibit 28 = .ok (.iconst 0, 1) := by decide +kernel
theorem dX9_writeExhibit_29 : decode cX9_writeExhibit 29 = .ok (.invokevirtual 139, 3) := by decide +kernel
theorem dX9_writeExhibit_32 : decode cX9_writeExhibit 32 = .ok (.iload_n 1, 1) := by decide +kernel
theorem dX9_writeExhibit_33 : decode cX9_writeExhibit 33 = .ok (.bipush 99, 2) := by decide +kernel
theorem dX9_writeExhibit_35 : decode cX9_writeExhibit 35 = .ok (.if_icmp .le 16, 3) := by decide +kernel
theorem dX9_writeExhibit_38 : decode cX9_writeExhibit 38 = .ok (.aload_n 0, 1) := by decide +kernel
theorem dX9_writeExhibit_39 : decode cX9_writeExhibit 39 = .ok (.bipush 48, 2) := by decide +kernel
theorem dX9_writeExhibit_41 : decode cX9_writeExhibit 41 = .ok (.iload_n 1, 1) := by decide +kernel
theorem dX9_writeExhibit_42 : decode cX9_writeExhibit 42 = .ok (.bipush 100, 2) := by decide +kernel
theorem dX9_writeExhibit_44 : decode cX9_writeExhibit 44 = .ok (.idiv, 1) := by decide +kernel
theorem dX9_writeExhibit_45 : decode cX9_writeExhibit 45 = .ok (.iadd, 1) := by decide +kernel
theorem dX9_writeExhibit_46 : decode cX9_writeExhibit 46 = .ok (.iload_n 2, 1) := by decide +kernel
theorem dX9_writeExhibit_47 : decode cX9_writeExhibit 47 = .ok (.iconst 0, 1) := by decide +kernel
theorem dX9_writeExhibit_48 : decode cX9_writeExhibit 48 = .ok (.invokevirtual 139, 3) := by decide +kernel
theorem dX9_writeExhibit_51 : decode cX9_writeExhibit 51 = .ok (.iload_n 1, 1) := by decide +kernel
theorem dX9_writeExhibit_52 : decode cX9_writeExhibit 52 = .ok (.bipush 9, 2) := by decide +kernel
theorem dX9_writeExhibit_54 : decode cX9_writeExhibit 54 = .ok (.if_icmp .le 19, 3) := by decide +kernel
theorem dX9_writeExhibit_57 : decode cX9_writeExhibit 57 = .ok (.aload_n 0, 1) := by decide +kernel
theorem dX9_writeExhibit_58 : decode cX9_writeExhibit 58 = .ok (.bipush 48, 2) := by decide +kernel
theorem dX9_writeExhibit_60 : decode cX9_writeExhibit 60 = .ok (.iload_n 1, 1) := by decide +kernel
theorem dX9_writeExhibit_61 : decode cX9_writeExhibit 61 = .ok (.bipush 10, 2) := by decide +kernel
theorem dX9_writeExhibit_63 : decode cX9_writeExhibit 63 = .ok (.idiv, 1) := by decide +kernel
theorem dX9_writeExhibit_64 : decode cX9_writeExhibit 64 = .ok (.bipush 10, 2) := by decide +kernel
theorem dX9_writeExhibit_66 : decode cX9_writeExhibit 66 = .ok (.irem, 1) := by decide +kernel
theorem dX9_writeExhibit_67 : decode cX9_writeExhibit 67 = .ok (.iadd, 1) := by decide +kernel
theorem dX9_writeExhibit_68 : decode cX9_writeExhibit 68 = .ok (.iload_n 2, 1) := by decide +kernel
theorem dX9_writeExhibit_69 : decode cX9_writeExhibit 69 = .ok (.iconst 0, 1) := by decide +kernel
theorem dX9_writeExhibit_70 : decode cX9_writeExhibit 70 = .ok (.invokevirtual 139, 3) := by decide +kernel
theorem dX9_writeExhibit_73 : decode cX9_writeExhibit 73 = .ok (.aload_n 0, 1) := by decide +kernel
theorem dX9_writeExhibit_74 : decode cX9_writeExhibit 74 = .ok (.bipush 48, 2) := by decide +kernel
theorem dX9_writeExhibit_76 : decode cX9_writeExhibit 76 = .ok (.iload_n 1, 1) := by decide +kernel
theorem dX9_writeExhibit_77 : decode cX9_writeExhibit 77 = .ok (.bipush 10, 2) := by decide +kernel
theorem dX9_writeExhibit_79 : decode cX9_writeExhibit 79 = .ok (.irem, 1) := by decide +kernel
theorem dX9_writeExhibit_80 : decode cX9_writeExhibit 80 = .ok (.iadd, 1) := by decide +kernel
theorem dX9_writeExhibit_81 : decode cX9_writeExhibit 81 = .ok (.iload_n 2, 1) := by decide +kernel
theorem dX9_writeExhibit_82 : decode cX9_writeExhibit 82 = .ok (.iconst 0, 1) := by decide +kernel
theorem dX9_writeExhibit_83 : decode cX9_writeExhibit 83 = .ok (.invokevirtual 139, 3) := by decide +kernel
theorem dX9_writeExhibit_86 : decode cX9_writeExhibit 86 = .ok (.return_, 1) := by decide +kernel
theorem dX9_file_0 : decode cX9_file 0 = .ok (.aload_n 0, 1) := by decide +kernel
theorem dX9_file_1 : decode cX9_file 1 = .ok (.iconst 0, 1) := by decide +kernel
theorem dX9_file_2 : decode cX9_file 2 = .ok (.putfield 91, 3) := by decide +kernel
theorem dX9_file_5 : decode cX9_file 5 = .ok (.aload_n 0, 1) := by decide +kernel
theorem dX9_file_6 : decode cX9_file 6 = .ok (.iload_n 1, 1) := by decide +kernel
theorem dX9_file_7 : decode cX9_file 7 = .ok (.invokevirtual 147, 3) := by decide +kernel
theorem dX9_file_10 : decode cX9_file 10 = .ok (.ifCond .ne 9, 3) := by decide +kernel
theorem dX9_file_13 : decode cX9_file 13 = .ok (.aload_n 0, 1) := by decide +kernel
theorem dX9_file_14 : decode cX9_file 14 = .ok (.iconst 1, 1) := by decide +kernel
theorem dX9_file_15 : decode cX9_file 15 = .ok (.invokevirtual 113, 3) := by decide +kernel
theorem dX9_file_18 : decode cX9_file 18 = .ok (.ireturn, 1) := by decide +kernel
theorem dX9_file_19 : decode cX9_file 19 = .ok (.aload_n 0, 1) := by decide +kernel
theorem dX9_file_20 : decode cX9_file 20 = .ok (.getfield 104, 3) := by decide +kernel
theorem dX9_file_23 : decode cX9_file 23 = .ok (.bipush 24, 2) := by decide +kernel
theorem dX9_file_25 : decode cX9_file 25 = .ok (.if_icmp .ne 9, 3) := by decide +kernel
theorem dX9_file_28 : decode cX9_file 28 = .ok (.aload_n 0, 1) := by decide +kernel
theorem dX9_file_29 : decode cX9_file 29 = .ok (.iconst 2, 1) := by decide +kernel
theorem dX9_file_30 : decode cX9_file 30 = .ok (.invokevirtual 113, 3) := by decide +kernel
theorem dX9_file_33 : decode cX9_file 33 = .ok (.ireturn, 1) := by decide +kernel
theorem dX9_file_34 : decode cX9_file 34 = .ok (.aload_n 0, 1) := by decide +kernel
theorem dX9_file_35 : decode cX9_file 35 = .ok (.aload_n 0, 1) := by decide +kernel
theorem dX9_file_36 : decode cX9_file 36 = .ok (.iload_n 1, 1) := by decide +kernel
theorem dX9_file_37 : decode cX9_file 37 = .ok (.invokevirtual 150, 3) := by decide +kernel
theorem dX9_file_40 : decode cX9_file 40 = .ok (.putfield 13, 3) := by decide +kernel
theorem dX9_file_43 : decode cX9_file 43 = .ok (.aload_n 0, 1) := by decide +kernel
theorem dX9_file_44 : decode cX9_file 44 = .ok (.getfield 13, 3) := by decide +kernel
theorem dX9_file_47 : decode cX9_file 47 = .ok (.iconst (-1), 1) := by decide +kernel
theorem dX9_file_48 : decode cX9_file 48 = .ok (.if_icmp .eq 7, 3) := by decide +kernel
theorem dX9_file_51 : decode cX9_file 51 = .ok (.iconst 1, 1) := by decide +kernel
theorem dX9_file_52 : decode cX9_file 52 = .ok (.goto 4, 3) := by decide +kernel
theorem dX9_file_55 : decode cX9_file 55 = .ok (.iconst 0, 1) := by decide +kernel
theorem dX9_file_56 : decode cX9_file 56 = .ok (.istore_n 2, 1) := by decide +kernel
theorem dX9_file_57 : decode cX9_file 57 = .ok (.iload_n 2, 1) := by decide +kernel
theorem dX9_file_58 : decode cX9_file 58 = .ok (.ifCond .ne 11, 3) := by decide +kernel
theorem dX9_file_61 : decode cX9_file 61 = .ok (.aload_n 0, 1) := by decide +kernel
theorem dX9_file_62 : decode cX9_file 62 = .ok (.aload_n 0, 1) := by decide +kernel
theorem dX9_file_63 : decode cX9_file 63 = .ok (.getfield 120, 3) := by decide +kernel
theorem dX9_file_66 : decode cX9_file 66 = .ok (.putfield 13, 3) := by decide +kernel
theorem dX9_file_69 : decode cX9_file 69 = .ok (.aload_n 0, 1) := by decide +kernel
theorem dX9_file_70 : decode cX9_file 70 = .ok (.iconst 0, 1) := by decide +kernel
theorem dX9_file_71 : decode cX9_file 71 = .ok (.putfield 110, 3) := by decide +kernel
theorem dX9_file_74 : decode cX9_file 74 = .ok (.aload_n 0, 1) := by decide +kernel
theorem dX9_file_75 : decode cX9_file 75 = .ok (.getfield 13, 3) := by decide +kernel
theorem dX9_file_78 : decode cX9_file 78 = .ok (.iconst (-1), 1) := by decide +kernel
theorem dX9_file_79 : decode cX9_file 79 = .ok (.if_icmp .eq 14, 3) := by decide +kernel
theorem dX9_file_82 : decode cX9_file 82 = .ok (.iload_n 2, 1) := by decide +kernel
theorem dX9_file_83 : decode cX9_file 83 = .ok (.ifCond .eq 7, 3) := by decide +kernel
theorem dX9_file_86 : decode cX9_file 86 = .ok (.iconst (-1), 1) := by decide +kernel
theorem dX9_file_87 : decode cX9_file 87 = .ok (.goto 5, 3) := by decide +kernel
theorem dX9_file_90 : decode cX9_file 90 = .ok (.bipush (-2), 2) := by decide +kernel
theorem dX9_file_92 : decode cX9_file 92 = .ok (.ireturn, 1) := by decide +kernel
theorem dX9_file_93 : decode cX9_file 93 = .ok (.aload_n 0, 1) := by decide +kernel
theorem dX9_file_94 : decode cX9_file 94 = .ok (.getfield 33, 3) := by decide +kernel
theorem dX9_file_97 : decode cX9_file 97 = .ok (.aload_n 0, 1) := by decide +kernel
theorem dX9_file_98 : decode cX9_file 98 = .ok (.getfield 104, 3) := by decide +kernel
theorem dX9_file_101 : decode cX9_file 101 = .ok (.aload_n 0, 1) := by decide +kernel
theorem dX9_file_102 : decode cX9_file 102 = .ok (.getfield 82, 3) := by decide +kernel
theorem dX9_file_105 : decode cX9_file 105 = .ok (.aload_n 0, 1) := by decide +kernel
theorem dX9_file_106 : decode cX9_file 106 = .ok (.getfield 117, 3) := by decide +kernel
theorem dX9_file_109 : decode cX9_file 109 = .ok (.invokestatic 153, 3) := by decide +kernel
theorem dX9_file_112 : decode cX9_file 112 = .ok (.aastore, 1) := by decide +kernel
theorem dX9_file_113 : decode cX9_file 113 = .ok (.aload_n 0, 1) := by decide +kernel
theorem dX9_file_114 : decode cX9_file 114 = .ok (.getfield 37, 3) := by decide +kernel
theorem dX9_file_117 : decode cX9_file 117 = .ok (.aload_n 0, 1) := by decide +kernel
theorem dX9_file_118 : decode cX9_file 118 = .ok (.getfield 104, 3) := by decide +kernel
theorem dX9_file_121 : decode cX9_file 121 = .ok (.aload_n 0, 1) := by decide +kernel
theorem dX9_file_122 : decode cX9_file 122 = .ok (.getfield 85, 3) := by decide +kernel
theorem dX9_file_125 : decode cX9_file 125 = .ok (.aload_n 0, 1) := by decide +kernel
theorem dX9_file_126 : decode cX9_file 126 = .ok (.getfield 117, 3) := by decide +kernel
theorem dX9_file_129 : decode cX9_file 129 = .ok (.invokestatic 153, 3) := by decide +kernel
theorem dX9_file_132 : decode cX9_file 132 = .ok (.aastore, 1) := by decide +kernel
theorem dX9_file_133 : decode cX9_file 133 = .ok (.aload_n 0, 1) := by decide +kernel
theorem dX9_file_134 : decode cX9_file 134 = .ok (.getfield 40, 3) := by decide +kernel
theorem dX9_file_137 : decode cX9_file 137 = .ok (.aload_n 0, 1) := by decide +kernel
theorem dX9_file_138 : decode cX9_file 138 = .ok (.getfield 104, 3) := by decide +kernel
theorem dX9_file_141 : decode cX9_file 141 = .ok (.aload_n 0, 1) := by decide +kernel
theorem dX9_file_142 : decode cX9_file 142 = .ok (.getfield 88, 3) := by decide +kernel
theorem dX9_file_145 : decode cX9_file 145 = .ok (.aload_n 0, 1) := by decide +kernel
theorem dX9_file_146 : decode cX9_file 146 = .ok (.getfield 117, 3) := by decide +kernel
theorem dX9_file_149 : decode cX9_file 149 = .ok (.invokestatic 153, 3) := by decide +kernel
theorem dX9_file_152 : decode cX9_file 152 = .ok (.aastore, 1) := by decide +kernel
theorem dX9_file_153 : decode cX9_file 153 = .ok (.aload_n 0, 1) := by decide +kernel
theorem dX9_file_154 : decode cX9_file 154 = .ok (.getfield 43, 3) := by decide +kernel
theorem dX9_file_157 : decode cX9_file 157 = .ok (.aload_n 0, 1) := by decide +kernel
theorem dX9_file_158 : decode cX9_file 158 = .ok (.getfield 104, 3) := by decide +kernel
theorem dX9_file_161 : decode cX9_file 161 = .ok (.aload_n 0, 1) := by decide +kernel
theorem dX9_file_162 : decode cX9_file 162 = .ok (.getfield 123, 3) := by decide +kernel
theorem dX9_file_165 : decode cX9_file 165 = .ok (.iastore, 1) := by decide +kernel
theorem dX9_file_166 : decode cX9_file 166 = .ok (.aload_n 0, 1) := by decide +kernel
theorem dX9_file_167 : decode cX9_file 167 = .ok (.getfield 29, 3) := by decide +kernel
theorem dX9_file_170 : decode cX9_file 170 = .ok (.aload_n 0, 1) := by decide +kernel
theorem dX9_file_171 : decode cX9_file 171 = .ok (.getfield 104, 3) := by decide +kernel
theorem dX9_file_174 : decode cX9_file 174 = .ok (.iload_n 1, 1) := by decide +kernel
theorem dX9_file_175 : decode cX9_file 175 = .ok (.iastore, 1) := by decide +kernel
theorem dX9_file_176 : decode cX9_file 176 = .ok (.aload_n 0, 1) := by decide +kernel
theorem dX9_file_177 : decode cX9_file 177 = .ok (.getfield 75, 3) := by decide +kernel
theorem dX9_file_180 : decode cX9_file 180 = .ok (.getfield 158, 3) := by decide +kernel
theorem dX9_file_183 : decode cX9_file 183 = .ok (.aload_n 0, 1) := by decide +kernel
theorem dX9_file_184 : decode cX9_file 184 = .ok (.getfield 104, 3) := by decide +kernel
theorem dX9_file_187 : decode cX9_file 187 = .ok (.iconst (-1), 1) := by decide +kernel
theorem dX9_file_188 : decode cX9_file 188 = .ok (.iastore, 1) := by decide +kernel
theorem dX9_file_189 : decode cX9_file 189 = .ok (.aload_n 0, 1) := by decide +kernel
theorem dX9_file_190 : decode cX9_file 190 = .ok (.getfield 75, 3) := by decide +kernel
theorem dX9_file_193 : decode cX9_file 193 = .ok (.getfield 161, 3) := by decide +kernel
theorem dX9_file_196 : decode cX9_file 196 = .ok (.aload_n 0, 1) := by decide +kernel
theorem dX9_file_197 : decode cX9_file 197 = .ok (.getfield 104, 3) := by decide +kernel
theorem dX9_file_200 : decode cX9_file 200 = .ok (.iconst (-1), 1) := by decide +kernel
theorem dX9_file_201 : decode cX9_file 201 = .ok (.iastore, 1) := by decide +kernel
theorem dX9_file_202 : decode cX9_file 202 = .ok (.aload_n 0, 1) := by decide +kernel
theorem dX9_file_203 : decode cX9_file 203 = .ok (.dup, 1) := by decide +kernel
theorem dX9_file_204 : decode cX9_file 204 = .ok (.getfield 104, 3) := by decide +kernel
theorem dX9_file_207 : decode cX9_file 207 = .ok (.iconst 1, 1) := by decide +kernel
theorem dX9_file_208 : decode cX9_file 208 = .ok (.iadd, 1) := by decide +kernel
theorem dX9_file_209 : decode cX9_file 209 = .ok (.putfield 104, 3) := by decide +kernel
theorem dX9_file_212 : decode cX9_file 212 = .ok (.aload_n 0, 1) := by decide +kernel
theorem dX9_file_213 : decode cX9_file 213 = .ok (.getfield 104, 3) := by decide +kernel
theorem dX9_file_216 : decode cX9_file 216 = .ok (.iconst 1, 1) := by decide +kernel
theorem dX9_file_217 : decode cX9_file 217 = .ok (.isub, 1) := by decide +kernel
theorem dX9_file_218 : decode cX9_file 218 = .ok (.ireturn, 1) := by decide +kernel
theorem dX9_errorAt_0 : decode cX9_errorAt 0 = .ok (.aload_n 0, 1) := by decide +kernel
theorem dX9_errorAt_1 : decode cX9_errorAt 1 = .ok (.iconst 0, 1) := by decide +kernel
theorem dX9_errorAt_2 : decode cX9_errorAt 2 = .ok (.putfield 91, 3) := by decide +kernel
theorem dX9_errorAt_5 : decode cX9_errorAt 5 = .ok (.aload_n 0, 1) := by decide +kernel
theorem dX9_errorAt_6 : decode cX9_errorAt 6 = .ok (.getfield 13, 3) := by decide +kernel
theorem dX9_errorAt_9 : decode cX9_errorAt 9 = .ok (.ireturn, 1) := by decide +kernel
theorem dX9_veil_0 : decode cX9_veil 0 = .ok (.aload_n 0, 1) := by decide +kernel
theorem dX9_veil_1 : decode cX9_veil 1 = .ok (.iconst 0, 1) := by decide +kernel
theorem dX9_veil_2 : decode cX9_veil 2 = .ok (.putfield 91, 3) := by decide +kernel
theorem dX9_veil_5 : decode cX9_veil 5 = .ok (.aload_n 0, 1) := by decide +kernel
theorem dX9_veil_6 : decode cX9_veil 6 = .ok (.iload_n 1, 1) := by decide +kernel
theorem dX9_veil_7 : decode cX9_veil 7 = .ok (.invokevirtual 164, 3) := by decide +kernel
theorem dX9_veil_10 : decode cX9_veil 10 = .ok (.ifCond .ne 9, 3) := by decide +kernel
theorem dX9_veil_13 : decode cX9_veil 13 = .ok (.aload_n 0, 1) := by decide +kernel
theorem dX9_veil_14 : decode cX9_veil 14 = .ok (.iconst 1, 1) := by decide +kernel
theorem dX9_veil_15 : decode cX9_veil 15 = .ok (.invokevirtual 113, 3) := by decide +kernel
theorem dX9_veil_18 : decode cX9_veil 18 = .ok (.ireturn, 1) := by decide +kernel
theorem dX9_veil_19 : decode cX9_veil 19 = .ok (.iload_n 2, 1) := by decide +kernel
theorem dX9_veil_20 : decode cX9_veil 20 = .ok (.iconst 0, 1) := by decide +kernel
theorem dX9_veil_21 : decode cX9_veil 21 = .ok (.iload_n 3, 1) := by decide +kernel
theorem dX9_veil_22 : decode cX9_veil 22 = .ok (.invokestatic 97, 3) := by decide +kernel
theorem dX9_veil_25 : decode cX9_veil 25 = .ok (.ifCond .eq 25, 3) := by decide +kernel
theorem dX9_veil_28 : decode cX9_veil 28 = .ok (.iload_n 3, 1) := by decide +kernel
theorem dX9_veil_29 : decode cX9_veil 29 = .ok (.aload_n 0, 1) := by decide +kernel
theorem dX9_veil_30 : decode cX9_veil 30 = .ok (.getfield 33, 3) := by decide +kernel
theorem dX9_veil_33 : decode cX9_veil 33 = .ok (.iload_n 1, 1) := by decide +kernel
theorem dX9_veil_34 : decode cX9_veil 34 = .ok (.aaload, 1) := by decide +kernel
theorem dX9_veil_35 : decode cX9_veil 35 = .ok (.arraylength, 1) := by decide +kernel
theorem dX9_veil_36 : decode cX9_veil 36 = .ok (.if_icmp .gt 14, 3) := by decide +kernel
theorem dX9_veil_39 : decode cX9_veil 39 = .ok (.iload 4, 2) := by decide +kernel
theorem dX9_veil_41 : decode cX9_veil 41 = .ok (.iconst 0, 1) := by decide +kernel
theorem dX9_veil_42 : decode cX9_veil 42 = .ok (.bipush 9, 2) := by decide +kernel
theorem dX9_veil_44 : decode cX9_veil 44 = .ok (.invokestatic 97, 3) := by decide +kernel
theorem dX9_veil_47 : decode cX9_veil 47 = .ok (.ifCond .ne 9, 3) := by decide +kernel
theorem dX9_veil_50 : decode cX9_veil 50 = .ok (.aload_n 0, 1) := by decide +kernel
theorem dX9_veil_51 : decode cX9_veil 51 = .ok (.iconst 2, 1) := by decide +kernel
theorem dX9_veil_52 : decode cX9_veil 52 = .ok (.invokevirtual 113, 3) := by decide +kernel
theorem dX9_veil_55 : decode cX9_veil 55 = .ok (.ireturn, 1) := by decide +kernel
theorem dX9_veil_56 : decode cX9_veil 56 = .ok (.iconst 0, 1) := by decide +kernel
theorem dX9_veil_57 : decode cX9_veil 57 = .ok (.istore 5, 2) := by decide +kernel
theorem dX9_veil_59 : decode cX9_veil 59 = .ok (.iload_n 2, 1) := by decide +kernel
theorem dX9_veil_60 : decode cX9_veil 60 = .ok (.istore 6, 2) := by decide +kernel
theorem dX9_veil_62 : decode cX9_veil 62 = .ok (.iload 6, 2) := by decide +kernel
theorem dX9_veil_64 : decode cX9_veil 64 = .ok (.iload_n 3, 1) := by decide +kernel
theorem dX9_veil_65 : decode cX9_veil 65 = .ok (.if_icmp .ge 44, 3) := by decide +kernel
theorem dX9_veil_68 : decode cX9_veil 68 = .ok (.iload 5, 2) := by decide +kernel
theorem dX9_veil_70 : decode cX9_veil 70 = .ok (.aload_n 0, 1) := by decide +kernel
theorem dX9_veil_71 : decode cX9_veil 71 = .ok (.getfield 37, 3) := by decide +kernel
theorem dX9_veil_74 : decode cX9_veil 74 = .ok (.iload_n 1, 1) := by decide +kernel
theorem dX9_veil_75 : decode cX9_veil 75 = .ok (.aaload, 1) := by decide +kernel
theorem dX9_veil_76 : decode cX9_veil 76 = .ok (.iload 6, 2) := by decide +kernel
theorem dX9_veil_78 : decode cX9_veil 78 = .ok (.iaload, 1) := by decide +kernel
theorem dX9_veil_79 : decode cX9_veil 79 = .ok (.iload 4, 2) := by decide +kernel
theorem dX9_veil_81 : decode cX9_veil 81 = .ok (.if_icmp .ne 7, 3) := by decide +kernel
theorem dX9_veil_84 : decode cX9_veil 84 = .ok (.iconst 0, 1) := by decide +kernel
theorem dX9_veil_85 : decode cX9_veil 85 = .ok (.goto 4, 3) := by decide +kernel
theorem dX9_veil_88 : decode cX9_veil 88 = .ok (.iconst 1, 1) := by decide +kernel
theorem dX9_veil_89 : decode cX9_veil 89 = .ok (.iadd, 1) := by decide +kernel
theorem dX9_veil_90 : decode cX9_veil 90 = .ok (.istore 5, 2) := by decide +kernel
theorem dX9_veil_92 : decode cX9_veil 92 = .ok (.aload_n 0, 1) := by decide +kernel
theorem dX9_veil_93 : decode cX9_veil 93 = .ok (.getfield 37, 3) := by decide +kernel
theorem dX9_veil_96 : decode cX9_veil 96 = .ok (.iload_n 1, 1) := by decide +kernel
theorem dX9_veil_97 : decode cX9_veil 97 = .ok (.aaload, 1) := by decide +kernel
theorem dX9_veil_98 : decode cX9_veil 98 = .ok (.iload 6, 2) := by decide +kernel
theorem dX9_veil_100 : decode cX9_veil 100 = .ok (.iload 4, 2) := by decide +kernel
theorem dX9_veil_102 : decode cX9_veil 102 = .ok (.iastore, 1) := by decide +kernel
theorem dX9_veil_103 : decode cX9_veil 103 = .ok (.iinc 6 1, 3) := by decide +kernel
theorem dX9_veil_106 : decode cX9_veil 106 = .ok (.goto (-44), 3) := by decide +kernel
theorem dX9_veil_109 : decode cX9_veil 109 = .ok (.iload 5, 2) := by decide +kernel
theorem dX9_veil_111 : decode cX9_veil 111 = .ok (.ireturn, 1) := by decide +kernel
theorem dX9_documentTold_0 : decode cX9_documentTold 0 = .ok (.iconst 0, 1) := by decide +kernel
theorem dX9_documentTold_1 : decode cX9_documentTold 1 = .ok (.istore_n 3, 1) := by decide +kernel
theorem dX9_documentTold_2 : decode cX9_documentTold 2 = .ok (.iconst 0, 1) := by decide +kernel
theorem dX9_documentTold_3 : decode cX9_documentTold 3 = .ok (.istore 4, 2) := by decide +kernel
theorem dX9_documentTold_5 : decode cX9_documentTold 5 = .ok (.iconst 0, 1) := by decide +kernel
theorem dX9_documentTold_6 : decode cX9_documentTold 6 = .ok (.istore 5, 2) := by decide +kernel
theorem dX9_documentTold_8 : decode cX9_documentTold 8 = .ok (.iconst 0, 1) := by decide +kernel
theorem dX9_documentTold_9 : decode cX9_documentTold 9 = .ok (.istore 6, 2) := by decide +kernel
theorem dX9_documentTold_11 : decode cX9_documentTold 11 = .ok (.iload 6, 2) := by decide +kernel
theorem dX9_documentTold_13 : decode cX9_documentTold 13 = .ok (.aload_n 0, 1) := by decide +kernel
theorem dX9_documentTold_14 : decode cX9_documentTold 14 = .ok (.getfield 33, 3) := by decide +kernel
theorem dX9_documentTold_17 : decode cX9_documentTold 17 = .ok (.iload_n 1, 1) := by decide +kernel
theorem dX9_documentTold_18 : decode cX9_documentTold 18 = .ok (.aaload, 1) := by decide +kernel
theorem dX9_documentTold_19 : decode cX9_documentTold 19 = .ok (.arraylength, 1) := by decide +kernel
theorem dX9_documentTold_20 : decode cX9_documentTold 20 = .ok (.if_icmp .ge 59, 3) := by decide +kernel
theorem dX9_documentTold_23 : decode cX9_documentTold 23 = .ok (.iload_n 3, 1) := by decide +kernel
theorem dX9_documentTold_24 : decode cX9_documentTold 24 = .ok (.aload_n 0, 1) := by decide +kernel
theorem dX9_documentTold_25 : decode cX9_documentTold 25 = .ok (.getfield 37, 3) := by decide +kernel
theorem dX9_documentTold_28 : decode cX9_documentTold 28 = .ok (.iload_n 1, 1) := by decide +kernel
theorem dX9_documentTold_29 : decode cX9_documentTold 29 = .ok (.aaload, 1) := by decide +kernel
theorem dX9_documentTold_30 : decode cX9_documentTold 30 = .ok (.iload 6, 2) := by decide +kernel
theorem dX9_documentTold_32 : decode cX9_documentTold 32 = .ok (.iaload, 1) := by decide +kernel
theorem dX9_documentTold_33 : decode cX9_documentTold 33 = .ok (.ifCond .le 7, 3) := by decide +kernel
theorem dX9_documentTold_36 : decode cX9_documentTold 36 = .ok (.iconst 1, 1) := by decide +kernel
theorem dX9_documentTold_37 : decode cX9_documentTold 37 = .ok (.goto 4, 3) := by decide +kernel
theorem dX9_documentTold_40 : decode cX9_documentTold 40 = .ok (.iconst 0, 1) := by decide +kernel
theorem dX9_documentTold_41 : decode cX9_documentTold 41 = .ok (.iadd, 1) := by decide +kernel
theorem dX9_documentTold_42 : decode cX9_documentTold 42 = .ok (.istore_n 3, 1) := by decide +kernel
theorem dX9_documentTold_43 : decode cX9_documentTold 43 = .ok (.iload 4, 2) := by decide +kernel
theorem dX9_documentTold_45 : decode cX9_documentTold 45 = .ok (.aload_n 0, 1) := by decide +kernel
theorem dX9_documentTold_46 : decode cX9_documentTold 46 = .ok (.getfield 37, 3) := by decide +kernel
theorem dX9_documentTold_49 : decode cX9_documentTold 49 = .ok (.iload_n 1, 1) := by decide +kernel
theorem dX9_documentTold_50 : decode cX9_documentTold 50 = .ok (.aaload, 1) := by decide +kernel
theorem dX9_documentTold_51 : decode cX9_documentTold 51 = .ok (.iload 6, 2) := by decide +kernel
theorem dX9_documentTold_53 : decode cX9_documentTold 53 = .ok (.iaload, 1) := by decide +kernel
theorem dX9_documentTold_54 : decode cX9_documentTold 54 = .ok (.invokestatic 129, 3) := by decide +kernel
theorem dX9_documentTold_57 : decode cX9_documentTold 57 = .ok (.istore 4, 2) := by decide +kernel
theorem dX9_documentTold_59 : decode cX9_documentTold 59 = .ok (.iload 5, 2) := by decide +kernel
theorem dX9_documentTold_61 : decode cX9_documentTold 61 = .ok (.aload_n 0, 1) := by decide +kernel
theorem dX9_documentTold_62 : decode cX9_documentTold 62 = .ok (.getfield 40, 3) := by decide +kernel
theorem dX9_documentTold_65 : decode cX9_documentTold 65 = .ok (.iload_n 1, 1) := by decide +kernel
theorem dX9_documentTold_66 : decode cX9_documentTold 66 = .ok (.aaload, 1) := by decide +kernel
theorem dX9_documentTold_67 : decode cX9_documentTold 67 = .ok (.iload 6, 2) := by decide +kernel
theorem dX9_documentTold_69 : decode cX9_documentTold 69 = .ok (.iaload, 1) := by decide +kernel
theorem dX9_documentTold_70 : decode cX9_documentTold 70 = .ok (.iadd, 1) := by decide +kernel
theorem dX9_documentTold_71 : decode cX9_documentTold 71 = .ok (.istore 5, 2) := by decide +kernel
theorem dX9_documentTold_73 : decode cX9_documentTold 73 = .ok (.iinc 6 1, 3) := by decide +kernel
theorem dX9_documentTold_76 : decode cX9_documentTold 76 = .ok (.goto (-65), 3) := by decide +kernel
theorem dX9_documentTold_79 : decode cX9_documentTold 79 = .ok (.bipush 8, 2) := by decide +kernel
theorem dX9_documentTold_81 : decode cX9_documentTold 81 = .ok (.newarray .int, 2) := by decide +kernel
theorem dX9_documentTold_83 : decode cX9_documentTold 83 = .ok (.dup, 1) := by decide +kernel
theorem dX9_documentTold_84 : decode cX9_documentTold 84 = .ok (.iconst 0, 1) := by decide +kernel
theorem dX9_documentTold_85 : decode cX9_documentTold 85 = .ok (.aload_n 0, 1) := by decide +kernel
theorem dX9_documentTold_86 : decode cX9_documentTold 86 = .ok (.getfield 29, 3) := by decide +kernel
theorem dX9_documentTold_89 : decode cX9_documentTold 89 = .ok (.iload_n 1, 1) := by decide +kernel
theorem dX9_documentTold_90 : decode cX9_documentTold 90 = .ok (.iaload, 1) := by decide +kernel
theorem dX9_documentTold_91 : decode cX9_documentTold 91 = .ok (.iastore, 1) := by decide +kernel
theorem dX9_documentTold_92 : decode cX9_documentTold 92 = .ok (.dup, 1) := by decide +kernel
theorem dX9_documentTold_93 : decode cX9_documentTold 93 = .ok (.iconst 1, 1) := by decide +kernel
theorem dX9_documentTold_94 : decode cX9_documentTold 94 = .ok (.aload_n 0, 1) := by decide +kernel
theorem dX9_documentTold_95 : decode cX9_documentTold 95 = .ok (.getfield 33, 3) := by decide +kernel
theorem dX9_documentTold_98 : decode cX9_documentTold 98 = .ok (.iload_n 1, 1) := by decide +kernel
theorem dX9_documentTold_99 : decode cX9_documentTold 99 = .ok (.aaload, 1) := by decide +kernel
theorem dX9_documentTold_100 : decode cX9_documentTold 100 = .ok (.arraylength, 1) := by decide +kernel
theorem dX9_documentTold_101 : decode cX9_documentTold 101 = .ok (.iastore, 1) := by decide +kernel
theorem dX9_documentTold_102 : decode cX9_documentTold 102 = .ok (.dup, 1) := by decide +kernel
theorem dX9_documentTold_103 : decode cX9_documentTold 103 = .ok (.iconst 2, 1) := by decide +kernel
theorem dX9_documentTold_104 : decode cX9_documentTold 104 = .ok (.iload_n 3, 1) := by decide +kernel
theorem dX9_documentTold_105 : decode cX9_documentTold 105 = .ok (.iastore, 1) := by decide +kernel
theorem dX9_documentTold_106 : decode cX9_documentTold 106 = .ok (.dup, 1) := by decide +kernel
theorem dX9_documentTold_107 : decode cX9_documentTold 107 = .ok (.iconst 3, 1) := by decide +kernel
theorem dX9_documentTold_108 : decode cX9_documentTold 108 = .ok (.iload 4, 2) := by decide +kernel
theorem dX9_documentTold_110 : decode cX9_documentTold 110 = .ok (.iastore, 1) := by decide +kernel
theorem dX9_documentTold_111 : decode cX9_documentTold 111 = .ok (.dup, 1) := by decide +kernel
theorem dX9_documentTold_112 : decode cX9_documentTold 112 = .ok (.iconst 4, 1) := by decide +kernel
theorem dX9_documentTold_113 : decode cX9_documentTold 113 = .ok (.iload 5, 2) := by decide +kernel
theorem dX9_documentTold_115 : decode cX9_documentTold 115 = .ok (.iastore, 1) := by decide +kernel
theorem dX9_documentTold_116 : decode cX9_documentTold 116 = .ok (.dup, 1) := by decide +kernel
theorem dX9_documentTold_117 : decode cX9_documentTold 117 = .ok (.iconst 5, 1) := by decide +kernel
theorem dX9_documentTold_118 : decode cX9_documentTold 118 = .ok (.aload_n 0, 1) := by decide +kernel
theorem dX9_documentTold_119 : decode cX9_documentTold 119 = .ok (.getfield 75, 3) := by decide +kernel
theorem dX9_documentTold_122 : decode cX9_documentTold 122 = .ok (.getfield 158, 3) := by decide +kernel
theorem dX9_documentTold_125 : decode cX9_documentTold 125 = .ok (.iload_n 1, 1) := by decide +kernel
theorem dX9_documentTold_126 : decode cX9_documentTold 126 = .ok (.iaload, 1) := by decide +kernel
theorem dX9_documentTold_127 : decode cX9_documentTold 127 = .ok (.iastore, 1) := by decide +kernel
theorem dX9_documentTold_128 : decode cX9_documentTold 128 = .ok (.dup, 1) := by decide +kernel
theorem dX9_documentTold_129 : decode cX9_documentTold 129 = .ok (.bipush 6, 2) := by decide +kernel
theorem dX9_documentTold_131 : decode cX9_documentTold 131 = .ok (.aload_n 0, 1) := by decide +kernel
theorem dX9_documentTold_132 : decode cX9_documentTold 132 = .ok (.getfield 75, 3) := by decide +kernel
theorem dX9_documentTold_135 : decode cX9_documentTold 135 = .ok (.getfield 161, 3) := by decide +kernel
theorem dX9_documentTold_138 : decode cX9_documentTold 138 = .ok (.iload_n 1, 1) := by decide +kernel
theorem dX9_documentTold_139 : decode cX9_documentTold 139 = .ok (.iaload, 1) := by decide +kernel
theorem dX9_documentTold_140 : decode cX9_documentTold 140 = .ok (.iastore, 1) := by decide +kernel
theorem dX9_documentTold_141 : decode cX9_documentTold 141 = .ok (.dup, 1) := by decide +kernel
theorem dX9_documentTold_142 : decode cX9_documentTold 142 = .ok (.bipush 7, 2) := by decide +kernel
theorem dX9_documentTold_144 : decode cX9_documentTold 144 = .ok (.aload_n 0, 1) := by decide +kernel
theorem dX9_documentTold_145 : decode cX9_documentTold 145 = .ok (.getfield 75, 3) := by decide +kernel
theorem dX9_documentTold_148 : decode cX9_documentTold 148 = .ok (.getfield 167, 3) := by decide +kernel
theorem dX9_documentTold_151 : decode cX9_documentTold 151 = .ok (.iload_n 1, 1) := by decide +kernel
theorem dX9_documentTold_152 : decode cX9_documentTold 152 = .ok (.iaload, 1) := by decide +kernel
theorem dX9_documentTold_153 : decode cX9_documentTold 153 = .ok (.iastore, 1) := by decide +kernel
theorem dX9_documentTold_154 : decode cX9_documentTold 154 = .ok (.astore 6, 2) := by decide +kernel
theorem dX9_documentTold_156 : decode cX9_documentTold 156 = .ok (.aload 6, 2) := by decide +kernel
theorem dX9_documentTold_158 : decode cX9_documentTold 158 = .ok (.iload_n 2, 1) := by decide +kernel
theorem dX9_documentTold_159 : decode cX9_documentTold 159 = .ok (.iaload, 1) := by decide +kernel
theorem dX9_documentTold_160 : decode cX9_documentTold 160 = .ok (.ireturn, 1) := by decide +kernel
theorem dX9_document_0 : decode cX9_document 0 = .ok (.aload_n 0, 1) := by decide +kernel
theorem dX9_document_1 : decode cX9_document 1 = .ok (.iconst 0, 1) := by decide +kernel
theorem dX9_document_2 : decode cX9_document 2 = .ok (.putfield 91, 3) := by decide +kernel
theorem dX9_document_5 : decode cX9_document 5 = .ok (.aload_n 0, 1) := by decide +kernel
theorem dX9_document_6 : decode cX9_document 6 = .ok (.iload_n 1, 1) := by decide +kernel
theorem dX9_document_7 : decode cX9_document 7 = .ok (.invokevirtual 164, 3) := by decide +kernel
theorem dX9_document_10 : decode cX9_document 10 = .ok (.ifCond .eq 22, 3) := by decide +kernel
theorem dX9_document_13 : decode cX9_document 13 = .ok (.iload_n 2, 1) := by decide +kernel
theorem dX9_document_14 : decode cX9_document 14 = .ok (.iconst 0, 1) := by decide +kernel
theorem dX9_document_15 : decode cX9_document 15 = .ok (.bipush 7, 2) := by decide +kernel
theorem dX9_document_17 : decode cX9_document 17 = .ok (.invokestatic 97, 3) := by decide +kernel
theorem dX9_document_20 : decode cX9_document 20 = .ok (.ifCond .eq 12, 3) := by decide +kernel
theorem dX9_document_23 : decode cX9_document 23 = .ok (.aload_n 0, 1) := by decide +kernel
theorem dX9_document_24 : decode cX9_document 24 = .ok (.iload_n 1, 1) := by decide +kernel
theorem dX9_document_25 : decode cX9_document 25 = .ok (.iload_n 2, 1) := by decide +kernel
theorem dX9_document_26 : decode cX9_document 26 = .ok (.invokevirtual 170, 3) := by decide +kernel
theorem dX9_document_29 : decode cX9_document 29 = .ok (.goto 8, 3) := by decide +kernel
theorem dX9_document_32 : decode cX9_document 32 = .ok (.aload_n 0, 1) := by decide +kernel
theorem dX9_document_33 : decode cX9_document 33 = .ok (.iconst 1, 1) := by decide +kernel
theorem dX9_document_34 : decode cX9_document 34 = .ok (.invokevirtual 113, 3) := by decide +kernel
theorem dX9_document_37 : decode cX9_document 37 = .ok (.ireturn, 1) := by decide +kernel
theorem dX9_open_0 : decode cX9_open 0 = .ok (.aload_n 0, 1) := by decide +kernel
theorem dX9_open_1 : decode cX9_open 1 = .ok (.iconst 0, 1) := by decide +kernel
theorem dX9_open_2 : decode cX9_open 2 = .ok (.putfield 91, 3) := by decide +kernel
theorem dX9_open_5 : decode cX9_open 5 = .ok (.iload_n 1, 1) := by decide +kernel
theorem dX9_open_6 : decode cX9_open 6 = .ok (.iconst 0, 1) := by decide +kernel
theorem dX9_open_7 : decode cX9_open 7 = .ok (.bipush 9, 2) := by decide +kernel
theorem dX9_open_9 : decode cX9_open 9 = .ok (.invokestatic 97, 3) := by decide +kernel
theorem dX9_open_12 : decode cX9_open 12 = .ok (.ifCond .ne 9, 3) := by decide +kernel
theorem dX9_open_15 : decode cX9_open 15 = .ok (.aload_n 0, 1) := by decide +kernel
theorem dX9_open_16 : decode cX9_open 16 = .ok (.iconst 1, 1) := by decide +kernel
theorem dX9_open_17 : decode cX9_open 17 = .ok (.invokevirtual 113, 3) := by decide +kernel
theorem dX9_open_20 : decode cX9_open 20 = .ok (.ireturn, 1) := by decide +kernel
theorem dX9_open_21 : decode cX9_open 21 = .ok (.aload_n 0, 1) := by decide +kernel
theorem dX9_open_22 : decode cX9_open 22 = .ok (.getfield 94, 3) := by decide +kernel
theorem dX9_open_25 : decode cX9_open 25 = .ok (.bipush 8, 2) := by decide +kernel
theorem dX9_open_27 : decode cX9_open 27 = .ok (.if_icmp .ne 9, 3) := by decide +kernel
theorem dX9_open_30 : decode cX9_open 30 = .ok (.aload_n 0, 1) := by decide +kernel
theorem dX9_open_31 : decode cX9_open 31 = .ok (.iconst 2, 1) := by decide +kernel
theorem dX9_open_32 : decode cX9_open 32 = .ok (.invokevirtual 113, 3) := by decide +kernel
theorem dX9_open_35 : decode cX9_open 35 = .ok (.ireturn, 1) := by decide +kernel
theorem dX9_open_36 : decode cX9_open 36 = .ok (.aload_n 0, 1) := by decide +kernel
theorem dX9_open_37 : decode cX9_open 37 = .ok (.getfield 20, 3) := by decide +kernel
theorem dX9_open_40 : decode cX9_open 40 = .ok (.aload_n 0, 1) := by decide +kernel
theorem dX9_open_41 : decode cX9_open 41 = .ok (.getfield 94, 3) := by decide +kernel
theorem dX9_open_44 : decode cX9_open 44 = .ok (.iload_n 1, 1) := by decide +kernel
theorem dX9_open_45 : decode cX9_open 45 = .ok (.iastore, 1) := by decide +kernel
theorem dX9_open_46 : decode cX9_open 46 = .ok (.aload_n 0, 1) := by decide +kernel
theorem dX9_open_47 : decode cX9_open 47 = .ok (.dup, 1) := by decide +kernel
theorem dX9_open_48 : decode cX9_open 48 = .ok (.getfield 94, 3) := by decide +kernel
theorem dX9_open_51 : decode cX9_open 51 = .ok (.iconst 1, 1) := by decide +kernel
theorem dX9_open_52 : decode cX9_open 52 = .ok (.iadd, 1) := by decide +kernel
theorem dX9_open_53 : decode cX9_open 53 = .ok (.putfield 94, 3) := by decide +kernel
theorem dX9_open_56 : decode cX9_open 56 = .ok (.aload_n 0, 1) := by decide +kernel
theorem dX9_open_57 : decode cX9_open 57 = .ok (.getfield 94, 3) := by decide +kernel
theorem dX9_open_60 : decode cX9_open 60 = .ok (.iconst 1, 1) := by decide +kernel
theorem dX9_open_61 : decode cX9_open 61 = .ok (.isub, 1) := by decide +kernel
theorem dX9_open_62 : decode cX9_open 62 = .ok (.ireturn, 1) := by decide +kernel
theorem dX9_seal_0 : decode cX9_seal 0 = .ok (.aload_n 0, 1) := by decide +kernel
theorem dX9_seal_1 : decode cX9_seal 1 = .ok (.iconst 0, 1) := by decide +kernel
theorem dX9_seal_2 : decode cX9_seal 2 = .ok (.putfield 91, 3) := by decide +kernel
theorem dX9_seal_5 : decode cX9_seal 5 = .ok (.aload_n 0, 1) := by decide +kernel
theorem dX9_seal_6 : decode cX9_seal 6 = .ok (.iload_n 1, 1) := by decide +kernel
theorem dX9_seal_7 : decode cX9_seal 7 = .ok (.invokevirtual 147, 3) := by decide +kernel
theorem dX9_seal_10 : decode cX9_seal 10 = .ok (.ifCond .ne 9, 3) := by decide +kernel
theorem dX9_seal_13 : decode cX9_seal 13 = .ok (.aload_n 0, 1) := by decide +kernel
theorem dX9_seal_14 : decode cX9_seal 14 = .ok (.iconst 1, 1) := by decide +kernel
theorem dX9_seal_15 : decode cX9_seal 15 = .ok (.invokevirtual 113, 3) := by decide +kernel
theorem dX9_seal_18 : decode cX9_seal 18 = .ok (.ireturn, 1) := by decide +kernel
theorem dX9_seal_19 : decode cX9_seal 19 = .ok (.iload_n 2, 1) := by decide +kernel
theorem dX9_seal_20 : decode cX9_seal 20 = .ok (.iconst 0, 1) := by decide +kernel
theorem dX9_seal_21 : decode cX9_seal 21 = .ok (.bipush 9, 2) := by decide +kernel
theorem dX9_seal_23 : decode cX9_seal 23 = .ok (.invokestatic 97, 3) := by decide +kernel
theorem dX9_seal_26 : decode cX9_seal 26 = .ok (.ifCond .ne 9, 3) := by decide +kernel
theorem dX9_seal_29 : decode cX9_seal 29 = .ok (.aload_n 0, 1) := by decide +kernel
theorem dX9_seal_30 : decode cX9_seal 30 = .ok (.iconst 2, 1) := by decide +kernel
theorem dX9_seal_31 : decode cX9_seal 31 = .ok (.invokevirtual 113, 3) := by decide +kernel
theorem dX9_seal_34 : decode cX9_seal 34 = .ok (.ireturn, 1) := by decide +kernel
theorem dX9_seal_35 : decode cX9_seal 35 = .ok (.aload_n 0, 1) := by decide +kernel
theorem dX9_seal_36 : decode cX9_seal 36 = .ok (.getfield 20, 3) := by decide +kernel
theorem dX9_seal_39 : decode cX9_seal 39 = .ok (.iload_n 1, 1) := by decide +kernel
theorem dX9_seal_40 : decode cX9_seal 40 = .ok (.iaload, 1) := by decide +kernel
theorem dX9_seal_41 : decode cX9_seal 41 = .ok (.istore_n 3, 1) := by decide +kernel
theorem dX9_seal_42 : decode cX9_seal 42 = .ok (.aload_n 0, 1) := by decide +kernel
theorem dX9_seal_43 : decode cX9_seal 43 = .ok (.getfield 20, 3) := by decide +kernel
theorem dX9_seal_46 : decode cX9_seal 46 = .ok (.iload_n 1, 1) := by decide +kernel
theorem dX9_seal_47 : decode cX9_seal 47 = .ok (.iload_n 2, 1) := by decide +kernel
theorem dX9_seal_48 : decode cX9_seal 48 = .ok (.iastore, 1) := by decide +kernel
theorem dX9_seal_49 : decode cX9_seal 49 = .ok (.iload_n 3, 1) := by decide +kernel
theorem dX9_seal_50 : decode cX9_seal 50 = .ok (.ireturn, 1) := by decide +kernel
theorem dX9_addPerson_0 : decode cX9_addPerson 0 = .ok (.aload_n 0, 1) := by decide +kernel
theorem dX9_addPerson_1 : decode cX9_addPerson 1 = .ok (.iconst 0, 1) := by decide +kernel
theorem dX9_addPerson_2 : decode cX9_addPerson 2 = .ok (.putfield 91, 3) := by decide +kernel
theorem dX9_addPerson_5 : decode cX9_addPerson 5 = .ok (.iload_n 1, 1) := by decide +kernel
theorem dX9_addPerson_6 : decode cX9_addPerson 6 = .ok (.iconst 0, 1) := by decide +kernel
theorem dX9_addPerson_7 : decode cX9_addPerson 7 = .ok (.iconst 3, 1) := by decide +kernel
theorem dX9_addPerson_8 : decode cX9_addPerson 8 = .ok (.invokestatic 97, 3) := by decide +kernel
theorem dX9_addPerson_11 : decode cX9_addPerson 11 = .ok (.ifCond .eq 13, 3) := by decide +kernel
theorem dX9_addPerson_14 : decode cX9_addPerson 14 = .ok (.iload_n 2, 1) := by decide +kernel
theorem dX9_addPerson_15 : decode cX9_addPerson 15 = .ok (.iconst 0, 1) := by decide +kernel
theorem dX9_addPerson_16 : decode cX9_addPerson 16 = .ok (.bipush 9, 2) := by decide +kernel
theorem dX9_addPerson_18 : decode cX9_addPerson 18 = .ok (.invokestatic 97, 3) := by decide +kernel
theorem dX9_addPerson_21 : decode cX9_addPerson 21 = .ok (.ifCond .ne 9, 3) := by decide +kernel
theorem dX9_addPerson_24 : decode cX9_addPerson 24 = .ok (.aload_n 0, 1) := by decide +kernel
theorem dX9_addPerson_25 : decode cX9_addPerson 25 = .ok (.iconst 1, 1) := by decide +kernel
theorem dX9_addPerson_26 : decode cX9_addPerson 26 = .ok (.invokevirtual 113, 3) := by decide +kernel
theorem dX9_addPerson_29 : decode cX9_addPerson 29 = .ok (.ireturn, 1) := by decide +kernel
theorem dX9_addPerson_30 : decode cX9_addPerson 30 = .ok (.aload_n 0, 1) := by decide +kernel
theorem dX9_addPerson_31 : decode cX9_addPerson 31 = .ok (.getfield 101, 3) := by decide +kernel
theorem dX9_addPerson_34 : decode cX9_addPerson 34 = .ok (.bipush 12, 2) := by decide +kernel
theorem dX9_addPerson_36 : decode cX9_addPerson 36 = .ok (.if_icmp .ne 9, 3) := by decide +kernel
theorem dX9_addPerson_39 : decode cX9_addPerson 39 = .ok (.aload_n 0, 1) := by decide +kernel
