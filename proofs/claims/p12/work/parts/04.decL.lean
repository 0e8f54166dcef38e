/-! decode rows of ShopDesks$Ledger -/
theorem d_L_init_0 : decode c_L_init 0 = .ok (.aload_n 0, 1) := by decide +kernel
theorem d_L_init_1 : decode c_L_init 1 = .ok (.invokespecial 3, 3) := by decide +kernel
theorem d_L_init_4 : decode c_L_init 4 = .ok (.aload_n 0, 1) := by decide +kernel
theorem d_L_init_5 : decode c_L_init 5 = .ok (.bipush 60, 2) := by decide +kernel
theorem d_L_init_7 : decode c_L_init 7 = .ok (.anewarray 9, 3) := by decide +kernel
theorem d_L_init_10 : decode c_L_init 10 = .ok (.putfield 11, 3) := by decide +kernel
theorem d_L_init_13 : decode c_L_init 13 = .ok (.aload_n 0, 1) := by decide +kernel
theorem d_L_init_14 : decode c_L_init 14 = .ok (.bipush 61, 2) := by decide +kernel
theorem d_L_init_16 : decode c_L_init 16 = .ok (.newarray .int, 2) := by decide +kernel
theorem d_L_init_18 : decode c_L_init 18 = .ok (.putfield 17, 3) := by decide +kernel
theorem d_L_init_21 : decode c_L_init 21 = .ok (.aload_n 0, 1) := by decide +kernel
theorem d_L_init_22 : decode c_L_init 22 = .ok (.iconst 0, 1) := by decide +kernel
theorem d_L_init_23 : decode c_L_init 23 = .ok (.putfield 21, 3) := by decide +kernel
theorem d_L_init_26 : decode c_L_init 26 = .ok (.aload_n 0, 1) := by decide +kernel
theorem d_L_init_27 : decode c_L_init 27 = .ok (.iconst 0, 1) := by decide +kernel
theorem d_L_init_28 : decode c_L_init 28 = .ok (.putfield 25, 3) := by decide +kernel
theorem d_L_init_31 : decode c_L_init 31 = .ok (.aload_n 0, 1) := by decide +kernel
theorem d_L_init_32 : decode c_L_init 32 = .ok (.iconst (-1), 1) := by decide +kernel
theorem d_L_init_33 : decode c_L_init 33 = .ok (.putfield 28, 3) := by decide +kernel
theorem d_L_init_36 : decode c_L_init 36 = .ok (.iconst 0, 1) := by decide +kernel
theorem d_L_init_37 : decode c_L_init 37 = .ok (.istore_n 1, 1) := by decide +kernel
theorem d_L_init_38 : decode c_L_init 38 = .ok (.iload_n 1, 1) := by decide +kernel
theorem d_L_init_39 : decode c_L_init 39 = .ok (.bipush 60, 2) := by decide +kernel
theorem d_L_init_41 : decode c_L_init 41 = .ok (.if_icmp .ge 22, 3) := by decide +kernel
theorem d_L_init_44 : decode c_L_init 44 = .ok (.aload_n 0, 1) := by decide +kernel
theorem d_L_init_45 : decode c_L_init 45 = .ok (.getfield 11, 3) := by decide +kernel
theorem d_L_init_48 : decode c_L_init 48 = .ok (.iload_n 1, 1) := by decide +kernel
theorem d_L_init_49 : decode c_L_init 49 = .ok (.new 9, 3) := by decide +kernel
theorem d_L_init_52 : decode c_L_init 52 = .ok (.dup, 1) := by decide +kernel
theorem d_L_init_53 : decode c_L_init 53 = .ok (.invokespecial 31, 3) := by decide +kernel
theorem d_L_init_56 : decode c_L_init 56 = .ok (.aastore, 1) := by decide +kernel
theorem d_L_init_57 : decode c_L_init 57 = .ok (.iinc 1 1, 3) := by decide +kernel
theorem d_L_init_60 : decode c_L_init 60 = .ok (.goto (-22), 3) := by decide +kernel
theorem d_L_init_63 : decode c_L_init 63 = .ok (.return_, 1) := by decide +kernel
theorem d_L_openEntry_0 : decode c_L_openEntry 0 = .ok (.aload_n 0, 1) := by decide +kernel
theorem d_L_openEntry_1 : decode c_L_openEntry 1 = .ok (.getfield 11, 3) := by decide +kernel
theorem d_L_openEntry_4 : decode c_L_openEntry 4 = .ok (.aload_n 0, 1) := by decide +kernel
theorem d_L_openEntry_5 : decode c_L_openEntry 5 = .ok (.getfield 21, 3) := by decide +kernel
theorem d_L_openEntry_8 : decode c_L_openEntry 8 = .ok (.aaload, 1) := by decide +kernel
theorem d_L_openEntry_9 : decode c_L_openEntry 9 = .ok (.iload_n 1, 1) := by decide +kernel
theorem d_L_openEntry_10 : decode c_L_openEntry 10 = .ok (.putfield 32, 3) := by decide +kernel
theorem d_L_openEntry_13 : decode c_L_openEntry 13 = .ok (.aload_n 0, 1) := by decide +kernel
theorem d_L_openEntry_14 : decode c_L_openEntry 14 = .ok (.dup, 1) := by decide +kernel
theorem d_L_openEntry_15 : decode c_L_openEntry 15 = .ok (.getfield 21, 3) := by decide +kernel
theorem d_L_openEntry_18 : decode c_L_openEntry 18 = .ok (.iconst 1, 1) := by decide +kernel
theorem d_L_openEntry_19 : decode c_L_openEntry 19 = .ok (.iadd, 1) := by decide +kernel
theorem d_L_openEntry_20 : decode c_L_openEntry 20 = .ok (.putfield 21, 3) := by decide +kernel
theorem d_L_openEntry_23 : decode c_L_openEntry 23 = .ok (.aload_n 0, 1) := by decide +kernel
theorem d_L_openEntry_24 : decode c_L_openEntry 24 = .ok (.getfield 21, 3) := by decide +kernel
theorem d_L_openEntry_27 : decode c_L_openEntry 27 = .ok (.iconst 1, 1) := by decide +kernel
theorem d_L_openEntry_28 : decode c_L_openEntry 28 = .ok (.isub, 1) := by decide +kernel
theorem d_L_openEntry_29 : decode c_L_openEntry 29 = .ok (.ireturn, 1) := by decide +kernel
theorem d_L_giveNumber_0 : decode c_L_giveNumber 0 = .ok (.aload_n 0, 1) := by decide +kernel
theorem d_L_giveNumber_1 : decode c_L_giveNumber 1 = .ok (.dup, 1) := by decide +kernel
theorem d_L_giveNumber_2 : decode c_L_giveNumber 2 = .ok (.getfield 25, 3) := by decide +kernel
theorem d_L_giveNumber_5 : decode c_L_giveNumber 5 = .ok (.iconst 1, 1) := by decide +kernel
theorem d_L_giveNumber_6 : decode c_L_giveNumber 6 = .ok (.iadd, 1) := by decide +kernel
theorem d_L_giveNumber_7 : decode c_L_giveNumber 7 = .ok (.putfield 25, 3) := by decide +kernel
theorem d_L_giveNumber_10 : decode c_L_giveNumber 10 = .ok (.aload_n 0, 1) := by decide +kernel
theorem d_L_giveNumber_11 : decode c_L_giveNumber 11 = .ok (.getfield 11, 3) := by decide +kernel
theorem d_L_giveNumber_14 : decode c_L_giveNumber 14 = .ok (.iload_n 1, 1) := by decide +kernel
theorem d_L_giveNumber_15 : decode c_L_giveNumber 15 = .ok (.aaload, 1) := by decide +kernel
theorem d_L_giveNumber_16 : decode c_L_giveNumber 16 = .ok (.aload_n 0, 1) := by decide +kernel
theorem d_L_giveNumber_17 : decode c_L_giveNumber 17 = .ok (.getfield 25, 3) := by decide +kernel
theorem d_L_giveNumber_20 : decode c_L_giveNumber 20 = .ok (.putfield 35, 3) := by decide +kernel
theorem d_L_giveNumber_23 : decode c_L_giveNumber 23 = .ok (.aload_n 0, 1) := by decide +kernel
theorem d_L_giveNumber_24 : decode c_L_giveNumber 24 = .ok (.getfield 17, 3) := by decide +kernel
theorem d_L_giveNumber_27 : decode c_L_giveNumber 27 = .ok (.aload_n 0, 1) := by decide +kernel
theorem d_L_giveNumber_28 : decode c_L_giveNumber 28 = .ok (.getfield 25, 3) := by decide +kernel
theorem d_L_giveNumber_31 : decode c_L_giveNumber 31 = .ok (.iload_n 1, 1) := by decide +kernel
theorem d_L_giveNumber_32 : decode c_L_giveNumber 32 = .ok (.iastore, 1) := by decide +kernel
theorem d_L_giveNumber_33 : decode c_L_giveNumber 33 = .ok (.aload_n 0, 1) := by decide +kernel
theorem d_L_giveNumber_34 : decode c_L_giveNumber 34 = .ok (.getfield 25, 3) := by decide +kernel
theorem d_L_giveNumber_37 : decode c_L_giveNumber 37 = .ok (.ireturn, 1) := by decide +kernel
theorem d_L_addReversal_0 : decode c_L_addReversal 0 = .ok (.aload_n 0, 1) := by decide +kernel
theorem d_L_addReversal_1 : decode c_L_addReversal 1 = .ok (.iload_n 2, 1) := by decide +kernel
theorem d_L_addReversal_2 : decode c_L_addReversal 2 = .ok (.invokevirtual 38, 3) := by decide +kernel
theorem d_L_addReversal_5 : decode c_L_addReversal 5 = .ok (.istore_n 3, 1) := by decide +kernel
theorem d_L_addReversal_6 : decode c_L_addReversal 6 = .ok (.aload_n 0, 1) := by decide +kernel
theorem d_L_addReversal_7 : decode c_L_addReversal 7 = .ok (.getfield 11, 3) := by decide +kernel
theorem d_L_addReversal_10 : decode c_L_addReversal 10 = .ok (.iload_n 3, 1) := by decide +kernel
theorem d_L_addReversal_11 : decode c_L_addReversal 11 = .ok (.aaload, 1) := by decide +kernel
theorem d_L_addReversal_12 : decode c_L_addReversal 12 = .ok (.aload_n 1, 1) := by decide +kernel
theorem d_L_addReversal_13 : decode c_L_addReversal 13 = .ok (.invokevirtual 42, 3) := by decide +kernel
theorem d_L_addReversal_16 : decode c_L_addReversal 16 = .ok (.aload_n 0, 1) := by decide +kernel
theorem d_L_addReversal_17 : decode c_L_addReversal 17 = .ok (.getfield 11, 3) := by decide +kernel
theorem d_L_addReversal_20 : decode c_L_addReversal 20 = .ok (.iload_n 3, 1) := by decide +kernel
theorem d_L_addReversal_21 : decode c_L_addReversal 21 = .ok (.aaload, 1) := by decide +kernel
theorem d_L_addReversal_22 : decode c_L_addReversal 22 = .ok (.iconst 1, 1) := by decide +kernel
theorem d_L_addReversal_23 : decode c_L_addReversal 23 = .ok (.putfield 46, 3) := by decide +kernel
theorem d_L_addReversal_26 : decode c_L_addReversal 26 = .ok (.aload_n 1, 1) := by decide +kernel
theorem d_L_addReversal_27 : decode c_L_addReversal 27 = .ok (.iconst 1, 1) := by decide +kernel
theorem d_L_addReversal_28 : decode c_L_addReversal 28 = .ok (.putfield 50, 3) := by decide +kernel
theorem d_L_addReversal_31 : decode c_L_addReversal 31 = .ok (.aload_n 0, 1) := by decide +kernel
theorem d_L_addReversal_32 : decode c_L_addReversal 32 = .ok (.iload_n 3, 1) := by decide +kernel
theorem d_L_addReversal_33 : decode c_L_addReversal 33 = .ok (.invokevirtual 53, 3) := by decide +kernel
theorem d_L_addReversal_36 : decode c_L_addReversal 36 = .ok (.ireturn, 1) := by decide +kernel
theorem d_L_isInClosedMonth_0 : decode c_L_isInClosedMonth 0 = .ok (.iload_n 1, 1) := by decide +kernel
theorem d_L_isInClosedMonth_1 : decode c_L_isInClosedMonth 1 = .ok (.bipush 30, 2) := by decide +kernel
theorem d_L_isInClosedMonth_3 : decode c_L_isInClosedMonth 3 = .ok (.idiv, 1) := by decide +kernel
theorem d_L_isInClosedMonth_4 : decode c_L_isInClosedMonth 4 = .ok (.aload_n 0, 1) := by decide +kernel
theorem d_L_isInClosedMonth_5 : decode c_L_isInClosedMonth 5 = .ok (.getfield 28, 3) := by decide +kernel
theorem d_L_isInClosedMonth_8 : decode c_L_isInClosedMonth 8 = .ok (.if_icmp .gt 7, 3) := by decide +kernel
theorem d_L_isInClosedMonth_11 : decode c_L_isInClosedMonth 11 = .ok (.iconst 1, 1) := by decide +kernel
theorem d_L_isInClosedMonth_12 : decode c_L_isInClosedMonth 12 = .ok (.goto 4, 3) := by decide +kernel
theorem d_L_isInClosedMonth_15 : decode c_L_isInClosedMonth 15 = .ok (.iconst 0, 1) := by decide +kernel
theorem d_L_isInClosedMonth_16 : decode c_L_isInClosedMonth 16 = .ok (.ireturn, 1) := by decide +kernel
theorem d_L_sumUpTo_0 : decode c_L_sumUpTo 0 = .ok (.lconst 0, 1) := by decide +kernel
theorem d_L_sumUpTo_1 : decode c_L_sumUpTo 1 = .ok (.lstore_n 3, 1) := by decide +kernel
theorem d_L_sumUpTo_2 : decode c_L_sumUpTo 2 = .ok (.iconst 0, 1) := by decide +kernel
theorem d_L_sumUpTo_3 : decode c_L_sumUpTo 3 = .ok (.istore 5, 2) := by decide +kernel
theorem d_L_sumUpTo_5 : decode c_L_sumUpTo 5 = .ok (.iload 5, 2) := by decide +kernel
theorem d_L_sumUpTo_7 : decode c_L_sumUpTo 7 = .ok (.aload_n 0, 1) := by decide +kernel
theorem d_L_sumUpTo_8 : decode c_L_sumUpTo 8 = .ok (.getfield 21, 3) := by decide +kernel
theorem d_L_sumUpTo_11 : decode c_L_sumUpTo 11 = .ok (.if_icmp .ge 50, 3) := by decide +kernel
theorem d_L_sumUpTo_14 : decode c_L_sumUpTo 14 = .ok (.aload_n 0, 1) := by decide +kernel
theorem d_L_sumUpTo_15 : decode c_L_sumUpTo 15 = .ok (.getfield 11, 3) := by decide +kernel
theorem d_L_sumUpTo_18 : decode c_L_sumUpTo 18 = .ok (.iload 5, 2) := by decide +kernel
theorem d_L_sumUpTo_20 : decode c_L_sumUpTo 20 = .ok (.aaload, 1) := by decide +kernel
theorem d_L_sumUpTo_21 : decode c_L_sumUpTo 21 = .ok (.invokevirtual 56, 3) := by decide +kernel
theorem d_L_sumUpTo_24 : decode c_L_sumUpTo 24 = .ok (.ifCond .eq 31, 3) := by decide +kernel
theorem d_L_sumUpTo_27 : decode c_L_sumUpTo 27 = .ok (.aload_n 0, 1) := by decide +kernel
theorem d_L_sumUpTo_28 : decode c_L_sumUpTo 28 = .ok (.getfield 11, 3) := by decide +kernel
theorem d_L_sumUpTo_31 : decode c_L_sumUpTo 31 = .ok (.iload 5, 2) := by decide +kernel
theorem d_L_sumUpTo_33 : decode c_L_sumUpTo 33 = .ok (.aaload, 1) := by decide +kernel
theorem d_L_sumUpTo_34 : decode c_L_sumUpTo 34 = .ok (.getfield 32, 3) := by decide +kernel
theorem d_L_sumUpTo_37 : decode c_L_sumUpTo 37 = .ok (.iload_n 2, 1) := by decide +kernel
theorem d_L_sumUpTo_38 : decode c_L_sumUpTo 38 = .ok (.if_icmp .gt 17, 3) := by decide +kernel
theorem d_L_sumUpTo_41 : decode c_L_sumUpTo 41 = .ok (.lload_n 3, 1) := by decide +kernel
theorem d_L_sumUpTo_42 : decode c_L_sumUpTo 42 = .ok (.aload_n 0, 1) := by decide +kernel
theorem d_L_sumUpTo_43 : decode c_L_sumUpTo 43 = .ok (.getfield 11, 3) := by decide +kernel
theorem d_L_sumUpTo_46 : decode c_L_sumUpTo 46 = .ok (.iload 5, 2) := by decide +kernel
theorem d_L_sumUpTo_48 : decode c_L_sumUpTo 48 = .ok (.aaload, 1) := by decide +kernel
theorem d_L_sumUpTo_49 : decode c_L_sumUpTo 49 = .ok (.iload_n 1, 1) := by decide +kernel
theorem d_L_sumUpTo_50 : decode c_L_sumUpTo 50 = .ok (.invokevirtual 60, 3) := by decide +kernel
theorem d_L_sumUpTo_53 : decode c_L_sumUpTo 53 = .ok (.ladd, 1) := by decide +kernel
theorem d_L_sumUpTo_54 : decode c_L_sumUpTo 54 = .ok (.lstore_n 3, 1) := by decide +kernel
theorem d_L_sumUpTo_55 : decode c_L_sumUpTo 55 = .ok (.iinc 5 1, 3) := by decide +kernel
theorem d_L_sumUpTo_58 : decode c_L_sumUpTo 58 = .ok (.goto (-53), 3) := by decide +kernel
theorem d_L_sumUpTo_61 : decode c_L_sumUpTo 61 = .ok (.lload_n 3, 1) := by decide +kernel
theorem d_L_sumUpTo_62 : decode c_L_sumUpTo 62 = .ok (.lreturn, 1) := by decide +kernel
