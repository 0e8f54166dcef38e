/-! decode rows of ShopDesks$Entry -/
theorem d_E_init_0 : decode c_E_init 0 = .ok (.aload_n 0, 1) := by decide +kernel
theorem d_E_init_1 : decode c_E_init 1 = .ok (.invokespecial 3, 3) := by decide +kernel
theorem d_E_init_4 : decode c_E_init 4 = .ok (.aload_n 0, 1) := by decide +kernel
theorem d_E_init_5 : decode c_E_init 5 = .ok (.bipush 6, 2) := by decide +kernel
theorem d_E_init_7 : decode c_E_init 7 = .ok (.newarray .int, 2) := by decide +kernel
theorem d_E_init_9 : decode c_E_init 9 = .ok (.putfield 9, 3) := by decide +kernel
theorem d_E_init_12 : decode c_E_init 12 = .ok (.aload_n 0, 1) := by decide +kernel
theorem d_E_init_13 : decode c_E_init 13 = .ok (.bipush 6, 2) := by decide +kernel
theorem d_E_init_15 : decode c_E_init 15 = .ok (.newarray .long, 2) := by decide +kernel
theorem d_E_init_17 : decode c_E_init 17 = .ok (.putfield 15, 3) := by decide +kernel
theorem d_E_init_20 : decode c_E_init 20 = .ok (.aload_n 0, 1) := by decide +kernel
theorem d_E_init_21 : decode c_E_init 21 = .ok (.iconst 0, 1) := by decide +kernel
theorem d_E_init_22 : decode c_E_init 22 = .ok (.putfield 19, 3) := by decide +kernel
theorem d_E_init_25 : decode c_E_init 25 = .ok (.aload_n 0, 1) := by decide +kernel
theorem d_E_init_26 : decode c_E_init 26 = .ok (.iconst 0, 1) := by decide +kernel
theorem d_E_init_27 : decode c_E_init 27 = .ok (.putfield 23, 3) := by decide +kernel
theorem d_E_init_30 : decode c_E_init 30 = .ok (.aload_n 0, 1) := by decide +kernel
theorem d_E_init_31 : decode c_E_init 31 = .ok (.iconst 0, 1) := by decide +kernel
theorem d_E_init_32 : decode c_E_init 32 = .ok (.putfield 26, 3) := by decide +kernel
theorem d_E_init_35 : decode c_E_init 35 = .ok (.aload_n 0, 1) := by decide +kernel
theorem d_E_init_36 : decode c_E_init 36 = .ok (.iconst 0, 1) := by decide +kernel
theorem d_E_init_37 : decode c_E_init 37 = .ok (.putfield 29, 3) := by decide +kernel
theorem d_E_init_40 : decode c_E_init 40 = .ok (.aload_n 0, 1) := by decide +kernel
theorem d_E_init_41 : decode c_E_init 41 = .ok (.iconst 0, 1) := by decide +kernel
theorem d_E_init_42 : decode c_E_init 42 = .ok (.putfield 33, 3) := by decide +kernel
theorem d_E_init_45 : decode c_E_init 45 = .ok (.return_, 1) := by decide +kernel
theorem d_E_isClosed_0 : decode c_E_isClosed 0 = .ok (.aload_n 0, 1) := by decide +kernel
theorem d_E_isClosed_1 : decode c_E_isClosed 1 = .ok (.getfield 26, 3) := by decide +kernel
theorem d_E_isClosed_4 : decode c_E_isClosed 4 = .ok (.ifCond .eq 7, 3) := by decide +kernel
theorem d_E_isClosed_7 : decode c_E_isClosed 7 = .ok (.iconst 1, 1) := by decide +kernel
theorem d_E_isClosed_8 : decode c_E_isClosed 8 = .ok (.goto 4, 3) := by decide +kernel
theorem d_E_isClosed_11 : decode c_E_isClosed 11 = .ok (.iconst 0, 1) := by decide +kernel
theorem d_E_isClosed_12 : decode c_E_isClosed 12 = .ok (.ireturn, 1) := by decide +kernel
theorem d_E_addRow_0 : decode c_E_addRow 0 = .ok (.aload_n 0, 1) := by decide +kernel
theorem d_E_addRow_1 : decode c_E_addRow 1 = .ok (.getfield 9, 3) := by decide +kernel
theorem d_E_addRow_4 : decode c_E_addRow 4 = .ok (.aload_n 0, 1) := by decide +kernel
theorem d_E_addRow_5 : decode c_E_addRow 5 = .ok (.getfield 19, 3) := by decide +kernel
theorem d_E_addRow_8 : decode c_E_addRow 8 = .ok (.iload_n 1, 1) := by decide +kernel
theorem d_E_addRow_9 : decode c_E_addRow 9 = .ok (.iastore, 1) := by decide +kernel
theorem d_E_addRow_10 : decode c_E_addRow 10 = .ok (.aload_n 0, 1) := by decide +kernel
theorem d_E_addRow_11 : decode c_E_addRow 11 = .ok (.getfield 15, 3) := by decide +kernel
theorem d_E_addRow_14 : decode c_E_addRow 14 = .ok (.aload_n 0, 1) := by decide +kernel
theorem d_E_addRow_15 : decode c_E_addRow 15 = .ok (.getfield 19, 3) := by decide +kernel
theorem d_E_addRow_18 : decode c_E_addRow 18 = .ok (.lload_n 2, 1) := by decide +kernel
theorem d_E_addRow_19 : decode c_E_addRow 19 = .ok (.lastore, 1) := by decide +kernel
theorem d_E_addRow_20 : decode c_E_addRow 20 = .ok (.aload_n 0, 1) := by decide +kernel
theorem d_E_addRow_21 : decode c_E_addRow 21 = .ok (.dup, 1) := by decide +kernel
theorem d_E_addRow_22 : decode c_E_addRow 22 = .ok (.getfield 19, 3) := by decide +kernel
theorem d_E_addRow_25 : decode c_E_addRow 25 = .ok (.iconst 1, 1) := by decide +kernel
theorem d_E_addRow_26 : decode c_E_addRow 26 = .ok (.iadd, 1) := by decide +kernel
theorem d_E_addRow_27 : decode c_E_addRow 27 = .ok (.putfield 19, 3) := by decide +kernel
theorem d_E_addRow_30 : decode c_E_addRow 30 = .ok (.return_, 1) := by decide +kernel
theorem d_E_takeTurnedRound_0 : decode c_E_takeTurnedRound 0 = .ok (.iconst 0, 1) := by decide +kernel
theorem d_E_takeTurnedRound_1 : decode c_E_takeTurnedRound 1 = .ok (.istore_n 2, 1) := by decide +kernel
theorem d_E_takeTurnedRound_2 : decode c_E_takeTurnedRound 2 = .ok (.iload_n 2, 1) := by decide +kernel
theorem d_E_takeTurnedRound_3 : decode c_E_takeTurnedRound 3 = .ok (.aload_n 1, 1) := by decide +kernel
theorem d_E_takeTurnedRound_4 : decode c_E_takeTurnedRound 4 = .ok (.getfield 19, 3) := by decide +kernel
theorem d_E_takeTurnedRound_7 : decode c_E_takeTurnedRound 7 = .ok (.if_icmp .ge 26, 3) := by decide +kernel
theorem d_E_takeTurnedRound_10 : decode c_E_takeTurnedRound 10 = .ok (.aload_n 0, 1) := by decide +kernel
theorem d_E_takeTurnedRound_11 : decode c_E_takeTurnedRound 11 = .ok (.aload_n 1, 1) := by decide +kernel
theorem d_E_takeTurnedRound_12 : decode c_E_takeTurnedRound 12 = .ok (.getfield 9, 3) := by decide +kernel
theorem d_E_takeTurnedRound_15 : decode c_E_takeTurnedRound 15 = .ok (.iload_n 2, 1) := by decide +kernel
theorem d_E_takeTurnedRound_16 : decode c_E_takeTurnedRound 16 = .ok (.iaload, 1) := by decide +kernel
theorem d_E_takeTurnedRound_17 : decode c_E_takeTurnedRound 17 = .ok (.aload_n 1, 1) := by decide +kernel
theorem d_E_takeTurnedRound_18 : decode c_E_takeTurnedRound 18 = .ok (.getfield 15, 3) := by decide +kernel
theorem d_E_takeTurnedRound_21 : decode c_E_takeTurnedRound 21 = .ok (.iload_n 2, 1) := by decide +kernel
theorem d_E_takeTurnedRound_22 : decode c_E_takeTurnedRound 22 = .ok (.laload, 1) := by decide +kernel
theorem d_E_takeTurnedRound_23 : decode c_E_takeTurnedRound 23 = .ok (.lneg, 1) := by decide +kernel
theorem d_E_takeTurnedRound_24 : decode c_E_takeTurnedRound 24 = .ok (.invokevirtual 36, 3) := by decide +kernel
theorem d_E_takeTurnedRound_27 : decode c_E_takeTurnedRound 27 = .ok (.iinc 2 1, 3) := by decide +kernel
theorem d_E_takeTurnedRound_30 : decode c_E_takeTurnedRound 30 = .ok (.goto (-28), 3) := by decide +kernel
theorem d_E_takeTurnedRound_33 : decode c_E_takeTurnedRound 33 = .ok (.return_, 1) := by decide +kernel
theorem d_E_isBalanced_0 : decode c_E_isBalanced 0 = .ok (.lconst 0, 1) := by decide +kernel
theorem d_E_isBalanced_1 : decode c_E_isBalanced 1 = .ok (.lstore_n 1, 1) := by decide +kernel
theorem d_E_isBalanced_2 : decode c_E_isBalanced 2 = .ok (.iconst 0, 1) := by decide +kernel
theorem d_E_isBalanced_3 : decode c_E_isBalanced 3 = .ok (.istore_n 3, 1) := by decide +kernel
theorem d_E_isBalanced_4 : decode c_E_isBalanced 4 = .ok (.iload_n 3, 1) := by decide +kernel
theorem d_E_isBalanced_5 : decode c_E_isBalanced 5 = .ok (.aload_n 0, 1) := by decide +kernel
theorem d_E_isBalanced_6 : decode c_E_isBalanced 6 = .ok (.getfield 19, 3) := by decide +kernel
theorem d_E_isBalanced_9 : decode c_E_isBalanced 9 = .ok (.if_icmp .ge 18, 3) := by decide +kernel
theorem d_E_isBalanced_12 : decode c_E_isBalanced 12 = .ok (.lload_n 1, 1) := by decide +kernel
theorem d_E_isBalanced_13 : decode c_E_isBalanced 13 = .ok (.aload_n 0, 1) := by decide +kernel
theorem d_E_isBalanced_14 : decode c_E_isBalanced 14 = .ok (.getfield 15, 3) := by decide +kernel
theorem d_E_isBalanced_17 : decode c_E_isBalanced 17 = .ok (.iload_n 3, 1) := by decide +kernel
theorem d_E_isBalanced_18 : decode c_E_isBalanced 18 = .ok (.laload, 1) := by decide +kernel
theorem d_E_isBalanced_19 : decode c_E_isBalanced 19 = .ok (.ladd, 1) := by decide +kernel
theorem d_E_isBalanced_20 : decode c_E_isBalanced 20 = .ok (.lstore_n 1, 1) := by decide +kernel
theorem d_E_isBalanced_21 : decode c_E_isBalanced 21 = .ok (.iinc 3 1, 3) := by decide +kernel
theorem d_E_isBalanced_24 : decode c_E_isBalanced 24 = .ok (.goto (-20), 3) := by decide +kernel
theorem d_E_isBalanced_27 : decode c_E_isBalanced 27 = .ok (.aload_n 0, 1) := by decide +kernel
theorem d_E_isBalanced_28 : decode c_E_isBalanced 28 = .ok (.getfield 19, 3) := by decide +kernel
theorem d_E_isBalanced_31 : decode c_E_isBalanced 31 = .ok (.ifCond .le 13, 3) := by decide +kernel
theorem d_E_isBalanced_34 : decode c_E_isBalanced 34 = .ok (.lload_n 1, 1) := by decide +kernel
theorem d_E_isBalanced_35 : decode c_E_isBalanced 35 = .ok (.lconst 0, 1) := by decide +kernel
theorem d_E_isBalanced_36 : decode c_E_isBalanced 36 = .ok (.lcmp, 1) := by decide +kernel
theorem d_E_isBalanced_37 : decode c_E_isBalanced 37 = .ok (.ifCond .ne 7, 3) := by decide +kernel
theorem d_E_isBalanced_40 : decode c_E_isBalanced 40 = .ok (.iconst 1, 1) := by decide +kernel
theorem d_E_isBalanced_41 : decode c_E_isBalanced 41 = .ok (.goto 4, 3) := by decide +kernel
theorem d_E_isBalanced_44 : decode c_E_isBalanced 44 = .ok (.iconst 0, 1) := by decide +kernel
theorem d_E_isBalanced_45 : decode c_E_isBalanced 45 = .ok (.ireturn, 1) := by decide +kernel
theorem d_E_sumOf_0 : decode c_E_sumOf 0 = .ok (.lconst 0, 1) := by decide +kernel
theorem d_E_sumOf_1 : decode c_E_sumOf 1 = .ok (.lstore_n 2, 1) := by decide +kernel
theorem d_E_sumOf_2 : decode c_E_sumOf 2 = .ok (.iconst 0, 1) := by decide +kernel
theorem d_E_sumOf_3 : decode c_E_sumOf 3 = .ok (.istore 4, 2) := by decide +kernel
theorem d_E_sumOf_5 : decode c_E_sumOf 5 = .ok (.iload 4, 2) := by decide +kernel
theorem d_E_sumOf_7 : decode c_E_sumOf 7 = .ok (.aload_n 0, 1) := by decide +kernel
theorem d_E_sumOf_8 : decode c_E_sumOf 8 = .ok (.getfield 19, 3) := by decide +kernel
theorem d_E_sumOf_11 : decode c_E_sumOf 11 = .ok (.if_icmp .ge 30, 3) := by decide +kernel
theorem d_E_sumOf_14 : decode c_E_sumOf 14 = .ok (.aload_n 0, 1) := by decide +kernel
theorem d_E_sumOf_15 : decode c_E_sumOf 15 = .ok (.getfield 9, 3) := by decide +kernel
theorem d_E_sumOf_18 : decode c_E_sumOf 18 = .ok (.iload 4, 2) := by decide +kernel
theorem d_E_sumOf_20 : decode c_E_sumOf 20 = .ok (.iaload, 1) := by decide +kernel
theorem d_E_sumOf_21 : decode c_E_sumOf 21 = .ok (.iload_n 1, 1) := by decide +kernel
theorem d_E_sumOf_22 : decode c_E_sumOf 22 = .ok (.if_icmp .ne 13, 3) := by decide +kernel
theorem d_E_sumOf_25 : decode c_E_sumOf 25 = .ok (.lload_n 2, 1) := by decide +kernel
theorem d_E_sumOf_26 : decode c_E_sumOf 26 = .ok (.aload_n 0, 1) := by decide +kernel
theorem d_E_sumOf_27 : decode c_E_sumOf 27 = .ok (.getfield 15, 3) := by decide +kernel
theorem d_E_sumOf_30 : decode c_E_sumOf 30 = .ok (.iload 4, 2) := by decide +kernel
theorem d_E_sumOf_32 : decode c_E_sumOf 32 = .ok (.laload, 1) := by decide +kernel
theorem d_E_sumOf_33 : decode c_E_sumOf 33 = .ok (.ladd, 1) := by decide +kernel
theorem d_E_sumOf_34 : decode c_E_sumOf 34 = .ok (.lstore_n 2, 1) := by decide +kernel
theorem d_E_sumOf_35 : decode c_E_sumOf 35 = .ok (.iinc 4 1, 3) := by decide +kernel
theorem d_E_sumOf_38 : decode c_E_sumOf 38 = .ok (.goto (-33), 3) := by decide +kernel
theorem d_E_sumOf_41 : decode c_E_sumOf 41 = .ok (.lload_n 2, 1) := by decide +kernel
theorem d_E_sumOf_42 : decode c_E_sumOf 42 = .ok (.lreturn, 1) := by decide +kernel
