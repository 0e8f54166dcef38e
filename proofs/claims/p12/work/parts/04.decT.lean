/-! decode rows of ShopDesks$Tellings -/
theorem d_T_init_0 : decode c_T_init 0 = .ok (.aload_n 0, 1) := by decide +kernel
theorem d_T_init_1 : decode c_T_init 1 = .ok (.invokespecial 3, 3) := by decide +kernel
theorem d_T_init_4 : decode c_T_init 4 = .ok (.aload_n 0, 1) := by decide +kernel
theorem d_T_init_5 : decode c_T_init 5 = .ok (.sipush 300, 3) := by decide +kernel
theorem d_T_init_8 : decode c_T_init 8 = .ok (.newarray .int, 2) := by decide +kernel
theorem d_T_init_10 : decode c_T_init 10 = .ok (.putfield 9, 3) := by decide +kernel
theorem d_T_init_13 : decode c_T_init 13 = .ok (.aload_n 0, 1) := by decide +kernel
theorem d_T_init_14 : decode c_T_init 14 = .ok (.sipush 300, 3) := by decide +kernel
theorem d_T_init_17 : decode c_T_init 17 = .ok (.newarray .long, 2) := by decide +kernel
theorem d_T_init_19 : decode c_T_init 19 = .ok (.putfield 15, 3) := by decide +kernel
theorem d_T_init_22 : decode c_T_init 22 = .ok (.aload_n 0, 1) := by decide +kernel
theorem d_T_init_23 : decode c_T_init 23 = .ok (.sipush 300, 3) := by decide +kernel
theorem d_T_init_26 : decode c_T_init 26 = .ok (.newarray .int, 2) := by decide +kernel
theorem d_T_init_28 : decode c_T_init 28 = .ok (.putfield 19, 3) := by decide +kernel
theorem d_T_init_31 : decode c_T_init 31 = .ok (.aload_n 0, 1) := by decide +kernel
theorem d_T_init_32 : decode c_T_init 32 = .ok (.sipush 300, 3) := by decide +kernel
theorem d_T_init_35 : decode c_T_init 35 = .ok (.newarray .int, 2) := by decide +kernel
theorem d_T_init_37 : decode c_T_init 37 = .ok (.putfield 22, 3) := by decide +kernel
theorem d_T_init_40 : decode c_T_init 40 = .ok (.aload_n 0, 1) := by decide +kernel
theorem d_T_init_41 : decode c_T_init 41 = .ok (.sipush 300, 3) := by decide +kernel
theorem d_T_init_44 : decode c_T_init 44 = .ok (.newarray .long, 2) := by decide +kernel
theorem d_T_init_46 : decode c_T_init 46 = .ok (.putfield 25, 3) := by decide +kernel
theorem d_T_init_49 : decode c_T_init 49 = .ok (.aload_n 0, 1) := by decide +kernel
theorem d_T_init_50 : decode c_T_init 50 = .ok (.sipush 300, 3) := by decide +kernel
theorem d_T_init_53 : decode c_T_init 53 = .ok (.newarray .long, 2) := by decide +kernel
theorem d_T_init_55 : decode c_T_init 55 = .ok (.putfield 28, 3) := by decide +kernel
theorem d_T_init_58 : decode c_T_init 58 = .ok (.aload_n 0, 1) := by decide +kernel
theorem d_T_init_59 : decode c_T_init 59 = .ok (.iconst 0, 1) := by decide +kernel
theorem d_T_init_60 : decode c_T_init 60 = .ok (.putfield 31, 3) := by decide +kernel
theorem d_T_init_63 : decode c_T_init 63 = .ok (.return_, 1) := by decide +kernel
theorem d_T_isTold_0 : decode c_T_isTold 0 = .ok (.iconst 0, 1) := by decide +kernel
theorem d_T_isTold_1 : decode c_T_isTold 1 = .ok (.istore 4, 2) := by decide +kernel
theorem d_T_isTold_3 : decode c_T_isTold 3 = .ok (.iload 4, 2) := by decide +kernel
theorem d_T_isTold_5 : decode c_T_isTold 5 = .ok (.aload_n 0, 1) := by decide +kernel
theorem d_T_isTold_6 : decode c_T_isTold 6 = .ok (.getfield 31, 3) := by decide +kernel
theorem d_T_isTold_9 : decode c_T_isTold 9 = .ok (.if_icmp .ge 34, 3) := by decide +kernel
theorem d_T_isTold_12 : decode c_T_isTold 12 = .ok (.aload_n 0, 1) := by decide +kernel
theorem d_T_isTold_13 : decode c_T_isTold 13 = .ok (.getfield 15, 3) := by decide +kernel
theorem d_T_isTold_16 : decode c_T_isTold 16 = .ok (.iload 4, 2) := by decide +kernel
theorem d_T_isTold_18 : decode c_T_isTold 18 = .ok (.laload, 1) := by decide +kernel
theorem d_T_isTold_19 : decode c_T_isTold 19 = .ok (.lload_n 2, 1) := by decide +kernel
theorem d_T_isTold_20 : decode c_T_isTold 20 = .ok (.lcmp, 1) := by decide +kernel
theorem d_T_isTold_21 : decode c_T_isTold 21 = .ok (.ifCond .ne 16, 3) := by decide +kernel
theorem d_T_isTold_24 : decode c_T_isTold 24 = .ok (.aload_n 0, 1) := by decide +kernel
theorem d_T_isTold_25 : decode c_T_isTold 25 = .ok (.getfield 9, 3) := by decide +kernel
theorem d_T_isTold_28 : decode c_T_isTold 28 = .ok (.iload 4, 2) := by decide +kernel
theorem d_T_isTold_30 : decode c_T_isTold 30 = .ok (.iaload, 1) := by decide +kernel
theorem d_T_isTold_31 : decode c_T_isTold 31 = .ok (.iload_n 1, 1) := by decide +kernel
theorem d_T_isTold_32 : decode c_T_isTold 32 = .ok (.if_icmp .ne 5, 3) := by decide +kernel
theorem d_T_isTold_35 : decode c_T_isTold 35 = .ok (.iconst 1, 1) := by decide +kernel
theorem d_T_isTold_36 : decode c_T_isTold 36 = .ok (.ireturn, 1) := by decide +kernel
theorem d_T_isTold_37 : decode c_T_isTold 37 = .ok (.iinc 4 1, 3) := by decide +kernel
theorem d_T_isTold_40 : decode c_T_isTold 40 = .ok (.goto (-37), 3) := by decide +kernel
theorem d_T_isTold_43 : decode c_T_isTold 43 = .ok (.iconst 0, 1) := by decide +kernel
theorem d_T_isTold_44 : decode c_T_isTold 44 = .ok (.ireturn, 1) := by decide +kernel
theorem d_T_append_0 : decode c_T_append 0 = .ok (.aload_n 0, 1) := by decide +kernel
theorem d_T_append_1 : decode c_T_append 1 = .ok (.getfield 9, 3) := by decide +kernel
theorem d_T_append_4 : decode c_T_append 4 = .ok (.aload_n 0, 1) := by decide +kernel
theorem d_T_append_5 : decode c_T_append 5 = .ok (.getfield 31, 3) := by decide +kernel
theorem d_T_append_8 : decode c_T_append 8 = .ok (.iload_n 1, 1) := by decide +kernel
theorem d_T_append_9 : decode c_T_append 9 = .ok (.iastore, 1) := by decide +kernel
theorem d_T_append_10 : decode c_T_append 10 = .ok (.aload_n 0, 1) := by decide +kernel
theorem d_T_append_11 : decode c_T_append 11 = .ok (.getfield 15, 3) := by decide +kernel
theorem d_T_append_14 : decode c_T_append 14 = .ok (.aload_n 0, 1) := by decide +kernel
theorem d_T_append_15 : decode c_T_append 15 = .ok (.getfield 31, 3) := by decide +kernel
theorem d_T_append_18 : decode c_T_append 18 = .ok (.lload_n 2, 1) := by decide +kernel
theorem d_T_append_19 : decode c_T_append 19 = .ok (.lastore, 1) := by decide +kernel
theorem d_T_append_20 : decode c_T_append 20 = .ok (.aload_n 0, 1) := by decide +kernel
theorem d_T_append_21 : decode c_T_append 21 = .ok (.getfield 19, 3) := by decide +kernel
theorem d_T_append_24 : decode c_T_append 24 = .ok (.aload_n 0, 1) := by decide +kernel
theorem d_T_append_25 : decode c_T_append 25 = .ok (.getfield 31, 3) := by decide +kernel
theorem d_T_append_28 : decode c_T_append 28 = .ok (.iload 4, 2) := by decide +kernel
theorem d_T_append_30 : decode c_T_append 30 = .ok (.iastore, 1) := by decide +kernel
theorem d_T_append_31 : decode c_T_append 31 = .ok (.aload_n 0, 1) := by decide +kernel
theorem d_T_append_32 : decode c_T_append 32 = .ok (.getfield 22, 3) := by decide +kernel
theorem d_T_append_35 : decode c_T_append 35 = .ok (.aload_n 0, 1) := by decide +kernel
theorem d_T_append_36 : decode c_T_append 36 = .ok (.getfield 31, 3) := by decide +kernel
theorem d_T_append_39 : decode c_T_append 39 = .ok (.iload 5, 2) := by decide +kernel
theorem d_T_append_41 : decode c_T_append 41 = .ok (.iastore, 1) := by decide +kernel
theorem d_T_append_42 : decode c_T_append 42 = .ok (.aload_n 0, 1) := by decide +kernel
theorem d_T_append_43 : decode c_T_append 43 = .ok (.getfield 25, 3) := by decide +kernel
theorem d_T_append_46 : decode c_T_append 46 = .ok (.aload_n 0, 1) := by decide +kernel
theorem d_T_append_47 : decode c_T_append 47 = .ok (.getfield 31, 3) := by decide +kernel
theorem d_T_append_50 : decode c_T_append 50 = .ok (.lload 6, 2) := by decide +kernel
theorem d_T_append_52 : decode c_T_append 52 = .ok (.lastore, 1) := by decide +kernel
theorem d_T_append_53 : decode c_T_append 53 = .ok (.aload_n 0, 1) := by decide +kernel
theorem d_T_append_54 : decode c_T_append 54 = .ok (.getfield 28, 3) := by decide +kernel
theorem d_T_append_57 : decode c_T_append 57 = .ok (.aload_n 0, 1) := by decide +kernel
theorem d_T_append_58 : decode c_T_append 58 = .ok (.getfield 31, 3) := by decide +kernel
theorem d_T_append_61 : decode c_T_append 61 = .ok (.lload 8, 2) := by decide +kernel
theorem d_T_append_63 : decode c_T_append 63 = .ok (.lastore, 1) := by decide +kernel
theorem d_T_append_64 : decode c_T_append 64 = .ok (.aload_n 0, 1) := by decide +kernel
theorem d_T_append_65 : decode c_T_append 65 = .ok (.dup, 1) := by decide +kernel
theorem d_T_append_66 : decode c_T_append 66 = .ok (.getfield 31, 3) := by decide +kernel
theorem d_T_append_69 : decode c_T_append 69 = .ok (.iconst 1, 1) := by decide +kernel
theorem d_T_append_70 : decode c_T_append 70 = .ok (.iadd, 1) := by decide +kernel
theorem d_T_append_71 : decode c_T_append 71 = .ok (.putfield 31, 3) := by decide +kernel
theorem d_T_append_74 : decode c_T_append 74 = .ok (.return_, 1) := by decide +kernel
theorem d_T_holds_0 : decode c_T_holds 0 = .ok (.aload_n 0, 1) := by decide +kernel
theorem d_T_holds_1 : decode c_T_holds 1 = .ok (.getfield 19, 3) := by decide +kernel
theorem d_T_holds_4 : decode c_T_holds 4 = .ok (.iload_n 1, 1) := by decide +kernel
theorem d_T_holds_5 : decode c_T_holds 5 = .ok (.iaload, 1) := by decide +kernel
theorem d_T_holds_6 : decode c_T_holds 6 = .ok (.iload_n 2, 1) := by decide +kernel
theorem d_T_holds_7 : decode c_T_holds 7 = .ok (.if_icmp .ne 29, 3) := by decide +kernel
theorem d_T_holds_10 : decode c_T_holds 10 = .ok (.aload_n 0, 1) := by decide +kernel
theorem d_T_holds_11 : decode c_T_holds 11 = .ok (.getfield 22, 3) := by decide +kernel
theorem d_T_holds_14 : decode c_T_holds 14 = .ok (.iload_n 1, 1) := by decide +kernel
theorem d_T_holds_15 : decode c_T_holds 15 = .ok (.iaload, 1) := by decide +kernel
theorem d_T_holds_16 : decode c_T_holds 16 = .ok (.iload_n 3, 1) := by decide +kernel
theorem d_T_holds_17 : decode c_T_holds 17 = .ok (.if_icmp .ne 19, 3) := by decide +kernel
theorem d_T_holds_20 : decode c_T_holds 20 = .ok (.aload_n 0, 1) := by decide +kernel
theorem d_T_holds_21 : decode c_T_holds 21 = .ok (.getfield 28, 3) := by decide +kernel
theorem d_T_holds_24 : decode c_T_holds 24 = .ok (.iload_n 1, 1) := by decide +kernel
theorem d_T_holds_25 : decode c_T_holds 25 = .ok (.laload, 1) := by decide +kernel
theorem d_T_holds_26 : decode c_T_holds 26 = .ok (.lload 4, 2) := by decide +kernel
theorem d_T_holds_28 : decode c_T_holds 28 = .ok (.lcmp, 1) := by decide +kernel
theorem d_T_holds_29 : decode c_T_holds 29 = .ok (.ifCond .gt 7, 3) := by decide +kernel
theorem d_T_holds_32 : decode c_T_holds 32 = .ok (.iconst 1, 1) := by decide +kernel
theorem d_T_holds_33 : decode c_T_holds 33 = .ok (.goto 4, 3) := by decide +kernel
theorem d_T_holds_36 : decode c_T_holds 36 = .ok (.iconst 0, 1) := by decide +kernel
theorem d_T_holds_37 : decode c_T_holds 37 = .ok (.ireturn, 1) := by decide +kernel
theorem d_T_isLater_0 : decode c_T_isLater 0 = .ok (.aload_n 0, 1) := by decide +kernel
theorem d_T_isLater_1 : decode c_T_isLater 1 = .ok (.getfield 28, 3) := by decide +kernel
theorem d_T_isLater_4 : decode c_T_isLater 4 = .ok (.iload_n 1, 1) := by decide +kernel
theorem d_T_isLater_5 : decode c_T_isLater 5 = .ok (.laload, 1) := by decide +kernel
theorem d_T_isLater_6 : decode c_T_isLater 6 = .ok (.aload_n 0, 1) := by decide +kernel
theorem d_T_isLater_7 : decode c_T_isLater 7 = .ok (.getfield 28, 3) := by decide +kernel
theorem d_T_isLater_10 : decode c_T_isLater 10 = .ok (.iload_n 2, 1) := by decide +kernel
theorem d_T_isLater_11 : decode c_T_isLater 11 = .ok (.laload, 1) := by decide +kernel
theorem d_T_isLater_12 : decode c_T_isLater 12 = .ok (.lcmp, 1) := by decide +kernel
theorem d_T_isLater_13 : decode c_T_isLater 13 = .ok (.ifCond .eq 25, 3) := by decide +kernel
theorem d_T_isLater_16 : decode c_T_isLater 16 = .ok (.aload_n 0, 1) := by decide +kernel
theorem d_T_isLater_17 : decode c_T_isLater 17 = .ok (.getfield 28, 3) := by decide +kernel
theorem d_T_isLater_20 : decode c_T_isLater 20 = .ok (.iload_n 1, 1) := by decide +kernel
theorem d_T_isLater_21 : decode c_T_isLater 21 = .ok (.laload, 1) := by decide +kernel
theorem d_T_isLater_22 : decode c_T_isLater 22 = .ok (.aload_n 0, 1) := by decide +kernel
theorem d_T_isLater_23 : decode c_T_isLater 23 = .ok (.getfield 28, 3) := by decide +kernel
theorem d_T_isLater_26 : decode c_T_isLater 26 = .ok (.iload_n 2, 1) := by decide +kernel
theorem d_T_isLater_27 : decode c_T_isLater 27 = .ok (.laload, 1) := by decide +kernel
theorem d_T_isLater_28 : decode c_T_isLater 28 = .ok (.lcmp, 1) := by decide +kernel
theorem d_T_isLater_29 : decode c_T_isLater 29 = .ok (.ifCond .le 7, 3) := by decide +kernel
theorem d_T_isLater_32 : decode c_T_isLater 32 = .ok (.iconst 1, 1) := by decide +kernel
theorem d_T_isLater_33 : decode c_T_isLater 33 = .ok (.goto 4, 3) := by decide +kernel
theorem d_T_isLater_36 : decode c_T_isLater 36 = .ok (.iconst 0, 1) := by decide +kernel
theorem d_T_isLater_37 : decode c_T_isLater 37 = .ok (.ireturn, 1) := by decide +kernel
theorem d_T_isLater_38 : decode c_T_isLater 38 = .ok (.aload_n 0, 1) := by decide +kernel
theorem d_T_isLater_39 : decode c_T_isLater 39 = .ok (.getfield 9, 3) := by decide +kernel
theorem d_T_isLater_42 : decode c_T_isLater 42 = .ok (.iload_n 1, 1) := by decide +kernel
theorem d_T_isLater_43 : decode c_T_isLater 43 = .ok (.iaload, 1) := by decide +kernel
theorem d_T_isLater_44 : decode c_T_isLater 44 = .ok (.aload_n 0, 1) := by decide +kernel
theorem d_T_isLater_45 : decode c_T_isLater 45 = .ok (.getfield 9, 3) := by decide +kernel
theorem d_T_isLater_48 : decode c_T_isLater 48 = .ok (.iload_n 2, 1) := by decide +kernel
theorem d_T_isLater_49 : decode c_T_isLater 49 = .ok (.iaload, 1) := by decide +kernel
theorem d_T_isLater_50 : decode c_T_isLater 50 = .ok (.if_icmp .eq 24, 3) := by decide +kernel
theorem d_T_isLater_53 : decode c_T_isLater 53 = .ok (.aload_n 0, 1) := by decide +kernel
theorem d_T_isLater_54 : decode c_T_isLater 54 = .ok (.getfield 9, 3) := by decide +kernel
theorem d_T_isLater_57 : decode c_T_isLater 57 = .ok (.iload_n 1, 1) := by decide +kernel
theorem d_T_isLater_58 : decode c_T_isLater 58 = .ok (.iaload, 1) := by decide +kernel
theorem d_T_isLater_59 : decode c_T_isLater 59 = .ok (.aload_n 0, 1) := by decide +kernel
theorem d_T_isLater_60 : decode c_T_isLater 60 = .ok (.getfield 9, 3) := by decide +kernel
theorem d_T_isLater_63 : decode c_T_isLater 63 = .ok (.iload_n 2, 1) := by decide +kernel
theorem d_T_isLater_64 : decode c_T_isLater 64 = .ok (.iaload, 1) := by decide +kernel
theorem d_T_isLater_65 : decode c_T_isLater 65 = .ok (.if_icmp .le 7, 3) := by decide +kernel
theorem d_T_isLater_68 : decode c_T_isLater 68 = .ok (.iconst 1, 1) := by decide +kernel
theorem d_T_isLater_69 : decode c_T_isLater 69 = .ok (.goto 4, 3) := by decide +kernel
theorem d_T_isLater_72 : decode c_T_isLater 72 = .ok (.iconst 0, 1) := by decide +kernel
theorem d_T_isLater_73 : decode c_T_isLater 73 = .ok (.ireturn, 1) := by decide +kernel
theorem d_T_isLater_74 : decode c_T_isLater 74 = .ok (.aload_n 0, 1) := by decide +kernel
theorem d_T_isLater_75 : decode c_T_isLater 75 = .ok (.getfield 15, 3) := by decide +kernel
theorem d_T_isLater_78 : decode c_T_isLater 78 = .ok (.iload_n 1, 1) := by decide +kernel
theorem d_T_isLater_79 : decode c_T_isLater 79 = .ok (.laload, 1) := by decide +kernel
theorem d_T_isLater_80 : decode c_T_isLater 80 = .ok (.aload_n 0, 1) := by decide +kernel
theorem d_T_isLater_81 : decode c_T_isLater 81 = .ok (.getfield 15, 3) := by decide +kernel
theorem d_T_isLater_84 : decode c_T_isLater 84 = .ok (.iload_n 2, 1) := by decide +kernel
theorem d_T_isLater_85 : decode c_T_isLater 85 = .ok (.laload, 1) := by decide +kernel
theorem d_T_isLater_86 : decode c_T_isLater 86 = .ok (.lcmp, 1) := by decide +kernel
theorem d_T_isLater_87 : decode c_T_isLater 87 = .ok (.ifCond .le 7, 3) := by decide +kernel
theorem d_T_isLater_90 : decode c_T_isLater 90 = .ok (.iconst 1, 1) := by decide +kernel
theorem d_T_isLater_91 : decode c_T_isLater 91 = .ok (.goto 4, 3) := by decide +kernel
theorem d_T_isLater_94 : decode c_T_isLater 94 = .ok (.iconst 0, 1) := by decide +kernel
theorem d_T_isLater_95 : decode c_T_isLater 95 = .ok (.ireturn, 1) := by decide +kernel
