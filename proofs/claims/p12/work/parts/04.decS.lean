/-! decode rows of ShopDesks$TellingSet -/
theorem d_S_init_0 : decode c_S_init 0 = .ok (.aload_n 0, 1) := by decide +kernel
theorem d_S_init_1 : decode c_S_init 1 = .ok (.invokespecial 3, 3) := by decide +kernel
theorem d_S_init_4 : decode c_S_init 4 = .ok (.aload_n 0, 1) := by decide +kernel
theorem d_S_init_5 : decode c_S_init 5 = .ok (.sipush 300, 3) := by decide +kernel
theorem d_S_init_8 : decode c_S_init 8 = .ok (.newarray .int, 2) := by decide +kernel
theorem d_S_init_10 : decode c_S_init 10 = .ok (.putfield 9, 3) := by decide +kernel
theorem d_S_init_13 : decode c_S_init 13 = .ok (.aload_n 0, 1) := by decide +kernel
theorem d_S_init_14 : decode c_S_init 14 = .ok (.sipush 300, 3) := by decide +kernel
theorem d_S_init_17 : decode c_S_init 17 = .ok (.newarray .boolean, 2) := by decide +kernel
theorem d_S_init_19 : decode c_S_init 19 = .ok (.putfield 15, 3) := by decide +kernel
theorem d_S_init_22 : decode c_S_init 22 = .ok (.aload_n 0, 1) := by decide +kernel
theorem d_S_init_23 : decode c_S_init 23 = .ok (.iconst 0, 1) := by decide +kernel
theorem d_S_init_24 : decode c_S_init 24 = .ok (.putfield 19, 3) := by decide +kernel
theorem d_S_init_27 : decode c_S_init 27 = .ok (.aload_n 0, 1) := by decide +kernel
theorem d_S_init_28 : decode c_S_init 28 = .ok (.iconst (-1), 1) := by decide +kernel
theorem d_S_init_29 : decode c_S_init 29 = .ok (.putfield 23, 3) := by decide +kernel
theorem d_S_init_32 : decode c_S_init 32 = .ok (.aload_n 0, 1) := by decide +kernel
theorem d_S_init_33 : decode c_S_init 33 = .ok (.aload_n 1, 1) := by decide +kernel
theorem d_S_init_34 : decode c_S_init 34 = .ok (.putfield 26, 3) := by decide +kernel
theorem d_S_init_37 : decode c_S_init 37 = .ok (.return_, 1) := by decide +kernel
theorem d_S_takeAllOf_0 : decode c_S_takeAllOf 0 = .ok (.iconst 0, 1) := by decide +kernel
theorem d_S_takeAllOf_1 : decode c_S_takeAllOf 1 = .ok (.istore_n 2, 1) := by decide +kernel
theorem d_S_takeAllOf_2 : decode c_S_takeAllOf 2 = .ok (.iload_n 2, 1) := by decide +kernel
theorem d_S_takeAllOf_3 : decode c_S_takeAllOf 3 = .ok (.aload_n 0, 1) := by decide +kernel
theorem d_S_takeAllOf_4 : decode c_S_takeAllOf 4 = .ok (.getfield 26, 3) := by decide +kernel
theorem d_S_takeAllOf_7 : decode c_S_takeAllOf 7 = .ok (.getfield 30, 3) := by decide +kernel
theorem d_S_takeAllOf_10 : decode c_S_takeAllOf 10 = .ok (.if_icmp .ge 27, 3) := by decide +kernel
theorem d_S_takeAllOf_13 : decode c_S_takeAllOf 13 = .ok (.aload_n 0, 1) := by decide +kernel
theorem d_S_takeAllOf_14 : decode c_S_takeAllOf 14 = .ok (.getfield 26, 3) := by decide +kernel
theorem d_S_takeAllOf_17 : decode c_S_takeAllOf 17 = .ok (.getfield 35, 3) := by decide +kernel
theorem d_S_takeAllOf_20 : decode c_S_takeAllOf 20 = .ok (.iload_n 2, 1) := by decide +kernel
theorem d_S_takeAllOf_21 : decode c_S_takeAllOf 21 = .ok (.iaload, 1) := by decide +kernel
theorem d_S_takeAllOf_22 : decode c_S_takeAllOf 22 = .ok (.iload_n 1, 1) := by decide +kernel
theorem d_S_takeAllOf_23 : decode c_S_takeAllOf 23 = .ok (.if_icmp .ne 8, 3) := by decide +kernel
theorem d_S_takeAllOf_26 : decode c_S_takeAllOf 26 = .ok (.aload_n 0, 1) := by decide +kernel
theorem d_S_takeAllOf_27 : decode c_S_takeAllOf 27 = .ok (.iload_n 2, 1) := by decide +kernel
theorem d_S_takeAllOf_28 : decode c_S_takeAllOf 28 = .ok (.invokevirtual 38, 3) := by decide +kernel
theorem d_S_takeAllOf_31 : decode c_S_takeAllOf 31 = .ok (.iinc 2 1, 3) := by decide +kernel
theorem d_S_takeAllOf_34 : decode c_S_takeAllOf 34 = .ok (.goto (-32), 3) := by decide +kernel
theorem d_S_takeAllOf_37 : decode c_S_takeAllOf 37 = .ok (.return_, 1) := by decide +kernel
theorem d_S_insertByNumber_0 : decode c_S_insertByNumber 0 = .ok (.aload_n 0, 1) := by decide +kernel
theorem d_S_insertByNumber_1 : decode c_S_insertByNumber 1 = .ok (.getfield 19, 3) := by decide +kernel
theorem d_S_insertByNumber_4 : decode c_S_insertByNumber 4 = .ok (.istore_n 2, 1) := by decide +kernel
theorem d_S_insertByNumber_5 : decode c_S_insertByNumber 5 = .ok (.iload_n 2, 1) := by decide +kernel
theorem d_S_insertByNumber_6 : decode c_S_insertByNumber 6 = .ok (.ifCond .le 52, 3) := by decide +kernel
theorem d_S_insertByNumber_9 : decode c_S_insertByNumber 9 = .ok (.aload_n 0, 1) := by decide +kernel
theorem d_S_insertByNumber_10 : decode c_S_insertByNumber 10 = .ok (.getfield 26, 3) := by decide +kernel
theorem d_S_insertByNumber_13 : decode c_S_insertByNumber 13 = .ok (.getfield 42, 3) := by decide +kernel
theorem d_S_insertByNumber_16 : decode c_S_insertByNumber 16 = .ok (.aload_n 0, 1) := by decide +kernel
theorem d_S_insertByNumber_17 : decode c_S_insertByNumber 17 = .ok (.getfield 9, 3) := by decide +kernel
theorem d_S_insertByNumber_20 : decode c_S_insertByNumber 20 = .ok (.iload_n 2, 1) := by decide +kernel
theorem d_S_insertByNumber_21 : decode c_S_insertByNumber 21 = .ok (.iconst 1, 1) := by decide +kernel
theorem d_S_insertByNumber_22 : decode c_S_insertByNumber 22 = .ok (.isub, 1) := by decide +kernel
theorem d_S_insertByNumber_23 : decode c_S_insertByNumber 23 = .ok (.iaload, 1) := by decide +kernel
theorem d_S_insertByNumber_24 : decode c_S_insertByNumber 24 = .ok (.laload, 1) := by decide +kernel
theorem d_S_insertByNumber_25 : decode c_S_insertByNumber 25 = .ok (.aload_n 0, 1) := by decide +kernel
theorem d_S_insertByNumber_26 : decode c_S_insertByNumber 26 = .ok (.getfield 26, 3) := by decide +kernel
theorem d_S_insertByNumber_29 : decode c_S_insertByNumber 29 = .ok (.getfield 42, 3) := by decide +kernel
theorem d_S_insertByNumber_32 : decode c_S_insertByNumber 32 = .ok (.iload_n 1, 1) := by decide +kernel
theorem d_S_insertByNumber_33 : decode c_S_insertByNumber 33 = .ok (.laload, 1) := by decide +kernel
theorem d_S_insertByNumber_34 : decode c_S_insertByNumber 34 = .ok (.lcmp, 1) := by decide +kernel
theorem d_S_insertByNumber_35 : decode c_S_insertByNumber 35 = .ok (.ifCond .le 23, 3) := by decide +kernel
theorem d_S_insertByNumber_38 : decode c_S_insertByNumber 38 = .ok (.aload_n 0, 1) := by decide +kernel
theorem d_S_insertByNumber_39 : decode c_S_insertByNumber 39 = .ok (.getfield 9, 3) := by decide +kernel
theorem d_S_insertByNumber_42 : decode c_S_insertByNumber 42 = .ok (.iload_n 2, 1) := by decide +kernel
theorem d_S_insertByNumber_43 : decode c_S_insertByNumber 43 = .ok (.aload_n 0, 1) := by decide +kernel
theorem d_S_insertByNumber_44 : decode c_S_insertByNumber 44 = .ok (.getfield 9, 3) := by decide +kernel
theorem d_S_insertByNumber_47 : decode c_S_insertByNumber 47 = .ok (.iload_n 2, 1) := by decide +kernel
theorem d_S_insertByNumber_48 : decode c_S_insertByNumber 48 = .ok (.iconst 1, 1) := by decide +kernel
theorem d_S_insertByNumber_49 : decode c_S_insertByNumber 49 = .ok (.isub, 1) := by decide +kernel
theorem d_S_insertByNumber_50 : decode c_S_insertByNumber 50 = .ok (.iaload, 1) := by decide +kernel
theorem d_S_insertByNumber_51 : decode c_S_insertByNumber 51 = .ok (.iastore, 1) := by decide +kernel
theorem d_S_insertByNumber_52 : decode c_S_insertByNumber 52 = .ok (.iinc 2 (-1), 3) := by decide +kernel
theorem d_S_insertByNumber_55 : decode c_S_insertByNumber 55 = .ok (.goto (-50), 3) := by decide +kernel
theorem d_S_insertByNumber_58 : decode c_S_insertByNumber 58 = .ok (.aload_n 0, 1) := by decide +kernel
theorem d_S_insertByNumber_59 : decode c_S_insertByNumber 59 = .ok (.getfield 9, 3) := by decide +kernel
theorem d_S_insertByNumber_62 : decode c_S_insertByNumber 62 = .ok (.iload_n 2, 1) := by decide +kernel
theorem d_S_insertByNumber_63 : decode c_S_insertByNumber 63 = .ok (.iload_n 1, 1) := by decide +kernel
theorem d_S_insertByNumber_64 : decode c_S_insertByNumber 64 = .ok (.iastore, 1) := by decide +kernel
theorem d_S_insertByNumber_65 : decode c_S_insertByNumber 65 = .ok (.aload_n 0, 1) := by decide +kernel
theorem d_S_insertByNumber_66 : decode c_S_insertByNumber 66 = .ok (.getfield 15, 3) := by decide +kernel
theorem d_S_insertByNumber_69 : decode c_S_insertByNumber 69 = .ok (.iload_n 1, 1) := by decide +kernel
theorem d_S_insertByNumber_70 : decode c_S_insertByNumber 70 = .ok (.iconst 1, 1) := by decide +kernel
theorem d_S_insertByNumber_71 : decode c_S_insertByNumber 71 = .ok (.bastore, 1) := by decide +kernel
theorem d_S_insertByNumber_72 : decode c_S_insertByNumber 72 = .ok (.aload_n 0, 1) := by decide +kernel
theorem d_S_insertByNumber_73 : decode c_S_insertByNumber 73 = .ok (.dup, 1) := by decide +kernel
theorem d_S_insertByNumber_74 : decode c_S_insertByNumber 74 = .ok (.getfield 19, 3) := by decide +kernel
theorem d_S_insertByNumber_77 : decode c_S_insertByNumber 77 = .ok (.iconst 1, 1) := by decide +kernel
theorem d_S_insertByNumber_78 : decode c_S_insertByNumber 78 = .ok (.iadd, 1) := by decide +kernel
theorem d_S_insertByNumber_79 : decode c_S_insertByNumber 79 = .ok (.putfield 19, 3) := by decide +kernel
theorem d_S_insertByNumber_82 : decode c_S_insertByNumber 82 = .ok (.return_, 1) := by decide +kernel
theorem d_S_takeMissing_0 : decode c_S_takeMissing 0 = .ok (.aload_n 0, 1) := by decide +kernel
theorem d_S_takeMissing_1 : decode c_S_takeMissing 1 = .ok (.getfield 19, 3) := by decide +kernel
theorem d_S_takeMissing_4 : decode c_S_takeMissing 4 = .ok (.istore_n 2, 1) := by decide +kernel
theorem d_S_takeMissing_5 : decode c_S_takeMissing 5 = .ok (.iconst 0, 1) := by decide +kernel
theorem d_S_takeMissing_6 : decode c_S_takeMissing 6 = .ok (.istore_n 3, 1) := by decide +kernel
theorem d_S_takeMissing_7 : decode c_S_takeMissing 7 = .ok (.iload_n 3, 1) := by decide +kernel
theorem d_S_takeMissing_8 : decode c_S_takeMissing 8 = .ok (.aload_n 1, 1) := by decide +kernel
theorem d_S_takeMissing_9 : decode c_S_takeMissing 9 = .ok (.getfield 19, 3) := by decide +kernel
theorem d_S_takeMissing_12 : decode c_S_takeMissing 12 = .ok (.if_icmp .ge 56, 3) := by decide +kernel
theorem d_S_takeMissing_15 : decode c_S_takeMissing 15 = .ok (.aload_n 1, 1) := by decide +kernel
theorem d_S_takeMissing_16 : decode c_S_takeMissing 16 = .ok (.getfield 9, 3) := by decide +kernel
theorem d_S_takeMissing_19 : decode c_S_takeMissing 19 = .ok (.iload_n 3, 1) := by decide +kernel
theorem d_S_takeMissing_20 : decode c_S_takeMissing 20 = .ok (.iaload, 1) := by decide +kernel
theorem d_S_takeMissing_21 : decode c_S_takeMissing 21 = .ok (.istore 4, 2) := by decide +kernel
theorem d_S_takeMissing_23 : decode c_S_takeMissing 23 = .ok (.aload_n 0, 1) := by decide +kernel
theorem d_S_takeMissing_24 : decode c_S_takeMissing 24 = .ok (.getfield 15, 3) := by decide +kernel
theorem d_S_takeMissing_27 : decode c_S_takeMissing 27 = .ok (.iload 4, 2) := by decide +kernel
theorem d_S_takeMissing_29 : decode c_S_takeMissing 29 = .ok (.baload, 1) := by decide +kernel
theorem d_S_takeMissing_30 : decode c_S_takeMissing 30 = .ok (.ifCond .ne 32, 3) := by decide +kernel
theorem d_S_takeMissing_33 : decode c_S_takeMissing 33 = .ok (.aload_n 0, 1) := by decide +kernel
theorem d_S_takeMissing_34 : decode c_S_takeMissing 34 = .ok (.getfield 9, 3) := by decide +kernel
theorem d_S_takeMissing_37 : decode c_S_takeMissing 37 = .ok (.aload_n 0, 1) := by decide +kernel
theorem d_S_takeMissing_38 : decode c_S_takeMissing 38 = .ok (.getfield 19, 3) := by decide +kernel
theorem d_S_takeMissing_41 : decode c_S_takeMissing 41 = .ok (.iload 4, 2) := by decide +kernel
theorem d_S_takeMissing_43 : decode c_S_takeMissing 43 = .ok (.iastore, 1) := by decide +kernel
theorem d_S_takeMissing_44 : decode c_S_takeMissing 44 = .ok (.aload_n 0, 1) := by decide +kernel
theorem d_S_takeMissing_45 : decode c_S_takeMissing 45 = .ok (.getfield 15, 3) := by decide +kernel
theorem d_S_takeMissing_48 : decode c_S_takeMissing 48 = .ok (.iload 4, 2) := by decide +kernel
theorem d_S_takeMissing_50 : decode c_S_takeMissing 50 = .ok (.iconst 1, 1) := by decide +kernel
theorem d_S_takeMissing_51 : decode c_S_takeMissing 51 = .ok (.bastore, 1) := by decide +kernel
theorem d_S_takeMissing_52 : decode c_S_takeMissing 52 = .ok (.aload_n 0, 1) := by decide +kernel
theorem d_S_takeMissing_53 : decode c_S_takeMissing 53 = .ok (.dup, 1) := by decide +kernel
theorem d_S_takeMissing_54 : decode c_S_takeMissing 54 = .ok (.getfield 19, 3) := by decide +kernel
theorem d_S_takeMissing_57 : decode c_S_takeMissing 57 = .ok (.iconst 1, 1) := by decide +kernel
theorem d_S_takeMissing_58 : decode c_S_takeMissing 58 = .ok (.iadd, 1) := by decide +kernel
theorem d_S_takeMissing_59 : decode c_S_takeMissing 59 = .ok (.putfield 19, 3) := by decide +kernel
theorem d_S_takeMissing_62 : decode c_S_takeMissing 62 = .ok (.iinc 3 1, 3) := by decide +kernel
theorem d_S_takeMissing_65 : decode c_S_takeMissing 65 = .ok (.goto (-58), 3) := by decide +kernel
theorem d_S_takeMissing_68 : decode c_S_takeMissing 68 = .ok (.aload_n 0, 1) := by decide +kernel
theorem d_S_takeMissing_69 : decode c_S_takeMissing 69 = .ok (.getfield 19, 3) := by decide +kernel
theorem d_S_takeMissing_72 : decode c_S_takeMissing 72 = .ok (.iload_n 2, 1) := by decide +kernel
theorem d_S_takeMissing_73 : decode c_S_takeMissing 73 = .ok (.isub, 1) := by decide +kernel
theorem d_S_takeMissing_74 : decode c_S_takeMissing 74 = .ok (.ireturn, 1) := by decide +kernel
theorem d_S_hasSameAs_0 : decode c_S_hasSameAs 0 = .ok (.aload_n 0, 1) := by decide +kernel
theorem d_S_hasSameAs_1 : decode c_S_hasSameAs 1 = .ok (.getfield 19, 3) := by decide +kernel
theorem d_S_hasSameAs_4 : decode c_S_hasSameAs 4 = .ok (.aload_n 1, 1) := by decide +kernel
theorem d_S_hasSameAs_5 : decode c_S_hasSameAs 5 = .ok (.getfield 19, 3) := by decide +kernel
theorem d_S_hasSameAs_8 : decode c_S_hasSameAs 8 = .ok (.if_icmp .eq 5, 3) := by decide +kernel
theorem d_S_hasSameAs_11 : decode c_S_hasSameAs 11 = .ok (.iconst 0, 1) := by decide +kernel
theorem d_S_hasSameAs_12 : decode c_S_hasSameAs 12 = .ok (.ireturn, 1) := by decide +kernel
theorem d_S_hasSameAs_13 : decode c_S_hasSameAs 13 = .ok (.iconst 0, 1) := by decide +kernel
theorem d_S_hasSameAs_14 : decode c_S_hasSameAs 14 = .ok (.istore_n 2, 1) := by decide +kernel
theorem d_S_hasSameAs_15 : decode c_S_hasSameAs 15 = .ok (.iload_n 2, 1) := by decide +kernel
theorem d_S_hasSameAs_16 : decode c_S_hasSameAs 16 = .ok (.aload_n 0, 1) := by decide +kernel
theorem d_S_hasSameAs_17 : decode c_S_hasSameAs 17 = .ok (.getfield 19, 3) := by decide +kernel
theorem d_S_hasSameAs_20 : decode c_S_hasSameAs 20 = .ok (.if_icmp .ge 25, 3) := by decide +kernel
theorem d_S_hasSameAs_23 : decode c_S_hasSameAs 23 = .ok (.aload_n 1, 1) := by decide +kernel
theorem d_S_hasSameAs_24 : decode c_S_hasSameAs 24 = .ok (.getfield 15, 3) := by decide +kernel
theorem d_S_hasSameAs_27 : decode c_S_hasSameAs 27 = .ok (.aload_n 0, 1) := by decide +kernel
theorem d_S_hasSameAs_28 : decode c_S_hasSameAs 28 = .ok (.getfield 9, 3) := by decide +kernel
theorem d_S_hasSameAs_31 : decode c_S_hasSameAs 31 = .ok (.iload_n 2, 1) := by decide +kernel
theorem d_S_hasSameAs_32 : decode c_S_hasSameAs 32 = .ok (.iaload, 1) := by decide +kernel
theorem d_S_hasSameAs_33 : decode c_S_hasSameAs 33 = .ok (.baload, 1) := by decide +kernel
theorem d_S_hasSameAs_34 : decode c_S_hasSameAs 34 = .ok (.ifCond .ne 5, 3) := by decide +kernel
theorem d_S_hasSameAs_37 : decode c_S_hasSameAs 37 = .ok (.iconst 0, 1) := by decide +kernel
theorem d_S_hasSameAs_38 : decode c_S_hasSameAs 38 = .ok (.ireturn, 1) := by decide +kernel
theorem d_S_hasSameAs_39 : decode c_S_hasSameAs 39 = .ok (.iinc 2 1, 3) := by decide +kernel
theorem d_S_hasSameAs_42 : decode c_S_hasSameAs 42 = .ok (.goto (-27), 3) := by decide +kernel
theorem d_S_hasSameAs_45 : decode c_S_hasSameAs 45 = .ok (.iconst 1, 1) := by decide +kernel
theorem d_S_hasSameAs_46 : decode c_S_hasSameAs 46 = .ok (.ireturn, 1) := by decide +kernel
theorem d_S_beginBatch_0 : decode c_S_beginBatch 0 = .ok (.aload_n 0, 1) := by decide +kernel
theorem d_S_beginBatch_1 : decode c_S_beginBatch 1 = .ok (.getfield 23, 3) := by decide +kernel
theorem d_S_beginBatch_4 : decode c_S_beginBatch 4 = .ok (.iconst (-1), 1) := by decide +kernel
theorem d_S_beginBatch_5 : decode c_S_beginBatch 5 = .ok (.if_icmp .eq 5, 3) := by decide +kernel
theorem d_S_beginBatch_8 : decode c_S_beginBatch 8 = .ok (.iconst 0, 1) := by decide +kernel
theorem d_S_beginBatch_9 : decode c_S_beginBatch 9 = .ok (.ireturn, 1) := by decide +kernel
theorem d_S_beginBatch_10 : decode c_S_beginBatch 10 = .ok (.aload_n 0, 1) := by decide +kernel
theorem d_S_beginBatch_11 : decode c_S_beginBatch 11 = .ok (.aload_n 0, 1) := by decide +kernel
theorem d_S_beginBatch_12 : decode c_S_beginBatch 12 = .ok (.getfield 19, 3) := by decide +kernel
theorem d_S_beginBatch_15 : decode c_S_beginBatch 15 = .ok (.putfield 23, 3) := by decide +kernel
theorem d_S_beginBatch_18 : decode c_S_beginBatch 18 = .ok (.iconst 1, 1) := by decide +kernel
theorem d_S_beginBatch_19 : decode c_S_beginBatch 19 = .ok (.ireturn, 1) := by decide +kernel
theorem d_S_endBatch_0 : decode c_S_endBatch 0 = .ok (.aload_n 0, 1) := by decide +kernel
theorem d_S_endBatch_1 : decode c_S_endBatch 1 = .ok (.getfield 23, 3) := by decide +kernel
theorem d_S_endBatch_4 : decode c_S_endBatch 4 = .ok (.iconst (-1), 1) := by decide +kernel
theorem d_S_endBatch_5 : decode c_S_endBatch 5 = .ok (.if_icmp .ne 5, 3) := by decide +kernel
theorem d_S_endBatch_8 : decode c_S_endBatch 8 = .ok (.iconst 0, 1) := by decide +kernel
theorem d_S_endBatch_9 : decode c_S_endBatch 9 = .ok (.ireturn, 1) := by decide +kernel
theorem d_S_endBatch_10 : decode c_S_endBatch 10 = .ok (.aload_n 0, 1) := by decide +kernel
theorem d_S_endBatch_11 : decode c_S_endBatch 11 = .ok (.iconst (-1), 1) := by decide +kernel
theorem d_S_endBatch_12 : decode c_S_endBatch 12 = .ok (.putfield 23, 3) := by decide +kernel
theorem d_S_endBatch_15 : decode c_S_endBatch 15 = .ok (.iconst 1, 1) := by decide +kernel
theorem d_S_endBatch_16 : decode c_S_endBatch 16 = .ok (.ireturn, 1) := by decide +kernel
theorem d_S_sizeToSee_0 : decode c_S_sizeToSee 0 = .ok (.aload_n 0, 1) := by decide +kernel
theorem d_S_sizeToSee_1 : decode c_S_sizeToSee 1 = .ok (.getfield 23, 3) := by decide +kernel
theorem d_S_sizeToSee_4 : decode c_S_sizeToSee 4 = .ok (.iconst (-1), 1) := by decide +kernel
theorem d_S_sizeToSee_5 : decode c_S_sizeToSee 5 = .ok (.if_icmp .ne 10, 3) := by decide +kernel
theorem d_S_sizeToSee_8 : decode c_S_sizeToSee 8 = .ok (.aload_n 0, 1) := by decide +kernel
theorem d_S_sizeToSee_9 : decode c_S_sizeToSee 9 = .ok (.getfield 19, 3) := by decide +kernel
theorem d_S_sizeToSee_12 : decode c_S_sizeToSee 12 = .ok (.goto 7, 3) := by decide +kernel
theorem d_S_sizeToSee_15 : decode c_S_sizeToSee 15 = .ok (.aload_n 0, 1) := by decide +kernel
theorem d_S_sizeToSee_16 : decode c_S_sizeToSee 16 = .ok (.getfield 23, 3) := by decide +kernel
theorem d_S_sizeToSee_19 : decode c_S_sizeToSee 19 = .ok (.ireturn, 1) := by decide +kernel
theorem d_S_known_0 : decode c_S_known 0 = .ok (.iload_n 2, 1) := by decide +kernel
theorem d_S_known_1 : decode c_S_known 1 = .ok (.ifCond .ne 12, 3) := by decide +kernel
theorem d_S_known_4 : decode c_S_known 4 = .ok (.aload_n 0, 1) := by decide +kernel
theorem d_S_known_5 : decode c_S_known 5 = .ok (.iload_n 1, 1) := by decide +kernel
theorem d_S_known_6 : decode c_S_known 6 = .ok (.lload_n 3, 1) := by decide +kernel
theorem d_S_known_7 : decode c_S_known 7 = .ok (.iload 5, 2) := by decide +kernel
theorem d_S_known_9 : decode c_S_known 9 = .ok (.invokevirtual 46, 3) := by decide +kernel
theorem d_S_known_12 : decode c_S_known 12 = .ok (.lreturn, 1) := by decide +kernel
theorem d_S_known_13 : decode c_S_known 13 = .ok (.iload_n 2, 1) := by decide +kernel
theorem d_S_known_14 : decode c_S_known 14 = .ok (.iconst 2, 1) := by decide +kernel
theorem d_S_known_15 : decode c_S_known 15 = .ok (.if_icmp .ne 12, 3) := by decide +kernel
theorem d_S_known_18 : decode c_S_known 18 = .ok (.aload_n 0, 1) := by decide +kernel
theorem d_S_known_19 : decode c_S_known 19 = .ok (.iload_n 1, 1) := by decide +kernel
theorem d_S_known_20 : decode c_S_known 20 = .ok (.lload_n 3, 1) := by decide +kernel
theorem d_S_known_21 : decode c_S_known 21 = .ok (.iload 5, 2) := by decide +kernel
theorem d_S_known_23 : decode c_S_known 23 = .ok (.invokevirtual 50, 3) := by decide +kernel
theorem d_S_known_26 : decode c_S_known 26 = .ok (.lreturn, 1) := by decide +kernel
theorem d_S_known_27 : decode c_S_known 27 = .ok (.aload_n 0, 1) := by decide +kernel
theorem d_S_known_28 : decode c_S_known 28 = .ok (.aload_n 0, 1) := by decide +kernel
theorem d_S_known_29 : decode c_S_known 29 = .ok (.iload_n 1, 1) := by decide +kernel
theorem d_S_known_30 : decode c_S_known 30 = .ok (.iload_n 2, 1) := by decide +kernel
theorem d_S_known_31 : decode c_S_known 31 = .ok (.lload_n 3, 1) := by decide +kernel
theorem d_S_known_32 : decode c_S_known 32 = .ok (.iload 5, 2) := by decide +kernel
theorem d_S_known_34 : decode c_S_known 34 = .ok (.invokevirtual 53, 3) := by decide +kernel
theorem d_S_known_37 : decode c_S_known 37 = .ok (.invokevirtual 57, 3) := by decide +kernel
theorem d_S_known_40 : decode c_S_known 40 = .ok (.lreturn, 1) := by decide +kernel
theorem d_S_isInConflict_0 : decode c_S_isInConflict 0 = .ok (.aload_n 0, 1) := by decide +kernel
theorem d_S_isInConflict_1 : decode c_S_isInConflict 1 = .ok (.iload_n 1, 1) := by decide +kernel
theorem d_S_isInConflict_2 : decode c_S_isInConflict 2 = .ok (.ldc2_w 61, 3) := by decide +kernel
theorem d_S_isInConflict_5 : decode c_S_isInConflict 5 = .ok (.aload_n 0, 1) := by decide +kernel
theorem d_S_isInConflict_6 : decode c_S_isInConflict 6 = .ok (.getfield 19, 3) := by decide +kernel
theorem d_S_isInConflict_9 : decode c_S_isInConflict 9 = .ok (.invokevirtual 63, 3) := by decide +kernel
theorem d_S_isInConflict_12 : decode c_S_isInConflict 12 = .ok (.iconst (-1), 1) := by decide +kernel
theorem d_S_isInConflict_13 : decode c_S_isInConflict 13 = .ok (.if_icmp .ne 22, 3) := by decide +kernel
theorem d_S_isInConflict_16 : decode c_S_isInConflict 16 = .ok (.aload_n 0, 1) := by decide +kernel
theorem d_S_isInConflict_17 : decode c_S_isInConflict 17 = .ok (.iload_n 1, 1) := by decide +kernel
theorem d_S_isInConflict_18 : decode c_S_isInConflict 18 = .ok (.ldc2_w 61, 3) := by decide +kernel
theorem d_S_isInConflict_21 : decode c_S_isInConflict 21 = .ok (.aload_n 0, 1) := by decide +kernel
theorem d_S_isInConflict_22 : decode c_S_isInConflict 22 = .ok (.getfield 19, 3) := by decide +kernel
theorem d_S_isInConflict_25 : decode c_S_isInConflict 25 = .ok (.invokevirtual 67, 3) := by decide +kernel
theorem d_S_isInConflict_28 : decode c_S_isInConflict 28 = .ok (.ifCond .eq 7, 3) := by decide +kernel
theorem d_S_isInConflict_31 : decode c_S_isInConflict 31 = .ok (.iconst 1, 1) := by decide +kernel
theorem d_S_isInConflict_32 : decode c_S_isInConflict 32 = .ok (.goto 4, 3) := by decide +kernel
theorem d_S_isInConflict_35 : decode c_S_isInConflict 35 = .ok (.iconst 0, 1) := by decide +kernel
theorem d_S_isInConflict_36 : decode c_S_isInConflict 36 = .ok (.ireturn, 1) := by decide +kernel
theorem d_S_sumOfCounts_0 : decode c_S_sumOfCounts 0 = .ok (.lconst 0, 1) := by decide +kernel
theorem d_S_sumOfCounts_1 : decode c_S_sumOfCounts 1 = .ok (.lstore 5, 2) := by decide +kernel
theorem d_S_sumOfCounts_3 : decode c_S_sumOfCounts 3 = .ok (.iconst 0, 1) := by decide +kernel
theorem d_S_sumOfCounts_4 : decode c_S_sumOfCounts 4 = .ok (.istore 7, 2) := by decide +kernel
theorem d_S_sumOfCounts_6 : decode c_S_sumOfCounts 6 = .ok (.iload 7, 2) := by decide +kernel
theorem d_S_sumOfCounts_8 : decode c_S_sumOfCounts 8 = .ok (.iload 4, 2) := by decide +kernel
theorem d_S_sumOfCounts_10 : decode c_S_sumOfCounts 10 = .ok (.if_icmp .ge 49, 3) := by decide +kernel
theorem d_S_sumOfCounts_13 : decode c_S_sumOfCounts 13 = .ok (.aload_n 0, 1) := by decide +kernel
theorem d_S_sumOfCounts_14 : decode c_S_sumOfCounts 14 = .ok (.getfield 26, 3) := by decide +kernel
theorem d_S_sumOfCounts_17 : decode c_S_sumOfCounts 17 = .ok (.aload_n 0, 1) := by decide +kernel
theorem d_S_sumOfCounts_18 : decode c_S_sumOfCounts 18 = .ok (.getfield 9, 3) := by decide +kernel
theorem d_S_sumOfCounts_21 : decode c_S_sumOfCounts 21 = .ok (.iload 7, 2) := by decide +kernel
theorem d_S_sumOfCounts_23 : decode c_S_sumOfCounts 23 = .ok (.iaload, 1) := by decide +kernel
theorem d_S_sumOfCounts_24 : decode c_S_sumOfCounts 24 = .ok (.iload_n 1, 1) := by decide +kernel
theorem d_S_sumOfCounts_25 : decode c_S_sumOfCounts 25 = .ok (.iconst 0, 1) := by decide +kernel
theorem d_S_sumOfCounts_26 : decode c_S_sumOfCounts 26 = .ok (.lload_n 2, 1) := by decide +kernel
theorem d_S_sumOfCounts_27 : decode c_S_sumOfCounts 27 = .ok (.invokevirtual 71, 3) := by decide +kernel
theorem d_S_sumOfCounts_30 : decode c_S_sumOfCounts 30 = .ok (.ifCond .eq 23, 3) := by decide +kernel
theorem d_S_sumOfCounts_33 : decode c_S_sumOfCounts 33 = .ok (.lload 5, 2) := by decide +kernel
theorem d_S_sumOfCounts_35 : decode c_S_sumOfCounts 35 = .ok (.aload_n 0, 1) := by decide +kernel
theorem d_S_sumOfCounts_36 : decode c_S_sumOfCounts 36 = .ok (.getfield 26, 3) := by decide +kernel
theorem d_S_sumOfCounts_39 : decode c_S_sumOfCounts 39 = .ok (.getfield 75, 3) := by decide +kernel
theorem d_S_sumOfCounts_42 : decode c_S_sumOfCounts 42 = .ok (.aload_n 0, 1) := by decide +kernel
theorem d_S_sumOfCounts_43 : decode c_S_sumOfCounts 43 = .ok (.getfield 9, 3) := by decide +kernel
theorem d_S_sumOfCounts_46 : decode c_S_sumOfCounts 46 = .ok (.iload 7, 2) := by decide +kernel
theorem d_S_sumOfCounts_48 : decode c_S_sumOfCounts 48 = .ok (.iaload, 1) := by decide +kernel
theorem d_S_sumOfCounts_49 : decode c_S_sumOfCounts 49 = .ok (.laload, 1) := by decide +kernel
theorem d_S_sumOfCounts_50 : decode c_S_sumOfCounts 50 = .ok (.ladd, 1) := by decide +kernel
theorem d_S_sumOfCounts_51 : decode c_S_sumOfCounts 51 = .ok (.lstore 5, 2) := by decide +kernel
theorem d_S_sumOfCounts_53 : decode c_S_sumOfCounts 53 = .ok (.iinc 7 1, 3) := by decide +kernel
theorem d_S_sumOfCounts_56 : decode c_S_sumOfCounts 56 = .ok (.goto (-50), 3) := by decide +kernel
theorem d_S_sumOfCounts_59 : decode c_S_sumOfCounts 59 = .ok (.lload 5, 2) := by decide +kernel
theorem d_S_sumOfCounts_61 : decode c_S_sumOfCounts 61 = .ok (.lreturn, 1) := by decide +kernel
theorem d_S_knownMark_0 : decode c_S_knownMark 0 = .ok (.aload_n 0, 1) := by decide +kernel
theorem d_S_knownMark_1 : decode c_S_knownMark 1 = .ok (.iload_n 1, 1) := by decide +kernel
theorem d_S_knownMark_2 : decode c_S_knownMark 2 = .ok (.lload_n 2, 1) := by decide +kernel
theorem d_S_knownMark_3 : decode c_S_knownMark 3 = .ok (.iload 4, 2) := by decide +kernel
theorem d_S_knownMark_5 : decode c_S_knownMark 5 = .ok (.invokevirtual 63, 3) := by decide +kernel
theorem d_S_knownMark_8 : decode c_S_knownMark 8 = .ok (.istore 5, 2) := by decide +kernel
theorem d_S_knownMark_10 : decode c_S_knownMark 10 = .ok (.iload 5, 2) := by decide +kernel
theorem d_S_knownMark_12 : decode c_S_knownMark 12 = .ok (.iconst (-1), 1) := by decide +kernel
theorem d_S_knownMark_13 : decode c_S_knownMark 13 = .ok (.if_icmp .eq 14, 3) := by decide +kernel
theorem d_S_knownMark_16 : decode c_S_knownMark 16 = .ok (.aload_n 0, 1) := by decide +kernel
theorem d_S_knownMark_17 : decode c_S_knownMark 17 = .ok (.getfield 26, 3) := by decide +kernel
theorem d_S_knownMark_20 : decode c_S_knownMark 20 = .ok (.getfield 75, 3) := by decide +kernel
theorem d_S_knownMark_23 : decode c_S_knownMark 23 = .ok (.iload 5, 2) := by decide +kernel
theorem d_S_knownMark_25 : decode c_S_knownMark 25 = .ok (.laload, 1) := by decide +kernel
theorem d_S_knownMark_26 : decode c_S_knownMark 26 = .ok (.lreturn, 1) := by decide +kernel
theorem d_S_knownMark_27 : decode c_S_knownMark 27 = .ok (.aload_n 0, 1) := by decide +kernel
theorem d_S_knownMark_28 : decode c_S_knownMark 28 = .ok (.iload_n 1, 1) := by decide +kernel
theorem d_S_knownMark_29 : decode c_S_knownMark 29 = .ok (.lload_n 2, 1) := by decide +kernel
theorem d_S_knownMark_30 : decode c_S_knownMark 30 = .ok (.iload 4, 2) := by decide +kernel
theorem d_S_knownMark_32 : decode c_S_knownMark 32 = .ok (.invokevirtual 67, 3) := by decide +kernel
theorem d_S_knownMark_35 : decode c_S_knownMark 35 = .ok (.ifCond .eq 5, 3) := by decide +kernel
theorem d_S_knownMark_38 : decode c_S_knownMark 38 = .ok (.lconst 0, 1) := by decide +kernel
theorem d_S_knownMark_39 : decode c_S_knownMark 39 = .ok (.lreturn, 1) := by decide +kernel
theorem d_S_knownMark_40 : decode c_S_knownMark 40 = .ok (.aload_n 0, 1) := by decide +kernel
theorem d_S_knownMark_41 : decode c_S_knownMark 41 = .ok (.aload_n 0, 1) := by decide +kernel
theorem d_S_knownMark_42 : decode c_S_knownMark 42 = .ok (.iload_n 1, 1) := by decide +kernel
theorem d_S_knownMark_43 : decode c_S_knownMark 43 = .ok (.iconst 2, 1) := by decide +kernel
theorem d_S_knownMark_44 : decode c_S_knownMark 44 = .ok (.lload_n 2, 1) := by decide +kernel
theorem d_S_knownMark_45 : decode c_S_knownMark 45 = .ok (.iload 4, 2) := by decide +kernel
theorem d_S_knownMark_47 : decode c_S_knownMark 47 = .ok (.invokevirtual 53, 3) := by decide +kernel
theorem d_S_knownMark_50 : decode c_S_knownMark 50 = .ok (.invokevirtual 57, 3) := by decide +kernel
theorem d_S_knownMark_53 : decode c_S_knownMark 53 = .ok (.lreturn, 1) := by decide +kernel
theorem d_S_latest_0 : decode c_S_latest 0 = .ok (.iconst (-1), 1) := by decide +kernel
theorem d_S_latest_1 : decode c_S_latest 1 = .ok (.istore 6, 2) := by decide +kernel
theorem d_S_latest_3 : decode c_S_latest 3 = .ok (.iconst 0, 1) := by decide +kernel
theorem d_S_latest_4 : decode c_S_latest 4 = .ok (.istore 7, 2) := by decide +kernel
theorem d_S_latest_6 : decode c_S_latest 6 = .ok (.iload 7, 2) := by decide +kernel
theorem d_S_latest_8 : decode c_S_latest 8 = .ok (.iload 5, 2) := by decide +kernel
theorem d_S_latest_10 : decode c_S_latest 10 = .ok (.if_icmp .ge 57, 3) := by decide +kernel
theorem d_S_latest_13 : decode c_S_latest 13 = .ok (.aload_n 0, 1) := by decide +kernel
theorem d_S_latest_14 : decode c_S_latest 14 = .ok (.getfield 9, 3) := by decide +kernel
theorem d_S_latest_17 : decode c_S_latest 17 = .ok (.iload 7, 2) := by decide +kernel
theorem d_S_latest_19 : decode c_S_latest 19 = .ok (.iaload, 1) := by decide +kernel
theorem d_S_latest_20 : decode c_S_latest 20 = .ok (.istore 8, 2) := by decide +kernel
theorem d_S_latest_22 : decode c_S_latest 22 = .ok (.aload_n 0, 1) := by decide +kernel
theorem d_S_latest_23 : decode c_S_latest 23 = .ok (.getfield 26, 3) := by decide +kernel
theorem d_S_latest_26 : decode c_S_latest 26 = .ok (.iload 8, 2) := by decide +kernel
theorem d_S_latest_28 : decode c_S_latest 28 = .ok (.iload_n 1, 1) := by decide +kernel
theorem d_S_latest_29 : decode c_S_latest 29 = .ok (.iload_n 2, 1) := by decide +kernel
theorem d_S_latest_30 : decode c_S_latest 30 = .ok (.lload_n 3, 1) := by decide +kernel
theorem d_S_latest_31 : decode c_S_latest 31 = .ok (.invokevirtual 71, 3) := by decide +kernel
theorem d_S_latest_34 : decode c_S_latest 34 = .ok (.ifCond .eq 27, 3) := by decide +kernel
theorem d_S_latest_37 : decode c_S_latest 37 = .ok (.iload 6, 2) := by decide +kernel
theorem d_S_latest_39 : decode c_S_latest 39 = .ok (.iconst (-1), 1) := by decide +kernel
theorem d_S_latest_40 : decode c_S_latest 40 = .ok (.if_icmp .eq 17, 3) := by decide +kernel
theorem d_S_latest_43 : decode c_S_latest 43 = .ok (.aload_n 0, 1) := by decide +kernel
theorem d_S_latest_44 : decode c_S_latest 44 = .ok (.getfield 26, 3) := by decide +kernel
theorem d_S_latest_47 : decode c_S_latest 47 = .ok (.iload 8, 2) := by decide +kernel
theorem d_S_latest_49 : decode c_S_latest 49 = .ok (.iload 6, 2) := by decide +kernel
theorem d_S_latest_51 : decode c_S_latest 51 = .ok (.invokevirtual 78, 3) := by decide +kernel
theorem d_S_latest_54 : decode c_S_latest 54 = .ok (.ifCond .eq 7, 3) := by decide +kernel
theorem d_S_latest_57 : decode c_S_latest 57 = .ok (.iload 8, 2) := by decide +kernel
theorem d_S_latest_59 : decode c_S_latest 59 = .ok (.istore 6, 2) := by decide +kernel
theorem d_S_latest_61 : decode c_S_latest 61 = .ok (.iinc 7 1, 3) := by decide +kernel
theorem d_S_latest_64 : decode c_S_latest 64 = .ok (.goto (-58), 3) := by decide +kernel
theorem d_S_latest_67 : decode c_S_latest 67 = .ok (.iload 6, 2) := by decide +kernel
theorem d_S_latest_69 : decode c_S_latest 69 = .ok (.ireturn, 1) := by decide +kernel
theorem d_S_settling_0 : decode c_S_settling 0 = .ok (.aload_n 0, 1) := by decide +kernel
theorem d_S_settling_1 : decode c_S_settling 1 = .ok (.iload_n 1, 1) := by decide +kernel
theorem d_S_settling_2 : decode c_S_settling 2 = .ok (.iconst 3, 1) := by decide +kernel
theorem d_S_settling_3 : decode c_S_settling 3 = .ok (.lload_n 2, 1) := by decide +kernel
theorem d_S_settling_4 : decode c_S_settling 4 = .ok (.iload 4, 2) := by decide +kernel
theorem d_S_settling_6 : decode c_S_settling 6 = .ok (.invokevirtual 53, 3) := by decide +kernel
theorem d_S_settling_9 : decode c_S_settling 9 = .ok (.istore 5, 2) := by decide +kernel
theorem d_S_settling_11 : decode c_S_settling 11 = .ok (.aload_n 0, 1) := by decide +kernel
theorem d_S_settling_12 : decode c_S_settling 12 = .ok (.iload_n 1, 1) := by decide +kernel
theorem d_S_settling_13 : decode c_S_settling 13 = .ok (.iconst 2, 1) := by decide +kernel
theorem d_S_settling_14 : decode c_S_settling 14 = .ok (.lload_n 2, 1) := by decide +kernel
theorem d_S_settling_15 : decode c_S_settling 15 = .ok (.iload 4, 2) := by decide +kernel
theorem d_S_settling_17 : decode c_S_settling 17 = .ok (.invokevirtual 53, 3) := by decide +kernel
theorem d_S_settling_20 : decode c_S_settling 20 = .ok (.istore 6, 2) := by decide +kernel
theorem d_S_settling_22 : decode c_S_settling 22 = .ok (.iload 5, 2) := by decide +kernel
theorem d_S_settling_24 : decode c_S_settling 24 = .ok (.iconst (-1), 1) := by decide +kernel
theorem d_S_settling_25 : decode c_S_settling 25 = .ok (.if_icmp .eq 9, 3) := by decide +kernel
theorem d_S_settling_28 : decode c_S_settling 28 = .ok (.iload 6, 2) := by decide +kernel
theorem d_S_settling_30 : decode c_S_settling 30 = .ok (.iconst (-1), 1) := by decide +kernel
theorem d_S_settling_31 : decode c_S_settling 31 = .ok (.if_icmp .ne 6, 3) := by decide +kernel
theorem d_S_settling_34 : decode c_S_settling 34 = .ok (.iload 5, 2) := by decide +kernel
theorem d_S_settling_36 : decode c_S_settling 36 = .ok (.ireturn, 1) := by decide +kernel
theorem d_S_settling_37 : decode c_S_settling 37 = .ok (.aload_n 0, 1) := by decide +kernel
theorem d_S_settling_38 : decode c_S_settling 38 = .ok (.getfield 26, 3) := by decide +kernel
theorem d_S_settling_41 : decode c_S_settling 41 = .ok (.getfield 82, 3) := by decide +kernel
theorem d_S_settling_44 : decode c_S_settling 44 = .ok (.iload 5, 2) := by decide +kernel
theorem d_S_settling_46 : decode c_S_settling 46 = .ok (.laload, 1) := by decide +kernel
theorem d_S_settling_47 : decode c_S_settling 47 = .ok (.aload_n 0, 1) := by decide +kernel
theorem d_S_settling_48 : decode c_S_settling 48 = .ok (.getfield 26, 3) := by decide +kernel
theorem d_S_settling_51 : decode c_S_settling 51 = .ok (.getfield 82, 3) := by decide +kernel
theorem d_S_settling_54 : decode c_S_settling 54 = .ok (.iload 6, 2) := by decide +kernel
theorem d_S_settling_56 : decode c_S_settling 56 = .ok (.laload, 1) := by decide +kernel
theorem d_S_settling_57 : decode c_S_settling 57 = .ok (.lcmp, 1) := by decide +kernel
theorem d_S_settling_58 : decode c_S_settling 58 = .ok (.ifCond .lt 8, 3) := by decide +kernel
theorem d_S_settling_61 : decode c_S_settling 61 = .ok (.iload 5, 2) := by decide +kernel
theorem d_S_settling_63 : decode c_S_settling 63 = .ok (.goto 4, 3) := by decide +kernel
theorem d_S_settling_66 : decode c_S_settling 66 = .ok (.iconst (-1), 1) := by decide +kernel
theorem d_S_settling_67 : decode c_S_settling 67 = .ok (.ireturn, 1) := by decide +kernel
theorem d_S_hasUnlikeMarks_0 : decode c_S_hasUnlikeMarks 0 = .ok (.aload_n 0, 1) := by decide +kernel
theorem d_S_hasUnlikeMarks_1 : decode c_S_hasUnlikeMarks 1 = .ok (.iload_n 1, 1) := by decide +kernel
theorem d_S_hasUnlikeMarks_2 : decode c_S_hasUnlikeMarks 2 = .ok (.iconst 2, 1) := by decide +kernel
theorem d_S_hasUnlikeMarks_3 : decode c_S_hasUnlikeMarks 3 = .ok (.lload_n 2, 1) := by decide +kernel
theorem d_S_hasUnlikeMarks_4 : decode c_S_hasUnlikeMarks 4 = .ok (.iload 4, 2) := by decide +kernel
theorem d_S_hasUnlikeMarks_6 : decode c_S_hasUnlikeMarks 6 = .ok (.invokevirtual 53, 3) := by decide +kernel
theorem d_S_hasUnlikeMarks_9 : decode c_S_hasUnlikeMarks 9 = .ok (.istore 5, 2) := by decide +kernel
theorem d_S_hasUnlikeMarks_11 : decode c_S_hasUnlikeMarks 11 = .ok (.iload 5, 2) := by decide +kernel
theorem d_S_hasUnlikeMarks_13 : decode c_S_hasUnlikeMarks 13 = .ok (.iconst (-1), 1) := by decide +kernel
theorem d_S_hasUnlikeMarks_14 : decode c_S_hasUnlikeMarks 14 = .ok (.if_icmp .ne 5, 3) := by decide +kernel
theorem d_S_hasUnlikeMarks_17 : decode c_S_hasUnlikeMarks 17 = .ok (.iconst 0, 1) := by decide +kernel
theorem d_S_hasUnlikeMarks_18 : decode c_S_hasUnlikeMarks 18 = .ok (.ireturn, 1) := by decide +kernel
theorem d_S_hasUnlikeMarks_19 : decode c_S_hasUnlikeMarks 19 = .ok (.iconst 0, 1) := by decide +kernel
theorem d_S_hasUnlikeMarks_20 : decode c_S_hasUnlikeMarks 20 = .ok (.istore 6, 2) := by decide +kernel
theorem d_S_hasUnlikeMarks_22 : decode c_S_hasUnlikeMarks 22 = .ok (.iload 6, 2) := by decide +kernel
theorem d_S_hasUnlikeMarks_24 : decode c_S_hasUnlikeMarks 24 = .ok (.iload 4, 2) := by decide +kernel
theorem d_S_hasUnlikeMarks_26 : decode c_S_hasUnlikeMarks 26 = .ok (.if_icmp .ge 60, 3) := by decide +kernel
theorem d_S_hasUnlikeMarks_29 : decode c_S_hasUnlikeMarks 29 = .ok (.aload_n 0, 1) := by decide +kernel
theorem d_S_hasUnlikeMarks_30 : decode c_S_hasUnlikeMarks 30 = .ok (.getfield 26, 3) := by decide +kernel
theorem d_S_hasUnlikeMarks_33 : decode c_S_hasUnlikeMarks 33 = .ok (.aload_n 0, 1) := by decide +kernel
theorem d_S_hasUnlikeMarks_34 : decode c_S_hasUnlikeMarks 34 = .ok (.getfield 9, 3) := by decide +kernel
theorem d_S_hasUnlikeMarks_37 : decode c_S_hasUnlikeMarks 37 = .ok (.iload 6, 2) := by decide +kernel
theorem d_S_hasUnlikeMarks_39 : decode c_S_hasUnlikeMarks 39 = .ok (.iaload, 1) := by decide +kernel
theorem d_S_hasUnlikeMarks_40 : decode c_S_hasUnlikeMarks 40 = .ok (.iload_n 1, 1) := by decide +kernel
theorem d_S_hasUnlikeMarks_41 : decode c_S_hasUnlikeMarks 41 = .ok (.iconst 2, 1) := by decide +kernel
theorem d_S_hasUnlikeMarks_42 : decode c_S_hasUnlikeMarks 42 = .ok (.lload_n 2, 1) := by decide +kernel
theorem d_S_hasUnlikeMarks_43 : decode c_S_hasUnlikeMarks 43 = .ok (.invokevirtual 71, 3) := by decide +kernel
theorem d_S_hasUnlikeMarks_46 : decode c_S_hasUnlikeMarks 46 = .ok (.ifCond .eq 34, 3) := by decide +kernel
theorem d_S_hasUnlikeMarks_49 : decode c_S_hasUnlikeMarks 49 = .ok (.aload_n 0, 1) := by decide +kernel
theorem d_S_hasUnlikeMarks_50 : decode c_S_hasUnlikeMarks 50 = .ok (.getfield 26, 3) := by decide +kernel
theorem d_S_hasUnlikeMarks_53 : decode c_S_hasUnlikeMarks 53 = .ok (.getfield 75, 3) := by decide +kernel
theorem d_S_hasUnlikeMarks_56 : decode c_S_hasUnlikeMarks 56 = .ok (.aload_n 0, 1) := by decide +kernel
theorem d_S_hasUnlikeMarks_57 : decode c_S_hasUnlikeMarks 57 = .ok (.getfield 9, 3) := by decide +kernel
theorem d_S_hasUnlikeMarks_60 : decode c_S_hasUnlikeMarks 60 = .ok (.iload 6, 2) := by decide +kernel
theorem d_S_hasUnlikeMarks_62 : decode c_S_hasUnlikeMarks 62 = .ok (.iaload, 1) := by decide +kernel
theorem d_S_hasUnlikeMarks_63 : decode c_S_hasUnlikeMarks 63 = .ok (.laload, 1) := by decide +kernel
theorem d_S_hasUnlikeMarks_64 : decode c_S_hasUnlikeMarks 64 = .ok (.aload_n 0, 1) := by decide +kernel
theorem d_S_hasUnlikeMarks_65 : decode c_S_hasUnlikeMarks 65 = .ok (.getfield 26, 3) := by decide +kernel
theorem d_S_hasUnlikeMarks_68 : decode c_S_hasUnlikeMarks 68 = .ok (.getfield 75, 3) := by decide +kernel
theorem d_S_hasUnlikeMarks_71 : decode c_S_hasUnlikeMarks 71 = .ok (.iload 5, 2) := by decide +kernel
theorem d_S_hasUnlikeMarks_73 : decode c_S_hasUnlikeMarks 73 = .ok (.laload, 1) := by decide +kernel
theorem d_S_hasUnlikeMarks_74 : decode c_S_hasUnlikeMarks 74 = .ok (.lcmp, 1) := by decide +kernel
theorem d_S_hasUnlikeMarks_75 : decode c_S_hasUnlikeMarks 75 = .ok (.ifCond .eq 5, 3) := by decide +kernel
theorem d_S_hasUnlikeMarks_78 : decode c_S_hasUnlikeMarks 78 = .ok (.iconst 1, 1) := by decide +kernel
theorem d_S_hasUnlikeMarks_79 : decode c_S_hasUnlikeMarks 79 = .ok (.ireturn, 1) := by decide +kernel
theorem d_S_hasUnlikeMarks_80 : decode c_S_hasUnlikeMarks 80 = .ok (.iinc 6 1, 3) := by decide +kernel
theorem d_S_hasUnlikeMarks_83 : decode c_S_hasUnlikeMarks 83 = .ok (.goto (-61), 3) := by decide +kernel
theorem d_S_hasUnlikeMarks_86 : decode c_S_hasUnlikeMarks 86 = .ok (.iconst 0, 1) := by decide +kernel
theorem d_S_hasUnlikeMarks_87 : decode c_S_hasUnlikeMarks 87 = .ok (.ireturn, 1) := by decide +kernel
theorem d_S_valueOrZero_0 : decode c_S_valueOrZero 0 = .ok (.iload_n 1, 1) := by decide +kernel
theorem d_S_valueOrZero_1 : decode c_S_valueOrZero 1 = .ok (.iconst (-1), 1) := by decide +kernel
theorem d_S_valueOrZero_2 : decode c_S_valueOrZero 2 = .ok (.if_icmp .ne 7, 3) := by decide +kernel
theorem d_S_valueOrZero_5 : decode c_S_valueOrZero 5 = .ok (.lconst 0, 1) := by decide +kernel
theorem d_S_valueOrZero_6 : decode c_S_valueOrZero 6 = .ok (.goto 12, 3) := by decide +kernel
theorem d_S_valueOrZero_9 : decode c_S_valueOrZero 9 = .ok (.aload_n 0, 1) := by decide +kernel
theorem d_S_valueOrZero_10 : decode c_S_valueOrZero 10 = .ok (.getfield 26, 3) := by decide +kernel
theorem d_S_valueOrZero_13 : decode c_S_valueOrZero 13 = .ok (.getfield 75, 3) := by decide +kernel
theorem d_S_valueOrZero_16 : decode c_S_valueOrZero 16 = .ok (.iload_n 1, 1) := by decide +kernel
theorem d_S_valueOrZero_17 : decode c_S_valueOrZero 17 = .ok (.laload, 1) := by decide +kernel
theorem d_S_valueOrZero_18 : decode c_S_valueOrZero 18 = .ok (.lreturn, 1) := by decide +kernel
