/-! decode rows of ShopDesks -/
theorem d_X_init_0 : decode c_X_init 0 = .ok (.aload_n 0, 1) := by decide +kernel
theorem d_X_init_1 : decode c_X_init 1 = .ok (.invokespecial 3, 3) := by decide +kernel
theorem d_X_init_4 : decode c_X_init 4 = .ok (.aload_n 0, 1) := by decide +kernel
theorem d_X_init_5 : decode c_X_init 5 = .ok (.new 9, 3) := by decide +kernel
theorem d_X_init_8 : decode c_X_init 8 = .ok (.dup, 1) := by decide +kernel
theorem d_X_init_9 : decode c_X_init 9 = .ok (.invokespecial 11, 3) := by decide +kernel
theorem d_X_init_12 : decode c_X_init 12 = .ok (.putfield 12, 3) := by decide +kernel
theorem d_X_init_15 : decode c_X_init 15 = .ok (.aload_n 0, 1) := by decide +kernel
theorem d_X_init_16 : decode c_X_init 16 = .ok (.bipush 8, 2) := by decide +kernel
theorem d_X_init_18 : decode c_X_init 18 = .ok (.anewarray 16, 3) := by decide +kernel
theorem d_X_init_21 : decode c_X_init 21 = .ok (.putfield 18, 3) := by decide +kernel
theorem d_X_init_24 : decode c_X_init 24 = .ok (.iconst 0, 1) := by decide +kernel
theorem d_X_init_25 : decode c_X_init 25 = .ok (.istore_n 1, 1) := by decide +kernel
theorem d_X_init_26 : decode c_X_init 26 = .ok (.iload_n 1, 1) := by decide +kernel
theorem d_X_init_27 : decode c_X_init 27 = .ok (.bipush 8, 2) := by decide +kernel
theorem d_X_init_29 : decode c_X_init 29 = .ok (.if_icmp .ge 26, 3) := by decide +kernel
theorem d_X_init_32 : decode c_X_init 32 = .ok (.aload_n 0, 1) := by decide +kernel
theorem d_X_init_33 : decode c_X_init 33 = .ok (.getfield 18, 3) := by decide +kernel
theorem d_X_init_36 : decode c_X_init 36 = .ok (.iload_n 1, 1) := by decide +kernel
theorem d_X_init_37 : decode c_X_init 37 = .ok (.new 16, 3) := by decide +kernel
theorem d_X_init_40 : decode c_X_init 40 = .ok (.dup, 1) := by decide +kernel
theorem d_X_init_41 : decode c_X_init 41 = .ok (.aload_n 0, 1) := by decide +kernel
theorem d_X_init_42 : decode c_X_init 42 = .ok (.getfield 12, 3) := by decide +kernel
theorem d_X_init_45 : decode c_X_init 45 = .ok (.invokespecial 22, 3) := by decide +kernel
theorem d_X_init_48 : decode c_X_init 48 = .ok (.aastore, 1) := by decide +kernel
theorem d_X_init_49 : decode c_X_init 49 = .ok (.iinc 1 1, 3) := by decide +kernel
theorem d_X_init_52 : decode c_X_init 52 = .ok (.goto (-26), 3) := by decide +kernel
theorem d_X_init_55 : decode c_X_init 55 = .ok (.aload_n 0, 1) := by decide +kernel
theorem d_X_init_56 : decode c_X_init 56 = .ok (.iconst 0, 1) := by decide +kernel
theorem d_X_init_57 : decode c_X_init 57 = .ok (.putfield 25, 3) := by decide +kernel
theorem d_X_init_60 : decode c_X_init 60 = .ok (.aload_n 0, 1) := by decide +kernel
theorem d_X_init_61 : decode c_X_init 61 = .ok (.bipush 16, 2) := by decide +kernel
theorem d_X_init_63 : decode c_X_init 63 = .ok (.newarray .boolean, 2) := by decide +kernel
theorem d_X_init_65 : decode c_X_init 65 = .ok (.putfield 29, 3) := by decide +kernel
theorem d_X_init_68 : decode c_X_init 68 = .ok (.aload_n 0, 1) := by decide +kernel
theorem d_X_init_69 : decode c_X_init 69 = .ok (.new 33, 3) := by decide +kernel
theorem d_X_init_72 : decode c_X_init 72 = .ok (.dup, 1) := by decide +kernel
theorem d_X_init_73 : decode c_X_init 73 = .ok (.invokespecial 35, 3) := by decide +kernel
theorem d_X_init_76 : decode c_X_init 76 = .ok (.putfield 36, 3) := by decide +kernel
theorem d_X_init_79 : decode c_X_init 79 = .ok (.return_, 1) := by decide +kernel
theorem d_X_tell_0 : decode c_X_tell 0 = .ok (.iload_n 1, 1) := by decide +kernel
theorem d_X_tell_1 : decode c_X_tell 1 = .ok (.invokestatic 40, 3) := by decide +kernel
theorem d_X_tell_4 : decode c_X_tell 4 = .ok (.iload 4, 2) := by decide +kernel
theorem d_X_tell_6 : decode c_X_tell 6 = .ok (.invokestatic 44, 3) := by decide +kernel
theorem d_X_tell_9 : decode c_X_tell 9 = .ok (.iload 5, 2) := by decide +kernel
theorem d_X_tell_11 : decode c_X_tell 11 = .ok (.invokestatic 47, 3) := by decide +kernel
theorem d_X_tell_14 : decode c_X_tell 14 = .ok (.aload_n 0, 1) := by decide +kernel
theorem d_X_tell_15 : decode c_X_tell 15 = .ok (.getfield 12, 3) := by decide +kernel
theorem d_X_tell_18 : decode c_X_tell 18 = .ok (.iload_n 1, 1) := by decide +kernel
theorem d_X_tell_19 : decode c_X_tell 19 = .ok (.lload_n 2, 1) := by decide +kernel
theorem d_X_tell_20 : decode c_X_tell 20 = .ok (.invokevirtual 50, 3) := by decide +kernel
theorem d_X_tell_23 : decode c_X_tell 23 = .ok (.ifCond .eq 5, 3) := by decide +kernel
theorem d_X_tell_26 : decode c_X_tell 26 = .ok (.iconst 0, 1) := by decide +kernel
theorem d_X_tell_27 : decode c_X_tell 27 = .ok (.ireturn, 1) := by decide +kernel
theorem d_X_tell_28 : decode c_X_tell 28 = .ok (.aload_n 0, 1) := by decide +kernel
theorem d_X_tell_29 : decode c_X_tell 29 = .ok (.getfield 12, 3) := by decide +kernel
theorem d_X_tell_32 : decode c_X_tell 32 = .ok (.getfield 54, 3) := by decide +kernel
theorem d_X_tell_35 : decode c_X_tell 35 = .ok (.sipush 300, 3) := by decide +kernel
theorem d_X_tell_38 : decode c_X_tell 38 = .ok (.if_icmp .lt 13, 3) := by decide +kernel
theorem d_X_tell_41 : decode c_X_tell 41 = .ok (.new 57, 3) := by decide +kernel
theorem d_X_tell_44 : decode c_X_tell 44 = .ok (.dup, 1) := by decide +kernel
theorem d_X_tell_45 : decode c_X_tell 45 = .ok (.ldc 59, 2) := by decide +kernel
theorem d_X_tell_47 : decode c_X_tell 47 = .ok (.invokespecial 61, 3) := by decide +kernel
theorem d_X_tell_50 : decode c_X_tell 50 = .ok (.athrow, 1) := by decide +kernel
theorem d_X_tell_51 : decode c_X_tell 51 = .ok (.aload_n 0, 1) := by decide +kernel
theorem d_X_tell_52 : decode c_X_tell 52 = .ok (.getfield 12, 3) := by decide +kernel
theorem d_X_tell_55 : decode c_X_tell 55 = .ok (.iload_n 1, 1) := by decide +kernel
theorem d_X_tell_56 : decode c_X_tell 56 = .ok (.lload_n 2, 1) := by decide +kernel
theorem d_X_tell_57 : decode c_X_tell 57 = .ok (.iload 4, 2) := by decide +kernel
theorem d_X_tell_59 : decode c_X_tell 59 = .ok (.iload 5, 2) := by decide +kernel
theorem d_X_tell_61 : decode c_X_tell 61 = .ok (.lload 6, 2) := by decide +kernel
theorem d_X_tell_63 : decode c_X_tell 63 = .ok (.lload 8, 2) := by decide +kernel
theorem d_X_tell_65 : decode c_X_tell 65 = .ok (.invokevirtual 64, 3) := by decide +kernel
theorem d_X_tell_68 : decode c_X_tell 68 = .ok (.iconst 1, 1) := by decide +kernel
theorem d_X_tell_69 : decode c_X_tell 69 = .ok (.ireturn, 1) := by decide +kernel
theorem d_X_set_0 : decode c_X_set 0 = .ok (.iload_n 1, 1) := by decide +kernel
theorem d_X_set_1 : decode c_X_set 1 = .ok (.invokestatic 40, 3) := by decide +kernel
theorem d_X_set_4 : decode c_X_set 4 = .ok (.aload_n 0, 1) := by decide +kernel
theorem d_X_set_5 : decode c_X_set 5 = .ok (.getfield 25, 3) := by decide +kernel
theorem d_X_set_8 : decode c_X_set 8 = .ok (.bipush 8, 2) := by decide +kernel
theorem d_X_set_10 : decode c_X_set 10 = .ok (.if_icmp .lt 13, 3) := by decide +kernel
theorem d_X_set_13 : decode c_X_set 13 = .ok (.new 57, 3) := by decide +kernel
theorem d_X_set_16 : decode c_X_set 16 = .ok (.dup, 1) := by decide +kernel
theorem d_X_set_17 : decode c_X_set 17 = .ok (.ldc 68, 2) := by decide +kernel
theorem d_X_set_19 : decode c_X_set 19 = .ok (.invokespecial 61, 3) := by decide +kernel
theorem d_X_set_22 : decode c_X_set 22 = .ok (.athrow, 1) := by decide +kernel
theorem d_X_set_23 : decode c_X_set 23 = .ok (.aload_n 0, 1) := by decide +kernel
theorem d_X_set_24 : decode c_X_set 24 = .ok (.getfield 18, 3) := by decide +kernel
theorem d_X_set_27 : decode c_X_set 27 = .ok (.aload_n 0, 1) := by decide +kernel
theorem d_X_set_28 : decode c_X_set 28 = .ok (.getfield 25, 3) := by decide +kernel
theorem d_X_set_31 : decode c_X_set 31 = .ok (.aaload, 1) := by decide +kernel
theorem d_X_set_32 : decode c_X_set 32 = .ok (.iload_n 1, 1) := by decide +kernel
theorem d_X_set_33 : decode c_X_set 33 = .ok (.invokevirtual 70, 3) := by decide +kernel
theorem d_X_set_36 : decode c_X_set 36 = .ok (.aload_n 0, 1) := by decide +kernel
theorem d_X_set_37 : decode c_X_set 37 = .ok (.dup, 1) := by decide +kernel
theorem d_X_set_38 : decode c_X_set 38 = .ok (.getfield 25, 3) := by decide +kernel
theorem d_X_set_41 : decode c_X_set 41 = .ok (.iconst 1, 1) := by decide +kernel
theorem d_X_set_42 : decode c_X_set 42 = .ok (.iadd, 1) := by decide +kernel
theorem d_X_set_43 : decode c_X_set 43 = .ok (.putfield 25, 3) := by decide +kernel
theorem d_X_set_46 : decode c_X_set 46 = .ok (.aload_n 0, 1) := by decide +kernel
theorem d_X_set_47 : decode c_X_set 47 = .ok (.getfield 25, 3) := by decide +kernel
theorem d_X_set_50 : decode c_X_set 50 = .ok (.iconst 1, 1) := by decide +kernel
theorem d_X_set_51 : decode c_X_set 51 = .ok (.isub, 1) := by decide +kernel
theorem d_X_set_52 : decode c_X_set 52 = .ok (.ireturn, 1) := by decide +kernel
theorem d_X_join_0 : decode c_X_join 0 = .ok (.aload_n 0, 1) := by decide +kernel
theorem d_X_join_1 : decode c_X_join 1 = .ok (.iload_n 1, 1) := by decide +kernel
theorem d_X_join_2 : decode c_X_join 2 = .ok (.invokevirtual 73, 3) := by decide +kernel
theorem d_X_join_5 : decode c_X_join 5 = .ok (.aload_n 0, 1) := by decide +kernel
theorem d_X_join_6 : decode c_X_join 6 = .ok (.iload_n 2, 1) := by decide +kernel
theorem d_X_join_7 : decode c_X_join 7 = .ok (.invokevirtual 73, 3) := by decide +kernel
theorem d_X_join_10 : decode c_X_join 10 = .ok (.aload_n 0, 1) := by decide +kernel
theorem d_X_join_11 : decode c_X_join 11 = .ok (.getfield 18, 3) := by decide +kernel
theorem d_X_join_14 : decode c_X_join 14 = .ok (.iload_n 1, 1) := by decide +kernel
theorem d_X_join_15 : decode c_X_join 15 = .ok (.aaload, 1) := by decide +kernel
theorem d_X_join_16 : decode c_X_join 16 = .ok (.aload_n 0, 1) := by decide +kernel
theorem d_X_join_17 : decode c_X_join 17 = .ok (.getfield 18, 3) := by decide +kernel
theorem d_X_join_20 : decode c_X_join 20 = .ok (.iload_n 2, 1) := by decide +kernel
theorem d_X_join_21 : decode c_X_join 21 = .ok (.aaload, 1) := by decide +kernel
theorem d_X_join_22 : decode c_X_join 22 = .ok (.invokevirtual 76, 3) := by decide +kernel
theorem d_X_join_25 : decode c_X_join 25 = .ok (.ireturn, 1) := by decide +kernel
theorem d_X_equal_0 : decode c_X_equal 0 = .ok (.aload_n 0, 1) := by decide +kernel
theorem d_X_equal_1 : decode c_X_equal 1 = .ok (.iload_n 1, 1) := by decide +kernel
theorem d_X_equal_2 : decode c_X_equal 2 = .ok (.invokevirtual 73, 3) := by decide +kernel
theorem d_X_equal_5 : decode c_X_equal 5 = .ok (.aload_n 0, 1) := by decide +kernel
theorem d_X_equal_6 : decode c_X_equal 6 = .ok (.iload_n 2, 1) := by decide +kernel
theorem d_X_equal_7 : decode c_X_equal 7 = .ok (.invokevirtual 73, 3) := by decide +kernel
theorem d_X_equal_10 : decode c_X_equal 10 = .ok (.aload_n 0, 1) := by decide +kernel
theorem d_X_equal_11 : decode c_X_equal 11 = .ok (.getfield 18, 3) := by decide +kernel
theorem d_X_equal_14 : decode c_X_equal 14 = .ok (.iload_n 1, 1) := by decide +kernel
theorem d_X_equal_15 : decode c_X_equal 15 = .ok (.aaload, 1) := by decide +kernel
theorem d_X_equal_16 : decode c_X_equal 16 = .ok (.aload_n 0, 1) := by decide +kernel
theorem d_X_equal_17 : decode c_X_equal 17 = .ok (.getfield 18, 3) := by decide +kernel
theorem d_X_equal_20 : decode c_X_equal 20 = .ok (.iload_n 2, 1) := by decide +kernel
theorem d_X_equal_21 : decode c_X_equal 21 = .ok (.aaload, 1) := by decide +kernel
theorem d_X_equal_22 : decode c_X_equal 22 = .ok (.invokevirtual 80, 3) := by decide +kernel
theorem d_X_equal_25 : decode c_X_equal 25 = .ok (.ireturn, 1) := by decide +kernel
theorem d_X_at_0 : decode c_X_at 0 = .ok (.aload_n 0, 1) := by decide +kernel
theorem d_X_at_1 : decode c_X_at 1 = .ok (.iload_n 1, 1) := by decide +kernel
theorem d_X_at_2 : decode c_X_at 2 = .ok (.invokevirtual 73, 3) := by decide +kernel
theorem d_X_at_5 : decode c_X_at 5 = .ok (.iload_n 2, 1) := by decide +kernel
theorem d_X_at_6 : decode c_X_at 6 = .ok (.invokestatic 44, 3) := by decide +kernel
theorem d_X_at_9 : decode c_X_at 9 = .ok (.iload_n 3, 1) := by decide +kernel
theorem d_X_at_10 : decode c_X_at 10 = .ok (.invokestatic 47, 3) := by decide +kernel
theorem d_X_at_13 : decode c_X_at 13 = .ok (.aload_n 0, 1) := by decide +kernel
theorem d_X_at_14 : decode c_X_at 14 = .ok (.getfield 18, 3) := by decide +kernel
theorem d_X_at_17 : decode c_X_at 17 = .ok (.iload_n 1, 1) := by decide +kernel
theorem d_X_at_18 : decode c_X_at 18 = .ok (.aaload, 1) := by decide +kernel
theorem d_X_at_19 : decode c_X_at 19 = .ok (.iload_n 2, 1) := by decide +kernel
theorem d_X_at_20 : decode c_X_at 20 = .ok (.iload_n 3, 1) := by decide +kernel
theorem d_X_at_21 : decode c_X_at 21 = .ok (.lload 4, 2) := by decide +kernel
theorem d_X_at_23 : decode c_X_at 23 = .ok (.aload_n 0, 1) := by decide +kernel
theorem d_X_at_24 : decode c_X_at 24 = .ok (.getfield 18, 3) := by decide +kernel
theorem d_X_at_27 : decode c_X_at 27 = .ok (.iload_n 1, 1) := by decide +kernel
theorem d_X_at_28 : decode c_X_at 28 = .ok (.aaload, 1) := by decide +kernel
theorem d_X_at_29 : decode c_X_at 29 = .ok (.getfield 84, 3) := by decide +kernel
theorem d_X_at_32 : decode c_X_at 32 = .ok (.invokevirtual 87, 3) := by decide +kernel
theorem d_X_at_35 : decode c_X_at 35 = .ok (.lreturn, 1) := by decide +kernel
theorem d_X_conflict_0 : decode c_X_conflict 0 = .ok (.aload_n 0, 1) := by decide +kernel
theorem d_X_conflict_1 : decode c_X_conflict 1 = .ok (.iload_n 1, 1) := by decide +kernel
theorem d_X_conflict_2 : decode c_X_conflict 2 = .ok (.invokevirtual 73, 3) := by decide +kernel
theorem d_X_conflict_5 : decode c_X_conflict 5 = .ok (.iload_n 2, 1) := by decide +kernel
theorem d_X_conflict_6 : decode c_X_conflict 6 = .ok (.ifCond .ge 13, 3) := by decide +kernel
theorem d_X_conflict_9 : decode c_X_conflict 9 = .ok (.new 91, 3) := by decide +kernel
theorem d_X_conflict_12 : decode c_X_conflict 12 = .ok (.dup, 1) := by decide +kernel
theorem d_X_conflict_13 : decode c_X_conflict 13 = .ok (.ldc 93, 2) := by decide +kernel
theorem d_X_conflict_15 : decode c_X_conflict 15 = .ok (.invokespecial 95, 3) := by decide +kernel
theorem d_X_conflict_18 : decode c_X_conflict 18 = .ok (.athrow, 1) := by decide +kernel
theorem d_X_conflict_19 : decode c_X_conflict 19 = .ok (.iconst 0, 1) := by decide +kernel
theorem d_X_conflict_20 : decode c_X_conflict 20 = .ok (.istore_n 3, 1) := by decide +kernel
theorem d_X_conflict_21 : decode c_X_conflict 21 = .ok (.iconst 0, 1) := by decide +kernel
theorem d_X_conflict_22 : decode c_X_conflict 22 = .ok (.istore 4, 2) := by decide +kernel
theorem d_X_conflict_24 : decode c_X_conflict 24 = .ok (.iload 4, 2) := by decide +kernel
theorem d_X_conflict_26 : decode c_X_conflict 26 = .ok (.bipush 10, 2) := by decide +kernel
theorem d_X_conflict_28 : decode c_X_conflict 28 = .ok (.if_icmp .ge 34, 3) := by decide +kernel
theorem d_X_conflict_31 : decode c_X_conflict 31 = .ok (.aload_n 0, 1) := by decide +kernel
theorem d_X_conflict_32 : decode c_X_conflict 32 = .ok (.getfield 18, 3) := by decide +kernel
theorem d_X_conflict_35 : decode c_X_conflict 35 = .ok (.iload_n 1, 1) := by decide +kernel
theorem d_X_conflict_36 : decode c_X_conflict 36 = .ok (.aaload, 1) := by decide +kernel
theorem d_X_conflict_37 : decode c_X_conflict 37 = .ok (.iload 4, 2) := by decide +kernel
theorem d_X_conflict_39 : decode c_X_conflict 39 = .ok (.invokevirtual 96, 3) := by decide +kernel
theorem d_X_conflict_42 : decode c_X_conflict 42 = .ok (.ifCond .eq 14, 3) := by decide +kernel
theorem d_X_conflict_45 : decode c_X_conflict 45 = .ok (.iload_n 3, 1) := by decide +kernel
theorem d_X_conflict_46 : decode c_X_conflict 46 = .ok (.iload_n 2, 1) := by decide +kernel
theorem d_X_conflict_47 : decode c_X_conflict 47 = .ok (.if_icmp .ne 6, 3) := by decide +kernel
theorem d_X_conflict_50 : decode c_X_conflict 50 = .ok (.iload 4, 2) := by decide +kernel
theorem d_X_conflict_52 : decode c_X_conflict 52 = .ok (.ireturn, 1) := by decide +kernel
theorem d_X_conflict_53 : decode c_X_conflict 53 = .ok (.iinc 3 1, 3) := by decide +kernel
theorem d_X_conflict_56 : decode c_X_conflict 56 = .ok (.iinc 4 1, 3) := by decide +kernel
theorem d_X_conflict_59 : decode c_X_conflict 59 = .ok (.goto (-35), 3) := by decide +kernel
theorem d_X_conflict_62 : decode c_X_conflict 62 = .ok (.iconst (-1), 1) := by decide +kernel
theorem d_X_conflict_63 : decode c_X_conflict 63 = .ok (.ireturn, 1) := by decide +kernel
theorem d_X_mark_0 : decode c_X_mark 0 = .ok (.aload_n 0, 1) := by decide +kernel
theorem d_X_mark_1 : decode c_X_mark 1 = .ok (.iload_n 1, 1) := by decide +kernel
theorem d_X_mark_2 : decode c_X_mark 2 = .ok (.invokevirtual 73, 3) := by decide +kernel
theorem d_X_mark_5 : decode c_X_mark 5 = .ok (.aload_n 0, 1) := by decide +kernel
theorem d_X_mark_6 : decode c_X_mark 6 = .ok (.getfield 18, 3) := by decide +kernel
theorem d_X_mark_9 : decode c_X_mark 9 = .ok (.iload_n 1, 1) := by decide +kernel
theorem d_X_mark_10 : decode c_X_mark 10 = .ok (.aaload, 1) := by decide +kernel
theorem d_X_mark_11 : decode c_X_mark 11 = .ok (.getfield 84, 3) := by decide +kernel
theorem d_X_mark_14 : decode c_X_mark 14 = .ok (.ireturn, 1) := by decide +kernel
theorem d_X_since_0 : decode c_X_since 0 = .ok (.aload_n 0, 1) := by decide +kernel
theorem d_X_since_1 : decode c_X_since 1 = .ok (.iload_n 1, 1) := by decide +kernel
theorem d_X_since_2 : decode c_X_since 2 = .ok (.invokevirtual 73, 3) := by decide +kernel
theorem d_X_since_5 : decode c_X_since 5 = .ok (.iload_n 2, 1) := by decide +kernel
theorem d_X_since_6 : decode c_X_since 6 = .ok (.i2l, 1) := by decide +kernel
theorem d_X_since_7 : decode c_X_since 7 = .ok (.iload_n 3, 1) := by decide +kernel
theorem d_X_since_8 : decode c_X_since 8 = .ok (.i2l, 1) := by decide +kernel
theorem d_X_since_9 : decode c_X_since 9 = .ok (.ladd, 1) := by decide +kernel
theorem d_X_since_10 : decode c_X_since 10 = .ok (.lstore 5, 2) := by decide +kernel
theorem d_X_since_12 : decode c_X_since 12 = .ok (.lload 5, 2) := by decide +kernel
theorem d_X_since_14 : decode c_X_since 14 = .ok (.aload_n 0, 1) := by decide +kernel
theorem d_X_since_15 : decode c_X_since 15 = .ok (.getfield 18, 3) := by decide +kernel
theorem d_X_since_18 : decode c_X_since 18 = .ok (.iload_n 1, 1) := by decide +kernel
theorem d_X_since_19 : decode c_X_since 19 = .ok (.aaload, 1) := by decide +kernel
theorem d_X_since_20 : decode c_X_since 20 = .ok (.getfield 84, 3) := by decide +kernel
theorem d_X_since_23 : decode c_X_since 23 = .ok (.i2l, 1) := by decide +kernel
theorem d_X_since_24 : decode c_X_since 24 = .ok (.lcmp, 1) := by decide +kernel
theorem d_X_since_25 : decode c_X_since 25 = .ok (.ifCond .lt 13, 3) := by decide +kernel
theorem d_X_since_28 : decode c_X_since 28 = .ok (.new 100, 3) := by decide +kernel
theorem d_X_since_31 : decode c_X_since 31 = .ok (.dup, 1) := by decide +kernel
theorem d_X_since_32 : decode c_X_since 32 = .ok (.ldc 102, 2) := by decide +kernel
theorem d_X_since_34 : decode c_X_since 34 = .ok (.invokespecial 104, 3) := by decide +kernel
theorem d_X_since_37 : decode c_X_since 37 = .ok (.athrow, 1) := by decide +kernel
theorem d_X_since_38 : decode c_X_since 38 = .ok (.iload_n 2, 1) := by decide +kernel
theorem d_X_since_39 : decode c_X_since 39 = .ok (.ifCond .lt 7, 3) := by decide +kernel
theorem d_X_since_42 : decode c_X_since 42 = .ok (.iload_n 3, 1) := by decide +kernel
theorem d_X_since_43 : decode c_X_since 43 = .ok (.ifCond .ge 13, 3) := by decide +kernel
theorem d_X_since_46 : decode c_X_since 46 = .ok (.new 91, 3) := by decide +kernel
theorem d_X_since_49 : decode c_X_since 49 = .ok (.dup, 1) := by decide +kernel
theorem d_X_since_50 : decode c_X_since 50 = .ok (.ldc 105, 2) := by decide +kernel
theorem d_X_since_52 : decode c_X_since 52 = .ok (.invokespecial 95, 3) := by decide +kernel
theorem d_X_since_55 : decode c_X_since 55 = .ok (.athrow, 1) := by decide +kernel
theorem d_X_since_56 : decode c_X_since 56 = .ok (.iload 4, 2) := by decide +kernel
theorem d_X_since_58 : decode c_X_since 58 = .ok (.ifCond .lt 9, 3) := by decide +kernel
theorem d_X_since_61 : decode c_X_since 61 = .ok (.iload 4, 2) := by decide +kernel
theorem d_X_since_63 : decode c_X_since 63 = .ok (.iconst 2, 1) := by decide +kernel
theorem d_X_since_64 : decode c_X_since 64 = .ok (.if_icmp .le 13, 3) := by decide +kernel
theorem d_X_since_67 : decode c_X_since 67 = .ok (.new 91, 3) := by decide +kernel
theorem d_X_since_70 : decode c_X_since 70 = .ok (.dup, 1) := by decide +kernel
theorem d_X_since_71 : decode c_X_since 71 = .ok (.ldc 107, 2) := by decide +kernel
theorem d_X_since_73 : decode c_X_since 73 = .ok (.invokespecial 95, 3) := by decide +kernel
theorem d_X_since_76 : decode c_X_since 76 = .ok (.athrow, 1) := by decide +kernel
theorem d_X_since_77 : decode c_X_since 77 = .ok (.aload_n 0, 1) := by decide +kernel
theorem d_X_since_78 : decode c_X_since 78 = .ok (.getfield 18, 3) := by decide +kernel
theorem d_X_since_81 : decode c_X_since 81 = .ok (.iload_n 1, 1) := by decide +kernel
theorem d_X_since_82 : decode c_X_since 82 = .ok (.aaload, 1) := by decide +kernel
theorem d_X_since_83 : decode c_X_since 83 = .ok (.getfield 109, 3) := by decide +kernel
theorem d_X_since_86 : decode c_X_since 86 = .ok (.lload 5, 2) := by decide +kernel
theorem d_X_since_88 : decode c_X_since 88 = .ok (.l2i, 1) := by decide +kernel
theorem d_X_since_89 : decode c_X_since 89 = .ok (.iaload, 1) := by decide +kernel
theorem d_X_since_90 : decode c_X_since 90 = .ok (.istore 7, 2) := by decide +kernel
theorem d_X_since_92 : decode c_X_since 92 = .ok (.iload 4, 2) := by decide +kernel
theorem d_X_since_94 : decode c_X_since 94 = .ok (.ifCond .ne 15, 3) := by decide +kernel
theorem d_X_since_97 : decode c_X_since 97 = .ok (.aload_n 0, 1) := by decide +kernel
theorem d_X_since_98 : decode c_X_since 98 = .ok (.getfield 12, 3) := by decide +kernel
theorem d_X_since_101 : decode c_X_since 101 = .ok (.getfield 113, 3) := by decide +kernel
theorem d_X_since_104 : decode c_X_since 104 = .ok (.iload 7, 2) := by decide +kernel
theorem d_X_since_106 : decode c_X_since 106 = .ok (.iaload, 1) := by decide +kernel
theorem d_X_since_107 : decode c_X_since 107 = .ok (.i2l, 1) := by decide +kernel
theorem d_X_since_108 : decode c_X_since 108 = .ok (.lreturn, 1) := by decide +kernel
theorem d_X_since_109 : decode c_X_since 109 = .ok (.iload 4, 2) := by decide +kernel
theorem d_X_since_111 : decode c_X_since 111 = .ok (.iconst 1, 1) := by decide +kernel
theorem d_X_since_112 : decode c_X_since 112 = .ok (.if_icmp .ne 16, 3) := by decide +kernel
theorem d_X_since_115 : decode c_X_since 115 = .ok (.aload_n 0, 1) := by decide +kernel
theorem d_X_since_116 : decode c_X_since 116 = .ok (.getfield 12, 3) := by decide +kernel
theorem d_X_since_119 : decode c_X_since 119 = .ok (.getfield 116, 3) := by decide +kernel
theorem d_X_since_122 : decode c_X_since 122 = .ok (.iload 7, 2) := by decide +kernel
theorem d_X_since_124 : decode c_X_since 124 = .ok (.laload, 1) := by decide +kernel
theorem d_X_since_125 : decode c_X_since 125 = .ok (.goto 13, 3) := by decide +kernel
theorem d_X_since_128 : decode c_X_since 128 = .ok (.aload_n 0, 1) := by decide +kernel
theorem d_X_since_129 : decode c_X_since 129 = .ok (.getfield 12, 3) := by decide +kernel
theorem d_X_since_132 : decode c_X_since 132 = .ok (.getfield 120, 3) := by decide +kernel
theorem d_X_since_135 : decode c_X_since 135 = .ok (.iload 7, 2) := by decide +kernel
theorem d_X_since_137 : decode c_X_since 137 = .ok (.laload, 1) := by decide +kernel
theorem d_X_since_138 : decode c_X_since 138 = .ok (.lreturn, 1) := by decide +kernel
theorem d_X_batch_0 : decode c_X_batch 0 = .ok (.aload_n 0, 1) := by decide +kernel
theorem d_X_batch_1 : decode c_X_batch 1 = .ok (.iload_n 1, 1) := by decide +kernel
theorem d_X_batch_2 : decode c_X_batch 2 = .ok (.invokevirtual 73, 3) := by decide +kernel
theorem d_X_batch_5 : decode c_X_batch 5 = .ok (.iload_n 2, 1) := by decide +kernel
theorem d_X_batch_6 : decode c_X_batch 6 = .ok (.ifCond .eq 15, 3) := by decide +kernel
theorem d_X_batch_9 : decode c_X_batch 9 = .ok (.aload_n 0, 1) := by decide +kernel
theorem d_X_batch_10 : decode c_X_batch 10 = .ok (.getfield 18, 3) := by decide +kernel
theorem d_X_batch_13 : decode c_X_batch 13 = .ok (.iload_n 1, 1) := by decide +kernel
theorem d_X_batch_14 : decode c_X_batch 14 = .ok (.aaload, 1) := by decide +kernel
theorem d_X_batch_15 : decode c_X_batch 15 = .ok (.invokevirtual 123, 3) := by decide +kernel
theorem d_X_batch_18 : decode c_X_batch 18 = .ok (.goto 12, 3) := by decide +kernel
theorem d_X_batch_21 : decode c_X_batch 21 = .ok (.aload_n 0, 1) := by decide +kernel
theorem d_X_batch_22 : decode c_X_batch 22 = .ok (.getfield 18, 3) := by decide +kernel
theorem d_X_batch_25 : decode c_X_batch 25 = .ok (.iload_n 1, 1) := by decide +kernel
theorem d_X_batch_26 : decode c_X_batch 26 = .ok (.aaload, 1) := by decide +kernel
theorem d_X_batch_27 : decode c_X_batch 27 = .ok (.invokevirtual 127, 3) := by decide +kernel
theorem d_X_batch_30 : decode c_X_batch 30 = .ok (.ireturn, 1) := by decide +kernel
theorem d_X_right_0 : decode c_X_right 0 = .ok (.iload_n 1, 1) := by decide +kernel
theorem d_X_right_1 : decode c_X_right 1 = .ok (.invokestatic 130, 3) := by decide +kernel
theorem d_X_right_4 : decode c_X_right 4 = .ok (.iload_n 2, 1) := by decide +kernel
theorem d_X_right_5 : decode c_X_right 5 = .ok (.invokestatic 47, 3) := by decide +kernel
theorem d_X_right_8 : decode c_X_right 8 = .ok (.iload_n 1, 1) := by decide +kernel
theorem d_X_right_9 : decode c_X_right 9 = .ok (.iconst 4, 1) := by decide +kernel
theorem d_X_right_10 : decode c_X_right 10 = .ok (.imul, 1) := by decide +kernel
theorem d_X_right_11 : decode c_X_right 11 = .ok (.iload_n 2, 1) := by decide +kernel
theorem d_X_right_12 : decode c_X_right 12 = .ok (.iadd, 1) := by decide +kernel
theorem d_X_right_13 : decode c_X_right 13 = .ok (.istore 4, 2) := by decide +kernel
theorem d_X_right_15 : decode c_X_right 15 = .ok (.aload_n 0, 1) := by decide +kernel
theorem d_X_right_16 : decode c_X_right 16 = .ok (.getfield 29, 3) := by decide +kernel
theorem d_X_right_19 : decode c_X_right 19 = .ok (.iload 4, 2) := by decide +kernel
theorem d_X_right_21 : decode c_X_right 21 = .ok (.baload, 1) := by decide +kernel
theorem d_X_right_22 : decode c_X_right 22 = .ok (.iload_n 3, 1) := by decide +kernel
theorem d_X_right_23 : decode c_X_right 23 = .ok (.if_icmp .eq 7, 3) := by decide +kernel
theorem d_X_right_26 : decode c_X_right 26 = .ok (.iconst 1, 1) := by decide +kernel
theorem d_X_right_27 : decode c_X_right 27 = .ok (.goto 4, 3) := by decide +kernel
theorem d_X_right_30 : decode c_X_right 30 = .ok (.iconst 0, 1) := by decide +kernel
theorem d_X_right_31 : decode c_X_right 31 = .ok (.istore 5, 2) := by decide +kernel
theorem d_X_right_33 : decode c_X_right 33 = .ok (.aload_n 0, 1) := by decide +kernel
theorem d_X_right_34 : decode c_X_right 34 = .ok (.getfield 29, 3) := by decide +kernel
theorem d_X_right_37 : decode c_X_right 37 = .ok (.iload 4, 2) := by decide +kernel
theorem d_X_right_39 : decode c_X_right 39 = .ok (.iload_n 3, 1) := by decide +kernel
theorem d_X_right_40 : decode c_X_right 40 = .ok (.bastore, 1) := by decide +kernel
theorem d_X_right_41 : decode c_X_right 41 = .ok (.iload 5, 2) := by decide +kernel
theorem d_X_right_43 : decode c_X_right 43 = .ok (.ireturn, 1) := by decide +kernel
theorem d_X_seen_0 : decode c_X_seen 0 = .ok (.iload_n 1, 1) := by decide +kernel
theorem d_X_seen_1 : decode c_X_seen 1 = .ok (.invokestatic 130, 3) := by decide +kernel
theorem d_X_seen_4 : decode c_X_seen 4 = .ok (.aload_n 0, 1) := by decide +kernel
theorem d_X_seen_5 : decode c_X_seen 5 = .ok (.iload_n 2, 1) := by decide +kernel
theorem d_X_seen_6 : decode c_X_seen 6 = .ok (.invokevirtual 73, 3) := by decide +kernel
theorem d_X_seen_9 : decode c_X_seen 9 = .ok (.iload_n 3, 1) := by decide +kernel
theorem d_X_seen_10 : decode c_X_seen 10 = .ok (.invokestatic 44, 3) := by decide +kernel
theorem d_X_seen_13 : decode c_X_seen 13 = .ok (.iload 4, 2) := by decide +kernel
theorem d_X_seen_15 : decode c_X_seen 15 = .ok (.invokestatic 47, 3) := by decide +kernel
theorem d_X_seen_18 : decode c_X_seen 18 = .ok (.aload_n 0, 1) := by decide +kernel
theorem d_X_seen_19 : decode c_X_seen 19 = .ok (.getfield 29, 3) := by decide +kernel
theorem d_X_seen_22 : decode c_X_seen 22 = .ok (.iload_n 1, 1) := by decide +kernel
theorem d_X_seen_23 : decode c_X_seen 23 = .ok (.iconst 4, 1) := by decide +kernel
theorem d_X_seen_24 : decode c_X_seen 24 = .ok (.imul, 1) := by decide +kernel
theorem d_X_seen_25 : decode c_X_seen 25 = .ok (.iload 4, 2) := by decide +kernel
theorem d_X_seen_27 : decode c_X_seen 27 = .ok (.iadd, 1) := by decide +kernel
theorem d_X_seen_28 : decode c_X_seen 28 = .ok (.baload, 1) := by decide +kernel
theorem d_X_seen_29 : decode c_X_seen 29 = .ok (.ifCond .ne 13, 3) := by decide +kernel
theorem d_X_seen_32 : decode c_X_seen 32 = .ok (.new 57, 3) := by decide +kernel
theorem d_X_seen_35 : decode c_X_seen 35 = .ok (.dup, 1) := by decide +kernel
theorem d_X_seen_36 : decode c_X_seen 36 = .ok (.ldc 133, 2) := by decide +kernel
theorem d_X_seen_38 : decode c_X_seen 38 = .ok (.invokespecial 61, 3) := by decide +kernel
theorem d_X_seen_41 : decode c_X_seen 41 = .ok (.athrow, 1) := by decide +kernel
theorem d_X_seen_42 : decode c_X_seen 42 = .ok (.aload_n 0, 1) := by decide +kernel
theorem d_X_seen_43 : decode c_X_seen 43 = .ok (.getfield 18, 3) := by decide +kernel
theorem d_X_seen_46 : decode c_X_seen 46 = .ok (.iload_n 2, 1) := by decide +kernel
theorem d_X_seen_47 : decode c_X_seen 47 = .ok (.aaload, 1) := by decide +kernel
theorem d_X_seen_48 : decode c_X_seen 48 = .ok (.iload_n 3, 1) := by decide +kernel
theorem d_X_seen_49 : decode c_X_seen 49 = .ok (.iload 4, 2) := by decide +kernel
theorem d_X_seen_51 : decode c_X_seen 51 = .ok (.ldc2_w 135, 3) := by decide +kernel
theorem d_X_seen_54 : decode c_X_seen 54 = .ok (.aload_n 0, 1) := by decide +kernel
theorem d_X_seen_55 : decode c_X_seen 55 = .ok (.getfield 18, 3) := by decide +kernel
theorem d_X_seen_58 : decode c_X_seen 58 = .ok (.iload_n 2, 1) := by decide +kernel
theorem d_X_seen_59 : decode c_X_seen 59 = .ok (.aaload, 1) := by decide +kernel
theorem d_X_seen_60 : decode c_X_seen 60 = .ok (.invokevirtual 137, 3) := by decide +kernel
theorem d_X_seen_63 : decode c_X_seen 63 = .ok (.invokevirtual 87, 3) := by decide +kernel
theorem d_X_seen_66 : decode c_X_seen 66 = .ok (.lreturn, 1) := by decide +kernel
theorem d_X_entry_0 : decode c_X_entry 0 = .ok (.iload_n 1, 1) := by decide +kernel
theorem d_X_entry_1 : decode c_X_entry 1 = .ok (.invokestatic 141, 3) := by decide +kernel
theorem d_X_entry_4 : decode c_X_entry 4 = .ok (.aload_n 0, 1) := by decide +kernel
theorem d_X_entry_5 : decode c_X_entry 5 = .ok (.invokevirtual 144, 3) := by decide +kernel
theorem d_X_entry_8 : decode c_X_entry 8 = .ok (.aload_n 0, 1) := by decide +kernel
theorem d_X_entry_9 : decode c_X_entry 9 = .ok (.getfield 36, 3) := by decide +kernel
theorem d_X_entry_12 : decode c_X_entry 12 = .ok (.iload_n 1, 1) := by decide +kernel
theorem d_X_entry_13 : decode c_X_entry 13 = .ok (.invokevirtual 147, 3) := by decide +kernel
theorem d_X_entry_16 : decode c_X_entry 16 = .ok (.ireturn, 1) := by decide +kernel
theorem d_X_row_0 : decode c_X_row 0 = .ok (.aload_n 0, 1) := by decide +kernel
theorem d_X_row_1 : decode c_X_row 1 = .ok (.iload_n 1, 1) := by decide +kernel
theorem d_X_row_2 : decode c_X_row 2 = .ok (.invokevirtual 151, 3) := by decide +kernel
theorem d_X_row_5 : decode c_X_row 5 = .ok (.iload_n 2, 1) := by decide +kernel
theorem d_X_row_6 : decode c_X_row 6 = .ok (.invokestatic 154, 3) := by decide +kernel
theorem d_X_row_9 : decode c_X_row 9 = .ok (.lload_n 3, 1) := by decide +kernel
theorem d_X_row_10 : decode c_X_row 10 = .ok (.ldc2_w 157, 3) := by decide +kernel
theorem d_X_row_13 : decode c_X_row 13 = .ok (.lcmp, 1) := by decide +kernel
theorem d_X_row_14 : decode c_X_row 14 = .ok (.ifCond .lt 11, 3) := by decide +kernel
theorem d_X_row_17 : decode c_X_row 17 = .ok (.lload_n 3, 1) := by decide +kernel
theorem d_X_row_18 : decode c_X_row 18 = .ok (.ldc2_w 159, 3) := by decide +kernel
theorem d_X_row_21 : decode c_X_row 21 = .ok (.lcmp, 1) := by decide +kernel
theorem d_X_row_22 : decode c_X_row 22 = .ok (.ifCond .le 13, 3) := by decide +kernel
theorem d_X_row_25 : decode c_X_row 25 = .ok (.new 91, 3) := by decide +kernel
theorem d_X_row_28 : decode c_X_row 28 = .ok (.dup, 1) := by decide +kernel
theorem d_X_row_29 : decode c_X_row 29 = .ok (.ldc 161, 2) := by decide +kernel
theorem d_X_row_31 : decode c_X_row 31 = .ok (.invokespecial 95, 3) := by decide +kernel
theorem d_X_row_34 : decode c_X_row 34 = .ok (.athrow, 1) := by decide +kernel
theorem d_X_row_35 : decode c_X_row 35 = .ok (.aload_n 0, 1) := by decide +kernel
theorem d_X_row_36 : decode c_X_row 36 = .ok (.getfield 36, 3) := by decide +kernel
theorem d_X_row_39 : decode c_X_row 39 = .ok (.getfield 163, 3) := by decide +kernel
theorem d_X_row_42 : decode c_X_row 42 = .ok (.iload_n 1, 1) := by decide +kernel
theorem d_X_row_43 : decode c_X_row 43 = .ok (.aaload, 1) := by decide +kernel
theorem d_X_row_44 : decode c_X_row 44 = .ok (.astore 5, 2) := by decide +kernel
theorem d_X_row_46 : decode c_X_row 46 = .ok (.aload 5, 2) := by decide +kernel
theorem d_X_row_48 : decode c_X_row 48 = .ok (.invokevirtual 167, 3) := by decide +kernel
theorem d_X_row_51 : decode c_X_row 51 = .ok (.ifCond .ne 13, 3) := by decide +kernel
theorem d_X_row_54 : decode c_X_row 54 = .ok (.aload 5, 2) := by decide +kernel
theorem d_X_row_56 : decode c_X_row 56 = .ok (.getfield 172, 3) := by decide +kernel
theorem d_X_row_59 : decode c_X_row 59 = .ok (.bipush 6, 2) := by decide +kernel
theorem d_X_row_61 : decode c_X_row 61 = .ok (.if_icmp .lt 13, 3) := by decide +kernel
theorem d_X_row_64 : decode c_X_row 64 = .ok (.new 57, 3) := by decide +kernel
theorem d_X_row_67 : decode c_X_row 67 = .ok (.dup, 1) := by decide +kernel
theorem d_X_row_68 : decode c_X_row 68 = .ok (.ldc 175, 2) := by decide +kernel
theorem d_X_row_70 : decode c_X_row 70 = .ok (.invokespecial 61, 3) := by decide +kernel
theorem d_X_row_73 : decode c_X_row 73 = .ok (.athrow, 1) := by decide +kernel
theorem d_X_row_74 : decode c_X_row 74 = .ok (.aload 5, 2) := by decide +kernel
theorem d_X_row_76 : decode c_X_row 76 = .ok (.iload_n 2, 1) := by decide +kernel
theorem d_X_row_77 : decode c_X_row 77 = .ok (.lload_n 3, 1) := by decide +kernel
theorem d_X_row_78 : decode c_X_row 78 = .ok (.invokevirtual 177, 3) := by decide +kernel
theorem d_X_row_81 : decode c_X_row 81 = .ok (.aload 5, 2) := by decide +kernel
theorem d_X_row_83 : decode c_X_row 83 = .ok (.getfield 172, 3) := by decide +kernel
theorem d_X_row_86 : decode c_X_row 86 = .ok (.ireturn, 1) := by decide +kernel
theorem d_X_close_0 : decode c_X_close 0 = .ok (.aload_n 0, 1) := by decide +kernel
theorem d_X_close_1 : decode c_X_close 1 = .ok (.iload_n 1, 1) := by decide +kernel
theorem d_X_close_2 : decode c_X_close 2 = .ok (.invokevirtual 151, 3) := by decide +kernel
theorem d_X_close_5 : decode c_X_close 5 = .ok (.aload_n 0, 1) := by decide +kernel
theorem d_X_close_6 : decode c_X_close 6 = .ok (.getfield 36, 3) := by decide +kernel
theorem d_X_close_9 : decode c_X_close 9 = .ok (.getfield 163, 3) := by decide +kernel
theorem d_X_close_12 : decode c_X_close 12 = .ok (.iload_n 1, 1) := by decide +kernel
theorem d_X_close_13 : decode c_X_close 13 = .ok (.aaload, 1) := by decide +kernel
theorem d_X_close_14 : decode c_X_close 14 = .ok (.astore_n 2, 1) := by decide +kernel
theorem d_X_close_15 : decode c_X_close 15 = .ok (.aload_n 2, 1) := by decide +kernel
theorem d_X_close_16 : decode c_X_close 16 = .ok (.invokevirtual 167, 3) := by decide +kernel
theorem d_X_close_19 : decode c_X_close 19 = .ok (.ifCond .eq 13, 3) := by decide +kernel
theorem d_X_close_22 : decode c_X_close 22 = .ok (.new 57, 3) := by decide +kernel
theorem d_X_close_25 : decode c_X_close 25 = .ok (.dup, 1) := by decide +kernel
theorem d_X_close_26 : decode c_X_close 26 = .ok (.ldc 181, 2) := by decide +kernel
theorem d_X_close_28 : decode c_X_close 28 = .ok (.invokespecial 61, 3) := by decide +kernel
theorem d_X_close_31 : decode c_X_close 31 = .ok (.athrow, 1) := by decide +kernel
theorem d_X_close_32 : decode c_X_close 32 = .ok (.aload_n 0, 1) := by decide +kernel
theorem d_X_close_33 : decode c_X_close 33 = .ok (.getfield 36, 3) := by decide +kernel
theorem d_X_close_36 : decode c_X_close 36 = .ok (.aload_n 2, 1) := by decide +kernel
theorem d_X_close_37 : decode c_X_close 37 = .ok (.getfield 183, 3) := by decide +kernel
theorem d_X_close_40 : decode c_X_close 40 = .ok (.invokevirtual 186, 3) := by decide +kernel
theorem d_X_close_43 : decode c_X_close 43 = .ok (.ifCond .ne 10, 3) := by decide +kernel
theorem d_X_close_46 : decode c_X_close 46 = .ok (.aload_n 2, 1) := by decide +kernel
theorem d_X_close_47 : decode c_X_close 47 = .ok (.invokevirtual 189, 3) := by decide +kernel
theorem d_X_close_50 : decode c_X_close 50 = .ok (.ifCond .ne 5, 3) := by decide +kernel
theorem d_X_close_53 : decode c_X_close 53 = .ok (.iconst 0, 1) := by decide +kernel
theorem d_X_close_54 : decode c_X_close 54 = .ok (.ireturn, 1) := by decide +kernel
theorem d_X_close_55 : decode c_X_close 55 = .ok (.aload_n 0, 1) := by decide +kernel
theorem d_X_close_56 : decode c_X_close 56 = .ok (.getfield 36, 3) := by decide +kernel
theorem d_X_close_59 : decode c_X_close 59 = .ok (.iload_n 1, 1) := by decide +kernel
theorem d_X_close_60 : decode c_X_close 60 = .ok (.invokevirtual 192, 3) := by decide +kernel
theorem d_X_close_63 : decode c_X_close 63 = .ok (.ireturn, 1) := by decide +kernel
theorem d_X_balance_0 : decode c_X_balance 0 = .ok (.iload_n 1, 1) := by decide +kernel
theorem d_X_balance_1 : decode c_X_balance 1 = .ok (.invokestatic 154, 3) := by decide +kernel
theorem d_X_balance_4 : decode c_X_balance 4 = .ok (.aload_n 0, 1) := by decide +kernel
theorem d_X_balance_5 : decode c_X_balance 5 = .ok (.getfield 36, 3) := by decide +kernel
theorem d_X_balance_8 : decode c_X_balance 8 = .ok (.iload_n 1, 1) := by decide +kernel
theorem d_X_balance_9 : decode c_X_balance 9 = .ok (.iload_n 2, 1) := by decide +kernel
theorem d_X_balance_10 : decode c_X_balance 10 = .ok (.invokevirtual 195, 3) := by decide +kernel
theorem d_X_balance_13 : decode c_X_balance 13 = .ok (.lreturn, 1) := by decide +kernel
theorem d_X_closeMonth_0 : decode c_X_closeMonth 0 = .ok (.iload_n 1, 1) := by decide +kernel
theorem d_X_closeMonth_1 : decode c_X_closeMonth 1 = .ok (.ifCond .lt 9, 3) := by decide +kernel
theorem d_X_closeMonth_4 : decode c_X_closeMonth 4 = .ok (.iload_n 1, 1) := by decide +kernel
theorem d_X_closeMonth_5 : decode c_X_closeMonth 5 = .ok (.bipush 120, 2) := by decide +kernel
theorem d_X_closeMonth_7 : decode c_X_closeMonth 7 = .ok (.if_icmp .lt 13, 3) := by decide +kernel
theorem d_X_closeMonth_10 : decode c_X_closeMonth 10 = .ok (.new 91, 3) := by decide +kernel
theorem d_X_closeMonth_13 : decode c_X_closeMonth 13 = .ok (.dup, 1) := by decide +kernel
theorem d_X_closeMonth_14 : decode c_X_closeMonth 14 = .ok (.ldc 199, 2) := by decide +kernel
theorem d_X_closeMonth_16 : decode c_X_closeMonth 16 = .ok (.invokespecial 95, 3) := by decide +kernel
theorem d_X_closeMonth_19 : decode c_X_closeMonth 19 = .ok (.athrow, 1) := by decide +kernel
theorem d_X_closeMonth_20 : decode c_X_closeMonth 20 = .ok (.iload_n 1, 1) := by decide +kernel
theorem d_X_closeMonth_21 : decode c_X_closeMonth 21 = .ok (.aload_n 0, 1) := by decide +kernel
theorem d_X_closeMonth_22 : decode c_X_closeMonth 22 = .ok (.getfield 36, 3) := by decide +kernel
theorem d_X_closeMonth_25 : decode c_X_closeMonth 25 = .ok (.getfield 201, 3) := by decide +kernel
theorem d_X_closeMonth_28 : decode c_X_closeMonth 28 = .ok (.if_icmp .gt 5, 3) := by decide +kernel
theorem d_X_closeMonth_31 : decode c_X_closeMonth 31 = .ok (.iconst 0, 1) := by decide +kernel
theorem d_X_closeMonth_32 : decode c_X_closeMonth 32 = .ok (.ireturn, 1) := by decide +kernel
theorem d_X_closeMonth_33 : decode c_X_closeMonth 33 = .ok (.aload_n 0, 1) := by decide +kernel
theorem d_X_closeMonth_34 : decode c_X_closeMonth 34 = .ok (.getfield 36, 3) := by decide +kernel
theorem d_X_closeMonth_37 : decode c_X_closeMonth 37 = .ok (.iload_n 1, 1) := by decide +kernel
theorem d_X_closeMonth_38 : decode c_X_closeMonth 38 = .ok (.putfield 201, 3) := by decide +kernel
theorem d_X_closeMonth_41 : decode c_X_closeMonth 41 = .ok (.iconst 1, 1) := by decide +kernel
theorem d_X_closeMonth_42 : decode c_X_closeMonth 42 = .ok (.ireturn, 1) := by decide +kernel
theorem d_X_reverse_0 : decode c_X_reverse 0 = .ok (.iload_n 1, 1) := by decide +kernel
theorem d_X_reverse_1 : decode c_X_reverse 1 = .ok (.iconst 1, 1) := by decide +kernel
theorem d_X_reverse_2 : decode c_X_reverse 2 = .ok (.if_icmp .lt 14, 3) := by decide +kernel
theorem d_X_reverse_5 : decode c_X_reverse 5 = .ok (.iload_n 1, 1) := by decide +kernel
theorem d_X_reverse_6 : decode c_X_reverse 6 = .ok (.aload_n 0, 1) := by decide +kernel
theorem d_X_reverse_7 : decode c_X_reverse 7 = .ok (.getfield 36, 3) := by decide +kernel
theorem d_X_reverse_10 : decode c_X_reverse 10 = .ok (.getfield 204, 3) := by decide +kernel
theorem d_X_reverse_13 : decode c_X_reverse 13 = .ok (.if_icmp .le 13, 3) := by decide +kernel
theorem d_X_reverse_16 : decode c_X_reverse 16 = .ok (.new 100, 3) := by decide +kernel
theorem d_X_reverse_19 : decode c_X_reverse 19 = .ok (.dup, 1) := by decide +kernel
theorem d_X_reverse_20 : decode c_X_reverse 20 = .ok (.ldc 207, 2) := by decide +kernel
theorem d_X_reverse_22 : decode c_X_reverse 22 = .ok (.invokespecial 104, 3) := by decide +kernel
theorem d_X_reverse_25 : decode c_X_reverse 25 = .ok (.athrow, 1) := by decide +kernel
theorem d_X_reverse_26 : decode c_X_reverse 26 = .ok (.iload_n 2, 1) := by decide +kernel
theorem d_X_reverse_27 : decode c_X_reverse 27 = .ok (.invokestatic 141, 3) := by decide +kernel
theorem d_X_reverse_30 : decode c_X_reverse 30 = .ok (.aload_n 0, 1) := by decide +kernel
theorem d_X_reverse_31 : decode c_X_reverse 31 = .ok (.getfield 36, 3) := by decide +kernel
theorem d_X_reverse_34 : decode c_X_reverse 34 = .ok (.getfield 163, 3) := by decide +kernel
theorem d_X_reverse_37 : decode c_X_reverse 37 = .ok (.aload_n 0, 1) := by decide +kernel
theorem d_X_reverse_38 : decode c_X_reverse 38 = .ok (.getfield 36, 3) := by decide +kernel
theorem d_X_reverse_41 : decode c_X_reverse 41 = .ok (.getfield 209, 3) := by decide +kernel
theorem d_X_reverse_44 : decode c_X_reverse 44 = .ok (.iload_n 1, 1) := by decide +kernel
theorem d_X_reverse_45 : decode c_X_reverse 45 = .ok (.iaload, 1) := by decide +kernel
theorem d_X_reverse_46 : decode c_X_reverse 46 = .ok (.aaload, 1) := by decide +kernel
theorem d_X_reverse_47 : decode c_X_reverse 47 = .ok (.astore_n 3, 1) := by decide +kernel
theorem d_X_reverse_48 : decode c_X_reverse 48 = .ok (.aload_n 3, 1) := by decide +kernel
theorem d_X_reverse_49 : decode c_X_reverse 49 = .ok (.getfield 212, 3) := by decide +kernel
theorem d_X_reverse_52 : decode c_X_reverse 52 = .ok (.ifCond .ne 10, 3) := by decide +kernel
theorem d_X_reverse_55 : decode c_X_reverse 55 = .ok (.aload_n 3, 1) := by decide +kernel
theorem d_X_reverse_56 : decode c_X_reverse 56 = .ok (.getfield 216, 3) := by decide +kernel
theorem d_X_reverse_59 : decode c_X_reverse 59 = .ok (.ifCond .eq 13, 3) := by decide +kernel
theorem d_X_reverse_62 : decode c_X_reverse 62 = .ok (.new 57, 3) := by decide +kernel
theorem d_X_reverse_65 : decode c_X_reverse 65 = .ok (.dup, 1) := by decide +kernel
theorem d_X_reverse_66 : decode c_X_reverse 66 = .ok (.ldc 219, 2) := by decide +kernel
theorem d_X_reverse_68 : decode c_X_reverse 68 = .ok (.invokespecial 61, 3) := by decide +kernel
theorem d_X_reverse_71 : decode c_X_reverse 71 = .ok (.athrow, 1) := by decide +kernel
theorem d_X_reverse_72 : decode c_X_reverse 72 = .ok (.aload_n 0, 1) := by decide +kernel
theorem d_X_reverse_73 : decode c_X_reverse 73 = .ok (.invokevirtual 144, 3) := by decide +kernel
theorem d_X_reverse_76 : decode c_X_reverse 76 = .ok (.aload_n 0, 1) := by decide +kernel
theorem d_X_reverse_77 : decode c_X_reverse 77 = .ok (.getfield 36, 3) := by decide +kernel
theorem d_X_reverse_80 : decode c_X_reverse 80 = .ok (.iload_n 2, 1) := by decide +kernel
theorem d_X_reverse_81 : decode c_X_reverse 81 = .ok (.invokevirtual 186, 3) := by decide +kernel
theorem d_X_reverse_84 : decode c_X_reverse 84 = .ok (.ifCond .eq 5, 3) := by decide +kernel
theorem d_X_reverse_87 : decode c_X_reverse 87 = .ok (.iconst 0, 1) := by decide +kernel
theorem d_X_reverse_88 : decode c_X_reverse 88 = .ok (.ireturn, 1) := by decide +kernel
theorem d_X_reverse_89 : decode c_X_reverse 89 = .ok (.aload_n 0, 1) := by decide +kernel
theorem d_X_reverse_90 : decode c_X_reverse 90 = .ok (.getfield 36, 3) := by decide +kernel
theorem d_X_reverse_93 : decode c_X_reverse 93 = .ok (.aload_n 3, 1) := by decide +kernel
theorem d_X_reverse_94 : decode c_X_reverse 94 = .ok (.iload_n 2, 1) := by decide +kernel
theorem d_X_reverse_95 : decode c_X_reverse 95 = .ok (.invokevirtual 221, 3) := by decide +kernel
theorem d_X_reverse_98 : decode c_X_reverse 98 = .ok (.ireturn, 1) := by decide +kernel
theorem d_X_needTeller_0 : decode c_X_needTeller 0 = .ok (.iload_n 0, 1) := by decide +kernel
theorem d_X_needTeller_1 : decode c_X_needTeller 1 = .ok (.ifCond .lt 9, 3) := by decide +kernel
theorem d_X_needTeller_4 : decode c_X_needTeller 4 = .ok (.iload_n 0, 1) := by decide +kernel
theorem d_X_needTeller_5 : decode c_X_needTeller 5 = .ok (.bipush 6, 2) := by decide +kernel
theorem d_X_needTeller_7 : decode c_X_needTeller 7 = .ok (.if_icmp .lt 13, 3) := by decide +kernel
theorem d_X_needTeller_10 : decode c_X_needTeller 10 = .ok (.new 100, 3) := by decide +kernel
theorem d_X_needTeller_13 : decode c_X_needTeller 13 = .ok (.dup, 1) := by decide +kernel
theorem d_X_needTeller_14 : decode c_X_needTeller 14 = .ok (.ldc 225, 2) := by decide +kernel
theorem d_X_needTeller_16 : decode c_X_needTeller 16 = .ok (.invokespecial 104, 3) := by decide +kernel
theorem d_X_needTeller_19 : decode c_X_needTeller 19 = .ok (.athrow, 1) := by decide +kernel
theorem d_X_needTeller_20 : decode c_X_needTeller 20 = .ok (.return_, 1) := by decide +kernel
theorem d_X_needThing_0 : decode c_X_needThing 0 = .ok (.iload_n 0, 1) := by decide +kernel
theorem d_X_needThing_1 : decode c_X_needThing 1 = .ok (.ifCond .lt 9, 3) := by decide +kernel
theorem d_X_needThing_4 : decode c_X_needThing 4 = .ok (.iload_n 0, 1) := by decide +kernel
theorem d_X_needThing_5 : decode c_X_needThing 5 = .ok (.bipush 10, 2) := by decide +kernel
theorem d_X_needThing_7 : decode c_X_needThing 7 = .ok (.if_icmp .lt 13, 3) := by decide +kernel
theorem d_X_needThing_10 : decode c_X_needThing 10 = .ok (.new 100, 3) := by decide +kernel
theorem d_X_needThing_13 : decode c_X_needThing 13 = .ok (.dup, 1) := by decide +kernel
theorem d_X_needThing_14 : decode c_X_needThing 14 = .ok (.ldc 227, 2) := by decide +kernel
theorem d_X_needThing_16 : decode c_X_needThing 16 = .ok (.invokespecial 104, 3) := by decide +kernel
theorem d_X_needThing_19 : decode c_X_needThing 19 = .ok (.athrow, 1) := by decide +kernel
theorem d_X_needThing_20 : decode c_X_needThing 20 = .ok (.return_, 1) := by decide +kernel
theorem d_X_needKind_0 : decode c_X_needKind 0 = .ok (.iload_n 0, 1) := by decide +kernel
theorem d_X_needKind_1 : decode c_X_needKind 1 = .ok (.ifCond .lt 8, 3) := by decide +kernel
theorem d_X_needKind_4 : decode c_X_needKind 4 = .ok (.iload_n 0, 1) := by decide +kernel
theorem d_X_needKind_5 : decode c_X_needKind 5 = .ok (.iconst 4, 1) := by decide +kernel
theorem d_X_needKind_6 : decode c_X_needKind 6 = .ok (.if_icmp .lt 13, 3) := by decide +kernel
theorem d_X_needKind_9 : decode c_X_needKind 9 = .ok (.new 91, 3) := by decide +kernel
theorem d_X_needKind_12 : decode c_X_needKind 12 = .ok (.dup, 1) := by decide +kernel
theorem d_X_needKind_13 : decode c_X_needKind 13 = .ok (.ldc 229, 2) := by decide +kernel
theorem d_X_needKind_15 : decode c_X_needKind 15 = .ok (.invokespecial 95, 3) := by decide +kernel
theorem d_X_needKind_18 : decode c_X_needKind 18 = .ok (.athrow, 1) := by decide +kernel
theorem d_X_needKind_19 : decode c_X_needKind 19 = .ok (.return_, 1) := by decide +kernel
theorem d_X_needPerson_0 : decode c_X_needPerson 0 = .ok (.iload_n 0, 1) := by decide +kernel
theorem d_X_needPerson_1 : decode c_X_needPerson 1 = .ok (.ifCond .lt 8, 3) := by decide +kernel
theorem d_X_needPerson_4 : decode c_X_needPerson 4 = .ok (.iload_n 0, 1) := by decide +kernel
theorem d_X_needPerson_5 : decode c_X_needPerson 5 = .ok (.iconst 4, 1) := by decide +kernel
theorem d_X_needPerson_6 : decode c_X_needPerson 6 = .ok (.if_icmp .lt 13, 3) := by decide +kernel
theorem d_X_needPerson_9 : decode c_X_needPerson 9 = .ok (.new 100, 3) := by decide +kernel
theorem d_X_needPerson_12 : decode c_X_needPerson 12 = .ok (.dup, 1) := by decide +kernel
theorem d_X_needPerson_13 : decode c_X_needPerson 13 = .ok (.ldc 231, 2) := by decide +kernel
theorem d_X_needPerson_15 : decode c_X_needPerson 15 = .ok (.invokespecial 104, 3) := by decide +kernel
theorem d_X_needPerson_18 : decode c_X_needPerson 18 = .ok (.athrow, 1) := by decide +kernel
theorem d_X_needPerson_19 : decode c_X_needPerson 19 = .ok (.return_, 1) := by decide +kernel
theorem d_X_needAccount_0 : decode c_X_needAccount 0 = .ok (.iload_n 0, 1) := by decide +kernel
theorem d_X_needAccount_1 : decode c_X_needAccount 1 = .ok (.ifCond .lt 9, 3) := by decide +kernel
theorem d_X_needAccount_4 : decode c_X_needAccount 4 = .ok (.iload_n 0, 1) := by decide +kernel
theorem d_X_needAccount_5 : decode c_X_needAccount 5 = .ok (.bipush 10, 2) := by decide +kernel
theorem d_X_needAccount_7 : decode c_X_needAccount 7 = .ok (.if_icmp .lt 13, 3) := by decide +kernel
theorem d_X_needAccount_10 : decode c_X_needAccount 10 = .ok (.new 100, 3) := by decide +kernel
theorem d_X_needAccount_13 : decode c_X_needAccount 13 = .ok (.dup, 1) := by decide +kernel
theorem d_X_needAccount_14 : decode c_X_needAccount 14 = .ok (.ldc 233, 2) := by decide +kernel
theorem d_X_needAccount_16 : decode c_X_needAccount 16 = .ok (.invokespecial 104, 3) := by decide +kernel
theorem d_X_needAccount_19 : decode c_X_needAccount 19 = .ok (.athrow, 1) := by decide +kernel
theorem d_X_needAccount_20 : decode c_X_needAccount 20 = .ok (.return_, 1) := by decide +kernel
theorem d_X_needDay_0 : decode c_X_needDay 0 = .ok (.iload_n 0, 1) := by decide +kernel
theorem d_X_needDay_1 : decode c_X_needDay 1 = .ok (.ifCond .lt 10, 3) := by decide +kernel
theorem d_X_needDay_4 : decode c_X_needDay 4 = .ok (.iload_n 0, 1) := by decide +kernel
theorem d_X_needDay_5 : decode c_X_needDay 5 = .ok (.sipush 3600, 3) := by decide +kernel
theorem d_X_needDay_8 : decode c_X_needDay 8 = .ok (.if_icmp .lt 13, 3) := by decide +kernel
theorem d_X_needDay_11 : decode c_X_needDay 11 = .ok (.new 91, 3) := by decide +kernel
theorem d_X_needDay_14 : decode c_X_needDay 14 = .ok (.dup, 1) := by decide +kernel
theorem d_X_needDay_15 : decode c_X_needDay 15 = .ok (.ldc 235, 2) := by decide +kernel
theorem d_X_needDay_17 : decode c_X_needDay 17 = .ok (.invokespecial 95, 3) := by decide +kernel
theorem d_X_needDay_20 : decode c_X_needDay 20 = .ok (.athrow, 1) := by decide +kernel
theorem d_X_needDay_21 : decode c_X_needDay 21 = .ok (.return_, 1) := by decide +kernel
theorem d_X_needSet_0 : decode c_X_needSet 0 = .ok (.iload_n 1, 1) := by decide +kernel
theorem d_X_needSet_1 : decode c_X_needSet 1 = .ok (.ifCond .lt 11, 3) := by decide +kernel
theorem d_X_needSet_4 : decode c_X_needSet 4 = .ok (.iload_n 1, 1) := by decide +kernel
theorem d_X_needSet_5 : decode c_X_needSet 5 = .ok (.aload_n 0, 1) := by decide +kernel
theorem d_X_needSet_6 : decode c_X_needSet 6 = .ok (.getfield 25, 3) := by decide +kernel
theorem d_X_needSet_9 : decode c_X_needSet 9 = .ok (.if_icmp .lt 13, 3) := by decide +kernel
theorem d_X_needSet_12 : decode c_X_needSet 12 = .ok (.new 100, 3) := by decide +kernel
theorem d_X_needSet_15 : decode c_X_needSet 15 = .ok (.dup, 1) := by decide +kernel
theorem d_X_needSet_16 : decode c_X_needSet 16 = .ok (.ldc 237, 2) := by decide +kernel
theorem d_X_needSet_18 : decode c_X_needSet 18 = .ok (.invokespecial 104, 3) := by decide +kernel
theorem d_X_needSet_21 : decode c_X_needSet 21 = .ok (.athrow, 1) := by decide +kernel
theorem d_X_needSet_22 : decode c_X_needSet 22 = .ok (.return_, 1) := by decide +kernel
theorem d_X_needEntry_0 : decode c_X_needEntry 0 = .ok (.iload_n 1, 1) := by decide +kernel
theorem d_X_needEntry_1 : decode c_X_needEntry 1 = .ok (.ifCond .lt 14, 3) := by decide +kernel
theorem d_X_needEntry_4 : decode c_X_needEntry 4 = .ok (.iload_n 1, 1) := by decide +kernel
theorem d_X_needEntry_5 : decode c_X_needEntry 5 = .ok (.aload_n 0, 1) := by decide +kernel
theorem d_X_needEntry_6 : decode c_X_needEntry 6 = .ok (.getfield 36, 3) := by decide +kernel
theorem d_X_needEntry_9 : decode c_X_needEntry 9 = .ok (.getfield 239, 3) := by decide +kernel
theorem d_X_needEntry_12 : decode c_X_needEntry 12 = .ok (.if_icmp .lt 13, 3) := by decide +kernel
theorem d_X_needEntry_15 : decode c_X_needEntry 15 = .ok (.new 100, 3) := by decide +kernel
theorem d_X_needEntry_18 : decode c_X_needEntry 18 = .ok (.dup, 1) := by decide +kernel
theorem d_X_needEntry_19 : decode c_X_needEntry 19 = .ok (.ldc 242, 2) := by decide +kernel
theorem d_X_needEntry_21 : decode c_X_needEntry 21 = .ok (.invokespecial 104, 3) := by decide +kernel
theorem d_X_needEntry_24 : decode c_X_needEntry 24 = .ok (.athrow, 1) := by decide +kernel
theorem d_X_needEntry_25 : decode c_X_needEntry 25 = .ok (.return_, 1) := by decide +kernel
theorem d_X_needRoomForEntry_0 : decode c_X_needRoomForEntry 0 = .ok (.aload_n 0, 1) := by decide +kernel
theorem d_X_needRoomForEntry_1 : decode c_X_needRoomForEntry 1 = .ok (.getfield 36, 3) := by decide +kernel
theorem d_X_needRoomForEntry_4 : decode c_X_needRoomForEntry 4 = .ok (.getfield 239, 3) := by decide +kernel
theorem d_X_needRoomForEntry_7 : decode c_X_needRoomForEntry 7 = .ok (.bipush 60, 2) := by decide +kernel
theorem d_X_needRoomForEntry_9 : decode c_X_needRoomForEntry 9 = .ok (.if_icmp .lt 13, 3) := by decide +kernel
theorem d_X_needRoomForEntry_12 : decode c_X_needRoomForEntry 12 = .ok (.new 57, 3) := by decide +kernel
theorem d_X_needRoomForEntry_15 : decode c_X_needRoomForEntry 15 = .ok (.dup, 1) := by decide +kernel
theorem d_X_needRoomForEntry_16 : decode c_X_needRoomForEntry 16 = .ok (.ldc 244, 2) := by decide +kernel
theorem d_X_needRoomForEntry_18 : decode c_X_needRoomForEntry 18 = .ok (.invokespecial 61, 3) := by decide +kernel
theorem d_X_needRoomForEntry_21 : decode c_X_needRoomForEntry 21 = .ok (.athrow, 1) := by decide +kernel
theorem d_X_needRoomForEntry_22 : decode c_X_needRoomForEntry 22 = .ok (.return_, 1) := by decide +kernel
