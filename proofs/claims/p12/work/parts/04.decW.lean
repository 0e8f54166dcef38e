/-! decode rows of ShopDesksLaw -/
theorem d_W_tell_0 : decode c_W_tell 0 = .ok (.aload 10, 2) := by decide +kernel
theorem d_W_tell_2 : decode c_W_tell 2 = .ok (.iconst 0, 1) := by decide +kernel
theorem d_W_tell_3 : decode c_W_tell 3 = .ok (.aload_n 0, 1) := by decide +kernel
theorem d_W_tell_4 : decode c_W_tell 4 = .ok (.iload_n 1, 1) := by decide +kernel
theorem d_W_tell_5 : decode c_W_tell 5 = .ok (.lload_n 2, 1) := by decide +kernel
theorem d_W_tell_6 : decode c_W_tell 6 = .ok (.iload 4, 2) := by decide +kernel
theorem d_W_tell_8 : decode c_W_tell 8 = .ok (.iload 5, 2) := by decide +kernel
theorem d_W_tell_10 : decode c_W_tell 10 = .ok (.lload 6, 2) := by decide +kernel
theorem d_W_tell_12 : decode c_W_tell 12 = .ok (.lload 8, 2) := by decide +kernel
theorem d_W_tell_14 : decode c_W_tell 14 = .ok (.invokevirtual 7, 3) := by decide +kernel
theorem d_W_tell_17 : decode c_W_tell 17 = .ok (.i2l, 1) := by decide +kernel
theorem d_W_tell_18 : decode c_W_tell 18 = .ok (.lastore, 1) := by decide +kernel
theorem d_W_tell_19 : decode c_W_tell 19 = .ok (.goto 15, 3) := by decide +kernel
theorem d_W_tell_22 : decode c_W_tell 22 = .ok (.astore 11, 2) := by decide +kernel
theorem d_W_tell_24 : decode c_W_tell 24 = .ok (.iconst 1, 1) := by decide +kernel
theorem d_W_tell_25 : decode c_W_tell 25 = .ok (.ireturn, 1) := by decide +kernel
theorem d_W_tell_26 : decode c_W_tell 26 = .ok (.astore 11, 2) := by decide +kernel
theorem d_W_tell_28 : decode c_W_tell 28 = .ok (.iconst 2, 1) := by decide +kernel
theorem d_W_tell_29 : decode c_W_tell 29 = .ok (.ireturn, 1) := by decide +kernel
theorem d_W_tell_30 : decode c_W_tell 30 = .ok (.astore 11, 2) := by decide +kernel
theorem d_W_tell_32 : decode c_W_tell 32 = .ok (.iconst 3, 1) := by decide +kernel
theorem d_W_tell_33 : decode c_W_tell 33 = .ok (.ireturn, 1) := by decide +kernel
theorem d_W_tell_34 : decode c_W_tell 34 = .ok (.iconst 0, 1) := by decide +kernel
theorem d_W_tell_35 : decode c_W_tell 35 = .ok (.ireturn, 1) := by decide +kernel
theorem d_W_set_0 : decode c_W_set 0 = .ok (.aload_n 2, 1) := by decide +kernel
theorem d_W_set_1 : decode c_W_set 1 = .ok (.iconst 0, 1) := by decide +kernel
theorem d_W_set_2 : decode c_W_set 2 = .ok (.aload_n 0, 1) := by decide +kernel
theorem d_W_set_3 : decode c_W_set 3 = .ok (.iload_n 1, 1) := by decide +kernel
theorem d_W_set_4 : decode c_W_set 4 = .ok (.invokevirtual 19, 3) := by decide +kernel
theorem d_W_set_7 : decode c_W_set 7 = .ok (.i2l, 1) := by decide +kernel
theorem d_W_set_8 : decode c_W_set 8 = .ok (.lastore, 1) := by decide +kernel
theorem d_W_set_9 : decode c_W_set 9 = .ok (.goto 9, 3) := by decide +kernel
theorem d_W_set_12 : decode c_W_set 12 = .ok (.astore_n 3, 1) := by decide +kernel
theorem d_W_set_13 : decode c_W_set 13 = .ok (.iconst 1, 1) := by decide +kernel
theorem d_W_set_14 : decode c_W_set 14 = .ok (.ireturn, 1) := by decide +kernel
theorem d_W_set_15 : decode c_W_set 15 = .ok (.astore_n 3, 1) := by decide +kernel
theorem d_W_set_16 : decode c_W_set 16 = .ok (.iconst 2, 1) := by decide +kernel
theorem d_W_set_17 : decode c_W_set 17 = .ok (.ireturn, 1) := by decide +kernel
theorem d_W_set_18 : decode c_W_set 18 = .ok (.iconst 0, 1) := by decide +kernel
theorem d_W_set_19 : decode c_W_set 19 = .ok (.ireturn, 1) := by decide +kernel
theorem d_W_join_0 : decode c_W_join 0 = .ok (.aload_n 3, 1) := by decide +kernel
theorem d_W_join_1 : decode c_W_join 1 = .ok (.iconst 0, 1) := by decide +kernel
theorem d_W_join_2 : decode c_W_join 2 = .ok (.aload_n 0, 1) := by decide +kernel
theorem d_W_join_3 : decode c_W_join 3 = .ok (.iload_n 1, 1) := by decide +kernel
theorem d_W_join_4 : decode c_W_join 4 = .ok (.iload_n 2, 1) := by decide +kernel
theorem d_W_join_5 : decode c_W_join 5 = .ok (.invokevirtual 23, 3) := by decide +kernel
theorem d_W_join_8 : decode c_W_join 8 = .ok (.i2l, 1) := by decide +kernel
theorem d_W_join_9 : decode c_W_join 9 = .ok (.lastore, 1) := by decide +kernel
theorem d_W_join_10 : decode c_W_join 10 = .ok (.goto 7, 3) := by decide +kernel
theorem d_W_join_13 : decode c_W_join 13 = .ok (.astore 4, 2) := by decide +kernel
theorem d_W_join_15 : decode c_W_join 15 = .ok (.iconst 1, 1) := by decide +kernel
theorem d_W_join_16 : decode c_W_join 16 = .ok (.ireturn, 1) := by decide +kernel
theorem d_W_join_17 : decode c_W_join 17 = .ok (.iconst 0, 1) := by decide +kernel
theorem d_W_join_18 : decode c_W_join 18 = .ok (.ireturn, 1) := by decide +kernel
theorem d_W_equal_0 : decode c_W_equal 0 = .ok (.aload_n 3, 1) := by decide +kernel
theorem d_W_equal_1 : decode c_W_equal 1 = .ok (.iconst 0, 1) := by decide +kernel
theorem d_W_equal_2 : decode c_W_equal 2 = .ok (.aload_n 0, 1) := by decide +kernel
theorem d_W_equal_3 : decode c_W_equal 3 = .ok (.iload_n 1, 1) := by decide +kernel
theorem d_W_equal_4 : decode c_W_equal 4 = .ok (.iload_n 2, 1) := by decide +kernel
theorem d_W_equal_5 : decode c_W_equal 5 = .ok (.invokevirtual 27, 3) := by decide +kernel
theorem d_W_equal_8 : decode c_W_equal 8 = .ok (.ifCond .eq 7, 3) := by decide +kernel
theorem d_W_equal_11 : decode c_W_equal 11 = .ok (.lconst 1, 1) := by decide +kernel
theorem d_W_equal_12 : decode c_W_equal 12 = .ok (.goto 4, 3) := by decide +kernel
theorem d_W_equal_15 : decode c_W_equal 15 = .ok (.lconst 0, 1) := by decide +kernel
theorem d_W_equal_16 : decode c_W_equal 16 = .ok (.lastore, 1) := by decide +kernel
theorem d_W_equal_17 : decode c_W_equal 17 = .ok (.goto 7, 3) := by decide +kernel
theorem d_W_equal_20 : decode c_W_equal 20 = .ok (.astore 4, 2) := by decide +kernel
theorem d_W_equal_22 : decode c_W_equal 22 = .ok (.iconst 1, 1) := by decide +kernel
theorem d_W_equal_23 : decode c_W_equal 23 = .ok (.ireturn, 1) := by decide +kernel
theorem d_W_equal_24 : decode c_W_equal 24 = .ok (.iconst 0, 1) := by decide +kernel
theorem d_W_equal_25 : decode c_W_equal 25 = .ok (.ireturn, 1) := by decide +kernel
theorem d_W_at_0 : decode c_W_at 0 = .ok (.aload 6, 2) := by decide +kernel
theorem d_W_at_2 : decode c_W_at 2 = .ok (.iconst 0, 1) := by decide +kernel
theorem d_W_at_3 : decode c_W_at 3 = .ok (.aload_n 0, 1) := by decide +kernel
theorem d_W_at_4 : decode c_W_at 4 = .ok (.iload_n 1, 1) := by decide +kernel
theorem d_W_at_5 : decode c_W_at 5 = .ok (.iload_n 2, 1) := by decide +kernel
theorem d_W_at_6 : decode c_W_at 6 = .ok (.iload_n 3, 1) := by decide +kernel
theorem d_W_at_7 : decode c_W_at 7 = .ok (.lload 4, 2) := by decide +kernel
theorem d_W_at_9 : decode c_W_at 9 = .ok (.invokevirtual 31, 3) := by decide +kernel
theorem d_W_at_12 : decode c_W_at 12 = .ok (.lastore, 1) := by decide +kernel
theorem d_W_at_13 : decode c_W_at 13 = .ok (.goto 11, 3) := by decide +kernel
theorem d_W_at_16 : decode c_W_at 16 = .ok (.astore 7, 2) := by decide +kernel
theorem d_W_at_18 : decode c_W_at 18 = .ok (.iconst 1, 1) := by decide +kernel
theorem d_W_at_19 : decode c_W_at 19 = .ok (.ireturn, 1) := by decide +kernel
theorem d_W_at_20 : decode c_W_at 20 = .ok (.astore 7, 2) := by decide +kernel
theorem d_W_at_22 : decode c_W_at 22 = .ok (.iconst 2, 1) := by decide +kernel
theorem d_W_at_23 : decode c_W_at 23 = .ok (.ireturn, 1) := by decide +kernel
theorem d_W_at_24 : decode c_W_at 24 = .ok (.iconst 0, 1) := by decide +kernel
theorem d_W_at_25 : decode c_W_at 25 = .ok (.ireturn, 1) := by decide +kernel
theorem d_W_conflict_0 : decode c_W_conflict 0 = .ok (.aload_n 3, 1) := by decide +kernel
theorem d_W_conflict_1 : decode c_W_conflict 1 = .ok (.iconst 0, 1) := by decide +kernel
theorem d_W_conflict_2 : decode c_W_conflict 2 = .ok (.aload_n 0, 1) := by decide +kernel
theorem d_W_conflict_3 : decode c_W_conflict 3 = .ok (.iload_n 1, 1) := by decide +kernel
theorem d_W_conflict_4 : decode c_W_conflict 4 = .ok (.iload_n 2, 1) := by decide +kernel
theorem d_W_conflict_5 : decode c_W_conflict 5 = .ok (.invokevirtual 35, 3) := by decide +kernel
theorem d_W_conflict_8 : decode c_W_conflict 8 = .ok (.i2l, 1) := by decide +kernel
theorem d_W_conflict_9 : decode c_W_conflict 9 = .ok (.lastore, 1) := by decide +kernel
theorem d_W_conflict_10 : decode c_W_conflict 10 = .ok (.goto 11, 3) := by decide +kernel
theorem d_W_conflict_13 : decode c_W_conflict 13 = .ok (.astore 4, 2) := by decide +kernel
theorem d_W_conflict_15 : decode c_W_conflict 15 = .ok (.iconst 1, 1) := by decide +kernel
theorem d_W_conflict_16 : decode c_W_conflict 16 = .ok (.ireturn, 1) := by decide +kernel
theorem d_W_conflict_17 : decode c_W_conflict 17 = .ok (.astore 4, 2) := by decide +kernel
theorem d_W_conflict_19 : decode c_W_conflict 19 = .ok (.iconst 2, 1) := by decide +kernel
theorem d_W_conflict_20 : decode c_W_conflict 20 = .ok (.ireturn, 1) := by decide +kernel
theorem d_W_conflict_21 : decode c_W_conflict 21 = .ok (.iconst 0, 1) := by decide +kernel
theorem d_W_conflict_22 : decode c_W_conflict 22 = .ok (.ireturn, 1) := by decide +kernel
theorem d_W_mark_0 : decode c_W_mark 0 = .ok (.aload_n 2, 1) := by decide +kernel
theorem d_W_mark_1 : decode c_W_mark 1 = .ok (.iconst 0, 1) := by decide +kernel
theorem d_W_mark_2 : decode c_W_mark 2 = .ok (.aload_n 0, 1) := by decide +kernel
theorem d_W_mark_3 : decode c_W_mark 3 = .ok (.iload_n 1, 1) := by decide +kernel
theorem d_W_mark_4 : decode c_W_mark 4 = .ok (.invokevirtual 38, 3) := by decide +kernel
theorem d_W_mark_7 : decode c_W_mark 7 = .ok (.i2l, 1) := by decide +kernel
theorem d_W_mark_8 : decode c_W_mark 8 = .ok (.lastore, 1) := by decide +kernel
theorem d_W_mark_9 : decode c_W_mark 9 = .ok (.goto 6, 3) := by decide +kernel
theorem d_W_mark_12 : decode c_W_mark 12 = .ok (.astore_n 3, 1) := by decide +kernel
theorem d_W_mark_13 : decode c_W_mark 13 = .ok (.iconst 1, 1) := by decide +kernel
theorem d_W_mark_14 : decode c_W_mark 14 = .ok (.ireturn, 1) := by decide +kernel
theorem d_W_mark_15 : decode c_W_mark 15 = .ok (.iconst 0, 1) := by decide +kernel
theorem d_W_mark_16 : decode c_W_mark 16 = .ok (.ireturn, 1) := by decide +kernel
theorem d_W_since_0 : decode c_W_since 0 = .ok (.aload 5, 2) := by decide +kernel
theorem d_W_since_2 : decode c_W_since 2 = .ok (.iconst 0, 1) := by decide +kernel
theorem d_W_since_3 : decode c_W_since 3 = .ok (.aload_n 0, 1) := by decide +kernel
theorem d_W_since_4 : decode c_W_since 4 = .ok (.iload_n 1, 1) := by decide +kernel
theorem d_W_since_5 : decode c_W_since 5 = .ok (.iload_n 2, 1) := by decide +kernel
theorem d_W_since_6 : decode c_W_since 6 = .ok (.iload_n 3, 1) := by decide +kernel
theorem d_W_since_7 : decode c_W_since 7 = .ok (.iload 4, 2) := by decide +kernel
theorem d_W_since_9 : decode c_W_since 9 = .ok (.invokevirtual 41, 3) := by decide +kernel
theorem d_W_since_12 : decode c_W_since 12 = .ok (.lastore, 1) := by decide +kernel
theorem d_W_since_13 : decode c_W_since 13 = .ok (.goto 11, 3) := by decide +kernel
theorem d_W_since_16 : decode c_W_since 16 = .ok (.astore 6, 2) := by decide +kernel
theorem d_W_since_18 : decode c_W_since 18 = .ok (.iconst 1, 1) := by decide +kernel
theorem d_W_since_19 : decode c_W_since 19 = .ok (.ireturn, 1) := by decide +kernel
theorem d_W_since_20 : decode c_W_since 20 = .ok (.astore 6, 2) := by decide +kernel
theorem d_W_since_22 : decode c_W_since 22 = .ok (.iconst 2, 1) := by decide +kernel
theorem d_W_since_23 : decode c_W_since 23 = .ok (.ireturn, 1) := by decide +kernel
theorem d_W_since_24 : decode c_W_since 24 = .ok (.iconst 0, 1) := by decide +kernel
theorem d_W_since_25 : decode c_W_since 25 = .ok (.ireturn, 1) := by decide +kernel
theorem d_W_batch_0 : decode c_W_batch 0 = .ok (.aload_n 3, 1) := by decide +kernel
theorem d_W_batch_1 : decode c_W_batch 1 = .ok (.iconst 0, 1) := by decide +kernel
theorem d_W_batch_2 : decode c_W_batch 2 = .ok (.aload_n 0, 1) := by decide +kernel
theorem d_W_batch_3 : decode c_W_batch 3 = .ok (.iload_n 1, 1) := by decide +kernel
theorem d_W_batch_4 : decode c_W_batch 4 = .ok (.iload_n 2, 1) := by decide +kernel
theorem d_W_batch_5 : decode c_W_batch 5 = .ok (.invokevirtual 45, 3) := by decide +kernel
theorem d_W_batch_8 : decode c_W_batch 8 = .ok (.ifCond .eq 7, 3) := by decide +kernel
theorem d_W_batch_11 : decode c_W_batch 11 = .ok (.lconst 1, 1) := by decide +kernel
theorem d_W_batch_12 : decode c_W_batch 12 = .ok (.goto 4, 3) := by decide +kernel
theorem d_W_batch_15 : decode c_W_batch 15 = .ok (.lconst 0, 1) := by decide +kernel
theorem d_W_batch_16 : decode c_W_batch 16 = .ok (.lastore, 1) := by decide +kernel
theorem d_W_batch_17 : decode c_W_batch 17 = .ok (.goto 7, 3) := by decide +kernel
theorem d_W_batch_20 : decode c_W_batch 20 = .ok (.astore 4, 2) := by decide +kernel
theorem d_W_batch_22 : decode c_W_batch 22 = .ok (.iconst 1, 1) := by decide +kernel
theorem d_W_batch_23 : decode c_W_batch 23 = .ok (.ireturn, 1) := by decide +kernel
theorem d_W_batch_24 : decode c_W_batch 24 = .ok (.iconst 0, 1) := by decide +kernel
theorem d_W_batch_25 : decode c_W_batch 25 = .ok (.ireturn, 1) := by decide +kernel
theorem d_W_right_0 : decode c_W_right 0 = .ok (.aload 4, 2) := by decide +kernel
theorem d_W_right_2 : decode c_W_right 2 = .ok (.iconst 0, 1) := by decide +kernel
theorem d_W_right_3 : decode c_W_right 3 = .ok (.aload_n 0, 1) := by decide +kernel
theorem d_W_right_4 : decode c_W_right 4 = .ok (.iload_n 1, 1) := by decide +kernel
theorem d_W_right_5 : decode c_W_right 5 = .ok (.iload_n 2, 1) := by decide +kernel
theorem d_W_right_6 : decode c_W_right 6 = .ok (.iload_n 3, 1) := by decide +kernel
theorem d_W_right_7 : decode c_W_right 7 = .ok (.invokevirtual 49, 3) := by decide +kernel
theorem d_W_right_10 : decode c_W_right 10 = .ok (.ifCond .eq 7, 3) := by decide +kernel
theorem d_W_right_13 : decode c_W_right 13 = .ok (.lconst 1, 1) := by decide +kernel
theorem d_W_right_14 : decode c_W_right 14 = .ok (.goto 4, 3) := by decide +kernel
theorem d_W_right_17 : decode c_W_right 17 = .ok (.lconst 0, 1) := by decide +kernel
theorem d_W_right_18 : decode c_W_right 18 = .ok (.lastore, 1) := by decide +kernel
theorem d_W_right_19 : decode c_W_right 19 = .ok (.goto 11, 3) := by decide +kernel
theorem d_W_right_22 : decode c_W_right 22 = .ok (.astore 5, 2) := by decide +kernel
theorem d_W_right_24 : decode c_W_right 24 = .ok (.iconst 1, 1) := by decide +kernel
theorem d_W_right_25 : decode c_W_right 25 = .ok (.ireturn, 1) := by decide +kernel
theorem d_W_right_26 : decode c_W_right 26 = .ok (.astore 5, 2) := by decide +kernel
theorem d_W_right_28 : decode c_W_right 28 = .ok (.iconst 2, 1) := by decide +kernel
theorem d_W_right_29 : decode c_W_right 29 = .ok (.ireturn, 1) := by decide +kernel
theorem d_W_right_30 : decode c_W_right 30 = .ok (.iconst 0, 1) := by decide +kernel
theorem d_W_right_31 : decode c_W_right 31 = .ok (.ireturn, 1) := by decide +kernel
theorem d_W_seen_0 : decode c_W_seen 0 = .ok (.aload 5, 2) := by decide +kernel
theorem d_W_seen_2 : decode c_W_seen 2 = .ok (.iconst 0, 1) := by decide +kernel
theorem d_W_seen_3 : decode c_W_seen 3 = .ok (.aload_n 0, 1) := by decide +kernel
theorem d_W_seen_4 : decode c_W_seen 4 = .ok (.iload_n 1, 1) := by decide +kernel
theorem d_W_seen_5 : decode c_W_seen 5 = .ok (.iload_n 2, 1) := by decide +kernel
theorem d_W_seen_6 : decode c_W_seen 6 = .ok (.iload_n 3, 1) := by decide +kernel
theorem d_W_seen_7 : decode c_W_seen 7 = .ok (.iload 4, 2) := by decide +kernel
theorem d_W_seen_9 : decode c_W_seen 9 = .ok (.invokevirtual 53, 3) := by decide +kernel
theorem d_W_seen_12 : decode c_W_seen 12 = .ok (.lastore, 1) := by decide +kernel
theorem d_W_seen_13 : decode c_W_seen 13 = .ok (.goto 15, 3) := by decide +kernel
theorem d_W_seen_16 : decode c_W_seen 16 = .ok (.astore 6, 2) := by decide +kernel
theorem d_W_seen_18 : decode c_W_seen 18 = .ok (.iconst 1, 1) := by decide +kernel
theorem d_W_seen_19 : decode c_W_seen 19 = .ok (.ireturn, 1) := by decide +kernel
theorem d_W_seen_20 : decode c_W_seen 20 = .ok (.astore 6, 2) := by decide +kernel
theorem d_W_seen_22 : decode c_W_seen 22 = .ok (.iconst 2, 1) := by decide +kernel
theorem d_W_seen_23 : decode c_W_seen 23 = .ok (.ireturn, 1) := by decide +kernel
theorem d_W_seen_24 : decode c_W_seen 24 = .ok (.astore 6, 2) := by decide +kernel
theorem d_W_seen_26 : decode c_W_seen 26 = .ok (.iconst 3, 1) := by decide +kernel
theorem d_W_seen_27 : decode c_W_seen 27 = .ok (.ireturn, 1) := by decide +kernel
theorem d_W_seen_28 : decode c_W_seen 28 = .ok (.iconst 0, 1) := by decide +kernel
theorem d_W_seen_29 : decode c_W_seen 29 = .ok (.ireturn, 1) := by decide +kernel
theorem d_W_entry_0 : decode c_W_entry 0 = .ok (.aload_n 2, 1) := by decide +kernel
theorem d_W_entry_1 : decode c_W_entry 1 = .ok (.iconst 0, 1) := by decide +kernel
theorem d_W_entry_2 : decode c_W_entry 2 = .ok (.aload_n 0, 1) := by decide +kernel
theorem d_W_entry_3 : decode c_W_entry 3 = .ok (.iload_n 1, 1) := by decide +kernel
theorem d_W_entry_4 : decode c_W_entry 4 = .ok (.invokevirtual 56, 3) := by decide +kernel
theorem d_W_entry_7 : decode c_W_entry 7 = .ok (.i2l, 1) := by decide +kernel
theorem d_W_entry_8 : decode c_W_entry 8 = .ok (.lastore, 1) := by decide +kernel
theorem d_W_entry_9 : decode c_W_entry 9 = .ok (.goto 9, 3) := by decide +kernel
theorem d_W_entry_12 : decode c_W_entry 12 = .ok (.astore_n 3, 1) := by decide +kernel
theorem d_W_entry_13 : decode c_W_entry 13 = .ok (.iconst 1, 1) := by decide +kernel
theorem d_W_entry_14 : decode c_W_entry 14 = .ok (.ireturn, 1) := by decide +kernel
theorem d_W_entry_15 : decode c_W_entry 15 = .ok (.astore_n 3, 1) := by decide +kernel
theorem d_W_entry_16 : decode c_W_entry 16 = .ok (.iconst 2, 1) := by decide +kernel
theorem d_W_entry_17 : decode c_W_entry 17 = .ok (.ireturn, 1) := by decide +kernel
theorem d_W_entry_18 : decode c_W_entry 18 = .ok (.iconst 0, 1) := by decide +kernel
theorem d_W_entry_19 : decode c_W_entry 19 = .ok (.ireturn, 1) := by decide +kernel
theorem d_W_row_0 : decode c_W_row 0 = .ok (.aload 5, 2) := by decide +kernel
theorem d_W_row_2 : decode c_W_row 2 = .ok (.iconst 0, 1) := by decide +kernel
theorem d_W_row_3 : decode c_W_row 3 = .ok (.aload_n 0, 1) := by decide +kernel
theorem d_W_row_4 : decode c_W_row 4 = .ok (.iload_n 1, 1) := by decide +kernel
theorem d_W_row_5 : decode c_W_row 5 = .ok (.iload_n 2, 1) := by decide +kernel
theorem d_W_row_6 : decode c_W_row 6 = .ok (.lload_n 3, 1) := by decide +kernel
theorem d_W_row_7 : decode c_W_row 7 = .ok (.invokevirtual 59, 3) := by decide +kernel
theorem d_W_row_10 : decode c_W_row 10 = .ok (.i2l, 1) := by decide +kernel
theorem d_W_row_11 : decode c_W_row 11 = .ok (.lastore, 1) := by decide +kernel
theorem d_W_row_12 : decode c_W_row 12 = .ok (.goto 15, 3) := by decide +kernel
theorem d_W_row_15 : decode c_W_row 15 = .ok (.astore 6, 2) := by decide +kernel
theorem d_W_row_17 : decode c_W_row 17 = .ok (.iconst 1, 1) := by decide +kernel
theorem d_W_row_18 : decode c_W_row 18 = .ok (.ireturn, 1) := by decide +kernel
theorem d_W_row_19 : decode c_W_row 19 = .ok (.astore 6, 2) := by decide +kernel
theorem d_W_row_21 : decode c_W_row 21 = .ok (.iconst 2, 1) := by decide +kernel
theorem d_W_row_22 : decode c_W_row 22 = .ok (.ireturn, 1) := by decide +kernel
theorem d_W_row_23 : decode c_W_row 23 = .ok (.astore 6, 2) := by decide +kernel
theorem d_W_row_25 : decode c_W_row 25 = .ok (.iconst 3, 1) := by decide +kernel
theorem d_W_row_26 : decode c_W_row 26 = .ok (.ireturn, 1) := by decide +kernel
theorem d_W_row_27 : decode c_W_row 27 = .ok (.iconst 0, 1) := by decide +kernel
theorem d_W_row_28 : decode c_W_row 28 = .ok (.ireturn, 1) := by decide +kernel
theorem d_W_close_0 : decode c_W_close 0 = .ok (.aload_n 2, 1) := by decide +kernel
theorem d_W_close_1 : decode c_W_close 1 = .ok (.iconst 0, 1) := by decide +kernel
theorem d_W_close_2 : decode c_W_close 2 = .ok (.aload_n 0, 1) := by decide +kernel
theorem d_W_close_3 : decode c_W_close 3 = .ok (.iload_n 1, 1) := by decide +kernel
theorem d_W_close_4 : decode c_W_close 4 = .ok (.invokevirtual 63, 3) := by decide +kernel
theorem d_W_close_7 : decode c_W_close 7 = .ok (.i2l, 1) := by decide +kernel
theorem d_W_close_8 : decode c_W_close 8 = .ok (.lastore, 1) := by decide +kernel
theorem d_W_close_9 : decode c_W_close 9 = .ok (.goto 9, 3) := by decide +kernel
theorem d_W_close_12 : decode c_W_close 12 = .ok (.astore_n 3, 1) := by decide +kernel
theorem d_W_close_13 : decode c_W_close 13 = .ok (.iconst 1, 1) := by decide +kernel
theorem d_W_close_14 : decode c_W_close 14 = .ok (.ireturn, 1) := by decide +kernel
theorem d_W_close_15 : decode c_W_close 15 = .ok (.astore_n 3, 1) := by decide +kernel
theorem d_W_close_16 : decode c_W_close 16 = .ok (.iconst 2, 1) := by decide +kernel
theorem d_W_close_17 : decode c_W_close 17 = .ok (.ireturn, 1) := by decide +kernel
theorem d_W_close_18 : decode c_W_close 18 = .ok (.iconst 0, 1) := by decide +kernel
theorem d_W_close_19 : decode c_W_close 19 = .ok (.ireturn, 1) := by decide +kernel
theorem d_W_balance_0 : decode c_W_balance 0 = .ok (.aload_n 3, 1) := by decide +kernel
theorem d_W_balance_1 : decode c_W_balance 1 = .ok (.iconst 0, 1) := by decide +kernel
theorem d_W_balance_2 : decode c_W_balance 2 = .ok (.aload_n 0, 1) := by decide +kernel
theorem d_W_balance_3 : decode c_W_balance 3 = .ok (.iload_n 1, 1) := by decide +kernel
theorem d_W_balance_4 : decode c_W_balance 4 = .ok (.iload_n 2, 1) := by decide +kernel
theorem d_W_balance_5 : decode c_W_balance 5 = .ok (.invokevirtual 66, 3) := by decide +kernel
theorem d_W_balance_8 : decode c_W_balance 8 = .ok (.lastore, 1) := by decide +kernel
theorem d_W_balance_9 : decode c_W_balance 9 = .ok (.goto 7, 3) := by decide +kernel
theorem d_W_balance_12 : decode c_W_balance 12 = .ok (.astore 4, 2) := by decide +kernel
theorem d_W_balance_14 : decode c_W_balance 14 = .ok (.iconst 1, 1) := by decide +kernel
theorem d_W_balance_15 : decode c_W_balance 15 = .ok (.ireturn, 1) := by decide +kernel
theorem d_W_balance_16 : decode c_W_balance 16 = .ok (.iconst 0, 1) := by decide +kernel
theorem d_W_balance_17 : decode c_W_balance 17 = .ok (.ireturn, 1) := by decide +kernel
theorem d_W_closeMonth_0 : decode c_W_closeMonth 0 = .ok (.aload_n 2, 1) := by decide +kernel
theorem d_W_closeMonth_1 : decode c_W_closeMonth 1 = .ok (.iconst 0, 1) := by decide +kernel
theorem d_W_closeMonth_2 : decode c_W_closeMonth 2 = .ok (.aload_n 0, 1) := by decide +kernel
theorem d_W_closeMonth_3 : decode c_W_closeMonth 3 = .ok (.iload_n 1, 1) := by decide +kernel
theorem d_W_closeMonth_4 : decode c_W_closeMonth 4 = .ok (.invokevirtual 70, 3) := by decide +kernel
theorem d_W_closeMonth_7 : decode c_W_closeMonth 7 = .ok (.ifCond .eq 7, 3) := by decide +kernel
theorem d_W_closeMonth_10 : decode c_W_closeMonth 10 = .ok (.lconst 1, 1) := by decide +kernel
theorem d_W_closeMonth_11 : decode c_W_closeMonth 11 = .ok (.goto 4, 3) := by decide +kernel
theorem d_W_closeMonth_14 : decode c_W_closeMonth 14 = .ok (.lconst 0, 1) := by decide +kernel
theorem d_W_closeMonth_15 : decode c_W_closeMonth 15 = .ok (.lastore, 1) := by decide +kernel
theorem d_W_closeMonth_16 : decode c_W_closeMonth 16 = .ok (.goto 6, 3) := by decide +kernel
theorem d_W_closeMonth_19 : decode c_W_closeMonth 19 = .ok (.astore_n 3, 1) := by decide +kernel
theorem d_W_closeMonth_20 : decode c_W_closeMonth 20 = .ok (.iconst 1, 1) := by decide +kernel
theorem d_W_closeMonth_21 : decode c_W_closeMonth 21 = .ok (.ireturn, 1) := by decide +kernel
theorem d_W_closeMonth_22 : decode c_W_closeMonth 22 = .ok (.iconst 0, 1) := by decide +kernel
theorem d_W_closeMonth_23 : decode c_W_closeMonth 23 = .ok (.ireturn, 1) := by decide +kernel
theorem d_W_reverse_0 : decode c_W_reverse 0 = .ok (.aload_n 3, 1) := by decide +kernel
theorem d_W_reverse_1 : decode c_W_reverse 1 = .ok (.iconst 0, 1) := by decide +kernel
theorem d_W_reverse_2 : decode c_W_reverse 2 = .ok (.aload_n 0, 1) := by decide +kernel
theorem d_W_reverse_3 : decode c_W_reverse 3 = .ok (.iload_n 1, 1) := by decide +kernel
theorem d_W_reverse_4 : decode c_W_reverse 4 = .ok (.iload_n 2, 1) := by decide +kernel
theorem d_W_reverse_5 : decode c_W_reverse 5 = .ok (.invokevirtual 74, 3) := by decide +kernel
theorem d_W_reverse_8 : decode c_W_reverse 8 = .ok (.i2l, 1) := by decide +kernel
theorem d_W_reverse_9 : decode c_W_reverse 9 = .ok (.lastore, 1) := by decide +kernel
theorem d_W_reverse_10 : decode c_W_reverse 10 = .ok (.goto 15, 3) := by decide +kernel
theorem d_W_reverse_13 : decode c_W_reverse 13 = .ok (.astore 4, 2) := by decide +kernel
theorem d_W_reverse_15 : decode c_W_reverse 15 = .ok (.iconst 1, 1) := by decide +kernel
theorem d_W_reverse_16 : decode c_W_reverse 16 = .ok (.ireturn, 1) := by decide +kernel
theorem d_W_reverse_17 : decode c_W_reverse 17 = .ok (.astore 4, 2) := by decide +kernel
theorem d_W_reverse_19 : decode c_W_reverse 19 = .ok (.iconst 2, 1) := by decide +kernel
theorem d_W_reverse_20 : decode c_W_reverse 20 = .ok (.ireturn, 1) := by decide +kernel
theorem d_W_reverse_21 : decode c_W_reverse 21 = .ok (.astore 4, 2) := by decide +kernel
theorem d_W_reverse_23 : decode c_W_reverse 23 = .ok (.iconst 3, 1) := by decide +kernel
theorem d_W_reverse_24 : decode c_W_reverse 24 = .ok (.ireturn, 1) := by decide +kernel
theorem d_W_reverse_25 : decode c_W_reverse 25 = .ok (.iconst 0, 1) := by decide +kernel
theorem d_W_reverse_26 : decode c_W_reverse 26 = .ok (.ireturn, 1) := by decide +kernel
theorem d_W_law_0 : decode c_W_law 0 = .ok (.new 8, 3) := by decide +kernel
theorem d_W_law_3 : decode c_W_law 3 = .ok (.dup, 1) := by decide +kernel
theorem d_W_law_4 : decode c_W_law 4 = .ok (.invokespecial 77, 3) := by decide +kernel
theorem d_W_law_7 : decode c_W_law 7 = .ok (.astore_n 1, 1) := by decide +kernel
theorem d_W_law_8 : decode c_W_law 8 = .ok (.new 78, 3) := by decide +kernel
theorem d_W_law_11 : decode c_W_law 11 = .ok (.dup, 1) := by decide +kernel
theorem d_W_law_12 : decode c_W_law 12 = .ok (.invokespecial 80, 3) := by decide +kernel
theorem d_W_law_15 : decode c_W_law 15 = .ok (.astore_n 2, 1) := by decide +kernel
theorem d_W_law_16 : decode c_W_law 16 = .ok (.iconst 1, 1) := by decide +kernel
theorem d_W_law_17 : decode c_W_law 17 = .ok (.newarray .long, 2) := by decide +kernel
theorem d_W_law_19 : decode c_W_law 19 = .ok (.astore_n 3, 1) := by decide +kernel
theorem d_W_law_20 : decode c_W_law 20 = .ok (.iconst 0, 1) := by decide +kernel
theorem d_W_law_21 : decode c_W_law 21 = .ok (.istore 4, 2) := by decide +kernel
theorem d_W_law_23 : decode c_W_law 23 = .ok (.iload 4, 2) := by decide +kernel
theorem d_W_law_25 : decode c_W_law 25 = .ok (.aload_n 0, 1) := by decide +kernel
theorem d_W_law_26 : decode c_W_law 26 = .ok (.arraylength, 1) := by decide +kernel
theorem d_W_law_27 : decode c_W_law 27 = .ok (.bipush 10, 2) := by decide +kernel
theorem d_W_law_29 : decode c_W_law 29 = .ok (.isub, 1) := by decide +kernel
theorem d_W_law_30 : decode c_W_law 30 = .ok (.if_icmp .gt 1091, 3) := by decide +kernel
theorem d_W_law_33 : decode c_W_law 33 = .ok (.aload_n 0, 1) := by decide +kernel
theorem d_W_law_34 : decode c_W_law 34 = .ok (.iload 4, 2) := by decide +kernel
theorem d_W_law_36 : decode c_W_law 36 = .ok (.iaload, 1) := by decide +kernel
theorem d_W_law_37 : decode c_W_law 37 = .ok (.bipush 31, 2) := by decide +kernel
theorem d_W_law_39 : decode c_W_law 39 = .ok (.iand, 1) := by decide +kernel
theorem d_W_law_40 : decode c_W_law 40 = .ok (.tableswitch 1075 0 16 #[84, 276, 304, 344, 384, 480, 520, 548, 612, 668, 736, 827, 855, 939, 967, 1007, 1035], 84) := by decide +kernel
theorem d_W_law_124 : decode c_W_law 124 = .ok (.aload_n 1, 1) := by decide +kernel
theorem d_W_law_125 : decode c_W_law 125 = .ok (.aload_n 0, 1) := by decide +kernel
theorem d_W_law_126 : decode c_W_law 126 = .ok (.iload 4, 2) := by decide +kernel
theorem d_W_law_128 : decode c_W_law 128 = .ok (.iconst 1, 1) := by decide +kernel
theorem d_W_law_129 : decode c_W_law 129 = .ok (.iadd, 1) := by decide +kernel
theorem d_W_law_130 : decode c_W_law 130 = .ok (.iaload, 1) := by decide +kernel
theorem d_W_law_131 : decode c_W_law 131 = .ok (.aload_n 0, 1) := by decide +kernel
theorem d_W_law_132 : decode c_W_law 132 = .ok (.iload 4, 2) := by decide +kernel
theorem d_W_law_134 : decode c_W_law 134 = .ok (.iconst 2, 1) := by decide +kernel
theorem d_W_law_135 : decode c_W_law 135 = .ok (.iadd, 1) := by decide +kernel
theorem d_W_law_136 : decode c_W_law 136 = .ok (.iaload, 1) := by decide +kernel
theorem d_W_law_137 : decode c_W_law 137 = .ok (.i2l, 1) := by decide +kernel
theorem d_W_law_138 : decode c_W_law 138 = .ok (.bipush 32, 2) := by decide +kernel
theorem d_W_law_140 : decode c_W_law 140 = .ok (.lshl, 1) := by decide +kernel
theorem d_W_law_141 : decode c_W_law 141 = .ok (.aload_n 0, 1) := by decide +kernel
theorem d_W_law_142 : decode c_W_law 142 = .ok (.iload 4, 2) := by decide +kernel
theorem d_W_law_144 : decode c_W_law 144 = .ok (.iconst 3, 1) := by decide +kernel
theorem d_W_law_145 : decode c_W_law 145 = .ok (.iadd, 1) := by decide +kernel
theorem d_W_law_146 : decode c_W_law 146 = .ok (.iaload, 1) := by decide +kernel
theorem d_W_law_147 : decode c_W_law 147 = .ok (.i2l, 1) := by decide +kernel
theorem d_W_law_148 : decode c_W_law 148 = .ok (.ldc2_w 81, 3) := by decide +kernel
theorem d_W_law_151 : decode c_W_law 151 = .ok (.land, 1) := by decide +kernel
theorem d_W_law_152 : decode c_W_law 152 = .ok (.lor, 1) := by decide +kernel
theorem d_W_law_153 : decode c_W_law 153 = .ok (.aload_n 0, 1) := by decide +kernel
theorem d_W_law_154 : decode c_W_law 154 = .ok (.iload 4, 2) := by decide +kernel
theorem d_W_law_156 : decode c_W_law 156 = .ok (.iconst 4, 1) := by decide +kernel
theorem d_W_law_157 : decode c_W_law 157 = .ok (.iadd, 1) := by decide +kernel
theorem d_W_law_158 : decode c_W_law 158 = .ok (.iaload, 1) := by decide +kernel
theorem d_W_law_159 : decode c_W_law 159 = .ok (.aload_n 0, 1) := by decide +kernel
theorem d_W_law_160 : decode c_W_law 160 = .ok (.iload 4, 2) := by decide +kernel
theorem d_W_law_162 : decode c_W_law 162 = .ok (.iconst 5, 1) := by decide +kernel
theorem d_W_law_163 : decode c_W_law 163 = .ok (.iadd, 1) := by decide +kernel
theorem d_W_law_164 : decode c_W_law 164 = .ok (.iaload, 1) := by decide +kernel
theorem d_W_law_165 : decode c_W_law 165 = .ok (.aload_n 0, 1) := by decide +kernel
theorem d_W_law_166 : decode c_W_law 166 = .ok (.iload 4, 2) := by decide +kernel
theorem d_W_law_168 : decode c_W_law 168 = .ok (.bipush 6, 2) := by decide +kernel
theorem d_W_law_170 : decode c_W_law 170 = .ok (.iadd, 1) := by decide +kernel
theorem d_W_law_171 : decode c_W_law 171 = .ok (.iaload, 1) := by decide +kernel
theorem d_W_law_172 : decode c_W_law 172 = .ok (.i2l, 1) := by decide +kernel
theorem d_W_law_173 : decode c_W_law 173 = .ok (.bipush 32, 2) := by decide +kernel
theorem d_W_law_175 : decode c_W_law 175 = .ok (.lshl, 1) := by decide +kernel
theorem d_W_law_176 : decode c_W_law 176 = .ok (.aload_n 0, 1) := by decide +kernel
theorem d_W_law_177 : decode c_W_law 177 = .ok (.iload 4, 2) := by decide +kernel
theorem d_W_law_179 : decode c_W_law 179 = .ok (.bipush 7, 2) := by decide +kernel
theorem d_W_law_181 : decode c_W_law 181 = .ok (.iadd, 1) := by decide +kernel
theorem d_W_law_182 : decode c_W_law 182 = .ok (.iaload, 1) := by decide +kernel
theorem d_W_law_183 : decode c_W_law 183 = .ok (.i2l, 1) := by decide +kernel
theorem d_W_law_184 : decode c_W_law 184 = .ok (.ldc2_w 81, 3) := by decide +kernel
theorem d_W_law_187 : decode c_W_law 187 = .ok (.land, 1) := by decide +kernel
theorem d_W_law_188 : decode c_W_law 188 = .ok (.lor, 1) := by decide +kernel
theorem d_W_law_189 : decode c_W_law 189 = .ok (.aload_n 0, 1) := by decide +kernel
theorem d_W_law_190 : decode c_W_law 190 = .ok (.iload 4, 2) := by decide +kernel
theorem d_W_law_192 : decode c_W_law 192 = .ok (.bipush 8, 2) := by decide +kernel
theorem d_W_law_194 : decode c_W_law 194 = .ok (.iadd, 1) := by decide +kernel
theorem d_W_law_195 : decode c_W_law 195 = .ok (.iaload, 1) := by decide +kernel
theorem d_W_law_196 : decode c_W_law 196 = .ok (.i2l, 1) := by decide +kernel
theorem d_W_law_197 : decode c_W_law 197 = .ok (.bipush 32, 2) := by decide +kernel
theorem d_W_law_199 : decode c_W_law 199 = .ok (.lshl, 1) := by decide +kernel
theorem d_W_law_200 : decode c_W_law 200 = .ok (.aload_n 0, 1) := by decide +kernel
theorem d_W_law_201 : decode c_W_law 201 = .ok (.iload 4, 2) := by decide +kernel
theorem d_W_law_203 : decode c_W_law 203 = .ok (.bipush 9, 2) := by decide +kernel
theorem d_W_law_205 : decode c_W_law 205 = .ok (.iadd, 1) := by decide +kernel
theorem d_W_law_206 : decode c_W_law 206 = .ok (.iaload, 1) := by decide +kernel
theorem d_W_law_207 : decode c_W_law 207 = .ok (.i2l, 1) := by decide +kernel
theorem d_W_law_208 : decode c_W_law 208 = .ok (.ldc2_w 81, 3) := by decide +kernel
theorem d_W_law_211 : decode c_W_law 211 = .ok (.land, 1) := by decide +kernel
theorem d_W_law_212 : decode c_W_law 212 = .ok (.lor, 1) := by decide +kernel
theorem d_W_law_213 : decode c_W_law 213 = .ok (.aload_n 3, 1) := by decide +kernel
theorem d_W_law_214 : decode c_W_law 214 = .ok (.invokestatic 83, 3) := by decide +kernel
theorem d_W_law_217 : decode c_W_law 217 = .ok (.istore 5, 2) := by decide +kernel
theorem d_W_law_219 : decode c_W_law 219 = .ok (.aload_n 2, 1) := by decide +kernel
theorem d_W_law_220 : decode c_W_law 220 = .ok (.aload_n 0, 1) := by decide +kernel
theorem d_W_law_221 : decode c_W_law 221 = .ok (.iload 4, 2) := by decide +kernel
theorem d_W_law_223 : decode c_W_law 223 = .ok (.iconst 1, 1) := by decide +kernel
theorem d_W_law_224 : decode c_W_law 224 = .ok (.iadd, 1) := by decide +kernel
theorem d_W_law_225 : decode c_W_law 225 = .ok (.iaload, 1) := by decide +kernel
theorem d_W_law_226 : decode c_W_law 226 = .ok (.aload_n 0, 1) := by decide +kernel
theorem d_W_law_227 : decode c_W_law 227 = .ok (.iload 4, 2) := by decide +kernel
theorem d_W_law_229 : decode c_W_law 229 = .ok (.iconst 2, 1) := by decide +kernel
theorem d_W_law_230 : decode c_W_law 230 = .ok (.iadd, 1) := by decide +kernel
theorem d_W_law_231 : decode c_W_law 231 = .ok (.iaload, 1) := by decide +kernel
theorem d_W_law_232 : decode c_W_law 232 = .ok (.i2l, 1) := by decide +kernel
theorem d_W_law_233 : decode c_W_law 233 = .ok (.bipush 32, 2) := by decide +kernel
theorem d_W_law_235 : decode c_W_law 235 = .ok (.lshl, 1) := by decide +kernel
theorem d_W_law_236 : decode c_W_law 236 = .ok (.aload_n 0, 1) := by decide +kernel
theorem d_W_law_237 : decode c_W_law 237 = .ok (.iload 4, 2) := by decide +kernel
theorem d_W_law_239 : decode c_W_law 239 = .ok (.iconst 3, 1) := by decide +kernel
theorem d_W_law_240 : decode c_W_law 240 = .ok (.iadd, 1) := by decide +kernel
theorem d_W_law_241 : decode c_W_law 241 = .ok (.iaload, 1) := by decide +kernel
theorem d_W_law_242 : decode c_W_law 242 = .ok (.i2l, 1) := by decide +kernel
theorem d_W_law_243 : decode c_W_law 243 = .ok (.ldc2_w 81, 3) := by decide +kernel
theorem d_W_law_246 : decode c_W_law 246 = .ok (.land, 1) := by decide +kernel
theorem d_W_law_247 : decode c_W_law 247 = .ok (.lor, 1) := by decide +kernel
theorem d_W_law_248 : decode c_W_law 248 = .ok (.aload_n 0, 1) := by decide +kernel
theorem d_W_law_249 : decode c_W_law 249 = .ok (.iload 4, 2) := by decide +kernel
theorem d_W_law_251 : decode c_W_law 251 = .ok (.iconst 4, 1) := by decide +kernel
theorem d_W_law_252 : decode c_W_law 252 = .ok (.iadd, 1) := by decide +kernel
theorem d_W_law_253 : decode c_W_law 253 = .ok (.iaload, 1) := by decide +kernel
theorem d_W_law_254 : decode c_W_law 254 = .ok (.aload_n 0, 1) := by decide +kernel
theorem d_W_law_255 : decode c_W_law 255 = .ok (.iload 4, 2) := by decide +kernel
theorem d_W_law_257 : decode c_W_law 257 = .ok (.iconst 5, 1) := by decide +kernel
theorem d_W_law_258 : decode c_W_law 258 = .ok (.iadd, 1) := by decide +kernel
theorem d_W_law_259 : decode c_W_law 259 = .ok (.iaload, 1) := by decide +kernel
theorem d_W_law_260 : decode c_W_law 260 = .ok (.aload_n 0, 1) := by decide +kernel
theorem d_W_law_261 : decode c_W_law 261 = .ok (.iload 4, 2) := by decide +kernel
theorem d_W_law_263 : decode c_W_law 263 = .ok (.bipush 6, 2) := by decide +kernel
theorem d_W_law_265 : decode c_W_law 265 = .ok (.iadd, 1) := by decide +kernel
theorem d_W_law_266 : decode c_W_law 266 = .ok (.iaload, 1) := by decide +kernel
theorem d_W_law_267 : decode c_W_law 267 = .ok (.i2l, 1) := by decide +kernel
theorem d_W_law_268 : decode c_W_law 268 = .ok (.bipush 32, 2) := by decide +kernel
theorem d_W_law_270 : decode c_W_law 270 = .ok (.lshl, 1) := by decide +kernel
theorem d_W_law_271 : decode c_W_law 271 = .ok (.aload_n 0, 1) := by decide +kernel
theorem d_W_law_272 : decode c_W_law 272 = .ok (.iload 4, 2) := by decide +kernel
theorem d_W_law_274 : decode c_W_law 274 = .ok (.bipush 7, 2) := by decide +kernel
theorem d_W_law_276 : decode c_W_law 276 = .ok (.iadd, 1) := by decide +kernel
theorem d_W_law_277 : decode c_W_law 277 = .ok (.iaload, 1) := by decide +kernel
theorem d_W_law_278 : decode c_W_law 278 = .ok (.i2l, 1) := by decide +kernel
theorem d_W_law_279 : decode c_W_law 279 = .ok (.ldc2_w 81, 3) := by decide +kernel
theorem d_W_law_282 : decode c_W_law 282 = .ok (.land, 1) := by decide +kernel
theorem d_W_law_283 : decode c_W_law 283 = .ok (.lor, 1) := by decide +kernel
theorem d_W_law_284 : decode c_W_law 284 = .ok (.aload_n 0, 1) := by decide +kernel
theorem d_W_law_285 : decode c_W_law 285 = .ok (.iload 4, 2) := by decide +kernel
theorem d_W_law_287 : decode c_W_law 287 = .ok (.bipush 8, 2) := by decide +kernel
theorem d_W_law_289 : decode c_W_law 289 = .ok (.iadd, 1) := by decide +kernel
theorem d_W_law_290 : decode c_W_law 290 = .ok (.iaload, 1) := by decide +kernel
theorem d_W_law_291 : decode c_W_law 291 = .ok (.i2l, 1) := by decide +kernel
theorem d_W_law_292 : decode c_W_law 292 = .ok (.bipush 32, 2) := by decide +kernel
theorem d_W_law_294 : decode c_W_law 294 = .ok (.lshl, 1) := by decide +kernel
theorem d_W_law_295 : decode c_W_law 295 = .ok (.aload_n 0, 1) := by decide +kernel
theorem d_W_law_296 : decode c_W_law 296 = .ok (.iload 4, 2) := by decide +kernel
theorem d_W_law_298 : decode c_W_law 298 = .ok (.bipush 9, 2) := by decide +kernel
theorem d_W_law_300 : decode c_W_law 300 = .ok (.iadd, 1) := by decide +kernel
theorem d_W_law_301 : decode c_W_law 301 = .ok (.iaload, 1) := by decide +kernel
theorem d_W_law_302 : decode c_W_law 302 = .ok (.i2l, 1) := by decide +kernel
theorem d_W_law_303 : decode c_W_law 303 = .ok (.ldc2_w 81, 3) := by decide +kernel
theorem d_W_law_306 : decode c_W_law 306 = .ok (.land, 1) := by decide +kernel
theorem d_W_law_307 : decode c_W_law 307 = .ok (.lor, 1) := by decide +kernel
theorem d_W_law_308 : decode c_W_law 308 = .ok (.invokevirtual 88, 3) := by decide +kernel
theorem d_W_law_311 : decode c_W_law 311 = .ok (.istore 6, 2) := by decide +kernel
theorem d_W_law_313 : decode c_W_law 313 = .ok (.goto 802, 3) := by decide +kernel
theorem d_W_law_316 : decode c_W_law 316 = .ok (.aload_n 1, 1) := by decide +kernel
theorem d_W_law_317 : decode c_W_law 317 = .ok (.aload_n 0, 1) := by decide +kernel
theorem d_W_law_318 : decode c_W_law 318 = .ok (.iload 4, 2) := by decide +kernel
theorem d_W_law_320 : decode c_W_law 320 = .ok (.iconst 1, 1) := by decide +kernel
theorem d_W_law_321 : decode c_W_law 321 = .ok (.iadd, 1) := by decide +kernel
theorem d_W_law_322 : decode c_W_law 322 = .ok (.iaload, 1) := by decide +kernel
theorem d_W_law_323 : decode c_W_law 323 = .ok (.aload_n 3, 1) := by decide +kernel
theorem d_W_law_324 : decode c_W_law 324 = .ok (.invokestatic 89, 3) := by decide +kernel
theorem d_W_law_327 : decode c_W_law 327 = .ok (.istore 5, 2) := by decide +kernel
theorem d_W_law_329 : decode c_W_law 329 = .ok (.aload_n 2, 1) := by decide +kernel
theorem d_W_law_330 : decode c_W_law 330 = .ok (.aload_n 0, 1) := by decide +kernel
theorem d_W_law_331 : decode c_W_law 331 = .ok (.iload 4, 2) := by decide +kernel
theorem d_W_law_333 : decode c_W_law 333 = .ok (.iconst 1, 1) := by decide +kernel
theorem d_W_law_334 : decode c_W_law 334 = .ok (.iadd, 1) := by decide +kernel
theorem d_W_law_335 : decode c_W_law 335 = .ok (.iaload, 1) := by decide +kernel
theorem d_W_law_336 : decode c_W_law 336 = .ok (.invokevirtual 92, 3) := by decide +kernel
theorem d_W_law_339 : decode c_W_law 339 = .ok (.istore 6, 2) := by decide +kernel
theorem d_W_law_341 : decode c_W_law 341 = .ok (.goto 774, 3) := by decide +kernel
theorem d_W_law_344 : decode c_W_law 344 = .ok (.aload_n 1, 1) := by decide +kernel
theorem d_W_law_345 : decode c_W_law 345 = .ok (.aload_n 0, 1) := by decide +kernel
theorem d_W_law_346 : decode c_W_law 346 = .ok (.iload 4, 2) := by decide +kernel
theorem d_W_law_348 : decode c_W_law 348 = .ok (.iconst 1, 1) := by decide +kernel
theorem d_W_law_349 : decode c_W_law 349 = .ok (.iadd, 1) := by decide +kernel
theorem d_W_law_350 : decode c_W_law 350 = .ok (.iaload, 1) := by decide +kernel
theorem d_W_law_351 : decode c_W_law 351 = .ok (.aload_n 0, 1) := by decide +kernel
theorem d_W_law_352 : decode c_W_law 352 = .ok (.iload 4, 2) := by decide +kernel
theorem d_W_law_354 : decode c_W_law 354 = .ok (.iconst 2, 1) := by decide +kernel
theorem d_W_law_355 : decode c_W_law 355 = .ok (.iadd, 1) := by decide +kernel
theorem d_W_law_356 : decode c_W_law 356 = .ok (.iaload, 1) := by decide +kernel
theorem d_W_law_357 : decode c_W_law 357 = .ok (.aload_n 3, 1) := by decide +kernel
theorem d_W_law_358 : decode c_W_law 358 = .ok (.invokestatic 93, 3) := by decide +kernel
theorem d_W_law_361 : decode c_W_law 361 = .ok (.istore 5, 2) := by decide +kernel
theorem d_W_law_363 : decode c_W_law 363 = .ok (.aload_n 2, 1) := by decide +kernel
theorem d_W_law_364 : decode c_W_law 364 = .ok (.aload_n 0, 1) := by decide +kernel
theorem d_W_law_365 : decode c_W_law 365 = .ok (.iload 4, 2) := by decide +kernel
theorem d_W_law_367 : decode c_W_law 367 = .ok (.iconst 1, 1) := by decide +kernel
theorem d_W_law_368 : decode c_W_law 368 = .ok (.iadd, 1) := by decide +kernel
theorem d_W_law_369 : decode c_W_law 369 = .ok (.iaload, 1) := by decide +kernel
theorem d_W_law_370 : decode c_W_law 370 = .ok (.aload_n 0, 1) := by decide +kernel
theorem d_W_law_371 : decode c_W_law 371 = .ok (.iload 4, 2) := by decide +kernel
theorem d_W_law_373 : decode c_W_law 373 = .ok (.iconst 2, 1) := by decide +kernel
theorem d_W_law_374 : decode c_W_law 374 = .ok (.iadd, 1) := by decide +kernel
theorem d_W_law_375 : decode c_W_law 375 = .ok (.iaload, 1) := by decide +kernel
theorem d_W_law_376 : decode c_W_law 376 = .ok (.invokevirtual 96, 3) := by decide +kernel
theorem d_W_law_379 : decode c_W_law 379 = .ok (.istore 6, 2) := by decide +kernel
theorem d_W_law_381 : decode c_W_law 381 = .ok (.goto 734, 3) := by decide +kernel
theorem d_W_law_384 : decode c_W_law 384 = .ok (.aload_n 1, 1) := by decide +kernel
theorem d_W_law_385 : decode c_W_law 385 = .ok (.aload_n 0, 1) := by decide +kernel
theorem d_W_law_386 : decode c_W_law 386 = .ok (.iload 4, 2) := by decide +kernel
theorem d_W_law_388 : decode c_W_law 388 = .ok (.iconst 1, 1) := by decide +kernel
theorem d_W_law_389 : decode c_W_law 389 = .ok (.iadd, 1) := by decide +kernel
theorem d_W_law_390 : decode c_W_law 390 = .ok (.iaload, 1) := by decide +kernel
theorem d_W_law_391 : decode c_W_law 391 = .ok (.aload_n 0, 1) := by decide +kernel
theorem d_W_law_392 : decode c_W_law 392 = .ok (.iload 4, 2) := by decide +kernel
theorem d_W_law_394 : decode c_W_law 394 = .ok (.iconst 2, 1) := by decide +kernel
theorem d_W_law_395 : decode c_W_law 395 = .ok (.iadd, 1) := by decide +kernel
theorem d_W_law_396 : decode c_W_law 396 = .ok (.iaload, 1) := by decide +kernel
theorem d_W_law_397 : decode c_W_law 397 = .ok (.aload_n 3, 1) := by decide +kernel
theorem d_W_law_398 : decode c_W_law 398 = .ok (.invokestatic 97, 3) := by decide +kernel
theorem d_W_law_401 : decode c_W_law 401 = .ok (.istore 5, 2) := by decide +kernel
theorem d_W_law_403 : decode c_W_law 403 = .ok (.aload_n 2, 1) := by decide +kernel
theorem d_W_law_404 : decode c_W_law 404 = .ok (.aload_n 0, 1) := by decide +kernel
theorem d_W_law_405 : decode c_W_law 405 = .ok (.iload 4, 2) := by decide +kernel
theorem d_W_law_407 : decode c_W_law 407 = .ok (.iconst 1, 1) := by decide +kernel
theorem d_W_law_408 : decode c_W_law 408 = .ok (.iadd, 1) := by decide +kernel
theorem d_W_law_409 : decode c_W_law 409 = .ok (.iaload, 1) := by decide +kernel
theorem d_W_law_410 : decode c_W_law 410 = .ok (.aload_n 0, 1) := by decide +kernel
theorem d_W_law_411 : decode c_W_law 411 = .ok (.iload 4, 2) := by decide +kernel
theorem d_W_law_413 : decode c_W_law 413 = .ok (.iconst 2, 1) := by decide +kernel
theorem d_W_law_414 : decode c_W_law 414 = .ok (.iadd, 1) := by decide +kernel
theorem d_W_law_415 : decode c_W_law 415 = .ok (.iaload, 1) := by decide +kernel
theorem d_W_law_416 : decode c_W_law 416 = .ok (.invokevirtual 99, 3) := by decide +kernel
theorem d_W_law_419 : decode c_W_law 419 = .ok (.istore 6, 2) := by decide +kernel
theorem d_W_law_421 : decode c_W_law 421 = .ok (.goto 694, 3) := by decide +kernel
theorem d_W_law_424 : decode c_W_law 424 = .ok (.aload_n 1, 1) := by decide +kernel
theorem d_W_law_425 : decode c_W_law 425 = .ok (.aload_n 0, 1) := by decide +kernel
theorem d_W_law_426 : decode c_W_law 426 = .ok (.iload 4, 2) := by decide +kernel
theorem d_W_law_428 : decode c_W_law 428 = .ok (.iconst 1, 1) := by decide +kernel
theorem d_W_law_429 : decode c_W_law 429 = .ok (.iadd, 1) := by decide +kernel
theorem d_W_law_430 : decode c_W_law 430 = .ok (.iaload, 1) := by decide +kernel
theorem d_W_law_431 : decode c_W_law 431 = .ok (.aload_n 0, 1) := by decide +kernel
theorem d_W_law_432 : decode c_W_law 432 = .ok (.iload 4, 2) := by decide +kernel
theorem d_W_law_434 : decode c_W_law 434 = .ok (.iconst 2, 1) := by decide +kernel
theorem d_W_law_435 : decode c_W_law 435 = .ok (.iadd, 1) := by decide +kernel
theorem d_W_law_436 : decode c_W_law 436 = .ok (.iaload, 1) := by decide +kernel
theorem d_W_law_437 : decode c_W_law 437 = .ok (.aload_n 0, 1) := by decide +kernel
theorem d_W_law_438 : decode c_W_law 438 = .ok (.iload 4, 2) := by decide +kernel
theorem d_W_law_440 : decode c_W_law 440 = .ok (.iconst 3, 1) := by decide +kernel
theorem d_W_law_441 : decode c_W_law 441 = .ok (.iadd, 1) := by decide +kernel
theorem d_W_law_442 : decode c_W_law 442 = .ok (.iaload, 1) := by decide +kernel
theorem d_W_law_443 : decode c_W_law 443 = .ok (.aload_n 0, 1) := by decide +kernel
theorem d_W_law_444 : decode c_W_law 444 = .ok (.iload 4, 2) := by decide +kernel
theorem d_W_law_446 : decode c_W_law 446 = .ok (.iconst 4, 1) := by decide +kernel
theorem d_W_law_447 : decode c_W_law 447 = .ok (.iadd, 1) := by decide +kernel
theorem d_W_law_448 : decode c_W_law 448 = .ok (.iaload, 1) := by decide +kernel
theorem d_W_law_449 : decode c_W_law 449 = .ok (.i2l, 1) := by decide +kernel
theorem d_W_law_450 : decode c_W_law 450 = .ok (.bipush 32, 2) := by decide +kernel
theorem d_W_law_452 : decode c_W_law 452 = .ok (.lshl, 1) := by decide +kernel
theorem d_W_law_453 : decode c_W_law 453 = .ok (.aload_n 0, 1) := by decide +kernel
theorem d_W_law_454 : decode c_W_law 454 = .ok (.iload 4, 2) := by decide +kernel
theorem d_W_law_456 : decode c_W_law 456 = .ok (.iconst 5, 1) := by decide +kernel
theorem d_W_law_457 : decode c_W_law 457 = .ok (.iadd, 1) := by decide +kernel
theorem d_W_law_458 : decode c_W_law 458 = .ok (.iaload, 1) := by decide +kernel
theorem d_W_law_459 : decode c_W_law 459 = .ok (.i2l, 1) := by decide +kernel
theorem d_W_law_460 : decode c_W_law 460 = .ok (.ldc2_w 81, 3) := by decide +kernel
theorem d_W_law_463 : decode c_W_law 463 = .ok (.land, 1) := by decide +kernel
theorem d_W_law_464 : decode c_W_law 464 = .ok (.lor, 1) := by decide +kernel
theorem d_W_law_465 : decode c_W_law 465 = .ok (.aload_n 3, 1) := by decide +kernel
theorem d_W_law_466 : decode c_W_law 466 = .ok (.invokestatic 100, 3) := by decide +kernel
theorem d_W_law_469 : decode c_W_law 469 = .ok (.istore 5, 2) := by decide +kernel
theorem d_W_law_471 : decode c_W_law 471 = .ok (.aload_n 2, 1) := by decide +kernel
theorem d_W_law_472 : decode c_W_law 472 = .ok (.aload_n 0, 1) := by decide +kernel
theorem d_W_law_473 : decode c_W_law 473 = .ok (.iload 4, 2) := by decide +kernel
theorem d_W_law_475 : decode c_W_law 475 = .ok (.iconst 1, 1) := by decide +kernel
theorem d_W_law_476 : decode c_W_law 476 = .ok (.iadd, 1) := by decide +kernel
theorem d_W_law_477 : decode c_W_law 477 = .ok (.iaload, 1) := by decide +kernel
theorem d_W_law_478 : decode c_W_law 478 = .ok (.aload_n 0, 1) := by decide +kernel
theorem d_W_law_479 : decode c_W_law 479 = .ok (.iload 4, 2) := by decide +kernel
theorem d_W_law_481 : decode c_W_law 481 = .ok (.iconst 2, 1) := by decide +kernel
theorem d_W_law_482 : decode c_W_law 482 = .ok (.iadd, 1) := by decide +kernel
theorem d_W_law_483 : decode c_W_law 483 = .ok (.iaload, 1) := by decide +kernel
theorem d_W_law_484 : decode c_W_law 484 = .ok (.aload_n 0, 1) := by decide +kernel
theorem d_W_law_485 : decode c_W_law 485 = .ok (.iload 4, 2) := by decide +kernel
theorem d_W_law_487 : decode c_W_law 487 = .ok (.iconst 3, 1) := by decide +kernel
theorem d_W_law_488 : decode c_W_law 488 = .ok (.iadd, 1) := by decide +kernel
theorem d_W_law_489 : decode c_W_law 489 = .ok (.iaload, 1) := by decide +kernel
theorem d_W_law_490 : decode c_W_law 490 = .ok (.aload_n 0, 1) := by decide +kernel
theorem d_W_law_491 : decode c_W_law 491 = .ok (.iload 4, 2) := by decide +kernel
theorem d_W_law_493 : decode c_W_law 493 = .ok (.iconst 4, 1) := by decide +kernel
theorem d_W_law_494 : decode c_W_law 494 = .ok (.iadd, 1) := by decide +kernel
theorem d_W_law_495 : decode c_W_law 495 = .ok (.iaload, 1) := by decide +kernel
theorem d_W_law_496 : decode c_W_law 496 = .ok (.i2l, 1) := by decide +kernel
theorem d_W_law_497 : decode c_W_law 497 = .ok (.bipush 32, 2) := by decide +kernel
theorem d_W_law_499 : decode c_W_law 499 = .ok (.lshl, 1) := by decide +kernel
theorem d_W_law_500 : decode c_W_law 500 = .ok (.aload_n 0, 1) := by decide +kernel
theorem d_W_law_501 : decode c_W_law 501 = .ok (.iload 4, 2) := by decide +kernel
theorem d_W_law_503 : decode c_W_law 503 = .ok (.iconst 5, 1) := by decide +kernel
theorem d_W_law_504 : decode c_W_law 504 = .ok (.iadd, 1) := by decide +kernel
theorem d_W_law_505 : decode c_W_law 505 = .ok (.iaload, 1) := by decide +kernel
theorem d_W_law_506 : decode c_W_law 506 = .ok (.i2l, 1) := by decide +kernel
theorem d_W_law_507 : decode c_W_law 507 = .ok (.ldc2_w 81, 3) := by decide +kernel
theorem d_W_law_510 : decode c_W_law 510 = .ok (.land, 1) := by decide +kernel
theorem d_W_law_511 : decode c_W_law 511 = .ok (.lor, 1) := by decide +kernel
theorem d_W_law_512 : decode c_W_law 512 = .ok (.invokevirtual 103, 3) := by decide +kernel
theorem d_W_law_515 : decode c_W_law 515 = .ok (.lstore 6, 2) := by decide +kernel
theorem d_W_law_517 : decode c_W_law 517 = .ok (.goto 598, 3) := by decide +kernel
theorem d_W_law_520 : decode c_W_law 520 = .ok (.aload_n 1, 1) := by decide +kernel
theorem d_W_law_521 : decode c_W_law 521 = .ok (.aload_n 0, 1) := by decide +kernel
theorem d_W_law_522 : decode c_W_law 522 = .ok (.iload 4, 2) := by decide +kernel
theorem d_W_law_524 : decode c_W_law 524 = .ok (.iconst 1, 1) := by decide +kernel
theorem d_W_law_525 : decode c_W_law 525 = .ok (.iadd, 1) := by decide +kernel
theorem d_W_law_526 : decode c_W_law 526 = .ok (.iaload, 1) := by decide +kernel
theorem d_W_law_527 : decode c_W_law 527 = .ok (.aload_n 0, 1) := by decide +kernel
theorem d_W_law_528 : decode c_W_law 528 = .ok (.iload 4, 2) := by decide +kernel
theorem d_W_law_530 : decode c_W_law 530 = .ok (.iconst 2, 1) := by decide +kernel
theorem d_W_law_531 : decode c_W_law 531 = .ok (.iadd, 1) := by decide +kernel
theorem d_W_law_532 : decode c_W_law 532 = .ok (.iaload, 1) := by decide +kernel
theorem d_W_law_533 : decode c_W_law 533 = .ok (.aload_n 3, 1) := by decide +kernel
theorem d_W_law_534 : decode c_W_law 534 = .ok (.invokestatic 104, 3) := by decide +kernel
theorem d_W_law_537 : decode c_W_law 537 = .ok (.istore 5, 2) := by decide +kernel
theorem d_W_law_539 : decode c_W_law 539 = .ok (.aload_n 2, 1) := by decide +kernel
theorem d_W_law_540 : decode c_W_law 540 = .ok (.aload_n 0, 1) := by decide +kernel
theorem d_W_law_541 : decode c_W_law 541 = .ok (.iload 4, 2) := by decide +kernel
theorem d_W_law_543 : decode c_W_law 543 = .ok (.iconst 1, 1) := by decide +kernel
theorem d_W_law_544 : decode c_W_law 544 = .ok (.iadd, 1) := by decide +kernel
theorem d_W_law_545 : decode c_W_law 545 = .ok (.iaload, 1) := by decide +kernel
theorem d_W_law_546 : decode c_W_law 546 = .ok (.aload_n 0, 1) := by decide +kernel
theorem d_W_law_547 : decode c_W_law 547 = .ok (.iload 4, 2) := by decide +kernel
theorem d_W_law_549 : decode c_W_law 549 = .ok (.iconst 2, 1) := by decide +kernel
theorem d_W_law_550 : decode c_W_law 550 = .ok (.iadd, 1) := by decide +kernel
theorem d_W_law_551 : decode c_W_law 551 = .ok (.iaload, 1) := by decide +kernel
theorem d_W_law_552 : decode c_W_law 552 = .ok (.invokevirtual 106, 3) := by decide +kernel
theorem d_W_law_555 : decode c_W_law 555 = .ok (.istore 6, 2) := by decide +kernel
theorem d_W_law_557 : decode c_W_law 557 = .ok (.goto 558, 3) := by decide +kernel
theorem d_W_law_560 : decode c_W_law 560 = .ok (.aload_n 1, 1) := by decide +kernel
theorem d_W_law_561 : decode c_W_law 561 = .ok (.aload_n 0, 1) := by decide +kernel
theorem d_W_law_562 : decode c_W_law 562 = .ok (.iload 4, 2) := by decide +kernel
theorem d_W_law_564 : decode c_W_law 564 = .ok (.iconst 1, 1) := by decide +kernel
theorem d_W_law_565 : decode c_W_law 565 = .ok (.iadd, 1) := by decide +kernel
theorem d_W_law_566 : decode c_W_law 566 = .ok (.iaload, 1) := by decide +kernel
theorem d_W_law_567 : decode c_W_law 567 = .ok (.aload_n 3, 1) := by decide +kernel
theorem d_W_law_568 : decode c_W_law 568 = .ok (.invokestatic 107, 3) := by decide +kernel
theorem d_W_law_571 : decode c_W_law 571 = .ok (.istore 5, 2) := by decide +kernel
theorem d_W_law_573 : decode c_W_law 573 = .ok (.aload_n 2, 1) := by decide +kernel
theorem d_W_law_574 : decode c_W_law 574 = .ok (.aload_n 0, 1) := by decide +kernel
theorem d_W_law_575 : decode c_W_law 575 = .ok (.iload 4, 2) := by decide +kernel
theorem d_W_law_577 : decode c_W_law 577 = .ok (.iconst 1, 1) := by decide +kernel
theorem d_W_law_578 : decode c_W_law 578 = .ok (.iadd, 1) := by decide +kernel
theorem d_W_law_579 : decode c_W_law 579 = .ok (.iaload, 1) := by decide +kernel
theorem d_W_law_580 : decode c_W_law 580 = .ok (.invokevirtual 109, 3) := by decide +kernel
theorem d_W_law_583 : decode c_W_law 583 = .ok (.istore 6, 2) := by decide +kernel
theorem d_W_law_585 : decode c_W_law 585 = .ok (.goto 530, 3) := by decide +kernel
theorem d_W_law_588 : decode c_W_law 588 = .ok (.aload_n 1, 1) := by decide +kernel
theorem d_W_law_589 : decode c_W_law 589 = .ok (.aload_n 0, 1) := by decide +kernel
theorem d_W_law_590 : decode c_W_law 590 = .ok (.iload 4, 2) := by decide +kernel
theorem d_W_law_592 : decode c_W_law 592 = .ok (.iconst 1, 1) := by decide +kernel
theorem d_W_law_593 : decode c_W_law 593 = .ok (.iadd, 1) := by decide +kernel
theorem d_W_law_594 : decode c_W_law 594 = .ok (.iaload, 1) := by decide +kernel
theorem d_W_law_595 : decode c_W_law 595 = .ok (.aload_n 0, 1) := by decide +kernel
theorem d_W_law_596 : decode c_W_law 596 = .ok (.iload 4, 2) := by decide +kernel
theorem d_W_law_598 : decode c_W_law 598 = .ok (.iconst 2, 1) := by decide +kernel
theorem d_W_law_599 : decode c_W_law 599 = .ok (.iadd, 1) := by decide +kernel
theorem d_W_law_600 : decode c_W_law 600 = .ok (.iaload, 1) := by decide +kernel
theorem d_W_law_601 : decode c_W_law 601 = .ok (.aload_n 0, 1) := by decide +kernel
theorem d_W_law_602 : decode c_W_law 602 = .ok (.iload 4, 2) := by decide +kernel
theorem d_W_law_604 : decode c_W_law 604 = .ok (.iconst 3, 1) := by decide +kernel
theorem d_W_law_605 : decode c_W_law 605 = .ok (.iadd, 1) := by decide +kernel
theorem d_W_law_606 : decode c_W_law 606 = .ok (.iaload, 1) := by decide +kernel
theorem d_W_law_607 : decode c_W_law 607 = .ok (.aload_n 0, 1) := by decide +kernel
theorem d_W_law_608 : decode c_W_law 608 = .ok (.iload 4, 2) := by decide +kernel
theorem d_W_law_610 : decode c_W_law 610 = .ok (.iconst 4, 1) := by decide +kernel
theorem d_W_law_611 : decode c_W_law 611 = .ok (.iadd, 1) := by decide +kernel
theorem d_W_law_612 : decode c_W_law 612 = .ok (.iaload, 1) := by decide +kernel
theorem d_W_law_613 : decode c_W_law 613 = .ok (.aload_n 3, 1) := by decide +kernel
theorem d_W_law_614 : decode c_W_law 614 = .ok (.invokestatic 110, 3) := by decide +kernel
theorem d_W_law_617 : decode c_W_law 617 = .ok (.istore 5, 2) := by decide +kernel
theorem d_W_law_619 : decode c_W_law 619 = .ok (.aload_n 2, 1) := by decide +kernel
theorem d_W_law_620 : decode c_W_law 620 = .ok (.aload_n 0, 1) := by decide +kernel
theorem d_W_law_621 : decode c_W_law 621 = .ok (.iload 4, 2) := by decide +kernel
theorem d_W_law_623 : decode c_W_law 623 = .ok (.iconst 1, 1) := by decide +kernel
theorem d_W_law_624 : decode c_W_law 624 = .ok (.iadd, 1) := by decide +kernel
theorem d_W_law_625 : decode c_W_law 625 = .ok (.iaload, 1) := by decide +kernel
theorem d_W_law_626 : decode c_W_law 626 = .ok (.aload_n 0, 1) := by decide +kernel
theorem d_W_law_627 : decode c_W_law 627 = .ok (.iload 4, 2) := by decide +kernel
theorem d_W_law_629 : decode c_W_law 629 = .ok (.iconst 2, 1) := by decide +kernel
theorem d_W_law_630 : decode c_W_law 630 = .ok (.iadd, 1) := by decide +kernel
theorem d_W_law_631 : decode c_W_law 631 = .ok (.iaload, 1) := by decide +kernel
theorem d_W_law_632 : decode c_W_law 632 = .ok (.aload_n 0, 1) := by decide +kernel
theorem d_W_law_633 : decode c_W_law 633 = .ok (.iload 4, 2) := by decide +kernel
theorem d_W_law_635 : decode c_W_law 635 = .ok (.iconst 3, 1) := by decide +kernel
theorem d_W_law_636 : decode c_W_law 636 = .ok (.iadd, 1) := by decide +kernel
theorem d_W_law_637 : decode c_W_law 637 = .ok (.iaload, 1) := by decide +kernel
theorem d_W_law_638 : decode c_W_law 638 = .ok (.aload_n 0, 1) := by decide +kernel
theorem d_W_law_639 : decode c_W_law 639 = .ok (.iload 4, 2) := by decide +kernel
theorem d_W_law_641 : decode c_W_law 641 = .ok (.iconst 4, 1) := by decide +kernel
theorem d_W_law_642 : decode c_W_law 642 = .ok (.iadd, 1) := by decide +kernel
theorem d_W_law_643 : decode c_W_law 643 = .ok (.iaload, 1) := by decide +kernel
theorem d_W_law_644 : decode c_W_law 644 = .ok (.invokevirtual 113, 3) := by decide +kernel
theorem d_W_law_647 : decode c_W_law 647 = .ok (.lstore 6, 2) := by decide +kernel
theorem d_W_law_649 : decode c_W_law 649 = .ok (.goto 466, 3) := by decide +kernel
theorem d_W_law_652 : decode c_W_law 652 = .ok (.aload_n 1, 1) := by decide +kernel
theorem d_W_law_653 : decode c_W_law 653 = .ok (.aload_n 0, 1) := by decide +kernel
theorem d_W_law_654 : decode c_W_law 654 = .ok (.iload 4, 2) := by decide +kernel
theorem d_W_law_656 : decode c_W_law 656 = .ok (.iconst 1, 1) := by decide +kernel
theorem d_W_law_657 : decode c_W_law 657 = .ok (.iadd, 1) := by decide +kernel
theorem d_W_law_658 : decode c_W_law 658 = .ok (.iaload, 1) := by decide +kernel
theorem d_W_law_659 : decode c_W_law 659 = .ok (.aload_n 0, 1) := by decide +kernel
theorem d_W_law_660 : decode c_W_law 660 = .ok (.iload 4, 2) := by decide +kernel
theorem d_W_law_662 : decode c_W_law 662 = .ok (.iconst 2, 1) := by decide +kernel
theorem d_W_law_663 : decode c_W_law 663 = .ok (.iadd, 1) := by decide +kernel
theorem d_W_law_664 : decode c_W_law 664 = .ok (.iaload, 1) := by decide +kernel
theorem d_W_law_665 : decode c_W_law 665 = .ok (.ifCond .eq 7, 3) := by decide +kernel
theorem d_W_law_668 : decode c_W_law 668 = .ok (.iconst 1, 1) := by decide +kernel
theorem d_W_law_669 : decode c_W_law 669 = .ok (.goto 4, 3) := by decide +kernel
theorem d_W_law_672 : decode c_W_law 672 = .ok (.iconst 0, 1) := by decide +kernel
theorem d_W_law_673 : decode c_W_law 673 = .ok (.aload_n 3, 1) := by decide +kernel
theorem d_W_law_674 : decode c_W_law 674 = .ok (.invokestatic 114, 3) := by decide +kernel
theorem d_W_law_677 : decode c_W_law 677 = .ok (.istore 5, 2) := by decide +kernel
theorem d_W_law_679 : decode c_W_law 679 = .ok (.aload_n 2, 1) := by decide +kernel
theorem d_W_law_680 : decode c_W_law 680 = .ok (.aload_n 0, 1) := by decide +kernel
theorem d_W_law_681 : decode c_W_law 681 = .ok (.iload 4, 2) := by decide +kernel
theorem d_W_law_683 : decode c_W_law 683 = .ok (.iconst 1, 1) := by decide +kernel
theorem d_W_law_684 : decode c_W_law 684 = .ok (.iadd, 1) := by decide +kernel
theorem d_W_law_685 : decode c_W_law 685 = .ok (.iaload, 1) := by decide +kernel
theorem d_W_law_686 : decode c_W_law 686 = .ok (.aload_n 0, 1) := by decide +kernel
theorem d_W_law_687 : decode c_W_law 687 = .ok (.iload 4, 2) := by decide +kernel
theorem d_W_law_689 : decode c_W_law 689 = .ok (.iconst 2, 1) := by decide +kernel
theorem d_W_law_690 : decode c_W_law 690 = .ok (.iadd, 1) := by decide +kernel
theorem d_W_law_691 : decode c_W_law 691 = .ok (.iaload, 1) := by decide +kernel
theorem d_W_law_692 : decode c_W_law 692 = .ok (.ifCond .eq 7, 3) := by decide +kernel
theorem d_W_law_695 : decode c_W_law 695 = .ok (.iconst 1, 1) := by decide +kernel
theorem d_W_law_696 : decode c_W_law 696 = .ok (.goto 4, 3) := by decide +kernel
theorem d_W_law_699 : decode c_W_law 699 = .ok (.iconst 0, 1) := by decide +kernel
theorem d_W_law_700 : decode c_W_law 700 = .ok (.invokevirtual 117, 3) := by decide +kernel
theorem d_W_law_703 : decode c_W_law 703 = .ok (.istore 6, 2) := by decide +kernel
theorem d_W_law_705 : decode c_W_law 705 = .ok (.goto 410, 3) := by decide +kernel
theorem d_W_law_708 : decode c_W_law 708 = .ok (.aload_n 1, 1) := by decide +kernel
theorem d_W_law_709 : decode c_W_law 709 = .ok (.aload_n 0, 1) := by decide +kernel
theorem d_W_law_710 : decode c_W_law 710 = .ok (.iload 4, 2) := by decide +kernel
theorem d_W_law_712 : decode c_W_law 712 = .ok (.iconst 1, 1) := by decide +kernel
theorem d_W_law_713 : decode c_W_law 713 = .ok (.iadd, 1) := by decide +kernel
theorem d_W_law_714 : decode c_W_law 714 = .ok (.iaload, 1) := by decide +kernel
theorem d_W_law_715 : decode c_W_law 715 = .ok (.aload_n 0, 1) := by decide +kernel
theorem d_W_law_716 : decode c_W_law 716 = .ok (.iload 4, 2) := by decide +kernel
theorem d_W_law_718 : decode c_W_law 718 = .ok (.iconst 2, 1) := by decide +kernel
theorem d_W_law_719 : decode c_W_law 719 = .ok (.iadd, 1) := by decide +kernel
theorem d_W_law_720 : decode c_W_law 720 = .ok (.iaload, 1) := by decide +kernel
theorem d_W_law_721 : decode c_W_law 721 = .ok (.aload_n 0, 1) := by decide +kernel
theorem d_W_law_722 : decode c_W_law 722 = .ok (.iload 4, 2) := by decide +kernel
theorem d_W_law_724 : decode c_W_law 724 = .ok (.iconst 3, 1) := by decide +kernel
theorem d_W_law_725 : decode c_W_law 725 = .ok (.iadd, 1) := by decide +kernel
theorem d_W_law_726 : decode c_W_law 726 = .ok (.iaload, 1) := by decide +kernel
theorem d_W_law_727 : decode c_W_law 727 = .ok (.ifCond .eq 7, 3) := by decide +kernel
theorem d_W_law_730 : decode c_W_law 730 = .ok (.iconst 1, 1) := by decide +kernel
theorem d_W_law_731 : decode c_W_law 731 = .ok (.goto 4, 3) := by decide +kernel
theorem d_W_law_734 : decode c_W_law 734 = .ok (.iconst 0, 1) := by decide +kernel
theorem d_W_law_735 : decode c_W_law 735 = .ok (.aload_n 3, 1) := by decide +kernel
theorem d_W_law_736 : decode c_W_law 736 = .ok (.invokestatic 118, 3) := by decide +kernel
theorem d_W_law_739 : decode c_W_law 739 = .ok (.istore 5, 2) := by decide +kernel
theorem d_W_law_741 : decode c_W_law 741 = .ok (.aload_n 2, 1) := by decide +kernel
theorem d_W_law_742 : decode c_W_law 742 = .ok (.aload_n 0, 1) := by decide +kernel
theorem d_W_law_743 : decode c_W_law 743 = .ok (.iload 4, 2) := by decide +kernel
theorem d_W_law_745 : decode c_W_law 745 = .ok (.iconst 1, 1) := by decide +kernel
theorem d_W_law_746 : decode c_W_law 746 = .ok (.iadd, 1) := by decide +kernel
theorem d_W_law_747 : decode c_W_law 747 = .ok (.iaload, 1) := by decide +kernel
theorem d_W_law_748 : decode c_W_law 748 = .ok (.aload_n 0, 1) := by decide +kernel
theorem d_W_law_749 : decode c_W_law 749 = .ok (.iload 4, 2) := by decide +kernel
theorem d_W_law_751 : decode c_W_law 751 = .ok (.iconst 2, 1) := by decide +kernel
theorem d_W_law_752 : decode c_W_law 752 = .ok (.iadd, 1) := by decide +kernel
theorem d_W_law_753 : decode c_W_law 753 = .ok (.iaload, 1) := by decide +kernel
theorem d_W_law_754 : decode c_W_law 754 = .ok (.aload_n 0, 1) := by decide +kernel
theorem d_W_law_755 : decode c_W_law 755 = .ok (.iload 4, 2) := by decide +kernel
theorem d_W_law_757 : decode c_W_law 757 = .ok (.iconst 3, 1) := by decide +kernel
theorem d_W_law_758 : decode c_W_law 758 = .ok (.iadd, 1) := by decide +kernel
theorem d_W_law_759 : decode c_W_law 759 = .ok (.iaload, 1) := by decide +kernel
theorem d_W_law_760 : decode c_W_law 760 = .ok (.ifCond .eq 7, 3) := by decide +kernel
theorem d_W_law_763 : decode c_W_law 763 = .ok (.iconst 1, 1) := by decide +kernel
theorem d_W_law_764 : decode c_W_law 764 = .ok (.goto 4, 3) := by decide +kernel
theorem d_W_law_767 : decode c_W_law 767 = .ok (.iconst 0, 1) := by decide +kernel
theorem d_W_law_768 : decode c_W_law 768 = .ok (.invokevirtual 121, 3) := by decide +kernel
theorem d_W_law_771 : decode c_W_law 771 = .ok (.istore 6, 2) := by decide +kernel
theorem d_W_law_773 : decode c_W_law 773 = .ok (.goto 342, 3) := by decide +kernel
theorem d_W_law_776 : decode c_W_law 776 = .ok (.aload_n 1, 1) := by decide +kernel
theorem d_W_law_777 : decode c_W_law 777 = .ok (.aload_n 0, 1) := by decide +kernel
theorem d_W_law_778 : decode c_W_law 778 = .ok (.iload 4, 2) := by decide +kernel
theorem d_W_law_780 : decode c_W_law 780 = .ok (.iconst 1, 1) := by decide +kernel
theorem d_W_law_781 : decode c_W_law 781 = .ok (.iadd, 1) := by decide +kernel
theorem d_W_law_782 : decode c_W_law 782 = .ok (.iaload, 1) := by decide +kernel
theorem d_W_law_783 : decode c_W_law 783 = .ok (.aload_n 0, 1) := by decide +kernel
theorem d_W_law_784 : decode c_W_law 784 = .ok (.iload 4, 2) := by decide +kernel
theorem d_W_law_786 : decode c_W_law 786 = .ok (.iconst 2, 1) := by decide +kernel
theorem d_W_law_787 : decode c_W_law 787 = .ok (.iadd, 1) := by decide +kernel
theorem d_W_law_788 : decode c_W_law 788 = .ok (.iaload, 1) := by decide +kernel
theorem d_W_law_789 : decode c_W_law 789 = .ok (.aload_n 0, 1) := by decide +kernel
theorem d_W_law_790 : decode c_W_law 790 = .ok (.iload 4, 2) := by decide +kernel
theorem d_W_law_792 : decode c_W_law 792 = .ok (.iconst 3, 1) := by decide +kernel
theorem d_W_law_793 : decode c_W_law 793 = .ok (.iadd, 1) := by decide +kernel
theorem d_W_law_794 : decode c_W_law 794 = .ok (.iaload, 1) := by decide +kernel
theorem d_W_law_795 : decode c_W_law 795 = .ok (.aload_n 0, 1) := by decide +kernel
theorem d_W_law_796 : decode c_W_law 796 = .ok (.iload 4, 2) := by decide +kernel
theorem d_W_law_798 : decode c_W_law 798 = .ok (.iconst 4, 1) := by decide +kernel
theorem d_W_law_799 : decode c_W_law 799 = .ok (.iadd, 1) := by decide +kernel
theorem d_W_law_800 : decode c_W_law 800 = .ok (.iaload, 1) := by decide +kernel
theorem d_W_law_801 : decode c_W_law 801 = .ok (.aload_n 3, 1) := by decide +kernel
theorem d_W_law_802 : decode c_W_law 802 = .ok (.invokestatic 122, 3) := by decide +kernel
theorem d_W_law_805 : decode c_W_law 805 = .ok (.istore 5, 2) := by decide +kernel
theorem d_W_law_807 : decode c_W_law 807 = .ok (.aload_n 2, 1) := by decide +kernel
theorem d_W_law_808 : decode c_W_law 808 = .ok (.aload_n 0, 1) := by decide +kernel
theorem d_W_law_809 : decode c_W_law 809 = .ok (.iload 4, 2) := by decide +kernel
theorem d_W_law_811 : decode c_W_law 811 = .ok (.iconst 1, 1) := by decide +kernel
theorem d_W_law_812 : decode c_W_law 812 = .ok (.iadd, 1) := by decide +kernel
theorem d_W_law_813 : decode c_W_law 813 = .ok (.iaload, 1) := by decide +kernel
theorem d_W_law_814 : decode c_W_law 814 = .ok (.aload_n 0, 1) := by decide +kernel
theorem d_W_law_815 : decode c_W_law 815 = .ok (.iload 4, 2) := by decide +kernel
theorem d_W_law_817 : decode c_W_law 817 = .ok (.iconst 2, 1) := by decide +kernel
theorem d_W_law_818 : decode c_W_law 818 = .ok (.iadd, 1) := by decide +kernel
theorem d_W_law_819 : decode c_W_law 819 = .ok (.iaload, 1) := by decide +kernel
theorem d_W_law_820 : decode c_W_law 820 = .ok (.aload_n 0, 1) := by decide +kernel
theorem d_W_law_821 : decode c_W_law 821 = .ok (.iload 4, 2) := by decide +kernel
theorem d_W_law_823 : decode c_W_law 823 = .ok (.iconst 3, 1) := by decide +kernel
theorem d_W_law_824 : decode c_W_law 824 = .ok (.iadd, 1) := by decide +kernel
theorem d_W_law_825 : decode c_W_law 825 = .ok (.iaload, 1) := by decide +kernel
theorem d_W_law_826 : decode c_W_law 826 = .ok (.aload_n 0, 1) := by decide +kernel
theorem d_W_law_827 : decode c_W_law 827 = .ok (.iload 4, 2) := by decide +kernel
theorem d_W_law_829 : decode c_W_law 829 = .ok (.iconst 4, 1) := by decide +kernel
theorem d_W_law_830 : decode c_W_law 830 = .ok (.iadd, 1) := by decide +kernel
theorem d_W_law_831 : decode c_W_law 831 = .ok (.iaload, 1) := by decide +kernel
theorem d_W_law_832 : decode c_W_law 832 = .ok (.invokevirtual 124, 3) := by decide +kernel
theorem d_W_law_835 : decode c_W_law 835 = .ok (.lstore 6, 2) := by decide +kernel
theorem d_W_law_837 : decode c_W_law 837 = .ok (.aload_n 2, 1) := by decide +kernel
theorem d_W_law_838 : decode c_W_law 838 = .ok (.invokevirtual 125, 3) := by decide +kernel
theorem d_W_law_841 : decode c_W_law 841 = .ok (.iload 5, 2) := by decide +kernel
theorem d_W_law_843 : decode c_W_law 843 = .ok (.if_icmp .eq 5, 3) := by decide +kernel
theorem d_W_law_846 : decode c_W_law 846 = .ok (.iconst 0, 1) := by decide +kernel
theorem d_W_law_847 : decode c_W_law 847 = .ok (.ireturn, 1) := by decide +kernel
theorem d_W_law_848 : decode c_W_law 848 = .ok (.iload 5, 2) := by decide +kernel
theorem d_W_law_850 : decode c_W_law 850 = .ok (.ifCond .ne 14, 3) := by decide +kernel
theorem d_W_law_853 : decode c_W_law 853 = .ok (.aload_n 3, 1) := by decide +kernel
theorem d_W_law_854 : decode c_W_law 854 = .ok (.iconst 0, 1) := by decide +kernel
theorem d_W_law_855 : decode c_W_law 855 = .ok (.laload, 1) := by decide +kernel
theorem d_W_law_856 : decode c_W_law 856 = .ok (.lload 6, 2) := by decide +kernel
theorem d_W_law_858 : decode c_W_law 858 = .ok (.lcmp, 1) := by decide +kernel
theorem d_W_law_859 : decode c_W_law 859 = .ok (.ifCond .eq 5, 3) := by decide +kernel
theorem d_W_law_862 : decode c_W_law 862 = .ok (.iconst 0, 1) := by decide +kernel
theorem d_W_law_863 : decode c_W_law 863 = .ok (.ireturn, 1) := by decide +kernel
theorem d_W_law_864 : decode c_W_law 864 = .ok (.goto 251, 3) := by decide +kernel
theorem d_W_law_867 : decode c_W_law 867 = .ok (.aload_n 1, 1) := by decide +kernel
theorem d_W_law_868 : decode c_W_law 868 = .ok (.aload_n 0, 1) := by decide +kernel
theorem d_W_law_869 : decode c_W_law 869 = .ok (.iload 4, 2) := by decide +kernel
theorem d_W_law_871 : decode c_W_law 871 = .ok (.iconst 1, 1) := by decide +kernel
theorem d_W_law_872 : decode c_W_law 872 = .ok (.iadd, 1) := by decide +kernel
theorem d_W_law_873 : decode c_W_law 873 = .ok (.iaload, 1) := by decide +kernel
theorem d_W_law_874 : decode c_W_law 874 = .ok (.aload_n 3, 1) := by decide +kernel
theorem d_W_law_875 : decode c_W_law 875 = .ok (.invokestatic 129, 3) := by decide +kernel
theorem d_W_law_878 : decode c_W_law 878 = .ok (.istore 5, 2) := by decide +kernel
theorem d_W_law_880 : decode c_W_law 880 = .ok (.aload_n 2, 1) := by decide +kernel
theorem d_W_law_881 : decode c_W_law 881 = .ok (.aload_n 0, 1) := by decide +kernel
theorem d_W_law_882 : decode c_W_law 882 = .ok (.iload 4, 2) := by decide +kernel
theorem d_W_law_884 : decode c_W_law 884 = .ok (.iconst 1, 1) := by decide +kernel
theorem d_W_law_885 : decode c_W_law 885 = .ok (.iadd, 1) := by decide +kernel
theorem d_W_law_886 : decode c_W_law 886 = .ok (.iaload, 1) := by decide +kernel
theorem d_W_law_887 : decode c_W_law 887 = .ok (.invokevirtual 131, 3) := by decide +kernel
theorem d_W_law_890 : decode c_W_law 890 = .ok (.istore 6, 2) := by decide +kernel
theorem d_W_law_892 : decode c_W_law 892 = .ok (.goto 223, 3) := by decide +kernel
theorem d_W_law_895 : decode c_W_law 895 = .ok (.aload_n 1, 1) := by decide +kernel
theorem d_W_law_896 : decode c_W_law 896 = .ok (.aload_n 0, 1) := by decide +kernel
theorem d_W_law_897 : decode c_W_law 897 = .ok (.iload 4, 2) := by decide +kernel
theorem d_W_law_899 : decode c_W_law 899 = .ok (.iconst 1, 1) := by decide +kernel
theorem d_W_law_900 : decode c_W_law 900 = .ok (.iadd, 1) := by decide +kernel
theorem d_W_law_901 : decode c_W_law 901 = .ok (.iaload, 1) := by decide +kernel
theorem d_W_law_902 : decode c_W_law 902 = .ok (.aload_n 0, 1) := by decide +kernel
theorem d_W_law_903 : decode c_W_law 903 = .ok (.iload 4, 2) := by decide +kernel
theorem d_W_law_905 : decode c_W_law 905 = .ok (.iconst 2, 1) := by decide +kernel
theorem d_W_law_906 : decode c_W_law 906 = .ok (.iadd, 1) := by decide +kernel
theorem d_W_law_907 : decode c_W_law 907 = .ok (.iaload, 1) := by decide +kernel
theorem d_W_law_908 : decode c_W_law 908 = .ok (.aload_n 0, 1) := by decide +kernel
theorem d_W_law_909 : decode c_W_law 909 = .ok (.iload 4, 2) := by decide +kernel
theorem d_W_law_911 : decode c_W_law 911 = .ok (.iconst 3, 1) := by decide +kernel
theorem d_W_law_912 : decode c_W_law 912 = .ok (.iadd, 1) := by decide +kernel
theorem d_W_law_913 : decode c_W_law 913 = .ok (.iaload, 1) := by decide +kernel
theorem d_W_law_914 : decode c_W_law 914 = .ok (.i2l, 1) := by decide +kernel
theorem d_W_law_915 : decode c_W_law 915 = .ok (.bipush 32, 2) := by decide +kernel
theorem d_W_law_917 : decode c_W_law 917 = .ok (.lshl, 1) := by decide +kernel
theorem d_W_law_918 : decode c_W_law 918 = .ok (.aload_n 0, 1) := by decide +kernel
theorem d_W_law_919 : decode c_W_law 919 = .ok (.iload 4, 2) := by decide +kernel
theorem d_W_law_921 : decode c_W_law 921 = .ok (.iconst 4, 1) := by decide +kernel
theorem d_W_law_922 : decode c_W_law 922 = .ok (.iadd, 1) := by decide +kernel
theorem d_W_law_923 : decode c_W_law 923 = .ok (.iaload, 1) := by decide +kernel
theorem d_W_law_924 : decode c_W_law 924 = .ok (.i2l, 1) := by decide +kernel
theorem d_W_law_925 : decode c_W_law 925 = .ok (.ldc2_w 81, 3) := by decide +kernel
theorem d_W_law_928 : decode c_W_law 928 = .ok (.land, 1) := by decide +kernel
theorem d_W_law_929 : decode c_W_law 929 = .ok (.lor, 1) := by decide +kernel
theorem d_W_law_930 : decode c_W_law 930 = .ok (.aload_n 3, 1) := by decide +kernel
theorem d_W_law_931 : decode c_W_law 931 = .ok (.invokestatic 132, 3) := by decide +kernel
theorem d_W_law_934 : decode c_W_law 934 = .ok (.istore 5, 2) := by decide +kernel
theorem d_W_law_936 : decode c_W_law 936 = .ok (.aload_n 2, 1) := by decide +kernel
theorem d_W_law_937 : decode c_W_law 937 = .ok (.aload_n 0, 1) := by decide +kernel
theorem d_W_law_938 : decode c_W_law 938 = .ok (.iload 4, 2) := by decide +kernel
theorem d_W_law_940 : decode c_W_law 940 = .ok (.iconst 1, 1) := by decide +kernel
theorem d_W_law_941 : decode c_W_law 941 = .ok (.iadd, 1) := by decide +kernel
theorem d_W_law_942 : decode c_W_law 942 = .ok (.iaload, 1) := by decide +kernel
theorem d_W_law_943 : decode c_W_law 943 = .ok (.aload_n 0, 1) := by decide +kernel
theorem d_W_law_944 : decode c_W_law 944 = .ok (.iload 4, 2) := by decide +kernel
theorem d_W_law_946 : decode c_W_law 946 = .ok (.iconst 2, 1) := by decide +kernel
theorem d_W_law_947 : decode c_W_law 947 = .ok (.iadd, 1) := by decide +kernel
theorem d_W_law_948 : decode c_W_law 948 = .ok (.iaload, 1) := by decide +kernel
theorem d_W_law_949 : decode c_W_law 949 = .ok (.aload_n 0, 1) := by decide +kernel
theorem d_W_law_950 : decode c_W_law 950 = .ok (.iload 4, 2) := by decide +kernel
theorem d_W_law_952 : decode c_W_law 952 = .ok (.iconst 3, 1) := by decide +kernel
theorem d_W_law_953 : decode c_W_law 953 = .ok (.iadd, 1) := by decide +kernel
theorem d_W_law_954 : decode c_W_law 954 = .ok (.iaload, 1) := by decide +kernel
theorem d_W_law_955 : decode c_W_law 955 = .ok (.i2l, 1) := by decide +kernel
theorem d_W_law_956 : decode c_W_law 956 = .ok (.bipush 32, 2) := by decide +kernel
theorem d_W_law_958 : decode c_W_law 958 = .ok (.lshl, 1) := by decide +kernel
theorem d_W_law_959 : decode c_W_law 959 = .ok (.aload_n 0, 1) := by decide +kernel
theorem d_W_law_960 : decode c_W_law 960 = .ok (.iload 4, 2) := by decide +kernel
theorem d_W_law_962 : decode c_W_law 962 = .ok (.iconst 4, 1) := by decide +kernel
theorem d_W_law_963 : decode c_W_law 963 = .ok (.iadd, 1) := by decide +kernel
theorem d_W_law_964 : decode c_W_law 964 = .ok (.iaload, 1) := by decide +kernel
theorem d_W_law_965 : decode c_W_law 965 = .ok (.i2l, 1) := by decide +kernel
theorem d_W_law_966 : decode c_W_law 966 = .ok (.ldc2_w 81, 3) := by decide +kernel
theorem d_W_law_969 : decode c_W_law 969 = .ok (.land, 1) := by decide +kernel
theorem d_W_law_970 : decode c_W_law 970 = .ok (.lor, 1) := by decide +kernel
theorem d_W_law_971 : decode c_W_law 971 = .ok (.invokevirtual 135, 3) := by decide +kernel
theorem d_W_law_974 : decode c_W_law 974 = .ok (.istore 6, 2) := by decide +kernel
theorem d_W_law_976 : decode c_W_law 976 = .ok (.goto 139, 3) := by decide +kernel
theorem d_W_law_979 : decode c_W_law 979 = .ok (.aload_n 1, 1) := by decide +kernel
theorem d_W_law_980 : decode c_W_law 980 = .ok (.aload_n 0, 1) := by decide +kernel
theorem d_W_law_981 : decode c_W_law 981 = .ok (.iload 4, 2) := by decide +kernel
theorem d_W_law_983 : decode c_W_law 983 = .ok (.iconst 1, 1) := by decide +kernel
theorem d_W_law_984 : decode c_W_law 984 = .ok (.iadd, 1) := by decide +kernel
theorem d_W_law_985 : decode c_W_law 985 = .ok (.iaload, 1) := by decide +kernel
theorem d_W_law_986 : decode c_W_law 986 = .ok (.aload_n 3, 1) := by decide +kernel
theorem d_W_law_987 : decode c_W_law 987 = .ok (.invokestatic 136, 3) := by decide +kernel
theorem d_W_law_990 : decode c_W_law 990 = .ok (.istore 5, 2) := by decide +kernel
theorem d_W_law_992 : decode c_W_law 992 = .ok (.aload_n 2, 1) := by decide +kernel
theorem d_W_law_993 : decode c_W_law 993 = .ok (.aload_n 0, 1) := by decide +kernel
theorem d_W_law_994 : decode c_W_law 994 = .ok (.iload 4, 2) := by decide +kernel
theorem d_W_law_996 : decode c_W_law 996 = .ok (.iconst 1, 1) := by decide +kernel
theorem d_W_law_997 : decode c_W_law 997 = .ok (.iadd, 1) := by decide +kernel
theorem d_W_law_998 : decode c_W_law 998 = .ok (.iaload, 1) := by decide +kernel
theorem d_W_law_999 : decode c_W_law 999 = .ok (.invokevirtual 138, 3) := by decide +kernel
theorem d_W_law_1002 : decode c_W_law 1002 = .ok (.istore 6, 2) := by decide +kernel
theorem d_W_law_1004 : decode c_W_law 1004 = .ok (.goto 111, 3) := by decide +kernel
theorem d_W_law_1007 : decode c_W_law 1007 = .ok (.aload_n 1, 1) := by decide +kernel
theorem d_W_law_1008 : decode c_W_law 1008 = .ok (.aload_n 0, 1) := by decide +kernel
theorem d_W_law_1009 : decode c_W_law 1009 = .ok (.iload 4, 2) := by decide +kernel
theorem d_W_law_1011 : decode c_W_law 1011 = .ok (.iconst 1, 1) := by decide +kernel
theorem d_W_law_1012 : decode c_W_law 1012 = .ok (.iadd, 1) := by decide +kernel
theorem d_W_law_1013 : decode c_W_law 1013 = .ok (.iaload, 1) := by decide +kernel
theorem d_W_law_1014 : decode c_W_law 1014 = .ok (.aload_n 0, 1) := by decide +kernel
theorem d_W_law_1015 : decode c_W_law 1015 = .ok (.iload 4, 2) := by decide +kernel
theorem d_W_law_1017 : decode c_W_law 1017 = .ok (.iconst 2, 1) := by decide +kernel
theorem d_W_law_1018 : decode c_W_law 1018 = .ok (.iadd, 1) := by decide +kernel
theorem d_W_law_1019 : decode c_W_law 1019 = .ok (.iaload, 1) := by decide +kernel
theorem d_W_law_1020 : decode c_W_law 1020 = .ok (.aload_n 3, 1) := by decide +kernel
theorem d_W_law_1021 : decode c_W_law 1021 = .ok (.invokestatic 139, 3) := by decide +kernel
theorem d_W_law_1024 : decode c_W_law 1024 = .ok (.istore 5, 2) := by decide +kernel
theorem d_W_law_1026 : decode c_W_law 1026 = .ok (.aload_n 2, 1) := by decide +kernel
theorem d_W_law_1027 : decode c_W_law 1027 = .ok (.aload_n 0, 1) := by decide +kernel
theorem d_W_law_1028 : decode c_W_law 1028 = .ok (.iload 4, 2) := by decide +kernel
theorem d_W_law_1030 : decode c_W_law 1030 = .ok (.iconst 1, 1) := by decide +kernel
theorem d_W_law_1031 : decode c_W_law 1031 = .ok (.iadd, 1) := by decide +kernel
theorem d_W_law_1032 : decode c_W_law 1032 = .ok (.iaload, 1) := by decide +kernel
theorem d_W_law_1033 : decode c_W_law 1033 = .ok (.aload_n 0, 1) := by decide +kernel
theorem d_W_law_1034 : decode c_W_law 1034 = .ok (.iload 4, 2) := by decide +kernel
theorem d_W_law_1036 : decode c_W_law 1036 = .ok (.iconst 2, 1) := by decide +kernel
theorem d_W_law_1037 : decode c_W_law 1037 = .ok (.iadd, 1) := by decide +kernel
theorem d_W_law_1038 : decode c_W_law 1038 = .ok (.iaload, 1) := by decide +kernel
theorem d_W_law_1039 : decode c_W_law 1039 = .ok (.invokevirtual 141, 3) := by decide +kernel
theorem d_W_law_1042 : decode c_W_law 1042 = .ok (.lstore 6, 2) := by decide +kernel
theorem d_W_law_1044 : decode c_W_law 1044 = .ok (.goto 71, 3) := by decide +kernel
theorem d_W_law_1047 : decode c_W_law 1047 = .ok (.aload_n 1, 1) := by decide +kernel
theorem d_W_law_1048 : decode c_W_law 1048 = .ok (.aload_n 0, 1) := by decide +kernel
theorem d_W_law_1049 : decode c_W_law 1049 = .ok (.iload 4, 2) := by decide +kernel
theorem d_W_law_1051 : decode c_W_law 1051 = .ok (.iconst 1, 1) := by decide +kernel
theorem d_W_law_1052 : decode c_W_law 1052 = .ok (.iadd, 1) := by decide +kernel
theorem d_W_law_1053 : decode c_W_law 1053 = .ok (.iaload, 1) := by decide +kernel
theorem d_W_law_1054 : decode c_W_law 1054 = .ok (.aload_n 3, 1) := by decide +kernel
theorem d_W_law_1055 : decode c_W_law 1055 = .ok (.invokestatic 142, 3) := by decide +kernel
theorem d_W_law_1058 : decode c_W_law 1058 = .ok (.istore 5, 2) := by decide +kernel
theorem d_W_law_1060 : decode c_W_law 1060 = .ok (.aload_n 2, 1) := by decide +kernel
theorem d_W_law_1061 : decode c_W_law 1061 = .ok (.aload_n 0, 1) := by decide +kernel
theorem d_W_law_1062 : decode c_W_law 1062 = .ok (.iload 4, 2) := by decide +kernel
theorem d_W_law_1064 : decode c_W_law 1064 = .ok (.iconst 1, 1) := by decide +kernel
theorem d_W_law_1065 : decode c_W_law 1065 = .ok (.iadd, 1) := by decide +kernel
theorem d_W_law_1066 : decode c_W_law 1066 = .ok (.iaload, 1) := by decide +kernel
theorem d_W_law_1067 : decode c_W_law 1067 = .ok (.invokevirtual 144, 3) := by decide +kernel
theorem d_W_law_1070 : decode c_W_law 1070 = .ok (.istore 6, 2) := by decide +kernel
theorem d_W_law_1072 : decode c_W_law 1072 = .ok (.goto 43, 3) := by decide +kernel
theorem d_W_law_1075 : decode c_W_law 1075 = .ok (.aload_n 1, 1) := by decide +kernel
theorem d_W_law_1076 : decode c_W_law 1076 = .ok (.aload_n 0, 1) := by decide +kernel
theorem d_W_law_1077 : decode c_W_law 1077 = .ok (.iload 4, 2) := by decide +kernel
theorem d_W_law_1079 : decode c_W_law 1079 = .ok (.iconst 1, 1) := by decide +kernel
theorem d_W_law_1080 : decode c_W_law 1080 = .ok (.iadd, 1) := by decide +kernel
theorem d_W_law_1081 : decode c_W_law 1081 = .ok (.iaload, 1) := by decide +kernel
theorem d_W_law_1082 : decode c_W_law 1082 = .ok (.aload_n 0, 1) := by decide +kernel
theorem d_W_law_1083 : decode c_W_law 1083 = .ok (.iload 4, 2) := by decide +kernel
theorem d_W_law_1085 : decode c_W_law 1085 = .ok (.iconst 2, 1) := by decide +kernel
theorem d_W_law_1086 : decode c_W_law 1086 = .ok (.iadd, 1) := by decide +kernel
theorem d_W_law_1087 : decode c_W_law 1087 = .ok (.iaload, 1) := by decide +kernel
theorem d_W_law_1088 : decode c_W_law 1088 = .ok (.aload_n 3, 1) := by decide +kernel
theorem d_W_law_1089 : decode c_W_law 1089 = .ok (.invokestatic 145, 3) := by decide +kernel
theorem d_W_law_1092 : decode c_W_law 1092 = .ok (.istore 5, 2) := by decide +kernel
theorem d_W_law_1094 : decode c_W_law 1094 = .ok (.aload_n 2, 1) := by decide +kernel
theorem d_W_law_1095 : decode c_W_law 1095 = .ok (.aload_n 0, 1) := by decide +kernel
theorem d_W_law_1096 : decode c_W_law 1096 = .ok (.iload 4, 2) := by decide +kernel
theorem d_W_law_1098 : decode c_W_law 1098 = .ok (.iconst 1, 1) := by decide +kernel
theorem d_W_law_1099 : decode c_W_law 1099 = .ok (.iadd, 1) := by decide +kernel
theorem d_W_law_1100 : decode c_W_law 1100 = .ok (.iaload, 1) := by decide +kernel
theorem d_W_law_1101 : decode c_W_law 1101 = .ok (.aload_n 0, 1) := by decide +kernel
theorem d_W_law_1102 : decode c_W_law 1102 = .ok (.iload 4, 2) := by decide +kernel
theorem d_W_law_1104 : decode c_W_law 1104 = .ok (.iconst 2, 1) := by decide +kernel
theorem d_W_law_1105 : decode c_W_law 1105 = .ok (.iadd, 1) := by decide +kernel
theorem d_W_law_1106 : decode c_W_law 1106 = .ok (.iaload, 1) := by decide +kernel
theorem d_W_law_1107 : decode c_W_law 1107 = .ok (.invokevirtual 147, 3) := by decide +kernel
theorem d_W_law_1110 : decode c_W_law 1110 = .ok (.istore 6, 2) := by decide +kernel
theorem d_W_law_1112 : decode c_W_law 1112 = .ok (.goto 3, 3) := by decide +kernel
theorem d_W_law_1115 : decode c_W_law 1115 = .ok (.iinc 4 10, 3) := by decide +kernel
theorem d_W_law_1118 : decode c_W_law 1118 = .ok (.goto (-1095), 3) := by decide +kernel
theorem d_W_law_1121 : decode c_W_law 1121 = .ok (.iconst 1, 1) := by decide +kernel
theorem d_W_law_1122 : decode c_W_law 1122 = .ok (.ireturn, 1) := by decide +kernel
