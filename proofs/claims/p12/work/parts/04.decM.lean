/-! decode rows of ShopDesksModel -/
theorem d_M_init_0 : decode c_M_init 0 = .ok (.aload_n 0, 1) := by decide +kernel
theorem d_M_init_1 : decode c_M_init 1 = .ok (.invokespecial 1, 3) := by decide +kernel
theorem d_M_init_4 : decode c_M_init 4 = .ok (.aload_n 0, 1) := by decide +kernel
theorem d_M_init_5 : decode c_M_init 5 = .ok (.sipush 300, 3) := by decide +kernel
theorem d_M_init_8 : decode c_M_init 8 = .ok (.newarray .int, 2) := by decide +kernel
theorem d_M_init_10 : decode c_M_init 10 = .ok (.putfield 7, 3) := by decide +kernel
theorem d_M_init_13 : decode c_M_init 13 = .ok (.aload_n 0, 1) := by decide +kernel
theorem d_M_init_14 : decode c_M_init 14 = .ok (.sipush 300, 3) := by decide +kernel
theorem d_M_init_17 : decode c_M_init 17 = .ok (.newarray .long, 2) := by decide +kernel
theorem d_M_init_19 : decode c_M_init 19 = .ok (.putfield 13, 3) := by decide +kernel
theorem d_M_init_22 : decode c_M_init 22 = .ok (.aload_n 0, 1) := by decide +kernel
theorem d_M_init_23 : decode c_M_init 23 = .ok (.sipush 300, 3) := by decide +kernel
theorem d_M_init_26 : decode c_M_init 26 = .ok (.newarray .int, 2) := by decide +kernel
theorem d_M_init_28 : decode c_M_init 28 = .ok (.putfield 17, 3) := by decide +kernel
theorem d_M_init_31 : decode c_M_init 31 = .ok (.aload_n 0, 1) := by decide +kernel
theorem d_M_init_32 : decode c_M_init 32 = .ok (.sipush 300, 3) := by decide +kernel
theorem d_M_init_35 : decode c_M_init 35 = .ok (.newarray .int, 2) := by decide +kernel
theorem d_M_init_37 : decode c_M_init 37 = .ok (.putfield 20, 3) := by decide +kernel
theorem d_M_init_40 : decode c_M_init 40 = .ok (.aload_n 0, 1) := by decide +kernel
theorem d_M_init_41 : decode c_M_init 41 = .ok (.sipush 300, 3) := by decide +kernel
theorem d_M_init_44 : decode c_M_init 44 = .ok (.newarray .long, 2) := by decide +kernel
theorem d_M_init_46 : decode c_M_init 46 = .ok (.putfield 23, 3) := by decide +kernel
theorem d_M_init_49 : decode c_M_init 49 = .ok (.aload_n 0, 1) := by decide +kernel
theorem d_M_init_50 : decode c_M_init 50 = .ok (.sipush 300, 3) := by decide +kernel
theorem d_M_init_53 : decode c_M_init 53 = .ok (.newarray .long, 2) := by decide +kernel
theorem d_M_init_55 : decode c_M_init 55 = .ok (.putfield 26, 3) := by decide +kernel
theorem d_M_init_58 : decode c_M_init 58 = .ok (.aload_n 0, 1) := by decide +kernel
theorem d_M_init_59 : decode c_M_init 59 = .ok (.bipush 8, 2) := by decide +kernel
theorem d_M_init_61 : decode c_M_init 61 = .ok (.newarray .int, 2) := by decide +kernel
theorem d_M_init_63 : decode c_M_init 63 = .ok (.putfield 29, 3) := by decide +kernel
theorem d_M_init_66 : decode c_M_init 66 = .ok (.aload_n 0, 1) := by decide +kernel
theorem d_M_init_67 : decode c_M_init 67 = .ok (.sipush 2400, 3) := by decide +kernel
theorem d_M_init_70 : decode c_M_init 70 = .ok (.newarray .int, 2) := by decide +kernel
theorem d_M_init_72 : decode c_M_init 72 = .ok (.putfield 32, 3) := by decide +kernel
theorem d_M_init_75 : decode c_M_init 75 = .ok (.aload_n 0, 1) := by decide +kernel
theorem d_M_init_76 : decode c_M_init 76 = .ok (.bipush 8, 2) := by decide +kernel
theorem d_M_init_78 : decode c_M_init 78 = .ok (.newarray .int, 2) := by decide +kernel
theorem d_M_init_80 : decode c_M_init 80 = .ok (.putfield 35, 3) := by decide +kernel
theorem d_M_init_83 : decode c_M_init 83 = .ok (.aload_n 0, 1) := by decide +kernel
theorem d_M_init_84 : decode c_M_init 84 = .ok (.bipush 16, 2) := by decide +kernel
theorem d_M_init_86 : decode c_M_init 86 = .ok (.newarray .boolean, 2) := by decide +kernel
theorem d_M_init_88 : decode c_M_init 88 = .ok (.putfield 38, 3) := by decide +kernel
theorem d_M_init_91 : decode c_M_init 91 = .ok (.aload_n 0, 1) := by decide +kernel
theorem d_M_init_92 : decode c_M_init 92 = .ok (.bipush 60, 2) := by decide +kernel
theorem d_M_init_94 : decode c_M_init 94 = .ok (.newarray .int, 2) := by decide +kernel
theorem d_M_init_96 : decode c_M_init 96 = .ok (.putfield 42, 3) := by decide +kernel
theorem d_M_init_99 : decode c_M_init 99 = .ok (.aload_n 0, 1) := by decide +kernel
theorem d_M_init_100 : decode c_M_init 100 = .ok (.bipush 60, 2) := by decide +kernel
theorem d_M_init_102 : decode c_M_init 102 = .ok (.newarray .int, 2) := by decide +kernel
theorem d_M_init_104 : decode c_M_init 104 = .ok (.putfield 45, 3) := by decide +kernel
theorem d_M_init_107 : decode c_M_init 107 = .ok (.aload_n 0, 1) := by decide +kernel
theorem d_M_init_108 : decode c_M_init 108 = .ok (.sipush 360, 3) := by decide +kernel
theorem d_M_init_111 : decode c_M_init 111 = .ok (.newarray .int, 2) := by decide +kernel
theorem d_M_init_113 : decode c_M_init 113 = .ok (.putfield 48, 3) := by decide +kernel
theorem d_M_init_116 : decode c_M_init 116 = .ok (.aload_n 0, 1) := by decide +kernel
theorem d_M_init_117 : decode c_M_init 117 = .ok (.sipush 360, 3) := by decide +kernel
theorem d_M_init_120 : decode c_M_init 120 = .ok (.newarray .long, 2) := by decide +kernel
theorem d_M_init_122 : decode c_M_init 122 = .ok (.putfield 51, 3) := by decide +kernel
theorem d_M_init_125 : decode c_M_init 125 = .ok (.aload_n 0, 1) := by decide +kernel
theorem d_M_init_126 : decode c_M_init 126 = .ok (.bipush 60, 2) := by decide +kernel
theorem d_M_init_128 : decode c_M_init 128 = .ok (.newarray .int, 2) := by decide +kernel
theorem d_M_init_130 : decode c_M_init 130 = .ok (.putfield 54, 3) := by decide +kernel
theorem d_M_init_133 : decode c_M_init 133 = .ok (.aload_n 0, 1) := by decide +kernel
theorem d_M_init_134 : decode c_M_init 134 = .ok (.bipush 60, 2) := by decide +kernel
theorem d_M_init_136 : decode c_M_init 136 = .ok (.newarray .boolean, 2) := by decide +kernel
theorem d_M_init_138 : decode c_M_init 138 = .ok (.putfield 57, 3) := by decide +kernel
theorem d_M_init_141 : decode c_M_init 141 = .ok (.aload_n 0, 1) := by decide +kernel
theorem d_M_init_142 : decode c_M_init 142 = .ok (.iconst (-1), 1) := by decide +kernel
theorem d_M_init_143 : decode c_M_init 143 = .ok (.putfield 60, 3) := by decide +kernel
theorem d_M_init_146 : decode c_M_init 146 = .ok (.return_, 1) := by decide +kernel
theorem d_M_thrown_0 : decode c_M_thrown 0 = .ok (.aload_n 0, 1) := by decide +kernel
theorem d_M_thrown_1 : decode c_M_thrown 1 = .ok (.getfield 64, 3) := by decide +kernel
theorem d_M_thrown_4 : decode c_M_thrown 4 = .ok (.ireturn, 1) := by decide +kernel
theorem d_M_isIn_0 : decode c_M_isIn 0 = .ok (.lload_n 0, 1) := by decide +kernel
theorem d_M_isIn_1 : decode c_M_isIn 1 = .ok (.lload_n 2, 1) := by decide +kernel
theorem d_M_isIn_2 : decode c_M_isIn 2 = .ok (.lcmp, 1) := by decide +kernel
theorem d_M_isIn_3 : decode c_M_isIn 3 = .ok (.ifCond .lt 14, 3) := by decide +kernel
theorem d_M_isIn_6 : decode c_M_isIn 6 = .ok (.lload_n 0, 1) := by decide +kernel
theorem d_M_isIn_7 : decode c_M_isIn 7 = .ok (.lload 4, 2) := by decide +kernel
theorem d_M_isIn_9 : decode c_M_isIn 9 = .ok (.lcmp, 1) := by decide +kernel
theorem d_M_isIn_10 : decode c_M_isIn 10 = .ok (.ifCond .gt 7, 3) := by decide +kernel
theorem d_M_isIn_13 : decode c_M_isIn 13 = .ok (.iconst 1, 1) := by decide +kernel
theorem d_M_isIn_14 : decode c_M_isIn 14 = .ok (.goto 4, 3) := by decide +kernel
theorem d_M_isIn_17 : decode c_M_isIn 17 = .ok (.iconst 0, 1) := by decide +kernel
theorem d_M_isIn_18 : decode c_M_isIn 18 = .ok (.ireturn, 1) := by decide +kernel
theorem d_M_isKind_0 : decode c_M_isKind 0 = .ok (.iload_n 0, 1) := by decide +kernel
theorem d_M_isKind_1 : decode c_M_isKind 1 = .ok (.ifCond .lt 12, 3) := by decide +kernel
theorem d_M_isKind_4 : decode c_M_isKind 4 = .ok (.iload_n 0, 1) := by decide +kernel
theorem d_M_isKind_5 : decode c_M_isKind 5 = .ok (.iconst 3, 1) := by decide +kernel
theorem d_M_isKind_6 : decode c_M_isKind 6 = .ok (.if_icmp .gt 7, 3) := by decide +kernel
theorem d_M_isKind_9 : decode c_M_isKind 9 = .ok (.iconst 1, 1) := by decide +kernel
theorem d_M_isKind_10 : decode c_M_isKind 10 = .ok (.goto 4, 3) := by decide +kernel
theorem d_M_isKind_13 : decode c_M_isKind 13 = .ok (.iconst 0, 1) := by decide +kernel
theorem d_M_isKind_14 : decode c_M_isKind 14 = .ok (.ireturn, 1) := by decide +kernel
theorem d_M_find_0 : decode c_M_find 0 = .ok (.iconst 0, 1) := by decide +kernel
theorem d_M_find_1 : decode c_M_find 1 = .ok (.istore 4, 2) := by decide +kernel
theorem d_M_find_3 : decode c_M_find 3 = .ok (.iload 4, 2) := by decide +kernel
theorem d_M_find_5 : decode c_M_find 5 = .ok (.aload_n 0, 1) := by decide +kernel
theorem d_M_find_6 : decode c_M_find 6 = .ok (.getfield 67, 3) := by decide +kernel
theorem d_M_find_9 : decode c_M_find 9 = .ok (.if_icmp .ge 35, 3) := by decide +kernel
theorem d_M_find_12 : decode c_M_find 12 = .ok (.aload_n 0, 1) := by decide +kernel
theorem d_M_find_13 : decode c_M_find 13 = .ok (.getfield 7, 3) := by decide +kernel
theorem d_M_find_16 : decode c_M_find 16 = .ok (.iload 4, 2) := by decide +kernel
theorem d_M_find_18 : decode c_M_find 18 = .ok (.iaload, 1) := by decide +kernel
theorem d_M_find_19 : decode c_M_find 19 = .ok (.iload_n 1, 1) := by decide +kernel
theorem d_M_find_20 : decode c_M_find 20 = .ok (.if_icmp .ne 18, 3) := by decide +kernel
theorem d_M_find_23 : decode c_M_find 23 = .ok (.aload_n 0, 1) := by decide +kernel
theorem d_M_find_24 : decode c_M_find 24 = .ok (.getfield 13, 3) := by decide +kernel
theorem d_M_find_27 : decode c_M_find 27 = .ok (.iload 4, 2) := by decide +kernel
theorem d_M_find_29 : decode c_M_find 29 = .ok (.laload, 1) := by decide +kernel
theorem d_M_find_30 : decode c_M_find 30 = .ok (.lload_n 2, 1) := by decide +kernel
theorem d_M_find_31 : decode c_M_find 31 = .ok (.lcmp, 1) := by decide +kernel
theorem d_M_find_32 : decode c_M_find 32 = .ok (.ifCond .ne 6, 3) := by decide +kernel
theorem d_M_find_35 : decode c_M_find 35 = .ok (.iload 4, 2) := by decide +kernel
theorem d_M_find_37 : decode c_M_find 37 = .ok (.ireturn, 1) := by decide +kernel
theorem d_M_find_38 : decode c_M_find 38 = .ok (.iinc 4 1, 3) := by decide +kernel
theorem d_M_find_41 : decode c_M_find 41 = .ok (.goto (-38), 3) := by decide +kernel
theorem d_M_find_44 : decode c_M_find 44 = .ok (.iconst (-1), 1) := by decide +kernel
theorem d_M_find_45 : decode c_M_find 45 = .ok (.ireturn, 1) := by decide +kernel
theorem d_M_tell_0 : decode c_M_tell 0 = .ok (.aload_n 0, 1) := by decide +kernel
theorem d_M_tell_1 : decode c_M_tell 1 = .ok (.iload_n 1, 1) := by decide +kernel
theorem d_M_tell_2 : decode c_M_tell 2 = .ok (.i2l, 1) := by decide +kernel
theorem d_M_tell_3 : decode c_M_tell 3 = .ok (.lconst 0, 1) := by decide +kernel
theorem d_M_tell_4 : decode c_M_tell 4 = .ok (.ldc2_w 70, 3) := by decide +kernel
theorem d_M_tell_7 : decode c_M_tell 7 = .ok (.invokestatic 72, 3) := by decide +kernel
theorem d_M_tell_10 : decode c_M_tell 10 = .ok (.ifCond .eq 16, 3) := by decide +kernel
theorem d_M_tell_13 : decode c_M_tell 13 = .ok (.iload 4, 2) := by decide +kernel
theorem d_M_tell_15 : decode c_M_tell 15 = .ok (.i2l, 1) := by decide +kernel
theorem d_M_tell_16 : decode c_M_tell 16 = .ok (.lconst 0, 1) := by decide +kernel
theorem d_M_tell_17 : decode c_M_tell 17 = .ok (.ldc2_w 76, 3) := by decide +kernel
theorem d_M_tell_20 : decode c_M_tell 20 = .ok (.invokestatic 72, 3) := by decide +kernel
theorem d_M_tell_23 : decode c_M_tell 23 = .ok (.ifCond .ne 7, 3) := by decide +kernel
theorem d_M_tell_26 : decode c_M_tell 26 = .ok (.iconst 1, 1) := by decide +kernel
theorem d_M_tell_27 : decode c_M_tell 27 = .ok (.goto 16, 3) := by decide +kernel
theorem d_M_tell_30 : decode c_M_tell 30 = .ok (.iload 5, 2) := by decide +kernel
theorem d_M_tell_32 : decode c_M_tell 32 = .ok (.invokestatic 78, 3) := by decide +kernel
theorem d_M_tell_35 : decode c_M_tell 35 = .ok (.ifCond .ne 7, 3) := by decide +kernel
theorem d_M_tell_38 : decode c_M_tell 38 = .ok (.iconst 2, 1) := by decide +kernel
theorem d_M_tell_39 : decode c_M_tell 39 = .ok (.goto 4, 3) := by decide +kernel
theorem d_M_tell_42 : decode c_M_tell 42 = .ok (.iconst 0, 1) := by decide +kernel
theorem d_M_tell_43 : decode c_M_tell 43 = .ok (.putfield 64, 3) := by decide +kernel
theorem d_M_tell_46 : decode c_M_tell 46 = .ok (.aload_n 0, 1) := by decide +kernel
theorem d_M_tell_47 : decode c_M_tell 47 = .ok (.getfield 64, 3) := by decide +kernel
theorem d_M_tell_50 : decode c_M_tell 50 = .ok (.ifCond .gt 12, 3) := by decide +kernel
theorem d_M_tell_53 : decode c_M_tell 53 = .ok (.aload_n 0, 1) := by decide +kernel
theorem d_M_tell_54 : decode c_M_tell 54 = .ok (.iload_n 1, 1) := by decide +kernel
theorem d_M_tell_55 : decode c_M_tell 55 = .ok (.lload_n 2, 1) := by decide +kernel
theorem d_M_tell_56 : decode c_M_tell 56 = .ok (.invokevirtual 82, 3) := by decide +kernel
theorem d_M_tell_59 : decode c_M_tell 59 = .ok (.ifCond .lt 5, 3) := by decide +kernel
theorem d_M_tell_62 : decode c_M_tell 62 = .ok (.iconst 0, 1) := by decide +kernel
theorem d_M_tell_63 : decode c_M_tell 63 = .ok (.ireturn, 1) := by decide +kernel
theorem d_M_tell_64 : decode c_M_tell 64 = .ok (.aload_n 0, 1) := by decide +kernel
theorem d_M_tell_65 : decode c_M_tell 65 = .ok (.aload_n 0, 1) := by decide +kernel
theorem d_M_tell_66 : decode c_M_tell 66 = .ok (.getfield 67, 3) := by decide +kernel
theorem d_M_tell_69 : decode c_M_tell 69 = .ok (.sipush 300, 3) := by decide +kernel
theorem d_M_tell_72 : decode c_M_tell 72 = .ok (.if_icmp .ne 7, 3) := by decide +kernel
theorem d_M_tell_75 : decode c_M_tell 75 = .ok (.iconst 3, 1) := by decide +kernel
theorem d_M_tell_76 : decode c_M_tell 76 = .ok (.goto 4, 3) := by decide +kernel
theorem d_M_tell_79 : decode c_M_tell 79 = .ok (.iconst 0, 1) := by decide +kernel
theorem d_M_tell_80 : decode c_M_tell 80 = .ok (.putfield 64, 3) := by decide +kernel
theorem d_M_tell_83 : decode c_M_tell 83 = .ok (.aload_n 0, 1) := by decide +kernel
theorem d_M_tell_84 : decode c_M_tell 84 = .ok (.getfield 64, 3) := by decide +kernel
theorem d_M_tell_87 : decode c_M_tell 87 = .ok (.ifCond .le 5, 3) := by decide +kernel
theorem d_M_tell_90 : decode c_M_tell 90 = .ok (.iconst 0, 1) := by decide +kernel
theorem d_M_tell_91 : decode c_M_tell 91 = .ok (.ireturn, 1) := by decide +kernel
theorem d_M_tell_92 : decode c_M_tell 92 = .ok (.aload_n 0, 1) := by decide +kernel
theorem d_M_tell_93 : decode c_M_tell 93 = .ok (.getfield 7, 3) := by decide +kernel
theorem d_M_tell_96 : decode c_M_tell 96 = .ok (.aload_n 0, 1) := by decide +kernel
theorem d_M_tell_97 : decode c_M_tell 97 = .ok (.getfield 67, 3) := by decide +kernel
theorem d_M_tell_100 : decode c_M_tell 100 = .ok (.iload_n 1, 1) := by decide +kernel
theorem d_M_tell_101 : decode c_M_tell 101 = .ok (.iastore, 1) := by decide +kernel
theorem d_M_tell_102 : decode c_M_tell 102 = .ok (.aload_n 0, 1) := by decide +kernel
theorem d_M_tell_103 : decode c_M_tell 103 = .ok (.getfield 13, 3) := by decide +kernel
theorem d_M_tell_106 : decode c_M_tell 106 = .ok (.aload_n 0, 1) := by decide +kernel
theorem d_M_tell_107 : decode c_M_tell 107 = .ok (.getfield 67, 3) := by decide +kernel
theorem d_M_tell_110 : decode c_M_tell 110 = .ok (.lload_n 2, 1) := by decide +kernel
theorem d_M_tell_111 : decode c_M_tell 111 = .ok (.lastore, 1) := by decide +kernel
theorem d_M_tell_112 : decode c_M_tell 112 = .ok (.aload_n 0, 1) := by decide +kernel
theorem d_M_tell_113 : decode c_M_tell 113 = .ok (.getfield 17, 3) := by decide +kernel
theorem d_M_tell_116 : decode c_M_tell 116 = .ok (.aload_n 0, 1) := by decide +kernel
theorem d_M_tell_117 : decode c_M_tell 117 = .ok (.getfield 67, 3) := by decide +kernel
theorem d_M_tell_120 : decode c_M_tell 120 = .ok (.iload 4, 2) := by decide +kernel
theorem d_M_tell_122 : decode c_M_tell 122 = .ok (.iastore, 1) := by decide +kernel
theorem d_M_tell_123 : decode c_M_tell 123 = .ok (.aload_n 0, 1) := by decide +kernel
theorem d_M_tell_124 : decode c_M_tell 124 = .ok (.getfield 20, 3) := by decide +kernel
theorem d_M_tell_127 : decode c_M_tell 127 = .ok (.aload_n 0, 1) := by decide +kernel
theorem d_M_tell_128 : decode c_M_tell 128 = .ok (.getfield 67, 3) := by decide +kernel
theorem d_M_tell_131 : decode c_M_tell 131 = .ok (.iload 5, 2) := by decide +kernel
theorem d_M_tell_133 : decode c_M_tell 133 = .ok (.iastore, 1) := by decide +kernel
theorem d_M_tell_134 : decode c_M_tell 134 = .ok (.aload_n 0, 1) := by decide +kernel
theorem d_M_tell_135 : decode c_M_tell 135 = .ok (.getfield 23, 3) := by decide +kernel
theorem d_M_tell_138 : decode c_M_tell 138 = .ok (.aload_n 0, 1) := by decide +kernel
theorem d_M_tell_139 : decode c_M_tell 139 = .ok (.getfield 67, 3) := by decide +kernel
theorem d_M_tell_142 : decode c_M_tell 142 = .ok (.lload 6, 2) := by decide +kernel
theorem d_M_tell_144 : decode c_M_tell 144 = .ok (.lastore, 1) := by decide +kernel
theorem d_M_tell_145 : decode c_M_tell 145 = .ok (.aload_n 0, 1) := by decide +kernel
theorem d_M_tell_146 : decode c_M_tell 146 = .ok (.getfield 26, 3) := by decide +kernel
theorem d_M_tell_149 : decode c_M_tell 149 = .ok (.aload_n 0, 1) := by decide +kernel
theorem d_M_tell_150 : decode c_M_tell 150 = .ok (.getfield 67, 3) := by decide +kernel
theorem d_M_tell_153 : decode c_M_tell 153 = .ok (.lload 8, 2) := by decide +kernel
theorem d_M_tell_155 : decode c_M_tell 155 = .ok (.lastore, 1) := by decide +kernel
theorem d_M_tell_156 : decode c_M_tell 156 = .ok (.aload_n 0, 1) := by decide +kernel
theorem d_M_tell_157 : decode c_M_tell 157 = .ok (.dup, 1) := by decide +kernel
theorem d_M_tell_158 : decode c_M_tell 158 = .ok (.getfield 67, 3) := by decide +kernel
theorem d_M_tell_161 : decode c_M_tell 161 = .ok (.iconst 1, 1) := by decide +kernel
theorem d_M_tell_162 : decode c_M_tell 162 = .ok (.iadd, 1) := by decide +kernel
theorem d_M_tell_163 : decode c_M_tell 163 = .ok (.putfield 67, 3) := by decide +kernel
theorem d_M_tell_166 : decode c_M_tell 166 = .ok (.iconst 1, 1) := by decide +kernel
theorem d_M_tell_167 : decode c_M_tell 167 = .ok (.ireturn, 1) := by decide +kernel
theorem d_M_has_0 : decode c_M_has 0 = .ok (.iconst 0, 1) := by decide +kernel
theorem d_M_has_1 : decode c_M_has 1 = .ok (.istore_n 3, 1) := by decide +kernel
theorem d_M_has_2 : decode c_M_has 2 = .ok (.iconst 0, 1) := by decide +kernel
theorem d_M_has_3 : decode c_M_has 3 = .ok (.istore 4, 2) := by decide +kernel
theorem d_M_has_5 : decode c_M_has 5 = .ok (.iload 4, 2) := by decide +kernel
theorem d_M_has_7 : decode c_M_has 7 = .ok (.aload_n 0, 1) := by decide +kernel
theorem d_M_has_8 : decode c_M_has 8 = .ok (.getfield 29, 3) := by decide +kernel
theorem d_M_has_11 : decode c_M_has 11 = .ok (.iload_n 1, 1) := by decide +kernel
theorem d_M_has_12 : decode c_M_has 12 = .ok (.iaload, 1) := by decide +kernel
theorem d_M_has_13 : decode c_M_has 13 = .ok (.if_icmp .ge 36, 3) := by decide +kernel
theorem d_M_has_16 : decode c_M_has 16 = .ok (.iload_n 3, 1) := by decide +kernel
theorem d_M_has_17 : decode c_M_has 17 = .ok (.ifCond .ne 20, 3) := by decide +kernel
theorem d_M_has_20 : decode c_M_has 20 = .ok (.aload_n 0, 1) := by decide +kernel
theorem d_M_has_21 : decode c_M_has 21 = .ok (.getfield 32, 3) := by decide +kernel
theorem d_M_has_24 : decode c_M_has 24 = .ok (.sipush 300, 3) := by decide +kernel
theorem d_M_has_27 : decode c_M_has 27 = .ok (.iload_n 1, 1) := by decide +kernel
theorem d_M_has_28 : decode c_M_has 28 = .ok (.imul, 1) := by decide +kernel
theorem d_M_has_29 : decode c_M_has 29 = .ok (.iload 4, 2) := by decide +kernel
theorem d_M_has_31 : decode c_M_has 31 = .ok (.iadd, 1) := by decide +kernel
theorem d_M_has_32 : decode c_M_has 32 = .ok (.iaload, 1) := by decide +kernel
theorem d_M_has_33 : decode c_M_has 33 = .ok (.iload_n 2, 1) := by decide +kernel
theorem d_M_has_34 : decode c_M_has 34 = .ok (.if_icmp .ne 7, 3) := by decide +kernel
theorem d_M_has_37 : decode c_M_has 37 = .ok (.iconst 1, 1) := by decide +kernel
theorem d_M_has_38 : decode c_M_has 38 = .ok (.goto 4, 3) := by decide +kernel
theorem d_M_has_41 : decode c_M_has 41 = .ok (.iconst 0, 1) := by decide +kernel
theorem d_M_has_42 : decode c_M_has 42 = .ok (.istore_n 3, 1) := by decide +kernel
theorem d_M_has_43 : decode c_M_has 43 = .ok (.iinc 4 1, 3) := by decide +kernel
theorem d_M_has_46 : decode c_M_has 46 = .ok (.goto (-41), 3) := by decide +kernel
theorem d_M_has_49 : decode c_M_has 49 = .ok (.iload_n 3, 1) := by decide +kernel
theorem d_M_has_50 : decode c_M_has 50 = .ok (.ireturn, 1) := by decide +kernel
theorem d_M_add_0 : decode c_M_add 0 = .ok (.aload_n 0, 1) := by decide +kernel
theorem d_M_add_1 : decode c_M_add 1 = .ok (.getfield 32, 3) := by decide +kernel
theorem d_M_add_4 : decode c_M_add 4 = .ok (.sipush 300, 3) := by decide +kernel
theorem d_M_add_7 : decode c_M_add 7 = .ok (.iload_n 1, 1) := by decide +kernel
theorem d_M_add_8 : decode c_M_add 8 = .ok (.imul, 1) := by decide +kernel
theorem d_M_add_9 : decode c_M_add 9 = .ok (.aload_n 0, 1) := by decide +kernel
theorem d_M_add_10 : decode c_M_add 10 = .ok (.getfield 29, 3) := by decide +kernel
theorem d_M_add_13 : decode c_M_add 13 = .ok (.iload_n 1, 1) := by decide +kernel
theorem d_M_add_14 : decode c_M_add 14 = .ok (.iaload, 1) := by decide +kernel
theorem d_M_add_15 : decode c_M_add 15 = .ok (.iadd, 1) := by decide +kernel
theorem d_M_add_16 : decode c_M_add 16 = .ok (.iload_n 2, 1) := by decide +kernel
theorem d_M_add_17 : decode c_M_add 17 = .ok (.iastore, 1) := by decide +kernel
theorem d_M_add_18 : decode c_M_add 18 = .ok (.aload_n 0, 1) := by decide +kernel
theorem d_M_add_19 : decode c_M_add 19 = .ok (.getfield 29, 3) := by decide +kernel
theorem d_M_add_22 : decode c_M_add 22 = .ok (.iload_n 1, 1) := by decide +kernel
theorem d_M_add_23 : decode c_M_add 23 = .ok (.dup2, 1) := by decide +kernel
theorem d_M_add_24 : decode c_M_add 24 = .ok (.iaload, 1) := by decide +kernel
theorem d_M_add_25 : decode c_M_add 25 = .ok (.iconst 1, 1) := by decide +kernel
theorem d_M_add_26 : decode c_M_add 26 = .ok (.iadd, 1) := by decide +kernel
theorem d_M_add_27 : decode c_M_add 27 = .ok (.iastore, 1) := by decide +kernel
theorem d_M_add_28 : decode c_M_add 28 = .ok (.return_, 1) := by decide +kernel
theorem d_M_set_0 : decode c_M_set 0 = .ok (.aload_n 0, 1) := by decide +kernel
theorem d_M_set_1 : decode c_M_set 1 = .ok (.iload_n 1, 1) := by decide +kernel
theorem d_M_set_2 : decode c_M_set 2 = .ok (.i2l, 1) := by decide +kernel
theorem d_M_set_3 : decode c_M_set 3 = .ok (.lconst 0, 1) := by decide +kernel
theorem d_M_set_4 : decode c_M_set 4 = .ok (.ldc2_w 70, 3) := by decide +kernel
theorem d_M_set_7 : decode c_M_set 7 = .ok (.invokestatic 72, 3) := by decide +kernel
theorem d_M_set_10 : decode c_M_set 10 = .ok (.ifCond .ne 7, 3) := by decide +kernel
theorem d_M_set_13 : decode c_M_set 13 = .ok (.iconst 1, 1) := by decide +kernel
theorem d_M_set_14 : decode c_M_set 14 = .ok (.goto 17, 3) := by decide +kernel
theorem d_M_set_17 : decode c_M_set 17 = .ok (.aload_n 0, 1) := by decide +kernel
theorem d_M_set_18 : decode c_M_set 18 = .ok (.getfield 86, 3) := by decide +kernel
theorem d_M_set_21 : decode c_M_set 21 = .ok (.bipush 8, 2) := by decide +kernel
theorem d_M_set_23 : decode c_M_set 23 = .ok (.if_icmp .ne 7, 3) := by decide +kernel
theorem d_M_set_26 : decode c_M_set 26 = .ok (.iconst 2, 1) := by decide +kernel
theorem d_M_set_27 : decode c_M_set 27 = .ok (.goto 4, 3) := by decide +kernel
theorem d_M_set_30 : decode c_M_set 30 = .ok (.iconst 0, 1) := by decide +kernel
theorem d_M_set_31 : decode c_M_set 31 = .ok (.putfield 64, 3) := by decide +kernel
theorem d_M_set_34 : decode c_M_set 34 = .ok (.aload_n 0, 1) := by decide +kernel
theorem d_M_set_35 : decode c_M_set 35 = .ok (.getfield 64, 3) := by decide +kernel
theorem d_M_set_38 : decode c_M_set 38 = .ok (.ifCond .le 5, 3) := by decide +kernel
theorem d_M_set_41 : decode c_M_set 41 = .ok (.iconst 0, 1) := by decide +kernel
theorem d_M_set_42 : decode c_M_set 42 = .ok (.ireturn, 1) := by decide +kernel
theorem d_M_set_43 : decode c_M_set 43 = .ok (.aload_n 0, 1) := by decide +kernel
theorem d_M_set_44 : decode c_M_set 44 = .ok (.getfield 29, 3) := by decide +kernel
theorem d_M_set_47 : decode c_M_set 47 = .ok (.aload_n 0, 1) := by decide +kernel
theorem d_M_set_48 : decode c_M_set 48 = .ok (.getfield 86, 3) := by decide +kernel
theorem d_M_set_51 : decode c_M_set 51 = .ok (.iconst 0, 1) := by decide +kernel
theorem d_M_set_52 : decode c_M_set 52 = .ok (.iastore, 1) := by decide +kernel
theorem d_M_set_53 : decode c_M_set 53 = .ok (.aload_n 0, 1) := by decide +kernel
theorem d_M_set_54 : decode c_M_set 54 = .ok (.getfield 35, 3) := by decide +kernel
theorem d_M_set_57 : decode c_M_set 57 = .ok (.aload_n 0, 1) := by decide +kernel
theorem d_M_set_58 : decode c_M_set 58 = .ok (.getfield 86, 3) := by decide +kernel
theorem d_M_set_61 : decode c_M_set 61 = .ok (.iconst (-1), 1) := by decide +kernel
theorem d_M_set_62 : decode c_M_set 62 = .ok (.iastore, 1) := by decide +kernel
theorem d_M_set_63 : decode c_M_set 63 = .ok (.iconst 0, 1) := by decide +kernel
theorem d_M_set_64 : decode c_M_set 64 = .ok (.istore_n 2, 1) := by decide +kernel
theorem d_M_set_65 : decode c_M_set 65 = .ok (.iload_n 2, 1) := by decide +kernel
theorem d_M_set_66 : decode c_M_set 66 = .ok (.aload_n 0, 1) := by decide +kernel
theorem d_M_set_67 : decode c_M_set 67 = .ok (.getfield 67, 3) := by decide +kernel
theorem d_M_set_70 : decode c_M_set 70 = .ok (.if_icmp .ge 113, 3) := by decide +kernel
theorem d_M_set_73 : decode c_M_set 73 = .ok (.aload_n 0, 1) := by decide +kernel
theorem d_M_set_74 : decode c_M_set 74 = .ok (.getfield 7, 3) := by decide +kernel
theorem d_M_set_77 : decode c_M_set 77 = .ok (.iload_n 2, 1) := by decide +kernel
theorem d_M_set_78 : decode c_M_set 78 = .ok (.iaload, 1) := by decide +kernel
theorem d_M_set_79 : decode c_M_set 79 = .ok (.iload_n 1, 1) := by decide +kernel
theorem d_M_set_80 : decode c_M_set 80 = .ok (.if_icmp .ne 97, 3) := by decide +kernel
theorem d_M_set_83 : decode c_M_set 83 = .ok (.sipush 300, 3) := by decide +kernel
theorem d_M_set_86 : decode c_M_set 86 = .ok (.aload_n 0, 1) := by decide +kernel
theorem d_M_set_87 : decode c_M_set 87 = .ok (.getfield 86, 3) := by decide +kernel
theorem d_M_set_90 : decode c_M_set 90 = .ok (.imul, 1) := by decide +kernel
theorem d_M_set_91 : decode c_M_set 91 = .ok (.aload_n 0, 1) := by decide +kernel
theorem d_M_set_92 : decode c_M_set 92 = .ok (.getfield 29, 3) := by decide +kernel
theorem d_M_set_95 : decode c_M_set 95 = .ok (.aload_n 0, 1) := by decide +kernel
theorem d_M_set_96 : decode c_M_set 96 = .ok (.getfield 86, 3) := by decide +kernel
theorem d_M_set_99 : decode c_M_set 99 = .ok (.iaload, 1) := by decide +kernel
theorem d_M_set_100 : decode c_M_set 100 = .ok (.iadd, 1) := by decide +kernel
theorem d_M_set_101 : decode c_M_set 101 = .ok (.istore_n 3, 1) := by decide +kernel
theorem d_M_set_102 : decode c_M_set 102 = .ok (.iload_n 3, 1) := by decide +kernel
theorem d_M_set_103 : decode c_M_set 103 = .ok (.sipush 300, 3) := by decide +kernel
theorem d_M_set_106 : decode c_M_set 106 = .ok (.aload_n 0, 1) := by decide +kernel
theorem d_M_set_107 : decode c_M_set 107 = .ok (.getfield 86, 3) := by decide +kernel
theorem d_M_set_110 : decode c_M_set 110 = .ok (.imul, 1) := by decide +kernel
theorem d_M_set_111 : decode c_M_set 111 = .ok (.if_icmp .le 46, 3) := by decide +kernel
theorem d_M_set_114 : decode c_M_set 114 = .ok (.aload_n 0, 1) := by decide +kernel
theorem d_M_set_115 : decode c_M_set 115 = .ok (.getfield 13, 3) := by decide +kernel
theorem d_M_set_118 : decode c_M_set 118 = .ok (.aload_n 0, 1) := by decide +kernel
theorem d_M_set_119 : decode c_M_set 119 = .ok (.getfield 32, 3) := by decide +kernel
theorem d_M_set_122 : decode c_M_set 122 = .ok (.iload_n 3, 1) := by decide +kernel
theorem d_M_set_123 : decode c_M_set 123 = .ok (.iconst 1, 1) := by decide +kernel
theorem d_M_set_124 : decode c_M_set 124 = .ok (.isub, 1) := by decide +kernel
theorem d_M_set_125 : decode c_M_set 125 = .ok (.iaload, 1) := by decide +kernel
theorem d_M_set_126 : decode c_M_set 126 = .ok (.laload, 1) := by decide +kernel
theorem d_M_set_127 : decode c_M_set 127 = .ok (.aload_n 0, 1) := by decide +kernel
theorem d_M_set_128 : decode c_M_set 128 = .ok (.getfield 13, 3) := by decide +kernel
theorem d_M_set_131 : decode c_M_set 131 = .ok (.iload_n 2, 1) := by decide +kernel
theorem d_M_set_132 : decode c_M_set 132 = .ok (.laload, 1) := by decide +kernel
theorem d_M_set_133 : decode c_M_set 133 = .ok (.lcmp, 1) := by decide +kernel
theorem d_M_set_134 : decode c_M_set 134 = .ok (.ifCond .le 23, 3) := by decide +kernel
theorem d_M_set_137 : decode c_M_set 137 = .ok (.aload_n 0, 1) := by decide +kernel
theorem d_M_set_138 : decode c_M_set 138 = .ok (.getfield 32, 3) := by decide +kernel
theorem d_M_set_141 : decode c_M_set 141 = .ok (.iload_n 3, 1) := by decide +kernel
theorem d_M_set_142 : decode c_M_set 142 = .ok (.aload_n 0, 1) := by decide +kernel
theorem d_M_set_143 : decode c_M_set 143 = .ok (.getfield 32, 3) := by decide +kernel
theorem d_M_set_146 : decode c_M_set 146 = .ok (.iload_n 3, 1) := by decide +kernel
theorem d_M_set_147 : decode c_M_set 147 = .ok (.iconst 1, 1) := by decide +kernel
theorem d_M_set_148 : decode c_M_set 148 = .ok (.isub, 1) := by decide +kernel
theorem d_M_set_149 : decode c_M_set 149 = .ok (.iaload, 1) := by decide +kernel
theorem d_M_set_150 : decode c_M_set 150 = .ok (.iastore, 1) := by decide +kernel
theorem d_M_set_151 : decode c_M_set 151 = .ok (.iinc 3 (-1), 3) := by decide +kernel
theorem d_M_set_154 : decode c_M_set 154 = .ok (.goto (-52), 3) := by decide +kernel
theorem d_M_set_157 : decode c_M_set 157 = .ok (.aload_n 0, 1) := by decide +kernel
theorem d_M_set_158 : decode c_M_set 158 = .ok (.getfield 32, 3) := by decide +kernel
theorem d_M_set_161 : decode c_M_set 161 = .ok (.iload_n 3, 1) := by decide +kernel
theorem d_M_set_162 : decode c_M_set 162 = .ok (.iload_n 2, 1) := by decide +kernel
theorem d_M_set_163 : decode c_M_set 163 = .ok (.iastore, 1) := by decide +kernel
theorem d_M_set_164 : decode c_M_set 164 = .ok (.aload_n 0, 1) := by decide +kernel
theorem d_M_set_165 : decode c_M_set 165 = .ok (.getfield 29, 3) := by decide +kernel
theorem d_M_set_168 : decode c_M_set 168 = .ok (.aload_n 0, 1) := by decide +kernel
theorem d_M_set_169 : decode c_M_set 169 = .ok (.getfield 86, 3) := by decide +kernel
theorem d_M_set_172 : decode c_M_set 172 = .ok (.dup2, 1) := by decide +kernel
theorem d_M_set_173 : decode c_M_set 173 = .ok (.iaload, 1) := by decide +kernel
theorem d_M_set_174 : decode c_M_set 174 = .ok (.iconst 1, 1) := by decide +kernel
theorem d_M_set_175 : decode c_M_set 175 = .ok (.iadd, 1) := by decide +kernel
theorem d_M_set_176 : decode c_M_set 176 = .ok (.iastore, 1) := by decide +kernel
theorem d_M_set_177 : decode c_M_set 177 = .ok (.iinc 2 1, 3) := by decide +kernel
theorem d_M_set_180 : decode c_M_set 180 = .ok (.goto (-115), 3) := by decide +kernel
theorem d_M_set_183 : decode c_M_set 183 = .ok (.aload_n 0, 1) := by decide +kernel
theorem d_M_set_184 : decode c_M_set 184 = .ok (.dup, 1) := by decide +kernel
theorem d_M_set_185 : decode c_M_set 185 = .ok (.getfield 86, 3) := by decide +kernel
theorem d_M_set_188 : decode c_M_set 188 = .ok (.iconst 1, 1) := by decide +kernel
theorem d_M_set_189 : decode c_M_set 189 = .ok (.iadd, 1) := by decide +kernel
theorem d_M_set_190 : decode c_M_set 190 = .ok (.putfield 86, 3) := by decide +kernel
theorem d_M_set_193 : decode c_M_set 193 = .ok (.aload_n 0, 1) := by decide +kernel
theorem d_M_set_194 : decode c_M_set 194 = .ok (.getfield 86, 3) := by decide +kernel
theorem d_M_set_197 : decode c_M_set 197 = .ok (.iconst 1, 1) := by decide +kernel
theorem d_M_set_198 : decode c_M_set 198 = .ok (.isub, 1) := by decide +kernel
theorem d_M_set_199 : decode c_M_set 199 = .ok (.ireturn, 1) := by decide +kernel
theorem d_M_isSet_0 : decode c_M_isSet 0 = .ok (.iload_n 1, 1) := by decide +kernel
theorem d_M_isSet_1 : decode c_M_isSet 1 = .ok (.ifCond .lt 15, 3) := by decide +kernel
theorem d_M_isSet_4 : decode c_M_isSet 4 = .ok (.iload_n 1, 1) := by decide +kernel
theorem d_M_isSet_5 : decode c_M_isSet 5 = .ok (.aload_n 0, 1) := by decide +kernel
theorem d_M_isSet_6 : decode c_M_isSet 6 = .ok (.getfield 86, 3) := by decide +kernel
theorem d_M_isSet_9 : decode c_M_isSet 9 = .ok (.if_icmp .ge 7, 3) := by decide +kernel
theorem d_M_isSet_12 : decode c_M_isSet 12 = .ok (.iconst 1, 1) := by decide +kernel
theorem d_M_isSet_13 : decode c_M_isSet 13 = .ok (.goto 4, 3) := by decide +kernel
theorem d_M_isSet_16 : decode c_M_isSet 16 = .ok (.iconst 0, 1) := by decide +kernel
theorem d_M_isSet_17 : decode c_M_isSet 17 = .ok (.ireturn, 1) := by decide +kernel
theorem d_M_join_0 : decode c_M_join 0 = .ok (.aload_n 0, 1) := by decide +kernel
theorem d_M_join_1 : decode c_M_join 1 = .ok (.aload_n 0, 1) := by decide +kernel
theorem d_M_join_2 : decode c_M_join 2 = .ok (.iload_n 1, 1) := by decide +kernel
theorem d_M_join_3 : decode c_M_join 3 = .ok (.invokevirtual 89, 3) := by decide +kernel
theorem d_M_join_6 : decode c_M_join 6 = .ok (.ifCond .eq 15, 3) := by decide +kernel
theorem d_M_join_9 : decode c_M_join 9 = .ok (.aload_n 0, 1) := by decide +kernel
theorem d_M_join_10 : decode c_M_join 10 = .ok (.iload_n 2, 1) := by decide +kernel
theorem d_M_join_11 : decode c_M_join 11 = .ok (.invokevirtual 89, 3) := by decide +kernel
theorem d_M_join_14 : decode c_M_join 14 = .ok (.ifCond .eq 7, 3) := by decide +kernel
theorem d_M_join_17 : decode c_M_join 17 = .ok (.iconst 0, 1) := by decide +kernel
theorem d_M_join_18 : decode c_M_join 18 = .ok (.goto 4, 3) := by decide +kernel
theorem d_M_join_21 : decode c_M_join 21 = .ok (.iconst 1, 1) := by decide +kernel
theorem d_M_join_22 : decode c_M_join 22 = .ok (.putfield 64, 3) := by decide +kernel
theorem d_M_join_25 : decode c_M_join 25 = .ok (.iconst 0, 1) := by decide +kernel
theorem d_M_join_26 : decode c_M_join 26 = .ok (.istore_n 3, 1) := by decide +kernel
theorem d_M_join_27 : decode c_M_join 27 = .ok (.iconst 0, 1) := by decide +kernel
theorem d_M_join_28 : decode c_M_join 28 = .ok (.istore 4, 2) := by decide +kernel
theorem d_M_join_30 : decode c_M_join 30 = .ok (.aload_n 0, 1) := by decide +kernel
theorem d_M_join_31 : decode c_M_join 31 = .ok (.getfield 64, 3) := by decide +kernel
theorem d_M_join_34 : decode c_M_join 34 = .ok (.ifCond .ne 62, 3) := by decide +kernel
theorem d_M_join_37 : decode c_M_join 37 = .ok (.iload 4, 2) := by decide +kernel
theorem d_M_join_39 : decode c_M_join 39 = .ok (.aload_n 0, 1) := by decide +kernel
theorem d_M_join_40 : decode c_M_join 40 = .ok (.getfield 29, 3) := by decide +kernel
theorem d_M_join_43 : decode c_M_join 43 = .ok (.iload_n 2, 1) := by decide +kernel
theorem d_M_join_44 : decode c_M_join 44 = .ok (.iaload, 1) := by decide +kernel
theorem d_M_join_45 : decode c_M_join 45 = .ok (.if_icmp .ge 51, 3) := by decide +kernel
theorem d_M_join_48 : decode c_M_join 48 = .ok (.aload_n 0, 1) := by decide +kernel
theorem d_M_join_49 : decode c_M_join 49 = .ok (.iload_n 1, 1) := by decide +kernel
theorem d_M_join_50 : decode c_M_join 50 = .ok (.aload_n 0, 1) := by decide +kernel
theorem d_M_join_51 : decode c_M_join 51 = .ok (.getfield 32, 3) := by decide +kernel
theorem d_M_join_54 : decode c_M_join 54 = .ok (.sipush 300, 3) := by decide +kernel
theorem d_M_join_57 : decode c_M_join 57 = .ok (.iload_n 2, 1) := by decide +kernel
theorem d_M_join_58 : decode c_M_join 58 = .ok (.imul, 1) := by decide +kernel
theorem d_M_join_59 : decode c_M_join 59 = .ok (.iload 4, 2) := by decide +kernel
theorem d_M_join_61 : decode c_M_join 61 = .ok (.iadd, 1) := by decide +kernel
theorem d_M_join_62 : decode c_M_join 62 = .ok (.iaload, 1) := by decide +kernel
theorem d_M_join_63 : decode c_M_join 63 = .ok (.invokevirtual 92, 3) := by decide +kernel
theorem d_M_join_66 : decode c_M_join 66 = .ok (.ifCond .ne 24, 3) := by decide +kernel
theorem d_M_join_69 : decode c_M_join 69 = .ok (.aload_n 0, 1) := by decide +kernel
theorem d_M_join_70 : decode c_M_join 70 = .ok (.iload_n 1, 1) := by decide +kernel
theorem d_M_join_71 : decode c_M_join 71 = .ok (.aload_n 0, 1) := by decide +kernel
theorem d_M_join_72 : decode c_M_join 72 = .ok (.getfield 32, 3) := by decide +kernel
theorem d_M_join_75 : decode c_M_join 75 = .ok (.sipush 300, 3) := by decide +kernel
theorem d_M_join_78 : decode c_M_join 78 = .ok (.iload_n 2, 1) := by decide +kernel
theorem d_M_join_79 : decode c_M_join 79 = .ok (.imul, 1) := by decide +kernel
theorem d_M_join_80 : decode c_M_join 80 = .ok (.iload 4, 2) := by decide +kernel
theorem d_M_join_82 : decode c_M_join 82 = .ok (.iadd, 1) := by decide +kernel
theorem d_M_join_83 : decode c_M_join 83 = .ok (.iaload, 1) := by decide +kernel
theorem d_M_join_84 : decode c_M_join 84 = .ok (.invokevirtual 96, 3) := by decide +kernel
theorem d_M_join_87 : decode c_M_join 87 = .ok (.iinc 3 1, 3) := by decide +kernel
theorem d_M_join_90 : decode c_M_join 90 = .ok (.iinc 4 1, 3) := by decide +kernel
theorem d_M_join_93 : decode c_M_join 93 = .ok (.goto (-63), 3) := by decide +kernel
theorem d_M_join_96 : decode c_M_join 96 = .ok (.iload_n 3, 1) := by decide +kernel
theorem d_M_join_97 : decode c_M_join 97 = .ok (.ireturn, 1) := by decide +kernel
theorem d_M_equal_0 : decode c_M_equal 0 = .ok (.aload_n 0, 1) := by decide +kernel
theorem d_M_equal_1 : decode c_M_equal 1 = .ok (.aload_n 0, 1) := by decide +kernel
theorem d_M_equal_2 : decode c_M_equal 2 = .ok (.iload_n 1, 1) := by decide +kernel
theorem d_M_equal_3 : decode c_M_equal 3 = .ok (.invokevirtual 89, 3) := by decide +kernel
theorem d_M_equal_6 : decode c_M_equal 6 = .ok (.ifCond .eq 15, 3) := by decide +kernel
theorem d_M_equal_9 : decode c_M_equal 9 = .ok (.aload_n 0, 1) := by decide +kernel
theorem d_M_equal_10 : decode c_M_equal 10 = .ok (.iload_n 2, 1) := by decide +kernel
theorem d_M_equal_11 : decode c_M_equal 11 = .ok (.invokevirtual 89, 3) := by decide +kernel
theorem d_M_equal_14 : decode c_M_equal 14 = .ok (.ifCond .eq 7, 3) := by decide +kernel
theorem d_M_equal_17 : decode c_M_equal 17 = .ok (.iconst 0, 1) := by decide +kernel
theorem d_M_equal_18 : decode c_M_equal 18 = .ok (.goto 4, 3) := by decide +kernel
theorem d_M_equal_21 : decode c_M_equal 21 = .ok (.iconst 1, 1) := by decide +kernel
theorem d_M_equal_22 : decode c_M_equal 22 = .ok (.putfield 64, 3) := by decide +kernel
theorem d_M_equal_25 : decode c_M_equal 25 = .ok (.aload_n 0, 1) := by decide +kernel
theorem d_M_equal_26 : decode c_M_equal 26 = .ok (.getfield 64, 3) := by decide +kernel
theorem d_M_equal_29 : decode c_M_equal 29 = .ok (.ifCond .ne 22, 3) := by decide +kernel
theorem d_M_equal_32 : decode c_M_equal 32 = .ok (.aload_n 0, 1) := by decide +kernel
theorem d_M_equal_33 : decode c_M_equal 33 = .ok (.getfield 29, 3) := by decide +kernel
theorem d_M_equal_36 : decode c_M_equal 36 = .ok (.iload_n 1, 1) := by decide +kernel
theorem d_M_equal_37 : decode c_M_equal 37 = .ok (.iaload, 1) := by decide +kernel
theorem d_M_equal_38 : decode c_M_equal 38 = .ok (.aload_n 0, 1) := by decide +kernel
theorem d_M_equal_39 : decode c_M_equal 39 = .ok (.getfield 29, 3) := by decide +kernel
theorem d_M_equal_42 : decode c_M_equal 42 = .ok (.iload_n 2, 1) := by decide +kernel
theorem d_M_equal_43 : decode c_M_equal 43 = .ok (.iaload, 1) := by decide +kernel
theorem d_M_equal_44 : decode c_M_equal 44 = .ok (.if_icmp .ne 7, 3) := by decide +kernel
theorem d_M_equal_47 : decode c_M_equal 47 = .ok (.iconst 1, 1) := by decide +kernel
theorem d_M_equal_48 : decode c_M_equal 48 = .ok (.goto 4, 3) := by decide +kernel
theorem d_M_equal_51 : decode c_M_equal 51 = .ok (.iconst 0, 1) := by decide +kernel
theorem d_M_equal_52 : decode c_M_equal 52 = .ok (.istore_n 3, 1) := by decide +kernel
theorem d_M_equal_53 : decode c_M_equal 53 = .ok (.iconst 0, 1) := by decide +kernel
theorem d_M_equal_54 : decode c_M_equal 54 = .ok (.istore 4, 2) := by decide +kernel
theorem d_M_equal_56 : decode c_M_equal 56 = .ok (.iload_n 3, 1) := by decide +kernel
theorem d_M_equal_57 : decode c_M_equal 57 = .ok (.ifCond .eq 39, 3) := by decide +kernel
theorem d_M_equal_60 : decode c_M_equal 60 = .ok (.iload 4, 2) := by decide +kernel
theorem d_M_equal_62 : decode c_M_equal 62 = .ok (.aload_n 0, 1) := by decide +kernel
theorem d_M_equal_63 : decode c_M_equal 63 = .ok (.getfield 29, 3) := by decide +kernel
theorem d_M_equal_66 : decode c_M_equal 66 = .ok (.iload_n 2, 1) := by decide +kernel
theorem d_M_equal_67 : decode c_M_equal 67 = .ok (.iaload, 1) := by decide +kernel
theorem d_M_equal_68 : decode c_M_equal 68 = .ok (.if_icmp .ge 28, 3) := by decide +kernel
theorem d_M_equal_71 : decode c_M_equal 71 = .ok (.aload_n 0, 1) := by decide +kernel
theorem d_M_equal_72 : decode c_M_equal 72 = .ok (.iload_n 1, 1) := by decide +kernel
theorem d_M_equal_73 : decode c_M_equal 73 = .ok (.aload_n 0, 1) := by decide +kernel
theorem d_M_equal_74 : decode c_M_equal 74 = .ok (.getfield 32, 3) := by decide +kernel
theorem d_M_equal_77 : decode c_M_equal 77 = .ok (.sipush 300, 3) := by decide +kernel
theorem d_M_equal_80 : decode c_M_equal 80 = .ok (.iload_n 2, 1) := by decide +kernel
theorem d_M_equal_81 : decode c_M_equal 81 = .ok (.imul, 1) := by decide +kernel
theorem d_M_equal_82 : decode c_M_equal 82 = .ok (.iload 4, 2) := by decide +kernel
theorem d_M_equal_84 : decode c_M_equal 84 = .ok (.iadd, 1) := by decide +kernel
theorem d_M_equal_85 : decode c_M_equal 85 = .ok (.iaload, 1) := by decide +kernel
theorem d_M_equal_86 : decode c_M_equal 86 = .ok (.invokevirtual 92, 3) := by decide +kernel
theorem d_M_equal_89 : decode c_M_equal 89 = .ok (.istore_n 3, 1) := by decide +kernel
theorem d_M_equal_90 : decode c_M_equal 90 = .ok (.iinc 4 1, 3) := by decide +kernel
theorem d_M_equal_93 : decode c_M_equal 93 = .ok (.goto (-37), 3) := by decide +kernel
theorem d_M_equal_96 : decode c_M_equal 96 = .ok (.iload_n 3, 1) := by decide +kernel
theorem d_M_equal_97 : decode c_M_equal 97 = .ok (.ireturn, 1) := by decide +kernel
theorem d_M_isAfter_0 : decode c_M_isAfter 0 = .ok (.lload_n 0, 1) := by decide +kernel
theorem d_M_isAfter_1 : decode c_M_isAfter 1 = .ok (.lload_n 2, 1) := by decide +kernel
theorem d_M_isAfter_2 : decode c_M_isAfter 2 = .ok (.lcmp, 1) := by decide +kernel
theorem d_M_isAfter_3 : decode c_M_isAfter 3 = .ok (.ifCond .le 7, 3) := by decide +kernel
theorem d_M_isAfter_6 : decode c_M_isAfter 6 = .ok (.iconst 1, 1) := by decide +kernel
theorem d_M_isAfter_7 : decode c_M_isAfter 7 = .ok (.goto 4, 3) := by decide +kernel
theorem d_M_isAfter_10 : decode c_M_isAfter 10 = .ok (.iconst 0, 1) := by decide +kernel
theorem d_M_isAfter_11 : decode c_M_isAfter 11 = .ok (.ireturn, 1) := by decide +kernel
theorem d_M_later_0 : decode c_M_later 0 = .ok (.iload_n 1, 1) := by decide +kernel
theorem d_M_later_1 : decode c_M_later 1 = .ok (.ifCond .lt 7, 3) := by decide +kernel
theorem d_M_later_4 : decode c_M_later 4 = .ok (.iload_n 2, 1) := by decide +kernel
theorem d_M_later_5 : decode c_M_later 5 = .ok (.ifCond .ge 13, 3) := by decide +kernel
theorem d_M_later_8 : decode c_M_later 8 = .ok (.iload_n 1, 1) := by decide +kernel
theorem d_M_later_9 : decode c_M_later 9 = .ok (.ifCond .ge 7, 3) := by decide +kernel
theorem d_M_later_12 : decode c_M_later 12 = .ok (.iload_n 2, 1) := by decide +kernel
theorem d_M_later_13 : decode c_M_later 13 = .ok (.goto 4, 3) := by decide +kernel
theorem d_M_later_16 : decode c_M_later 16 = .ok (.iload_n 1, 1) := by decide +kernel
theorem d_M_later_17 : decode c_M_later 17 = .ok (.ireturn, 1) := by decide +kernel
theorem d_M_later_18 : decode c_M_later 18 = .ok (.aload_n 0, 1) := by decide +kernel
theorem d_M_later_19 : decode c_M_later 19 = .ok (.getfield 26, 3) := by decide +kernel
theorem d_M_later_22 : decode c_M_later 22 = .ok (.iload_n 1, 1) := by decide +kernel
theorem d_M_later_23 : decode c_M_later 23 = .ok (.laload, 1) := by decide +kernel
theorem d_M_later_24 : decode c_M_later 24 = .ok (.aload_n 0, 1) := by decide +kernel
theorem d_M_later_25 : decode c_M_later 25 = .ok (.getfield 26, 3) := by decide +kernel
theorem d_M_later_28 : decode c_M_later 28 = .ok (.iload_n 2, 1) := by decide +kernel
theorem d_M_later_29 : decode c_M_later 29 = .ok (.laload, 1) := by decide +kernel
theorem d_M_later_30 : decode c_M_later 30 = .ok (.lcmp, 1) := by decide +kernel
theorem d_M_later_31 : decode c_M_later 31 = .ok (.ifCond .eq 27, 3) := by decide +kernel
theorem d_M_later_34 : decode c_M_later 34 = .ok (.aload_n 0, 1) := by decide +kernel
theorem d_M_later_35 : decode c_M_later 35 = .ok (.getfield 26, 3) := by decide +kernel
theorem d_M_later_38 : decode c_M_later 38 = .ok (.iload_n 1, 1) := by decide +kernel
theorem d_M_later_39 : decode c_M_later 39 = .ok (.laload, 1) := by decide +kernel
theorem d_M_later_40 : decode c_M_later 40 = .ok (.aload_n 0, 1) := by decide +kernel
theorem d_M_later_41 : decode c_M_later 41 = .ok (.getfield 26, 3) := by decide +kernel
theorem d_M_later_44 : decode c_M_later 44 = .ok (.iload_n 2, 1) := by decide +kernel
theorem d_M_later_45 : decode c_M_later 45 = .ok (.laload, 1) := by decide +kernel
theorem d_M_later_46 : decode c_M_later 46 = .ok (.invokestatic 100, 3) := by decide +kernel
theorem d_M_later_49 : decode c_M_later 49 = .ok (.ifCond .eq 7, 3) := by decide +kernel
theorem d_M_later_52 : decode c_M_later 52 = .ok (.iload_n 1, 1) := by decide +kernel
theorem d_M_later_53 : decode c_M_later 53 = .ok (.goto 4, 3) := by decide +kernel
theorem d_M_later_56 : decode c_M_later 56 = .ok (.iload_n 2, 1) := by decide +kernel
theorem d_M_later_57 : decode c_M_later 57 = .ok (.ireturn, 1) := by decide +kernel
theorem d_M_later_58 : decode c_M_later 58 = .ok (.aload_n 0, 1) := by decide +kernel
theorem d_M_later_59 : decode c_M_later 59 = .ok (.getfield 7, 3) := by decide +kernel
theorem d_M_later_62 : decode c_M_later 62 = .ok (.iload_n 1, 1) := by decide +kernel
theorem d_M_later_63 : decode c_M_later 63 = .ok (.iaload, 1) := by decide +kernel
theorem d_M_later_64 : decode c_M_later 64 = .ok (.aload_n 0, 1) := by decide +kernel
theorem d_M_later_65 : decode c_M_later 65 = .ok (.getfield 7, 3) := by decide +kernel
theorem d_M_later_68 : decode c_M_later 68 = .ok (.iload_n 2, 1) := by decide +kernel
theorem d_M_later_69 : decode c_M_later 69 = .ok (.iaload, 1) := by decide +kernel
theorem d_M_later_70 : decode c_M_later 70 = .ok (.if_icmp .eq 24, 3) := by decide +kernel
theorem d_M_later_73 : decode c_M_later 73 = .ok (.aload_n 0, 1) := by decide +kernel
theorem d_M_later_74 : decode c_M_later 74 = .ok (.getfield 7, 3) := by decide +kernel
theorem d_M_later_77 : decode c_M_later 77 = .ok (.iload_n 1, 1) := by decide +kernel
theorem d_M_later_78 : decode c_M_later 78 = .ok (.iaload, 1) := by decide +kernel
theorem d_M_later_79 : decode c_M_later 79 = .ok (.aload_n 0, 1) := by decide +kernel
theorem d_M_later_80 : decode c_M_later 80 = .ok (.getfield 7, 3) := by decide +kernel
theorem d_M_later_83 : decode c_M_later 83 = .ok (.iload_n 2, 1) := by decide +kernel
theorem d_M_later_84 : decode c_M_later 84 = .ok (.iaload, 1) := by decide +kernel
theorem d_M_later_85 : decode c_M_later 85 = .ok (.if_icmp .le 7, 3) := by decide +kernel
theorem d_M_later_88 : decode c_M_later 88 = .ok (.iload_n 1, 1) := by decide +kernel
theorem d_M_later_89 : decode c_M_later 89 = .ok (.goto 4, 3) := by decide +kernel
theorem d_M_later_92 : decode c_M_later 92 = .ok (.iload_n 2, 1) := by decide +kernel
theorem d_M_later_93 : decode c_M_later 93 = .ok (.ireturn, 1) := by decide +kernel
theorem d_M_later_94 : decode c_M_later 94 = .ok (.aload_n 0, 1) := by decide +kernel
theorem d_M_later_95 : decode c_M_later 95 = .ok (.getfield 13, 3) := by decide +kernel
theorem d_M_later_98 : decode c_M_later 98 = .ok (.iload_n 1, 1) := by decide +kernel
theorem d_M_later_99 : decode c_M_later 99 = .ok (.laload, 1) := by decide +kernel
theorem d_M_later_100 : decode c_M_later 100 = .ok (.aload_n 0, 1) := by decide +kernel
theorem d_M_later_101 : decode c_M_later 101 = .ok (.getfield 13, 3) := by decide +kernel
theorem d_M_later_104 : decode c_M_later 104 = .ok (.iload_n 2, 1) := by decide +kernel
theorem d_M_later_105 : decode c_M_later 105 = .ok (.laload, 1) := by decide +kernel
theorem d_M_later_106 : decode c_M_later 106 = .ok (.invokestatic 100, 3) := by decide +kernel
theorem d_M_later_109 : decode c_M_later 109 = .ok (.ifCond .eq 7, 3) := by decide +kernel
theorem d_M_later_112 : decode c_M_later 112 = .ok (.iload_n 1, 1) := by decide +kernel
theorem d_M_later_113 : decode c_M_later 113 = .ok (.goto 4, 3) := by decide +kernel
theorem d_M_later_116 : decode c_M_later 116 = .ok (.iload_n 2, 1) := by decide +kernel
theorem d_M_later_117 : decode c_M_later 117 = .ok (.ireturn, 1) := by decide +kernel
theorem d_M_speaks_0 : decode c_M_speaks 0 = .ok (.aload_n 0, 1) := by decide +kernel
theorem d_M_speaks_1 : decode c_M_speaks 1 = .ok (.getfield 17, 3) := by decide +kernel
theorem d_M_speaks_4 : decode c_M_speaks 4 = .ok (.iload_n 1, 1) := by decide +kernel
theorem d_M_speaks_5 : decode c_M_speaks 5 = .ok (.iaload, 1) := by decide +kernel
theorem d_M_speaks_6 : decode c_M_speaks 6 = .ok (.iload_n 2, 1) := by decide +kernel
theorem d_M_speaks_7 : decode c_M_speaks 7 = .ok (.if_icmp .ne 29, 3) := by decide +kernel
theorem d_M_speaks_10 : decode c_M_speaks 10 = .ok (.aload_n 0, 1) := by decide +kernel
theorem d_M_speaks_11 : decode c_M_speaks 11 = .ok (.getfield 20, 3) := by decide +kernel
theorem d_M_speaks_14 : decode c_M_speaks 14 = .ok (.iload_n 1, 1) := by decide +kernel
theorem d_M_speaks_15 : decode c_M_speaks 15 = .ok (.iaload, 1) := by decide +kernel
theorem d_M_speaks_16 : decode c_M_speaks 16 = .ok (.iload_n 3, 1) := by decide +kernel
theorem d_M_speaks_17 : decode c_M_speaks 17 = .ok (.if_icmp .ne 19, 3) := by decide +kernel
theorem d_M_speaks_20 : decode c_M_speaks 20 = .ok (.aload_n 0, 1) := by decide +kernel
theorem d_M_speaks_21 : decode c_M_speaks 21 = .ok (.getfield 26, 3) := by decide +kernel
theorem d_M_speaks_24 : decode c_M_speaks 24 = .ok (.iload_n 1, 1) := by decide +kernel
theorem d_M_speaks_25 : decode c_M_speaks 25 = .ok (.laload, 1) := by decide +kernel
theorem d_M_speaks_26 : decode c_M_speaks 26 = .ok (.lload 4, 2) := by decide +kernel
theorem d_M_speaks_28 : decode c_M_speaks 28 = .ok (.lcmp, 1) := by decide +kernel
theorem d_M_speaks_29 : decode c_M_speaks 29 = .ok (.ifCond .gt 7, 3) := by decide +kernel
theorem d_M_speaks_32 : decode c_M_speaks 32 = .ok (.iconst 1, 1) := by decide +kernel
theorem d_M_speaks_33 : decode c_M_speaks 33 = .ok (.goto 4, 3) := by decide +kernel
theorem d_M_speaks_36 : decode c_M_speaks 36 = .ok (.iconst 0, 1) := by decide +kernel
theorem d_M_speaks_37 : decode c_M_speaks 37 = .ok (.ireturn, 1) := by decide +kernel
theorem d_M_latest_0 : decode c_M_latest 0 = .ok (.iconst (-1), 1) := by decide +kernel
theorem d_M_latest_1 : decode c_M_latest 1 = .ok (.istore 7, 2) := by decide +kernel
theorem d_M_latest_3 : decode c_M_latest 3 = .ok (.iconst 0, 1) := by decide +kernel
theorem d_M_latest_4 : decode c_M_latest 4 = .ok (.istore 8, 2) := by decide +kernel
theorem d_M_latest_6 : decode c_M_latest 6 = .ok (.iload 8, 2) := by decide +kernel
theorem d_M_latest_8 : decode c_M_latest 8 = .ok (.iload_n 2, 1) := by decide +kernel
theorem d_M_latest_9 : decode c_M_latest 9 = .ok (.if_icmp .ge 53, 3) := by decide +kernel
theorem d_M_latest_12 : decode c_M_latest 12 = .ok (.aload_n 0, 1) := by decide +kernel
theorem d_M_latest_13 : decode c_M_latest 13 = .ok (.getfield 32, 3) := by decide +kernel
theorem d_M_latest_16 : decode c_M_latest 16 = .ok (.sipush 300, 3) := by decide +kernel
theorem d_M_latest_19 : decode c_M_latest 19 = .ok (.iload_n 1, 1) := by decide +kernel
theorem d_M_latest_20 : decode c_M_latest 20 = .ok (.imul, 1) := by decide +kernel
theorem d_M_latest_21 : decode c_M_latest 21 = .ok (.iload 8, 2) := by decide +kernel
theorem d_M_latest_23 : decode c_M_latest 23 = .ok (.iadd, 1) := by decide +kernel
theorem d_M_latest_24 : decode c_M_latest 24 = .ok (.iaload, 1) := by decide +kernel
theorem d_M_latest_25 : decode c_M_latest 25 = .ok (.istore 9, 2) := by decide +kernel
theorem d_M_latest_27 : decode c_M_latest 27 = .ok (.aload_n 0, 1) := by decide +kernel
theorem d_M_latest_28 : decode c_M_latest 28 = .ok (.iload 9, 2) := by decide +kernel
theorem d_M_latest_30 : decode c_M_latest 30 = .ok (.iload_n 3, 1) := by decide +kernel
theorem d_M_latest_31 : decode c_M_latest 31 = .ok (.iload 4, 2) := by decide +kernel
theorem d_M_latest_33 : decode c_M_latest 33 = .ok (.lload 5, 2) := by decide +kernel
theorem d_M_latest_35 : decode c_M_latest 35 = .ok (.invokevirtual 104, 3) := by decide +kernel
theorem d_M_latest_38 : decode c_M_latest 38 = .ok (.ifCond .eq 14, 3) := by decide +kernel
theorem d_M_latest_41 : decode c_M_latest 41 = .ok (.aload_n 0, 1) := by decide +kernel
theorem d_M_latest_42 : decode c_M_latest 42 = .ok (.iload 7, 2) := by decide +kernel
theorem d_M_latest_44 : decode c_M_latest 44 = .ok (.iload 9, 2) := by decide +kernel
theorem d_M_latest_46 : decode c_M_latest 46 = .ok (.invokevirtual 108, 3) := by decide +kernel
theorem d_M_latest_49 : decode c_M_latest 49 = .ok (.goto 5, 3) := by decide +kernel
theorem d_M_latest_52 : decode c_M_latest 52 = .ok (.iload 7, 2) := by decide +kernel
theorem d_M_latest_54 : decode c_M_latest 54 = .ok (.istore 7, 2) := by decide +kernel
theorem d_M_latest_56 : decode c_M_latest 56 = .ok (.iinc 8 1, 3) := by decide +kernel
theorem d_M_latest_59 : decode c_M_latest 59 = .ok (.goto (-53), 3) := by decide +kernel
theorem d_M_latest_62 : decode c_M_latest 62 = .ok (.iload 7, 2) := by decide +kernel
theorem d_M_latest_64 : decode c_M_latest 64 = .ok (.ireturn, 1) := by decide +kernel
theorem d_M_isSettled_0 : decode c_M_isSettled 0 = .ok (.aload_n 0, 1) := by decide +kernel
theorem d_M_isSettled_1 : decode c_M_isSettled 1 = .ok (.iload_n 1, 1) := by decide +kernel
theorem d_M_isSettled_2 : decode c_M_isSettled 2 = .ok (.iload_n 2, 1) := by decide +kernel
theorem d_M_isSettled_3 : decode c_M_isSettled 3 = .ok (.iload_n 3, 1) := by decide +kernel
theorem d_M_isSettled_4 : decode c_M_isSettled 4 = .ok (.iconst 3, 1) := by decide +kernel
theorem d_M_isSettled_5 : decode c_M_isSettled 5 = .ok (.lload 4, 2) := by decide +kernel
theorem d_M_isSettled_7 : decode c_M_isSettled 7 = .ok (.invokevirtual 112, 3) := by decide +kernel
theorem d_M_isSettled_10 : decode c_M_isSettled 10 = .ok (.istore 6, 2) := by decide +kernel
theorem d_M_isSettled_12 : decode c_M_isSettled 12 = .ok (.iload 6, 2) := by decide +kernel
theorem d_M_isSettled_14 : decode c_M_isSettled 14 = .ok (.ifCond .lt 7, 3) := by decide +kernel
theorem d_M_isSettled_17 : decode c_M_isSettled 17 = .ok (.iconst 1, 1) := by decide +kernel
theorem d_M_isSettled_18 : decode c_M_isSettled 18 = .ok (.goto 4, 3) := by decide +kernel
theorem d_M_isSettled_21 : decode c_M_isSettled 21 = .ok (.iconst 0, 1) := by decide +kernel
theorem d_M_isSettled_22 : decode c_M_isSettled 22 = .ok (.istore 7, 2) := by decide +kernel
theorem d_M_isSettled_24 : decode c_M_isSettled 24 = .ok (.iconst 0, 1) := by decide +kernel
theorem d_M_isSettled_25 : decode c_M_isSettled 25 = .ok (.istore 8, 2) := by decide +kernel
theorem d_M_isSettled_27 : decode c_M_isSettled 27 = .ok (.iload 8, 2) := by decide +kernel
theorem d_M_isSettled_29 : decode c_M_isSettled 29 = .ok (.iload_n 2, 1) := by decide +kernel
theorem d_M_isSettled_30 : decode c_M_isSettled 30 = .ok (.if_icmp .ge 67, 3) := by decide +kernel
theorem d_M_isSettled_33 : decode c_M_isSettled 33 = .ok (.aload_n 0, 1) := by decide +kernel
theorem d_M_isSettled_34 : decode c_M_isSettled 34 = .ok (.getfield 32, 3) := by decide +kernel
theorem d_M_isSettled_37 : decode c_M_isSettled 37 = .ok (.sipush 300, 3) := by decide +kernel
theorem d_M_isSettled_40 : decode c_M_isSettled 40 = .ok (.iload_n 1, 1) := by decide +kernel
theorem d_M_isSettled_41 : decode c_M_isSettled 41 = .ok (.imul, 1) := by decide +kernel
theorem d_M_isSettled_42 : decode c_M_isSettled 42 = .ok (.iload 8, 2) := by decide +kernel
theorem d_M_isSettled_44 : decode c_M_isSettled 44 = .ok (.iadd, 1) := by decide +kernel
theorem d_M_isSettled_45 : decode c_M_isSettled 45 = .ok (.iaload, 1) := by decide +kernel
theorem d_M_isSettled_46 : decode c_M_isSettled 46 = .ok (.istore 9, 2) := by decide +kernel
theorem d_M_isSettled_48 : decode c_M_isSettled 48 = .ok (.iload 7, 2) := by decide +kernel
theorem d_M_isSettled_50 : decode c_M_isSettled 50 = .ok (.ifCond .eq 38, 3) := by decide +kernel
theorem d_M_isSettled_53 : decode c_M_isSettled 53 = .ok (.aload_n 0, 1) := by decide +kernel
theorem d_M_isSettled_54 : decode c_M_isSettled 54 = .ok (.iload 9, 2) := by decide +kernel
theorem d_M_isSettled_56 : decode c_M_isSettled 56 = .ok (.iload_n 3, 1) := by decide +kernel
theorem d_M_isSettled_57 : decode c_M_isSettled 57 = .ok (.iconst 2, 1) := by decide +kernel
theorem d_M_isSettled_58 : decode c_M_isSettled 58 = .ok (.lload 4, 2) := by decide +kernel
theorem d_M_isSettled_60 : decode c_M_isSettled 60 = .ok (.invokevirtual 104, 3) := by decide +kernel
theorem d_M_isSettled_63 : decode c_M_isSettled 63 = .ok (.ifCond .eq 21, 3) := by decide +kernel
theorem d_M_isSettled_66 : decode c_M_isSettled 66 = .ok (.aload_n 0, 1) := by decide +kernel
theorem d_M_isSettled_67 : decode c_M_isSettled 67 = .ok (.getfield 26, 3) := by decide +kernel
theorem d_M_isSettled_70 : decode c_M_isSettled 70 = .ok (.iload 6, 2) := by decide +kernel
theorem d_M_isSettled_72 : decode c_M_isSettled 72 = .ok (.laload, 1) := by decide +kernel
theorem d_M_isSettled_73 : decode c_M_isSettled 73 = .ok (.aload_n 0, 1) := by decide +kernel
theorem d_M_isSettled_74 : decode c_M_isSettled 74 = .ok (.getfield 26, 3) := by decide +kernel
theorem d_M_isSettled_77 : decode c_M_isSettled 77 = .ok (.iload 9, 2) := by decide +kernel
theorem d_M_isSettled_79 : decode c_M_isSettled 79 = .ok (.laload, 1) := by decide +kernel
theorem d_M_isSettled_80 : decode c_M_isSettled 80 = .ok (.lcmp, 1) := by decide +kernel
theorem d_M_isSettled_81 : decode c_M_isSettled 81 = .ok (.ifCond .lt 7, 3) := by decide +kernel
theorem d_M_isSettled_84 : decode c_M_isSettled 84 = .ok (.iconst 1, 1) := by decide +kernel
theorem d_M_isSettled_85 : decode c_M_isSettled 85 = .ok (.goto 4, 3) := by decide +kernel
theorem d_M_isSettled_88 : decode c_M_isSettled 88 = .ok (.iconst 0, 1) := by decide +kernel
theorem d_M_isSettled_89 : decode c_M_isSettled 89 = .ok (.istore 7, 2) := by decide +kernel
theorem d_M_isSettled_91 : decode c_M_isSettled 91 = .ok (.iinc 8 1, 3) := by decide +kernel
theorem d_M_isSettled_94 : decode c_M_isSettled 94 = .ok (.goto (-67), 3) := by decide +kernel
theorem d_M_isSettled_97 : decode c_M_isSettled 97 = .ok (.iload 7, 2) := by decide +kernel
theorem d_M_isSettled_99 : decode c_M_isSettled 99 = .ok (.ireturn, 1) := by decide +kernel
theorem d_M_areUnlike_0 : decode c_M_areUnlike 0 = .ok (.iconst 0, 1) := by decide +kernel
theorem d_M_areUnlike_1 : decode c_M_areUnlike 1 = .ok (.istore 6, 2) := by decide +kernel
theorem d_M_areUnlike_3 : decode c_M_areUnlike 3 = .ok (.iconst (-1), 1) := by decide +kernel
theorem d_M_areUnlike_4 : decode c_M_areUnlike 4 = .ok (.istore 7, 2) := by decide +kernel
theorem d_M_areUnlike_6 : decode c_M_areUnlike 6 = .ok (.iconst 0, 1) := by decide +kernel
theorem d_M_areUnlike_7 : decode c_M_areUnlike 7 = .ok (.istore 8, 2) := by decide +kernel
theorem d_M_areUnlike_9 : decode c_M_areUnlike 9 = .ok (.iload 8, 2) := by decide +kernel
theorem d_M_areUnlike_11 : decode c_M_areUnlike 11 = .ok (.iload_n 2, 1) := by decide +kernel
theorem d_M_areUnlike_12 : decode c_M_areUnlike 12 = .ok (.if_icmp .ge 76, 3) := by decide +kernel
theorem d_M_areUnlike_15 : decode c_M_areUnlike 15 = .ok (.aload_n 0, 1) := by decide +kernel
theorem d_M_areUnlike_16 : decode c_M_areUnlike 16 = .ok (.getfield 32, 3) := by decide +kernel
theorem d_M_areUnlike_19 : decode c_M_areUnlike 19 = .ok (.sipush 300, 3) := by decide +kernel
theorem d_M_areUnlike_22 : decode c_M_areUnlike 22 = .ok (.iload_n 1, 1) := by decide +kernel
theorem d_M_areUnlike_23 : decode c_M_areUnlike 23 = .ok (.imul, 1) := by decide +kernel
theorem d_M_areUnlike_24 : decode c_M_areUnlike 24 = .ok (.iload 8, 2) := by decide +kernel
theorem d_M_areUnlike_26 : decode c_M_areUnlike 26 = .ok (.iadd, 1) := by decide +kernel
theorem d_M_areUnlike_27 : decode c_M_areUnlike 27 = .ok (.iaload, 1) := by decide +kernel
theorem d_M_areUnlike_28 : decode c_M_areUnlike 28 = .ok (.istore 9, 2) := by decide +kernel
theorem d_M_areUnlike_30 : decode c_M_areUnlike 30 = .ok (.aload_n 0, 1) := by decide +kernel
theorem d_M_areUnlike_31 : decode c_M_areUnlike 31 = .ok (.iload 9, 2) := by decide +kernel
theorem d_M_areUnlike_33 : decode c_M_areUnlike 33 = .ok (.iload_n 3, 1) := by decide +kernel
theorem d_M_areUnlike_34 : decode c_M_areUnlike 34 = .ok (.iconst 2, 1) := by decide +kernel
theorem d_M_areUnlike_35 : decode c_M_areUnlike 35 = .ok (.lload 4, 2) := by decide +kernel
theorem d_M_areUnlike_37 : decode c_M_areUnlike 37 = .ok (.invokevirtual 104, 3) := by decide +kernel
theorem d_M_areUnlike_40 : decode c_M_areUnlike 40 = .ok (.ifCond .eq 42, 3) := by decide +kernel
theorem d_M_areUnlike_43 : decode c_M_areUnlike 43 = .ok (.iload 6, 2) := by decide +kernel
theorem d_M_areUnlike_45 : decode c_M_areUnlike 45 = .ok (.ifCond .ne 26, 3) := by decide +kernel
theorem d_M_areUnlike_48 : decode c_M_areUnlike 48 = .ok (.iload 7, 2) := by decide +kernel
theorem d_M_areUnlike_50 : decode c_M_areUnlike 50 = .ok (.ifCond .lt 25, 3) := by decide +kernel
theorem d_M_areUnlike_53 : decode c_M_areUnlike 53 = .ok (.aload_n 0, 1) := by decide +kernel
theorem d_M_areUnlike_54 : decode c_M_areUnlike 54 = .ok (.getfield 23, 3) := by decide +kernel
theorem d_M_areUnlike_57 : decode c_M_areUnlike 57 = .ok (.iload 7, 2) := by decide +kernel
theorem d_M_areUnlike_59 : decode c_M_areUnlike 59 = .ok (.laload, 1) := by decide +kernel
theorem d_M_areUnlike_60 : decode c_M_areUnlike 60 = .ok (.aload_n 0, 1) := by decide +kernel
theorem d_M_areUnlike_61 : decode c_M_areUnlike 61 = .ok (.getfield 23, 3) := by decide +kernel
theorem d_M_areUnlike_64 : decode c_M_areUnlike 64 = .ok (.iload 9, 2) := by decide +kernel
theorem d_M_areUnlike_66 : decode c_M_areUnlike 66 = .ok (.laload, 1) := by decide +kernel
theorem d_M_areUnlike_67 : decode c_M_areUnlike 67 = .ok (.lcmp, 1) := by decide +kernel
theorem d_M_areUnlike_68 : decode c_M_areUnlike 68 = .ok (.ifCond .eq 7, 3) := by decide +kernel
theorem d_M_areUnlike_71 : decode c_M_areUnlike 71 = .ok (.iconst 1, 1) := by decide +kernel
theorem d_M_areUnlike_72 : decode c_M_areUnlike 72 = .ok (.goto 4, 3) := by decide +kernel
theorem d_M_areUnlike_75 : decode c_M_areUnlike 75 = .ok (.iconst 0, 1) := by decide +kernel
theorem d_M_areUnlike_76 : decode c_M_areUnlike 76 = .ok (.istore 6, 2) := by decide +kernel
theorem d_M_areUnlike_78 : decode c_M_areUnlike 78 = .ok (.iload 9, 2) := by decide +kernel
theorem d_M_areUnlike_80 : decode c_M_areUnlike 80 = .ok (.istore 7, 2) := by decide +kernel
theorem d_M_areUnlike_82 : decode c_M_areUnlike 82 = .ok (.iinc 8 1, 3) := by decide +kernel
theorem d_M_areUnlike_85 : decode c_M_areUnlike 85 = .ok (.goto (-76), 3) := by decide +kernel
theorem d_M_areUnlike_88 : decode c_M_areUnlike 88 = .ok (.iload 6, 2) := by decide +kernel
theorem d_M_areUnlike_90 : decode c_M_areUnlike 90 = .ok (.ireturn, 1) := by decide +kernel
theorem d_M_known_0 : decode c_M_known 0 = .ok (.iload 4, 2) := by decide +kernel
theorem d_M_known_2 : decode c_M_known 2 = .ok (.ifCond .ne 68, 3) := by decide +kernel
theorem d_M_known_5 : decode c_M_known 5 = .ok (.lconst 0, 1) := by decide +kernel
theorem d_M_known_6 : decode c_M_known 6 = .ok (.lstore 7, 2) := by decide +kernel
theorem d_M_known_8 : decode c_M_known 8 = .ok (.iconst 0, 1) := by decide +kernel
theorem d_M_known_9 : decode c_M_known 9 = .ok (.istore 9, 2) := by decide +kernel
theorem d_M_known_11 : decode c_M_known 11 = .ok (.iload 9, 2) := by decide +kernel
theorem d_M_known_13 : decode c_M_known 13 = .ok (.iload_n 2, 1) := by decide +kernel
theorem d_M_known_14 : decode c_M_known 14 = .ok (.if_icmp .ge 53, 3) := by decide +kernel
theorem d_M_known_17 : decode c_M_known 17 = .ok (.aload_n 0, 1) := by decide +kernel
theorem d_M_known_18 : decode c_M_known 18 = .ok (.getfield 32, 3) := by decide +kernel
theorem d_M_known_21 : decode c_M_known 21 = .ok (.sipush 300, 3) := by decide +kernel
theorem d_M_known_24 : decode c_M_known 24 = .ok (.iload_n 1, 1) := by decide +kernel
theorem d_M_known_25 : decode c_M_known 25 = .ok (.imul, 1) := by decide +kernel
theorem d_M_known_26 : decode c_M_known 26 = .ok (.iload 9, 2) := by decide +kernel
theorem d_M_known_28 : decode c_M_known 28 = .ok (.iadd, 1) := by decide +kernel
theorem d_M_known_29 : decode c_M_known 29 = .ok (.iaload, 1) := by decide +kernel
theorem d_M_known_30 : decode c_M_known 30 = .ok (.istore 10, 2) := by decide +kernel
theorem d_M_known_32 : decode c_M_known 32 = .ok (.lload 7, 2) := by decide +kernel
theorem d_M_known_34 : decode c_M_known 34 = .ok (.aload_n 0, 1) := by decide +kernel
theorem d_M_known_35 : decode c_M_known 35 = .ok (.iload 10, 2) := by decide +kernel
theorem d_M_known_37 : decode c_M_known 37 = .ok (.iload_n 3, 1) := by decide +kernel
theorem d_M_known_38 : decode c_M_known 38 = .ok (.iconst 0, 1) := by decide +kernel
theorem d_M_known_39 : decode c_M_known 39 = .ok (.lload 5, 2) := by decide +kernel
theorem d_M_known_41 : decode c_M_known 41 = .ok (.invokevirtual 104, 3) := by decide +kernel
theorem d_M_known_44 : decode c_M_known 44 = .ok (.ifCond .eq 13, 3) := by decide +kernel
theorem d_M_known_47 : decode c_M_known 47 = .ok (.aload_n 0, 1) := by decide +kernel
theorem d_M_known_48 : decode c_M_known 48 = .ok (.getfield 23, 3) := by decide +kernel
theorem d_M_known_51 : decode c_M_known 51 = .ok (.iload 10, 2) := by decide +kernel
theorem d_M_known_53 : decode c_M_known 53 = .ok (.laload, 1) := by decide +kernel
theorem d_M_known_54 : decode c_M_known 54 = .ok (.goto 4, 3) := by decide +kernel
theorem d_M_known_57 : decode c_M_known 57 = .ok (.lconst 0, 1) := by decide +kernel
theorem d_M_known_58 : decode c_M_known 58 = .ok (.ladd, 1) := by decide +kernel
theorem d_M_known_59 : decode c_M_known 59 = .ok (.lstore 7, 2) := by decide +kernel
theorem d_M_known_61 : decode c_M_known 61 = .ok (.iinc 9 1, 3) := by decide +kernel
theorem d_M_known_64 : decode c_M_known 64 = .ok (.goto (-53), 3) := by decide +kernel
theorem d_M_known_67 : decode c_M_known 67 = .ok (.lload 7, 2) := by decide +kernel
theorem d_M_known_69 : decode c_M_known 69 = .ok (.lreturn, 1) := by decide +kernel
theorem d_M_known_70 : decode c_M_known 70 = .ok (.iload 4, 2) := by decide +kernel
theorem d_M_known_72 : decode c_M_known 72 = .ok (.istore 7, 2) := by decide +kernel
theorem d_M_known_74 : decode c_M_known 74 = .ok (.iload 4, 2) := by decide +kernel
theorem d_M_known_76 : decode c_M_known 76 = .ok (.iconst 2, 1) := by decide +kernel
theorem d_M_known_77 : decode c_M_known 77 = .ok (.if_icmp .ne 21, 3) := by decide +kernel
theorem d_M_known_80 : decode c_M_known 80 = .ok (.aload_n 0, 1) := by decide +kernel
theorem d_M_known_81 : decode c_M_known 81 = .ok (.iload_n 1, 1) := by decide +kernel
theorem d_M_known_82 : decode c_M_known 82 = .ok (.iload_n 2, 1) := by decide +kernel
theorem d_M_known_83 : decode c_M_known 83 = .ok (.iload_n 3, 1) := by decide +kernel
theorem d_M_known_84 : decode c_M_known 84 = .ok (.lload 5, 2) := by decide +kernel
theorem d_M_known_86 : decode c_M_known 86 = .ok (.invokevirtual 116, 3) := by decide +kernel
theorem d_M_known_89 : decode c_M_known 89 = .ok (.ifCond .eq 9, 3) := by decide +kernel
theorem d_M_known_92 : decode c_M_known 92 = .ok (.iconst 3, 1) := by decide +kernel
theorem d_M_known_93 : decode c_M_known 93 = .ok (.istore 7, 2) := by decide +kernel
theorem d_M_known_95 : decode c_M_known 95 = .ok (.goto 23, 3) := by decide +kernel
theorem d_M_known_98 : decode c_M_known 98 = .ok (.iload 4, 2) := by decide +kernel
theorem d_M_known_100 : decode c_M_known 100 = .ok (.iconst 2, 1) := by decide +kernel
theorem d_M_known_101 : decode c_M_known 101 = .ok (.if_icmp .ne 17, 3) := by decide +kernel
theorem d_M_known_104 : decode c_M_known 104 = .ok (.aload_n 0, 1) := by decide +kernel
theorem d_M_known_105 : decode c_M_known 105 = .ok (.iload_n 1, 1) := by decide +kernel
theorem d_M_known_106 : decode c_M_known 106 = .ok (.iload_n 2, 1) := by decide +kernel
theorem d_M_known_107 : decode c_M_known 107 = .ok (.iload_n 3, 1) := by decide +kernel
theorem d_M_known_108 : decode c_M_known 108 = .ok (.lload 5, 2) := by decide +kernel
theorem d_M_known_110 : decode c_M_known 110 = .ok (.invokevirtual 119, 3) := by decide +kernel
theorem d_M_known_113 : decode c_M_known 113 = .ok (.ifCond .eq 5, 3) := by decide +kernel
theorem d_M_known_116 : decode c_M_known 116 = .ok (.lconst 0, 1) := by decide +kernel
theorem d_M_known_117 : decode c_M_known 117 = .ok (.lreturn, 1) := by decide +kernel
theorem d_M_known_118 : decode c_M_known 118 = .ok (.aload_n 0, 1) := by decide +kernel
theorem d_M_known_119 : decode c_M_known 119 = .ok (.iload_n 1, 1) := by decide +kernel
theorem d_M_known_120 : decode c_M_known 120 = .ok (.iload_n 2, 1) := by decide +kernel
theorem d_M_known_121 : decode c_M_known 121 = .ok (.iload_n 3, 1) := by decide +kernel
theorem d_M_known_122 : decode c_M_known 122 = .ok (.iload 7, 2) := by decide +kernel
theorem d_M_known_124 : decode c_M_known 124 = .ok (.lload 5, 2) := by decide +kernel
theorem d_M_known_126 : decode c_M_known 126 = .ok (.invokevirtual 112, 3) := by decide +kernel
theorem d_M_known_129 : decode c_M_known 129 = .ok (.istore 8, 2) := by decide +kernel
theorem d_M_known_131 : decode c_M_known 131 = .ok (.iload 8, 2) := by decide +kernel
theorem d_M_known_133 : decode c_M_known 133 = .ok (.ifCond .ge 7, 3) := by decide +kernel
theorem d_M_known_136 : decode c_M_known 136 = .ok (.lconst 0, 1) := by decide +kernel
theorem d_M_known_137 : decode c_M_known 137 = .ok (.goto 10, 3) := by decide +kernel
theorem d_M_known_140 : decode c_M_known 140 = .ok (.aload_n 0, 1) := by decide +kernel
theorem d_M_known_141 : decode c_M_known 141 = .ok (.getfield 23, 3) := by decide +kernel
theorem d_M_known_144 : decode c_M_known 144 = .ok (.iload 8, 2) := by decide +kernel
theorem d_M_known_146 : decode c_M_known 146 = .ok (.laload, 1) := by decide +kernel
theorem d_M_known_147 : decode c_M_known 147 = .ok (.lreturn, 1) := by decide +kernel
theorem d_M_at_0 : decode c_M_at 0 = .ok (.aload_n 0, 1) := by decide +kernel
theorem d_M_at_1 : decode c_M_at 1 = .ok (.aload_n 0, 1) := by decide +kernel
theorem d_M_at_2 : decode c_M_at 2 = .ok (.iload_n 1, 1) := by decide +kernel
theorem d_M_at_3 : decode c_M_at 3 = .ok (.invokevirtual 89, 3) := by decide +kernel
theorem d_M_at_6 : decode c_M_at 6 = .ok (.ifCond .eq 15, 3) := by decide +kernel
theorem d_M_at_9 : decode c_M_at 9 = .ok (.iload_n 2, 1) := by decide +kernel
theorem d_M_at_10 : decode c_M_at 10 = .ok (.i2l, 1) := by decide +kernel
theorem d_M_at_11 : decode c_M_at 11 = .ok (.lconst 0, 1) := by decide +kernel
theorem d_M_at_12 : decode c_M_at 12 = .ok (.ldc2_w 76, 3) := by decide +kernel
theorem d_M_at_15 : decode c_M_at 15 = .ok (.invokestatic 72, 3) := by decide +kernel
theorem d_M_at_18 : decode c_M_at 18 = .ok (.ifCond .ne 7, 3) := by decide +kernel
theorem d_M_at_21 : decode c_M_at 21 = .ok (.iconst 1, 1) := by decide +kernel
theorem d_M_at_22 : decode c_M_at 22 = .ok (.goto 15, 3) := by decide +kernel
theorem d_M_at_25 : decode c_M_at 25 = .ok (.iload_n 3, 1) := by decide +kernel
theorem d_M_at_26 : decode c_M_at 26 = .ok (.invokestatic 78, 3) := by decide +kernel
theorem d_M_at_29 : decode c_M_at 29 = .ok (.ifCond .eq 7, 3) := by decide +kernel
theorem d_M_at_32 : decode c_M_at 32 = .ok (.iconst 0, 1) := by decide +kernel
theorem d_M_at_33 : decode c_M_at 33 = .ok (.goto 4, 3) := by decide +kernel
theorem d_M_at_36 : decode c_M_at 36 = .ok (.iconst 2, 1) := by decide +kernel
theorem d_M_at_37 : decode c_M_at 37 = .ok (.putfield 64, 3) := by decide +kernel
theorem d_M_at_40 : decode c_M_at 40 = .ok (.aload_n 0, 1) := by decide +kernel
theorem d_M_at_41 : decode c_M_at 41 = .ok (.getfield 64, 3) := by decide +kernel
theorem d_M_at_44 : decode c_M_at 44 = .ok (.ifCond .le 7, 3) := by decide +kernel
theorem d_M_at_47 : decode c_M_at 47 = .ok (.lconst 0, 1) := by decide +kernel
theorem d_M_at_48 : decode c_M_at 48 = .ok (.goto 18, 3) := by decide +kernel
theorem d_M_at_51 : decode c_M_at 51 = .ok (.aload_n 0, 1) := by decide +kernel
theorem d_M_at_52 : decode c_M_at 52 = .ok (.iload_n 1, 1) := by decide +kernel
theorem d_M_at_53 : decode c_M_at 53 = .ok (.aload_n 0, 1) := by decide +kernel
theorem d_M_at_54 : decode c_M_at 54 = .ok (.getfield 29, 3) := by decide +kernel
theorem d_M_at_57 : decode c_M_at 57 = .ok (.iload_n 1, 1) := by decide +kernel
theorem d_M_at_58 : decode c_M_at 58 = .ok (.iaload, 1) := by decide +kernel
theorem d_M_at_59 : decode c_M_at 59 = .ok (.iload_n 2, 1) := by decide +kernel
theorem d_M_at_60 : decode c_M_at 60 = .ok (.iload_n 3, 1) := by decide +kernel
theorem d_M_at_61 : decode c_M_at 61 = .ok (.lload 4, 2) := by decide +kernel
theorem d_M_at_63 : decode c_M_at 63 = .ok (.invokevirtual 122, 3) := by decide +kernel
theorem d_M_at_66 : decode c_M_at 66 = .ok (.lreturn, 1) := by decide +kernel
theorem d_M_end_0 : decode c_M_end 0 = .ok (.ldc2_w 126, 3) := by decide +kernel
theorem d_M_end_3 : decode c_M_end 3 = .ok (.lreturn, 1) := by decide +kernel
theorem d_M_conflict_0 : decode c_M_conflict 0 = .ok (.aload_n 0, 1) := by decide +kernel
theorem d_M_conflict_1 : decode c_M_conflict 1 = .ok (.aload_n 0, 1) := by decide +kernel
theorem d_M_conflict_2 : decode c_M_conflict 2 = .ok (.iload_n 1, 1) := by decide +kernel
theorem d_M_conflict_3 : decode c_M_conflict 3 = .ok (.invokevirtual 89, 3) := by decide +kernel
theorem d_M_conflict_6 : decode c_M_conflict 6 = .ok (.ifCond .ne 7, 3) := by decide +kernel
theorem d_M_conflict_9 : decode c_M_conflict 9 = .ok (.iconst 1, 1) := by decide +kernel
theorem d_M_conflict_10 : decode c_M_conflict 10 = .ok (.goto 12, 3) := by decide +kernel
theorem d_M_conflict_13 : decode c_M_conflict 13 = .ok (.iload_n 2, 1) := by decide +kernel
theorem d_M_conflict_14 : decode c_M_conflict 14 = .ok (.ifCond .ge 7, 3) := by decide +kernel
theorem d_M_conflict_17 : decode c_M_conflict 17 = .ok (.iconst 2, 1) := by decide +kernel
theorem d_M_conflict_18 : decode c_M_conflict 18 = .ok (.goto 4, 3) := by decide +kernel
theorem d_M_conflict_21 : decode c_M_conflict 21 = .ok (.iconst 0, 1) := by decide +kernel
theorem d_M_conflict_22 : decode c_M_conflict 22 = .ok (.putfield 64, 3) := by decide +kernel
theorem d_M_conflict_25 : decode c_M_conflict 25 = .ok (.iload_n 2, 1) := by decide +kernel
theorem d_M_conflict_26 : decode c_M_conflict 26 = .ok (.istore_n 3, 1) := by decide +kernel
theorem d_M_conflict_27 : decode c_M_conflict 27 = .ok (.iconst 0, 1) := by decide +kernel
theorem d_M_conflict_28 : decode c_M_conflict 28 = .ok (.istore 4, 2) := by decide +kernel
theorem d_M_conflict_30 : decode c_M_conflict 30 = .ok (.iload 4, 2) := by decide +kernel
theorem d_M_conflict_32 : decode c_M_conflict 32 = .ok (.bipush 10, 2) := by decide +kernel
theorem d_M_conflict_34 : decode c_M_conflict 34 = .ok (.if_icmp .ge 64, 3) := by decide +kernel
theorem d_M_conflict_37 : decode c_M_conflict 37 = .ok (.aload_n 0, 1) := by decide +kernel
theorem d_M_conflict_38 : decode c_M_conflict 38 = .ok (.getfield 64, 3) := by decide +kernel
theorem d_M_conflict_41 : decode c_M_conflict 41 = .ok (.ifCond .ne 57, 3) := by decide +kernel
theorem d_M_conflict_44 : decode c_M_conflict 44 = .ok (.aload_n 0, 1) := by decide +kernel
theorem d_M_conflict_45 : decode c_M_conflict 45 = .ok (.iload_n 1, 1) := by decide +kernel
theorem d_M_conflict_46 : decode c_M_conflict 46 = .ok (.aload_n 0, 1) := by decide +kernel
theorem d_M_conflict_47 : decode c_M_conflict 47 = .ok (.getfield 29, 3) := by decide +kernel
theorem d_M_conflict_50 : decode c_M_conflict 50 = .ok (.iload_n 1, 1) := by decide +kernel
theorem d_M_conflict_51 : decode c_M_conflict 51 = .ok (.iaload, 1) := by decide +kernel
theorem d_M_conflict_52 : decode c_M_conflict 52 = .ok (.iload 4, 2) := by decide +kernel
theorem d_M_conflict_54 : decode c_M_conflict 54 = .ok (.invokestatic 128, 3) := by decide +kernel
theorem d_M_conflict_57 : decode c_M_conflict 57 = .ok (.invokevirtual 119, 3) := by decide +kernel
theorem d_M_conflict_60 : decode c_M_conflict 60 = .ok (.ifCond .eq 32, 3) := by decide +kernel
theorem d_M_conflict_63 : decode c_M_conflict 63 = .ok (.aload_n 0, 1) := by decide +kernel
theorem d_M_conflict_64 : decode c_M_conflict 64 = .ok (.iload_n 1, 1) := by decide +kernel
theorem d_M_conflict_65 : decode c_M_conflict 65 = .ok (.aload_n 0, 1) := by decide +kernel
theorem d_M_conflict_66 : decode c_M_conflict 66 = .ok (.getfield 29, 3) := by decide +kernel
theorem d_M_conflict_69 : decode c_M_conflict 69 = .ok (.iload_n 1, 1) := by decide +kernel
theorem d_M_conflict_70 : decode c_M_conflict 70 = .ok (.iaload, 1) := by decide +kernel
theorem d_M_conflict_71 : decode c_M_conflict 71 = .ok (.iload 4, 2) := by decide +kernel
theorem d_M_conflict_73 : decode c_M_conflict 73 = .ok (.invokestatic 128, 3) := by decide +kernel
theorem d_M_conflict_76 : decode c_M_conflict 76 = .ok (.invokevirtual 116, 3) := by decide +kernel
theorem d_M_conflict_79 : decode c_M_conflict 79 = .ok (.ifCond .ne 13, 3) := by decide +kernel
theorem d_M_conflict_82 : decode c_M_conflict 82 = .ok (.iload_n 3, 1) := by decide +kernel
theorem d_M_conflict_83 : decode c_M_conflict 83 = .ok (.ifCond .ne 6, 3) := by decide +kernel
theorem d_M_conflict_86 : decode c_M_conflict 86 = .ok (.iload 4, 2) := by decide +kernel
theorem d_M_conflict_88 : decode c_M_conflict 88 = .ok (.ireturn, 1) := by decide +kernel
theorem d_M_conflict_89 : decode c_M_conflict 89 = .ok (.iinc 3 (-1), 3) := by decide +kernel
theorem d_M_conflict_92 : decode c_M_conflict 92 = .ok (.iinc 4 1, 3) := by decide +kernel
theorem d_M_conflict_95 : decode c_M_conflict 95 = .ok (.goto (-65), 3) := by decide +kernel
theorem d_M_conflict_98 : decode c_M_conflict 98 = .ok (.aload_n 0, 1) := by decide +kernel
theorem d_M_conflict_99 : decode c_M_conflict 99 = .ok (.getfield 64, 3) := by decide +kernel
theorem d_M_conflict_102 : decode c_M_conflict 102 = .ok (.ifCond .le 7, 3) := by decide +kernel
theorem d_M_conflict_105 : decode c_M_conflict 105 = .ok (.iconst 0, 1) := by decide +kernel
theorem d_M_conflict_106 : decode c_M_conflict 106 = .ok (.goto 4, 3) := by decide +kernel
theorem d_M_conflict_109 : decode c_M_conflict 109 = .ok (.iconst (-1), 1) := by decide +kernel
theorem d_M_conflict_110 : decode c_M_conflict 110 = .ok (.ireturn, 1) := by decide +kernel
theorem d_M_mark_0 : decode c_M_mark 0 = .ok (.aload_n 0, 1) := by decide +kernel
theorem d_M_mark_1 : decode c_M_mark 1 = .ok (.aload_n 0, 1) := by decide +kernel
theorem d_M_mark_2 : decode c_M_mark 2 = .ok (.iload_n 1, 1) := by decide +kernel
theorem d_M_mark_3 : decode c_M_mark 3 = .ok (.invokevirtual 89, 3) := by decide +kernel
theorem d_M_mark_6 : decode c_M_mark 6 = .ok (.ifCond .eq 7, 3) := by decide +kernel
theorem d_M_mark_9 : decode c_M_mark 9 = .ok (.iconst 0, 1) := by decide +kernel
theorem d_M_mark_10 : decode c_M_mark 10 = .ok (.goto 4, 3) := by decide +kernel
theorem d_M_mark_13 : decode c_M_mark 13 = .ok (.iconst 1, 1) := by decide +kernel
theorem d_M_mark_14 : decode c_M_mark 14 = .ok (.putfield 64, 3) := by decide +kernel
theorem d_M_mark_17 : decode c_M_mark 17 = .ok (.aload_n 0, 1) := by decide +kernel
theorem d_M_mark_18 : decode c_M_mark 18 = .ok (.getfield 64, 3) := by decide +kernel
theorem d_M_mark_21 : decode c_M_mark 21 = .ok (.ifCond .le 7, 3) := by decide +kernel
theorem d_M_mark_24 : decode c_M_mark 24 = .ok (.iconst 0, 1) := by decide +kernel
theorem d_M_mark_25 : decode c_M_mark 25 = .ok (.goto 9, 3) := by decide +kernel
theorem d_M_mark_28 : decode c_M_mark 28 = .ok (.aload_n 0, 1) := by decide +kernel
theorem d_M_mark_29 : decode c_M_mark 29 = .ok (.getfield 29, 3) := by decide +kernel
theorem d_M_mark_32 : decode c_M_mark 32 = .ok (.iload_n 1, 1) := by decide +kernel
theorem d_M_mark_33 : decode c_M_mark 33 = .ok (.iaload, 1) := by decide +kernel
theorem d_M_mark_34 : decode c_M_mark 34 = .ok (.ireturn, 1) := by decide +kernel
theorem d_M_since_0 : decode c_M_since 0 = .ok (.aload_n 0, 1) := by decide +kernel
theorem d_M_since_1 : decode c_M_since 1 = .ok (.aload_n 0, 1) := by decide +kernel
theorem d_M_since_2 : decode c_M_since 2 = .ok (.iload_n 1, 1) := by decide +kernel
theorem d_M_since_3 : decode c_M_since 3 = .ok (.invokevirtual 89, 3) := by decide +kernel
theorem d_M_since_6 : decode c_M_since 6 = .ok (.ifCond .eq 27, 3) := by decide +kernel
theorem d_M_since_9 : decode c_M_since 9 = .ok (.iload_n 2, 1) := by decide +kernel
theorem d_M_since_10 : decode c_M_since 10 = .ok (.ifCond .lt 27, 3) := by decide +kernel
theorem d_M_since_13 : decode c_M_since 13 = .ok (.iload_n 3, 1) := by decide +kernel
theorem d_M_since_14 : decode c_M_since 14 = .ok (.ifCond .lt 23, 3) := by decide +kernel
theorem d_M_since_17 : decode c_M_since 17 = .ok (.iload_n 2, 1) := by decide +kernel
theorem d_M_since_18 : decode c_M_since 18 = .ok (.i2l, 1) := by decide +kernel
theorem d_M_since_19 : decode c_M_since 19 = .ok (.iload_n 3, 1) := by decide +kernel
theorem d_M_since_20 : decode c_M_since 20 = .ok (.i2l, 1) := by decide +kernel
theorem d_M_since_21 : decode c_M_since 21 = .ok (.ladd, 1) := by decide +kernel
theorem d_M_since_22 : decode c_M_since 22 = .ok (.aload_n 0, 1) := by decide +kernel
theorem d_M_since_23 : decode c_M_since 23 = .ok (.getfield 29, 3) := by decide +kernel
theorem d_M_since_26 : decode c_M_since 26 = .ok (.iload_n 1, 1) := by decide +kernel
theorem d_M_since_27 : decode c_M_since 27 = .ok (.iaload, 1) := by decide +kernel
theorem d_M_since_28 : decode c_M_since 28 = .ok (.i2l, 1) := by decide +kernel
theorem d_M_since_29 : decode c_M_since 29 = .ok (.lcmp, 1) := by decide +kernel
theorem d_M_since_30 : decode c_M_since 30 = .ok (.ifCond .lt 7, 3) := by decide +kernel
theorem d_M_since_33 : decode c_M_since 33 = .ok (.iconst 1, 1) := by decide +kernel
theorem d_M_since_34 : decode c_M_since 34 = .ok (.goto 29, 3) := by decide +kernel
theorem d_M_since_37 : decode c_M_since 37 = .ok (.iload_n 2, 1) := by decide +kernel
theorem d_M_since_38 : decode c_M_since 38 = .ok (.ifCond .lt 20, 3) := by decide +kernel
theorem d_M_since_41 : decode c_M_since 41 = .ok (.iload_n 3, 1) := by decide +kernel
theorem d_M_since_42 : decode c_M_since 42 = .ok (.ifCond .lt 16, 3) := by decide +kernel
theorem d_M_since_45 : decode c_M_since 45 = .ok (.iload 4, 2) := by decide +kernel
theorem d_M_since_47 : decode c_M_since 47 = .ok (.i2l, 1) := by decide +kernel
theorem d_M_since_48 : decode c_M_since 48 = .ok (.lconst 0, 1) := by decide +kernel
theorem d_M_since_49 : decode c_M_since 49 = .ok (.ldc2_w 132, 3) := by decide +kernel
theorem d_M_since_52 : decode c_M_since 52 = .ok (.invokestatic 72, 3) := by decide +kernel
theorem d_M_since_55 : decode c_M_since 55 = .ok (.ifCond .ne 7, 3) := by decide +kernel
theorem d_M_since_58 : decode c_M_since 58 = .ok (.iconst 2, 1) := by decide +kernel
theorem d_M_since_59 : decode c_M_since 59 = .ok (.goto 4, 3) := by decide +kernel
theorem d_M_since_62 : decode c_M_since 62 = .ok (.iconst 0, 1) := by decide +kernel
theorem d_M_since_63 : decode c_M_since 63 = .ok (.putfield 64, 3) := by decide +kernel
theorem d_M_since_66 : decode c_M_since 66 = .ok (.aload_n 0, 1) := by decide +kernel
theorem d_M_since_67 : decode c_M_since 67 = .ok (.getfield 64, 3) := by decide +kernel
theorem d_M_since_70 : decode c_M_since 70 = .ok (.ifCond .le 5, 3) := by decide +kernel
theorem d_M_since_73 : decode c_M_since 73 = .ok (.lconst 0, 1) := by decide +kernel
theorem d_M_since_74 : decode c_M_since 74 = .ok (.lreturn, 1) := by decide +kernel
theorem d_M_since_75 : decode c_M_since 75 = .ok (.aload_n 0, 1) := by decide +kernel
theorem d_M_since_76 : decode c_M_since 76 = .ok (.getfield 32, 3) := by decide +kernel
theorem d_M_since_79 : decode c_M_since 79 = .ok (.sipush 300, 3) := by decide +kernel
theorem d_M_since_82 : decode c_M_since 82 = .ok (.iload_n 1, 1) := by decide +kernel
theorem d_M_since_83 : decode c_M_since 83 = .ok (.imul, 1) := by decide +kernel
theorem d_M_since_84 : decode c_M_since 84 = .ok (.iload_n 2, 1) := by decide +kernel
theorem d_M_since_85 : decode c_M_since 85 = .ok (.iadd, 1) := by decide +kernel
theorem d_M_since_86 : decode c_M_since 86 = .ok (.iload_n 3, 1) := by decide +kernel
theorem d_M_since_87 : decode c_M_since 87 = .ok (.iadd, 1) := by decide +kernel
theorem d_M_since_88 : decode c_M_since 88 = .ok (.iaload, 1) := by decide +kernel
theorem d_M_since_89 : decode c_M_since 89 = .ok (.istore 5, 2) := by decide +kernel
theorem d_M_since_91 : decode c_M_since 91 = .ok (.iload 4, 2) := by decide +kernel
theorem d_M_since_93 : decode c_M_since 93 = .ok (.ifCond .ne 14, 3) := by decide +kernel
theorem d_M_since_96 : decode c_M_since 96 = .ok (.aload_n 0, 1) := by decide +kernel
theorem d_M_since_97 : decode c_M_since 97 = .ok (.getfield 7, 3) := by decide +kernel
theorem d_M_since_100 : decode c_M_since 100 = .ok (.iload 5, 2) := by decide +kernel
theorem d_M_since_102 : decode c_M_since 102 = .ok (.iaload, 1) := by decide +kernel
theorem d_M_since_103 : decode c_M_since 103 = .ok (.i2l, 1) := by decide +kernel
theorem d_M_since_104 : decode c_M_since 104 = .ok (.goto 26, 3) := by decide +kernel
theorem d_M_since_107 : decode c_M_since 107 = .ok (.iload 4, 2) := by decide +kernel
theorem d_M_since_109 : decode c_M_since 109 = .ok (.iconst 1, 1) := by decide +kernel
theorem d_M_since_110 : decode c_M_since 110 = .ok (.if_icmp .ne 13, 3) := by decide +kernel
theorem d_M_since_113 : decode c_M_since 113 = .ok (.aload_n 0, 1) := by decide +kernel
theorem d_M_since_114 : decode c_M_since 114 = .ok (.getfield 13, 3) := by decide +kernel
theorem d_M_since_117 : decode c_M_since 117 = .ok (.iload 5, 2) := by decide +kernel
theorem d_M_since_119 : decode c_M_since 119 = .ok (.laload, 1) := by decide +kernel
theorem d_M_since_120 : decode c_M_since 120 = .ok (.goto 10, 3) := by decide +kernel
theorem d_M_since_123 : decode c_M_since 123 = .ok (.aload_n 0, 1) := by decide +kernel
theorem d_M_since_124 : decode c_M_since 124 = .ok (.getfield 23, 3) := by decide +kernel
theorem d_M_since_127 : decode c_M_since 127 = .ok (.iload 5, 2) := by decide +kernel
theorem d_M_since_129 : decode c_M_since 129 = .ok (.laload, 1) := by decide +kernel
theorem d_M_since_130 : decode c_M_since 130 = .ok (.lreturn, 1) := by decide +kernel
theorem d_M_batch_0 : decode c_M_batch 0 = .ok (.aload_n 0, 1) := by decide +kernel
theorem d_M_batch_1 : decode c_M_batch 1 = .ok (.aload_n 0, 1) := by decide +kernel
theorem d_M_batch_2 : decode c_M_batch 2 = .ok (.iload_n 1, 1) := by decide +kernel
theorem d_M_batch_3 : decode c_M_batch 3 = .ok (.invokevirtual 89, 3) := by decide +kernel
theorem d_M_batch_6 : decode c_M_batch 6 = .ok (.ifCond .eq 7, 3) := by decide +kernel
theorem d_M_batch_9 : decode c_M_batch 9 = .ok (.iconst 0, 1) := by decide +kernel
theorem d_M_batch_10 : decode c_M_batch 10 = .ok (.goto 4, 3) := by decide +kernel
theorem d_M_batch_13 : decode c_M_batch 13 = .ok (.iconst 1, 1) := by decide +kernel
theorem d_M_batch_14 : decode c_M_batch 14 = .ok (.putfield 64, 3) := by decide +kernel
theorem d_M_batch_17 : decode c_M_batch 17 = .ok (.aload_n 0, 1) := by decide +kernel
theorem d_M_batch_18 : decode c_M_batch 18 = .ok (.getfield 64, 3) := by decide +kernel
theorem d_M_batch_21 : decode c_M_batch 21 = .ok (.ifCond .gt 21, 3) := by decide +kernel
theorem d_M_batch_24 : decode c_M_batch 24 = .ok (.aload_n 0, 1) := by decide +kernel
theorem d_M_batch_25 : decode c_M_batch 25 = .ok (.getfield 35, 3) := by decide +kernel
theorem d_M_batch_28 : decode c_M_batch 28 = .ok (.iload_n 1, 1) := by decide +kernel
theorem d_M_batch_29 : decode c_M_batch 29 = .ok (.iaload, 1) := by decide +kernel
theorem d_M_batch_30 : decode c_M_batch 30 = .ok (.ifCond .lt 7, 3) := by decide +kernel
theorem d_M_batch_33 : decode c_M_batch 33 = .ok (.iconst 1, 1) := by decide +kernel
theorem d_M_batch_34 : decode c_M_batch 34 = .ok (.goto 4, 3) := by decide +kernel
theorem d_M_batch_37 : decode c_M_batch 37 = .ok (.iconst 0, 1) := by decide +kernel
theorem d_M_batch_38 : decode c_M_batch 38 = .ok (.iload_n 2, 1) := by decide +kernel
theorem d_M_batch_39 : decode c_M_batch 39 = .ok (.if_icmp .ne 5, 3) := by decide +kernel
theorem d_M_batch_42 : decode c_M_batch 42 = .ok (.iconst 0, 1) := by decide +kernel
theorem d_M_batch_43 : decode c_M_batch 43 = .ok (.ireturn, 1) := by decide +kernel
theorem d_M_batch_44 : decode c_M_batch 44 = .ok (.aload_n 0, 1) := by decide +kernel
theorem d_M_batch_45 : decode c_M_batch 45 = .ok (.getfield 35, 3) := by decide +kernel
theorem d_M_batch_48 : decode c_M_batch 48 = .ok (.iload_n 1, 1) := by decide +kernel
theorem d_M_batch_49 : decode c_M_batch 49 = .ok (.iload_n 2, 1) := by decide +kernel
theorem d_M_batch_50 : decode c_M_batch 50 = .ok (.ifCond .eq 12, 3) := by decide +kernel
theorem d_M_batch_53 : decode c_M_batch 53 = .ok (.aload_n 0, 1) := by decide +kernel
theorem d_M_batch_54 : decode c_M_batch 54 = .ok (.getfield 29, 3) := by decide +kernel
theorem d_M_batch_57 : decode c_M_batch 57 = .ok (.iload_n 1, 1) := by decide +kernel
theorem d_M_batch_58 : decode c_M_batch 58 = .ok (.iaload, 1) := by decide +kernel
theorem d_M_batch_59 : decode c_M_batch 59 = .ok (.goto 4, 3) := by decide +kernel
theorem d_M_batch_62 : decode c_M_batch 62 = .ok (.iconst (-1), 1) := by decide +kernel
theorem d_M_batch_63 : decode c_M_batch 63 = .ok (.iastore, 1) := by decide +kernel
theorem d_M_batch_64 : decode c_M_batch 64 = .ok (.iconst 1, 1) := by decide +kernel
theorem d_M_batch_65 : decode c_M_batch 65 = .ok (.ireturn, 1) := by decide +kernel
theorem d_M_right_0 : decode c_M_right 0 = .ok (.aload_n 0, 1) := by decide +kernel
theorem d_M_right_1 : decode c_M_right 1 = .ok (.iload_n 1, 1) := by decide +kernel
theorem d_M_right_2 : decode c_M_right 2 = .ok (.i2l, 1) := by decide +kernel
theorem d_M_right_3 : decode c_M_right 3 = .ok (.lconst 0, 1) := by decide +kernel
theorem d_M_right_4 : decode c_M_right 4 = .ok (.ldc2_w 134, 3) := by decide +kernel
theorem d_M_right_7 : decode c_M_right 7 = .ok (.invokestatic 72, 3) := by decide +kernel
theorem d_M_right_10 : decode c_M_right 10 = .ok (.ifCond .ne 7, 3) := by decide +kernel
theorem d_M_right_13 : decode c_M_right 13 = .ok (.iconst 1, 1) := by decide +kernel
theorem d_M_right_14 : decode c_M_right 14 = .ok (.goto 15, 3) := by decide +kernel
theorem d_M_right_17 : decode c_M_right 17 = .ok (.iload_n 2, 1) := by decide +kernel
theorem d_M_right_18 : decode c_M_right 18 = .ok (.invokestatic 78, 3) := by decide +kernel
theorem d_M_right_21 : decode c_M_right 21 = .ok (.ifCond .eq 7, 3) := by decide +kernel
theorem d_M_right_24 : decode c_M_right 24 = .ok (.iconst 0, 1) := by decide +kernel
theorem d_M_right_25 : decode c_M_right 25 = .ok (.goto 4, 3) := by decide +kernel
theorem d_M_right_28 : decode c_M_right 28 = .ok (.iconst 2, 1) := by decide +kernel
theorem d_M_right_29 : decode c_M_right 29 = .ok (.putfield 64, 3) := by decide +kernel
theorem d_M_right_32 : decode c_M_right 32 = .ok (.aload_n 0, 1) := by decide +kernel
theorem d_M_right_33 : decode c_M_right 33 = .ok (.getfield 64, 3) := by decide +kernel
theorem d_M_right_36 : decode c_M_right 36 = .ok (.ifCond .gt 17, 3) := by decide +kernel
theorem d_M_right_39 : decode c_M_right 39 = .ok (.aload_n 0, 1) := by decide +kernel
theorem d_M_right_40 : decode c_M_right 40 = .ok (.getfield 38, 3) := by decide +kernel
theorem d_M_right_43 : decode c_M_right 43 = .ok (.iconst 4, 1) := by decide +kernel
theorem d_M_right_44 : decode c_M_right 44 = .ok (.iload_n 1, 1) := by decide +kernel
theorem d_M_right_45 : decode c_M_right 45 = .ok (.imul, 1) := by decide +kernel
theorem d_M_right_46 : decode c_M_right 46 = .ok (.iload_n 2, 1) := by decide +kernel
theorem d_M_right_47 : decode c_M_right 47 = .ok (.iadd, 1) := by decide +kernel
theorem d_M_right_48 : decode c_M_right 48 = .ok (.baload, 1) := by decide +kernel
theorem d_M_right_49 : decode c_M_right 49 = .ok (.iload_n 3, 1) := by decide +kernel
theorem d_M_right_50 : decode c_M_right 50 = .ok (.if_icmp .ne 5, 3) := by decide +kernel
theorem d_M_right_53 : decode c_M_right 53 = .ok (.iconst 0, 1) := by decide +kernel
theorem d_M_right_54 : decode c_M_right 54 = .ok (.ireturn, 1) := by decide +kernel
theorem d_M_right_55 : decode c_M_right 55 = .ok (.aload_n 0, 1) := by decide +kernel
theorem d_M_right_56 : decode c_M_right 56 = .ok (.getfield 38, 3) := by decide +kernel
theorem d_M_right_59 : decode c_M_right 59 = .ok (.iconst 4, 1) := by decide +kernel
theorem d_M_right_60 : decode c_M_right 60 = .ok (.iload_n 1, 1) := by decide +kernel
theorem d_M_right_61 : decode c_M_right 61 = .ok (.imul, 1) := by decide +kernel
theorem d_M_right_62 : decode c_M_right 62 = .ok (.iload_n 2, 1) := by decide +kernel
theorem d_M_right_63 : decode c_M_right 63 = .ok (.iadd, 1) := by decide +kernel
theorem d_M_right_64 : decode c_M_right 64 = .ok (.iload_n 3, 1) := by decide +kernel
theorem d_M_right_65 : decode c_M_right 65 = .ok (.bastore, 1) := by decide +kernel
theorem d_M_right_66 : decode c_M_right 66 = .ok (.iconst 1, 1) := by decide +kernel
theorem d_M_right_67 : decode c_M_right 67 = .ok (.ireturn, 1) := by decide +kernel
theorem d_M_seen_0 : decode c_M_seen 0 = .ok (.aload_n 0, 1) := by decide +kernel
theorem d_M_seen_1 : decode c_M_seen 1 = .ok (.iload_n 1, 1) := by decide +kernel
theorem d_M_seen_2 : decode c_M_seen 2 = .ok (.i2l, 1) := by decide +kernel
theorem d_M_seen_3 : decode c_M_seen 3 = .ok (.lconst 0, 1) := by decide +kernel
theorem d_M_seen_4 : decode c_M_seen 4 = .ok (.ldc2_w 134, 3) := by decide +kernel
theorem d_M_seen_7 : decode c_M_seen 7 = .ok (.invokestatic 72, 3) := by decide +kernel
theorem d_M_seen_10 : decode c_M_seen 10 = .ok (.ifCond .eq 23, 3) := by decide +kernel
theorem d_M_seen_13 : decode c_M_seen 13 = .ok (.aload_n 0, 1) := by decide +kernel
theorem d_M_seen_14 : decode c_M_seen 14 = .ok (.iload_n 2, 1) := by decide +kernel
theorem d_M_seen_15 : decode c_M_seen 15 = .ok (.invokevirtual 89, 3) := by decide +kernel
theorem d_M_seen_18 : decode c_M_seen 18 = .ok (.ifCond .eq 15, 3) := by decide +kernel
theorem d_M_seen_21 : decode c_M_seen 21 = .ok (.iload_n 3, 1) := by decide +kernel
theorem d_M_seen_22 : decode c_M_seen 22 = .ok (.i2l, 1) := by decide +kernel
theorem d_M_seen_23 : decode c_M_seen 23 = .ok (.lconst 0, 1) := by decide +kernel
theorem d_M_seen_24 : decode c_M_seen 24 = .ok (.ldc2_w 76, 3) := by decide +kernel
theorem d_M_seen_27 : decode c_M_seen 27 = .ok (.invokestatic 72, 3) := by decide +kernel
theorem d_M_seen_30 : decode c_M_seen 30 = .ok (.ifCond .ne 7, 3) := by decide +kernel
theorem d_M_seen_33 : decode c_M_seen 33 = .ok (.iconst 1, 1) := by decide +kernel
theorem d_M_seen_34 : decode c_M_seen 34 = .ok (.goto 34, 3) := by decide +kernel
theorem d_M_seen_37 : decode c_M_seen 37 = .ok (.iload 4, 2) := by decide +kernel
theorem d_M_seen_39 : decode c_M_seen 39 = .ok (.invokestatic 78, 3) := by decide +kernel
theorem d_M_seen_42 : decode c_M_seen 42 = .ok (.ifCond .ne 7, 3) := by decide +kernel
theorem d_M_seen_45 : decode c_M_seen 45 = .ok (.iconst 2, 1) := by decide +kernel
theorem d_M_seen_46 : decode c_M_seen 46 = .ok (.goto 22, 3) := by decide +kernel
theorem d_M_seen_49 : decode c_M_seen 49 = .ok (.aload_n 0, 1) := by decide +kernel
theorem d_M_seen_50 : decode c_M_seen 50 = .ok (.getfield 38, 3) := by decide +kernel
theorem d_M_seen_53 : decode c_M_seen 53 = .ok (.iconst 4, 1) := by decide +kernel
theorem d_M_seen_54 : decode c_M_seen 54 = .ok (.iload_n 1, 1) := by decide +kernel
theorem d_M_seen_55 : decode c_M_seen 55 = .ok (.imul, 1) := by decide +kernel
theorem d_M_seen_56 : decode c_M_seen 56 = .ok (.iload 4, 2) := by decide +kernel
theorem d_M_seen_58 : decode c_M_seen 58 = .ok (.iadd, 1) := by decide +kernel
theorem d_M_seen_59 : decode c_M_seen 59 = .ok (.baload, 1) := by decide +kernel
theorem d_M_seen_60 : decode c_M_seen 60 = .ok (.ifCond .eq 7, 3) := by decide +kernel
theorem d_M_seen_63 : decode c_M_seen 63 = .ok (.iconst 0, 1) := by decide +kernel
theorem d_M_seen_64 : decode c_M_seen 64 = .ok (.goto 4, 3) := by decide +kernel
theorem d_M_seen_67 : decode c_M_seen 67 = .ok (.iconst 3, 1) := by decide +kernel
theorem d_M_seen_68 : decode c_M_seen 68 = .ok (.putfield 64, 3) := by decide +kernel
theorem d_M_seen_71 : decode c_M_seen 71 = .ok (.aload_n 0, 1) := by decide +kernel
theorem d_M_seen_72 : decode c_M_seen 72 = .ok (.getfield 64, 3) := by decide +kernel
theorem d_M_seen_75 : decode c_M_seen 75 = .ok (.ifCond .le 7, 3) := by decide +kernel
theorem d_M_seen_78 : decode c_M_seen 78 = .ok (.lconst 0, 1) := by decide +kernel
theorem d_M_seen_79 : decode c_M_seen 79 = .ok (.goto 38, 3) := by decide +kernel
theorem d_M_seen_82 : decode c_M_seen 82 = .ok (.aload_n 0, 1) := by decide +kernel
theorem d_M_seen_83 : decode c_M_seen 83 = .ok (.iload_n 2, 1) := by decide +kernel
theorem d_M_seen_84 : decode c_M_seen 84 = .ok (.aload_n 0, 1) := by decide +kernel
theorem d_M_seen_85 : decode c_M_seen 85 = .ok (.getfield 35, 3) := by decide +kernel
theorem d_M_seen_88 : decode c_M_seen 88 = .ok (.iload_n 2, 1) := by decide +kernel
theorem d_M_seen_89 : decode c_M_seen 89 = .ok (.iaload, 1) := by decide +kernel
theorem d_M_seen_90 : decode c_M_seen 90 = .ok (.ifCond .lt 12, 3) := by decide +kernel
theorem d_M_seen_93 : decode c_M_seen 93 = .ok (.aload_n 0, 1) := by decide +kernel
theorem d_M_seen_94 : decode c_M_seen 94 = .ok (.getfield 35, 3) := by decide +kernel
theorem d_M_seen_97 : decode c_M_seen 97 = .ok (.iload_n 2, 1) := by decide +kernel
theorem d_M_seen_98 : decode c_M_seen 98 = .ok (.iaload, 1) := by decide +kernel
theorem d_M_seen_99 : decode c_M_seen 99 = .ok (.goto 9, 3) := by decide +kernel
theorem d_M_seen_102 : decode c_M_seen 102 = .ok (.aload_n 0, 1) := by decide +kernel
theorem d_M_seen_103 : decode c_M_seen 103 = .ok (.getfield 29, 3) := by decide +kernel
theorem d_M_seen_106 : decode c_M_seen 106 = .ok (.iload_n 2, 1) := by decide +kernel
theorem d_M_seen_107 : decode c_M_seen 107 = .ok (.iaload, 1) := by decide +kernel
theorem d_M_seen_108 : decode c_M_seen 108 = .ok (.iload_n 3, 1) := by decide +kernel
theorem d_M_seen_109 : decode c_M_seen 109 = .ok (.iload 4, 2) := by decide +kernel
theorem d_M_seen_111 : decode c_M_seen 111 = .ok (.invokestatic 128, 3) := by decide +kernel
theorem d_M_seen_114 : decode c_M_seen 114 = .ok (.invokevirtual 122, 3) := by decide +kernel
theorem d_M_seen_117 : decode c_M_seen 117 = .ok (.lreturn, 1) := by decide +kernel
theorem d_M_entry_0 : decode c_M_entry 0 = .ok (.aload_n 0, 1) := by decide +kernel
theorem d_M_entry_1 : decode c_M_entry 1 = .ok (.iload_n 1, 1) := by decide +kernel
theorem d_M_entry_2 : decode c_M_entry 2 = .ok (.i2l, 1) := by decide +kernel
theorem d_M_entry_3 : decode c_M_entry 3 = .ok (.lconst 0, 1) := by decide +kernel
theorem d_M_entry_4 : decode c_M_entry 4 = .ok (.ldc2_w 136, 3) := by decide +kernel
theorem d_M_entry_7 : decode c_M_entry 7 = .ok (.invokestatic 72, 3) := by decide +kernel
theorem d_M_entry_10 : decode c_M_entry 10 = .ok (.ifCond .ne 7, 3) := by decide +kernel
theorem d_M_entry_13 : decode c_M_entry 13 = .ok (.iconst 1, 1) := by decide +kernel
theorem d_M_entry_14 : decode c_M_entry 14 = .ok (.goto 17, 3) := by decide +kernel
theorem d_M_entry_17 : decode c_M_entry 17 = .ok (.aload_n 0, 1) := by decide +kernel
theorem d_M_entry_18 : decode c_M_entry 18 = .ok (.getfield 138, 3) := by decide +kernel
theorem d_M_entry_21 : decode c_M_entry 21 = .ok (.bipush 60, 2) := by decide +kernel
theorem d_M_entry_23 : decode c_M_entry 23 = .ok (.if_icmp .ne 7, 3) := by decide +kernel
theorem d_M_entry_26 : decode c_M_entry 26 = .ok (.iconst 2, 1) := by decide +kernel
theorem d_M_entry_27 : decode c_M_entry 27 = .ok (.goto 4, 3) := by decide +kernel
theorem d_M_entry_30 : decode c_M_entry 30 = .ok (.iconst 0, 1) := by decide +kernel
theorem d_M_entry_31 : decode c_M_entry 31 = .ok (.putfield 64, 3) := by decide +kernel
theorem d_M_entry_34 : decode c_M_entry 34 = .ok (.aload_n 0, 1) := by decide +kernel
theorem d_M_entry_35 : decode c_M_entry 35 = .ok (.getfield 64, 3) := by decide +kernel
theorem d_M_entry_38 : decode c_M_entry 38 = .ok (.ifCond .le 7, 3) := by decide +kernel
theorem d_M_entry_41 : decode c_M_entry 41 = .ok (.iconst 0, 1) := by decide +kernel
theorem d_M_entry_42 : decode c_M_entry 42 = .ok (.goto 8, 3) := by decide +kernel
theorem d_M_entry_45 : decode c_M_entry 45 = .ok (.aload_n 0, 1) := by decide +kernel
theorem d_M_entry_46 : decode c_M_entry 46 = .ok (.iload_n 1, 1) := by decide +kernel
theorem d_M_entry_47 : decode c_M_entry 47 = .ok (.invokevirtual 141, 3) := by decide +kernel
theorem d_M_entry_50 : decode c_M_entry 50 = .ok (.ireturn, 1) := by decide +kernel
theorem d_M_open_0 : decode c_M_open 0 = .ok (.aload_n 0, 1) := by decide +kernel
theorem d_M_open_1 : decode c_M_open 1 = .ok (.getfield 42, 3) := by decide +kernel
theorem d_M_open_4 : decode c_M_open 4 = .ok (.aload_n 0, 1) := by decide +kernel
theorem d_M_open_5 : decode c_M_open 5 = .ok (.getfield 138, 3) := by decide +kernel
theorem d_M_open_8 : decode c_M_open 8 = .ok (.iload_n 1, 1) := by decide +kernel
theorem d_M_open_9 : decode c_M_open 9 = .ok (.iastore, 1) := by decide +kernel
theorem d_M_open_10 : decode c_M_open 10 = .ok (.aload_n 0, 1) := by decide +kernel
theorem d_M_open_11 : decode c_M_open 11 = .ok (.dup, 1) := by decide +kernel
theorem d_M_open_12 : decode c_M_open 12 = .ok (.getfield 138, 3) := by decide +kernel
theorem d_M_open_15 : decode c_M_open 15 = .ok (.iconst 1, 1) := by decide +kernel
theorem d_M_open_16 : decode c_M_open 16 = .ok (.iadd, 1) := by decide +kernel
theorem d_M_open_17 : decode c_M_open 17 = .ok (.putfield 138, 3) := by decide +kernel
theorem d_M_open_20 : decode c_M_open 20 = .ok (.aload_n 0, 1) := by decide +kernel
theorem d_M_open_21 : decode c_M_open 21 = .ok (.getfield 138, 3) := by decide +kernel
theorem d_M_open_24 : decode c_M_open 24 = .ok (.iconst 1, 1) := by decide +kernel
theorem d_M_open_25 : decode c_M_open 25 = .ok (.isub, 1) := by decide +kernel
theorem d_M_open_26 : decode c_M_open 26 = .ok (.ireturn, 1) := by decide +kernel
theorem d_M_isEntry_0 : decode c_M_isEntry 0 = .ok (.iload_n 1, 1) := by decide +kernel
theorem d_M_isEntry_1 : decode c_M_isEntry 1 = .ok (.ifCond .lt 15, 3) := by decide +kernel
theorem d_M_isEntry_4 : decode c_M_isEntry 4 = .ok (.iload_n 1, 1) := by decide +kernel
theorem d_M_isEntry_5 : decode c_M_isEntry 5 = .ok (.aload_n 0, 1) := by decide +kernel
theorem d_M_isEntry_6 : decode c_M_isEntry 6 = .ok (.getfield 138, 3) := by decide +kernel
theorem d_M_isEntry_9 : decode c_M_isEntry 9 = .ok (.if_icmp .ge 7, 3) := by decide +kernel
theorem d_M_isEntry_12 : decode c_M_isEntry 12 = .ok (.iconst 1, 1) := by decide +kernel
theorem d_M_isEntry_13 : decode c_M_isEntry 13 = .ok (.goto 4, 3) := by decide +kernel
theorem d_M_isEntry_16 : decode c_M_isEntry 16 = .ok (.iconst 0, 1) := by decide +kernel
theorem d_M_isEntry_17 : decode c_M_isEntry 17 = .ok (.ireturn, 1) := by decide +kernel
theorem d_M_addRow_0 : decode c_M_addRow 0 = .ok (.aload_n 0, 1) := by decide +kernel
theorem d_M_addRow_1 : decode c_M_addRow 1 = .ok (.getfield 48, 3) := by decide +kernel
theorem d_M_addRow_4 : decode c_M_addRow 4 = .ok (.bipush 6, 2) := by decide +kernel
theorem d_M_addRow_6 : decode c_M_addRow 6 = .ok (.iload_n 1, 1) := by decide +kernel
theorem d_M_addRow_7 : decode c_M_addRow 7 = .ok (.imul, 1) := by decide +kernel
theorem d_M_addRow_8 : decode c_M_addRow 8 = .ok (.aload_n 0, 1) := by decide +kernel
theorem d_M_addRow_9 : decode c_M_addRow 9 = .ok (.getfield 45, 3) := by decide +kernel
theorem d_M_addRow_12 : decode c_M_addRow 12 = .ok (.iload_n 1, 1) := by decide +kernel
theorem d_M_addRow_13 : decode c_M_addRow 13 = .ok (.iaload, 1) := by decide +kernel
theorem d_M_addRow_14 : decode c_M_addRow 14 = .ok (.iadd, 1) := by decide +kernel
theorem d_M_addRow_15 : decode c_M_addRow 15 = .ok (.iload_n 2, 1) := by decide +kernel
theorem d_M_addRow_16 : decode c_M_addRow 16 = .ok (.iastore, 1) := by decide +kernel
theorem d_M_addRow_17 : decode c_M_addRow 17 = .ok (.aload_n 0, 1) := by decide +kernel
theorem d_M_addRow_18 : decode c_M_addRow 18 = .ok (.getfield 51, 3) := by decide +kernel
theorem d_M_addRow_21 : decode c_M_addRow 21 = .ok (.bipush 6, 2) := by decide +kernel
theorem d_M_addRow_23 : decode c_M_addRow 23 = .ok (.iload_n 1, 1) := by decide +kernel
theorem d_M_addRow_24 : decode c_M_addRow 24 = .ok (.imul, 1) := by decide +kernel
theorem d_M_addRow_25 : decode c_M_addRow 25 = .ok (.aload_n 0, 1) := by decide +kernel
theorem d_M_addRow_26 : decode c_M_addRow 26 = .ok (.getfield 45, 3) := by decide +kernel
theorem d_M_addRow_29 : decode c_M_addRow 29 = .ok (.iload_n 1, 1) := by decide +kernel
theorem d_M_addRow_30 : decode c_M_addRow 30 = .ok (.iaload, 1) := by decide +kernel
theorem d_M_addRow_31 : decode c_M_addRow 31 = .ok (.iadd, 1) := by decide +kernel
theorem d_M_addRow_32 : decode c_M_addRow 32 = .ok (.lload_n 3, 1) := by decide +kernel
theorem d_M_addRow_33 : decode c_M_addRow 33 = .ok (.lastore, 1) := by decide +kernel
theorem d_M_addRow_34 : decode c_M_addRow 34 = .ok (.aload_n 0, 1) := by decide +kernel
theorem d_M_addRow_35 : decode c_M_addRow 35 = .ok (.getfield 45, 3) := by decide +kernel
theorem d_M_addRow_38 : decode c_M_addRow 38 = .ok (.iload_n 1, 1) := by decide +kernel
theorem d_M_addRow_39 : decode c_M_addRow 39 = .ok (.dup2, 1) := by decide +kernel
theorem d_M_addRow_40 : decode c_M_addRow 40 = .ok (.iaload, 1) := by decide +kernel
theorem d_M_addRow_41 : decode c_M_addRow 41 = .ok (.iconst 1, 1) := by decide +kernel
theorem d_M_addRow_42 : decode c_M_addRow 42 = .ok (.iadd, 1) := by decide +kernel
theorem d_M_addRow_43 : decode c_M_addRow 43 = .ok (.iastore, 1) := by decide +kernel
theorem d_M_addRow_44 : decode c_M_addRow 44 = .ok (.return_, 1) := by decide +kernel
theorem d_M_row_0 : decode c_M_row 0 = .ok (.aload_n 0, 1) := by decide +kernel
theorem d_M_row_1 : decode c_M_row 1 = .ok (.aload_n 0, 1) := by decide +kernel
theorem d_M_row_2 : decode c_M_row 2 = .ok (.iload_n 1, 1) := by decide +kernel
theorem d_M_row_3 : decode c_M_row 3 = .ok (.invokevirtual 145, 3) := by decide +kernel
theorem d_M_row_6 : decode c_M_row 6 = .ok (.ifCond .eq 15, 3) := by decide +kernel
theorem d_M_row_9 : decode c_M_row 9 = .ok (.iload_n 2, 1) := by decide +kernel
theorem d_M_row_10 : decode c_M_row 10 = .ok (.i2l, 1) := by decide +kernel
theorem d_M_row_11 : decode c_M_row 11 = .ok (.lconst 0, 1) := by decide +kernel
theorem d_M_row_12 : decode c_M_row 12 = .ok (.ldc2_w 76, 3) := by decide +kernel
theorem d_M_row_15 : decode c_M_row 15 = .ok (.invokestatic 72, 3) := by decide +kernel
theorem d_M_row_18 : decode c_M_row 18 = .ok (.ifCond .ne 7, 3) := by decide +kernel
theorem d_M_row_21 : decode c_M_row 21 = .ok (.iconst 1, 1) := by decide +kernel
theorem d_M_row_22 : decode c_M_row 22 = .ok (.goto 45, 3) := by decide +kernel
theorem d_M_row_25 : decode c_M_row 25 = .ok (.lload_n 3, 1) := by decide +kernel
theorem d_M_row_26 : decode c_M_row 26 = .ok (.ldc2_w 148, 3) := by decide +kernel
theorem d_M_row_29 : decode c_M_row 29 = .ok (.ldc2_w 150, 3) := by decide +kernel
theorem d_M_row_32 : decode c_M_row 32 = .ok (.invokestatic 72, 3) := by decide +kernel
theorem d_M_row_35 : decode c_M_row 35 = .ok (.ifCond .ne 7, 3) := by decide +kernel
theorem d_M_row_38 : decode c_M_row 38 = .ok (.iconst 2, 1) := by decide +kernel
theorem d_M_row_39 : decode c_M_row 39 = .ok (.goto 28, 3) := by decide +kernel
theorem d_M_row_42 : decode c_M_row 42 = .ok (.aload_n 0, 1) := by decide +kernel
theorem d_M_row_43 : decode c_M_row 43 = .ok (.getfield 45, 3) := by decide +kernel
theorem d_M_row_46 : decode c_M_row 46 = .ok (.iload_n 1, 1) := by decide +kernel
theorem d_M_row_47 : decode c_M_row 47 = .ok (.iaload, 1) := by decide +kernel
theorem d_M_row_48 : decode c_M_row 48 = .ok (.bipush 6, 2) := by decide +kernel
theorem d_M_row_50 : decode c_M_row 50 = .ok (.if_icmp .eq 12, 3) := by decide +kernel
theorem d_M_row_53 : decode c_M_row 53 = .ok (.aload_n 0, 1) := by decide +kernel
theorem d_M_row_54 : decode c_M_row 54 = .ok (.getfield 54, 3) := by decide +kernel
theorem d_M_row_57 : decode c_M_row 57 = .ok (.iload_n 1, 1) := by decide +kernel
theorem d_M_row_58 : decode c_M_row 58 = .ok (.iaload, 1) := by decide +kernel
theorem d_M_row_59 : decode c_M_row 59 = .ok (.ifCond .le 7, 3) := by decide +kernel
theorem d_M_row_62 : decode c_M_row 62 = .ok (.iconst 3, 1) := by decide +kernel
theorem d_M_row_63 : decode c_M_row 63 = .ok (.goto 4, 3) := by decide +kernel
theorem d_M_row_66 : decode c_M_row 66 = .ok (.iconst 0, 1) := by decide +kernel
theorem d_M_row_67 : decode c_M_row 67 = .ok (.putfield 64, 3) := by decide +kernel
theorem d_M_row_70 : decode c_M_row 70 = .ok (.aload_n 0, 1) := by decide +kernel
theorem d_M_row_71 : decode c_M_row 71 = .ok (.getfield 64, 3) := by decide +kernel
theorem d_M_row_74 : decode c_M_row 74 = .ok (.ifCond .le 5, 3) := by decide +kernel
theorem d_M_row_77 : decode c_M_row 77 = .ok (.iconst 0, 1) := by decide +kernel
theorem d_M_row_78 : decode c_M_row 78 = .ok (.ireturn, 1) := by decide +kernel
theorem d_M_row_79 : decode c_M_row 79 = .ok (.aload_n 0, 1) := by decide +kernel
theorem d_M_row_80 : decode c_M_row 80 = .ok (.iload_n 1, 1) := by decide +kernel
theorem d_M_row_81 : decode c_M_row 81 = .ok (.iload_n 2, 1) := by decide +kernel
theorem d_M_row_82 : decode c_M_row 82 = .ok (.lload_n 3, 1) := by decide +kernel
theorem d_M_row_83 : decode c_M_row 83 = .ok (.invokevirtual 152, 3) := by decide +kernel
theorem d_M_row_86 : decode c_M_row 86 = .ok (.aload_n 0, 1) := by decide +kernel
theorem d_M_row_87 : decode c_M_row 87 = .ok (.getfield 45, 3) := by decide +kernel
theorem d_M_row_90 : decode c_M_row 90 = .ok (.iload_n 1, 1) := by decide +kernel
theorem d_M_row_91 : decode c_M_row 91 = .ok (.iaload, 1) := by decide +kernel
theorem d_M_row_92 : decode c_M_row 92 = .ok (.ireturn, 1) := by decide +kernel
theorem d_M_closeNow_0 : decode c_M_closeNow 0 = .ok (.aload_n 0, 1) := by decide +kernel
theorem d_M_closeNow_1 : decode c_M_closeNow 1 = .ok (.dup, 1) := by decide +kernel
theorem d_M_closeNow_2 : decode c_M_closeNow 2 = .ok (.getfield 156, 3) := by decide +kernel
theorem d_M_closeNow_5 : decode c_M_closeNow 5 = .ok (.iconst 1, 1) := by decide +kernel
theorem d_M_closeNow_6 : decode c_M_closeNow 6 = .ok (.iadd, 1) := by decide +kernel
theorem d_M_closeNow_7 : decode c_M_closeNow 7 = .ok (.putfield 156, 3) := by decide +kernel
theorem d_M_closeNow_10 : decode c_M_closeNow 10 = .ok (.aload_n 0, 1) := by decide +kernel
theorem d_M_closeNow_11 : decode c_M_closeNow 11 = .ok (.getfield 54, 3) := by decide +kernel
theorem d_M_closeNow_14 : decode c_M_closeNow 14 = .ok (.iload_n 1, 1) := by decide +kernel
theorem d_M_closeNow_15 : decode c_M_closeNow 15 = .ok (.aload_n 0, 1) := by decide +kernel
theorem d_M_closeNow_16 : decode c_M_closeNow 16 = .ok (.getfield 156, 3) := by decide +kernel
theorem d_M_closeNow_19 : decode c_M_closeNow 19 = .ok (.iastore, 1) := by decide +kernel
theorem d_M_closeNow_20 : decode c_M_closeNow 20 = .ok (.return_, 1) := by decide +kernel
theorem d_M_close_0 : decode c_M_close 0 = .ok (.aload_n 0, 1) := by decide +kernel
theorem d_M_close_1 : decode c_M_close 1 = .ok (.aload_n 0, 1) := by decide +kernel
theorem d_M_close_2 : decode c_M_close 2 = .ok (.iload_n 1, 1) := by decide +kernel
theorem d_M_close_3 : decode c_M_close 3 = .ok (.invokevirtual 145, 3) := by decide +kernel
theorem d_M_close_6 : decode c_M_close 6 = .ok (.ifCond .ne 7, 3) := by decide +kernel
theorem d_M_close_9 : decode c_M_close 9 = .ok (.iconst 1, 1) := by decide +kernel
theorem d_M_close_10 : decode c_M_close 10 = .ok (.goto 17, 3) := by decide +kernel
theorem d_M_close_13 : decode c_M_close 13 = .ok (.aload_n 0, 1) := by decide +kernel
theorem d_M_close_14 : decode c_M_close 14 = .ok (.getfield 54, 3) := by decide +kernel
theorem d_M_close_17 : decode c_M_close 17 = .ok (.iload_n 1, 1) := by decide +kernel
theorem d_M_close_18 : decode c_M_close 18 = .ok (.iaload, 1) := by decide +kernel
theorem d_M_close_19 : decode c_M_close 19 = .ok (.ifCond .le 7, 3) := by decide +kernel
theorem d_M_close_22 : decode c_M_close 22 = .ok (.iconst 2, 1) := by decide +kernel
theorem d_M_close_23 : decode c_M_close 23 = .ok (.goto 4, 3) := by decide +kernel
theorem d_M_close_26 : decode c_M_close 26 = .ok (.iconst 0, 1) := by decide +kernel
theorem d_M_close_27 : decode c_M_close 27 = .ok (.putfield 64, 3) := by decide +kernel
theorem d_M_close_30 : decode c_M_close 30 = .ok (.aload_n 0, 1) := by decide +kernel
theorem d_M_close_31 : decode c_M_close 31 = .ok (.getfield 64, 3) := by decide +kernel
theorem d_M_close_34 : decode c_M_close 34 = .ok (.ifCond .le 5, 3) := by decide +kernel
theorem d_M_close_37 : decode c_M_close 37 = .ok (.iconst 0, 1) := by decide +kernel
theorem d_M_close_38 : decode c_M_close 38 = .ok (.ireturn, 1) := by decide +kernel
theorem d_M_close_39 : decode c_M_close 39 = .ok (.lconst 0, 1) := by decide +kernel
theorem d_M_close_40 : decode c_M_close 40 = .ok (.lstore_n 2, 1) := by decide +kernel
theorem d_M_close_41 : decode c_M_close 41 = .ok (.iconst 0, 1) := by decide +kernel
theorem d_M_close_42 : decode c_M_close 42 = .ok (.istore 4, 2) := by decide +kernel
theorem d_M_close_44 : decode c_M_close 44 = .ok (.iload 4, 2) := by decide +kernel
theorem d_M_close_46 : decode c_M_close 46 = .ok (.aload_n 0, 1) := by decide +kernel
theorem d_M_close_47 : decode c_M_close 47 = .ok (.getfield 45, 3) := by decide +kernel
theorem d_M_close_50 : decode c_M_close 50 = .ok (.iload_n 1, 1) := by decide +kernel
theorem d_M_close_51 : decode c_M_close 51 = .ok (.iaload, 1) := by decide +kernel
theorem d_M_close_52 : decode c_M_close 52 = .ok (.if_icmp .ge 24, 3) := by decide +kernel
theorem d_M_close_55 : decode c_M_close 55 = .ok (.lload_n 2, 1) := by decide +kernel
theorem d_M_close_56 : decode c_M_close 56 = .ok (.aload_n 0, 1) := by decide +kernel
theorem d_M_close_57 : decode c_M_close 57 = .ok (.getfield 51, 3) := by decide +kernel
theorem d_M_close_60 : decode c_M_close 60 = .ok (.bipush 6, 2) := by decide +kernel
theorem d_M_close_62 : decode c_M_close 62 = .ok (.iload_n 1, 1) := by decide +kernel
theorem d_M_close_63 : decode c_M_close 63 = .ok (.imul, 1) := by decide +kernel
theorem d_M_close_64 : decode c_M_close 64 = .ok (.iload 4, 2) := by decide +kernel
theorem d_M_close_66 : decode c_M_close 66 = .ok (.iadd, 1) := by decide +kernel
theorem d_M_close_67 : decode c_M_close 67 = .ok (.laload, 1) := by decide +kernel
theorem d_M_close_68 : decode c_M_close 68 = .ok (.ladd, 1) := by decide +kernel
theorem d_M_close_69 : decode c_M_close 69 = .ok (.lstore_n 2, 1) := by decide +kernel
theorem d_M_close_70 : decode c_M_close 70 = .ok (.iinc 4 1, 3) := by decide +kernel
theorem d_M_close_73 : decode c_M_close 73 = .ok (.goto (-29), 3) := by decide +kernel
theorem d_M_close_76 : decode c_M_close 76 = .ok (.aload_n 0, 1) := by decide +kernel
theorem d_M_close_77 : decode c_M_close 77 = .ok (.getfield 45, 3) := by decide +kernel
theorem d_M_close_80 : decode c_M_close 80 = .ok (.iload_n 1, 1) := by decide +kernel
theorem d_M_close_81 : decode c_M_close 81 = .ok (.iaload, 1) := by decide +kernel
theorem d_M_close_82 : decode c_M_close 82 = .ok (.ifCond .eq 25, 3) := by decide +kernel
theorem d_M_close_85 : decode c_M_close 85 = .ok (.lload_n 2, 1) := by decide +kernel
theorem d_M_close_86 : decode c_M_close 86 = .ok (.lconst 0, 1) := by decide +kernel
theorem d_M_close_87 : decode c_M_close 87 = .ok (.lcmp, 1) := by decide +kernel
theorem d_M_close_88 : decode c_M_close 88 = .ok (.ifCond .ne 19, 3) := by decide +kernel
theorem d_M_close_91 : decode c_M_close 91 = .ok (.aload_n 0, 1) := by decide +kernel
theorem d_M_close_92 : decode c_M_close 92 = .ok (.getfield 42, 3) := by decide +kernel
theorem d_M_close_95 : decode c_M_close 95 = .ok (.iload_n 1, 1) := by decide +kernel
theorem d_M_close_96 : decode c_M_close 96 = .ok (.iaload, 1) := by decide +kernel
theorem d_M_close_97 : decode c_M_close 97 = .ok (.bipush 30, 2) := by decide +kernel
theorem d_M_close_99 : decode c_M_close 99 = .ok (.idiv, 1) := by decide +kernel
theorem d_M_close_100 : decode c_M_close 100 = .ok (.aload_n 0, 1) := by decide +kernel
theorem d_M_close_101 : decode c_M_close 101 = .ok (.getfield 60, 3) := by decide +kernel
theorem d_M_close_104 : decode c_M_close 104 = .ok (.if_icmp .gt 5, 3) := by decide +kernel
theorem d_M_close_107 : decode c_M_close 107 = .ok (.iconst 0, 1) := by decide +kernel
theorem d_M_close_108 : decode c_M_close 108 = .ok (.ireturn, 1) := by decide +kernel
theorem d_M_close_109 : decode c_M_close 109 = .ok (.aload_n 0, 1) := by decide +kernel
theorem d_M_close_110 : decode c_M_close 110 = .ok (.iload_n 1, 1) := by decide +kernel
theorem d_M_close_111 : decode c_M_close 111 = .ok (.invokevirtual 159, 3) := by decide +kernel
theorem d_M_close_114 : decode c_M_close 114 = .ok (.aload_n 0, 1) := by decide +kernel
theorem d_M_close_115 : decode c_M_close 115 = .ok (.getfield 156, 3) := by decide +kernel
theorem d_M_close_118 : decode c_M_close 118 = .ok (.ireturn, 1) := by decide +kernel
theorem d_M_balance_0 : decode c_M_balance 0 = .ok (.aload_n 0, 1) := by decide +kernel
theorem d_M_balance_1 : decode c_M_balance 1 = .ok (.iload_n 1, 1) := by decide +kernel
theorem d_M_balance_2 : decode c_M_balance 2 = .ok (.i2l, 1) := by decide +kernel
theorem d_M_balance_3 : decode c_M_balance 3 = .ok (.lconst 0, 1) := by decide +kernel
theorem d_M_balance_4 : decode c_M_balance 4 = .ok (.ldc2_w 76, 3) := by decide +kernel
theorem d_M_balance_7 : decode c_M_balance 7 = .ok (.invokestatic 72, 3) := by decide +kernel
theorem d_M_balance_10 : decode c_M_balance 10 = .ok (.ifCond .eq 7, 3) := by decide +kernel
theorem d_M_balance_13 : decode c_M_balance 13 = .ok (.iconst 0, 1) := by decide +kernel
theorem d_M_balance_14 : decode c_M_balance 14 = .ok (.goto 4, 3) := by decide +kernel
theorem d_M_balance_17 : decode c_M_balance 17 = .ok (.iconst 1, 1) := by decide +kernel
theorem d_M_balance_18 : decode c_M_balance 18 = .ok (.putfield 64, 3) := by decide +kernel
theorem d_M_balance_21 : decode c_M_balance 21 = .ok (.lconst 0, 1) := by decide +kernel
theorem d_M_balance_22 : decode c_M_balance 22 = .ok (.lstore_n 3, 1) := by decide +kernel
theorem d_M_balance_23 : decode c_M_balance 23 = .ok (.iconst 0, 1) := by decide +kernel
theorem d_M_balance_24 : decode c_M_balance 24 = .ok (.istore 5, 2) := by decide +kernel
theorem d_M_balance_26 : decode c_M_balance 26 = .ok (.iload 5, 2) := by decide +kernel
theorem d_M_balance_28 : decode c_M_balance 28 = .ok (.aload_n 0, 1) := by decide +kernel
theorem d_M_balance_29 : decode c_M_balance 29 = .ok (.getfield 138, 3) := by decide +kernel
theorem d_M_balance_32 : decode c_M_balance 32 = .ok (.if_icmp .ge 93, 3) := by decide +kernel
theorem d_M_balance_35 : decode c_M_balance 35 = .ok (.aload_n 0, 1) := by decide +kernel
theorem d_M_balance_36 : decode c_M_balance 36 = .ok (.getfield 64, 3) := by decide +kernel
theorem d_M_balance_39 : decode c_M_balance 39 = .ok (.ifCond .ne 86, 3) := by decide +kernel
theorem d_M_balance_42 : decode c_M_balance 42 = .ok (.bipush 6, 2) := by decide +kernel
theorem d_M_balance_44 : decode c_M_balance 44 = .ok (.iload 5, 2) := by decide +kernel
theorem d_M_balance_46 : decode c_M_balance 46 = .ok (.imul, 1) := by decide +kernel
theorem d_M_balance_47 : decode c_M_balance 47 = .ok (.istore 6, 2) := by decide +kernel
theorem d_M_balance_49 : decode c_M_balance 49 = .ok (.iload 6, 2) := by decide +kernel
theorem d_M_balance_51 : decode c_M_balance 51 = .ok (.bipush 6, 2) := by decide +kernel
theorem d_M_balance_53 : decode c_M_balance 53 = .ok (.iload 5, 2) := by decide +kernel
theorem d_M_balance_55 : decode c_M_balance 55 = .ok (.imul, 1) := by decide +kernel
theorem d_M_balance_56 : decode c_M_balance 56 = .ok (.aload_n 0, 1) := by decide +kernel
theorem d_M_balance_57 : decode c_M_balance 57 = .ok (.getfield 45, 3) := by decide +kernel
theorem d_M_balance_60 : decode c_M_balance 60 = .ok (.iload 5, 2) := by decide +kernel
theorem d_M_balance_62 : decode c_M_balance 62 = .ok (.iaload, 1) := by decide +kernel
theorem d_M_balance_63 : decode c_M_balance 63 = .ok (.iadd, 1) := by decide +kernel
theorem d_M_balance_64 : decode c_M_balance 64 = .ok (.if_icmp .ge 55, 3) := by decide +kernel
theorem d_M_balance_67 : decode c_M_balance 67 = .ok (.lload_n 3, 1) := by decide +kernel
theorem d_M_balance_68 : decode c_M_balance 68 = .ok (.aload_n 0, 1) := by decide +kernel
theorem d_M_balance_69 : decode c_M_balance 69 = .ok (.getfield 54, 3) := by decide +kernel
theorem d_M_balance_72 : decode c_M_balance 72 = .ok (.iload 5, 2) := by decide +kernel
theorem d_M_balance_74 : decode c_M_balance 74 = .ok (.iaload, 1) := by decide +kernel
theorem d_M_balance_75 : decode c_M_balance 75 = .ok (.ifCond .le 35, 3) := by decide +kernel
theorem d_M_balance_78 : decode c_M_balance 78 = .ok (.aload_n 0, 1) := by decide +kernel
theorem d_M_balance_79 : decode c_M_balance 79 = .ok (.getfield 42, 3) := by decide +kernel
theorem d_M_balance_82 : decode c_M_balance 82 = .ok (.iload 5, 2) := by decide +kernel
theorem d_M_balance_84 : decode c_M_balance 84 = .ok (.iaload, 1) := by decide +kernel
theorem d_M_balance_85 : decode c_M_balance 85 = .ok (.iload_n 2, 1) := by decide +kernel
theorem d_M_balance_86 : decode c_M_balance 86 = .ok (.if_icmp .gt 24, 3) := by decide +kernel
theorem d_M_balance_89 : decode c_M_balance 89 = .ok (.aload_n 0, 1) := by decide +kernel
theorem d_M_balance_90 : decode c_M_balance 90 = .ok (.getfield 48, 3) := by decide +kernel
theorem d_M_balance_93 : decode c_M_balance 93 = .ok (.iload 6, 2) := by decide +kernel
theorem d_M_balance_95 : decode c_M_balance 95 = .ok (.iaload, 1) := by decide +kernel
theorem d_M_balance_96 : decode c_M_balance 96 = .ok (.iload_n 1, 1) := by decide +kernel
theorem d_M_balance_97 : decode c_M_balance 97 = .ok (.if_icmp .ne 13, 3) := by decide +kernel
theorem d_M_balance_100 : decode c_M_balance 100 = .ok (.aload_n 0, 1) := by decide +kernel
theorem d_M_balance_101 : decode c_M_balance 101 = .ok (.getfield 51, 3) := by decide +kernel
theorem d_M_balance_104 : decode c_M_balance 104 = .ok (.iload 6, 2) := by decide +kernel
theorem d_M_balance_106 : decode c_M_balance 106 = .ok (.laload, 1) := by decide +kernel
theorem d_M_balance_107 : decode c_M_balance 107 = .ok (.goto 4, 3) := by decide +kernel
theorem d_M_balance_110 : decode c_M_balance 110 = .ok (.lconst 0, 1) := by decide +kernel
theorem d_M_balance_111 : decode c_M_balance 111 = .ok (.ladd, 1) := by decide +kernel
theorem d_M_balance_112 : decode c_M_balance 112 = .ok (.lstore_n 3, 1) := by decide +kernel
theorem d_M_balance_113 : decode c_M_balance 113 = .ok (.iinc 6 1, 3) := by decide +kernel
theorem d_M_balance_116 : decode c_M_balance 116 = .ok (.goto (-67), 3) := by decide +kernel
theorem d_M_balance_119 : decode c_M_balance 119 = .ok (.iinc 5 1, 3) := by decide +kernel
theorem d_M_balance_122 : decode c_M_balance 122 = .ok (.goto (-96), 3) := by decide +kernel
theorem d_M_balance_125 : decode c_M_balance 125 = .ok (.lload_n 3, 1) := by decide +kernel
theorem d_M_balance_126 : decode c_M_balance 126 = .ok (.lreturn, 1) := by decide +kernel
theorem d_M_closeMonth_0 : decode c_M_closeMonth 0 = .ok (.aload_n 0, 1) := by decide +kernel
theorem d_M_closeMonth_1 : decode c_M_closeMonth 1 = .ok (.iload_n 1, 1) := by decide +kernel
theorem d_M_closeMonth_2 : decode c_M_closeMonth 2 = .ok (.i2l, 1) := by decide +kernel
theorem d_M_closeMonth_3 : decode c_M_closeMonth 3 = .ok (.lconst 0, 1) := by decide +kernel
theorem d_M_closeMonth_4 : decode c_M_closeMonth 4 = .ok (.ldc2_w 163, 3) := by decide +kernel
theorem d_M_closeMonth_7 : decode c_M_closeMonth 7 = .ok (.invokestatic 72, 3) := by decide +kernel
theorem d_M_closeMonth_10 : decode c_M_closeMonth 10 = .ok (.ifCond .eq 7, 3) := by decide +kernel
theorem d_M_closeMonth_13 : decode c_M_closeMonth 13 = .ok (.iconst 0, 1) := by decide +kernel
theorem d_M_closeMonth_14 : decode c_M_closeMonth 14 = .ok (.goto 4, 3) := by decide +kernel
theorem d_M_closeMonth_17 : decode c_M_closeMonth 17 = .ok (.iconst 1, 1) := by decide +kernel
theorem d_M_closeMonth_18 : decode c_M_closeMonth 18 = .ok (.putfield 64, 3) := by decide +kernel
theorem d_M_closeMonth_21 : decode c_M_closeMonth 21 = .ok (.aload_n 0, 1) := by decide +kernel
theorem d_M_closeMonth_22 : decode c_M_closeMonth 22 = .ok (.getfield 64, 3) := by decide +kernel
theorem d_M_closeMonth_25 : decode c_M_closeMonth 25 = .ok (.ifCond .gt 11, 3) := by decide +kernel
theorem d_M_closeMonth_28 : decode c_M_closeMonth 28 = .ok (.iload_n 1, 1) := by decide +kernel
theorem d_M_closeMonth_29 : decode c_M_closeMonth 29 = .ok (.aload_n 0, 1) := by decide +kernel
theorem d_M_closeMonth_30 : decode c_M_closeMonth 30 = .ok (.getfield 60, 3) := by decide +kernel
theorem d_M_closeMonth_33 : decode c_M_closeMonth 33 = .ok (.if_icmp .gt 5, 3) := by decide +kernel
theorem d_M_closeMonth_36 : decode c_M_closeMonth 36 = .ok (.iconst 0, 1) := by decide +kernel
theorem d_M_closeMonth_37 : decode c_M_closeMonth 37 = .ok (.ireturn, 1) := by decide +kernel
theorem d_M_closeMonth_38 : decode c_M_closeMonth 38 = .ok (.aload_n 0, 1) := by decide +kernel
theorem d_M_closeMonth_39 : decode c_M_closeMonth 39 = .ok (.iload_n 1, 1) := by decide +kernel
theorem d_M_closeMonth_40 : decode c_M_closeMonth 40 = .ok (.putfield 60, 3) := by decide +kernel
theorem d_M_closeMonth_43 : decode c_M_closeMonth 43 = .ok (.iconst 1, 1) := by decide +kernel
theorem d_M_closeMonth_44 : decode c_M_closeMonth 44 = .ok (.ireturn, 1) := by decide +kernel
theorem d_M_reverse_0 : decode c_M_reverse 0 = .ok (.aload_n 0, 1) := by decide +kernel
theorem d_M_reverse_1 : decode c_M_reverse 1 = .ok (.iload_n 1, 1) := by decide +kernel
theorem d_M_reverse_2 : decode c_M_reverse 2 = .ok (.iconst 1, 1) := by decide +kernel
theorem d_M_reverse_3 : decode c_M_reverse 3 = .ok (.if_icmp .lt 11, 3) := by decide +kernel
theorem d_M_reverse_6 : decode c_M_reverse 6 = .ok (.iload_n 1, 1) := by decide +kernel
theorem d_M_reverse_7 : decode c_M_reverse 7 = .ok (.aload_n 0, 1) := by decide +kernel
theorem d_M_reverse_8 : decode c_M_reverse 8 = .ok (.getfield 156, 3) := by decide +kernel
theorem d_M_reverse_11 : decode c_M_reverse 11 = .ok (.if_icmp .le 7, 3) := by decide +kernel
theorem d_M_reverse_14 : decode c_M_reverse 14 = .ok (.iconst 1, 1) := by decide +kernel
theorem d_M_reverse_15 : decode c_M_reverse 15 = .ok (.goto 20, 3) := by decide +kernel
theorem d_M_reverse_18 : decode c_M_reverse 18 = .ok (.iload_n 2, 1) := by decide +kernel
theorem d_M_reverse_19 : decode c_M_reverse 19 = .ok (.i2l, 1) := by decide +kernel
theorem d_M_reverse_20 : decode c_M_reverse 20 = .ok (.lconst 0, 1) := by decide +kernel
theorem d_M_reverse_21 : decode c_M_reverse 21 = .ok (.ldc2_w 136, 3) := by decide +kernel
theorem d_M_reverse_24 : decode c_M_reverse 24 = .ok (.invokestatic 72, 3) := by decide +kernel
theorem d_M_reverse_27 : decode c_M_reverse 27 = .ok (.ifCond .eq 7, 3) := by decide +kernel
theorem d_M_reverse_30 : decode c_M_reverse 30 = .ok (.iconst 0, 1) := by decide +kernel
theorem d_M_reverse_31 : decode c_M_reverse 31 = .ok (.goto 4, 3) := by decide +kernel
theorem d_M_reverse_34 : decode c_M_reverse 34 = .ok (.iconst 2, 1) := by decide +kernel
theorem d_M_reverse_35 : decode c_M_reverse 35 = .ok (.putfield 64, 3) := by decide +kernel
theorem d_M_reverse_38 : decode c_M_reverse 38 = .ok (.aload_n 0, 1) := by decide +kernel
theorem d_M_reverse_39 : decode c_M_reverse 39 = .ok (.getfield 64, 3) := by decide +kernel
theorem d_M_reverse_42 : decode c_M_reverse 42 = .ok (.ifCond .le 5, 3) := by decide +kernel
theorem d_M_reverse_45 : decode c_M_reverse 45 = .ok (.iconst 0, 1) := by decide +kernel
theorem d_M_reverse_46 : decode c_M_reverse 46 = .ok (.ireturn, 1) := by decide +kernel
theorem d_M_reverse_47 : decode c_M_reverse 47 = .ok (.iconst 0, 1) := by decide +kernel
theorem d_M_reverse_48 : decode c_M_reverse 48 = .ok (.istore_n 3, 1) := by decide +kernel
theorem d_M_reverse_49 : decode c_M_reverse 49 = .ok (.aload_n 0, 1) := by decide +kernel
theorem d_M_reverse_50 : decode c_M_reverse 50 = .ok (.getfield 54, 3) := by decide +kernel
theorem d_M_reverse_53 : decode c_M_reverse 53 = .ok (.iload_n 3, 1) := by decide +kernel
theorem d_M_reverse_54 : decode c_M_reverse 54 = .ok (.iaload, 1) := by decide +kernel
theorem d_M_reverse_55 : decode c_M_reverse 55 = .ok (.iload_n 1, 1) := by decide +kernel
theorem d_M_reverse_56 : decode c_M_reverse 56 = .ok (.if_icmp .eq 9, 3) := by decide +kernel
theorem d_M_reverse_59 : decode c_M_reverse 59 = .ok (.iinc 3 1, 3) := by decide +kernel
theorem d_M_reverse_62 : decode c_M_reverse 62 = .ok (.goto (-13), 3) := by decide +kernel
theorem d_M_reverse_65 : decode c_M_reverse 65 = .ok (.aload_n 0, 1) := by decide +kernel
theorem d_M_reverse_66 : decode c_M_reverse 66 = .ok (.aload_n 0, 1) := by decide +kernel
theorem d_M_reverse_67 : decode c_M_reverse 67 = .ok (.getfield 57, 3) := by decide +kernel
theorem d_M_reverse_70 : decode c_M_reverse 70 = .ok (.iload_n 3, 1) := by decide +kernel
theorem d_M_reverse_71 : decode c_M_reverse 71 = .ok (.baload, 1) := by decide +kernel
theorem d_M_reverse_72 : decode c_M_reverse 72 = .ok (.ifCond .ne 12, 3) := by decide +kernel
theorem d_M_reverse_75 : decode c_M_reverse 75 = .ok (.aload_n 0, 1) := by decide +kernel
theorem d_M_reverse_76 : decode c_M_reverse 76 = .ok (.getfield 138, 3) := by decide +kernel
theorem d_M_reverse_79 : decode c_M_reverse 79 = .ok (.bipush 60, 2) := by decide +kernel
theorem d_M_reverse_81 : decode c_M_reverse 81 = .ok (.if_icmp .ne 7, 3) := by decide +kernel
theorem d_M_reverse_84 : decode c_M_reverse 84 = .ok (.iconst 3, 1) := by decide +kernel
theorem d_M_reverse_85 : decode c_M_reverse 85 = .ok (.goto 4, 3) := by decide +kernel
theorem d_M_reverse_88 : decode c_M_reverse 88 = .ok (.iconst 0, 1) := by decide +kernel
theorem d_M_reverse_89 : decode c_M_reverse 89 = .ok (.putfield 64, 3) := by decide +kernel
theorem d_M_reverse_92 : decode c_M_reverse 92 = .ok (.aload_n 0, 1) := by decide +kernel
theorem d_M_reverse_93 : decode c_M_reverse 93 = .ok (.getfield 64, 3) := by decide +kernel
theorem d_M_reverse_96 : decode c_M_reverse 96 = .ok (.ifCond .gt 14, 3) := by decide +kernel
theorem d_M_reverse_99 : decode c_M_reverse 99 = .ok (.iload_n 2, 1) := by decide +kernel
theorem d_M_reverse_100 : decode c_M_reverse 100 = .ok (.bipush 30, 2) := by decide +kernel
theorem d_M_reverse_102 : decode c_M_reverse 102 = .ok (.idiv, 1) := by decide +kernel
theorem d_M_reverse_103 : decode c_M_reverse 103 = .ok (.aload_n 0, 1) := by decide +kernel
theorem d_M_reverse_104 : decode c_M_reverse 104 = .ok (.getfield 60, 3) := by decide +kernel
theorem d_M_reverse_107 : decode c_M_reverse 107 = .ok (.if_icmp .gt 5, 3) := by decide +kernel
theorem d_M_reverse_110 : decode c_M_reverse 110 = .ok (.iconst 0, 1) := by decide +kernel
theorem d_M_reverse_111 : decode c_M_reverse 111 = .ok (.ireturn, 1) := by decide +kernel
theorem d_M_reverse_112 : decode c_M_reverse 112 = .ok (.aload_n 0, 1) := by decide +kernel
theorem d_M_reverse_113 : decode c_M_reverse 113 = .ok (.iload_n 2, 1) := by decide +kernel
theorem d_M_reverse_114 : decode c_M_reverse 114 = .ok (.invokevirtual 141, 3) := by decide +kernel
theorem d_M_reverse_117 : decode c_M_reverse 117 = .ok (.istore 4, 2) := by decide +kernel
theorem d_M_reverse_119 : decode c_M_reverse 119 = .ok (.bipush 6, 2) := by decide +kernel
theorem d_M_reverse_121 : decode c_M_reverse 121 = .ok (.iload_n 3, 1) := by decide +kernel
theorem d_M_reverse_122 : decode c_M_reverse 122 = .ok (.imul, 1) := by decide +kernel
theorem d_M_reverse_123 : decode c_M_reverse 123 = .ok (.istore 5, 2) := by decide +kernel
theorem d_M_reverse_125 : decode c_M_reverse 125 = .ok (.iload 5, 2) := by decide +kernel
theorem d_M_reverse_127 : decode c_M_reverse 127 = .ok (.bipush 6, 2) := by decide +kernel
theorem d_M_reverse_129 : decode c_M_reverse 129 = .ok (.iload_n 3, 1) := by decide +kernel
theorem d_M_reverse_130 : decode c_M_reverse 130 = .ok (.imul, 1) := by decide +kernel
theorem d_M_reverse_131 : decode c_M_reverse 131 = .ok (.aload_n 0, 1) := by decide +kernel
theorem d_M_reverse_132 : decode c_M_reverse 132 = .ok (.getfield 45, 3) := by decide +kernel
theorem d_M_reverse_135 : decode c_M_reverse 135 = .ok (.iload_n 3, 1) := by decide +kernel
theorem d_M_reverse_136 : decode c_M_reverse 136 = .ok (.iaload, 1) := by decide +kernel
theorem d_M_reverse_137 : decode c_M_reverse 137 = .ok (.iadd, 1) := by decide +kernel
theorem d_M_reverse_138 : decode c_M_reverse 138 = .ok (.if_icmp .ge 30, 3) := by decide +kernel
theorem d_M_reverse_141 : decode c_M_reverse 141 = .ok (.aload_n 0, 1) := by decide +kernel
theorem d_M_reverse_142 : decode c_M_reverse 142 = .ok (.iload 4, 2) := by decide +kernel
theorem d_M_reverse_144 : decode c_M_reverse 144 = .ok (.aload_n 0, 1) := by decide +kernel
theorem d_M_reverse_145 : decode c_M_reverse 145 = .ok (.getfield 48, 3) := by decide +kernel
theorem d_M_reverse_148 : decode c_M_reverse 148 = .ok (.iload 5, 2) := by decide +kernel
theorem d_M_reverse_150 : decode c_M_reverse 150 = .ok (.iaload, 1) := by decide +kernel
theorem d_M_reverse_151 : decode c_M_reverse 151 = .ok (.aload_n 0, 1) := by decide +kernel
theorem d_M_reverse_152 : decode c_M_reverse 152 = .ok (.getfield 51, 3) := by decide +kernel
theorem d_M_reverse_155 : decode c_M_reverse 155 = .ok (.iload 5, 2) := by decide +kernel
theorem d_M_reverse_157 : decode c_M_reverse 157 = .ok (.laload, 1) := by decide +kernel
theorem d_M_reverse_158 : decode c_M_reverse 158 = .ok (.lneg, 1) := by decide +kernel
theorem d_M_reverse_159 : decode c_M_reverse 159 = .ok (.invokevirtual 152, 3) := by decide +kernel
theorem d_M_reverse_162 : decode c_M_reverse 162 = .ok (.iinc 5 1, 3) := by decide +kernel
theorem d_M_reverse_165 : decode c_M_reverse 165 = .ok (.goto (-40), 3) := by decide +kernel
theorem d_M_reverse_168 : decode c_M_reverse 168 = .ok (.aload_n 0, 1) := by decide +kernel
theorem d_M_reverse_169 : decode c_M_reverse 169 = .ok (.getfield 57, 3) := by decide +kernel
theorem d_M_reverse_172 : decode c_M_reverse 172 = .ok (.iload_n 3, 1) := by decide +kernel
theorem d_M_reverse_173 : decode c_M_reverse 173 = .ok (.iconst 1, 1) := by decide +kernel
theorem d_M_reverse_174 : decode c_M_reverse 174 = .ok (.bastore, 1) := by decide +kernel
theorem d_M_reverse_175 : decode c_M_reverse 175 = .ok (.aload_n 0, 1) := by decide +kernel
theorem d_M_reverse_176 : decode c_M_reverse 176 = .ok (.getfield 57, 3) := by decide +kernel
theorem d_M_reverse_179 : decode c_M_reverse 179 = .ok (.iload 4, 2) := by decide +kernel
theorem d_M_reverse_181 : decode c_M_reverse 181 = .ok (.iconst 1, 1) := by decide +kernel
theorem d_M_reverse_182 : decode c_M_reverse 182 = .ok (.bastore, 1) := by decide +kernel
theorem d_M_reverse_183 : decode c_M_reverse 183 = .ok (.aload_n 0, 1) := by decide +kernel
theorem d_M_reverse_184 : decode c_M_reverse 184 = .ok (.iload 4, 2) := by decide +kernel
theorem d_M_reverse_186 : decode c_M_reverse 186 = .ok (.invokevirtual 159, 3) := by decide +kernel
theorem d_M_reverse_189 : decode c_M_reverse 189 = .ok (.aload_n 0, 1) := by decide +kernel
theorem d_M_reverse_190 : decode c_M_reverse 190 = .ok (.getfield 156, 3) := by decide +kernel
theorem d_M_reverse_193 : decode c_M_reverse 193 = .ok (.ireturn, 1) := by decide +kernel
