theorem dX0_init_0 : decode cX0_init 0 = .ok (.aload_n 0, 1) := by decide +kernel
theorem dX0_init_1 : decode cX0_init 1 = .ok (.invokespecial 3, 3) := by decide +kernel
theorem dX0_init_4 : decode cX0_init 4 = .ok (.aload_n 0, 1) := by decide +kernel
theorem dX0_init_5 : decode cX0_init 5 = .ok (.aload_n 1, 1) := by decide +kernel
theorem dX0_init_6 : decode cX0_init 6 = .ok (.putfield 9, 3) := by decide +kernel
theorem dX0_init_9 : decode cX0_init 9 = .ok (.aload_n 0, 1) := by decide +kernel
theorem dX0_init_10 : decode cX0_init 10 = .ok (.bipush 16, 2) := by decide +kernel
theorem dX0_init_12 : decode cX0_init 12 = .ok (.newarray .int, 2) := by decide +kernel
theorem dX0_init_14 : decode cX0_init 14 = .ok (.putfield 15, 3) := by decide +kernel
theorem dX0_init_17 : decode cX0_init 17 = .ok (.aload_n 0, 1) := by decide +kernel
theorem dX0_init_18 : decode cX0_init 18 = .ok (.bipush 16, 2) := by decide +kernel
theorem dX0_init_20 : decode cX0_init 20 = .ok (.newarray .int, 2) := by decide +kernel
theorem dX0_init_22 : decode cX0_init 22 = .ok (.putfield 19, 3) := by decide +kernel
theorem dX0_init_25 : decode cX0_init 25 = .ok (.return_, 1) := by decide +kernel
theorem dX0_forget_0 : decode cX0_forget 0 = .ok (.aload_n 0, 1) := by decide +kernel
theorem dX0_forget_1 : decode cX0_forget 1 = .ok (.iconst 0, 1) := by decide +kernel
theorem dX0_forget_2 : decode cX0_forget 2 = .ok (.putfield 22, 3) := by decide +kernel
theorem dX0_forget_5 : decode cX0_forget 5 = .ok (.aload_n 0, 1) := by decide +kernel
theorem dX0_forget_6 : decode cX0_forget 6 = .ok (.iconst 0, 1) := by decide +kernel
theorem dX0_forget_7 : decode cX0_forget 7 = .ok (.putfield 26, 3) := by decide +kernel
theorem dX0_forget_10 : decode cX0_forget 10 = .ok (.aload_n 0, 1) := by decide +kernel
theorem dX0_forget_11 : decode cX0_forget 11 = .ok (.iconst 0, 1) := by decide +kernel
theorem dX0_forget_12 : decode cX0_forget 12 = .ok (.putfield 29, 3) := by decide +kernel
theorem dX0_forget_15 : decode cX0_forget 15 = .ok (.aload_n 0, 1) := by decide +kernel
theorem dX0_forget_16 : decode cX0_forget 16 = .ok (.iconst 0, 1) := by decide +kernel
theorem dX0_forget_17 : decode cX0_forget 17 = .ok (.putfield 32, 3) := by decide +kernel
theorem dX0_forget_20 : decode cX0_forget 20 = .ok (.aload_n 0, 1) := by decide +kernel
theorem dX0_forget_21 : decode cX0_forget 21 = .ok (.iconst (-1), 1) := by decide +kernel
theorem dX0_forget_22 : decode cX0_forget 22 = .ok (.putfield 35, 3) := by decide +kernel
theorem dX0_forget_25 : decode cX0_forget 25 = .ok (.return_, 1) := by decide +kernel
theorem dX0_gather_0 : decode cX0_gather 0 = .ok (.aload_n 0, 1) := by decide +kernel
theorem dX0_gather_1 : decode cX0_gather 1 = .ok (.invokevirtual 38, 3) := by decide +kernel
theorem dX0_gather_4 : decode cX0_gather 4 = .ok (.aload_n 0, 1) := by decide +kernel
theorem dX0_gather_5 : decode cX0_gather 5 = .ok (.aload_n 1, 1) := by decide +kernel
theorem dX0_gather_6 : decode cX0_gather 6 = .ok (.invokevirtual 41, 3) := by decide +kernel
theorem dX0_gather_9 : decode cX0_gather 9 = .ok (.putfield 47, 3) := by decide +kernel
theorem dX0_gather_12 : decode cX0_gather 12 = .ok (.aload_n 1, 1) := by decide +kernel
theorem dX0_gather_13 : decode cX0_gather 13 = .ok (.getfield 50, 3) := by decide +kernel
theorem dX0_gather_16 : decode cX0_gather 16 = .ok (.istore_n 3, 1) := by decide +kernel
theorem dX0_gather_17 : decode cX0_gather 17 = .ok (.aload_n 1, 1) := by decide +kernel
theorem dX0_gather_18 : decode cX0_gather 18 = .ok (.getfield 53, 3) := by decide +kernel
theorem dX0_gather_21 : decode cX0_gather 21 = .ok (.istore 4, 2) := by decide +kernel
theorem dX0_gather_23 : decode cX0_gather 23 = .ok (.aload_n 0, 1) := by decide +kernel
theorem dX0_gather_24 : decode cX0_gather 24 = .ok (.getfield 47, 3) := by decide +kernel
theorem dX0_gather_27 : decode cX0_gather 27 = .ok (.istore 5, 2) := by decide +kernel
theorem dX0_gather_29 : decode cX0_gather 29 = .ok (.iconst 0, 1) := by decide +kernel
theorem dX0_gather_30 : decode cX0_gather 30 = .ok (.istore 6, 2) := by decide +kernel
theorem dX0_gather_32 : decode cX0_gather 32 = .ok (.iconst 0, 1) := by decide +kernel
theorem dX0_gather_33 : decode cX0_gather 33 = .ok (.istore 7, 2) := by decide +kernel
theorem dX0_gather_35 : decode cX0_gather 35 = .ok (.iload 7, 2) := by decide +kernel
theorem dX0_gather_37 : decode cX0_gather 37 = .ok (.bipush 16, 2) := by decide +kernel
theorem dX0_gather_39 : decode cX0_gather 39 = .ok (.if_icmp .gt 157, 3) := by decide +kernel
theorem dX0_gather_42 : decode cX0_gather 42 = .ok (.iload 5, 2) := by decide +kernel
theorem dX0_gather_44 : decode cX0_gather 44 = .ok (.iload 4, 2) := by decide +kernel
theorem dX0_gather_46 : decode cX0_gather 46 = .ok (.if_icmp .lt 5, 3) := by decide +kernel
theorem dX0_gather_49 : decode cX0_gather 49 = .ok (.iconst 0, 1) := by decide +kernel
theorem dX0_gather_50 : decode cX0_gather 50 = .ok (.ireturn, 1) := by decide +kernel
theorem dX0_gather_51 : decode cX0_gather 51 = .ok (.iload_n 3, 1) := by decide +kernel
theorem dX0_gather_52 : decode cX0_gather 52 = .ok (.bipush 16, 2) := by decide +kernel
theorem dX0_gather_54 : decode cX0_gather 54 = .ok (.iload 5, 2) := by decide +kernel
theorem dX0_gather_56 : decode cX0_gather 56 = .ok (.imul, 1) := by decide +kernel
theorem dX0_gather_57 : decode cX0_gather 57 = .ok (.iadd, 1) := by decide +kernel
theorem dX0_gather_58 : decode cX0_gather 58 = .ok (.istore 8, 2) := by decide +kernel
theorem dX0_gather_60 : decode cX0_gather 60 = .ok (.aload_n 0, 1) := by decide +kernel
theorem dX0_gather_61 : decode cX0_gather 61 = .ok (.getfield 9, 3) := by decide +kernel
theorem dX0_gather_64 : decode cX0_gather 64 = .ok (.iload 8, 2) := by decide +kernel
theorem dX0_gather_66 : decode cX0_gather 66 = .ok (.bipush 12, 2) := by decide +kernel
theorem dX0_gather_68 : decode cX0_gather 68 = .ok (.iadd, 1) := by decide +kernel
theorem dX0_gather_69 : decode cX0_gather 69 = .ok (.invokevirtual 56, 3) := by decide +kernel
theorem dX0_gather_72 : decode cX0_gather 72 = .ok (.istore 9, 2) := by decide +kernel
theorem dX0_gather_74 : decode cX0_gather 74 = .ok (.iload 9, 2) := by decide +kernel
theorem dX0_gather_76 : decode cX0_gather 76 = .ok (.iconst 4, 1) := by decide +kernel
theorem dX0_gather_77 : decode cX0_gather 77 = .ok (.iand, 1) := by decide +kernel
theorem dX0_gather_78 : decode cX0_gather 78 = .ok (.ifCond .eq 66, 3) := by decide +kernel
theorem dX0_gather_81 : decode cX0_gather 81 = .ok (.iload_n 2, 1) := by decide +kernel
theorem dX0_gather_82 : decode cX0_gather 82 = .ok (.ifCond .eq 19, 3) := by decide +kernel
theorem dX0_gather_85 : decode cX0_gather 85 = .ok (.iload 6, 2) := by decide +kernel
theorem dX0_gather_87 : decode cX0_gather 87 = .ok (.ifCond .ne 14, 3) := by decide +kernel
theorem dX0_gather_90 : decode cX0_gather 90 = .ok (.aload_n 0, 1) := by decide +kernel
theorem dX0_gather_91 : decode cX0_gather 91 = .ok (.iload 8, 2) := by decide +kernel
theorem dX0_gather_93 : decode cX0_gather 93 = .ok (.iload 9, 2) := by decide +kernel
theorem dX0_gather_95 : decode cX0_gather 95 = .ok (.invokevirtual 62, 3) := by decide +kernel
theorem dX0_gather_98 : decode cX0_gather 98 = .ok (.ifCond .ne 5, 3) := by decide +kernel
theorem dX0_gather_101 : decode cX0_gather 101 = .ok (.iconst 0, 1) := by decide +kernel
theorem dX0_gather_102 : decode cX0_gather 102 = .ok (.ireturn, 1) := by decide +kernel
theorem dX0_gather_103 : decode cX0_gather 103 = .ok (.iconst 1, 1) := by decide +kernel
theorem dX0_gather_104 : decode cX0_gather 104 = .ok (.istore 6, 2) := by decide +kernel
theorem dX0_gather_106 : decode cX0_gather 106 = .ok (.aload_n 0, 1) := by decide +kernel
theorem dX0_gather_107 : decode cX0_gather 107 = .ok (.getfield 9, 3) := by decide +kernel
theorem dX0_gather_110 : decode cX0_gather 110 = .ok (.iload 8, 2) := by decide +kernel
theorem dX0_gather_112 : decode cX0_gather 112 = .ok (.bipush 8, 2) := by decide +kernel
theorem dX0_gather_114 : decode cX0_gather 114 = .ok (.invokevirtual 66, 3) := by decide +kernel
theorem dX0_gather_117 : decode cX0_gather 117 = .ok (.l2i, 1) := by decide +kernel
theorem dX0_gather_118 : decode cX0_gather 118 = .ok (.istore_n 3, 1) := by decide +kernel
theorem dX0_gather_119 : decode cX0_gather 119 = .ok (.aload_n 0, 1) := by decide +kernel
theorem dX0_gather_120 : decode cX0_gather 120 = .ok (.getfield 9, 3) := by decide +kernel
theorem dX0_gather_123 : decode cX0_gather 123 = .ok (.iload 8, 2) := by decide +kernel
theorem dX0_gather_125 : decode cX0_gather 125 = .ok (.bipush 8, 2) := by decide +kernel
theorem dX0_gather_127 : decode cX0_gather 127 = .ok (.iadd, 1) := by decide +kernel
theorem dX0_gather_128 : decode cX0_gather 128 = .ok (.iconst 4, 1) := by decide +kernel
theorem dX0_gather_129 : decode cX0_gather 129 = .ok (.invokevirtual 66, 3) := by decide +kernel
theorem dX0_gather_132 : decode cX0_gather 132 = .ok (.l2i, 1) := by decide +kernel
theorem dX0_gather_133 : decode cX0_gather 133 = .ok (.bipush 16, 2) := by decide +kernel
theorem dX0_gather_135 : decode cX0_gather 135 = .ok (.idiv, 1) := by decide +kernel
theorem dX0_gather_136 : decode cX0_gather 136 = .ok (.istore 4, 2) := by decide +kernel
theorem dX0_gather_138 : decode cX0_gather 138 = .ok (.iconst 0, 1) := by decide +kernel
theorem dX0_gather_139 : decode cX0_gather 139 = .ok (.istore 5, 2) := by decide +kernel
theorem dX0_gather_141 : decode cX0_gather 141 = .ok (.goto 49, 3) := by decide +kernel
theorem dX0_gather_144 : decode cX0_gather 144 = .ok (.aload_n 0, 1) := by decide +kernel
theorem dX0_gather_145 : decode cX0_gather 145 = .ok (.iload 8, 2) := by decide +kernel
theorem dX0_gather_147 : decode cX0_gather 147 = .ok (.iload 9, 2) := by decide +kernel
theorem dX0_gather_149 : decode cX0_gather 149 = .ok (.iconst 2, 1) := by decide +kernel
theorem dX0_gather_150 : decode cX0_gather 150 = .ok (.iand, 1) := by decide +kernel
theorem dX0_gather_151 : decode cX0_gather 151 = .ok (.ifCond .eq 7, 3) := by decide +kernel
theorem dX0_gather_154 : decode cX0_gather 154 = .ok (.iconst 1, 1) := by decide +kernel
theorem dX0_gather_155 : decode cX0_gather 155 = .ok (.goto 4, 3) := by decide +kernel
theorem dX0_gather_158 : decode cX0_gather 158 = .ok (.iconst 0, 1) := by decide +kernel
theorem dX0_gather_159 : decode cX0_gather 159 = .ok (.invokevirtual 70, 3) := by decide +kernel
theorem dX0_gather_162 : decode cX0_gather 162 = .ok (.ifCond .ne 5, 3) := by decide +kernel
theorem dX0_gather_165 : decode cX0_gather 165 = .ok (.iconst 0, 1) := by decide +kernel
theorem dX0_gather_166 : decode cX0_gather 166 = .ok (.ireturn, 1) := by decide +kernel
theorem dX0_gather_167 : decode cX0_gather 167 = .ok (.iload 9, 2) := by decide +kernel
theorem dX0_gather_169 : decode cX0_gather 169 = .ok (.iconst 1, 1) := by decide +kernel
theorem dX0_gather_170 : decode cX0_gather 170 = .ok (.iand, 1) := by decide +kernel
theorem dX0_gather_171 : decode cX0_gather 171 = .ok (.ifCond .ne 5, 3) := by decide +kernel
theorem dX0_gather_174 : decode cX0_gather 174 = .ok (.iconst 1, 1) := by decide +kernel
theorem dX0_gather_175 : decode cX0_gather 175 = .ok (.ireturn, 1) := by decide +kernel
theorem dX0_gather_176 : decode cX0_gather 176 = .ok (.aload_n 0, 1) := by decide +kernel
theorem dX0_gather_177 : decode cX0_gather 177 = .ok (.getfield 9, 3) := by decide +kernel
theorem dX0_gather_180 : decode cX0_gather 180 = .ok (.iload 8, 2) := by decide +kernel
theorem dX0_gather_182 : decode cX0_gather 182 = .ok (.bipush 14, 2) := by decide +kernel
theorem dX0_gather_184 : decode cX0_gather 184 = .ok (.iadd, 1) := by decide +kernel
theorem dX0_gather_185 : decode cX0_gather 185 = .ok (.invokevirtual 56, 3) := by decide +kernel
theorem dX0_gather_188 : decode cX0_gather 188 = .ok (.istore 5, 2) := by decide +kernel
theorem dX0_gather_190 : decode cX0_gather 190 = .ok (.iinc 7 1, 3) := by decide +kernel
theorem dX0_gather_193 : decode cX0_gather 193 = .ok (.goto (-158), 3) := by decide +kernel
theorem dX0_gather_196 : decode cX0_gather 196 = .ok (.iconst 0, 1) := by decide +kernel
theorem dX0_gather_197 : decode cX0_gather 197 = .ok (.ireturn, 1) := by decide +kernel
theorem dX0_isTable_0 : decode cX0_isTable 0 = .ok (.aload_n 0, 1) := by decide +kernel
theorem dX0_isTable_1 : decode cX0_isTable 1 = .ok (.getfield 9, 3) := by decide +kernel
theorem dX0_isTable_4 : decode cX0_isTable 4 = .ok (.iload_n 1, 1) := by decide +kernel
theorem dX0_isTable_5 : decode cX0_isTable 5 = .ok (.bipush 8, 2) := by decide +kernel
theorem dX0_isTable_7 : decode cX0_isTable 7 = .ok (.iadd, 1) := by decide +kernel
theorem dX0_isTable_8 : decode cX0_isTable 8 = .ok (.iconst 4, 1) := by decide +kernel
theorem dX0_isTable_9 : decode cX0_isTable 9 = .ok (.invokevirtual 66, 3) := by decide +kernel
theorem dX0_isTable_12 : decode cX0_isTable 12 = .ok (.lstore_n 3, 1) := by decide +kernel
theorem dX0_isTable_13 : decode cX0_isTable 13 = .ok (.aload_n 0, 1) := by decide +kernel
theorem dX0_isTable_14 : decode cX0_isTable 14 = .ok (.getfield 22, 3) := by decide +kernel
theorem dX0_isTable_17 : decode cX0_isTable 17 = .ok (.bipush 16, 2) := by decide +kernel
theorem dX0_isTable_19 : decode cX0_isTable 19 = .ok (.if_icmp .ge 54, 3) := by decide +kernel
theorem dX0_isTable_22 : decode cX0_isTable 22 = .ok (.iload_n 2, 1) := by decide +kernel
theorem dX0_isTable_23 : decode cX0_isTable 23 = .ok (.iconst 1, 1) := by decide +kernel
theorem dX0_isTable_24 : decode cX0_isTable 24 = .ok (.iand, 1) := by decide +kernel
theorem dX0_isTable_25 : decode cX0_isTable 25 = .ok (.ifCond .ne 48, 3) := by decide +kernel
theorem dX0_isTable_28 : decode cX0_isTable 28 = .ok (.lload_n 3, 1) := by decide +kernel
theorem dX0_isTable_29 : decode cX0_isTable 29 = .ok (.lconst 0, 1) := by decide +kernel
theorem dX0_isTable_30 : decode cX0_isTable 30 = .ok (.lcmp, 1) := by decide +kernel
theorem dX0_isTable_31 : decode cX0_isTable 31 = .ok (.ifCond .le 42, 3) := by decide +kernel
theorem dX0_isTable_34 : decode cX0_isTable 34 = .ok (.lload_n 3, 1) := by decide +kernel
theorem dX0_isTable_35 : decode cX0_isTable 35 = .ok (.ldc2_w 74, 3) := by decide +kernel
theorem dX0_isTable_38 : decode cX0_isTable 38 = .ok (.lcmp, 1) := by decide +kernel
theorem dX0_isTable_39 : decode cX0_isTable 39 = .ok (.ifCond .gt 34, 3) := by decide +kernel
theorem dX0_isTable_42 : decode cX0_isTable 42 = .ok (.lload_n 3, 1) := by decide +kernel
theorem dX0_isTable_43 : decode cX0_isTable 43 = .ok (.ldc2_w 76, 3) := by decide +kernel
theorem dX0_isTable_46 : decode cX0_isTable 46 = .ok (.lrem, 1) := by decide +kernel
theorem dX0_isTable_47 : decode cX0_isTable 47 = .ok (.lconst 0, 1) := by decide +kernel
theorem dX0_isTable_48 : decode cX0_isTable 48 = .ok (.lcmp, 1) := by decide +kernel
theorem dX0_isTable_49 : decode cX0_isTable 49 = .ok (.ifCond .ne 24, 3) := by decide +kernel
theorem dX0_isTable_52 : decode cX0_isTable 52 = .ok (.aload_n 0, 1) := by decide +kernel
theorem dX0_isTable_53 : decode cX0_isTable 53 = .ok (.getfield 9, 3) := by decide +kernel
theorem dX0_isTable_56 : decode cX0_isTable 56 = .ok (.iload_n 1, 1) := by decide +kernel
theorem dX0_isTable_57 : decode cX0_isTable 57 = .ok (.bipush 8, 2) := by decide +kernel
theorem dX0_isTable_59 : decode cX0_isTable 59 = .ok (.invokevirtual 66, 3) := by decide +kernel
theorem dX0_isTable_62 : decode cX0_isTable 62 = .ok (.lload_n 3, 1) := by decide +kernel
theorem dX0_isTable_63 : decode cX0_isTable 63 = .ok (.invokestatic 78, 3) := by decide +kernel
theorem dX0_isTable_66 : decode cX0_isTable 66 = .ok (.ifCond .eq 7, 3) := by decide +kernel
theorem dX0_isTable_69 : decode cX0_isTable 69 = .ok (.iconst 1, 1) := by decide +kernel
theorem dX0_isTable_70 : decode cX0_isTable 70 = .ok (.goto 4, 3) := by decide +kernel
theorem dX0_isTable_73 : decode cX0_isTable 73 = .ok (.iconst 0, 1) := by decide +kernel
theorem dX0_isTable_74 : decode cX0_isTable 74 = .ok (.ireturn, 1) := by decide +kernel
theorem dX0_addPart_0 : decode cX0_addPart 0 = .ok (.aload_n 0, 1) := by decide +kernel
theorem dX0_addPart_1 : decode cX0_addPart 1 = .ok (.getfield 9, 3) := by decide +kernel
theorem dX0_addPart_4 : decode cX0_addPart 4 = .ok (.iload_n 1, 1) := by decide +kernel
theorem dX0_addPart_5 : decode cX0_addPart 5 = .ok (.bipush 8, 2) := by decide +kernel
theorem dX0_addPart_7 : decode cX0_addPart 7 = .ok (.invokevirtual 66, 3) := by decide +kernel
theorem dX0_addPart_10 : decode cX0_addPart 10 = .ok (.lstore_n 3, 1) := by decide +kernel
theorem dX0_addPart_11 : decode cX0_addPart 11 = .ok (.aload_n 0, 1) := by decide +kernel
theorem dX0_addPart_12 : decode cX0_addPart 12 = .ok (.getfield 9, 3) := by decide +kernel
theorem dX0_addPart_15 : decode cX0_addPart 15 = .ok (.iload_n 1, 1) := by decide +kernel
theorem dX0_addPart_16 : decode cX0_addPart 16 = .ok (.bipush 8, 2) := by decide +kernel
theorem dX0_addPart_18 : decode cX0_addPart 18 = .ok (.iadd, 1) := by decide +kernel
theorem dX0_addPart_19 : decode cX0_addPart 19 = .ok (.iconst 4, 1) := by decide +kernel
theorem dX0_addPart_20 : decode cX0_addPart 20 = .ok (.invokevirtual 66, 3) := by decide +kernel
theorem dX0_addPart_23 : decode cX0_addPart 23 = .ok (.lstore 5, 2) := by decide +kernel
theorem dX0_addPart_25 : decode cX0_addPart 25 = .ok (.aload_n 0, 1) := by decide +kernel
theorem dX0_addPart_26 : decode cX0_addPart 26 = .ok (.getfield 22, 3) := by decide +kernel
theorem dX0_addPart_29 : decode cX0_addPart 29 = .ok (.bipush 16, 2) := by decide +kernel
theorem dX0_addPart_31 : decode cX0_addPart 31 = .ok (.if_icmp .ge 19, 3) := by decide +kernel
theorem dX0_addPart_34 : decode cX0_addPart 34 = .ok (.lload 5, 2) := by decide +kernel
theorem dX0_addPart_36 : decode cX0_addPart 36 = .ok (.lconst 0, 1) := by decide +kernel
theorem dX0_addPart_37 : decode cX0_addPart 37 = .ok (.lcmp, 1) := by decide +kernel
theorem dX0_addPart_38 : decode cX0_addPart 38 = .ok (.ifCond .le 14, 3) := by decide +kernel
theorem dX0_addPart_41 : decode cX0_addPart 41 = .ok (.lload_n 3, 1) := by decide +kernel
theorem dX0_addPart_42 : decode cX0_addPart 42 = .ok (.lload 5, 2) := by decide +kernel
theorem dX0_addPart_44 : decode cX0_addPart 44 = .ok (.invokestatic 78, 3) := by decide +kernel
theorem dX0_addPart_47 : decode cX0_addPart 47 = .ok (.ifCond .ne 5, 3) := by decide +kernel
theorem dX0_addPart_50 : decode cX0_addPart 50 = .ok (.iconst 0, 1) := by decide +kernel
theorem dX0_addPart_51 : decode cX0_addPart 51 = .ok (.ireturn, 1) := by decide +kernel
theorem dX0_addPart_52 : decode cX0_addPart 52 = .ok (.iload_n 2, 1) := by decide +kernel
theorem dX0_addPart_53 : decode cX0_addPart 53 = .ok (.ifCond .ne 16, 3) := by decide +kernel
theorem dX0_addPart_56 : decode cX0_addPart 56 = .ok (.aload_n 0, 1) := by decide +kernel
theorem dX0_addPart_57 : decode cX0_addPart 57 = .ok (.getfield 26, 3) := by decide +kernel
theorem dX0_addPart_60 : decode cX0_addPart 60 = .ok (.aload_n 0, 1) := by decide +kernel
theorem dX0_addPart_61 : decode cX0_addPart 61 = .ok (.getfield 22, 3) := by decide +kernel
theorem dX0_addPart_64 : decode cX0_addPart 64 = .ok (.if_icmp .ge 5, 3) := by decide +kernel
theorem dX0_addPart_67 : decode cX0_addPart 67 = .ok (.iconst 0, 1) := by decide +kernel
theorem dX0_addPart_68 : decode cX0_addPart 68 = .ok (.ireturn, 1) := by decide +kernel
theorem dX0_addPart_69 : decode cX0_addPart 69 = .ok (.aload_n 0, 1) := by decide +kernel
theorem dX0_addPart_70 : decode cX0_addPart 70 = .ok (.getfield 15, 3) := by decide +kernel
theorem dX0_addPart_73 : decode cX0_addPart 73 = .ok (.aload_n 0, 1) := by decide +kernel
theorem dX0_addPart_74 : decode cX0_addPart 74 = .ok (.getfield 22, 3) := by decide +kernel
theorem dX0_addPart_77 : decode cX0_addPart 77 = .ok (.lload_n 3, 1) := by decide +kernel
theorem dX0_addPart_78 : decode cX0_addPart 78 = .ok (.l2i, 1) := by decide +kernel
theorem dX0_addPart_79 : decode cX0_addPart 79 = .ok (.iastore, 1) := by decide +kernel
theorem dX0_addPart_80 : decode cX0_addPart 80 = .ok (.aload_n 0, 1) := by decide +kernel
theorem dX0_addPart_81 : decode cX0_addPart 81 = .ok (.getfield 19, 3) := by decide +kernel
theorem dX0_addPart_84 : decode cX0_addPart 84 = .ok (.aload_n 0, 1) := by decide +kernel
theorem dX0_addPart_85 : decode cX0_addPart 85 = .ok (.getfield 22, 3) := by decide +kernel
theorem dX0_addPart_88 : decode cX0_addPart 88 = .ok (.lload 5, 2) := by decide +kernel
theorem dX0_addPart_90 : decode cX0_addPart 90 = .ok (.l2i, 1) := by decide +kernel
theorem dX0_addPart_91 : decode cX0_addPart 91 = .ok (.iastore, 1) := by decide +kernel
theorem dX0_addPart_92 : decode cX0_addPart 92 = .ok (.aload_n 0, 1) := by decide +kernel
theorem dX0_addPart_93 : decode cX0_addPart 93 = .ok (.dup, 1) := by decide +kernel
theorem dX0_addPart_94 : decode cX0_addPart 94 = .ok (.getfield 22, 3) := by decide +kernel
theorem dX0_addPart_97 : decode cX0_addPart 97 = .ok (.iconst 1, 1) := by decide +kernel
theorem dX0_addPart_98 : decode cX0_addPart 98 = .ok (.iadd, 1) := by decide +kernel
theorem dX0_addPart_99 : decode cX0_addPart 99 = .ok (.putfield 22, 3) := by decide +kernel
theorem dX0_addPart_102 : decode cX0_addPart 102 = .ok (.iload_n 2, 1) := by decide +kernel
theorem dX0_addPart_103 : decode cX0_addPart 103 = .ok (.ifCond .ne 26, 3) := by decide +kernel
theorem dX0_addPart_106 : decode cX0_addPart 106 = .ok (.aload_n 0, 1) := by decide +kernel
theorem dX0_addPart_107 : decode cX0_addPart 107 = .ok (.aload_n 0, 1) := by decide +kernel
theorem dX0_addPart_108 : decode cX0_addPart 108 = .ok (.getfield 22, 3) := by decide +kernel
theorem dX0_addPart_111 : decode cX0_addPart 111 = .ok (.putfield 26, 3) := by decide +kernel
theorem dX0_addPart_114 : decode cX0_addPart 114 = .ok (.aload_n 0, 1) := by decide +kernel
theorem dX0_addPart_115 : decode cX0_addPart 115 = .ok (.dup, 1) := by decide +kernel
theorem dX0_addPart_116 : decode cX0_addPart 116 = .ok (.getfield 29, 3) := by decide +kernel
theorem dX0_addPart_119 : decode cX0_addPart 119 = .ok (.lload 5, 2) := by decide +kernel
theorem dX0_addPart_121 : decode cX0_addPart 121 = .ok (.l2i, 1) := by decide +kernel
theorem dX0_addPart_122 : decode cX0_addPart 122 = .ok (.iadd, 1) := by decide +kernel
theorem dX0_addPart_123 : decode cX0_addPart 123 = .ok (.putfield 29, 3) := by decide +kernel
theorem dX0_addPart_126 : decode cX0_addPart 126 = .ok (.goto 33, 3) := by decide +kernel
theorem dX0_addPart_129 : decode cX0_addPart 129 = .ok (.lload 5, 2) := by decide +kernel
theorem dX0_addPart_131 : decode cX0_addPart 131 = .ok (.lconst 0, 1) := by decide +kernel
theorem dX0_addPart_132 : decode cX0_addPart 132 = .ok (.lcmp, 1) := by decide +kernel
theorem dX0_addPart_133 : decode cX0_addPart 133 = .ok (.ifCond .le 26, 3) := by decide +kernel
theorem dX0_addPart_136 : decode cX0_addPart 136 = .ok (.aload_n 0, 1) := by decide +kernel
theorem dX0_addPart_137 : decode cX0_addPart 137 = .ok (.dup, 1) := by decide +kernel
theorem dX0_addPart_138 : decode cX0_addPart 138 = .ok (.getfield 32, 3) := by decide +kernel
theorem dX0_addPart_141 : decode cX0_addPart 141 = .ok (.lload 5, 2) := by decide +kernel
theorem dX0_addPart_143 : decode cX0_addPart 143 = .ok (.l2i, 1) := by decide +kernel
theorem dX0_addPart_144 : decode cX0_addPart 144 = .ok (.iadd, 1) := by decide +kernel
theorem dX0_addPart_145 : decode cX0_addPart 145 = .ok (.putfield 32, 3) := by decide +kernel
theorem dX0_addPart_148 : decode cX0_addPart 148 = .ok (.aload_n 0, 1) := by decide +kernel
theorem dX0_addPart_149 : decode cX0_addPart 149 = .ok (.lload_n 3, 1) := by decide +kernel
theorem dX0_addPart_150 : decode cX0_addPart 150 = .ok (.lload 5, 2) := by decide +kernel
theorem dX0_addPart_152 : decode cX0_addPart 152 = .ok (.ladd, 1) := by decide +kernel
theorem dX0_addPart_153 : decode cX0_addPart 153 = .ok (.l2i, 1) := by decide +kernel
theorem dX0_addPart_154 : decode cX0_addPart 154 = .ok (.iconst 1, 1) := by decide +kernel
theorem dX0_addPart_155 : decode cX0_addPart 155 = .ok (.isub, 1) := by decide +kernel
theorem dX0_addPart_156 : decode cX0_addPart 156 = .ok (.putfield 35, 3) := by decide +kernel
theorem dX0_addPart_159 : decode cX0_addPart 159 = .ok (.iconst 1, 1) := by decide +kernel
theorem dX0_addPart_160 : decode cX0_addPart 160 = .ok (.ireturn, 1) := by decide +kernel
theorem dX0_toReads_0 : decode cX0_toReads 0 = .ok (.aload_n 0, 1) := by decide +kernel
theorem dX0_toReads_1 : decode cX0_toReads 1 = .ok (.iconst 0, 1) := by decide +kernel
theorem dX0_toReads_2 : decode cX0_toReads 2 = .ok (.putfield 82, 3) := by decide +kernel
theorem dX0_toReads_5 : decode cX0_toReads 5 = .ok (.aload_n 0, 1) := by decide +kernel
theorem dX0_toReads_6 : decode cX0_toReads 6 = .ok (.iconst 0, 1) := by decide +kernel
theorem dX0_toReads_7 : decode cX0_toReads 7 = .ok (.putfield 85, 3) := by decide +kernel
theorem dX0_toReads_10 : decode cX0_toReads 10 = .ok (.aload_n 0, 1) := by decide +kernel
theorem dX0_toReads_11 : decode cX0_toReads 11 = .ok (.aload_n 0, 1) := by decide +kernel
theorem dX0_toReads_12 : decode cX0_toReads 12 = .ok (.getfield 26, 3) := by decide +kernel
theorem dX0_toReads_15 : decode cX0_toReads 15 = .ok (.putfield 88, 3) := by decide +kernel
theorem dX0_toReads_18 : decode cX0_toReads 18 = .ok (.return_, 1) := by decide +kernel
theorem dX0_toWrites_0 : decode cX0_toWrites 0 = .ok (.aload_n 0, 1) := by decide +kernel
theorem dX0_toWrites_1 : decode cX0_toWrites 1 = .ok (.aload_n 0, 1) := by decide +kernel
theorem dX0_toWrites_2 : decode cX0_toWrites 2 = .ok (.getfield 26, 3) := by decide +kernel
theorem dX0_toWrites_5 : decode cX0_toWrites 5 = .ok (.putfield 82, 3) := by decide +kernel
theorem dX0_toWrites_8 : decode cX0_toWrites 8 = .ok (.aload_n 0, 1) := by decide +kernel
theorem dX0_toWrites_9 : decode cX0_toWrites 9 = .ok (.iconst 0, 1) := by decide +kernel
theorem dX0_toWrites_10 : decode cX0_toWrites 10 = .ok (.putfield 85, 3) := by decide +kernel
theorem dX0_toWrites_13 : decode cX0_toWrites 13 = .ok (.aload_n 0, 1) := by decide +kernel
theorem dX0_toWrites_14 : decode cX0_toWrites 14 = .ok (.aload_n 0, 1) := by decide +kernel
theorem dX0_toWrites_15 : decode cX0_toWrites 15 = .ok (.getfield 22, 3) := by decide +kernel
theorem dX0_toWrites_18 : decode cX0_toWrites 18 = .ok (.putfield 88, 3) := by decide +kernel
theorem dX0_toWrites_21 : decode cX0_toWrites 21 = .ok (.return_, 1) := by decide +kernel
theorem dX0_nextByte_0 : decode cX0_nextByte 0 = .ok (.aload_n 0, 1) := by decide +kernel
theorem dX0_nextByte_1 : decode cX0_nextByte 1 = .ok (.getfield 9, 3) := by decide +kernel
theorem dX0_nextByte_4 : decode cX0_nextByte 4 = .ok (.aload_n 0, 1) := by decide +kernel
theorem dX0_nextByte_5 : decode cX0_nextByte 5 = .ok (.invokevirtual 91, 3) := by decide +kernel
theorem dX0_nextByte_8 : decode cX0_nextByte 8 = .ok (.invokevirtual 94, 3) := by decide +kernel
theorem dX0_nextByte_11 : decode cX0_nextByte 11 = .ok (.ireturn, 1) := by decide +kernel
theorem dX0_nextNumber_0 : decode cX0_nextNumber 0 = .ok (.lconst 0, 1) := by decide +kernel
theorem dX0_nextNumber_1 : decode cX0_nextNumber 1 = .ok (.lstore_n 2, 1) := by decide +kernel
theorem dX0_nextNumber_2 : decode cX0_nextNumber 2 = .ok (.iconst 0, 1) := by decide +kernel
theorem dX0_nextNumber_3 : decode cX0_nextNumber 3 = .ok (.istore 4, 2) := by decide +kernel
theorem dX0_nextNumber_5 : decode cX0_nextNumber 5 = .ok (.iload 4, 2) := by decide +kernel
theorem dX0_nextNumber_7 : decode cX0_nextNumber 7 = .ok (.iload_n 1, 1) := by decide +kernel
theorem dX0_nextNumber_8 : decode cX0_nextNumber 8 = .ok (.if_icmp .ge 23, 3) := by decide +kernel
theorem dX0_nextNumber_11 : decode cX0_nextNumber 11 = .ok (.lload_n 2, 1) := by decide +kernel
theorem dX0_nextNumber_12 : decode cX0_nextNumber 12 = .ok (.aload_n 0, 1) := by decide +kernel
theorem dX0_nextNumber_13 : decode cX0_nextNumber 13 = .ok (.invokevirtual 97, 3) := by decide +kernel
theorem dX0_nextNumber_16 : decode cX0_nextNumber 16 = .ok (.i2l, 1) := by decide +kernel
theorem dX0_nextNumber_17 : decode cX0_nextNumber 17 = .ok (.bipush 8, 2) := by decide +kernel
theorem dX0_nextNumber_19 : decode cX0_nextNumber 19 = .ok (.iload 4, 2) := by decide +kernel
theorem dX0_nextNumber_21 : decode cX0_nextNumber 21 = .ok (.imul, 1) := by decide +kernel
theorem dX0_nextNumber_22 : decode cX0_nextNumber 22 = .ok (.lshl, 1) := by decide +kernel
theorem dX0_nextNumber_23 : decode cX0_nextNumber 23 = .ok (.lor, 1) := by decide +kernel
theorem dX0_nextNumber_24 : decode cX0_nextNumber 24 = .ok (.lstore_n 2, 1) := by decide +kernel
theorem dX0_nextNumber_25 : decode cX0_nextNumber 25 = .ok (.iinc 4 1, 3) := by decide +kernel
theorem dX0_nextNumber_28 : decode cX0_nextNumber 28 = .ok (.goto (-23), 3) := by decide +kernel
theorem dX0_nextNumber_31 : decode cX0_nextNumber 31 = .ok (.lload_n 2, 1) := by decide +kernel
theorem dX0_nextNumber_32 : decode cX0_nextNumber 32 = .ok (.lreturn, 1) := by decide +kernel
theorem dX0_skip_0 : decode cX0_skip 0 = .ok (.iconst 0, 1) := by decide +kernel
theorem dX0_skip_1 : decode cX0_skip 1 = .ok (.istore_n 2, 1) := by decide +kernel
theorem dX0_skip_2 : decode cX0_skip 2 = .ok (.iload_n 2, 1) := by decide +kernel
theorem dX0_skip_3 : decode cX0_skip 3 = .ok (.iload_n 1, 1) := by decide +kernel
theorem dX0_skip_4 : decode cX0_skip 4 = .ok (.if_icmp .ge 14, 3) := by decide +kernel
theorem dX0_skip_7 : decode cX0_skip 7 = .ok (.aload_n 0, 1) := by decide +kernel
theorem dX0_skip_8 : decode cX0_skip 8 = .ok (.invokevirtual 91, 3) := by decide +kernel
theorem dX0_skip_11 : decode cX0_skip 11 = .ok (.pop, 1) := by decide +kernel
theorem dX0_skip_12 : decode cX0_skip 12 = .ok (.iinc 2 1, 3) := by decide +kernel
theorem dX0_skip_15 : decode cX0_skip 15 = .ok (.goto (-13), 3) := by decide +kernel
theorem dX0_skip_18 : decode cX0_skip 18 = .ok (.return_, 1) := by decide +kernel
theorem dX0_putByte_0 : decode cX0_putByte 0 = .ok (.aload_n 0, 1) := by decide +kernel
theorem dX0_putByte_1 : decode cX0_putByte 1 = .ok (.getfield 9, 3) := by decide +kernel
theorem dX0_putByte_4 : decode cX0_putByte 4 = .ok (.aload_n 0, 1) := by decide +kernel
theorem dX0_putByte_5 : decode cX0_putByte 5 = .ok (.invokevirtual 91, 3) := by decide +kernel
theorem dX0_putByte_8 : decode cX0_putByte 8 = .ok (.iload_n 1, 1) := by decide +kernel
theorem dX0_putByte_9 : decode cX0_putByte 9 = .ok (.invokevirtual 100, 3) := by decide +kernel
theorem dX0_putByte_12 : decode cX0_putByte 12 = .ok (.return_, 1) := by decide +kernel
theorem dX0_putLast_0 : decode cX0_putLast 0 = .ok (.aload_n 0, 1) := by decide +kernel
theorem dX0_putLast_1 : decode cX0_putLast 1 = .ok (.getfield 9, 3) := by decide +kernel
theorem dX0_putLast_4 : decode cX0_putLast 4 = .ok (.aload_n 0, 1) := by decide +kernel
theorem dX0_putLast_5 : decode cX0_putLast 5 = .ok (.getfield 35, 3) := by decide +kernel
theorem dX0_putLast_8 : decode cX0_putLast 8 = .ok (.iload_n 1, 1) := by decide +kernel
theorem dX0_putLast_9 : decode cX0_putLast 9 = .ok (.invokevirtual 100, 3) := by decide +kernel
theorem dX0_putLast_12 : decode cX0_putLast 12 = .ok (.return_, 1) := by decide +kernel
theorem dX0_nextPlace_0 : decode cX0_nextPlace 0 = .ok (.aload_n 0, 1) := by decide +kernel
theorem dX0_nextPlace_1 : decode cX0_nextPlace 1 = .ok (.getfield 82, 3) := by decide +kernel
theorem dX0_nextPlace_4 : decode cX0_nextPlace 4 = .ok (.aload_n 0, 1) := by decide +kernel
theorem dX0_nextPlace_5 : decode cX0_nextPlace 5 = .ok (.getfield 88, 3) := by decide +kernel
theorem dX0_nextPlace_8 : decode cX0_nextPlace 8 = .ok (.if_icmp .ge 73, 3) := by decide +kernel
theorem dX0_nextPlace_11 : decode cX0_nextPlace 11 = .ok (.aload_n 0, 1) := by decide +kernel
theorem dX0_nextPlace_12 : decode cX0_nextPlace 12 = .ok (.getfield 82, 3) := by decide +kernel
theorem dX0_nextPlace_15 : decode cX0_nextPlace 15 = .ok (.bipush 16, 2) := by decide +kernel
theorem dX0_nextPlace_17 : decode cX0_nextPlace 17 = .ok (.if_icmp .ge 64, 3) := by decide +kernel
theorem dX0_nextPlace_20 : decode cX0_nextPlace 20 = .ok (.aload_n 0, 1) := by decide +kernel
theorem dX0_nextPlace_21 : decode cX0_nextPlace 21 = .ok (.getfield 85, 3) := by decide +kernel
theorem dX0_nextPlace_24 : decode cX0_nextPlace 24 = .ok (.aload_n 0, 1) := by decide +kernel
theorem dX0_nextPlace_25 : decode cX0_nextPlace 25 = .ok (.getfield 19, 3) := by decide +kernel
theorem dX0_nextPlace_28 : decode cX0_nextPlace 28 = .ok (.aload_n 0, 1) := by decide +kernel
theorem dX0_nextPlace_29 : decode cX0_nextPlace 29 = .ok (.getfield 82, 3) := by decide +kernel
theorem dX0_nextPlace_32 : decode cX0_nextPlace 32 = .ok (.iaload, 1) := by decide +kernel
theorem dX0_nextPlace_33 : decode cX0_nextPlace 33 = .ok (.if_icmp .ge 30, 3) := by decide +kernel
theorem dX0_nextPlace_36 : decode cX0_nextPlace 36 = .ok (.aload_n 0, 1) := by decide +kernel
theorem dX0_nextPlace_37 : decode cX0_nextPlace 37 = .ok (.dup, 1) := by decide +kernel
theorem dX0_nextPlace_38 : decode cX0_nextPlace 38 = .ok (.getfield 85, 3) := by decide +kernel
theorem dX0_nextPlace_41 : decode cX0_nextPlace 41 = .ok (.iconst 1, 1) := by decide +kernel
theorem dX0_nextPlace_42 : decode cX0_nextPlace 42 = .ok (.iadd, 1) := by decide +kernel
theorem dX0_nextPlace_43 : decode cX0_nextPlace 43 = .ok (.putfield 85, 3) := by decide +kernel
theorem dX0_nextPlace_46 : decode cX0_nextPlace 46 = .ok (.aload_n 0, 1) := by decide +kernel
theorem dX0_nextPlace_47 : decode cX0_nextPlace 47 = .ok (.getfield 15, 3) := by decide +kernel
theorem dX0_nextPlace_50 : decode cX0_nextPlace 50 = .ok (.aload_n 0, 1) := by decide +kernel
theorem dX0_nextPlace_51 : decode cX0_nextPlace 51 = .ok (.getfield 82, 3) := by decide +kernel
theorem dX0_nextPlace_54 : decode cX0_nextPlace 54 = .ok (.iaload, 1) := by decide +kernel
theorem dX0_nextPlace_55 : decode cX0_nextPlace 55 = .ok (.aload_n 0, 1) := by decide +kernel
theorem dX0_nextPlace_56 : decode cX0_nextPlace 56 = .ok (.getfield 85, 3) := by decide +kernel
theorem dX0_nextPlace_59 : decode cX0_nextPlace 59 = .ok (.iadd, 1) := by decide +kernel
theorem dX0_nextPlace_60 : decode cX0_nextPlace 60 = .ok (.iconst 1, 1) := by decide +kernel
theorem dX0_nextPlace_61 : decode cX0_nextPlace 61 = .ok (.isub, 1) := by decide +kernel
theorem dX0_nextPlace_62 : decode cX0_nextPlace 62 = .ok (.ireturn, 1) := by decide +kernel
theorem dX0_nextPlace_63 : decode cX0_nextPlace 63 = .ok (.aload_n 0, 1) := by decide +kernel
theorem dX0_nextPlace_64 : decode cX0_nextPlace 64 = .ok (.dup, 1) := by decide +kernel
theorem dX0_nextPlace_65 : decode cX0_nextPlace 65 = .ok (.getfield 82, 3) := by decide +kernel
theorem dX0_nextPlace_68 : decode cX0_nextPlace 68 = .ok (.iconst 1, 1) := by decide +kernel
theorem dX0_nextPlace_69 : decode cX0_nextPlace 69 = .ok (.iadd, 1) := by decide +kernel
theorem dX0_nextPlace_70 : decode cX0_nextPlace 70 = .ok (.putfield 82, 3) := by decide +kernel
theorem dX0_nextPlace_73 : decode cX0_nextPlace 73 = .ok (.aload_n 0, 1) := by decide +kernel
theorem dX0_nextPlace_74 : decode cX0_nextPlace 74 = .ok (.iconst 0, 1) := by decide +kernel
theorem dX0_nextPlace_75 : decode cX0_nextPlace 75 = .ok (.putfield 85, 3) := by decide +kernel
theorem dX0_nextPlace_78 : decode cX0_nextPlace 78 = .ok (.goto (-78), 3) := by decide +kernel
theorem dX0_nextPlace_81 : decode cX0_nextPlace 81 = .ok (.iconst (-1), 1) := by decide +kernel
theorem dX0_nextPlace_82 : decode cX0_nextPlace 82 = .ok (.ireturn, 1) := by decide +kernel
theorem dX1_init_0 : decode cX1_init 0 = .ok (.aload_n 0, 1) := by decide +kernel
theorem dX1_init_1 : decode cX1_init 1 = .ok (.invokespecial 3, 3) := by decide +kernel
theorem dX1_init_4 : decode cX1_init 4 = .ok (.aload_n 0, 1) := by decide +kernel
theorem dX1_init_5 : decode cX1_init 5 = .ok (.new 9, 3) := by decide +kernel
theorem dX1_init_8 : decode cX1_init 8 = .ok (.dup, 1) := by decide +kernel
theorem dX1_init_9 : decode cX1_init 9 = .ok (.aload_n 1, 1) := by decide +kernel
theorem dX1_init_10 : decode cX1_init 10 = .ok (.invokespecial 11, 3) := by decide +kernel
theorem dX1_init_13 : decode cX1_init 13 = .ok (.putfield 14, 3) := by decide +kernel
theorem dX1_init_16 : decode cX1_init 16 = .ok (.aload_n 0, 1) := by decide +kernel
theorem dX1_init_17 : decode cX1_init 17 = .ok (.new 9, 3) := by decide +kernel
theorem dX1_init_20 : decode cX1_init 20 = .ok (.dup, 1) := by decide +kernel
theorem dX1_init_21 : decode cX1_init 21 = .ok (.aload_n 1, 1) := by decide +kernel
theorem dX1_init_22 : decode cX1_init 22 = .ok (.invokespecial 11, 3) := by decide +kernel
theorem dX1_init_25 : decode cX1_init 25 = .ok (.putfield 20, 3) := by decide +kernel
theorem dX1_init_28 : decode cX1_init 28 = .ok (.aload_n 0, 1) := by decide +kernel
theorem dX1_init_29 : decode cX1_init 29 = .ok (.new 9, 3) := by decide +kernel
theorem dX1_init_32 : decode cX1_init 32 = .ok (.dup, 1) := by decide +kernel
theorem dX1_init_33 : decode cX1_init 33 = .ok (.aload_n 1, 1) := by decide +kernel
theorem dX1_init_34 : decode cX1_init 34 = .ok (.invokespecial 11, 3) := by decide +kernel
theorem dX1_init_37 : decode cX1_init 37 = .ok (.putfield 23, 3) := by decide +kernel
theorem dX1_init_40 : decode cX1_init 40 = .ok (.aload_n 0, 1) := by decide +kernel
theorem dX1_init_41 : decode cX1_init 41 = .ok (.new 26, 3) := by decide +kernel
theorem dX1_init_44 : decode cX1_init 44 = .ok (.dup, 1) := by decide +kernel
theorem dX1_init_45 : decode cX1_init 45 = .ok (.aload_n 1, 1) := by decide +kernel
theorem dX1_init_46 : decode cX1_init 46 = .ok (.invokespecial 28, 3) := by decide +kernel
theorem dX1_init_49 : decode cX1_init 49 = .ok (.putfield 29, 3) := by decide +kernel
theorem dX1_init_52 : decode cX1_init 52 = .ok (.aload_n 0, 1) := by decide +kernel
theorem dX1_init_53 : decode cX1_init 53 = .ok (.new 33, 3) := by decide +kernel
theorem dX1_init_56 : decode cX1_init 56 = .ok (.dup, 1) := by decide +kernel
theorem dX1_init_57 : decode cX1_init 57 = .ok (.invokespecial 35, 3) := by decide +kernel
theorem dX1_init_60 : decode cX1_init 60 = .ok (.putfield 36, 3) := by decide +kernel
theorem dX1_init_63 : decode cX1_init 63 = .ok (.aload_n 0, 1) := by decide +kernel
theorem dX1_init_64 : decode cX1_init 64 = .ok (.new 40, 3) := by decide +kernel
theorem dX1_init_67 : decode cX1_init 67 = .ok (.dup, 1) := by decide +kernel
theorem dX1_init_68 : decode cX1_init 68 = .ok (.invokespecial 42, 3) := by decide +kernel
theorem dX1_init_71 : decode cX1_init 71 = .ok (.putfield 43, 3) := by decide +kernel
theorem dX1_init_74 : decode cX1_init 74 = .ok (.return_, 1) := by decide +kernel
theorem dX1_ringOf_0 : decode cX1_ringOf 0 = .ok (.iload_n 1, 1) := by decide +kernel
theorem dX1_ringOf_1 : decode cX1_ringOf 1 = .ok (.ifCond .ne 10, 3) := by decide +kernel
theorem dX1_ringOf_4 : decode cX1_ringOf 4 = .ok (.aload_n 0, 1) := by decide +kernel
theorem dX1_ringOf_5 : decode cX1_ringOf 5 = .ok (.getfield 14, 3) := by decide +kernel
theorem dX1_ringOf_8 : decode cX1_ringOf 8 = .ok (.goto 19, 3) := by decide +kernel
theorem dX1_ringOf_11 : decode cX1_ringOf 11 = .ok (.iload_n 1, 1) := by decide +kernel
theorem dX1_ringOf_12 : decode cX1_ringOf 12 = .ok (.iconst 1, 1) := by decide +kernel
theorem dX1_ringOf_13 : decode cX1_ringOf 13 = .ok (.if_icmp .ne 10, 3) := by decide +kernel
theorem dX1_ringOf_16 : decode cX1_ringOf 16 = .ok (.aload_n 0, 1) := by decide +kernel
theorem dX1_ringOf_17 : decode cX1_ringOf 17 = .ok (.getfield 20, 3) := by decide +kernel
theorem dX1_ringOf_20 : decode cX1_ringOf 20 = .ok (.goto 7, 3) := by decide +kernel
theorem dX1_ringOf_23 : decode cX1_ringOf 23 = .ok (.aload_n 0, 1) := by decide +kernel
theorem dX1_ringOf_24 : decode cX1_ringOf 24 = .ok (.getfield 23, 3) := by decide +kernel
theorem dX1_ringOf_27 : decode cX1_ringOf 27 = .ok (.areturn, 1) := by decide +kernel
theorem dX1_switchOff_0 : decode cX1_switchOff 0 = .ok (.aload_n 0, 1) := by decide +kernel
theorem dX1_switchOff_1 : decode cX1_switchOff 1 = .ok (.iconst 0, 1) := by decide +kernel
theorem dX1_switchOff_2 : decode cX1_switchOff 2 = .ok (.putfield 47, 3) := by decide +kernel
theorem dX1_switchOff_5 : decode cX1_switchOff 5 = .ok (.aload_n 0, 1) := by decide +kernel
theorem dX1_switchOff_6 : decode cX1_switchOff 6 = .ok (.iload_n 1, 1) := by decide +kernel
theorem dX1_switchOff_7 : decode cX1_switchOff 7 = .ok (.putfield 51, 3) := by decide +kernel
theorem dX1_switchOff_10 : decode cX1_switchOff 10 = .ok (.aload_n 0, 1) := by decide +kernel
theorem dX1_switchOff_11 : decode cX1_switchOff 11 = .ok (.getfield 14, 3) := by decide +kernel
theorem dX1_switchOff_14 : decode cX1_switchOff 14 = .ok (.invokevirtual 55, 3) := by decide +kernel
theorem dX1_switchOff_17 : decode cX1_switchOff 17 = .ok (.aload_n 0, 1) := by decide +kernel
theorem dX1_switchOff_18 : decode cX1_switchOff 18 = .ok (.getfield 20, 3) := by decide +kernel
theorem dX1_switchOff_21 : decode cX1_switchOff 21 = .ok (.invokevirtual 55, 3) := by decide +kernel
theorem dX1_switchOff_24 : decode cX1_switchOff 24 = .ok (.aload_n 0, 1) := by decide +kernel
theorem dX1_switchOff_25 : decode cX1_switchOff 25 = .ok (.getfield 23, 3) := by decide +kernel
theorem dX1_switchOff_28 : decode cX1_switchOff 28 = .ok (.invokevirtual 55, 3) := by decide +kernel
theorem dX1_switchOff_31 : decode cX1_switchOff 31 = .ok (.return_, 1) := by decide +kernel
theorem dX1_doChain_0 : decode cX1_doChain 0 = .ok (.aload_n 0, 1) := by decide +kernel
theorem dX1_doChain_1 : decode cX1_doChain 1 = .ok (.iload_n 1, 1) := by decide +kernel
theorem dX1_doChain_2 : decode cX1_doChain 2 = .ok (.invokevirtual 58, 3) := by decide +kernel
theorem dX1_doChain_5 : decode cX1_doChain 5 = .ok (.astore_n 2, 1) := by decide +kernel
theorem dX1_doChain_6 : decode cX1_doChain 6 = .ok (.aload_n 0, 1) := by decide +kernel
theorem dX1_doChain_7 : decode cX1_doChain 7 = .ok (.aload_n 2, 1) := by decide +kernel
theorem dX1_doChain_8 : decode cX1_doChain 8 = .ok (.invokevirtual 62, 3) := by decide +kernel
theorem dX1_doChain_11 : decode cX1_doChain 11 = .ok (.istore_n 3, 1) := by decide +kernel
theorem dX1_doChain_12 : decode cX1_doChain 12 = .ok (.iload_n 3, 1) := by decide +kernel
theorem dX1_doChain_13 : decode cX1_doChain 13 = .ok (.iconst 1, 1) := by decide +kernel
theorem dX1_doChain_14 : decode cX1_doChain 14 = .ok (.if_icmp .eq 5, 3) := by decide +kernel
theorem dX1_doChain_17 : decode cX1_doChain 17 = .ok (.iload_n 3, 1) := by decide +kernel
theorem dX1_doChain_18 : decode cX1_doChain 18 = .ok (.ireturn, 1) := by decide +kernel
theorem dX1_doChain_19 : decode cX1_doChain 19 = .ok (.iconst 0, 1) := by decide +kernel
theorem dX1_doChain_20 : decode cX1_doChain 20 = .ok (.istore 4, 2) := by decide +kernel
theorem dX1_doChain_22 : decode cX1_doChain 22 = .ok (.iload_n 1, 1) := by decide +kernel
theorem dX1_doChain_23 : decode cX1_doChain 23 = .ok (.ifCond .ne 19, 3) := by decide +kernel
theorem dX1_doChain_26 : decode cX1_doChain 26 = .ok (.aload_n 0, 1) := by decide +kernel
theorem dX1_doChain_27 : decode cX1_doChain 27 = .ok (.getfield 36, 3) := by decide +kernel
theorem dX1_doChain_30 : decode cX1_doChain 30 = .ok (.aload_n 0, 1) := by decide +kernel
theorem dX1_doChain_31 : decode cX1_doChain 31 = .ok (.getfield 29, 3) := by decide +kernel
theorem dX1_doChain_34 : decode cX1_doChain 34 = .ok (.invokevirtual 66, 3) := by decide +kernel
theorem dX1_doChain_37 : decode cX1_doChain 37 = .ok (.istore 4, 2) := by decide +kernel
theorem dX1_doChain_39 : decode cX1_doChain 39 = .ok (.goto 14, 3) := by decide +kernel
theorem dX1_doChain_42 : decode cX1_doChain 42 = .ok (.aload_n 0, 1) := by decide +kernel
theorem dX1_doChain_43 : decode cX1_doChain 43 = .ok (.getfield 43, 3) := by decide +kernel
theorem dX1_doChain_46 : decode cX1_doChain 46 = .ok (.aload_n 0, 1) := by decide +kernel
theorem dX1_doChain_47 : decode cX1_doChain 47 = .ok (.getfield 29, 3) := by decide +kernel
theorem dX1_doChain_50 : decode cX1_doChain 50 = .ok (.invokevirtual 70, 3) := by decide +kernel
theorem dX1_doChain_53 : decode cX1_doChain 53 = .ok (.aload_n 2, 1) := by decide +kernel
theorem dX1_doChain_54 : decode cX1_doChain 54 = .ok (.aload_n 0, 1) := by decide +kernel
theorem dX1_doChain_55 : decode cX1_doChain 55 = .ok (.getfield 29, 3) := by decide +kernel
theorem dX1_doChain_58 : decode cX1_doChain 58 = .ok (.getfield 74, 3) := by decide +kernel
theorem dX1_doChain_61 : decode cX1_doChain 61 = .ok (.iload 4, 2) := by decide +kernel
theorem dX1_doChain_63 : decode cX1_doChain 63 = .ok (.invokevirtual 77, 3) := by decide +kernel
theorem dX1_doChain_66 : decode cX1_doChain 66 = .ok (.iconst 1, 1) := by decide +kernel
theorem dX1_doChain_67 : decode cX1_doChain 67 = .ok (.ireturn, 1) := by decide +kernel
theorem dX1_frameComes_0 : decode cX1_frameComes 0 = .ok (.aload_n 0, 1) := by decide +kernel
theorem dX1_frameComes_1 : decode cX1_frameComes 1 = .ok (.aload_n 0, 1) := by decide +kernel
theorem dX1_frameComes_2 : decode cX1_frameComes 2 = .ok (.getfield 20, 3) := by decide +kernel
theorem dX1_frameComes_5 : decode cX1_frameComes 5 = .ok (.invokevirtual 62, 3) := by decide +kernel
theorem dX1_frameComes_8 : decode cX1_frameComes 8 = .ok (.istore 4, 2) := by decide +kernel
theorem dX1_frameComes_10 : decode cX1_frameComes 10 = .ok (.iload 4, 2) := by decide +kernel
theorem dX1_frameComes_12 : decode cX1_frameComes 12 = .ok (.ifCond .ge 6, 3) := by decide +kernel
theorem dX1_frameComes_15 : decode cX1_frameComes 15 = .ok (.iload 4, 2) := by decide +kernel
theorem dX1_frameComes_17 : decode cX1_frameComes 17 = .ok (.ireturn, 1) := by decide +kernel
theorem dX1_frameComes_18 : decode cX1_frameComes 18 = .ok (.iload 4, 2) := by decide +kernel
theorem dX1_frameComes_20 : decode cX1_frameComes 20 = .ok (.iconst 1, 1) := by decide +kernel
theorem dX1_frameComes_21 : decode cX1_frameComes 21 = .ok (.if_icmp .ne 24, 3) := by decide +kernel
theorem dX1_frameComes_24 : decode cX1_frameComes 24 = .ok (.aload_n 0, 1) := by decide +kernel
theorem dX1_frameComes_25 : decode cX1_frameComes 25 = .ok (.iload_n 1, 1) := by decide +kernel
theorem dX1_frameComes_26 : decode cX1_frameComes 26 = .ok (.lload_n 2, 1) := by decide +kernel
theorem dX1_frameComes_27 : decode cX1_frameComes 27 = .ok (.invokevirtual 81, 3) := by decide +kernel
theorem dX1_frameComes_30 : decode cX1_frameComes 30 = .ok (.ifCond .eq 15, 3) := by decide +kernel
theorem dX1_frameComes_33 : decode cX1_frameComes 33 = .ok (.aload_n 0, 1) := by decide +kernel
theorem dX1_frameComes_34 : decode cX1_frameComes 34 = .ok (.dup, 1) := by decide +kernel
theorem dX1_frameComes_35 : decode cX1_frameComes 35 = .ok (.getfield 85, 3) := by decide +kernel
theorem dX1_frameComes_38 : decode cX1_frameComes 38 = .ok (.iconst 1, 1) := by decide +kernel
theorem dX1_frameComes_39 : decode cX1_frameComes 39 = .ok (.iadd, 1) := by decide +kernel
theorem dX1_frameComes_40 : decode cX1_frameComes 40 = .ok (.putfield 85, 3) := by decide +kernel
theorem dX1_frameComes_43 : decode cX1_frameComes 43 = .ok (.iconst 1, 1) := by decide +kernel
theorem dX1_frameComes_44 : decode cX1_frameComes 44 = .ok (.ireturn, 1) := by decide +kernel
theorem dX1_frameComes_45 : decode cX1_frameComes 45 = .ok (.aload_n 0, 1) := by decide +kernel
theorem dX1_frameComes_46 : decode cX1_frameComes 46 = .ok (.dup, 1) := by decide +kernel
theorem dX1_frameComes_47 : decode cX1_frameComes 47 = .ok (.getfield 88, 3) := by decide +kernel
theorem dX1_frameComes_50 : decode cX1_frameComes 50 = .ok (.iconst 1, 1) := by decide +kernel
theorem dX1_frameComes_51 : decode cX1_frameComes 51 = .ok (.iadd, 1) := by decide +kernel
theorem dX1_frameComes_52 : decode cX1_frameComes 52 = .ok (.putfield 88, 3) := by decide +kernel
theorem dX1_frameComes_55 : decode cX1_frameComes 55 = .ok (.iconst 0, 1) := by decide +kernel
theorem dX1_frameComes_56 : decode cX1_frameComes 56 = .ok (.ireturn, 1) := by decide +kernel
theorem dX1_deliver_0 : decode cX1_deliver 0 = .ok (.aload_n 0, 1) := by decide +kernel
theorem dX1_deliver_1 : decode cX1_deliver 1 = .ok (.getfield 29, 3) := by decide +kernel
theorem dX1_deliver_4 : decode cX1_deliver 4 = .ok (.getfield 91, 3) := by decide +kernel
theorem dX1_deliver_7 : decode cX1_deliver 7 = .ok (.ifCond .ne 21, 3) := by decide +kernel
theorem dX1_deliver_10 : decode cX1_deliver 10 = .ok (.aload_n 0, 1) := by decide +kernel
theorem dX1_deliver_11 : decode cX1_deliver 11 = .ok (.getfield 29, 3) := by decide +kernel
theorem dX1_deliver_14 : decode cX1_deliver 14 = .ok (.getfield 94, 3) := by decide +kernel
theorem dX1_deliver_17 : decode cX1_deliver 17 = .ok (.bipush 12, 2) := by decide +kernel
theorem dX1_deliver_19 : decode cX1_deliver 19 = .ok (.iload_n 1, 1) := by decide +kernel
theorem dX1_deliver_20 : decode cX1_deliver 20 = .ok (.iadd, 1) := by decide +kernel
theorem dX1_deliver_21 : decode cX1_deliver 21 = .ok (.if_icmp .lt 7, 3) := by decide +kernel
theorem dX1_deliver_24 : decode cX1_deliver 24 = .ok (.iconst 1, 1) := by decide +kernel
theorem dX1_deliver_25 : decode cX1_deliver 25 = .ok (.goto 4, 3) := by decide +kernel
theorem dX1_deliver_28 : decode cX1_deliver 28 = .ok (.iconst 0, 1) := by decide +kernel
theorem dX1_deliver_29 : decode cX1_deliver 29 = .ok (.istore 4, 2) := by decide +kernel
theorem dX1_deliver_31 : decode cX1_deliver 31 = .ok (.iload 4, 2) := by decide +kernel
theorem dX1_deliver_33 : decode cX1_deliver 33 = .ok (.ifCond .eq 62, 3) := by decide +kernel
theorem dX1_deliver_36 : decode cX1_deliver 36 = .ok (.aload_n 0, 1) := by decide +kernel
theorem dX1_deliver_37 : decode cX1_deliver 37 = .ok (.getfield 29, 3) := by decide +kernel
theorem dX1_deliver_40 : decode cX1_deliver 40 = .ok (.invokevirtual 97, 3) := by decide +kernel
theorem dX1_deliver_43 : decode cX1_deliver 43 = .ok (.iconst 0, 1) := by decide +kernel
theorem dX1_deliver_44 : decode cX1_deliver 44 = .ok (.istore 5, 2) := by decide +kernel
theorem dX1_deliver_46 : decode cX1_deliver 46 = .ok (.iload 5, 2) := by decide +kernel
theorem dX1_deliver_48 : decode cX1_deliver 48 = .ok (.bipush 12, 2) := by decide +kernel
theorem dX1_deliver_50 : decode cX1_deliver 50 = .ok (.if_icmp .ge 17, 3) := by decide +kernel
theorem dX1_deliver_53 : decode cX1_deliver 53 = .ok (.aload_n 0, 1) := by decide +kernel
theorem dX1_deliver_54 : decode cX1_deliver 54 = .ok (.getfield 29, 3) := by decide +kernel
theorem dX1_deliver_57 : decode cX1_deliver 57 = .ok (.iconst 0, 1) := by decide +kernel
theorem dX1_deliver_58 : decode cX1_deliver 58 = .ok (.invokevirtual 100, 3) := by decide +kernel
theorem dX1_deliver_61 : decode cX1_deliver 61 = .ok (.iinc 5 1, 3) := by decide +kernel
theorem dX1_deliver_64 : decode cX1_deliver 64 = .ok (.goto (-18), 3) := by decide +kernel
theorem dX1_deliver_67 : decode cX1_deliver 67 = .ok (.iconst 0, 1) := by decide +kernel
theorem dX1_deliver_68 : decode cX1_deliver 68 = .ok (.istore 5, 2) := by decide +kernel
theorem dX1_deliver_70 : decode cX1_deliver 70 = .ok (.iload 5, 2) := by decide +kernel
theorem dX1_deliver_72 : decode cX1_deliver 72 = .ok (.iload_n 1, 1) := by decide +kernel
theorem dX1_deliver_73 : decode cX1_deliver 73 = .ok (.if_icmp .ge 22, 3) := by decide +kernel
theorem dX1_deliver_76 : decode cX1_deliver 76 = .ok (.aload_n 0, 1) := by decide +kernel
theorem dX1_deliver_77 : decode cX1_deliver 77 = .ok (.getfield 29, 3) := by decide +kernel
theorem dX1_deliver_80 : decode cX1_deliver 80 = .ok (.lload_n 2, 1) := by decide +kernel
theorem dX1_deliver_81 : decode cX1_deliver 81 = .ok (.iload 5, 2) := by decide +kernel
theorem dX1_deliver_83 : decode cX1_deliver 83 = .ok (.invokestatic 104, 3) := by decide +kernel
theorem dX1_deliver_86 : decode cX1_deliver 86 = .ok (.invokevirtual 100, 3) := by decide +kernel
theorem dX1_deliver_89 : decode cX1_deliver 89 = .ok (.iinc 5 1, 3) := by decide +kernel
theorem dX1_deliver_92 : decode cX1_deliver 92 = .ok (.goto (-22), 3) := by decide +kernel
theorem dX1_deliver_95 : decode cX1_deliver 95 = .ok (.aload_n 0, 1) := by decide +kernel
theorem dX1_deliver_96 : decode cX1_deliver 96 = .ok (.getfield 20, 3) := by decide +kernel
theorem dX1_deliver_99 : decode cX1_deliver 99 = .ok (.aload_n 0, 1) := by decide +kernel
theorem dX1_deliver_100 : decode cX1_deliver 100 = .ok (.getfield 29, 3) := by decide +kernel
theorem dX1_deliver_103 : decode cX1_deliver 103 = .ok (.getfield 74, 3) := by decide +kernel
theorem dX1_deliver_106 : decode cX1_deliver 106 = .ok (.iload 4, 2) := by decide +kernel
theorem dX1_deliver_108 : decode cX1_deliver 108 = .ok (.ifCond .eq 10, 3) := by decide +kernel
theorem dX1_deliver_111 : decode cX1_deliver 111 = .ok (.bipush 12, 2) := by decide +kernel
theorem dX1_deliver_113 : decode cX1_deliver 113 = .ok (.iload_n 1, 1) := by decide +kernel
theorem dX1_deliver_114 : decode cX1_deliver 114 = .ok (.iadd, 1) := by decide +kernel
theorem dX1_deliver_115 : decode cX1_deliver 115 = .ok (.goto 4, 3) := by decide +kernel
theorem dX1_deliver_118 : decode cX1_deliver 118 = .ok (.iconst 0, 1) := by decide +kernel
theorem dX1_deliver_119 : decode cX1_deliver 119 = .ok (.invokevirtual 77, 3) := by decide +kernel
theorem dX1_deliver_122 : decode cX1_deliver 122 = .ok (.iload 4, 2) := by decide +kernel
theorem dX1_deliver_124 : decode cX1_deliver 124 = .ok (.ireturn, 1) := by decide +kernel
theorem dX1_takeFrom_0 : decode cX1_takeFrom 0 = .ok (.aload_n 0, 1) := by decide +kernel
theorem dX1_takeFrom_1 : decode cX1_takeFrom 1 = .ok (.getfield 47, 3) := by decide +kernel
theorem dX1_takeFrom_4 : decode cX1_takeFrom 4 = .ok (.iconst 1, 1) := by decide +kernel
theorem dX1_takeFrom_5 : decode cX1_takeFrom 5 = .ok (.if_icmp .eq 18, 3) := by decide +kernel
theorem dX1_takeFrom_8 : decode cX1_takeFrom 8 = .ok (.aload_n 0, 1) := by decide +kernel
theorem dX1_takeFrom_9 : decode cX1_takeFrom 9 = .ok (.getfield 47, 3) := by decide +kernel
theorem dX1_takeFrom_12 : decode cX1_takeFrom 12 = .ok (.ifCond .ne 8, 3) := by decide +kernel
theorem dX1_takeFrom_15 : decode cX1_takeFrom 15 = .ok (.bipush (-4), 2) := by decide +kernel
theorem dX1_takeFrom_17 : decode cX1_takeFrom 17 = .ok (.goto 5, 3) := by decide +kernel
theorem dX1_takeFrom_20 : decode cX1_takeFrom 20 = .ok (.bipush (-5), 2) := by decide +kernel
theorem dX1_takeFrom_22 : decode cX1_takeFrom 22 = .ok (.ireturn, 1) := by decide +kernel
theorem dX1_takeFrom_23 : decode cX1_takeFrom 23 = .ok (.aload_n 1, 1) := by decide +kernel
theorem dX1_takeFrom_24 : decode cX1_takeFrom 24 = .ok (.invokevirtual 108, 3) := by decide +kernel
theorem dX1_takeFrom_27 : decode cX1_takeFrom 27 = .ok (.istore_n 2, 1) := by decide +kernel
theorem dX1_takeFrom_28 : decode cX1_takeFrom 28 = .ok (.iload_n 2, 1) := by decide +kernel
theorem dX1_takeFrom_29 : decode cX1_takeFrom 29 = .ok (.ifCond .ne 5, 3) := by decide +kernel
theorem dX1_takeFrom_32 : decode cX1_takeFrom 32 = .ok (.iconst 0, 1) := by decide +kernel
theorem dX1_takeFrom_33 : decode cX1_takeFrom 33 = .ok (.ireturn, 1) := by decide +kernel
theorem dX1_takeFrom_34 : decode cX1_takeFrom 34 = .ok (.iload_n 2, 1) := by decide +kernel
theorem dX1_takeFrom_35 : decode cX1_takeFrom 35 = .ok (.aload_n 1, 1) := by decide +kernel
theorem dX1_takeFrom_36 : decode cX1_takeFrom 36 = .ok (.getfield 112, 3) := by decide +kernel
theorem dX1_takeFrom_39 : decode cX1_takeFrom 39 = .ok (.if_icmp .gt 18, 3) := by decide +kernel
theorem dX1_takeFrom_42 : decode cX1_takeFrom 42 = .ok (.aload_n 0, 1) := by decide +kernel
theorem dX1_takeFrom_43 : decode cX1_takeFrom 43 = .ok (.getfield 29, 3) := by decide +kernel
theorem dX1_takeFrom_46 : decode cX1_takeFrom 46 = .ok (.aload_n 1, 1) := by decide +kernel
theorem dX1_takeFrom_47 : decode cX1_takeFrom 47 = .ok (.aload_n 0, 1) := by decide +kernel
theorem dX1_takeFrom_48 : decode cX1_takeFrom 48 = .ok (.getfield 51, 3) := by decide +kernel
theorem dX1_takeFrom_51 : decode cX1_takeFrom 51 = .ok (.invokevirtual 115, 3) := by decide +kernel
theorem dX1_takeFrom_54 : decode cX1_takeFrom 54 = .ok (.ifCond .ne 11, 3) := by decide +kernel
theorem dX1_takeFrom_57 : decode cX1_takeFrom 57 = .ok (.aload_n 0, 1) := by decide +kernel
theorem dX1_takeFrom_58 : decode cX1_takeFrom 58 = .ok (.iconst 2, 1) := by decide +kernel
theorem dX1_takeFrom_59 : decode cX1_takeFrom 59 = .ok (.putfield 47, 3) := by decide +kernel
theorem dX1_takeFrom_62 : decode cX1_takeFrom 62 = .ok (.bipush (-5), 2) := by decide +kernel
theorem dX1_takeFrom_64 : decode cX1_takeFrom 64 = .ok (.ireturn, 1) := by decide +kernel
theorem dX1_takeFrom_65 : decode cX1_takeFrom 65 = .ok (.aload_n 1, 1) := by decide +kernel
theorem dX1_takeFrom_66 : decode cX1_takeFrom 66 = .ok (.aload_n 1, 1) := by decide +kernel
theorem dX1_takeFrom_67 : decode cX1_takeFrom 67 = .ok (.getfield 119, 3) := by decide +kernel
theorem dX1_takeFrom_70 : decode cX1_takeFrom 70 = .ok (.invokestatic 122, 3) := by decide +kernel
theorem dX1_takeFrom_73 : decode cX1_takeFrom 73 = .ok (.putfield 119, 3) := by decide +kernel
theorem dX1_takeFrom_76 : decode cX1_takeFrom 76 = .ok (.iconst 1, 1) := by decide +kernel
theorem dX1_takeFrom_77 : decode cX1_takeFrom 77 = .ok (.ireturn, 1) := by decide +kernel
theorem dX2_init_0 : decode cX2_init 0 = .ok (.aload_n 0, 1) := by decide +kernel
theorem dX2_init_1 : decode cX2_init 1 = .ok (.invokespecial 3, 3) := by decide +kernel
theorem dX2_init_4 : decode cX2_init 4 = .ok (.aload_n 0, 1) := by decide +kernel
theorem dX2_init_5 : decode cX2_init 5 = .ok (.sipush 2048, 3) := by decide +kernel
theorem dX2_init_8 : decode cX2_init 8 = .ok (.newarray .byte, 2) := by decide +kernel
theorem dX2_init_10 : decode cX2_init 10 = .ok (.putfield 9, 3) := by decide +kernel
theorem dX2_init_13 : decode cX2_init 13 = .ok (.return_, 1) := by decide +kernel
theorem dX2_at_0 : decode cX2_at 0 = .ok (.iload_n 1, 1) := by decide +kernel
theorem dX2_at_1 : decode cX2_at 1 = .ok (.ifCond .lt 25, 3) := by decide +kernel
theorem dX2_at_4 : decode cX2_at 4 = .ok (.iload_n 1, 1) := by decide +kernel
theorem dX2_at_5 : decode cX2_at 5 = .ok (.aload_n 0, 1) := by decide +kernel
theorem dX2_at_6 : decode cX2_at 6 = .ok (.getfield 9, 3) := by decide +kernel
theorem dX2_at_9 : decode cX2_at 9 = .ok (.arraylength, 1) := by decide +kernel
theorem dX2_at_10 : decode cX2_at 10 = .ok (.if_icmp .ge 16, 3) := by decide +kernel
theorem dX2_at_13 : decode cX2_at 13 = .ok (.aload_n 0, 1) := by decide +kernel
theorem dX2_at_14 : decode cX2_at 14 = .ok (.getfield 9, 3) := by decide +kernel
theorem dX2_at_17 : decode cX2_at 17 = .ok (.iload_n 1, 1) := by decide +kernel
theorem dX2_at_18 : decode cX2_at 18 = .ok (.baload, 1) := by decide +kernel
theorem dX2_at_19 : decode cX2_at 19 = .ok (.sipush 255, 3) := by decide +kernel
theorem dX2_at_22 : decode cX2_at 22 = .ok (.iand, 1) := by decide +kernel
theorem dX2_at_23 : decode cX2_at 23 = .ok (.goto 4, 3) := by decide +kernel
theorem dX2_at_26 : decode cX2_at 26 = .ok (.iconst 0, 1) := by decide +kernel
theorem dX2_at_27 : decode cX2_at 27 = .ok (.ireturn, 1) := by decide +kernel
theorem dX2_set_0 : decode cX2_set 0 = .ok (.iload_n 1, 1) := by decide +kernel
theorem dX2_set_1 : decode cX2_set 1 = .ok (.ifCond .lt 20, 3) := by decide +kernel
theorem dX2_set_4 : decode cX2_set 4 = .ok (.iload_n 1, 1) := by decide +kernel
theorem dX2_set_5 : decode cX2_set 5 = .ok (.aload_n 0, 1) := by decide +kernel
theorem dX2_set_6 : decode cX2_set 6 = .ok (.getfield 9, 3) := by decide +kernel
theorem dX2_set_9 : decode cX2_set 9 = .ok (.arraylength, 1) := by decide +kernel
theorem dX2_set_10 : decode cX2_set 10 = .ok (.if_icmp .ge 11, 3) := by decide +kernel
theorem dX2_set_13 : decode cX2_set 13 = .ok (.aload_n 0, 1) := by decide +kernel
theorem dX2_set_14 : decode cX2_set 14 = .ok (.getfield 9, 3) := by decide +kernel
theorem dX2_set_17 : decode cX2_set 17 = .ok (.iload_n 1, 1) := by decide +kernel
theorem dX2_set_18 : decode cX2_set 18 = .ok (.iload_n 2, 1) := by decide +kernel
theorem dX2_set_19 : decode cX2_set 19 = .ok (.i2b, 1) := by decide +kernel
theorem dX2_set_20 : decode cX2_set 20 = .ok (.bastore, 1) := by decide +kernel
theorem dX2_set_21 : decode cX2_set 21 = .ok (.return_, 1) := by decide +kernel
theorem dX2_answer_0 : decode cX2_answer 0 = .ok (.aload_n 1, 1) := by decide +kernel
theorem dX2_answer_1 : decode cX2_answer 1 = .ok (.getfield 15, 3) := by decide +kernel
theorem dX2_answer_4 : decode cX2_answer 4 = .ok (.bipush 16, 2) := by decide +kernel
theorem dX2_answer_6 : decode cX2_answer 6 = .ok (.if_icmp .lt 11, 3) := by decide +kernel
theorem dX2_answer_9 : decode cX2_answer 9 = .ok (.aload_n 1, 1) := by decide +kernel
theorem dX2_answer_10 : decode cX2_answer 10 = .ok (.getfield 21, 3) := by decide +kernel
theorem dX2_answer_13 : decode cX2_answer 13 = .ok (.iconst 1, 1) := by decide +kernel
theorem dX2_answer_14 : decode cX2_answer 14 = .ok (.if_icmp .ge 5, 3) := by decide +kernel
theorem dX2_answer_17 : decode cX2_answer 17 = .ok (.iconst 0, 1) := by decide +kernel
theorem dX2_answer_18 : decode cX2_answer 18 = .ok (.ireturn, 1) := by decide +kernel
theorem dX2_answer_19 : decode cX2_answer 19 = .ok (.aload_n 1, 1) := by decide +kernel
theorem dX2_answer_20 : decode cX2_answer 20 = .ok (.invokevirtual 24, 3) := by decide +kernel
theorem dX2_answer_23 : decode cX2_answer 23 = .ok (.aload_n 1, 1) := by decide +kernel
theorem dX2_answer_24 : decode cX2_answer 24 = .ok (.iconst 4, 1) := by decide +kernel
theorem dX2_answer_25 : decode cX2_answer 25 = .ok (.invokevirtual 27, 3) := by decide +kernel
theorem dX2_answer_28 : decode cX2_answer 28 = .ok (.l2i, 1) := by decide +kernel
theorem dX2_answer_29 : decode cX2_answer 29 = .ok (.istore_n 2, 1) := by decide +kernel
theorem dX2_answer_30 : decode cX2_answer 30 = .ok (.aload_n 1, 1) := by decide +kernel
theorem dX2_answer_31 : decode cX2_answer 31 = .ok (.iconst 4, 1) := by decide +kernel
theorem dX2_answer_32 : decode cX2_answer 32 = .ok (.invokevirtual 31, 3) := by decide +kernel
theorem dX2_answer_35 : decode cX2_answer 35 = .ok (.aload_n 1, 1) := by decide +kernel
theorem dX2_answer_36 : decode cX2_answer 36 = .ok (.bipush 8, 2) := by decide +kernel
theorem dX2_answer_38 : decode cX2_answer 38 = .ok (.invokevirtual 27, 3) := by decide +kernel
theorem dX2_answer_41 : decode cX2_answer 41 = .ok (.lstore_n 3, 1) := by decide +kernel
theorem dX2_answer_42 : decode cX2_answer 42 = .ok (.aload_n 0, 1) := by decide +kernel
theorem dX2_answer_43 : decode cX2_answer 43 = .ok (.iload_n 2, 1) := by decide +kernel
theorem dX2_answer_44 : decode cX2_answer 44 = .ok (.lload_n 3, 1) := by decide +kernel
theorem dX2_answer_45 : decode cX2_answer 45 = .ok (.aload_n 1, 1) := by decide +kernel
theorem dX2_answer_46 : decode cX2_answer 46 = .ok (.invokevirtual 35, 3) := by decide +kernel
theorem dX2_answer_49 : decode cX2_answer 49 = .ok (.istore 5, 2) := by decide +kernel
theorem dX2_answer_51 : decode cX2_answer 51 = .ok (.iload 5, 2) := by decide +kernel
theorem dX2_answer_53 : decode cX2_answer 53 = .ok (.ifCond .ne 14, 3) := by decide +kernel
theorem dX2_answer_56 : decode cX2_answer 56 = .ok (.aload_n 0, 1) := by decide +kernel
theorem dX2_answer_57 : decode cX2_answer 57 = .ok (.iload_n 2, 1) := by decide +kernel
theorem dX2_answer_58 : decode cX2_answer 58 = .ok (.lload_n 3, 1) := by decide +kernel
theorem dX2_answer_59 : decode cX2_answer 59 = .ok (.l2i, 1) := by decide +kernel
theorem dX2_answer_60 : decode cX2_answer 60 = .ok (.aload_n 1, 1) := by decide +kernel
theorem dX2_answer_61 : decode cX2_answer 61 = .ok (.invokevirtual 39, 3) := by decide +kernel
theorem dX2_answer_64 : decode cX2_answer 64 = .ok (.goto 4, 3) := by decide +kernel
theorem dX2_answer_67 : decode cX2_answer 67 = .ok (.iconst 0, 1) := by decide +kernel
theorem dX2_answer_68 : decode cX2_answer 68 = .ok (.istore 6, 2) := by decide +kernel
theorem dX2_answer_70 : decode cX2_answer 70 = .ok (.aload_n 1, 1) := by decide +kernel
theorem dX2_answer_71 : decode cX2_answer 71 = .ok (.iload 5, 2) := by decide +kernel
theorem dX2_answer_73 : decode cX2_answer 73 = .ok (.invokevirtual 43, 3) := by decide +kernel
theorem dX2_answer_76 : decode cX2_answer 76 = .ok (.iload 6, 2) := by decide +kernel
theorem dX2_answer_78 : decode cX2_answer 78 = .ok (.iconst 1, 1) := by decide +kernel
theorem dX2_answer_79 : decode cX2_answer 79 = .ok (.iadd, 1) := by decide +kernel
theorem dX2_answer_80 : decode cX2_answer 80 = .ok (.ireturn, 1) := by decide +kernel
theorem dX2_resultOf_0 : decode cX2_resultOf 0 = .ok (.iload_n 1, 1) := by decide +kernel
theorem dX2_resultOf_1 : decode cX2_resultOf 1 = .ok (.tableswitch 98 0 8 #[51, 72, 98, 98, 94, 98, 98, 98, 96], 51) := by decide +kernel
theorem dX2_resultOf_52 : decode cX2_resultOf 52 = .ok (.aload_n 0, 1) := by decide +kernel
theorem dX2_resultOf_53 : decode cX2_resultOf 53 = .ok (.lload_n 2, 1) := by decide +kernel
theorem dX2_resultOf_54 : decode cX2_resultOf 54 = .ok (.aload 4, 2) := by decide +kernel
theorem dX2_resultOf_56 : decode cX2_resultOf 56 = .ok (.getfield 21, 3) := by decide +kernel
theorem dX2_resultOf_59 : decode cX2_resultOf 59 = .ok (.iconst 1, 1) := by decide +kernel
theorem dX2_resultOf_60 : decode cX2_resultOf 60 = .ok (.isub, 1) := by decide +kernel
theorem dX2_resultOf_61 : decode cX2_resultOf 61 = .ok (.invokevirtual 46, 3) := by decide +kernel
theorem dX2_resultOf_64 : decode cX2_resultOf 64 = .ok (.ifCond .eq 7, 3) := by decide +kernel
theorem dX2_resultOf_67 : decode cX2_resultOf 67 = .ok (.iconst 0, 1) := by decide +kernel
theorem dX2_resultOf_68 : decode cX2_resultOf 68 = .ok (.goto 4, 3) := by decide +kernel
theorem dX2_resultOf_71 : decode cX2_resultOf 71 = .ok (.iconst 1, 1) := by decide +kernel
theorem dX2_resultOf_72 : decode cX2_resultOf 72 = .ok (.ireturn, 1) := by decide +kernel
theorem dX2_resultOf_73 : decode cX2_resultOf 73 = .ok (.aload_n 0, 1) := by decide +kernel
theorem dX2_resultOf_74 : decode cX2_resultOf 74 = .ok (.lload_n 2, 1) := by decide +kernel
theorem dX2_resultOf_75 : decode cX2_resultOf 75 = .ok (.aload 4, 2) := by decide +kernel
theorem dX2_resultOf_77 : decode cX2_resultOf 77 = .ok (.getfield 15, 3) := by decide +kernel
theorem dX2_resultOf_80 : decode cX2_resultOf 80 = .ok (.bipush 16, 2) := by decide +kernel
theorem dX2_resultOf_82 : decode cX2_resultOf 82 = .ok (.isub, 1) := by decide +kernel
theorem dX2_resultOf_83 : decode cX2_resultOf 83 = .ok (.invokevirtual 46, 3) := by decide +kernel
theorem dX2_resultOf_86 : decode cX2_resultOf 86 = .ok (.ifCond .eq 7, 3) := by decide +kernel
theorem dX2_resultOf_89 : decode cX2_resultOf 89 = .ok (.iconst 0, 1) := by decide +kernel
theorem dX2_resultOf_90 : decode cX2_resultOf 90 = .ok (.goto 4, 3) := by decide +kernel
theorem dX2_resultOf_93 : decode cX2_resultOf 93 = .ok (.iconst 1, 1) := by decide +kernel
theorem dX2_resultOf_94 : decode cX2_resultOf 94 = .ok (.ireturn, 1) := by decide +kernel
theorem dX2_resultOf_95 : decode cX2_resultOf 95 = .ok (.iconst 0, 1) := by decide +kernel
theorem dX2_resultOf_96 : decode cX2_resultOf 96 = .ok (.ireturn, 1) := by decide +kernel
theorem dX2_resultOf_97 : decode cX2_resultOf 97 = .ok (.iconst 0, 1) := by decide +kernel
theorem dX2_resultOf_98 : decode cX2_resultOf 98 = .ok (.ireturn, 1) := by decide +kernel
theorem dX2_resultOf_99 : decode cX2_resultOf 99 = .ok (.iconst 2, 1) := by decide +kernel
theorem dX2_resultOf_100 : decode cX2_resultOf 100 = .ok (.ireturn, 1) := by decide +kernel
theorem dX2_areThere_0 : decode cX2_areThere 0 = .ok (.iload_n 3, 1) := by decide +kernel
theorem dX2_areThere_1 : decode cX2_areThere 1 = .ok (.ifCond .ne 5, 3) := by decide +kernel
theorem dX2_areThere_4 : decode cX2_areThere 4 = .ok (.iconst 1, 1) := by decide +kernel
theorem dX2_areThere_5 : decode cX2_areThere 5 = .ok (.ireturn, 1) := by decide +kernel
theorem dX2_areThere_6 : decode cX2_areThere 6 = .ok (.iload_n 3, 1) := by decide +kernel
theorem dX2_areThere_7 : decode cX2_areThere 7 = .ok (.bipush 64, 2) := by decide +kernel
theorem dX2_areThere_9 : decode cX2_areThere 9 = .ok (.irem, 1) := by decide +kernel
theorem dX2_areThere_10 : decode cX2_areThere 10 = .ok (.ifCond .ne 26, 3) := by decide +kernel
theorem dX2_areThere_13 : decode cX2_areThere 13 = .ok (.lload_n 1, 1) := by decide +kernel
theorem dX2_areThere_14 : decode cX2_areThere 14 = .ok (.lconst 0, 1) := by decide +kernel
theorem dX2_areThere_15 : decode cX2_areThere 15 = .ok (.lcmp, 1) := by decide +kernel
theorem dX2_areThere_16 : decode cX2_areThere 16 = .ok (.ifCond .lt 20, 3) := by decide +kernel
theorem dX2_areThere_19 : decode cX2_areThere 19 = .ok (.lload_n 1, 1) := by decide +kernel
theorem dX2_areThere_20 : decode cX2_areThere 20 = .ok (.bipush 32, 2) := by decide +kernel
theorem dX2_areThere_22 : decode cX2_areThere 22 = .ok (.iload_n 3, 1) := by decide +kernel
theorem dX2_areThere_23 : decode cX2_areThere 23 = .ok (.bipush 64, 2) := by decide +kernel
theorem dX2_areThere_25 : decode cX2_areThere 25 = .ok (.idiv, 1) := by decide +kernel
theorem dX2_areThere_26 : decode cX2_areThere 26 = .ok (.isub, 1) := by decide +kernel
theorem dX2_areThere_27 : decode cX2_areThere 27 = .ok (.i2l, 1) := by decide +kernel
theorem dX2_areThere_28 : decode cX2_areThere 28 = .ok (.lcmp, 1) := by decide +kernel
theorem dX2_areThere_29 : decode cX2_areThere 29 = .ok (.ifCond .gt 7, 3) := by decide +kernel
theorem dX2_areThere_32 : decode cX2_areThere 32 = .ok (.iconst 1, 1) := by decide +kernel
theorem dX2_areThere_33 : decode cX2_areThere 33 = .ok (.goto 4, 3) := by decide +kernel
theorem dX2_areThere_36 : decode cX2_areThere 36 = .ok (.iconst 0, 1) := by decide +kernel
theorem dX2_areThere_37 : decode cX2_areThere 37 = .ok (.ireturn, 1) := by decide +kernel
theorem dX2_carryOut_0 : decode cX2_carryOut 0 = .ok (.iload_n 1, 1) := by decide +kernel
theorem dX2_carryOut_1 : decode cX2_carryOut 1 = .ok (.lookupswitch 61 #[(0, 35), (1, 45), (8, 55)], 35) := by decide +kernel
theorem dX2_carryOut_36 : decode cX2_carryOut 36 = .ok (.aload_n 0, 1) := by decide +kernel
theorem dX2_carryOut_37 : decode cX2_carryOut 37 = .ok (.bipush 64, 2) := by decide +kernel
theorem dX2_carryOut_39 : decode cX2_carryOut 39 = .ok (.iload_n 2, 1) := by decide +kernel
theorem dX2_carryOut_40 : decode cX2_carryOut 40 = .ok (.imul, 1) := by decide +kernel
theorem dX2_carryOut_41 : decode cX2_carryOut 41 = .ok (.aload_n 3, 1) := by decide +kernel
theorem dX2_carryOut_42 : decode cX2_carryOut 42 = .ok (.invokevirtual 50, 3) := by decide +kernel
theorem dX2_carryOut_45 : decode cX2_carryOut 45 = .ok (.ireturn, 1) := by decide +kernel
theorem dX2_carryOut_46 : decode cX2_carryOut 46 = .ok (.aload_n 0, 1) := by decide +kernel
theorem dX2_carryOut_47 : decode cX2_carryOut 47 = .ok (.bipush 64, 2) := by decide +kernel
theorem dX2_carryOut_49 : decode cX2_carryOut 49 = .ok (.iload_n 2, 1) := by decide +kernel
theorem dX2_carryOut_50 : decode cX2_carryOut 50 = .ok (.imul, 1) := by decide +kernel
theorem dX2_carryOut_51 : decode cX2_carryOut 51 = .ok (.aload_n 3, 1) := by decide +kernel
theorem dX2_carryOut_52 : decode cX2_carryOut 52 = .ok (.invokevirtual 54, 3) := by decide +kernel
theorem dX2_carryOut_55 : decode cX2_carryOut 55 = .ok (.ireturn, 1) := by decide +kernel
theorem dX2_carryOut_56 : decode cX2_carryOut 56 = .ok (.aload_n 0, 1) := by decide +kernel
theorem dX2_carryOut_57 : decode cX2_carryOut 57 = .ok (.aload_n 3, 1) := by decide +kernel
theorem dX2_carryOut_58 : decode cX2_carryOut 58 = .ok (.invokevirtual 57, 3) := by decide +kernel
theorem dX2_carryOut_61 : decode cX2_carryOut 61 = .ok (.ireturn, 1) := by decide +kernel
theorem dX2_carryOut_62 : decode cX2_carryOut 62 = .ok (.iconst 0, 1) := by decide +kernel
theorem dX2_carryOut_63 : decode cX2_carryOut 63 = .ok (.ireturn, 1) := by decide +kernel
theorem dX2_copyOut_0 : decode cX2_copyOut 0 = .ok (.aload_n 2, 1) := by decide +kernel
theorem dX2_copyOut_1 : decode cX2_copyOut 1 = .ok (.getfield 21, 3) := by decide +kernel
theorem dX2_copyOut_4 : decode cX2_copyOut 4 = .ok (.iconst 1, 1) := by decide +kernel
theorem dX2_copyOut_5 : decode cX2_copyOut 5 = .ok (.isub, 1) := by decide +kernel
theorem dX2_copyOut_6 : decode cX2_copyOut 6 = .ok (.istore_n 3, 1) := by decide +kernel
theorem dX2_copyOut_7 : decode cX2_copyOut 7 = .ok (.aload_n 2, 1) := by decide +kernel
theorem dX2_copyOut_8 : decode cX2_copyOut 8 = .ok (.invokevirtual 61, 3) := by decide +kernel
theorem dX2_copyOut_11 : decode cX2_copyOut 11 = .ok (.iconst 0, 1) := by decide +kernel
theorem dX2_copyOut_12 : decode cX2_copyOut 12 = .ok (.istore 4, 2) := by decide +kernel
theorem dX2_copyOut_14 : decode cX2_copyOut 14 = .ok (.iload 4, 2) := by decide +kernel
theorem dX2_copyOut_16 : decode cX2_copyOut 16 = .ok (.iload_n 3, 1) := by decide +kernel
theorem dX2_copyOut_17 : decode cX2_copyOut 17 = .ok (.if_icmp .ge 21, 3) := by decide +kernel
theorem dX2_copyOut_20 : decode cX2_copyOut 20 = .ok (.aload_n 2, 1) := by decide +kernel
theorem dX2_copyOut_21 : decode cX2_copyOut 21 = .ok (.aload_n 0, 1) := by decide +kernel
theorem dX2_copyOut_22 : decode cX2_copyOut 22 = .ok (.iload_n 1, 1) := by decide +kernel
theorem dX2_copyOut_23 : decode cX2_copyOut 23 = .ok (.iload 4, 2) := by decide +kernel
theorem dX2_copyOut_25 : decode cX2_copyOut 25 = .ok (.iadd, 1) := by decide +kernel
theorem dX2_copyOut_26 : decode cX2_copyOut 26 = .ok (.invokevirtual 64, 3) := by decide +kernel
theorem dX2_copyOut_29 : decode cX2_copyOut 29 = .ok (.invokevirtual 68, 3) := by decide +kernel
theorem dX2_copyOut_32 : decode cX2_copyOut 32 = .ok (.iinc 4 1, 3) := by decide +kernel
theorem dX2_copyOut_35 : decode cX2_copyOut 35 = .ok (.goto (-21), 3) := by decide +kernel
theorem dX2_copyOut_38 : decode cX2_copyOut 38 = .ok (.iload_n 3, 1) := by decide +kernel
theorem dX2_copyOut_39 : decode cX2_copyOut 39 = .ok (.ireturn, 1) := by decide +kernel
theorem dX2_copyIn_0 : decode cX2_copyIn 0 = .ok (.aload_n 2, 1) := by decide +kernel
theorem dX2_copyIn_1 : decode cX2_copyIn 1 = .ok (.getfield 15, 3) := by decide +kernel
theorem dX2_copyIn_4 : decode cX2_copyIn 4 = .ok (.bipush 16, 2) := by decide +kernel
theorem dX2_copyIn_6 : decode cX2_copyIn 6 = .ok (.isub, 1) := by decide +kernel
theorem dX2_copyIn_7 : decode cX2_copyIn 7 = .ok (.istore_n 3, 1) := by decide +kernel
theorem dX2_copyIn_8 : decode cX2_copyIn 8 = .ok (.iconst 0, 1) := by decide +kernel
theorem dX2_copyIn_9 : decode cX2_copyIn 9 = .ok (.istore 4, 2) := by decide +kernel
theorem dX2_copyIn_11 : decode cX2_copyIn 11 = .ok (.iload 4, 2) := by decide +kernel
theorem dX2_copyIn_13 : decode cX2_copyIn 13 = .ok (.iload_n 3, 1) := by decide +kernel
theorem dX2_copyIn_14 : decode cX2_copyIn 14 = .ok (.if_icmp .ge 21, 3) := by decide +kernel
theorem dX2_copyIn_17 : decode cX2_copyIn 17 = .ok (.aload_n 0, 1) := by decide +kernel
theorem dX2_copyIn_18 : decode cX2_copyIn 18 = .ok (.iload_n 1, 1) := by decide +kernel
theorem dX2_copyIn_19 : decode cX2_copyIn 19 = .ok (.iload 4, 2) := by decide +kernel
theorem dX2_copyIn_21 : decode cX2_copyIn 21 = .ok (.iadd, 1) := by decide +kernel
theorem dX2_copyIn_22 : decode cX2_copyIn 22 = .ok (.aload_n 2, 1) := by decide +kernel
theorem dX2_copyIn_23 : decode cX2_copyIn 23 = .ok (.invokevirtual 71, 3) := by decide +kernel
theorem dX2_copyIn_26 : decode cX2_copyIn 26 = .ok (.invokevirtual 75, 3) := by decide +kernel
theorem dX2_copyIn_29 : decode cX2_copyIn 29 = .ok (.iinc 4 1, 3) := by decide +kernel
theorem dX2_copyIn_32 : decode cX2_copyIn 32 = .ok (.goto (-21), 3) := by decide +kernel
theorem dX2_copyIn_35 : decode cX2_copyIn 35 = .ok (.iconst 0, 1) := by decide +kernel
theorem dX2_copyIn_36 : decode cX2_copyIn 36 = .ok (.ireturn, 1) := by decide +kernel
theorem dX2_tellName_0 : decode cX2_tellName 0 = .ok (.bipush 20, 2) := by decide +kernel
theorem dX2_tellName_2 : decode cX2_tellName 2 = .ok (.aload_n 1, 1) := by decide +kernel
theorem dX2_tellName_3 : decode cX2_tellName 3 = .ok (.getfield 21, 3) := by decide +kernel
theorem dX2_tellName_6 : decode cX2_tellName 6 = .ok (.iconst 1, 1) := by decide +kernel
theorem dX2_tellName_7 : decode cX2_tellName 7 = .ok (.isub, 1) := by decide +kernel
theorem dX2_tellName_8 : decode cX2_tellName 8 = .ok (.invokestatic 79, 3) := by decide +kernel
theorem dX2_tellName_11 : decode cX2_tellName 11 = .ok (.istore_n 2, 1) := by decide +kernel
theorem dX2_tellName_12 : decode cX2_tellName 12 = .ok (.aload_n 1, 1) := by decide +kernel
theorem dX2_tellName_13 : decode cX2_tellName 13 = .ok (.invokevirtual 61, 3) := by decide +kernel
theorem dX2_tellName_16 : decode cX2_tellName 16 = .ok (.iconst 0, 1) := by decide +kernel
theorem dX2_tellName_17 : decode cX2_tellName 17 = .ok (.istore_n 3, 1) := by decide +kernel
theorem dX2_tellName_18 : decode cX2_tellName 18 = .ok (.iload_n 3, 1) := by decide +kernel
theorem dX2_tellName_19 : decode cX2_tellName 19 = .ok (.iload_n 2, 1) := by decide +kernel
theorem dX2_tellName_20 : decode cX2_tellName 20 = .ok (.if_icmp .ge 32, 3) := by decide +kernel
theorem dX2_tellName_23 : decode cX2_tellName 23 = .ok (.aload_n 1, 1) := by decide +kernel
theorem dX2_tellName_24 : decode cX2_tellName 24 = .ok (.iload_n 3, 1) := by decide +kernel
theorem dX2_tellName_25 : decode cX2_tellName 25 = .ok (.ldc 85, 2) := by decide +kernel
theorem dX2_tellName_27 : decode cX2_tellName 27 = .ok (.invokevirtual 87, 3) := by decide +kernel
theorem dX2_tellName_30 : decode cX2_tellName 30 = .ok (.if_icmp .ge 12, 3) := by decide +kernel
theorem dX2_tellName_33 : decode cX2_tellName 33 = .ok (.ldc 85, 2) := by decide +kernel
theorem dX2_tellName_35 : decode cX2_tellName 35 = .ok (.iload_n 3, 1) := by decide +kernel
theorem dX2_tellName_36 : decode cX2_tellName 36 = .ok (.invokevirtual 92, 3) := by decide +kernel
theorem dX2_tellName_39 : decode cX2_tellName 39 = .ok (.goto 4, 3) := by decide +kernel
theorem dX2_tellName_42 : decode cX2_tellName 42 = .ok (.iconst 0, 1) := by decide +kernel
theorem dX2_tellName_43 : decode cX2_tellName 43 = .ok (.invokevirtual 68, 3) := by decide +kernel
theorem dX2_tellName_46 : decode cX2_tellName 46 = .ok (.iinc 3 1, 3) := by decide +kernel
theorem dX2_tellName_49 : decode cX2_tellName 49 = .ok (.goto (-31), 3) := by decide +kernel
theorem dX2_tellName_52 : decode cX2_tellName 52 = .ok (.iload_n 2, 1) := by decide +kernel
theorem dX2_tellName_53 : decode cX2_tellName 53 = .ok (.ireturn, 1) := by decide +kernel
theorem dX3_init_0 : decode cX3_init 0 = .ok (.aload_n 0, 1) := by decide +kernel
theorem dX3_init_1 : decode cX3_init 1 = .ok (.invokespecial 3, 3) := by decide +kernel
theorem dX3_init_4 : decode cX3_init 4 = .ok (.aload_n 0, 1) := by decide +kernel
theorem dX3_init_5 : decode cX3_init 5 = .ok (.aload_n 1, 1) := by decide +kernel
theorem dX3_init_6 : decode cX3_init 6 = .ok (.putfield 9, 3) := by decide +kernel
theorem dX3_init_9 : decode cX3_init 9 = .ok (.aload_n 0, 1) := by decide +kernel
theorem dX3_init_10 : decode cX3_init 10 = .ok (.new 15, 3) := by decide +kernel
theorem dX3_init_13 : decode cX3_init 13 = .ok (.dup, 1) := by decide +kernel
theorem dX3_init_14 : decode cX3_init 14 = .ok (.invokespecial 17, 3) := by decide +kernel
theorem dX3_init_17 : decode cX3_init 17 = .ok (.putfield 18, 3) := by decide +kernel
theorem dX3_init_20 : decode cX3_init 20 = .ok (.aload_n 0, 1) := by decide +kernel
theorem dX3_init_21 : decode cX3_init 21 = .ok (.new 15, 3) := by decide +kernel
theorem dX3_init_24 : decode cX3_init 24 = .ok (.dup, 1) := by decide +kernel
theorem dX3_init_25 : decode cX3_init 25 = .ok (.invokespecial 17, 3) := by decide +kernel
theorem dX3_init_28 : decode cX3_init 28 = .ok (.putfield 22, 3) := by decide +kernel
theorem dX3_init_31 : decode cX3_init 31 = .ok (.aload_n 0, 1) := by decide +kernel
theorem dX3_init_32 : decode cX3_init 32 = .ok (.new 15, 3) := by decide +kernel
theorem dX3_init_35 : decode cX3_init 35 = .ok (.dup, 1) := by decide +kernel
theorem dX3_init_36 : decode cX3_init 36 = .ok (.invokespecial 17, 3) := by decide +kernel
theorem dX3_init_39 : decode cX3_init 39 = .ok (.putfield 25, 3) := by decide +kernel
theorem dX3_init_42 : decode cX3_init 42 = .ok (.return_, 1) := by decide +kernel
theorem dX3_begin_0 : decode cX3_begin 0 = .ok (.aload_n 0, 1) := by decide +kernel
theorem dX3_begin_1 : decode cX3_begin 1 = .ok (.iconst 1, 1) := by decide +kernel
theorem dX3_begin_2 : decode cX3_begin 2 = .ok (.putfield 28, 3) := by decide +kernel
theorem dX3_begin_5 : decode cX3_begin 5 = .ok (.aload_n 0, 1) := by decide +kernel
theorem dX3_begin_6 : decode cX3_begin 6 = .ok (.iload_n 1, 1) := by decide +kernel
theorem dX3_begin_7 : decode cX3_begin 7 = .ok (.putfield 32, 3) := by decide +kernel
theorem dX3_begin_10 : decode cX3_begin 10 = .ok (.aload_n 0, 1) := by decide +kernel
theorem dX3_begin_11 : decode cX3_begin 11 = .ok (.getfield 18, 3) := by decide +kernel
theorem dX3_begin_14 : decode cX3_begin 14 = .ok (.invokevirtual 35, 3) := by decide +kernel
theorem dX3_begin_17 : decode cX3_begin 17 = .ok (.aload_n 0, 1) := by decide +kernel
theorem dX3_begin_18 : decode cX3_begin 18 = .ok (.getfield 22, 3) := by decide +kernel
theorem dX3_begin_21 : decode cX3_begin 21 = .ok (.invokevirtual 35, 3) := by decide +kernel
theorem dX3_begin_24 : decode cX3_begin 24 = .ok (.aload_n 0, 1) := by decide +kernel
theorem dX3_begin_25 : decode cX3_begin 25 = .ok (.getfield 25, 3) := by decide +kernel
theorem dX3_begin_28 : decode cX3_begin 28 = .ok (.invokevirtual 35, 3) := by decide +kernel
theorem dX3_begin_31 : decode cX3_begin 31 = .ok (.return_, 1) := by decide +kernel
theorem dX3_stop_0 : decode cX3_stop 0 = .ok (.aload_n 0, 1) := by decide +kernel
theorem dX3_stop_1 : decode cX3_stop 1 = .ok (.iconst 0, 1) := by decide +kernel
theorem dX3_stop_2 : decode cX3_stop 2 = .ok (.putfield 28, 3) := by decide +kernel
theorem dX3_stop_5 : decode cX3_stop 5 = .ok (.aload_n 0, 1) := by decide +kernel
theorem dX3_stop_6 : decode cX3_stop 6 = .ok (.getfield 18, 3) := by decide +kernel
theorem dX3_stop_9 : decode cX3_stop 9 = .ok (.invokevirtual 38, 3) := by decide +kernel
theorem dX3_stop_12 : decode cX3_stop 12 = .ok (.aload_n 0, 1) := by decide +kernel
theorem dX3_stop_13 : decode cX3_stop 13 = .ok (.getfield 22, 3) := by decide +kernel
theorem dX3_stop_16 : decode cX3_stop 16 = .ok (.invokevirtual 38, 3) := by decide +kernel
theorem dX3_stop_19 : decode cX3_stop 19 = .ok (.aload_n 0, 1) := by decide +kernel
theorem dX3_stop_20 : decode cX3_stop 20 = .ok (.getfield 25, 3) := by decide +kernel
theorem dX3_stop_23 : decode cX3_stop 23 = .ok (.invokevirtual 38, 3) := by decide +kernel
theorem dX3_stop_26 : decode cX3_stop 26 = .ok (.return_, 1) := by decide +kernel
theorem dX3_loansOf_0 : decode cX3_loansOf 0 = .ok (.iload_n 1, 1) := by decide +kernel
theorem dX3_loansOf_1 : decode cX3_loansOf 1 = .ok (.ifCond .ne 10, 3) := by decide +kernel
theorem dX3_loansOf_4 : decode cX3_loansOf 4 = .ok (.aload_n 0, 1) := by decide +kernel
theorem dX3_loansOf_5 : decode cX3_loansOf 5 = .ok (.getfield 18, 3) := by decide +kernel
theorem dX3_loansOf_8 : decode cX3_loansOf 8 = .ok (.goto 19, 3) := by decide +kernel
theorem dX3_loansOf_11 : decode cX3_loansOf 11 = .ok (.iload_n 1, 1) := by decide +kernel
theorem dX3_loansOf_12 : decode cX3_loansOf 12 = .ok (.iconst 1, 1) := by decide +kernel
theorem dX3_loansOf_13 : decode cX3_loansOf 13 = .ok (.if_icmp .ne 10, 3) := by decide +kernel
theorem dX3_loansOf_16 : decode cX3_loansOf 16 = .ok (.aload_n 0, 1) := by decide +kernel
theorem dX3_loansOf_17 : decode cX3_loansOf 17 = .ok (.getfield 22, 3) := by decide +kernel
theorem dX3_loansOf_20 : decode cX3_loansOf 20 = .ok (.goto 7, 3) := by decide +kernel
theorem dX3_loansOf_23 : decode cX3_loansOf 23 = .ok (.aload_n 0, 1) := by decide +kernel
theorem dX3_loansOf_24 : decode cX3_loansOf 24 = .ok (.getfield 25, 3) := by decide +kernel
theorem dX3_loansOf_27 : decode cX3_loansOf 27 = .ok (.areturn, 1) := by decide +kernel
theorem dX3_refusal_0 : decode cX3_refusal 0 = .ok (.aload_n 0, 1) := by decide +kernel
theorem dX3_refusal_1 : decode cX3_refusal 1 = .ok (.getfield 28, 3) := by decide +kernel
theorem dX3_refusal_4 : decode cX3_refusal 4 = .ok (.ifCond .ne 6, 3) := by decide +kernel
theorem dX3_refusal_7 : decode cX3_refusal 7 = .ok (.bipush (-4), 2) := by decide +kernel
theorem dX3_refusal_9 : decode cX3_refusal 9 = .ok (.ireturn, 1) := by decide +kernel
theorem dX3_refusal_10 : decode cX3_refusal 10 = .ok (.aload_n 1, 1) := by decide +kernel
theorem dX3_refusal_11 : decode cX3_refusal 11 = .ok (.invokevirtual 41, 3) := by decide +kernel
theorem dX3_refusal_14 : decode cX3_refusal 14 = .ok (.iload_n 2, 1) := by decide +kernel
theorem dX3_refusal_15 : decode cX3_refusal 15 = .ok (.if_icmp .ge 7, 3) := by decide +kernel
theorem dX3_refusal_18 : decode cX3_refusal 18 = .ok (.iconst (-1), 1) := by decide +kernel
theorem dX3_refusal_19 : decode cX3_refusal 19 = .ok (.goto 4, 3) := by decide +kernel
theorem dX3_refusal_22 : decode cX3_refusal 22 = .ok (.iconst 0, 1) := by decide +kernel
theorem dX3_refusal_23 : decode cX3_refusal 23 = .ok (.ireturn, 1) := by decide +kernel
theorem dX3_ask_0 : decode cX3_ask 0 = .ok (.aload_n 0, 1) := by decide +kernel
theorem dX3_ask_1 : decode cX3_ask 1 = .ok (.aload_n 0, 1) := by decide +kernel
theorem dX3_ask_2 : decode cX3_ask 2 = .ok (.getfield 18, 3) := by decide +kernel
theorem dX3_ask_5 : decode cX3_ask 5 = .ok (.aload_n 0, 1) := by decide +kernel
theorem dX3_ask_6 : decode cX3_ask 6 = .ok (.getfield 32, 3) := by decide +kernel
theorem dX3_ask_9 : decode cX3_ask 9 = .ok (.ifCond .eq 7, 3) := by decide +kernel
theorem dX3_ask_12 : decode cX3_ask 12 = .ok (.iconst 1, 1) := by decide +kernel
theorem dX3_ask_13 : decode cX3_ask 13 = .ok (.goto 4, 3) := by decide +kernel
theorem dX3_ask_16 : decode cX3_ask 16 = .ok (.iconst 3, 1) := by decide +kernel
theorem dX3_ask_17 : decode cX3_ask 17 = .ok (.invokevirtual 45, 3) := by decide +kernel
theorem dX3_ask_20 : decode cX3_ask 20 = .ok (.istore 5, 2) := by decide +kernel
theorem dX3_ask_22 : decode cX3_ask 22 = .ok (.iload 5, 2) := by decide +kernel
theorem dX3_ask_24 : decode cX3_ask 24 = .ok (.ifCond .eq 6, 3) := by decide +kernel
theorem dX3_ask_27 : decode cX3_ask 27 = .ok (.iload 5, 2) := by decide +kernel
theorem dX3_ask_29 : decode cX3_ask 29 = .ok (.ireturn, 1) := by decide +kernel
theorem dX3_ask_30 : decode cX3_ask 30 = .ok (.aload_n 0, 1) := by decide +kernel
theorem dX3_ask_31 : decode cX3_ask 31 = .ok (.getfield 18, 3) := by decide +kernel
theorem dX3_ask_34 : decode cX3_ask 34 = .ok (.invokevirtual 49, 3) := by decide +kernel
theorem dX3_ask_37 : decode cX3_ask 37 = .ok (.istore 6, 2) := by decide +kernel
theorem dX3_ask_39 : decode cX3_ask 39 = .ok (.sipush 1024, 3) := by decide +kernel
theorem dX3_ask_42 : decode cX3_ask 42 = .ok (.bipush 96, 2) := by decide +kernel
theorem dX3_ask_44 : decode cX3_ask 44 = .ok (.iload 6, 2) := by decide +kernel
theorem dX3_ask_46 : decode cX3_ask 46 = .ok (.imul, 1) := by decide +kernel
theorem dX3_ask_47 : decode cX3_ask 47 = .ok (.iadd, 1) := by decide +kernel
theorem dX3_ask_48 : decode cX3_ask 48 = .ok (.istore 7, 2) := by decide +kernel
theorem dX3_ask_50 : decode cX3_ask 50 = .ok (.aload_n 0, 1) := by decide +kernel
theorem dX3_ask_51 : decode cX3_ask 51 = .ok (.getfield 32, 3) := by decide +kernel
theorem dX3_ask_54 : decode cX3_ask 54 = .ok (.ifCond .eq 49, 3) := by decide +kernel
theorem dX3_ask_57 : decode cX3_ask 57 = .ok (.sipush 1792, 3) := by decide +kernel
theorem dX3_ask_60 : decode cX3_ask 60 = .ok (.bipush 64, 2) := by decide +kernel
theorem dX3_ask_62 : decode cX3_ask 62 = .ok (.iload 6, 2) := by decide +kernel
theorem dX3_ask_64 : decode cX3_ask 64 = .ok (.imul, 1) := by decide +kernel
theorem dX3_ask_65 : decode cX3_ask 65 = .ok (.iadd, 1) := by decide +kernel
theorem dX3_ask_66 : decode cX3_ask 66 = .ok (.istore 8, 2) := by decide +kernel
theorem dX3_ask_68 : decode cX3_ask 68 = .ok (.aload_n 0, 1) := by decide +kernel
theorem dX3_ask_69 : decode cX3_ask 69 = .ok (.getfield 9, 3) := by decide +kernel
theorem dX3_ask_72 : decode cX3_ask 72 = .ok (.aload_n 0, 1) := by decide +kernel
theorem dX3_ask_73 : decode cX3_ask 73 = .ok (.iconst 0, 1) := by decide +kernel
theorem dX3_ask_74 : decode cX3_ask 74 = .ok (.iload 6, 2) := by decide +kernel
theorem dX3_ask_76 : decode cX3_ask 76 = .ok (.invokevirtual 52, 3) := by decide +kernel
theorem dX3_ask_79 : decode cX3_ask 79 = .ok (.iload 8, 2) := by decide +kernel
theorem dX3_ask_81 : decode cX3_ask 81 = .ok (.bipush 48, 2) := by decide +kernel
theorem dX3_ask_83 : decode cX3_ask 83 = .ok (.iconst 4, 1) := by decide +kernel
theorem dX3_ask_84 : decode cX3_ask 84 = .ok (.iconst 0, 1) := by decide +kernel
theorem dX3_ask_85 : decode cX3_ask 85 = .ok (.invokevirtual 56, 3) := by decide +kernel
theorem dX3_ask_88 : decode cX3_ask 88 = .ok (.aload_n 0, 1) := by decide +kernel
theorem dX3_ask_89 : decode cX3_ask 89 = .ok (.iload 8, 2) := by decide +kernel
theorem dX3_ask_91 : decode cX3_ask 91 = .ok (.iconst 0, 1) := by decide +kernel
theorem dX3_ask_92 : decode cX3_ask 92 = .ok (.iconst 1, 1) := by decide +kernel
theorem dX3_ask_93 : decode cX3_ask 93 = .ok (.iconst 2, 1) := by decide +kernel
theorem dX3_ask_94 : decode cX3_ask 94 = .ok (.iload 7, 2) := by decide +kernel
theorem dX3_ask_96 : decode cX3_ask 96 = .ok (.iload_n 1, 1) := by decide +kernel
theorem dX3_ask_97 : decode cX3_ask 97 = .ok (.invokevirtual 62, 3) := by decide +kernel
theorem dX3_ask_100 : decode cX3_ask 100 = .ok (.goto 42, 3) := by decide +kernel
theorem dX3_ask_103 : decode cX3_ask 103 = .ok (.aload_n 0, 1) := by decide +kernel
theorem dX3_ask_104 : decode cX3_ask 104 = .ok (.getfield 18, 3) := by decide +kernel
theorem dX3_ask_107 : decode cX3_ask 107 = .ok (.iload 6, 2) := by decide +kernel
theorem dX3_ask_109 : decode cX3_ask 109 = .ok (.invokevirtual 66, 3) := by decide +kernel
theorem dX3_ask_112 : decode cX3_ask 112 = .ok (.istore 8, 2) := by decide +kernel
theorem dX3_ask_114 : decode cX3_ask 114 = .ok (.aload_n 0, 1) := by decide +kernel
theorem dX3_ask_115 : decode cX3_ask 115 = .ok (.getfield 18, 3) := by decide +kernel
theorem dX3_ask_118 : decode cX3_ask 118 = .ok (.iload 6, 2) := by decide +kernel
theorem dX3_ask_120 : decode cX3_ask 120 = .ok (.invokevirtual 66, 3) := by decide +kernel
theorem dX3_ask_123 : decode cX3_ask 123 = .ok (.istore 9, 2) := by decide +kernel
theorem dX3_ask_125 : decode cX3_ask 125 = .ok (.aload_n 0, 1) := by decide +kernel
theorem dX3_ask_126 : decode cX3_ask 126 = .ok (.iconst 0, 1) := by decide +kernel
theorem dX3_ask_127 : decode cX3_ask 127 = .ok (.invokestatic 70, 3) := by decide +kernel
theorem dX3_ask_130 : decode cX3_ask 130 = .ok (.iload 6, 2) := by decide +kernel
theorem dX3_ask_132 : decode cX3_ask 132 = .ok (.iload 8, 2) := by decide +kernel
theorem dX3_ask_134 : decode cX3_ask 134 = .ok (.iload 9, 2) := by decide +kernel
theorem dX3_ask_136 : decode cX3_ask 136 = .ok (.iload 7, 2) := by decide +kernel
theorem dX3_ask_138 : decode cX3_ask 138 = .ok (.iload_n 1, 1) := by decide +kernel
theorem dX3_ask_139 : decode cX3_ask 139 = .ok (.invokevirtual 62, 3) := by decide +kernel
theorem dX3_ask_142 : decode cX3_ask 142 = .ok (.aload_n 0, 1) := by decide +kernel
theorem dX3_ask_143 : decode cX3_ask 143 = .ok (.iload 7, 2) := by decide +kernel
theorem dX3_ask_145 : decode cX3_ask 145 = .ok (.iload_n 1, 1) := by decide +kernel
theorem dX3_ask_146 : decode cX3_ask 146 = .ok (.iload_n 2, 1) := by decide +kernel
theorem dX3_ask_147 : decode cX3_ask 147 = .ok (.lload_n 3, 1) := by decide +kernel
theorem dX3_ask_148 : decode cX3_ask 148 = .ok (.invokevirtual 73, 3) := by decide +kernel
theorem dX3_ask_151 : decode cX3_ask 151 = .ok (.aload_n 0, 1) := by decide +kernel
theorem dX3_ask_152 : decode cX3_ask 152 = .ok (.iconst 0, 1) := by decide +kernel
theorem dX3_ask_153 : decode cX3_ask 153 = .ok (.iload 6, 2) := by decide +kernel
theorem dX3_ask_155 : decode cX3_ask 155 = .ok (.invokevirtual 77, 3) := by decide +kernel
theorem dX3_ask_158 : decode cX3_ask 158 = .ok (.iload 6, 2) := by decide +kernel
theorem dX3_ask_160 : decode cX3_ask 160 = .ok (.ireturn, 1) := by decide +kernel
theorem dX3_layRequest_0 : decode cX3_layRequest 0 = .ok (.iload 6, 2) := by decide +kernel
theorem dX3_layRequest_2 : decode cX3_layRequest 2 = .ok (.ifCond .ne 7, 3) := by decide +kernel
theorem dX3_layRequest_5 : decode cX3_layRequest 5 = .ok (.iconst 3, 1) := by decide +kernel
theorem dX3_layRequest_6 : decode cX3_layRequest 6 = .ok (.goto 4, 3) := by decide +kernel
theorem dX3_layRequest_9 : decode cX3_layRequest 9 = .ok (.iconst 1, 1) := by decide +kernel
theorem dX3_layRequest_10 : decode cX3_layRequest 10 = .ok (.istore 7, 2) := by decide +kernel
theorem dX3_layRequest_12 : decode cX3_layRequest 12 = .ok (.aload_n 0, 1) := by decide +kernel
theorem dX3_layRequest_13 : decode cX3_layRequest 13 = .ok (.getfield 9, 3) := by decide +kernel
theorem dX3_layRequest_16 : decode cX3_layRequest 16 = .ok (.iload_n 1, 1) := by decide +kernel
theorem dX3_layRequest_17 : decode cX3_layRequest 17 = .ok (.bipush 16, 2) := by decide +kernel
theorem dX3_layRequest_19 : decode cX3_layRequest 19 = .ok (.iload_n 2, 1) := by decide +kernel
theorem dX3_layRequest_20 : decode cX3_layRequest 20 = .ok (.imul, 1) := by decide +kernel
theorem dX3_layRequest_21 : decode cX3_layRequest 21 = .ok (.iadd, 1) := by decide +kernel
theorem dX3_layRequest_22 : decode cX3_layRequest 22 = .ok (.iload 5, 2) := by decide +kernel
theorem dX3_layRequest_24 : decode cX3_layRequest 24 = .ok (.bipush 16, 2) := by decide +kernel
theorem dX3_layRequest_26 : decode cX3_layRequest 26 = .ok (.iconst 1, 1) := by decide +kernel
theorem dX3_layRequest_27 : decode cX3_layRequest 27 = .ok (.iload_n 3, 1) := by decide +kernel
theorem dX3_layRequest_28 : decode cX3_layRequest 28 = .ok (.invokevirtual 56, 3) := by decide +kernel
theorem dX3_layRequest_31 : decode cX3_layRequest 31 = .ok (.aload_n 0, 1) := by decide +kernel
theorem dX3_layRequest_32 : decode cX3_layRequest 32 = .ok (.getfield 9, 3) := by decide +kernel
theorem dX3_layRequest_35 : decode cX3_layRequest 35 = .ok (.iload_n 1, 1) := by decide +kernel
theorem dX3_layRequest_36 : decode cX3_layRequest 36 = .ok (.bipush 16, 2) := by decide +kernel
theorem dX3_layRequest_38 : decode cX3_layRequest 38 = .ok (.iload_n 3, 1) := by decide +kernel
theorem dX3_layRequest_39 : decode cX3_layRequest 39 = .ok (.imul, 1) := by decide +kernel
theorem dX3_layRequest_40 : decode cX3_layRequest 40 = .ok (.iadd, 1) := by decide +kernel
theorem dX3_layRequest_41 : decode cX3_layRequest 41 = .ok (.iload 5, 2) := by decide +kernel
theorem dX3_layRequest_43 : decode cX3_layRequest 43 = .ok (.bipush 16, 2) := by decide +kernel
theorem dX3_layRequest_45 : decode cX3_layRequest 45 = .ok (.iadd, 1) := by decide +kernel
theorem dX3_layRequest_46 : decode cX3_layRequest 46 = .ok (.bipush 64, 2) := by decide +kernel
theorem dX3_layRequest_48 : decode cX3_layRequest 48 = .ok (.iload 7, 2) := by decide +kernel
theorem dX3_layRequest_50 : decode cX3_layRequest 50 = .ok (.iload 4, 2) := by decide +kernel
theorem dX3_layRequest_52 : decode cX3_layRequest 52 = .ok (.invokevirtual 56, 3) := by decide +kernel
theorem dX3_layRequest_55 : decode cX3_layRequest 55 = .ok (.aload_n 0, 1) := by decide +kernel
theorem dX3_layRequest_56 : decode cX3_layRequest 56 = .ok (.getfield 9, 3) := by decide +kernel
theorem dX3_layRequest_59 : decode cX3_layRequest 59 = .ok (.iload_n 1, 1) := by decide +kernel
theorem dX3_layRequest_60 : decode cX3_layRequest 60 = .ok (.bipush 16, 2) := by decide +kernel
theorem dX3_layRequest_62 : decode cX3_layRequest 62 = .ok (.iload 4, 2) := by decide +kernel
theorem dX3_layRequest_64 : decode cX3_layRequest 64 = .ok (.imul, 1) := by decide +kernel
theorem dX3_layRequest_65 : decode cX3_layRequest 65 = .ok (.iadd, 1) := by decide +kernel
theorem dX3_layRequest_66 : decode cX3_layRequest 66 = .ok (.iload 5, 2) := by decide +kernel
theorem dX3_layRequest_68 : decode cX3_layRequest 68 = .ok (.bipush 80, 2) := by decide +kernel
theorem dX3_layRequest_70 : decode cX3_layRequest 70 = .ok (.iadd, 1) := by decide +kernel
theorem dX3_layRequest_71 : decode cX3_layRequest 71 = .ok (.iconst 1, 1) := by decide +kernel
theorem dX3_layRequest_72 : decode cX3_layRequest 72 = .ok (.iconst 2, 1) := by decide +kernel
theorem dX3_layRequest_73 : decode cX3_layRequest 73 = .ok (.iconst 0, 1) := by decide +kernel
theorem dX3_layRequest_74 : decode cX3_layRequest 74 = .ok (.invokevirtual 56, 3) := by decide +kernel
theorem dX3_layRequest_77 : decode cX3_layRequest 77 = .ok (.return_, 1) := by decide +kernel
theorem dX3_fillRequest_0 : decode cX3_fillRequest 0 = .ok (.aload_n 0, 1) := by decide +kernel
theorem dX3_fillRequest_1 : decode cX3_fillRequest 1 = .ok (.getfield 9, 3) := by decide +kernel
theorem dX3_fillRequest_4 : decode cX3_fillRequest 4 = .ok (.iload_n 1, 1) := by decide +kernel
theorem dX3_fillRequest_5 : decode cX3_fillRequest 5 = .ok (.bipush 8, 2) := by decide +kernel
theorem dX3_fillRequest_7 : decode cX3_fillRequest 7 = .ok (.iload_n 2, 1) := by decide +kernel
theorem dX3_fillRequest_8 : decode cX3_fillRequest 8 = .ok (.i2l, 1) := by decide +kernel
theorem dX3_fillRequest_9 : decode cX3_fillRequest 9 = .ok (.invokevirtual 81, 3) := by decide +kernel
theorem dX3_fillRequest_12 : decode cX3_fillRequest 12 = .ok (.aload_n 0, 1) := by decide +kernel
theorem dX3_fillRequest_13 : decode cX3_fillRequest 13 = .ok (.getfield 9, 3) := by decide +kernel
theorem dX3_fillRequest_16 : decode cX3_fillRequest 16 = .ok (.iload_n 1, 1) := by decide +kernel
theorem dX3_fillRequest_17 : decode cX3_fillRequest 17 = .ok (.bipush 8, 2) := by decide +kernel
theorem dX3_fillRequest_19 : decode cX3_fillRequest 19 = .ok (.iadd, 1) := by decide +kernel
theorem dX3_fillRequest_20 : decode cX3_fillRequest 20 = .ok (.bipush 8, 2) := by decide +kernel
theorem dX3_fillRequest_22 : decode cX3_fillRequest 22 = .ok (.iload_n 3, 1) := by decide +kernel
theorem dX3_fillRequest_23 : decode cX3_fillRequest 23 = .ok (.i2l, 1) := by decide +kernel
theorem dX3_fillRequest_24 : decode cX3_fillRequest 24 = .ok (.invokevirtual 81, 3) := by decide +kernel
theorem dX3_fillRequest_27 : decode cX3_fillRequest 27 = .ok (.iload_n 2, 1) := by decide +kernel
theorem dX3_fillRequest_28 : decode cX3_fillRequest 28 = .ok (.iconst 1, 1) := by decide +kernel
theorem dX3_fillRequest_29 : decode cX3_fillRequest 29 = .ok (.if_icmp .ne 15, 3) := by decide +kernel
theorem dX3_fillRequest_32 : decode cX3_fillRequest 32 = .ok (.aload_n 0, 1) := by decide +kernel
theorem dX3_fillRequest_33 : decode cX3_fillRequest 33 = .ok (.iload_n 1, 1) := by decide +kernel
theorem dX3_fillRequest_34 : decode cX3_fillRequest 34 = .ok (.bipush 16, 2) := by decide +kernel
theorem dX3_fillRequest_36 : decode cX3_fillRequest 36 = .ok (.iadd, 1) := by decide +kernel
theorem dX3_fillRequest_37 : decode cX3_fillRequest 37 = .ok (.bipush 64, 2) := by decide +kernel
theorem dX3_fillRequest_39 : decode cX3_fillRequest 39 = .ok (.lload 4, 2) := by decide +kernel
theorem dX3_fillRequest_41 : decode cX3_fillRequest 41 = .ok (.invokevirtual 85, 3) := by decide +kernel
theorem dX3_fillRequest_44 : decode cX3_fillRequest 44 = .ok (.return_, 1) := by decide +kernel
theorem dX3_fillPattern_0 : decode cX3_fillPattern 0 = .ok (.iconst 0, 1) := by decide +kernel
theorem dX3_fillPattern_1 : decode cX3_fillPattern 1 = .ok (.istore 5, 2) := by decide +kernel
theorem dX3_fillPattern_3 : decode cX3_fillPattern 3 = .ok (.iload 5, 2) := by decide +kernel
theorem dX3_fillPattern_5 : decode cX3_fillPattern 5 = .ok (.iload_n 2, 1) := by decide +kernel
theorem dX3_fillPattern_6 : decode cX3_fillPattern 6 = .ok (.if_icmp .ge 26, 3) := by decide +kernel
theorem dX3_fillPattern_9 : decode cX3_fillPattern 9 = .ok (.aload_n 0, 1) := by decide +kernel
theorem dX3_fillPattern_10 : decode cX3_fillPattern 10 = .ok (.getfield 9, 3) := by decide +kernel
theorem dX3_fillPattern_13 : decode cX3_fillPattern 13 = .ok (.iload_n 1, 1) := by decide +kernel
theorem dX3_fillPattern_14 : decode cX3_fillPattern 14 = .ok (.iload 5, 2) := by decide +kernel
theorem dX3_fillPattern_16 : decode cX3_fillPattern 16 = .ok (.iadd, 1) := by decide +kernel
theorem dX3_fillPattern_17 : decode cX3_fillPattern 17 = .ok (.lload_n 3, 1) := by decide +kernel
theorem dX3_fillPattern_18 : decode cX3_fillPattern 18 = .ok (.iload 5, 2) := by decide +kernel
theorem dX3_fillPattern_20 : decode cX3_fillPattern 20 = .ok (.invokestatic 88, 3) := by decide +kernel
theorem dX3_fillPattern_23 : decode cX3_fillPattern 23 = .ok (.invokevirtual 92, 3) := by decide +kernel
theorem dX3_fillPattern_26 : decode cX3_fillPattern 26 = .ok (.iinc 5 1, 3) := by decide +kernel
theorem dX3_fillPattern_29 : decode cX3_fillPattern 29 = .ok (.goto (-26), 3) := by decide +kernel
theorem dX3_fillPattern_32 : decode cX3_fillPattern 32 = .ok (.return_, 1) := by decide +kernel
theorem dX3_letGo_0 : decode cX3_letGo 0 = .ok (.aload_n 0, 1) := by decide +kernel
theorem dX3_letGo_1 : decode cX3_letGo 1 = .ok (.aload_n 0, 1) := by decide +kernel
theorem dX3_letGo_2 : decode cX3_letGo 2 = .ok (.getfield 25, 3) := by decide +kernel
theorem dX3_letGo_5 : decode cX3_letGo 5 = .ok (.iconst 2, 1) := by decide +kernel
theorem dX3_letGo_6 : decode cX3_letGo 6 = .ok (.invokevirtual 45, 3) := by decide +kernel
theorem dX3_letGo_9 : decode cX3_letGo 9 = .ok (.istore 4, 2) := by decide +kernel
theorem dX3_letGo_11 : decode cX3_letGo 11 = .ok (.iload 4, 2) := by decide +kernel
theorem dX3_letGo_13 : decode cX3_letGo 13 = .ok (.ifCond .eq 6, 3) := by decide +kernel
theorem dX3_letGo_16 : decode cX3_letGo 16 = .ok (.iload 4, 2) := by decide +kernel
theorem dX3_letGo_18 : decode cX3_letGo 18 = .ok (.ireturn, 1) := by decide +kernel
theorem dX3_letGo_19 : decode cX3_letGo 19 = .ok (.aload_n 0, 1) := by decide +kernel
theorem dX3_letGo_20 : decode cX3_letGo 20 = .ok (.getfield 25, 3) := by decide +kernel
theorem dX3_letGo_23 : decode cX3_letGo 23 = .ok (.invokevirtual 49, 3) := by decide +kernel
theorem dX3_letGo_26 : decode cX3_letGo 26 = .ok (.istore 5, 2) := by decide +kernel
theorem dX3_letGo_28 : decode cX3_letGo 28 = .ok (.aload_n 0, 1) := by decide +kernel
theorem dX3_letGo_29 : decode cX3_letGo 29 = .ok (.getfield 25, 3) := by decide +kernel
theorem dX3_letGo_32 : decode cX3_letGo 32 = .ok (.iload 5, 2) := by decide +kernel
theorem dX3_letGo_34 : decode cX3_letGo 34 = .ok (.invokevirtual 66, 3) := by decide +kernel
theorem dX3_letGo_37 : decode cX3_letGo 37 = .ok (.istore 6, 2) := by decide +kernel
theorem dX3_letGo_39 : decode cX3_letGo 39 = .ok (.sipush 2304, 3) := by decide +kernel
theorem dX3_letGo_42 : decode cX3_letGo 42 = .ok (.bipush 96, 2) := by decide +kernel
theorem dX3_letGo_44 : decode cX3_letGo 44 = .ok (.iload 5, 2) := by decide +kernel
theorem dX3_letGo_46 : decode cX3_letGo 46 = .ok (.imul, 1) := by decide +kernel
theorem dX3_letGo_47 : decode cX3_letGo 47 = .ok (.iadd, 1) := by decide +kernel
theorem dX3_letGo_48 : decode cX3_letGo 48 = .ok (.istore 7, 2) := by decide +kernel
theorem dX3_letGo_50 : decode cX3_letGo 50 = .ok (.aload_n 0, 1) := by decide +kernel
theorem dX3_letGo_51 : decode cX3_letGo 51 = .ok (.getfield 9, 3) := by decide +kernel
theorem dX3_letGo_54 : decode cX3_letGo 54 = .ok (.aload_n 0, 1) := by decide +kernel
theorem dX3_letGo_55 : decode cX3_letGo 55 = .ok (.iconst 2, 1) := by decide +kernel
theorem dX3_letGo_56 : decode cX3_letGo 56 = .ok (.iload 5, 2) := by decide +kernel
theorem dX3_letGo_58 : decode cX3_letGo 58 = .ok (.invokevirtual 52, 3) := by decide +kernel
theorem dX3_letGo_61 : decode cX3_letGo 61 = .ok (.iload 7, 2) := by decide +kernel
theorem dX3_letGo_63 : decode cX3_letGo 63 = .ok (.bipush 12, 2) := by decide +kernel
theorem dX3_letGo_65 : decode cX3_letGo 65 = .ok (.iconst 1, 1) := by decide +kernel
theorem dX3_letGo_66 : decode cX3_letGo 66 = .ok (.iload 6, 2) := by decide +kernel
theorem dX3_letGo_68 : decode cX3_letGo 68 = .ok (.invokevirtual 56, 3) := by decide +kernel
theorem dX3_letGo_71 : decode cX3_letGo 71 = .ok (.aload_n 0, 1) := by decide +kernel
theorem dX3_letGo_72 : decode cX3_letGo 72 = .ok (.getfield 9, 3) := by decide +kernel
theorem dX3_letGo_75 : decode cX3_letGo 75 = .ok (.aload_n 0, 1) := by decide +kernel
theorem dX3_letGo_76 : decode cX3_letGo 76 = .ok (.iconst 2, 1) := by decide +kernel
theorem dX3_letGo_77 : decode cX3_letGo 77 = .ok (.iload 6, 2) := by decide +kernel
theorem dX3_letGo_79 : decode cX3_letGo 79 = .ok (.invokevirtual 52, 3) := by decide +kernel
theorem dX3_letGo_82 : decode cX3_letGo 82 = .ok (.iload 7, 2) := by decide +kernel
theorem dX3_letGo_84 : decode cX3_letGo 84 = .ok (.bipush 12, 2) := by decide +kernel
theorem dX3_letGo_86 : decode cX3_letGo 86 = .ok (.iadd, 1) := by decide +kernel
theorem dX3_letGo_87 : decode cX3_letGo 87 = .ok (.iload_n 1, 1) := by decide +kernel
theorem dX3_letGo_88 : decode cX3_letGo 88 = .ok (.iconst 0, 1) := by decide +kernel
theorem dX3_letGo_89 : decode cX3_letGo 89 = .ok (.iconst 0, 1) := by decide +kernel
theorem dX3_letGo_90 : decode cX3_letGo 90 = .ok (.invokevirtual 56, 3) := by decide +kernel
theorem dX3_letGo_93 : decode cX3_letGo 93 = .ok (.aload_n 0, 1) := by decide +kernel
theorem dX3_letGo_94 : decode cX3_letGo 94 = .ok (.getfield 9, 3) := by decide +kernel
theorem dX3_letGo_97 : decode cX3_letGo 97 = .ok (.iload 7, 2) := by decide +kernel
theorem dX3_letGo_99 : decode cX3_letGo 99 = .ok (.bipush 8, 2) := by decide +kernel
theorem dX3_letGo_101 : decode cX3_letGo 101 = .ok (.lconst 0, 1) := by decide +kernel
theorem dX3_letGo_102 : decode cX3_letGo 102 = .ok (.invokevirtual 81, 3) := by decide +kernel
theorem dX3_letGo_105 : decode cX3_letGo 105 = .ok (.aload_n 0, 1) := by decide +kernel
theorem dX3_letGo_106 : decode cX3_letGo 106 = .ok (.getfield 9, 3) := by decide +kernel
theorem dX3_letGo_109 : decode cX3_letGo 109 = .ok (.iload 7, 2) := by decide +kernel
theorem dX3_letGo_111 : decode cX3_letGo 111 = .ok (.bipush 8, 2) := by decide +kernel
theorem dX3_letGo_113 : decode cX3_letGo 113 = .ok (.iadd, 1) := by decide +kernel
theorem dX3_letGo_114 : decode cX3_letGo 114 = .ok (.iconst 4, 1) := by decide +kernel
theorem dX3_letGo_115 : decode cX3_letGo 115 = .ok (.lconst 0, 1) := by decide +kernel
theorem dX3_letGo_116 : decode cX3_letGo 116 = .ok (.invokevirtual 81, 3) := by decide +kernel
theorem dX3_letGo_119 : decode cX3_letGo 119 = .ok (.aload_n 0, 1) := by decide +kernel
theorem dX3_letGo_120 : decode cX3_letGo 120 = .ok (.iload 7, 2) := by decide +kernel
theorem dX3_letGo_122 : decode cX3_letGo 122 = .ok (.bipush 12, 2) := by decide +kernel
theorem dX3_letGo_124 : decode cX3_letGo 124 = .ok (.iadd, 1) := by decide +kernel
theorem dX3_letGo_125 : decode cX3_letGo 125 = .ok (.iload_n 1, 1) := by decide +kernel
theorem dX3_letGo_126 : decode cX3_letGo 126 = .ok (.lload_n 2, 1) := by decide +kernel
theorem dX3_letGo_127 : decode cX3_letGo 127 = .ok (.invokevirtual 85, 3) := by decide +kernel
theorem dX3_letGo_130 : decode cX3_letGo 130 = .ok (.aload_n 0, 1) := by decide +kernel
theorem dX3_letGo_131 : decode cX3_letGo 131 = .ok (.iconst 2, 1) := by decide +kernel
theorem dX3_letGo_132 : decode cX3_letGo 132 = .ok (.iload 5, 2) := by decide +kernel
theorem dX3_letGo_134 : decode cX3_letGo 134 = .ok (.invokevirtual 77, 3) := by decide +kernel
theorem dX3_letGo_137 : decode cX3_letGo 137 = .ok (.iload 5, 2) := by decide +kernel
theorem dX3_letGo_139 : decode cX3_letGo 139 = .ok (.ireturn, 1) := by decide +kernel
theorem dX3_lendBuffer_0 : decode cX3_lendBuffer 0 = .ok (.aload_n 0, 1) := by decide +kernel
theorem dX3_lendBuffer_1 : decode cX3_lendBuffer 1 = .ok (.aload_n 0, 1) := by decide +kernel
theorem dX3_lendBuffer_2 : decode cX3_lendBuffer 2 = .ok (.getfield 22, 3) := by decide +kernel
theorem dX3_lendBuffer_5 : decode cX3_lendBuffer 5 = .ok (.iconst 1, 1) := by decide +kernel
theorem dX3_lendBuffer_6 : decode cX3_lendBuffer 6 = .ok (.invokevirtual 45, 3) := by decide +kernel
theorem dX3_lendBuffer_9 : decode cX3_lendBuffer 9 = .ok (.istore_n 1, 1) := by decide +kernel
theorem dX3_lendBuffer_10 : decode cX3_lendBuffer 10 = .ok (.iload_n 1, 1) := by decide +kernel
theorem dX3_lendBuffer_11 : decode cX3_lendBuffer 11 = .ok (.ifCond .eq 5, 3) := by decide +kernel
theorem dX3_lendBuffer_14 : decode cX3_lendBuffer 14 = .ok (.iload_n 1, 1) := by decide +kernel
theorem dX3_lendBuffer_15 : decode cX3_lendBuffer 15 = .ok (.ireturn, 1) := by decide +kernel
theorem dX3_lendBuffer_16 : decode cX3_lendBuffer 16 = .ok (.aload_n 0, 1) := by decide +kernel
theorem dX3_lendBuffer_17 : decode cX3_lendBuffer 17 = .ok (.getfield 22, 3) := by decide +kernel
theorem dX3_lendBuffer_20 : decode cX3_lendBuffer 20 = .ok (.invokevirtual 49, 3) := by decide +kernel
theorem dX3_lendBuffer_23 : decode cX3_lendBuffer 23 = .ok (.istore_n 2, 1) := by decide +kernel
theorem dX3_lendBuffer_24 : decode cX3_lendBuffer 24 = .ok (.sipush 3072, 3) := by decide +kernel
theorem dX3_lendBuffer_27 : decode cX3_lendBuffer 27 = .ok (.bipush 96, 2) := by decide +kernel
theorem dX3_lendBuffer_29 : decode cX3_lendBuffer 29 = .ok (.iload_n 2, 1) := by decide +kernel
theorem dX3_lendBuffer_30 : decode cX3_lendBuffer 30 = .ok (.imul, 1) := by decide +kernel
theorem dX3_lendBuffer_31 : decode cX3_lendBuffer 31 = .ok (.iadd, 1) := by decide +kernel
theorem dX3_lendBuffer_32 : decode cX3_lendBuffer 32 = .ok (.istore_n 3, 1) := by decide +kernel
theorem dX3_lendBuffer_33 : decode cX3_lendBuffer 33 = .ok (.aload_n 0, 1) := by decide +kernel
theorem dX3_lendBuffer_34 : decode cX3_lendBuffer 34 = .ok (.getfield 9, 3) := by decide +kernel
theorem dX3_lendBuffer_37 : decode cX3_lendBuffer 37 = .ok (.aload_n 0, 1) := by decide +kernel
theorem dX3_lendBuffer_38 : decode cX3_lendBuffer 38 = .ok (.iconst 1, 1) := by decide +kernel
theorem dX3_lendBuffer_39 : decode cX3_lendBuffer 39 = .ok (.iload_n 2, 1) := by decide +kernel
theorem dX3_lendBuffer_40 : decode cX3_lendBuffer 40 = .ok (.invokevirtual 52, 3) := by decide +kernel
theorem dX3_lendBuffer_43 : decode cX3_lendBuffer 43 = .ok (.iload_n 3, 1) := by decide +kernel
theorem dX3_lendBuffer_44 : decode cX3_lendBuffer 44 = .ok (.bipush 92, 2) := by decide +kernel
theorem dX3_lendBuffer_46 : decode cX3_lendBuffer 46 = .ok (.iconst 2, 1) := by decide +kernel
theorem dX3_lendBuffer_47 : decode cX3_lendBuffer 47 = .ok (.iconst 0, 1) := by decide +kernel
theorem dX3_lendBuffer_48 : decode cX3_lendBuffer 48 = .ok (.invokevirtual 56, 3) := by decide +kernel
theorem dX3_lendBuffer_51 : decode cX3_lendBuffer 51 = .ok (.aload_n 0, 1) := by decide +kernel
theorem dX3_lendBuffer_52 : decode cX3_lendBuffer 52 = .ok (.iconst 1, 1) := by decide +kernel
theorem dX3_lendBuffer_53 : decode cX3_lendBuffer 53 = .ok (.iload_n 2, 1) := by decide +kernel
theorem dX3_lendBuffer_54 : decode cX3_lendBuffer 54 = .ok (.invokevirtual 77, 3) := by decide +kernel
theorem dX3_lendBuffer_57 : decode cX3_lendBuffer 57 = .ok (.iload_n 2, 1) := by decide +kernel
theorem dX3_lendBuffer_58 : decode cX3_lendBuffer 58 = .ok (.ireturn, 1) := by decide +kernel
theorem dX3_descriptorAt_0 : decode cX3_descriptorAt 0 = .ok (.iload_n 1, 1) := by decide +kernel
theorem dX3_descriptorAt_1 : decode cX3_descriptorAt 1 = .ok (.invokestatic 70, 3) := by decide +kernel
theorem dX3_descriptorAt_4 : decode cX3_descriptorAt 4 = .ok (.bipush 16, 2) := by decide +kernel
theorem dX3_descriptorAt_6 : decode cX3_descriptorAt 6 = .ok (.iload_n 2, 1) := by decide +kernel
theorem dX3_descriptorAt_7 : decode cX3_descriptorAt 7 = .ok (.imul, 1) := by decide +kernel
theorem dX3_descriptorAt_8 : decode cX3_descriptorAt 8 = .ok (.iadd, 1) := by decide +kernel
theorem dX3_descriptorAt_9 : decode cX3_descriptorAt 9 = .ok (.ireturn, 1) := by decide +kernel
theorem dX3_offer_0 : decode cX3_offer 0 = .ok (.aload_n 0, 1) := by decide +kernel
theorem dX3_offer_1 : decode cX3_offer 1 = .ok (.iload_n 1, 1) := by decide +kernel
theorem dX3_offer_2 : decode cX3_offer 2 = .ok (.invokevirtual 95, 3) := by decide +kernel
theorem dX3_offer_5 : decode cX3_offer 5 = .ok (.astore_n 3, 1) := by decide +kernel
theorem dX3_offer_6 : decode cX3_offer 6 = .ok (.iload_n 1, 1) := by decide +kernel
theorem dX3_offer_7 : decode cX3_offer 7 = .ok (.invokestatic 99, 3) := by decide +kernel
theorem dX3_offer_10 : decode cX3_offer 10 = .ok (.istore 4, 2) := by decide +kernel
theorem dX3_offer_12 : decode cX3_offer 12 = .ok (.iload 4, 2) := by decide +kernel
theorem dX3_offer_14 : decode cX3_offer 14 = .ok (.iconst 4, 1) := by decide +kernel
theorem dX3_offer_15 : decode cX3_offer 15 = .ok (.iadd, 1) := by decide +kernel
theorem dX3_offer_16 : decode cX3_offer 16 = .ok (.iconst 2, 1) := by decide +kernel
theorem dX3_offer_17 : decode cX3_offer 17 = .ok (.aload_n 3, 1) := by decide +kernel
theorem dX3_offer_18 : decode cX3_offer 18 = .ok (.getfield 102, 3) := by decide +kernel
theorem dX3_offer_21 : decode cX3_offer 21 = .ok (.bipush 8, 2) := by decide +kernel
theorem dX3_offer_23 : decode cX3_offer 23 = .ok (.irem, 1) := by decide +kernel
theorem dX3_offer_24 : decode cX3_offer 24 = .ok (.imul, 1) := by decide +kernel
theorem dX3_offer_25 : decode cX3_offer 25 = .ok (.iadd, 1) := by decide +kernel
theorem dX3_offer_26 : decode cX3_offer 26 = .ok (.istore 5, 2) := by decide +kernel
theorem dX3_offer_28 : decode cX3_offer 28 = .ok (.aload_n 0, 1) := by decide +kernel
theorem dX3_offer_29 : decode cX3_offer 29 = .ok (.getfield 9, 3) := by decide +kernel
theorem dX3_offer_32 : decode cX3_offer 32 = .ok (.iload 5, 2) := by decide +kernel
theorem dX3_offer_34 : decode cX3_offer 34 = .ok (.iconst 2, 1) := by decide +kernel
theorem dX3_offer_35 : decode cX3_offer 35 = .ok (.iload_n 2, 1) := by decide +kernel
theorem dX3_offer_36 : decode cX3_offer 36 = .ok (.i2l, 1) := by decide +kernel
theorem dX3_offer_37 : decode cX3_offer 37 = .ok (.invokevirtual 81, 3) := by decide +kernel
theorem dX3_offer_40 : decode cX3_offer 40 = .ok (.aload_n 3, 1) := by decide +kernel
theorem dX3_offer_41 : decode cX3_offer 41 = .ok (.aload_n 3, 1) := by decide +kernel
theorem dX3_offer_42 : decode cX3_offer 42 = .ok (.getfield 102, 3) := by decide +kernel
theorem dX3_offer_45 : decode cX3_offer 45 = .ok (.invokestatic 106, 3) := by decide +kernel
theorem dX3_offer_48 : decode cX3_offer 48 = .ok (.putfield 102, 3) := by decide +kernel
theorem dX3_offer_51 : decode cX3_offer 51 = .ok (.aload_n 0, 1) := by decide +kernel
theorem dX3_offer_52 : decode cX3_offer 52 = .ok (.getfield 9, 3) := by decide +kernel
theorem dX3_offer_55 : decode cX3_offer 55 = .ok (.iload 4, 2) := by decide +kernel
theorem dX3_offer_57 : decode cX3_offer 57 = .ok (.iconst 2, 1) := by decide +kernel
theorem dX3_offer_58 : decode cX3_offer 58 = .ok (.iadd, 1) := by decide +kernel
theorem dX3_offer_59 : decode cX3_offer 59 = .ok (.iconst 2, 1) := by decide +kernel
theorem dX3_offer_60 : decode cX3_offer 60 = .ok (.aload_n 3, 1) := by decide +kernel
theorem dX3_offer_61 : decode cX3_offer 61 = .ok (.getfield 102, 3) := by decide +kernel
theorem dX3_offer_64 : decode cX3_offer 64 = .ok (.i2l, 1) := by decide +kernel
theorem dX3_offer_65 : decode cX3_offer 65 = .ok (.invokevirtual 81, 3) := by decide +kernel
theorem dX3_offer_68 : decode cX3_offer 68 = .ok (.return_, 1) := by decide +kernel
theorem dX3_collectOne_0 : decode cX3_collectOne 0 = .ok (.aload_n 0, 1) := by decide +kernel
theorem dX3_collectOne_1 : decode cX3_collectOne 1 = .ok (.getfield 28, 3) := by decide +kernel
theorem dX3_collectOne_4 : decode cX3_collectOne 4 = .ok (.ifCond .ne 6, 3) := by decide +kernel
theorem dX3_collectOne_7 : decode cX3_collectOne 7 = .ok (.bipush (-4), 2) := by decide +kernel
theorem dX3_collectOne_9 : decode cX3_collectOne 9 = .ok (.ireturn, 1) := by decide +kernel
theorem dX3_collectOne_10 : decode cX3_collectOne 10 = .ok (.aload_n 0, 1) := by decide +kernel
theorem dX3_collectOne_11 : decode cX3_collectOne 11 = .ok (.iload_n 1, 1) := by decide +kernel
theorem dX3_collectOne_12 : decode cX3_collectOne 12 = .ok (.invokevirtual 95, 3) := by decide +kernel
theorem dX3_collectOne_15 : decode cX3_collectOne 15 = .ok (.astore_n 2, 1) := by decide +kernel
theorem dX3_collectOne_16 : decode cX3_collectOne 16 = .ok (.iload_n 1, 1) := by decide +kernel
theorem dX3_collectOne_17 : decode cX3_collectOne 17 = .ok (.invokestatic 109, 3) := by decide +kernel
theorem dX3_collectOne_20 : decode cX3_collectOne 20 = .ok (.istore_n 3, 1) := by decide +kernel
theorem dX3_collectOne_21 : decode cX3_collectOne 21 = .ok (.aload_n 0, 1) := by decide +kernel
theorem dX3_collectOne_22 : decode cX3_collectOne 22 = .ok (.getfield 9, 3) := by decide +kernel
theorem dX3_collectOne_25 : decode cX3_collectOne 25 = .ok (.iload_n 3, 1) := by decide +kernel
theorem dX3_collectOne_26 : decode cX3_collectOne 26 = .ok (.iconst 2, 1) := by decide +kernel
theorem dX3_collectOne_27 : decode cX3_collectOne 27 = .ok (.iadd, 1) := by decide +kernel
theorem dX3_collectOne_28 : decode cX3_collectOne 28 = .ok (.invokevirtual 112, 3) := by decide +kernel
theorem dX3_collectOne_31 : decode cX3_collectOne 31 = .ok (.aload_n 2, 1) := by decide +kernel
theorem dX3_collectOne_32 : decode cX3_collectOne 32 = .ok (.getfield 115, 3) := by decide +kernel
theorem dX3_collectOne_35 : decode cX3_collectOne 35 = .ok (.if_icmp .ne 5, 3) := by decide +kernel
theorem dX3_collectOne_38 : decode cX3_collectOne 38 = .ok (.iconst (-1), 1) := by decide +kernel
theorem dX3_collectOne_39 : decode cX3_collectOne 39 = .ok (.ireturn, 1) := by decide +kernel
theorem dX3_collectOne_40 : decode cX3_collectOne 40 = .ok (.iload_n 3, 1) := by decide +kernel
theorem dX3_collectOne_41 : decode cX3_collectOne 41 = .ok (.iconst 4, 1) := by decide +kernel
theorem dX3_collectOne_42 : decode cX3_collectOne 42 = .ok (.iadd, 1) := by decide +kernel
theorem dX3_collectOne_43 : decode cX3_collectOne 43 = .ok (.bipush 8, 2) := by decide +kernel
theorem dX3_collectOne_45 : decode cX3_collectOne 45 = .ok (.aload_n 2, 1) := by decide +kernel
theorem dX3_collectOne_46 : decode cX3_collectOne 46 = .ok (.getfield 115, 3) := by decide +kernel
theorem dX3_collectOne_49 : decode cX3_collectOne 49 = .ok (.bipush 8, 2) := by decide +kernel
theorem dX3_collectOne_51 : decode cX3_collectOne 51 = .ok (.irem, 1) := by decide +kernel
theorem dX3_collectOne_52 : decode cX3_collectOne 52 = .ok (.imul, 1) := by decide +kernel
theorem dX3_collectOne_53 : decode cX3_collectOne 53 = .ok (.iadd, 1) := by decide +kernel
theorem dX3_collectOne_54 : decode cX3_collectOne 54 = .ok (.istore 4, 2) := by decide +kernel
theorem dX3_collectOne_56 : decode cX3_collectOne 56 = .ok (.aload_n 2, 1) := by decide +kernel
theorem dX3_collectOne_57 : decode cX3_collectOne 57 = .ok (.aload_n 2, 1) := by decide +kernel
theorem dX3_collectOne_58 : decode cX3_collectOne 58 = .ok (.getfield 115, 3) := by decide +kernel
theorem dX3_collectOne_61 : decode cX3_collectOne 61 = .ok (.invokestatic 106, 3) := by decide +kernel
theorem dX3_collectOne_64 : decode cX3_collectOne 64 = .ok (.putfield 115, 3) := by decide +kernel
theorem dX3_collectOne_67 : decode cX3_collectOne 67 = .ok (.aload_n 0, 1) := by decide +kernel
theorem dX3_collectOne_68 : decode cX3_collectOne 68 = .ok (.getfield 9, 3) := by decide +kernel
theorem dX3_collectOne_71 : decode cX3_collectOne 71 = .ok (.iload 4, 2) := by decide +kernel
theorem dX3_collectOne_73 : decode cX3_collectOne 73 = .ok (.iconst 4, 1) := by decide +kernel
theorem dX3_collectOne_74 : decode cX3_collectOne 74 = .ok (.invokevirtual 118, 3) := by decide +kernel
theorem dX3_collectOne_77 : decode cX3_collectOne 77 = .ok (.lstore 5, 2) := by decide +kernel
theorem dX3_collectOne_79 : decode cX3_collectOne 79 = .ok (.aload_n 2, 1) := by decide +kernel
theorem dX3_collectOne_80 : decode cX3_collectOne 80 = .ok (.lload 5, 2) := by decide +kernel
theorem dX3_collectOne_82 : decode cX3_collectOne 82 = .ok (.invokevirtual 122, 3) := by decide +kernel
theorem dX3_collectOne_85 : decode cX3_collectOne 85 = .ok (.ifCond .ne 6, 3) := by decide +kernel
theorem dX3_collectOne_88 : decode cX3_collectOne 88 = .ok (.bipush (-3), 2) := by decide +kernel
theorem dX3_collectOne_90 : decode cX3_collectOne 90 = .ok (.ireturn, 1) := by decide +kernel
theorem dX3_collectOne_91 : decode cX3_collectOne 91 = .ok (.aload_n 2, 1) := by decide +kernel
theorem dX3_collectOne_92 : decode cX3_collectOne 92 = .ok (.aload_n 0, 1) := by decide +kernel
theorem dX3_collectOne_93 : decode cX3_collectOne 93 = .ok (.getfield 9, 3) := by decide +kernel
theorem dX3_collectOne_96 : decode cX3_collectOne 96 = .ok (.iload 4, 2) := by decide +kernel
theorem dX3_collectOne_98 : decode cX3_collectOne 98 = .ok (.iconst 4, 1) := by decide +kernel
theorem dX3_collectOne_99 : decode cX3_collectOne 99 = .ok (.iadd, 1) := by decide +kernel
theorem dX3_collectOne_100 : decode cX3_collectOne 100 = .ok (.iconst 4, 1) := by decide +kernel
theorem dX3_collectOne_101 : decode cX3_collectOne 101 = .ok (.invokevirtual 118, 3) := by decide +kernel
theorem dX3_collectOne_104 : decode cX3_collectOne 104 = .ok (.l2i, 1) := by decide +kernel
theorem dX3_collectOne_105 : decode cX3_collectOne 105 = .ok (.ldc 126, 2) := by decide +kernel
theorem dX3_collectOne_107 : decode cX3_collectOne 107 = .ok (.iand, 1) := by decide +kernel
theorem dX3_collectOne_108 : decode cX3_collectOne 108 = .ok (.putfield 127, 3) := by decide +kernel
theorem dX3_collectOne_111 : decode cX3_collectOne 111 = .ok (.lload 5, 2) := by decide +kernel
theorem dX3_collectOne_113 : decode cX3_collectOne 113 = .ok (.l2i, 1) := by decide +kernel
theorem dX3_collectOne_114 : decode cX3_collectOne 114 = .ok (.ireturn, 1) := by decide +kernel
theorem dX4_init_0 : decode cX4_init 0 = .ok (.aload_n 0, 1) := by decide +kernel
theorem dX4_init_1 : decode cX4_init 1 = .ok (.invokespecial 3, 3) := by decide +kernel
theorem dX4_init_4 : decode cX4_init 4 = .ok (.aload_n 0, 1) := by decide +kernel
theorem dX4_init_5 : decode cX4_init 5 = .ok (.bipush 8, 2) := by decide +kernel
theorem dX4_init_7 : decode cX4_init 7 = .ok (.newarray .int, 2) := by decide +kernel
theorem dX4_init_9 : decode cX4_init 9 = .ok (.putfield 9, 3) := by decide +kernel
theorem dX4_init_12 : decode cX4_init 12 = .ok (.aload_n 0, 1) := by decide +kernel
theorem dX4_init_13 : decode cX4_init 13 = .ok (.iconst (-1), 1) := by decide +kernel
theorem dX4_init_14 : decode cX4_init 14 = .ok (.putfield 15, 3) := by decide +kernel
theorem dX4_init_17 : decode cX4_init 17 = .ok (.return_, 1) := by decide +kernel
theorem dX4_begin_0 : decode cX4_begin 0 = .ok (.aload_n 0, 1) := by decide +kernel
theorem dX4_begin_1 : decode cX4_begin 1 = .ok (.invokevirtual 19, 3) := by decide +kernel
theorem dX4_begin_4 : decode cX4_begin 4 = .ok (.aload_n 0, 1) := by decide +kernel
theorem dX4_begin_5 : decode cX4_begin 5 = .ok (.sipush 255, 3) := by decide +kernel
theorem dX4_begin_8 : decode cX4_begin 8 = .ok (.putfield 22, 3) := by decide +kernel
theorem dX4_begin_11 : decode cX4_begin 11 = .ok (.return_, 1) := by decide +kernel
theorem dX4_forget_0 : decode cX4_forget 0 = .ok (.aload_n 0, 1) := by decide +kernel
theorem dX4_forget_1 : decode cX4_forget 1 = .ok (.getfield 9, 3) := by decide +kernel
theorem dX4_forget_4 : decode cX4_forget 4 = .ok (.iconst 0, 1) := by decide +kernel
theorem dX4_forget_5 : decode cX4_forget 5 = .ok (.invokestatic 25, 3) := by decide +kernel
theorem dX4_forget_8 : decode cX4_forget 8 = .ok (.aload_n 0, 1) := by decide +kernel
theorem dX4_forget_9 : decode cX4_forget 9 = .ok (.iconst 0, 1) := by decide +kernel
theorem dX4_forget_10 : decode cX4_forget 10 = .ok (.putfield 22, 3) := by decide +kernel
theorem dX4_forget_13 : decode cX4_forget 13 = .ok (.aload_n 0, 1) := by decide +kernel
theorem dX4_forget_14 : decode cX4_forget 14 = .ok (.iconst 0, 1) := by decide +kernel
theorem dX4_forget_15 : decode cX4_forget 15 = .ok (.putfield 31, 3) := by decide +kernel
theorem dX4_forget_18 : decode cX4_forget 18 = .ok (.aload_n 0, 1) := by decide +kernel
theorem dX4_forget_19 : decode cX4_forget 19 = .ok (.iconst 0, 1) := by decide +kernel
theorem dX4_forget_20 : decode cX4_forget 20 = .ok (.putfield 34, 3) := by decide +kernel
theorem dX4_forget_23 : decode cX4_forget 23 = .ok (.aload_n 0, 1) := by decide +kernel
theorem dX4_forget_24 : decode cX4_forget 24 = .ok (.iconst (-1), 1) := by decide +kernel
theorem dX4_forget_25 : decode cX4_forget 25 = .ok (.putfield 15, 3) := by decide +kernel
theorem dX4_forget_28 : decode cX4_forget 28 = .ok (.return_, 1) := by decide +kernel
theorem dX4_freeOnes_0 : decode cX4_freeOnes 0 = .ok (.aload_n 0, 1) := by decide +kernel
theorem dX4_freeOnes_1 : decode cX4_freeOnes 1 = .ok (.getfield 22, 3) := by decide +kernel
theorem dX4_freeOnes_4 : decode cX4_freeOnes 4 = .ok (.invokestatic 37, 3) := by decide +kernel
theorem dX4_freeOnes_7 : decode cX4_freeOnes 7 = .ok (.ireturn, 1) := by decide +kernel
theorem dX4_lendFirst_0 : decode cX4_lendFirst 0 = .ok (.aload_n 0, 1) := by decide +kernel
theorem dX4_lendFirst_1 : decode cX4_lendFirst 1 = .ok (.invokevirtual 43, 3) := by decide +kernel
theorem dX4_lendFirst_4 : decode cX4_lendFirst 4 = .ok (.istore_n 1, 1) := by decide +kernel
theorem dX4_lendFirst_5 : decode cX4_lendFirst 5 = .ok (.aload_n 0, 1) := by decide +kernel
theorem dX4_lendFirst_6 : decode cX4_lendFirst 6 = .ok (.iload_n 1, 1) := by decide +kernel
theorem dX4_lendFirst_7 : decode cX4_lendFirst 7 = .ok (.iload_n 1, 1) := by decide +kernel
theorem dX4_lendFirst_8 : decode cX4_lendFirst 8 = .ok (.invokevirtual 47, 3) := by decide +kernel
theorem dX4_lendFirst_11 : decode cX4_lendFirst 11 = .ok (.iload_n 1, 1) := by decide +kernel
theorem dX4_lendFirst_12 : decode cX4_lendFirst 12 = .ok (.ireturn, 1) := by decide +kernel
theorem dX4_lendNext_0 : decode cX4_lendNext 0 = .ok (.aload_n 0, 1) := by decide +kernel
theorem dX4_lendNext_1 : decode cX4_lendNext 1 = .ok (.invokevirtual 43, 3) := by decide +kernel
theorem dX4_lendNext_4 : decode cX4_lendNext 4 = .ok (.istore_n 2, 1) := by decide +kernel
theorem dX4_lendNext_5 : decode cX4_lendNext 5 = .ok (.aload_n 0, 1) := by decide +kernel
theorem dX4_lendNext_6 : decode cX4_lendNext 6 = .ok (.iload_n 1, 1) := by decide +kernel
theorem dX4_lendNext_7 : decode cX4_lendNext 7 = .ok (.iload_n 2, 1) := by decide +kernel
theorem dX4_lendNext_8 : decode cX4_lendNext 8 = .ok (.invokevirtual 47, 3) := by decide +kernel
theorem dX4_lendNext_11 : decode cX4_lendNext 11 = .ok (.iload_n 2, 1) := by decide +kernel
theorem dX4_lendNext_12 : decode cX4_lendNext 12 = .ok (.ireturn, 1) := by decide +kernel
theorem dX4_leastFree_0 : decode cX4_leastFree 0 = .ok (.iconst 0, 1) := by decide +kernel
theorem dX4_leastFree_1 : decode cX4_leastFree 1 = .ok (.istore_n 1, 1) := by decide +kernel
theorem dX4_leastFree_2 : decode cX4_leastFree 2 = .ok (.iload_n 1, 1) := by decide +kernel
theorem dX4_leastFree_3 : decode cX4_leastFree 3 = .ok (.bipush 8, 2) := by decide +kernel
theorem dX4_leastFree_5 : decode cX4_leastFree 5 = .ok (.if_icmp .ge 22, 3) := by decide +kernel
theorem dX4_leastFree_8 : decode cX4_leastFree 8 = .ok (.aload_n 0, 1) := by decide +kernel
theorem dX4_leastFree_9 : decode cX4_leastFree 9 = .ok (.getfield 22, 3) := by decide +kernel
theorem dX4_leastFree_12 : decode cX4_leastFree 12 = .ok (.iconst 1, 1) := by decide +kernel
theorem dX4_leastFree_13 : decode cX4_leastFree 13 = .ok (.iload_n 1, 1) := by decide +kernel
theorem dX4_leastFree_14 : decode cX4_leastFree 14 = .ok (.ishl, 1) := by decide +kernel
theorem dX4_leastFree_15 : decode cX4_leastFree 15 = .ok (.iand, 1) := by decide +kernel
theorem dX4_leastFree_16 : decode cX4_leastFree 16 = .ok (.ifCond .eq 5, 3) := by decide +kernel
theorem dX4_leastFree_19 : decode cX4_leastFree 19 = .ok (.iload_n 1, 1) := by decide +kernel
theorem dX4_leastFree_20 : decode cX4_leastFree 20 = .ok (.ireturn, 1) := by decide +kernel
theorem dX4_leastFree_21 : decode cX4_leastFree 21 = .ok (.iinc 1 1, 3) := by decide +kernel
theorem dX4_leastFree_24 : decode cX4_leastFree 24 = .ok (.goto (-22), 3) := by decide +kernel
theorem dX4_leastFree_27 : decode cX4_leastFree 27 = .ok (.iconst (-1), 1) := by decide +kernel
theorem dX4_leastFree_28 : decode cX4_leastFree 28 = .ok (.ireturn, 1) := by decide +kernel
theorem dX4_lend_0 : decode cX4_lend 0 = .ok (.iload_n 1, 1) := by decide +kernel
theorem dX4_lend_1 : decode cX4_lend 1 = .ok (.ifCond .lt 42, 3) := by decide +kernel
theorem dX4_lend_4 : decode cX4_lend 4 = .ok (.iload_n 1, 1) := by decide +kernel
theorem dX4_lend_5 : decode cX4_lend 5 = .ok (.aload_n 0, 1) := by decide +kernel
theorem dX4_lend_6 : decode cX4_lend 6 = .ok (.getfield 9, 3) := by decide +kernel
theorem dX4_lend_9 : decode cX4_lend 9 = .ok (.arraylength, 1) := by decide +kernel
theorem dX4_lend_10 : decode cX4_lend 10 = .ok (.if_icmp .ge 33, 3) := by decide +kernel
theorem dX4_lend_13 : decode cX4_lend 13 = .ok (.iload_n 2, 1) := by decide +kernel
theorem dX4_lend_14 : decode cX4_lend 14 = .ok (.ifCond .lt 29, 3) := by decide +kernel
theorem dX4_lend_17 : decode cX4_lend 17 = .ok (.aload_n 0, 1) := by decide +kernel
theorem dX4_lend_18 : decode cX4_lend 18 = .ok (.getfield 9, 3) := by decide +kernel
theorem dX4_lend_21 : decode cX4_lend 21 = .ok (.iload_n 1, 1) := by decide +kernel
theorem dX4_lend_22 : decode cX4_lend 22 = .ok (.dup2, 1) := by decide +kernel
theorem dX4_lend_23 : decode cX4_lend 23 = .ok (.iaload, 1) := by decide +kernel
theorem dX4_lend_24 : decode cX4_lend 24 = .ok (.iconst 1, 1) := by decide +kernel
theorem dX4_lend_25 : decode cX4_lend 25 = .ok (.iload_n 2, 1) := by decide +kernel
theorem dX4_lend_26 : decode cX4_lend 26 = .ok (.ishl, 1) := by decide +kernel
theorem dX4_lend_27 : decode cX4_lend 27 = .ok (.ior, 1) := by decide +kernel
theorem dX4_lend_28 : decode cX4_lend 28 = .ok (.iastore, 1) := by decide +kernel
theorem dX4_lend_29 : decode cX4_lend 29 = .ok (.aload_n 0, 1) := by decide +kernel
theorem dX4_lend_30 : decode cX4_lend 30 = .ok (.dup, 1) := by decide +kernel
theorem dX4_lend_31 : decode cX4_lend 31 = .ok (.getfield 22, 3) := by decide +kernel
theorem dX4_lend_34 : decode cX4_lend 34 = .ok (.iconst 1, 1) := by decide +kernel
theorem dX4_lend_35 : decode cX4_lend 35 = .ok (.iload_n 2, 1) := by decide +kernel
theorem dX4_lend_36 : decode cX4_lend 36 = .ok (.ishl, 1) := by decide +kernel
theorem dX4_lend_37 : decode cX4_lend 37 = .ok (.iconst (-1), 1) := by decide +kernel
theorem dX4_lend_38 : decode cX4_lend 38 = .ok (.ixor, 1) := by decide +kernel
theorem dX4_lend_39 : decode cX4_lend 39 = .ok (.iand, 1) := by decide +kernel
theorem dX4_lend_40 : decode cX4_lend 40 = .ok (.putfield 22, 3) := by decide +kernel
theorem dX4_lend_43 : decode cX4_lend 43 = .ok (.return_, 1) := by decide +kernel
theorem dX4_takeBack_0 : decode cX4_takeBack 0 = .ok (.lload_n 1, 1) := by decide +kernel
theorem dX4_takeBack_1 : decode cX4_takeBack 1 = .ok (.lconst 0, 1) := by decide +kernel
theorem dX4_takeBack_2 : decode cX4_takeBack 2 = .ok (.lcmp, 1) := by decide +kernel
theorem dX4_takeBack_3 : decode cX4_takeBack 3 = .ok (.ifCond .lt 24, 3) := by decide +kernel
theorem dX4_takeBack_6 : decode cX4_takeBack 6 = .ok (.lload_n 1, 1) := by decide +kernel
theorem dX4_takeBack_7 : decode cX4_takeBack 7 = .ok (.aload_n 0, 1) := by decide +kernel
theorem dX4_takeBack_8 : decode cX4_takeBack 8 = .ok (.getfield 9, 3) := by decide +kernel
theorem dX4_takeBack_11 : decode cX4_takeBack 11 = .ok (.arraylength, 1) := by decide +kernel
theorem dX4_takeBack_12 : decode cX4_takeBack 12 = .ok (.i2l, 1) := by decide +kernel
theorem dX4_takeBack_13 : decode cX4_takeBack 13 = .ok (.lcmp, 1) := by decide +kernel
theorem dX4_takeBack_14 : decode cX4_takeBack 14 = .ok (.ifCond .ge 13, 3) := by decide +kernel
theorem dX4_takeBack_17 : decode cX4_takeBack 17 = .ok (.aload_n 0, 1) := by decide +kernel
theorem dX4_takeBack_18 : decode cX4_takeBack 18 = .ok (.getfield 9, 3) := by decide +kernel
theorem dX4_takeBack_21 : decode cX4_takeBack 21 = .ok (.lload_n 1, 1) := by decide +kernel
theorem dX4_takeBack_22 : decode cX4_takeBack 22 = .ok (.l2i, 1) := by decide +kernel
theorem dX4_takeBack_23 : decode cX4_takeBack 23 = .ok (.iaload, 1) := by decide +kernel
theorem dX4_takeBack_24 : decode cX4_takeBack 24 = .ok (.ifCond .ne 5, 3) := by decide +kernel
theorem dX4_takeBack_27 : decode cX4_takeBack 27 = .ok (.iconst 0, 1) := by decide +kernel
theorem dX4_takeBack_28 : decode cX4_takeBack 28 = .ok (.ireturn, 1) := by decide +kernel
theorem dX4_takeBack_29 : decode cX4_takeBack 29 = .ok (.aload_n 0, 1) := by decide +kernel
theorem dX4_takeBack_30 : decode cX4_takeBack 30 = .ok (.dup, 1) := by decide +kernel
theorem dX4_takeBack_31 : decode cX4_takeBack 31 = .ok (.getfield 22, 3) := by decide +kernel
theorem dX4_takeBack_34 : decode cX4_takeBack 34 = .ok (.aload_n 0, 1) := by decide +kernel
theorem dX4_takeBack_35 : decode cX4_takeBack 35 = .ok (.getfield 9, 3) := by decide +kernel
theorem dX4_takeBack_38 : decode cX4_takeBack 38 = .ok (.lload_n 1, 1) := by decide +kernel
theorem dX4_takeBack_39 : decode cX4_takeBack 39 = .ok (.l2i, 1) := by decide +kernel
theorem dX4_takeBack_40 : decode cX4_takeBack 40 = .ok (.iaload, 1) := by decide +kernel
theorem dX4_takeBack_41 : decode cX4_takeBack 41 = .ok (.ior, 1) := by decide +kernel
theorem dX4_takeBack_42 : decode cX4_takeBack 42 = .ok (.putfield 22, 3) := by decide +kernel
theorem dX4_takeBack_45 : decode cX4_takeBack 45 = .ok (.aload_n 0, 1) := by decide +kernel
theorem dX4_takeBack_46 : decode cX4_takeBack 46 = .ok (.getfield 9, 3) := by decide +kernel
theorem dX4_takeBack_49 : decode cX4_takeBack 49 = .ok (.lload_n 1, 1) := by decide +kernel
theorem dX4_takeBack_50 : decode cX4_takeBack 50 = .ok (.l2i, 1) := by decide +kernel
theorem dX4_takeBack_51 : decode cX4_takeBack 51 = .ok (.iconst 0, 1) := by decide +kernel
theorem dX4_takeBack_52 : decode cX4_takeBack 52 = .ok (.iastore, 1) := by decide +kernel
theorem dX4_takeBack_53 : decode cX4_takeBack 53 = .ok (.iconst 1, 1) := by decide +kernel
theorem dX4_takeBack_54 : decode cX4_takeBack 54 = .ok (.ireturn, 1) := by decide +kernel
theorem dX5_init_0 : decode cX5_init 0 = .ok (.aload_n 0, 1) := by decide +kernel
theorem dX5_init_1 : decode cX5_init 1 = .ok (.invokespecial 3, 3) := by decide +kernel
theorem dX5_init_4 : decode cX5_init 4 = .ok (.aload_n 0, 1) := by decide +kernel
theorem dX5_init_5 : decode cX5_init 5 = .ok (.sipush 4096, 3) := by decide +kernel
theorem dX5_init_8 : decode cX5_init 8 = .ok (.newarray .byte, 2) := by decide +kernel
theorem dX5_init_10 : decode cX5_init 10 = .ok (.putfield 9, 3) := by decide +kernel
theorem dX5_init_13 : decode cX5_init 13 = .ok (.return_, 1) := by decide +kernel
theorem dX5_clear_0 : decode cX5_clear 0 = .ok (.aload_n 0, 1) := by decide +kernel
theorem dX5_clear_1 : decode cX5_clear 1 = .ok (.getfield 9, 3) := by decide +kernel
theorem dX5_clear_4 : decode cX5_clear 4 = .ok (.iconst 0, 1) := by decide +kernel
theorem dX5_clear_5 : decode cX5_clear 5 = .ok (.invokestatic 15, 3) := by decide +kernel
theorem dX5_clear_8 : decode cX5_clear 8 = .ok (.return_, 1) := by decide +kernel
theorem dX5_at_0 : decode cX5_at 0 = .ok (.iload_n 1, 1) := by decide +kernel
theorem dX5_at_1 : decode cX5_at 1 = .ok (.ifCond .lt 25, 3) := by decide +kernel
theorem dX5_at_4 : decode cX5_at 4 = .ok (.iload_n 1, 1) := by decide +kernel
theorem dX5_at_5 : decode cX5_at 5 = .ok (.aload_n 0, 1) := by decide +kernel
theorem dX5_at_6 : decode cX5_at 6 = .ok (.getfield 9, 3) := by decide +kernel
theorem dX5_at_9 : decode cX5_at 9 = .ok (.arraylength, 1) := by decide +kernel
theorem dX5_at_10 : decode cX5_at 10 = .ok (.if_icmp .ge 16, 3) := by decide +kernel
theorem dX5_at_13 : decode cX5_at 13 = .ok (.aload_n 0, 1) := by decide +kernel
theorem dX5_at_14 : decode cX5_at 14 = .ok (.getfield 9, 3) := by decide +kernel
theorem dX5_at_17 : decode cX5_at 17 = .ok (.iload_n 1, 1) := by decide +kernel
theorem dX5_at_18 : decode cX5_at 18 = .ok (.baload, 1) := by decide +kernel
theorem dX5_at_19 : decode cX5_at 19 = .ok (.sipush 255, 3) := by decide +kernel
theorem dX5_at_22 : decode cX5_at 22 = .ok (.iand, 1) := by decide +kernel
theorem dX5_at_23 : decode cX5_at 23 = .ok (.goto 4, 3) := by decide +kernel
theorem dX5_at_26 : decode cX5_at 26 = .ok (.iconst 0, 1) := by decide +kernel
theorem dX5_at_27 : decode cX5_at 27 = .ok (.ireturn, 1) := by decide +kernel
theorem dX5_set_0 : decode cX5_set 0 = .ok (.iload_n 1, 1) := by decide +kernel
theorem dX5_set_1 : decode cX5_set 1 = .ok (.ifCond .lt 20, 3) := by decide +kernel
theorem dX5_set_4 : decode cX5_set 4 = .ok (.iload_n 1, 1) := by decide +kernel
theorem dX5_set_5 : decode cX5_set 5 = .ok (.aload_n 0, 1) := by decide +kernel
theorem dX5_set_6 : decode cX5_set 6 = .ok (.getfield 9, 3) := by decide +kernel
theorem dX5_set_9 : decode cX5_set 9 = .ok (.arraylength, 1) := by decide +kernel
theorem dX5_set_10 : decode cX5_set 10 = .ok (.if_icmp .ge 11, 3) := by decide +kernel
theorem dX5_set_13 : decode cX5_set 13 = .ok (.aload_n 0, 1) := by decide +kernel
theorem dX5_set_14 : decode cX5_set 14 = .ok (.getfield 9, 3) := by decide +kernel
theorem dX5_set_17 : decode cX5_set 17 = .ok (.iload_n 1, 1) := by decide +kernel
theorem dX5_set_18 : decode cX5_set 18 = .ok (.iload_n 2, 1) := by decide +kernel
theorem dX5_set_19 : decode cX5_set 19 = .ok (.i2b, 1) := by decide +kernel
theorem dX5_set_20 : decode cX5_set 20 = .ok (.bastore, 1) := by decide +kernel
theorem dX5_set_21 : decode cX5_set 21 = .ok (.return_, 1) := by decide +kernel
theorem dX5_number_0 : decode cX5_number 0 = .ok (.lconst 0, 1) := by decide +kernel
theorem dX5_number_1 : decode cX5_number 1 = .ok (.lstore_n 3, 1) := by decide +kernel
theorem dX5_number_2 : decode cX5_number 2 = .ok (.iconst 0, 1) := by decide +kernel
theorem dX5_number_3 : decode cX5_number 3 = .ok (.istore 5, 2) := by decide +kernel
theorem dX5_number_5 : decode cX5_number 5 = .ok (.iload 5, 2) := by decide +kernel
theorem dX5_number_7 : decode cX5_number 7 = .ok (.iload_n 2, 1) := by decide +kernel
theorem dX5_number_8 : decode cX5_number 8 = .ok (.if_icmp .ge 27, 3) := by decide +kernel
theorem dX5_number_11 : decode cX5_number 11 = .ok (.lload_n 3, 1) := by decide +kernel
theorem dX5_number_12 : decode cX5_number 12 = .ok (.aload_n 0, 1) := by decide +kernel
theorem dX5_number_13 : decode cX5_number 13 = .ok (.iload_n 1, 1) := by decide +kernel
theorem dX5_number_14 : decode cX5_number 14 = .ok (.iload 5, 2) := by decide +kernel
theorem dX5_number_16 : decode cX5_number 16 = .ok (.iadd, 1) := by decide +kernel
theorem dX5_number_17 : decode cX5_number 17 = .ok (.invokevirtual 21, 3) := by decide +kernel
theorem dX5_number_20 : decode cX5_number 20 = .ok (.i2l, 1) := by decide +kernel
theorem dX5_number_21 : decode cX5_number 21 = .ok (.bipush 8, 2) := by decide +kernel
theorem dX5_number_23 : decode cX5_number 23 = .ok (.iload 5, 2) := by decide +kernel
theorem dX5_number_25 : decode cX5_number 25 = .ok (.imul, 1) := by decide +kernel
theorem dX5_number_26 : decode cX5_number 26 = .ok (.lshl, 1) := by decide +kernel
theorem dX5_number_27 : decode cX5_number 27 = .ok (.lor, 1) := by decide +kernel
theorem dX5_number_28 : decode cX5_number 28 = .ok (.lstore_n 3, 1) := by decide +kernel
theorem dX5_number_29 : decode cX5_number 29 = .ok (.iinc 5 1, 3) := by decide +kernel
theorem dX5_number_32 : decode cX5_number 32 = .ok (.goto (-27), 3) := by decide +kernel
theorem dX5_number_35 : decode cX5_number 35 = .ok (.lload_n 3, 1) := by decide +kernel
theorem dX5_number_36 : decode cX5_number 36 = .ok (.lreturn, 1) := by decide +kernel
theorem dX5_setNumber_0 : decode cX5_setNumber 0 = .ok (.iconst 0, 1) := by decide +kernel
theorem dX5_setNumber_1 : decode cX5_setNumber 1 = .ok (.istore 5, 2) := by decide +kernel
theorem dX5_setNumber_3 : decode cX5_setNumber 3 = .ok (.iload 5, 2) := by decide +kernel
theorem dX5_setNumber_5 : decode cX5_setNumber 5 = .ok (.iload_n 2, 1) := by decide +kernel
theorem dX5_setNumber_6 : decode cX5_setNumber 6 = .ok (.if_icmp .ge 29, 3) := by decide +kernel
theorem dX5_setNumber_9 : decode cX5_setNumber 9 = .ok (.aload_n 0, 1) := by decide +kernel
theorem dX5_setNumber_10 : decode cX5_setNumber 10 = .ok (.iload_n 1, 1) := by decide +kernel
theorem dX5_setNumber_11 : decode cX5_setNumber 11 = .ok (.iload 5, 2) := by decide +kernel
theorem dX5_setNumber_13 : decode cX5_setNumber 13 = .ok (.iadd, 1) := by decide +kernel
theorem dX5_setNumber_14 : decode cX5_setNumber 14 = .ok (.lload_n 3, 1) := by decide +kernel
theorem dX5_setNumber_15 : decode cX5_setNumber 15 = .ok (.bipush 8, 2) := by decide +kernel
theorem dX5_setNumber_17 : decode cX5_setNumber 17 = .ok (.iload 5, 2) := by decide +kernel
theorem dX5_setNumber_19 : decode cX5_setNumber 19 = .ok (.imul, 1) := by decide +kernel
theorem dX5_setNumber_20 : decode cX5_setNumber 20 = .ok (.lushr, 1) := by decide +kernel
theorem dX5_setNumber_21 : decode cX5_setNumber 21 = .ok (.l2i, 1) := by decide +kernel
theorem dX5_setNumber_22 : decode cX5_setNumber 22 = .ok (.sipush 255, 3) := by decide +kernel
theorem dX5_setNumber_25 : decode cX5_setNumber 25 = .ok (.iand, 1) := by decide +kernel
theorem dX5_setNumber_26 : decode cX5_setNumber 26 = .ok (.invokevirtual 25, 3) := by decide +kernel
theorem dX5_setNumber_29 : decode cX5_setNumber 29 = .ok (.iinc 5 1, 3) := by decide +kernel
theorem dX5_setNumber_32 : decode cX5_setNumber 32 = .ok (.goto (-29), 3) := by decide +kernel
theorem dX5_setNumber_35 : decode cX5_setNumber 35 = .ok (.return_, 1) := by decide +kernel
theorem dX5_two_0 : decode cX5_two 0 = .ok (.aload_n 0, 1) := by decide +kernel
theorem dX5_two_1 : decode cX5_two 1 = .ok (.iload_n 1, 1) := by decide +kernel
theorem dX5_two_2 : decode cX5_two 2 = .ok (.invokevirtual 21, 3) := by decide +kernel
theorem dX5_two_5 : decode cX5_two 5 = .ok (.aload_n 0, 1) := by decide +kernel
theorem dX5_two_6 : decode cX5_two 6 = .ok (.iload_n 1, 1) := by decide +kernel
theorem dX5_two_7 : decode cX5_two 7 = .ok (.iconst 1, 1) := by decide +kernel
theorem dX5_two_8 : decode cX5_two 8 = .ok (.iadd, 1) := by decide +kernel
theorem dX5_two_9 : decode cX5_two 9 = .ok (.invokevirtual 21, 3) := by decide +kernel
theorem dX5_two_12 : decode cX5_two 12 = .ok (.bipush 8, 2) := by decide +kernel
theorem dX5_two_14 : decode cX5_two 14 = .ok (.ishl, 1) := by decide +kernel
theorem dX5_two_15 : decode cX5_two 15 = .ok (.ior, 1) := by decide +kernel
theorem dX5_two_16 : decode cX5_two 16 = .ok (.ireturn, 1) := by decide +kernel
theorem dX5_setDescriptor_0 : decode cX5_setDescriptor 0 = .ok (.aload_n 0, 1) := by decide +kernel
theorem dX5_setDescriptor_1 : decode cX5_setDescriptor 1 = .ok (.iload_n 1, 1) := by decide +kernel
theorem dX5_setDescriptor_2 : decode cX5_setDescriptor 2 = .ok (.bipush 8, 2) := by decide +kernel
theorem dX5_setDescriptor_4 : decode cX5_setDescriptor 4 = .ok (.iload_n 2, 1) := by decide +kernel
theorem dX5_setDescriptor_5 : decode cX5_setDescriptor 5 = .ok (.i2l, 1) := by decide +kernel
theorem dX5_setDescriptor_6 : decode cX5_setDescriptor 6 = .ok (.invokevirtual 29, 3) := by decide +kernel
theorem dX5_setDescriptor_9 : decode cX5_setDescriptor 9 = .ok (.aload_n 0, 1) := by decide +kernel
theorem dX5_setDescriptor_10 : decode cX5_setDescriptor 10 = .ok (.iload_n 1, 1) := by decide +kernel
theorem dX5_setDescriptor_11 : decode cX5_setDescriptor 11 = .ok (.bipush 8, 2) := by decide +kernel
theorem dX5_setDescriptor_13 : decode cX5_setDescriptor 13 = .ok (.iadd, 1) := by decide +kernel
theorem dX5_setDescriptor_14 : decode cX5_setDescriptor 14 = .ok (.iconst 4, 1) := by decide +kernel
theorem dX5_setDescriptor_15 : decode cX5_setDescriptor 15 = .ok (.iload_n 3, 1) := by decide +kernel
theorem dX5_setDescriptor_16 : decode cX5_setDescriptor 16 = .ok (.i2l, 1) := by decide +kernel
theorem dX5_setDescriptor_17 : decode cX5_setDescriptor 17 = .ok (.invokevirtual 29, 3) := by decide +kernel
theorem dX5_setDescriptor_20 : decode cX5_setDescriptor 20 = .ok (.aload_n 0, 1) := by decide +kernel
theorem dX5_setDescriptor_21 : decode cX5_setDescriptor 21 = .ok (.iload_n 1, 1) := by decide +kernel
theorem dX5_setDescriptor_22 : decode cX5_setDescriptor 22 = .ok (.bipush 12, 2) := by decide +kernel
theorem dX5_setDescriptor_24 : decode cX5_setDescriptor 24 = .ok (.iadd, 1) := by decide +kernel
theorem dX5_setDescriptor_25 : decode cX5_setDescriptor 25 = .ok (.iconst 2, 1) := by decide +kernel
theorem dX5_setDescriptor_26 : decode cX5_setDescriptor 26 = .ok (.iload 4, 2) := by decide +kernel
theorem dX5_setDescriptor_28 : decode cX5_setDescriptor 28 = .ok (.i2l, 1) := by decide +kernel
theorem dX5_setDescriptor_29 : decode cX5_setDescriptor 29 = .ok (.invokevirtual 29, 3) := by decide +kernel
theorem dX5_setDescriptor_32 : decode cX5_setDescriptor 32 = .ok (.aload_n 0, 1) := by decide +kernel
theorem dX5_setDescriptor_33 : decode cX5_setDescriptor 33 = .ok (.iload_n 1, 1) := by decide +kernel
theorem dX5_setDescriptor_34 : decode cX5_setDescriptor 34 = .ok (.bipush 14, 2) := by decide +kernel
theorem dX5_setDescriptor_36 : decode cX5_setDescriptor 36 = .ok (.iadd, 1) := by decide +kernel
theorem dX5_setDescriptor_37 : decode cX5_setDescriptor 37 = .ok (.iconst 2, 1) := by decide +kernel
theorem dX5_setDescriptor_38 : decode cX5_setDescriptor 38 = .ok (.iload 5, 2) := by decide +kernel
theorem dX5_setDescriptor_40 : decode cX5_setDescriptor 40 = .ok (.i2l, 1) := by decide +kernel
theorem dX5_setDescriptor_41 : decode cX5_setDescriptor 41 = .ok (.invokevirtual 29, 3) := by decide +kernel
theorem dX5_setDescriptor_44 : decode cX5_setDescriptor 44 = .ok (.return_, 1) := by decide +kernel
theorem dX6_init_0 : decode cX6_init 0 = .ok (.aload_n 0, 1) := by decide +kernel
theorem dX6_init_1 : decode cX6_init 1 = .ok (.invokespecial 3, 3) := by decide +kernel
theorem dX6_init_4 : decode cX6_init 4 = .ok (.aload_n 0, 1) := by decide +kernel
theorem dX6_init_5 : decode cX6_init 5 = .ok (.aload_n 1, 1) := by decide +kernel
theorem dX6_init_6 : decode cX6_init 6 = .ok (.putfield 9, 3) := by decide +kernel
theorem dX6_init_9 : decode cX6_init 9 = .ok (.return_, 1) := by decide +kernel
theorem dX6_forget_0 : decode cX6_forget 0 = .ok (.aload_n 0, 1) := by decide +kernel
theorem dX6_forget_1 : decode cX6_forget 1 = .ok (.iconst 0, 1) := by decide +kernel
theorem dX6_forget_2 : decode cX6_forget 2 = .ok (.putfield 15, 3) := by decide +kernel
theorem dX6_forget_5 : decode cX6_forget 5 = .ok (.aload_n 0, 1) := by decide +kernel
theorem dX6_forget_6 : decode cX6_forget 6 = .ok (.iconst 0, 1) := by decide +kernel
theorem dX6_forget_7 : decode cX6_forget 7 = .ok (.putfield 19, 3) := by decide +kernel
theorem dX6_forget_10 : decode cX6_forget 10 = .ok (.aload_n 0, 1) := by decide +kernel
theorem dX6_forget_11 : decode cX6_forget 11 = .ok (.iconst 0, 1) := by decide +kernel
theorem dX6_forget_12 : decode cX6_forget 12 = .ok (.putfield 23, 3) := by decide +kernel
theorem dX6_forget_15 : decode cX6_forget 15 = .ok (.aload_n 0, 1) := by decide +kernel
theorem dX6_forget_16 : decode cX6_forget 16 = .ok (.iconst 0, 1) := by decide +kernel
theorem dX6_forget_17 : decode cX6_forget 17 = .ok (.putfield 26, 3) := by decide +kernel
theorem dX6_forget_20 : decode cX6_forget 20 = .ok (.aload_n 0, 1) := by decide +kernel
theorem dX6_forget_21 : decode cX6_forget 21 = .ok (.iconst 0, 1) := by decide +kernel
theorem dX6_forget_22 : decode cX6_forget 22 = .ok (.putfield 29, 3) := by decide +kernel
theorem dX6_forget_25 : decode cX6_forget 25 = .ok (.return_, 1) := by decide +kernel
theorem dX6_lay_0 : decode cX6_lay 0 = .ok (.aload_n 0, 1) := by decide +kernel
theorem dX6_lay_1 : decode cX6_lay 1 = .ok (.iconst 1, 1) := by decide +kernel
theorem dX6_lay_2 : decode cX6_lay 2 = .ok (.putfield 15, 3) := by decide +kernel
theorem dX6_lay_5 : decode cX6_lay 5 = .ok (.aload_n 0, 1) := by decide +kernel
theorem dX6_lay_6 : decode cX6_lay 6 = .ok (.iload_n 1, 1) := by decide +kernel
theorem dX6_lay_7 : decode cX6_lay 7 = .ok (.putfield 19, 3) := by decide +kernel
theorem dX6_lay_10 : decode cX6_lay 10 = .ok (.aload_n 0, 1) := by decide +kernel
theorem dX6_lay_11 : decode cX6_lay 11 = .ok (.iload_n 2, 1) := by decide +kernel
theorem dX6_lay_12 : decode cX6_lay 12 = .ok (.putfield 32, 3) := by decide +kernel
theorem dX6_lay_15 : decode cX6_lay 15 = .ok (.aload_n 0, 1) := by decide +kernel
theorem dX6_lay_16 : decode cX6_lay 16 = .ok (.iload_n 3, 1) := by decide +kernel
theorem dX6_lay_17 : decode cX6_lay 17 = .ok (.putfield 35, 3) := by decide +kernel
theorem dX6_lay_20 : decode cX6_lay 20 = .ok (.aload_n 0, 1) := by decide +kernel
theorem dX6_lay_21 : decode cX6_lay 21 = .ok (.iload 4, 2) := by decide +kernel
theorem dX6_lay_23 : decode cX6_lay 23 = .ok (.putfield 38, 3) := by decide +kernel
theorem dX6_lay_26 : decode cX6_lay 26 = .ok (.return_, 1) := by decide +kernel
theorem dX6_waiting_0 : decode cX6_waiting 0 = .ok (.aload_n 0, 1) := by decide +kernel
theorem dX6_waiting_1 : decode cX6_waiting 1 = .ok (.getfield 15, 3) := by decide +kernel
theorem dX6_waiting_4 : decode cX6_waiting 4 = .ok (.ifCond .eq 27, 3) := by decide +kernel
theorem dX6_waiting_7 : decode cX6_waiting 7 = .ok (.aload_n 0, 1) := by decide +kernel
theorem dX6_waiting_8 : decode cX6_waiting 8 = .ok (.getfield 9, 3) := by decide +kernel
theorem dX6_waiting_11 : decode cX6_waiting 11 = .ok (.aload_n 0, 1) := by decide +kernel
theorem dX6_waiting_12 : decode cX6_waiting 12 = .ok (.getfield 35, 3) := by decide +kernel
theorem dX6_waiting_15 : decode cX6_waiting 15 = .ok (.iconst 2, 1) := by decide +kernel
theorem dX6_waiting_16 : decode cX6_waiting 16 = .ok (.iadd, 1) := by decide +kernel
theorem dX6_waiting_17 : decode cX6_waiting 17 = .ok (.invokevirtual 41, 3) := by decide +kernel
theorem dX6_waiting_20 : decode cX6_waiting 20 = .ok (.aload_n 0, 1) := by decide +kernel
theorem dX6_waiting_21 : decode cX6_waiting 21 = .ok (.getfield 23, 3) := by decide +kernel
theorem dX6_waiting_24 : decode cX6_waiting 24 = .ok (.isub, 1) := by decide +kernel
theorem dX6_waiting_25 : decode cX6_waiting 25 = .ok (.ldc 47, 2) := by decide +kernel
theorem dX6_waiting_27 : decode cX6_waiting 27 = .ok (.iand, 1) := by decide +kernel
theorem dX6_waiting_28 : decode cX6_waiting 28 = .ok (.goto 4, 3) := by decide +kernel
theorem dX6_waiting_31 : decode cX6_waiting 31 = .ok (.iconst 0, 1) := by decide +kernel
theorem dX6_waiting_32 : decode cX6_waiting 32 = .ok (.ireturn, 1) := by decide +kernel
theorem dX6_nextHead_0 : decode cX6_nextHead 0 = .ok (.aload_n 0, 1) := by decide +kernel
theorem dX6_nextHead_1 : decode cX6_nextHead 1 = .ok (.getfield 9, 3) := by decide +kernel
theorem dX6_nextHead_4 : decode cX6_nextHead 4 = .ok (.aload_n 0, 1) := by decide +kernel
theorem dX6_nextHead_5 : decode cX6_nextHead 5 = .ok (.getfield 35, 3) := by decide +kernel
theorem dX6_nextHead_8 : decode cX6_nextHead 8 = .ok (.iconst 4, 1) := by decide +kernel
theorem dX6_nextHead_9 : decode cX6_nextHead 9 = .ok (.iadd, 1) := by decide +kernel
theorem dX6_nextHead_10 : decode cX6_nextHead 10 = .ok (.iconst 2, 1) := by decide +kernel
theorem dX6_nextHead_11 : decode cX6_nextHead 11 = .ok (.aload_n 0, 1) := by decide +kernel
theorem dX6_nextHead_12 : decode cX6_nextHead 12 = .ok (.aload_n 0, 1) := by decide +kernel
theorem dX6_nextHead_13 : decode cX6_nextHead 13 = .ok (.getfield 23, 3) := by decide +kernel
theorem dX6_nextHead_16 : decode cX6_nextHead 16 = .ok (.invokevirtual 48, 3) := by decide +kernel
theorem dX6_nextHead_19 : decode cX6_nextHead 19 = .ok (.imul, 1) := by decide +kernel
theorem dX6_nextHead_20 : decode cX6_nextHead 20 = .ok (.iadd, 1) := by decide +kernel
theorem dX6_nextHead_21 : decode cX6_nextHead 21 = .ok (.invokevirtual 41, 3) := by decide +kernel
theorem dX6_nextHead_24 : decode cX6_nextHead 24 = .ok (.ireturn, 1) := by decide +kernel
theorem dX6_giveBack_0 : decode cX6_giveBack 0 = .ok (.aload_n 0, 1) := by decide +kernel
theorem dX6_giveBack_1 : decode cX6_giveBack 1 = .ok (.getfield 38, 3) := by decide +kernel
theorem dX6_giveBack_4 : decode cX6_giveBack 4 = .ok (.iconst 4, 1) := by decide +kernel
theorem dX6_giveBack_5 : decode cX6_giveBack 5 = .ok (.iadd, 1) := by decide +kernel
theorem dX6_giveBack_6 : decode cX6_giveBack 6 = .ok (.bipush 8, 2) := by decide +kernel
theorem dX6_giveBack_8 : decode cX6_giveBack 8 = .ok (.aload_n 0, 1) := by decide +kernel
theorem dX6_giveBack_9 : decode cX6_giveBack 9 = .ok (.aload_n 0, 1) := by decide +kernel
theorem dX6_giveBack_10 : decode cX6_giveBack 10 = .ok (.getfield 26, 3) := by decide +kernel
theorem dX6_giveBack_13 : decode cX6_giveBack 13 = .ok (.invokevirtual 48, 3) := by decide +kernel
theorem dX6_giveBack_16 : decode cX6_giveBack 16 = .ok (.imul, 1) := by decide +kernel
theorem dX6_giveBack_17 : decode cX6_giveBack 17 = .ok (.iadd, 1) := by decide +kernel
theorem dX6_giveBack_18 : decode cX6_giveBack 18 = .ok (.istore_n 3, 1) := by decide +kernel
theorem dX6_giveBack_19 : decode cX6_giveBack 19 = .ok (.aload_n 0, 1) := by decide +kernel
theorem dX6_giveBack_20 : decode cX6_giveBack 20 = .ok (.getfield 9, 3) := by decide +kernel
theorem dX6_giveBack_23 : decode cX6_giveBack 23 = .ok (.iload_n 3, 1) := by decide +kernel
theorem dX6_giveBack_24 : decode cX6_giveBack 24 = .ok (.iconst 4, 1) := by decide +kernel
theorem dX6_giveBack_25 : decode cX6_giveBack 25 = .ok (.iload_n 1, 1) := by decide +kernel
theorem dX6_giveBack_26 : decode cX6_giveBack 26 = .ok (.i2l, 1) := by decide +kernel
theorem dX6_giveBack_27 : decode cX6_giveBack 27 = .ok (.invokevirtual 51, 3) := by decide +kernel
theorem dX6_giveBack_30 : decode cX6_giveBack 30 = .ok (.aload_n 0, 1) := by decide +kernel
theorem dX6_giveBack_31 : decode cX6_giveBack 31 = .ok (.getfield 9, 3) := by decide +kernel
theorem dX6_giveBack_34 : decode cX6_giveBack 34 = .ok (.iload_n 3, 1) := by decide +kernel
theorem dX6_giveBack_35 : decode cX6_giveBack 35 = .ok (.iconst 4, 1) := by decide +kernel
theorem dX6_giveBack_36 : decode cX6_giveBack 36 = .ok (.iadd, 1) := by decide +kernel
theorem dX6_giveBack_37 : decode cX6_giveBack 37 = .ok (.iconst 4, 1) := by decide +kernel
theorem dX6_giveBack_38 : decode cX6_giveBack 38 = .ok (.iload_n 2, 1) := by decide +kernel
theorem dX6_giveBack_39 : decode cX6_giveBack 39 = .ok (.i2l, 1) := by decide +kernel
theorem dX6_giveBack_40 : decode cX6_giveBack 40 = .ok (.invokevirtual 51, 3) := by decide +kernel
theorem dX6_giveBack_43 : decode cX6_giveBack 43 = .ok (.aload_n 0, 1) := by decide +kernel
theorem dX6_giveBack_44 : decode cX6_giveBack 44 = .ok (.aload_n 0, 1) := by decide +kernel
theorem dX6_giveBack_45 : decode cX6_giveBack 45 = .ok (.getfield 26, 3) := by decide +kernel
theorem dX6_giveBack_48 : decode cX6_giveBack 48 = .ok (.invokestatic 55, 3) := by decide +kernel
theorem dX6_giveBack_51 : decode cX6_giveBack 51 = .ok (.putfield 26, 3) := by decide +kernel
theorem dX6_giveBack_54 : decode cX6_giveBack 54 = .ok (.aload_n 0, 1) := by decide +kernel
theorem dX6_giveBack_55 : decode cX6_giveBack 55 = .ok (.getfield 9, 3) := by decide +kernel
theorem dX6_giveBack_58 : decode cX6_giveBack 58 = .ok (.aload_n 0, 1) := by decide +kernel
theorem dX6_giveBack_59 : decode cX6_giveBack 59 = .ok (.getfield 38, 3) := by decide +kernel
theorem dX6_giveBack_62 : decode cX6_giveBack 62 = .ok (.iconst 2, 1) := by decide +kernel
theorem dX6_giveBack_63 : decode cX6_giveBack 63 = .ok (.iadd, 1) := by decide +kernel
theorem dX6_giveBack_64 : decode cX6_giveBack 64 = .ok (.iconst 2, 1) := by decide +kernel
theorem dX6_giveBack_65 : decode cX6_giveBack 65 = .ok (.aload_n 0, 1) := by decide +kernel
theorem dX6_giveBack_66 : decode cX6_giveBack 66 = .ok (.getfield 26, 3) := by decide +kernel
theorem dX6_giveBack_69 : decode cX6_giveBack 69 = .ok (.i2l, 1) := by decide +kernel
theorem dX6_giveBack_70 : decode cX6_giveBack 70 = .ok (.invokevirtual 51, 3) := by decide +kernel
theorem dX6_giveBack_73 : decode cX6_giveBack 73 = .ok (.aload_n 0, 1) := by decide +kernel
theorem dX6_giveBack_74 : decode cX6_giveBack 74 = .ok (.getfield 9, 3) := by decide +kernel
theorem dX6_giveBack_77 : decode cX6_giveBack 77 = .ok (.aload_n 0, 1) := by decide +kernel
theorem dX6_giveBack_78 : decode cX6_giveBack 78 = .ok (.getfield 35, 3) := by decide +kernel
theorem dX6_giveBack_81 : decode cX6_giveBack 81 = .ok (.invokevirtual 41, 3) := by decide +kernel
theorem dX6_giveBack_84 : decode cX6_giveBack 84 = .ok (.iconst 1, 1) := by decide +kernel
theorem dX6_giveBack_85 : decode cX6_giveBack 85 = .ok (.iand, 1) := by decide +kernel
theorem dX6_giveBack_86 : decode cX6_giveBack 86 = .ok (.ifCond .ne 13, 3) := by decide +kernel
theorem dX6_giveBack_89 : decode cX6_giveBack 89 = .ok (.aload_n 0, 1) := by decide +kernel
theorem dX6_giveBack_90 : decode cX6_giveBack 90 = .ok (.dup, 1) := by decide +kernel
theorem dX6_giveBack_91 : decode cX6_giveBack 91 = .ok (.getfield 29, 3) := by decide +kernel
theorem dX6_giveBack_94 : decode cX6_giveBack 94 = .ok (.iconst 1, 1) := by decide +kernel
theorem dX6_giveBack_95 : decode cX6_giveBack 95 = .ok (.iadd, 1) := by decide +kernel
theorem dX6_giveBack_96 : decode cX6_giveBack 96 = .ok (.putfield 29, 3) := by decide +kernel
theorem dX6_giveBack_99 : decode cX6_giveBack 99 = .ok (.return_, 1) := by decide +kernel
theorem dX6_placeOf_0 : decode cX6_placeOf 0 = .ok (.aload_n 0, 1) := by decide +kernel
theorem dX6_placeOf_1 : decode cX6_placeOf 1 = .ok (.getfield 19, 3) := by decide +kernel
theorem dX6_placeOf_4 : decode cX6_placeOf 4 = .ok (.ifCond .le 12, 3) := by decide +kernel
theorem dX6_placeOf_7 : decode cX6_placeOf 7 = .ok (.iload_n 1, 1) := by decide +kernel
theorem dX6_placeOf_8 : decode cX6_placeOf 8 = .ok (.aload_n 0, 1) := by decide +kernel
theorem dX6_placeOf_9 : decode cX6_placeOf 9 = .ok (.getfield 19, 3) := by decide +kernel
theorem dX6_placeOf_12 : decode cX6_placeOf 12 = .ok (.irem, 1) := by decide +kernel
theorem dX6_placeOf_13 : decode cX6_placeOf 13 = .ok (.goto 4, 3) := by decide +kernel
theorem dX6_placeOf_16 : decode cX6_placeOf 16 = .ok (.iconst 0, 1) := by decide +kernel
theorem dX6_placeOf_17 : decode cX6_placeOf 17 = .ok (.ireturn, 1) := by decide +kernel
theorem dX7_init_0 : decode cX7_init 0 = .ok (.aload_n 0, 1) := by decide +kernel
theorem dX7_init_1 : decode cX7_init 1 = .ok (.invokespecial 3, 3) := by decide +kernel
theorem dX7_init_4 : decode cX7_init 4 = .ok (.aload_n 0, 1) := by decide +kernel
theorem dX7_init_5 : decode cX7_init 5 = .ok (.sipush 1280, 3) := by decide +kernel
theorem dX7_init_8 : decode cX7_init 8 = .ok (.newarray .byte, 2) := by decide +kernel
theorem dX7_init_10 : decode cX7_init 10 = .ok (.putfield 9, 3) := by decide +kernel
theorem dX7_init_13 : decode cX7_init 13 = .ok (.aload_n 0, 1) := by decide +kernel
theorem dX7_init_14 : decode cX7_init 14 = .ok (.bipush 16, 2) := by decide +kernel
theorem dX7_init_16 : decode cX7_init 16 = .ok (.newarray .int, 2) := by decide +kernel
theorem dX7_init_18 : decode cX7_init 18 = .ok (.putfield 15, 3) := by decide +kernel
theorem dX7_init_21 : decode cX7_init 21 = .ok (.return_, 1) := by decide +kernel
theorem dX7_carry_0 : decode cX7_carry 0 = .ok (.aload_n 1, 1) := by decide +kernel
theorem dX7_carry_1 : decode cX7_carry 1 = .ok (.getfield 19, 3) := by decide +kernel
theorem dX7_carry_4 : decode cX7_carry 4 = .ok (.bipush 12, 2) := by decide +kernel
theorem dX7_carry_6 : decode cX7_carry 6 = .ok (.isub, 1) := by decide +kernel
theorem dX7_carry_7 : decode cX7_carry 7 = .ok (.istore_n 2, 1) := by decide +kernel
theorem dX7_carry_8 : decode cX7_carry 8 = .ok (.iload_n 2, 1) := by decide +kernel
theorem dX7_carry_9 : decode cX7_carry 9 = .ok (.invokestatic 25, 3) := by decide +kernel
theorem dX7_carry_12 : decode cX7_carry 12 = .ok (.ifCond .ne 4, 3) := by decide +kernel
theorem dX7_carry_15 : decode cX7_carry 15 = .ok (.return_, 1) := by decide +kernel
theorem dX7_carry_16 : decode cX7_carry 16 = .ok (.aload_n 0, 1) := by decide +kernel
theorem dX7_carry_17 : decode cX7_carry 17 = .ok (.aload_n 0, 1) := by decide +kernel
theorem dX7_carry_18 : decode cX7_carry 18 = .ok (.getfield 29, 3) := by decide +kernel
theorem dX7_carry_21 : decode cX7_carry 21 = .ok (.iconst 1, 1) := by decide +kernel
theorem dX7_carry_22 : decode cX7_carry 22 = .ok (.iadd, 1) := by decide +kernel
theorem dX7_carry_23 : decode cX7_carry 23 = .ok (.bipush 15, 2) := by decide +kernel
theorem dX7_carry_25 : decode cX7_carry 25 = .ok (.iand, 1) := by decide +kernel
theorem dX7_carry_26 : decode cX7_carry 26 = .ok (.putfield 29, 3) := by decide +kernel
theorem dX7_carry_29 : decode cX7_carry 29 = .ok (.aload_n 0, 1) := by decide +kernel
theorem dX7_carry_30 : decode cX7_carry 30 = .ok (.getfield 15, 3) := by decide +kernel
theorem dX7_carry_33 : decode cX7_carry 33 = .ok (.aload_n 0, 1) := by decide +kernel
theorem dX7_carry_34 : decode cX7_carry 34 = .ok (.getfield 29, 3) := by decide +kernel
theorem dX7_carry_37 : decode cX7_carry 37 = .ok (.iload_n 2, 1) := by decide +kernel
theorem dX7_carry_38 : decode cX7_carry 38 = .ok (.iastore, 1) := by decide +kernel
theorem dX7_carry_39 : decode cX7_carry 39 = .ok (.aload_n 0, 1) := by decide +kernel
theorem dX7_carry_40 : decode cX7_carry 40 = .ok (.dup, 1) := by decide +kernel
theorem dX7_carry_41 : decode cX7_carry 41 = .ok (.getfield 32, 3) := by decide +kernel
theorem dX7_carry_44 : decode cX7_carry 44 = .ok (.iconst 1, 1) := by decide +kernel
theorem dX7_carry_45 : decode cX7_carry 45 = .ok (.iadd, 1) := by decide +kernel
theorem dX7_carry_46 : decode cX7_carry 46 = .ok (.putfield 32, 3) := by decide +kernel
theorem dX7_carry_49 : decode cX7_carry 49 = .ok (.aload_n 1, 1) := by decide +kernel
theorem dX7_carry_50 : decode cX7_carry 50 = .ok (.invokevirtual 35, 3) := by decide +kernel
theorem dX7_carry_53 : decode cX7_carry 53 = .ok (.aload_n 1, 1) := by decide +kernel
theorem dX7_carry_54 : decode cX7_carry 54 = .ok (.bipush 12, 2) := by decide +kernel
theorem dX7_carry_56 : decode cX7_carry 56 = .ok (.invokevirtual 38, 3) := by decide +kernel
theorem dX7_carry_59 : decode cX7_carry 59 = .ok (.iconst 0, 1) := by decide +kernel
theorem dX7_carry_60 : decode cX7_carry 60 = .ok (.istore_n 3, 1) := by decide +kernel
theorem dX7_carry_61 : decode cX7_carry 61 = .ok (.iload_n 3, 1) := by decide +kernel
theorem dX7_carry_62 : decode cX7_carry 62 = .ok (.iload_n 2, 1) := by decide +kernel
theorem dX7_carry_63 : decode cX7_carry 63 = .ok (.if_icmp .ge 28, 3) := by decide +kernel
theorem dX7_carry_66 : decode cX7_carry 66 = .ok (.aload_n 0, 1) := by decide +kernel
theorem dX7_carry_67 : decode cX7_carry 67 = .ok (.getfield 9, 3) := by decide +kernel
theorem dX7_carry_70 : decode cX7_carry 70 = .ok (.aload_n 0, 1) := by decide +kernel
theorem dX7_carry_71 : decode cX7_carry 71 = .ok (.getfield 29, 3) := by decide +kernel
theorem dX7_carry_74 : decode cX7_carry 74 = .ok (.bipush 80, 2) := by decide +kernel
theorem dX7_carry_76 : decode cX7_carry 76 = .ok (.imul, 1) := by decide +kernel
theorem dX7_carry_77 : decode cX7_carry 77 = .ok (.iload_n 3, 1) := by decide +kernel
theorem dX7_carry_78 : decode cX7_carry 78 = .ok (.iadd, 1) := by decide +kernel
theorem dX7_carry_79 : decode cX7_carry 79 = .ok (.aload_n 1, 1) := by decide +kernel
theorem dX7_carry_80 : decode cX7_carry 80 = .ok (.invokevirtual 42, 3) := by decide +kernel
theorem dX7_carry_83 : decode cX7_carry 83 = .ok (.i2b, 1) := by decide +kernel
theorem dX7_carry_84 : decode cX7_carry 84 = .ok (.bastore, 1) := by decide +kernel
theorem dX7_carry_85 : decode cX7_carry 85 = .ok (.iinc 3 1, 3) := by decide +kernel
theorem dX7_carry_88 : decode cX7_carry 88 = .ok (.goto (-27), 3) := by decide +kernel
theorem dX7_carry_91 : decode cX7_carry 91 = .ok (.return_, 1) := by decide +kernel
theorem dX7_byteOf_0 : decode cX7_byteOf 0 = .ok (.iload_n 1, 1) := by decide +kernel
theorem dX7_byteOf_1 : decode cX7_byteOf 1 = .ok (.ifCond .lt 9, 3) := by decide +kernel
theorem dX7_byteOf_4 : decode cX7_byteOf 4 = .ok (.iload_n 1, 1) := by decide +kernel
theorem dX7_byteOf_5 : decode cX7_byteOf 5 = .ok (.bipush 16, 2) := by decide +kernel
theorem dX7_byteOf_7 : decode cX7_byteOf 7 = .ok (.if_icmp .lt 5, 3) := by decide +kernel
theorem dX7_byteOf_10 : decode cX7_byteOf 10 = .ok (.iconst (-1), 1) := by decide +kernel
theorem dX7_byteOf_11 : decode cX7_byteOf 11 = .ok (.ireturn, 1) := by decide +kernel
theorem dX7_byteOf_12 : decode cX7_byteOf 12 = .ok (.aload_n 0, 1) := by decide +kernel
theorem dX7_byteOf_13 : decode cX7_byteOf 13 = .ok (.getfield 29, 3) := by decide +kernel
theorem dX7_byteOf_16 : decode cX7_byteOf 16 = .ok (.iload_n 1, 1) := by decide +kernel
theorem dX7_byteOf_17 : decode cX7_byteOf 17 = .ok (.isub, 1) := by decide +kernel
theorem dX7_byteOf_18 : decode cX7_byteOf 18 = .ok (.bipush 15, 2) := by decide +kernel
theorem dX7_byteOf_20 : decode cX7_byteOf 20 = .ok (.iand, 1) := by decide +kernel
theorem dX7_byteOf_21 : decode cX7_byteOf 21 = .ok (.istore_n 3, 1) := by decide +kernel
theorem dX7_byteOf_22 : decode cX7_byteOf 22 = .ok (.iload_n 2, 1) := by decide +kernel
theorem dX7_byteOf_23 : decode cX7_byteOf 23 = .ok (.ifCond .lt 31, 3) := by decide +kernel
theorem dX7_byteOf_26 : decode cX7_byteOf 26 = .ok (.iload_n 2, 1) := by decide +kernel
theorem dX7_byteOf_27 : decode cX7_byteOf 27 = .ok (.aload_n 0, 1) := by decide +kernel
theorem dX7_byteOf_28 : decode cX7_byteOf 28 = .ok (.getfield 15, 3) := by decide +kernel
theorem dX7_byteOf_31 : decode cX7_byteOf 31 = .ok (.iload_n 3, 1) := by decide +kernel
theorem dX7_byteOf_32 : decode cX7_byteOf 32 = .ok (.iaload, 1) := by decide +kernel
theorem dX7_byteOf_33 : decode cX7_byteOf 33 = .ok (.if_icmp .ge 21, 3) := by decide +kernel
theorem dX7_byteOf_36 : decode cX7_byteOf 36 = .ok (.aload_n 0, 1) := by decide +kernel
theorem dX7_byteOf_37 : decode cX7_byteOf 37 = .ok (.getfield 9, 3) := by decide +kernel
theorem dX7_byteOf_40 : decode cX7_byteOf 40 = .ok (.iload_n 3, 1) := by decide +kernel
theorem dX7_byteOf_41 : decode cX7_byteOf 41 = .ok (.bipush 80, 2) := by decide +kernel
theorem dX7_byteOf_43 : decode cX7_byteOf 43 = .ok (.imul, 1) := by decide +kernel
theorem dX7_byteOf_44 : decode cX7_byteOf 44 = .ok (.iload_n 2, 1) := by decide +kernel
theorem dX7_byteOf_45 : decode cX7_byteOf 45 = .ok (.iadd, 1) := by decide +kernel
theorem dX7_byteOf_46 : decode cX7_byteOf 46 = .ok (.baload, 1) := by decide +kernel
theorem dX7_byteOf_47 : decode cX7_byteOf 47 = .ok (.sipush 255, 3) := by decide +kernel
theorem dX7_byteOf_50 : decode cX7_byteOf 50 = .ok (.iand, 1) := by decide +kernel
theorem dX7_byteOf_51 : decode cX7_byteOf 51 = .ok (.goto 4, 3) := by decide +kernel
theorem dX7_byteOf_54 : decode cX7_byteOf 54 = .ok (.iconst (-1), 1) := by decide +kernel
theorem dX7_byteOf_55 : decode cX7_byteOf 55 = .ok (.ireturn, 1) := by decide +kernel
theorem dX8_init_0 : decode cX8_init 0 = .ok (.aload_n 0, 1) := by decide +kernel
theorem dX8_init_1 : decode cX8_init 1 = .ok (.invokespecial 1, 3) := by decide +kernel
theorem dX8_init_4 : decode cX8_init 4 = .ok (.new 7, 3) := by decide +kernel
theorem dX8_init_7 : decode cX8_init 7 = .ok (.dup, 1) := by decide +kernel
theorem dX8_init_8 : decode cX8_init 8 = .ok (.invokespecial 9, 3) := by decide +kernel
theorem dX8_init_11 : decode cX8_init 11 = .ok (.astore_n 1, 1) := by decide +kernel
theorem dX8_init_12 : decode cX8_init 12 = .ok (.aload_n 0, 1) := by decide +kernel
theorem dX8_init_13 : decode cX8_init 13 = .ok (.aload_n 1, 1) := by decide +kernel
theorem dX8_init_14 : decode cX8_init 14 = .ok (.putfield 10, 3) := by decide +kernel
theorem dX8_init_17 : decode cX8_init 17 = .ok (.aload_n 0, 1) := by decide +kernel
theorem dX8_init_18 : decode cX8_init 18 = .ok (.new 16, 3) := by decide +kernel
theorem dX8_init_21 : decode cX8_init 21 = .ok (.dup, 1) := by decide +kernel
theorem dX8_init_22 : decode cX8_init 22 = .ok (.aload_n 1, 1) := by decide +kernel
theorem dX8_init_23 : decode cX8_init 23 = .ok (.invokespecial 18, 3) := by decide +kernel
theorem dX8_init_26 : decode cX8_init 26 = .ok (.putfield 21, 3) := by decide +kernel
theorem dX8_init_29 : decode cX8_init 29 = .ok (.aload_n 0, 1) := by decide +kernel
theorem dX8_init_30 : decode cX8_init 30 = .ok (.new 25, 3) := by decide +kernel
theorem dX8_init_33 : decode cX8_init 33 = .ok (.dup, 1) := by decide +kernel
theorem dX8_init_34 : decode cX8_init 34 = .ok (.aload_n 1, 1) := by decide +kernel
theorem dX8_init_35 : decode cX8_init 35 = .ok (.invokespecial 27, 3) := by decide +kernel
theorem dX8_init_38 : decode cX8_init 38 = .ok (.putfield 28, 3) := by decide +kernel
theorem dX8_init_41 : decode cX8_init 41 = .ok (.return_, 1) := by decide +kernel
theorem dX8_start_0 : decode cX8_start 0 = .ok (.aload_n 0, 1) := by decide +kernel
theorem dX8_start_1 : decode cX8_start 1 = .ok (.getfield 10, 3) := by decide +kernel
theorem dX8_start_4 : decode cX8_start 4 = .ok (.invokevirtual 32, 3) := by decide +kernel
theorem dX8_start_7 : decode cX8_start 7 = .ok (.aload_n 0, 1) := by decide +kernel
theorem dX8_start_8 : decode cX8_start 8 = .ok (.getfield 21, 3) := by decide +kernel
theorem dX8_start_11 : decode cX8_start 11 = .ok (.iload_n 1, 1) := by decide +kernel
theorem dX8_start_12 : decode cX8_start 12 = .ok (.invokevirtual 35, 3) := by decide +kernel
theorem dX8_start_15 : decode cX8_start 15 = .ok (.iconst 0, 1) := by decide +kernel
theorem dX8_start_16 : decode cX8_start 16 = .ok (.istore_n 2, 1) := by decide +kernel
theorem dX8_start_17 : decode cX8_start 17 = .ok (.iload_n 2, 1) := by decide +kernel
theorem dX8_start_18 : decode cX8_start 18 = .ok (.iconst 3, 1) := by decide +kernel
theorem dX8_start_19 : decode cX8_start 19 = .ok (.if_icmp .ge 34, 3) := by decide +kernel
theorem dX8_start_22 : decode cX8_start 22 = .ok (.aload_n 0, 1) := by decide +kernel
theorem dX8_start_23 : decode cX8_start 23 = .ok (.getfield 21, 3) := by decide +kernel
theorem dX8_start_26 : decode cX8_start 26 = .ok (.iload_n 2, 1) := by decide +kernel
theorem dX8_start_27 : decode cX8_start 27 = .ok (.invokevirtual 39, 3) := by decide +kernel
theorem dX8_start_30 : decode cX8_start 30 = .ok (.bipush 8, 2) := by decide +kernel
theorem dX8_start_32 : decode cX8_start 32 = .ok (.iload_n 2, 1) := by decide +kernel
theorem dX8_start_33 : decode cX8_start 33 = .ok (.invokestatic 43, 3) := by decide +kernel
theorem dX8_start_36 : decode cX8_start 36 = .ok (.iload_n 2, 1) := by decide +kernel
theorem dX8_start_37 : decode cX8_start 37 = .ok (.invokestatic 47, 3) := by decide +kernel
theorem dX8_start_40 : decode cX8_start 40 = .ok (.iload_n 2, 1) := by decide +kernel
theorem dX8_start_41 : decode cX8_start 41 = .ok (.invokestatic 50, 3) := by decide +kernel
theorem dX8_start_44 : decode cX8_start 44 = .ok (.invokevirtual 53, 3) := by decide +kernel
theorem dX8_start_47 : decode cX8_start 47 = .ok (.iinc 2 1, 3) := by decide +kernel
theorem dX8_start_50 : decode cX8_start 50 = .ok (.goto (-33), 3) := by decide +kernel
theorem dX8_start_53 : decode cX8_start 53 = .ok (.aload_n 0, 1) := by decide +kernel
theorem dX8_start_54 : decode cX8_start 54 = .ok (.getfield 21, 3) := by decide +kernel
theorem dX8_start_57 : decode cX8_start 57 = .ok (.iconst 1, 1) := by decide +kernel
theorem dX8_start_58 : decode cX8_start 58 = .ok (.putfield 59, 3) := by decide +kernel
theorem dX8_start_61 : decode cX8_start 61 = .ok (.aload_n 0, 1) := by decide +kernel
theorem dX8_start_62 : decode cX8_start 62 = .ok (.getfield 28, 3) := by decide +kernel
theorem dX8_start_65 : decode cX8_start 65 = .ok (.iload_n 1, 1) := by decide +kernel
theorem dX8_start_66 : decode cX8_start 66 = .ok (.invokevirtual 63, 3) := by decide +kernel
theorem dX8_start_69 : decode cX8_start 69 = .ok (.iconst 0, 1) := by decide +kernel
theorem dX8_start_70 : decode cX8_start 70 = .ok (.ireturn, 1) := by decide +kernel
theorem dX8_reset_0 : decode cX8_reset 0 = .ok (.aload_n 0, 1) := by decide +kernel
theorem dX8_reset_1 : decode cX8_reset 1 = .ok (.getfield 21, 3) := by decide +kernel
theorem dX8_reset_4 : decode cX8_reset 4 = .ok (.iload_n 1, 1) := by decide +kernel
theorem dX8_reset_5 : decode cX8_reset 5 = .ok (.invokevirtual 35, 3) := by decide +kernel
theorem dX8_reset_8 : decode cX8_reset 8 = .ok (.aload_n 0, 1) := by decide +kernel
theorem dX8_reset_9 : decode cX8_reset 9 = .ok (.getfield 28, 3) := by decide +kernel
theorem dX8_reset_12 : decode cX8_reset 12 = .ok (.invokevirtual 66, 3) := by decide +kernel
theorem dX8_reset_15 : decode cX8_reset 15 = .ok (.iconst 0, 1) := by decide +kernel
theorem dX8_reset_16 : decode cX8_reset 16 = .ok (.ireturn, 1) := by decide +kernel
theorem dX8_queue_0 : decode cX8_queue 0 = .ok (.iload_n 1, 1) := by decide +kernel
theorem dX8_queue_1 : decode cX8_queue 1 = .ok (.invokestatic 69, 3) := by decide +kernel
theorem dX8_queue_4 : decode cX8_queue 4 = .ok (.ifCond .eq 34, 3) := by decide +kernel
theorem dX8_queue_7 : decode cX8_queue 7 = .ok (.aload_n 0, 1) := by decide +kernel
theorem dX8_queue_8 : decode cX8_queue 8 = .ok (.getfield 21, 3) := by decide +kernel
theorem dX8_queue_11 : decode cX8_queue 11 = .ok (.getfield 59, 3) := by decide +kernel
theorem dX8_queue_14 : decode cX8_queue 14 = .ok (.ifCond .ne 24, 3) := by decide +kernel
theorem dX8_queue_17 : decode cX8_queue 17 = .ok (.aload_n 0, 1) := by decide +kernel
theorem dX8_queue_18 : decode cX8_queue 18 = .ok (.getfield 21, 3) := by decide +kernel
theorem dX8_queue_21 : decode cX8_queue 21 = .ok (.iload_n 1, 1) := by decide +kernel
theorem dX8_queue_22 : decode cX8_queue 22 = .ok (.invokevirtual 39, 3) := by decide +kernel
theorem dX8_queue_25 : decode cX8_queue 25 = .ok (.getfield 73, 3) := by decide +kernel
theorem dX8_queue_28 : decode cX8_queue 28 = .ok (.ifCond .ne 10, 3) := by decide +kernel
theorem dX8_queue_31 : decode cX8_queue 31 = .ok (.iload_n 2, 1) := by decide +kernel
theorem dX8_queue_32 : decode cX8_queue 32 = .ok (.invokestatic 77, 3) := by decide +kernel
theorem dX8_queue_35 : decode cX8_queue 35 = .ok (.ifCond .ne 6, 3) := by decide +kernel
theorem dX8_queue_38 : decode cX8_queue 38 = .ok (.bipush (-2), 2) := by decide +kernel
theorem dX8_queue_40 : decode cX8_queue 40 = .ok (.ireturn, 1) := by decide +kernel
theorem dX8_queue_41 : decode cX8_queue 41 = .ok (.iload_n 3, 1) := by decide +kernel
theorem dX8_queue_42 : decode cX8_queue 42 = .ok (.bipush 16, 2) := by decide +kernel
theorem dX8_queue_44 : decode cX8_queue 44 = .ok (.bipush 16, 2) := by decide +kernel
theorem dX8_queue_46 : decode cX8_queue 46 = .ok (.iload_n 2, 1) := by decide +kernel
theorem dX8_queue_47 : decode cX8_queue 47 = .ok (.imul, 1) := by decide +kernel
theorem dX8_queue_48 : decode cX8_queue 48 = .ok (.invokestatic 80, 3) := by decide +kernel
theorem dX8_queue_51 : decode cX8_queue 51 = .ok (.ifCond .eq 32, 3) := by decide +kernel
theorem dX8_queue_54 : decode cX8_queue 54 = .ok (.iload 4, 2) := by decide +kernel
theorem dX8_queue_56 : decode cX8_queue 56 = .ok (.iconst 2, 1) := by decide +kernel
theorem dX8_queue_57 : decode cX8_queue 57 = .ok (.iconst 4, 1) := by decide +kernel
theorem dX8_queue_58 : decode cX8_queue 58 = .ok (.iconst 2, 1) := by decide +kernel
theorem dX8_queue_59 : decode cX8_queue 59 = .ok (.iload_n 2, 1) := by decide +kernel
theorem dX8_queue_60 : decode cX8_queue 60 = .ok (.imul, 1) := by decide +kernel
theorem dX8_queue_61 : decode cX8_queue 61 = .ok (.iadd, 1) := by decide +kernel
theorem dX8_queue_62 : decode cX8_queue 62 = .ok (.invokestatic 80, 3) := by decide +kernel
theorem dX8_queue_65 : decode cX8_queue 65 = .ok (.ifCond .eq 18, 3) := by decide +kernel
theorem dX8_queue_68 : decode cX8_queue 68 = .ok (.iload 5, 2) := by decide +kernel
theorem dX8_queue_70 : decode cX8_queue 70 = .ok (.iconst 4, 1) := by decide +kernel
theorem dX8_queue_71 : decode cX8_queue 71 = .ok (.iconst 4, 1) := by decide +kernel
theorem dX8_queue_72 : decode cX8_queue 72 = .ok (.bipush 8, 2) := by decide +kernel
theorem dX8_queue_74 : decode cX8_queue 74 = .ok (.iload_n 2, 1) := by decide +kernel
theorem dX8_queue_75 : decode cX8_queue 75 = .ok (.imul, 1) := by decide +kernel
theorem dX8_queue_76 : decode cX8_queue 76 = .ok (.iadd, 1) := by decide +kernel
theorem dX8_queue_77 : decode cX8_queue 77 = .ok (.invokestatic 80, 3) := by decide +kernel
theorem dX8_queue_80 : decode cX8_queue 80 = .ok (.ifCond .ne 6, 3) := by decide +kernel
theorem dX8_queue_83 : decode cX8_queue 83 = .ok (.bipush (-2), 2) := by decide +kernel
theorem dX8_queue_85 : decode cX8_queue 85 = .ok (.ireturn, 1) := by decide +kernel
theorem dX8_queue_86 : decode cX8_queue 86 = .ok (.aload_n 0, 1) := by decide +kernel
theorem dX8_queue_87 : decode cX8_queue 87 = .ok (.getfield 21, 3) := by decide +kernel
theorem dX8_queue_90 : decode cX8_queue 90 = .ok (.iload_n 1, 1) := by decide +kernel
theorem dX8_queue_91 : decode cX8_queue 91 = .ok (.invokevirtual 39, 3) := by decide +kernel
theorem dX8_queue_94 : decode cX8_queue 94 = .ok (.iload_n 2, 1) := by decide +kernel
theorem dX8_queue_95 : decode cX8_queue 95 = .ok (.iload_n 3, 1) := by decide +kernel
theorem dX8_queue_96 : decode cX8_queue 96 = .ok (.iload 4, 2) := by decide +kernel
theorem dX8_queue_98 : decode cX8_queue 98 = .ok (.iload 5, 2) := by decide +kernel
theorem dX8_queue_100 : decode cX8_queue 100 = .ok (.invokevirtual 53, 3) := by decide +kernel
theorem dX8_queue_103 : decode cX8_queue 103 = .ok (.iconst 0, 1) := by decide +kernel
theorem dX8_queue_104 : decode cX8_queue 104 = .ok (.ireturn, 1) := by decide +kernel
theorem dX8_run_0 : decode cX8_run 0 = .ok (.aload_n 0, 1) := by decide +kernel
theorem dX8_run_1 : decode cX8_run 1 = .ok (.getfield 21, 3) := by decide +kernel
theorem dX8_run_4 : decode cX8_run 4 = .ok (.getfield 59, 3) := by decide +kernel
theorem dX8_run_7 : decode cX8_run 7 = .ok (.ifCond .eq 6, 3) := by decide +kernel
theorem dX8_run_10 : decode cX8_run 10 = .ok (.bipush (-2), 2) := by decide +kernel
theorem dX8_run_12 : decode cX8_run 12 = .ok (.ireturn, 1) := by decide +kernel
theorem dX8_run_13 : decode cX8_run 13 = .ok (.aload_n 0, 1) := by decide +kernel
theorem dX8_run_14 : decode cX8_run 14 = .ok (.getfield 21, 3) := by decide +kernel
theorem dX8_run_17 : decode cX8_run 17 = .ok (.iconst 1, 1) := by decide +kernel
theorem dX8_run_18 : decode cX8_run 18 = .ok (.putfield 59, 3) := by decide +kernel
theorem dX8_run_21 : decode cX8_run 21 = .ok (.iconst 0, 1) := by decide +kernel
theorem dX8_run_22 : decode cX8_run 22 = .ok (.ireturn, 1) := by decide +kernel
theorem dX8_poke_0 : decode cX8_poke 0 = .ok (.iload_n 1, 1) := by decide +kernel
theorem dX8_poke_1 : decode cX8_poke 1 = .ok (.invokestatic 84, 3) := by decide +kernel
theorem dX8_poke_4 : decode cX8_poke 4 = .ok (.ifCond .eq 14, 3) := by decide +kernel
theorem dX8_poke_7 : decode cX8_poke 7 = .ok (.iload_n 2, 1) := by decide +kernel
theorem dX8_poke_8 : decode cX8_poke 8 = .ok (.ifCond .lt 10, 3) := by decide +kernel
theorem dX8_poke_11 : decode cX8_poke 11 = .ok (.iload_n 2, 1) := by decide +kernel
theorem dX8_poke_12 : decode cX8_poke 12 = .ok (.sipush 255, 3) := by decide +kernel
theorem dX8_poke_15 : decode cX8_poke 15 = .ok (.if_icmp .le 6, 3) := by decide +kernel
theorem dX8_poke_18 : decode cX8_poke 18 = .ok (.bipush (-2), 2) := by decide +kernel
theorem dX8_poke_20 : decode cX8_poke 20 = .ok (.ireturn, 1) := by decide +kernel
theorem dX8_poke_21 : decode cX8_poke 21 = .ok (.aload_n 0, 1) := by decide +kernel
theorem dX8_poke_22 : decode cX8_poke 22 = .ok (.getfield 10, 3) := by decide +kernel
theorem dX8_poke_25 : decode cX8_poke 25 = .ok (.iload_n 1, 1) := by decide +kernel
theorem dX8_poke_26 : decode cX8_poke 26 = .ok (.invokevirtual 87, 3) := by decide +kernel
theorem dX8_poke_29 : decode cX8_poke 29 = .ok (.istore_n 3, 1) := by decide +kernel
theorem dX8_poke_30 : decode cX8_poke 30 = .ok (.aload_n 0, 1) := by decide +kernel
theorem dX8_poke_31 : decode cX8_poke 31 = .ok (.getfield 10, 3) := by decide +kernel
theorem dX8_poke_34 : decode cX8_poke 34 = .ok (.iload_n 1, 1) := by decide +kernel
theorem dX8_poke_35 : decode cX8_poke 35 = .ok (.iload_n 2, 1) := by decide +kernel
theorem dX8_poke_36 : decode cX8_poke 36 = .ok (.invokevirtual 90, 3) := by decide +kernel
theorem dX8_poke_39 : decode cX8_poke 39 = .ok (.iload_n 3, 1) := by decide +kernel
theorem dX8_poke_40 : decode cX8_poke 40 = .ok (.ireturn, 1) := by decide +kernel
theorem dX8_peek_0 : decode cX8_peek 0 = .ok (.iload_n 1, 1) := by decide +kernel
theorem dX8_peek_1 : decode cX8_peek 1 = .ok (.invokestatic 84, 3) := by decide +kernel
theorem dX8_peek_4 : decode cX8_peek 4 = .ok (.ifCond .eq 14, 3) := by decide +kernel
theorem dX8_peek_7 : decode cX8_peek 7 = .ok (.aload_n 0, 1) := by decide +kernel
theorem dX8_peek_8 : decode cX8_peek 8 = .ok (.getfield 10, 3) := by decide +kernel
theorem dX8_peek_11 : decode cX8_peek 11 = .ok (.iload_n 1, 1) := by decide +kernel
theorem dX8_peek_12 : decode cX8_peek 12 = .ok (.invokevirtual 87, 3) := by decide +kernel
theorem dX8_peek_15 : decode cX8_peek 15 = .ok (.goto 5, 3) := by decide +kernel
theorem dX8_peek_18 : decode cX8_peek 18 = .ok (.bipush (-2), 2) := by decide +kernel
theorem dX8_peek_20 : decode cX8_peek 20 = .ok (.ireturn, 1) := by decide +kernel
theorem dX8_step_0 : decode cX8_step 0 = .ok (.iload_n 1, 1) := by decide +kernel
theorem dX8_step_1 : decode cX8_step 1 = .ok (.ifCond .eq 11, 3) := by decide +kernel
theorem dX8_step_4 : decode cX8_step 4 = .ok (.iload_n 1, 1) := by decide +kernel
theorem dX8_step_5 : decode cX8_step 5 = .ok (.iconst 2, 1) := by decide +kernel
theorem dX8_step_6 : decode cX8_step 6 = .ok (.if_icmp .eq 6, 3) := by decide +kernel
theorem dX8_step_9 : decode cX8_step 9 = .ok (.bipush (-2), 2) := by decide +kernel
theorem dX8_step_11 : decode cX8_step 11 = .ok (.ireturn, 1) := by decide +kernel
theorem dX8_step_12 : decode cX8_step 12 = .ok (.aload_n 0, 1) := by decide +kernel
theorem dX8_step_13 : decode cX8_step 13 = .ok (.getfield 21, 3) := by decide +kernel
theorem dX8_step_16 : decode cX8_step 16 = .ok (.iload_n 1, 1) := by decide +kernel
theorem dX8_step_17 : decode cX8_step 17 = .ok (.invokevirtual 94, 3) := by decide +kernel
theorem dX8_step_20 : decode cX8_step 20 = .ok (.ireturn, 1) := by decide +kernel
theorem dX8_arrive_0 : decode cX8_arrive 0 = .ok (.iload_n 1, 1) := by decide +kernel
theorem dX8_arrive_1 : decode cX8_arrive 1 = .ok (.invokestatic 97, 3) := by decide +kernel
theorem dX8_arrive_4 : decode cX8_arrive 4 = .ok (.ifCond .eq 15, 3) := by decide +kernel
theorem dX8_arrive_7 : decode cX8_arrive 7 = .ok (.aload_n 0, 1) := by decide +kernel
theorem dX8_arrive_8 : decode cX8_arrive 8 = .ok (.getfield 21, 3) := by decide +kernel
theorem dX8_arrive_11 : decode cX8_arrive 11 = .ok (.iload_n 1, 1) := by decide +kernel
theorem dX8_arrive_12 : decode cX8_arrive 12 = .ok (.lload_n 2, 1) := by decide +kernel
theorem dX8_arrive_13 : decode cX8_arrive 13 = .ok (.invokevirtual 100, 3) := by decide +kernel
theorem dX8_arrive_16 : decode cX8_arrive 16 = .ok (.goto 5, 3) := by decide +kernel
theorem dX8_arrive_19 : decode cX8_arrive 19 = .ok (.bipush (-2), 2) := by decide +kernel
theorem dX8_arrive_21 : decode cX8_arrive 21 = .ok (.ireturn, 1) := by decide +kernel
theorem dX8_read_0 : decode cX8_read 0 = .ok (.iload_n 1, 1) := by decide +kernel
theorem dX8_read_1 : decode cX8_read 1 = .ok (.invokestatic 104, 3) := by decide +kernel
theorem dX8_read_4 : decode cX8_read 4 = .ok (.ifCond .eq 16, 3) := by decide +kernel
theorem dX8_read_7 : decode cX8_read 7 = .ok (.aload_n 0, 1) := by decide +kernel
theorem dX8_read_8 : decode cX8_read 8 = .ok (.getfield 28, 3) := by decide +kernel
theorem dX8_read_11 : decode cX8_read 11 = .ok (.iconst 0, 1) := by decide +kernel
theorem dX8_read_12 : decode cX8_read 12 = .ok (.iload_n 1, 1) := by decide +kernel
theorem dX8_read_13 : decode cX8_read 13 = .ok (.lconst 0, 1) := by decide +kernel
theorem dX8_read_14 : decode cX8_read 14 = .ok (.invokevirtual 107, 3) := by decide +kernel
theorem dX8_read_17 : decode cX8_read 17 = .ok (.goto 5, 3) := by decide +kernel
theorem dX8_read_20 : decode cX8_read 20 = .ok (.bipush (-2), 2) := by decide +kernel
theorem dX8_read_22 : decode cX8_read 22 = .ok (.ireturn, 1) := by decide +kernel
theorem dX8_write_0 : decode cX8_write 0 = .ok (.iload_n 1, 1) := by decide +kernel
theorem dX8_write_1 : decode cX8_write 1 = .ok (.invokestatic 104, 3) := by decide +kernel
theorem dX8_write_4 : decode cX8_write 4 = .ok (.ifCond .eq 16, 3) := by decide +kernel
theorem dX8_write_7 : decode cX8_write 7 = .ok (.aload_n 0, 1) := by decide +kernel
theorem dX8_write_8 : decode cX8_write 8 = .ok (.getfield 28, 3) := by decide +kernel
theorem dX8_write_11 : decode cX8_write 11 = .ok (.iconst 1, 1) := by decide +kernel
theorem dX8_write_12 : decode cX8_write 12 = .ok (.iload_n 1, 1) := by decide +kernel
theorem dX8_write_13 : decode cX8_write 13 = .ok (.lload_n 2, 1) := by decide +kernel
theorem dX8_write_14 : decode cX8_write 14 = .ok (.invokevirtual 107, 3) := by decide +kernel
theorem dX8_write_17 : decode cX8_write 17 = .ok (.goto 5, 3) := by decide +kernel
theorem dX8_write_20 : decode cX8_write 20 = .ok (.bipush (-2), 2) := by decide +kernel
theorem dX8_write_22 : decode cX8_write 22 = .ok (.ireturn, 1) := by decide +kernel
theorem dX8_send_0 : decode cX8_send 0 = .ok (.iload_n 1, 1) := by decide +kernel
theorem dX8_send_1 : decode cX8_send 1 = .ok (.invokestatic 97, 3) := by decide +kernel
theorem dX8_send_4 : decode cX8_send 4 = .ok (.ifCond .eq 15, 3) := by decide +kernel
theorem dX8_send_7 : decode cX8_send 7 = .ok (.aload_n 0, 1) := by decide +kernel
theorem dX8_send_8 : decode cX8_send 8 = .ok (.getfield 28, 3) := by decide +kernel
theorem dX8_send_11 : decode cX8_send 11 = .ok (.iload_n 1, 1) := by decide +kernel
theorem dX8_send_12 : decode cX8_send 12 = .ok (.lload_n 2, 1) := by decide +kernel
theorem dX8_send_13 : decode cX8_send 13 = .ok (.invokevirtual 111, 3) := by decide +kernel
theorem dX8_send_16 : decode cX8_send 16 = .ok (.goto 5, 3) := by decide +kernel
theorem dX8_send_19 : decode cX8_send 19 = .ok (.bipush (-2), 2) := by decide +kernel
theorem dX8_send_21 : decode cX8_send 21 = .ok (.ireturn, 1) := by decide +kernel
theorem dX8_post_0 : decode cX8_post 0 = .ok (.aload_n 0, 1) := by decide +kernel
theorem dX8_post_1 : decode cX8_post 1 = .ok (.getfield 28, 3) := by decide +kernel
theorem dX8_post_4 : decode cX8_post 4 = .ok (.invokevirtual 114, 3) := by decide +kernel
theorem dX8_post_7 : decode cX8_post 7 = .ok (.ireturn, 1) := by decide +kernel
theorem dX8_collect_0 : decode cX8_collect 0 = .ok (.iload_n 1, 1) := by decide +kernel
theorem dX8_collect_1 : decode cX8_collect 1 = .ok (.invokestatic 69, 3) := by decide +kernel
theorem dX8_collect_4 : decode cX8_collect 4 = .ok (.ifCond .eq 14, 3) := by decide +kernel
theorem dX8_collect_7 : decode cX8_collect 7 = .ok (.aload_n 0, 1) := by decide +kernel
theorem dX8_collect_8 : decode cX8_collect 8 = .ok (.getfield 28, 3) := by decide +kernel
theorem dX8_collect_11 : decode cX8_collect 11 = .ok (.iload_n 1, 1) := by decide +kernel
theorem dX8_collect_12 : decode cX8_collect 12 = .ok (.invokevirtual 118, 3) := by decide +kernel
theorem dX8_collect_15 : decode cX8_collect 15 = .ok (.goto 5, 3) := by decide +kernel
theorem dX8_collect_18 : decode cX8_collect 18 = .ok (.bipush (-2), 2) := by decide +kernel
theorem dX8_collect_20 : decode cX8_collect 20 = .ok (.ireturn, 1) := by decide +kernel
theorem dX8_written_0 : decode cX8_written 0 = .ok (.iload_n 1, 1) := by decide +kernel
theorem dX8_written_1 : decode cX8_written 1 = .ok (.invokestatic 69, 3) := by decide +kernel
theorem dX8_written_4 : decode cX8_written 4 = .ok (.ifCond .eq 17, 3) := by decide +kernel
theorem dX8_written_7 : decode cX8_written 7 = .ok (.aload_n 0, 1) := by decide +kernel
theorem dX8_written_8 : decode cX8_written 8 = .ok (.getfield 28, 3) := by decide +kernel
theorem dX8_written_11 : decode cX8_written 11 = .ok (.iload_n 1, 1) := by decide +kernel
theorem dX8_written_12 : decode cX8_written 12 = .ok (.invokevirtual 121, 3) := by decide +kernel
theorem dX8_written_15 : decode cX8_written 15 = .ok (.getfield 125, 3) := by decide +kernel
theorem dX8_written_18 : decode cX8_written 18 = .ok (.goto 5, 3) := by decide +kernel
theorem dX8_written_21 : decode cX8_written 21 = .ok (.bipush (-2), 2) := by decide +kernel
theorem dX8_written_23 : decode cX8_written 23 = .ok (.ireturn, 1) := by decide +kernel
theorem dX8_wire_0 : decode cX8_wire 0 = .ok (.aload_n 0, 1) := by decide +kernel
theorem dX8_wire_1 : decode cX8_wire 1 = .ok (.getfield 21, 3) := by decide +kernel
theorem dX8_wire_4 : decode cX8_wire 4 = .ok (.getfield 130, 3) := by decide +kernel
theorem dX8_wire_7 : decode cX8_wire 7 = .ok (.iload_n 1, 1) := by decide +kernel
theorem dX8_wire_8 : decode cX8_wire 8 = .ok (.iload_n 2, 1) := by decide +kernel
theorem dX8_wire_9 : decode cX8_wire 9 = .ok (.invokevirtual 134, 3) := by decide +kernel
theorem dX8_wire_12 : decode cX8_wire 12 = .ok (.ireturn, 1) := by decide +kernel
theorem dX8_disk_0 : decode cX8_disk 0 = .ok (.iload_n 1, 1) := by decide +kernel
theorem dX8_disk_1 : decode cX8_disk 1 = .ok (.invokestatic 104, 3) := by decide +kernel
theorem dX8_disk_4 : decode cX8_disk 4 = .ok (.ifCond .eq 13, 3) := by decide +kernel
theorem dX8_disk_7 : decode cX8_disk 7 = .ok (.iload_n 2, 1) := by decide +kernel
theorem dX8_disk_8 : decode cX8_disk 8 = .ok (.ifCond .lt 9, 3) := by decide +kernel
theorem dX8_disk_11 : decode cX8_disk 11 = .ok (.iload_n 2, 1) := by decide +kernel
theorem dX8_disk_12 : decode cX8_disk 12 = .ok (.bipush 64, 2) := by decide +kernel
theorem dX8_disk_14 : decode cX8_disk 14 = .ok (.if_icmp .lt 6, 3) := by decide +kernel
theorem dX8_disk_17 : decode cX8_disk 17 = .ok (.bipush (-2), 2) := by decide +kernel
theorem dX8_disk_19 : decode cX8_disk 19 = .ok (.ireturn, 1) := by decide +kernel
theorem dX8_disk_20 : decode cX8_disk 20 = .ok (.aload_n 0, 1) := by decide +kernel
theorem dX8_disk_21 : decode cX8_disk 21 = .ok (.getfield 21, 3) := by decide +kernel
theorem dX8_disk_24 : decode cX8_disk 24 = .ok (.getfield 140, 3) := by decide +kernel
theorem dX8_disk_27 : decode cX8_disk 27 = .ok (.bipush 64, 2) := by decide +kernel
theorem dX8_disk_29 : decode cX8_disk 29 = .ok (.iload_n 1, 1) := by decide +kernel
theorem dX8_disk_30 : decode cX8_disk 30 = .ok (.imul, 1) := by decide +kernel
theorem dX8_disk_31 : decode cX8_disk 31 = .ok (.iload_n 2, 1) := by decide +kernel
theorem dX8_disk_32 : decode cX8_disk 32 = .ok (.iadd, 1) := by decide +kernel
theorem dX8_disk_33 : decode cX8_disk 33 = .ok (.invokevirtual 144, 3) := by decide +kernel
theorem dX8_disk_36 : decode cX8_disk 36 = .ok (.ireturn, 1) := by decide +kernel
theorem dX8_told_0 : decode cX8_told 0 = .ok (.iload_n 1, 1) := by decide +kernel
theorem dX8_told_1 : decode cX8_told 1 = .ok (.invokestatic 69, 3) := by decide +kernel
theorem dX8_told_4 : decode cX8_told 4 = .ok (.ifCond .ne 6, 3) := by decide +kernel
theorem dX8_told_7 : decode cX8_told 7 = .ok (.bipush (-2), 2) := by decide +kernel
theorem dX8_told_9 : decode cX8_told 9 = .ok (.ireturn, 1) := by decide +kernel
theorem dX8_told_10 : decode cX8_told 10 = .ok (.aload_n 0, 1) := by decide +kernel
theorem dX8_told_11 : decode cX8_told 11 = .ok (.getfield 21, 3) := by decide +kernel
theorem dX8_told_14 : decode cX8_told 14 = .ok (.iload_n 1, 1) := by decide +kernel
theorem dX8_told_15 : decode cX8_told 15 = .ok (.invokevirtual 39, 3) := by decide +kernel
theorem dX8_told_18 : decode cX8_told 18 = .ok (.astore_n 3, 1) := by decide +kernel
theorem dX8_told_19 : decode cX8_told 19 = .ok (.aload_n 0, 1) := by decide +kernel
theorem dX8_told_20 : decode cX8_told 20 = .ok (.getfield 28, 3) := by decide +kernel
theorem dX8_told_23 : decode cX8_told 23 = .ok (.iload_n 1, 1) := by decide +kernel
theorem dX8_told_24 : decode cX8_told 24 = .ok (.invokevirtual 121, 3) := by decide +kernel
theorem dX8_told_27 : decode cX8_told 27 = .ok (.astore 4, 2) := by decide +kernel
theorem dX8_told_29 : decode cX8_told 29 = .ok (.iload_n 2, 1) := by decide +kernel
theorem dX8_told_30 : decode cX8_told 30 = .ok (.tableswitch 87 0 6 #[42, 55, 60, 65, 70, 75, 81], 42) := by decide +kernel
theorem dX8_told_72 : decode cX8_told 72 = .ok (.aload_n 3, 1) := by decide +kernel
theorem dX8_told_73 : decode cX8_told 73 = .ok (.getfield 73, 3) := by decide +kernel
theorem dX8_told_76 : decode cX8_told 76 = .ok (.ifCond .eq 7, 3) := by decide +kernel
theorem dX8_told_79 : decode cX8_told 79 = .ok (.iconst 1, 1) := by decide +kernel
theorem dX8_told_80 : decode cX8_told 80 = .ok (.goto 4, 3) := by decide +kernel
theorem dX8_told_83 : decode cX8_told 83 = .ok (.iconst 0, 1) := by decide +kernel
theorem dX8_told_84 : decode cX8_told 84 = .ok (.ireturn, 1) := by decide +kernel
theorem dX8_told_85 : decode cX8_told 85 = .ok (.aload_n 3, 1) := by decide +kernel
theorem dX8_told_86 : decode cX8_told 86 = .ok (.getfield 147, 3) := by decide +kernel
theorem dX8_told_89 : decode cX8_told 89 = .ok (.ireturn, 1) := by decide +kernel
theorem dX8_told_90 : decode cX8_told 90 = .ok (.aload_n 3, 1) := by decide +kernel
theorem dX8_told_91 : decode cX8_told 91 = .ok (.getfield 150, 3) := by decide +kernel
theorem dX8_told_94 : decode cX8_told 94 = .ok (.ireturn, 1) := by decide +kernel
theorem dX8_told_95 : decode cX8_told 95 = .ok (.aload_n 3, 1) := by decide +kernel
theorem dX8_told_96 : decode cX8_told 96 = .ok (.getfield 153, 3) := by decide +kernel
theorem dX8_told_99 : decode cX8_told 99 = .ok (.ireturn, 1) := by decide +kernel
theorem dX8_told_100 : decode cX8_told 100 = .ok (.aload_n 3, 1) := by decide +kernel
theorem dX8_told_101 : decode cX8_told 101 = .ok (.getfield 156, 3) := by decide +kernel
theorem dX8_told_104 : decode cX8_told 104 = .ok (.ireturn, 1) := by decide +kernel
theorem dX8_told_105 : decode cX8_told 105 = .ok (.aload 4, 2) := by decide +kernel
theorem dX8_told_107 : decode cX8_told 107 = .ok (.invokevirtual 159, 3) := by decide +kernel
theorem dX8_told_110 : decode cX8_told 110 = .ok (.ireturn, 1) := by decide +kernel
theorem dX8_told_111 : decode cX8_told 111 = .ok (.aload 4, 2) := by decide +kernel
theorem dX8_told_113 : decode cX8_told 113 = .ok (.getfield 162, 3) := by decide +kernel
theorem dX8_told_116 : decode cX8_told 116 = .ok (.ireturn, 1) := by decide +kernel
theorem dX8_told_117 : decode cX8_told 117 = .ok (.bipush (-2), 2) := by decide +kernel
theorem dX8_told_119 : decode cX8_told 119 = .ok (.ireturn, 1) := by decide +kernel
theorem dX8_count_0 : decode cX8_count 0 = .ok (.iload_n 1, 1) := by decide +kernel
theorem dX8_count_1 : decode cX8_count 1 = .ok (.tableswitch 86 0 4 #[35, 43, 54, 62, 70], 35) := by decide +kernel
theorem dX8_count_36 : decode cX8_count 36 = .ok (.aload_n 0, 1) := by decide +kernel
theorem dX8_count_37 : decode cX8_count 37 = .ok (.getfield 21, 3) := by decide +kernel
theorem dX8_count_40 : decode cX8_count 40 = .ok (.getfield 59, 3) := by decide +kernel
theorem dX8_count_43 : decode cX8_count 43 = .ok (.ireturn, 1) := by decide +kernel
theorem dX8_count_44 : decode cX8_count 44 = .ok (.aload_n 0, 1) := by decide +kernel
theorem dX8_count_45 : decode cX8_count 45 = .ok (.getfield 21, 3) := by decide +kernel
theorem dX8_count_48 : decode cX8_count 48 = .ok (.getfield 130, 3) := by decide +kernel
theorem dX8_count_51 : decode cX8_count 51 = .ok (.getfield 165, 3) := by decide +kernel
theorem dX8_count_54 : decode cX8_count 54 = .ok (.ireturn, 1) := by decide +kernel
theorem dX8_count_55 : decode cX8_count 55 = .ok (.aload_n 0, 1) := by decide +kernel
theorem dX8_count_56 : decode cX8_count 56 = .ok (.getfield 21, 3) := by decide +kernel
theorem dX8_count_59 : decode cX8_count 59 = .ok (.getfield 168, 3) := by decide +kernel
theorem dX8_count_62 : decode cX8_count 62 = .ok (.ireturn, 1) := by decide +kernel
theorem dX8_count_63 : decode cX8_count 63 = .ok (.aload_n 0, 1) := by decide +kernel
theorem dX8_count_64 : decode cX8_count 64 = .ok (.getfield 21, 3) := by decide +kernel
theorem dX8_count_67 : decode cX8_count 67 = .ok (.getfield 171, 3) := by decide +kernel
theorem dX8_count_70 : decode cX8_count 70 = .ok (.ireturn, 1) := by decide +kernel
theorem dX8_count_71 : decode cX8_count 71 = .ok (.aload_n 0, 1) := by decide +kernel
theorem dX8_count_72 : decode cX8_count 72 = .ok (.getfield 21, 3) := by decide +kernel
theorem dX8_count_75 : decode cX8_count 75 = .ok (.getfield 174, 3) := by decide +kernel
theorem dX8_count_78 : decode cX8_count 78 = .ok (.ifCond .eq 7, 3) := by decide +kernel
theorem dX8_count_81 : decode cX8_count 81 = .ok (.iconst 1, 1) := by decide +kernel
theorem dX8_count_82 : decode cX8_count 82 = .ok (.goto 4, 3) := by decide +kernel
theorem dX8_count_85 : decode cX8_count 85 = .ok (.iconst 0, 1) := by decide +kernel
theorem dX8_count_86 : decode cX8_count 86 = .ok (.ireturn, 1) := by decide +kernel
theorem dX8_count_87 : decode cX8_count 87 = .ok (.bipush (-2), 2) := by decide +kernel
theorem dX8_count_89 : decode cX8_count 89 = .ok (.ireturn, 1) := by decide +kernel
theorem dX8_isQueue_0 : decode cX8_isQueue 0 = .ok (.iload_n 0, 1) := by decide +kernel
theorem dX8_isQueue_1 : decode cX8_isQueue 1 = .ok (.ifCond .lt 12, 3) := by decide +kernel
theorem dX8_isQueue_4 : decode cX8_isQueue 4 = .ok (.iload_n 0, 1) := by decide +kernel
theorem dX8_isQueue_5 : decode cX8_isQueue 5 = .ok (.iconst 3, 1) := by decide +kernel
theorem dX8_isQueue_6 : decode cX8_isQueue 6 = .ok (.if_icmp .ge 7, 3) := by decide +kernel
theorem dX8_isQueue_9 : decode cX8_isQueue 9 = .ok (.iconst 1, 1) := by decide +kernel
theorem dX8_isQueue_10 : decode cX8_isQueue 10 = .ok (.goto 4, 3) := by decide +kernel
theorem dX8_isQueue_13 : decode cX8_isQueue 13 = .ok (.iconst 0, 1) := by decide +kernel
theorem dX8_isQueue_14 : decode cX8_isQueue 14 = .ok (.ireturn, 1) := by decide +kernel
theorem dX8_isSize_0 : decode cX8_isSize 0 = .ok (.iload_n 0, 1) := by decide +kernel
theorem dX8_isSize_1 : decode cX8_isSize 1 = .ok (.iconst 1, 1) := by decide +kernel
theorem dX8_isSize_2 : decode cX8_isSize 2 = .ok (.if_icmp .eq 25, 3) := by decide +kernel
theorem dX8_isSize_5 : decode cX8_isSize 5 = .ok (.iload_n 0, 1) := by decide +kernel
theorem dX8_isSize_6 : decode cX8_isSize 6 = .ok (.iconst 2, 1) := by decide +kernel
theorem dX8_isSize_7 : decode cX8_isSize 7 = .ok (.if_icmp .eq 20, 3) := by decide +kernel
theorem dX8_isSize_10 : decode cX8_isSize 10 = .ok (.iload_n 0, 1) := by decide +kernel
theorem dX8_isSize_11 : decode cX8_isSize 11 = .ok (.iconst 4, 1) := by decide +kernel
theorem dX8_isSize_12 : decode cX8_isSize 12 = .ok (.if_icmp .eq 15, 3) := by decide +kernel
theorem dX8_isSize_15 : decode cX8_isSize 15 = .ok (.iload_n 0, 1) := by decide +kernel
theorem dX8_isSize_16 : decode cX8_isSize 16 = .ok (.bipush 8, 2) := by decide +kernel
theorem dX8_isSize_18 : decode cX8_isSize 18 = .ok (.if_icmp .eq 9, 3) := by decide +kernel
theorem dX8_isSize_21 : decode cX8_isSize 21 = .ok (.iload_n 0, 1) := by decide +kernel
theorem dX8_isSize_22 : decode cX8_isSize 22 = .ok (.bipush 16, 2) := by decide +kernel
theorem dX8_isSize_24 : decode cX8_isSize 24 = .ok (.if_icmp .ne 7, 3) := by decide +kernel
theorem dX8_isSize_27 : decode cX8_isSize 27 = .ok (.iconst 1, 1) := by decide +kernel
theorem dX8_isSize_28 : decode cX8_isSize 28 = .ok (.goto 4, 3) := by decide +kernel
theorem dX8_isSize_31 : decode cX8_isSize 31 = .ok (.iconst 0, 1) := by decide +kernel
theorem dX8_isSize_32 : decode cX8_isSize 32 = .ok (.ireturn, 1) := by decide +kernel
theorem dX8_isAddress_0 : decode cX8_isAddress 0 = .ok (.iload_n 0, 1) := by decide +kernel
theorem dX8_isAddress_1 : decode cX8_isAddress 1 = .ok (.ifCond .lt 14, 3) := by decide +kernel
theorem dX8_isAddress_4 : decode cX8_isAddress 4 = .ok (.iload_n 0, 1) := by decide +kernel
theorem dX8_isAddress_5 : decode cX8_isAddress 5 = .ok (.sipush 4096, 3) := by decide +kernel
theorem dX8_isAddress_8 : decode cX8_isAddress 8 = .ok (.if_icmp .ge 7, 3) := by decide +kernel
theorem dX8_isAddress_11 : decode cX8_isAddress 11 = .ok (.iconst 1, 1) := by decide +kernel
theorem dX8_isAddress_12 : decode cX8_isAddress 12 = .ok (.goto 4, 3) := by decide +kernel
theorem dX8_isAddress_15 : decode cX8_isAddress 15 = .ok (.iconst 0, 1) := by decide +kernel
theorem dX8_isAddress_16 : decode cX8_isAddress 16 = .ok (.ireturn, 1) := by decide +kernel
theorem dX8_isSector_0 : decode cX8_isSector 0 = .ok (.iload_n 0, 1) := by decide +kernel
theorem dX8_isSector_1 : decode cX8_isSector 1 = .ok (.ifCond .lt 13, 3) := by decide +kernel
theorem dX8_isSector_4 : decode cX8_isSector 4 = .ok (.iload_n 0, 1) := by decide +kernel
theorem dX8_isSector_5 : decode cX8_isSector 5 = .ok (.bipush 32, 2) := by decide +kernel
theorem dX8_isSector_7 : decode cX8_isSector 7 = .ok (.if_icmp .ge 7, 3) := by decide +kernel
theorem dX8_isSector_10 : decode cX8_isSector 10 = .ok (.iconst 1, 1) := by decide +kernel
theorem dX8_isSector_11 : decode cX8_isSector 11 = .ok (.goto 4, 3) := by decide +kernel
theorem dX8_isSector_14 : decode cX8_isSector 14 = .ok (.iconst 0, 1) := by decide +kernel
theorem dX8_isSector_15 : decode cX8_isSector 15 = .ok (.ireturn, 1) := by decide +kernel
theorem dX8_isFrame_0 : decode cX8_isFrame 0 = .ok (.iload_n 0, 1) := by decide +kernel
theorem dX8_isFrame_1 : decode cX8_isFrame 1 = .ok (.iconst 1, 1) := by decide +kernel
theorem dX8_isFrame_2 : decode cX8_isFrame 2 = .ok (.if_icmp .lt 13, 3) := by decide +kernel
theorem dX8_isFrame_5 : decode cX8_isFrame 5 = .ok (.iload_n 0, 1) := by decide +kernel
theorem dX8_isFrame_6 : decode cX8_isFrame 6 = .ok (.bipush 80, 2) := by decide +kernel
theorem dX8_isFrame_8 : decode cX8_isFrame 8 = .ok (.if_icmp .gt 7, 3) := by decide +kernel
theorem dX8_isFrame_11 : decode cX8_isFrame 11 = .ok (.iconst 1, 1) := by decide +kernel
theorem dX8_isFrame_12 : decode cX8_isFrame 12 = .ok (.goto 4, 3) := by decide +kernel
theorem dX8_isFrame_15 : decode cX8_isFrame 15 = .ok (.iconst 0, 1) := by decide +kernel
theorem dX8_isFrame_16 : decode cX8_isFrame 16 = .ok (.ireturn, 1) := by decide +kernel
theorem dX8_isPlace_0 : decode cX8_isPlace 0 = .ok (.iload_n 0, 1) := by decide +kernel
theorem dX8_isPlace_1 : decode cX8_isPlace 1 = .ok (.i2l, 1) := by decide +kernel
theorem dX8_isPlace_2 : decode cX8_isPlace 2 = .ok (.iload_n 2, 1) := by decide +kernel
theorem dX8_isPlace_3 : decode cX8_isPlace 3 = .ok (.i2l, 1) := by decide +kernel
theorem dX8_isPlace_4 : decode cX8_isPlace 4 = .ok (.invokestatic 177, 3) := by decide +kernel
theorem dX8_isPlace_7 : decode cX8_isPlace 7 = .ok (.ifCond .eq 17, 3) := by decide +kernel
theorem dX8_isPlace_10 : decode cX8_isPlace 10 = .ok (.iload_n 1, 1) := by decide +kernel
theorem dX8_isPlace_11 : decode cX8_isPlace 11 = .ok (.ifCond .le 13, 3) := by decide +kernel
theorem dX8_isPlace_14 : decode cX8_isPlace 14 = .ok (.iload_n 0, 1) := by decide +kernel
theorem dX8_isPlace_15 : decode cX8_isPlace 15 = .ok (.iload_n 1, 1) := by decide +kernel
theorem dX8_isPlace_16 : decode cX8_isPlace 16 = .ok (.irem, 1) := by decide +kernel
theorem dX8_isPlace_17 : decode cX8_isPlace 17 = .ok (.ifCond .ne 7, 3) := by decide +kernel
theorem dX8_isPlace_20 : decode cX8_isPlace 20 = .ok (.iconst 1, 1) := by decide +kernel
theorem dX8_isPlace_21 : decode cX8_isPlace 21 = .ok (.goto 4, 3) := by decide +kernel
theorem dX8_isPlace_24 : decode cX8_isPlace 24 = .ok (.iconst 0, 1) := by decide +kernel
theorem dX8_isPlace_25 : decode cX8_isPlace 25 = .ok (.ireturn, 1) := by decide +kernel
theorem dX8_liesInMemory_0 : decode cX8_liesInMemory 0 = .ok (.lload_n 0, 1) := by decide +kernel
theorem dX8_liesInMemory_1 : decode cX8_liesInMemory 1 = .ok (.lconst 0, 1) := by decide +kernel
theorem dX8_liesInMemory_2 : decode cX8_liesInMemory 2 = .ok (.lcmp, 1) := by decide +kernel
theorem dX8_liesInMemory_3 : decode cX8_liesInMemory 3 = .ok (.ifCond .lt 17, 3) := by decide +kernel
theorem dX8_liesInMemory_6 : decode cX8_liesInMemory 6 = .ok (.lload_n 0, 1) := by decide +kernel
theorem dX8_liesInMemory_7 : decode cX8_liesInMemory 7 = .ok (.ldc2_w 181, 3) := by decide +kernel
theorem dX8_liesInMemory_10 : decode cX8_liesInMemory 10 = .ok (.lload_n 2, 1) := by decide +kernel
theorem dX8_liesInMemory_11 : decode cX8_liesInMemory 11 = .ok (.lsub, 1) := by decide +kernel
theorem dX8_liesInMemory_12 : decode cX8_liesInMemory 12 = .ok (.lcmp, 1) := by decide +kernel
theorem dX8_liesInMemory_13 : decode cX8_liesInMemory 13 = .ok (.ifCond .gt 7, 3) := by decide +kernel
theorem dX8_liesInMemory_16 : decode cX8_liesInMemory 16 = .ok (.iconst 1, 1) := by decide +kernel
theorem dX8_liesInMemory_17 : decode cX8_liesInMemory 17 = .ok (.goto 4, 3) := by decide +kernel
theorem dX8_liesInMemory_20 : decode cX8_liesInMemory 20 = .ok (.iconst 0, 1) := by decide +kernel
theorem dX8_liesInMemory_21 : decode cX8_liesInMemory 21 = .ok (.ireturn, 1) := by decide +kernel
theorem dX8_descriptorsOf_0 : decode cX8_descriptorsOf 0 = .ok (.sipush 256, 3) := by decide +kernel
theorem dX8_descriptorsOf_3 : decode cX8_descriptorsOf 3 = .ok (.iload_n 0, 1) := by decide +kernel
theorem dX8_descriptorsOf_4 : decode cX8_descriptorsOf 4 = .ok (.imul, 1) := by decide +kernel
theorem dX8_descriptorsOf_5 : decode cX8_descriptorsOf 5 = .ok (.ireturn, 1) := by decide +kernel
theorem dX8_availableOf_0 : decode cX8_availableOf 0 = .ok (.sipush 256, 3) := by decide +kernel
theorem dX8_availableOf_3 : decode cX8_availableOf 3 = .ok (.iload_n 0, 1) := by decide +kernel
theorem dX8_availableOf_4 : decode cX8_availableOf 4 = .ok (.imul, 1) := by decide +kernel
theorem dX8_availableOf_5 : decode cX8_availableOf 5 = .ok (.sipush 128, 3) := by decide +kernel
theorem dX8_availableOf_8 : decode cX8_availableOf 8 = .ok (.iadd, 1) := by decide +kernel
theorem dX8_availableOf_9 : decode cX8_availableOf 9 = .ok (.ireturn, 1) := by decide +kernel
theorem dX8_usedOf_0 : decode cX8_usedOf 0 = .ok (.sipush 256, 3) := by decide +kernel
theorem dX8_usedOf_3 : decode cX8_usedOf 3 = .ok (.iload_n 0, 1) := by decide +kernel
theorem dX8_usedOf_4 : decode cX8_usedOf 4 = .ok (.imul, 1) := by decide +kernel
theorem dX8_usedOf_5 : decode cX8_usedOf 5 = .ok (.sipush 152, 3) := by decide +kernel
theorem dX8_usedOf_8 : decode cX8_usedOf 8 = .ok (.iadd, 1) := by decide +kernel
theorem dX8_usedOf_9 : decode cX8_usedOf 9 = .ok (.ireturn, 1) := by decide +kernel
theorem dX8_patternByte_0 : decode cX8_patternByte 0 = .ok (.lload_n 0, 1) := by decide +kernel
theorem dX8_patternByte_1 : decode cX8_patternByte 1 = .ok (.bipush 8, 2) := by decide +kernel
theorem dX8_patternByte_3 : decode cX8_patternByte 3 = .ok (.iload_n 2, 1) := by decide +kernel
theorem dX8_patternByte_4 : decode cX8_patternByte 4 = .ok (.bipush 7, 2) := by decide +kernel
theorem dX8_patternByte_6 : decode cX8_patternByte 6 = .ok (.iand, 1) := by decide +kernel
theorem dX8_patternByte_7 : decode cX8_patternByte 7 = .ok (.imul, 1) := by decide +kernel
theorem dX8_patternByte_8 : decode cX8_patternByte 8 = .ok (.lushr, 1) := by decide +kernel
theorem dX8_patternByte_9 : decode cX8_patternByte 9 = .ok (.l2i, 1) := by decide +kernel
theorem dX8_patternByte_10 : decode cX8_patternByte 10 = .ok (.iload_n 2, 1) := by decide +kernel
theorem dX8_patternByte_11 : decode cX8_patternByte 11 = .ok (.iadd, 1) := by decide +kernel
theorem dX8_patternByte_12 : decode cX8_patternByte 12 = .ok (.sipush 255, 3) := by decide +kernel
theorem dX8_patternByte_15 : decode cX8_patternByte 15 = .ok (.iand, 1) := by decide +kernel
theorem dX8_patternByte_16 : decode cX8_patternByte 16 = .ok (.ireturn, 1) := by decide +kernel
theorem dX8_oneMore_0 : decode cX8_oneMore 0 = .ok (.iload_n 0, 1) := by decide +kernel
theorem dX8_oneMore_1 : decode cX8_oneMore 1 = .ok (.iconst 1, 1) := by decide +kernel
theorem dX8_oneMore_2 : decode cX8_oneMore 2 = .ok (.iadd, 1) := by decide +kernel
theorem dX8_oneMore_3 : decode cX8_oneMore 3 = .ok (.ldc 183, 2) := by decide +kernel
theorem dX8_oneMore_5 : decode cX8_oneMore 5 = .ok (.iand, 1) := by decide +kernel
theorem dX8_oneMore_6 : decode cX8_oneMore 6 = .ok (.ireturn, 1) := by decide +kernel
