theorem dX9_isIn_0 : decode cX9_isIn 0 = .ok (.iload_n 0, 1) := by decide +kernel
theorem dX9_isIn_1 : decode cX9_isIn 1 = .ok (.iload_n 1, 1) := by decide +kernel
theorem dX9_isIn_2 : decode cX9_isIn 2 = .ok (.if_icmp .lt 12, 3) := by decide +kernel
theorem dX9_isIn_5 : decode cX9_isIn 5 = .ok (.iload_n 0, 1) := by decide +kernel
theorem dX9_isIn_6 : decode cX9_isIn 6 = .ok (.iload_n 2, 1) := by decide +kernel
theorem dX9_isIn_7 : decode cX9_isIn 7 = .ok (.if_icmp .gt 7, 3) := by decide +kernel
theorem dX9_isIn_10 : decode cX9_isIn 10 = .ok (.iconst 1, 1) := by decide +kernel
theorem dX9_isIn_11 : decode cX9_isIn 11 = .ok (.goto 4, 3) := by decide +kernel
theorem dX9_isIn_14 : decode cX9_isIn 14 = .ok (.iconst 0, 1) := by decide +kernel
theorem dX9_isIn_15 : decode cX9_isIn 15 = .ok (.ireturn, 1) := by decide +kernel
theorem dX9_number_0 : decode cX9_number 0 = .ok (.lconst 0, 1) := by decide +kernel
theorem dX9_number_1 : decode cX9_number 1 = .ok (.lstore_n 3, 1) := by decide +kernel
theorem dX9_number_2 : decode cX9_number 2 = .ok (.iload_n 2, 1) := by decide +kernel
theorem dX9_number_3 : decode cX9_number 3 = .ok (.iconst 1, 1) := by decide +kernel
theorem dX9_number_4 : decode cX9_number 4 = .ok (.isub, 1) := by decide +kernel
theorem dX9_number_5 : decode cX9_number 5 = .ok (.istore 5, 2) := by decide +kernel
theorem dX9_number_7 : decode cX9_number 7 = .ok (.iload 5, 2) := by decide +kernel
theorem dX9_number_9 : decode cX9_number 9 = .ok (.ifCond .lt 29, 3) := by decide +kernel
theorem dX9_number_12 : decode cX9_number 12 = .ok (.lload_n 3, 1) := by decide +kernel
theorem dX9_number_13 : decode cX9_number 13 = .ok (.bipush 8, 2) := by decide +kernel
theorem dX9_number_15 : decode cX9_number 15 = .ok (.lshl, 1) := by decide +kernel
theorem dX9_number_16 : decode cX9_number 16 = .ok (.aload_n 0, 1) := by decide +kernel
theorem dX9_number_17 : decode cX9_number 17 = .ok (.getfield 1, 3) := by decide +kernel
theorem dX9_number_20 : decode cX9_number 20 = .ok (.iload_n 1, 1) := by decide +kernel
theorem dX9_number_21 : decode cX9_number 21 = .ok (.iload 5, 2) := by decide +kernel
theorem dX9_number_23 : decode cX9_number 23 = .ok (.iadd, 1) := by decide +kernel
theorem dX9_number_24 : decode cX9_number 24 = .ok (.baload, 1) := by decide +kernel
theorem dX9_number_25 : decode cX9_number 25 = .ok (.sipush 255, 3) := by decide +kernel
theorem dX9_number_28 : decode cX9_number 28 = .ok (.iand, 1) := by decide +kernel
theorem dX9_number_29 : decode cX9_number 29 = .ok (.i2l, 1) := by decide +kernel
theorem dX9_number_30 : decode cX9_number 30 = .ok (.lor, 1) := by decide +kernel
theorem dX9_number_31 : decode cX9_number 31 = .ok (.lstore_n 3, 1) := by decide +kernel
theorem dX9_number_32 : decode cX9_number 32 = .ok (.iinc 5 (-1), 3) := by decide +kernel
theorem dX9_number_35 : decode cX9_number 35 = .ok (.goto (-28), 3) := by decide +kernel
theorem dX9_number_38 : decode cX9_number 38 = .ok (.lload_n 3, 1) := by decide +kernel
theorem dX9_number_39 : decode cX9_number 39 = .ok (.lreturn, 1) := by decide +kernel
theorem dX9_put_0 : decode cX9_put 0 = .ok (.iconst 0, 1) := by decide +kernel
theorem dX9_put_1 : decode cX9_put 1 = .ok (.istore 5, 2) := by decide +kernel
theorem dX9_put_3 : decode cX9_put 3 = .ok (.iload 5, 2) := by decide +kernel
theorem dX9_put_5 : decode cX9_put 5 = .ok (.iload_n 2, 1) := by decide +kernel
theorem dX9_put_6 : decode cX9_put 6 = .ok (.if_icmp .ge 27, 3) := by decide +kernel
theorem dX9_put_9 : decode cX9_put 9 = .ok (.aload_n 0, 1) := by decide +kernel
theorem dX9_put_10 : decode cX9_put 10 = .ok (.getfield 1, 3) := by decide +kernel
theorem dX9_put_13 : decode cX9_put 13 = .ok (.iload_n 1, 1) := by decide +kernel
theorem dX9_put_14 : decode cX9_put 14 = .ok (.iload 5, 2) := by decide +kernel
theorem dX9_put_16 : decode cX9_put 16 = .ok (.iadd, 1) := by decide +kernel
theorem dX9_put_17 : decode cX9_put 17 = .ok (.lload_n 3, 1) := by decide +kernel
theorem dX9_put_18 : decode cX9_put 18 = .ok (.bipush 8, 2) := by decide +kernel
theorem dX9_put_20 : decode cX9_put 20 = .ok (.iload 5, 2) := by decide +kernel
theorem dX9_put_22 : decode cX9_put 22 = .ok (.imul, 1) := by decide +kernel
theorem dX9_put_23 : decode cX9_put 23 = .ok (.lshr, 1) := by decide +kernel
theorem dX9_put_24 : decode cX9_put 24 = .ok (.l2i, 1) := by decide +kernel
theorem dX9_put_25 : decode cX9_put 25 = .ok (.i2b, 1) := by decide +kernel
theorem dX9_put_26 : decode cX9_put 26 = .ok (.bastore, 1) := by decide +kernel
theorem dX9_put_27 : decode cX9_put 27 = .ok (.iinc 5 1, 3) := by decide +kernel
theorem dX9_put_30 : decode cX9_put 30 = .ok (.goto (-27), 3) := by decide +kernel
theorem dX9_put_33 : decode cX9_put 33 = .ok (.return_, 1) := by decide +kernel
theorem dX9_poke_0 : decode cX9_poke 0 = .ok (.iload_n 1, 1) := by decide +kernel
theorem dX9_poke_1 : decode cX9_poke 1 = .ok (.iconst 0, 1) := by decide +kernel
theorem dX9_poke_2 : decode cX9_poke 2 = .ok (.sipush 4095, 3) := by decide +kernel
theorem dX9_poke_5 : decode cX9_poke 5 = .ok (.invokestatic 7, 3) := by decide +kernel
theorem dX9_poke_8 : decode cX9_poke 8 = .ok (.ifCond .eq 14, 3) := by decide +kernel
theorem dX9_poke_11 : decode cX9_poke 11 = .ok (.iload_n 2, 1) := by decide +kernel
theorem dX9_poke_12 : decode cX9_poke 12 = .ok (.iconst 0, 1) := by decide +kernel
theorem dX9_poke_13 : decode cX9_poke 13 = .ok (.sipush 255, 3) := by decide +kernel
theorem dX9_poke_16 : decode cX9_poke 16 = .ok (.invokestatic 7, 3) := by decide +kernel
theorem dX9_poke_19 : decode cX9_poke 19 = .ok (.ifCond .ne 6, 3) := by decide +kernel
theorem dX9_poke_22 : decode cX9_poke 22 = .ok (.bipush (-2), 2) := by decide +kernel
theorem dX9_poke_24 : decode cX9_poke 24 = .ok (.ireturn, 1) := by decide +kernel
theorem dX9_poke_25 : decode cX9_poke 25 = .ok (.aload_n 0, 1) := by decide +kernel
theorem dX9_poke_26 : decode cX9_poke 26 = .ok (.getfield 1, 3) := by decide +kernel
theorem dX9_poke_29 : decode cX9_poke 29 = .ok (.iload_n 1, 1) := by decide +kernel
theorem dX9_poke_30 : decode cX9_poke 30 = .ok (.baload, 1) := by decide +kernel
theorem dX9_poke_31 : decode cX9_poke 31 = .ok (.sipush 255, 3) := by decide +kernel
theorem dX9_poke_34 : decode cX9_poke 34 = .ok (.iand, 1) := by decide +kernel
theorem dX9_poke_35 : decode cX9_poke 35 = .ok (.istore_n 3, 1) := by decide +kernel
theorem dX9_poke_36 : decode cX9_poke 36 = .ok (.aload_n 0, 1) := by decide +kernel
theorem dX9_poke_37 : decode cX9_poke 37 = .ok (.getfield 1, 3) := by decide +kernel
theorem dX9_poke_40 : decode cX9_poke 40 = .ok (.iload_n 1, 1) := by decide +kernel
theorem dX9_poke_41 : decode cX9_poke 41 = .ok (.iload_n 2, 1) := by decide +kernel
theorem dX9_poke_42 : decode cX9_poke 42 = .ok (.i2b, 1) := by decide +kernel
theorem dX9_poke_43 : decode cX9_poke 43 = .ok (.bastore, 1) := by decide +kernel
theorem dX9_poke_44 : decode cX9_poke 44 = .ok (.iload_n 3, 1) := by decide +kernel
theorem dX9_poke_45 : decode cX9_poke 45 = .ok (.ireturn, 1) := by decide +kernel
theorem dX9_peek_0 : decode cX9_peek 0 = .ok (.iload_n 1, 1) := by decide +kernel
theorem dX9_peek_1 : decode cX9_peek 1 = .ok (.iconst 0, 1) := by decide +kernel
theorem dX9_peek_2 : decode cX9_peek 2 = .ok (.sipush 4095, 3) := by decide +kernel
theorem dX9_peek_5 : decode cX9_peek 5 = .ok (.invokestatic 7, 3) := by decide +kernel
theorem dX9_peek_8 : decode cX9_peek 8 = .ok (.ifCond .eq 16, 3) := by decide +kernel
theorem dX9_peek_11 : decode cX9_peek 11 = .ok (.aload_n 0, 1) := by decide +kernel
theorem dX9_peek_12 : decode cX9_peek 12 = .ok (.getfield 1, 3) := by decide +kernel
theorem dX9_peek_15 : decode cX9_peek 15 = .ok (.iload_n 1, 1) := by decide +kernel
theorem dX9_peek_16 : decode cX9_peek 16 = .ok (.baload, 1) := by decide +kernel
theorem dX9_peek_17 : decode cX9_peek 17 = .ok (.sipush 255, 3) := by decide +kernel
theorem dX9_peek_20 : decode cX9_peek 20 = .ok (.iand, 1) := by decide +kernel
theorem dX9_peek_21 : decode cX9_peek 21 = .ok (.goto 5, 3) := by decide +kernel
theorem dX9_peek_24 : decode cX9_peek 24 = .ok (.bipush (-2), 2) := by decide +kernel
theorem dX9_peek_26 : decode cX9_peek 26 = .ok (.ireturn, 1) := by decide +kernel
theorem dX9_clear_0 : decode cX9_clear 0 = .ok (.iconst 0, 1) := by decide +kernel
theorem dX9_clear_1 : decode cX9_clear 1 = .ok (.istore_n 1, 1) := by decide +kernel
theorem dX9_clear_2 : decode cX9_clear 2 = .ok (.iload_n 1, 1) := by decide +kernel
theorem dX9_clear_3 : decode cX9_clear 3 = .ok (.iconst 3, 1) := by decide +kernel
theorem dX9_clear_4 : decode cX9_clear 4 = .ok (.if_icmp .ge 58, 3) := by decide +kernel
theorem dX9_clear_7 : decode cX9_clear 7 = .ok (.aload_n 0, 1) := by decide +kernel
theorem dX9_clear_8 : decode cX9_clear 8 = .ok (.getfield 11, 3) := by decide +kernel
theorem dX9_clear_11 : decode cX9_clear 11 = .ok (.iload_n 1, 1) := by decide +kernel
theorem dX9_clear_12 : decode cX9_clear 12 = .ok (.iconst 0, 1) := by decide +kernel
theorem dX9_clear_13 : decode cX9_clear 13 = .ok (.iastore, 1) := by decide +kernel
theorem dX9_clear_14 : decode cX9_clear 14 = .ok (.aload_n 0, 1) := by decide +kernel
theorem dX9_clear_15 : decode cX9_clear 15 = .ok (.getfield 15, 3) := by decide +kernel
theorem dX9_clear_18 : decode cX9_clear 18 = .ok (.iload_n 1, 1) := by decide +kernel
theorem dX9_clear_19 : decode cX9_clear 19 = .ok (.iconst 0, 1) := by decide +kernel
theorem dX9_clear_20 : decode cX9_clear 20 = .ok (.iastore, 1) := by decide +kernel
theorem dX9_clear_21 : decode cX9_clear 21 = .ok (.aload_n 0, 1) := by decide +kernel
theorem dX9_clear_22 : decode cX9_clear 22 = .ok (.getfield 18, 3) := by decide +kernel
theorem dX9_clear_25 : decode cX9_clear 25 = .ok (.iload_n 1, 1) := by decide +kernel
theorem dX9_clear_26 : decode cX9_clear 26 = .ok (.iconst 0, 1) := by decide +kernel
theorem dX9_clear_27 : decode cX9_clear 27 = .ok (.iastore, 1) := by decide +kernel
theorem dX9_clear_28 : decode cX9_clear 28 = .ok (.aload_n 0, 1) := by decide +kernel
theorem dX9_clear_29 : decode cX9_clear 29 = .ok (.getfield 21, 3) := by decide +kernel
theorem dX9_clear_32 : decode cX9_clear 32 = .ok (.iload_n 1, 1) := by decide +kernel
theorem dX9_clear_33 : decode cX9_clear 33 = .ok (.iconst 0, 1) := by decide +kernel
theorem dX9_clear_34 : decode cX9_clear 34 = .ok (.iastore, 1) := by decide +kernel
theorem dX9_clear_35 : decode cX9_clear 35 = .ok (.aload_n 0, 1) := by decide +kernel
theorem dX9_clear_36 : decode cX9_clear 36 = .ok (.getfield 24, 3) := by decide +kernel
theorem dX9_clear_39 : decode cX9_clear 39 = .ok (.iload_n 1, 1) := by decide +kernel
theorem dX9_clear_40 : decode cX9_clear 40 = .ok (.iconst 0, 1) := by decide +kernel
theorem dX9_clear_41 : decode cX9_clear 41 = .ok (.iastore, 1) := by decide +kernel
theorem dX9_clear_42 : decode cX9_clear 42 = .ok (.aload_n 0, 1) := by decide +kernel
theorem dX9_clear_43 : decode cX9_clear 43 = .ok (.getfield 27, 3) := by decide +kernel
theorem dX9_clear_46 : decode cX9_clear 46 = .ok (.iload_n 1, 1) := by decide +kernel
theorem dX9_clear_47 : decode cX9_clear 47 = .ok (.iconst 0, 1) := by decide +kernel
theorem dX9_clear_48 : decode cX9_clear 48 = .ok (.iastore, 1) := by decide +kernel
theorem dX9_clear_49 : decode cX9_clear 49 = .ok (.aload_n 0, 1) := by decide +kernel
theorem dX9_clear_50 : decode cX9_clear 50 = .ok (.getfield 30, 3) := by decide +kernel
theorem dX9_clear_53 : decode cX9_clear 53 = .ok (.iload_n 1, 1) := by decide +kernel
theorem dX9_clear_54 : decode cX9_clear 54 = .ok (.iconst (-1), 1) := by decide +kernel
theorem dX9_clear_55 : decode cX9_clear 55 = .ok (.iastore, 1) := by decide +kernel
theorem dX9_clear_56 : decode cX9_clear 56 = .ok (.iinc 1 1, 3) := by decide +kernel
theorem dX9_clear_59 : decode cX9_clear 59 = .ok (.goto (-57), 3) := by decide +kernel
theorem dX9_clear_62 : decode cX9_clear 62 = .ok (.iconst 0, 1) := by decide +kernel
theorem dX9_clear_63 : decode cX9_clear 63 = .ok (.istore_n 1, 1) := by decide +kernel
theorem dX9_clear_64 : decode cX9_clear 64 = .ok (.iload_n 1, 1) := by decide +kernel
theorem dX9_clear_65 : decode cX9_clear 65 = .ok (.bipush 24, 2) := by decide +kernel
theorem dX9_clear_67 : decode cX9_clear 67 = .ok (.if_icmp .ge 23, 3) := by decide +kernel
theorem dX9_clear_70 : decode cX9_clear 70 = .ok (.aload_n 0, 1) := by decide +kernel
theorem dX9_clear_71 : decode cX9_clear 71 = .ok (.getfield 33, 3) := by decide +kernel
theorem dX9_clear_74 : decode cX9_clear 74 = .ok (.iload_n 1, 1) := by decide +kernel
theorem dX9_clear_75 : decode cX9_clear 75 = .ok (.iconst 0, 1) := by decide +kernel
theorem dX9_clear_76 : decode cX9_clear 76 = .ok (.bastore, 1) := by decide +kernel
theorem dX9_clear_77 : decode cX9_clear 77 = .ok (.aload_n 0, 1) := by decide +kernel
theorem dX9_clear_78 : decode cX9_clear 78 = .ok (.getfield 37, 3) := by decide +kernel
theorem dX9_clear_81 : decode cX9_clear 81 = .ok (.iload_n 1, 1) := by decide +kernel
theorem dX9_clear_82 : decode cX9_clear 82 = .ok (.iconst (-1), 1) := by decide +kernel
theorem dX9_clear_83 : decode cX9_clear 83 = .ok (.iastore, 1) := by decide +kernel
theorem dX9_clear_84 : decode cX9_clear 84 = .ok (.iinc 1 1, 3) := by decide +kernel
theorem dX9_clear_87 : decode cX9_clear 87 = .ok (.goto (-23), 3) := by decide +kernel
theorem dX9_clear_90 : decode cX9_clear 90 = .ok (.return_, 1) := by decide +kernel
theorem dX9_init_0 : decode cX9_init 0 = .ok (.aload_n 0, 1) := by decide +kernel
theorem dX9_init_1 : decode cX9_init 1 = .ok (.invokespecial 40, 3) := by decide +kernel
theorem dX9_init_4 : decode cX9_init 4 = .ok (.aload_n 0, 1) := by decide +kernel
theorem dX9_init_5 : decode cX9_init 5 = .ok (.sipush 4096, 3) := by decide +kernel
theorem dX9_init_8 : decode cX9_init 8 = .ok (.newarray .byte, 2) := by decide +kernel
theorem dX9_init_10 : decode cX9_init 10 = .ok (.putfield 1, 3) := by decide +kernel
theorem dX9_init_13 : decode cX9_init 13 = .ok (.aload_n 0, 1) := by decide +kernel
theorem dX9_init_14 : decode cX9_init 14 = .ok (.sipush 2048, 3) := by decide +kernel
theorem dX9_init_17 : decode cX9_init 17 = .ok (.newarray .byte, 2) := by decide +kernel
theorem dX9_init_19 : decode cX9_init 19 = .ok (.putfield 46, 3) := by decide +kernel
theorem dX9_init_22 : decode cX9_init 22 = .ok (.aload_n 0, 1) := by decide +kernel
theorem dX9_init_23 : decode cX9_init 23 = .ok (.iconst 3, 1) := by decide +kernel
theorem dX9_init_24 : decode cX9_init 24 = .ok (.newarray .int, 2) := by decide +kernel
theorem dX9_init_26 : decode cX9_init 26 = .ok (.putfield 11, 3) := by decide +kernel
theorem dX9_init_29 : decode cX9_init 29 = .ok (.aload_n 0, 1) := by decide +kernel
theorem dX9_init_30 : decode cX9_init 30 = .ok (.iconst 3, 1) := by decide +kernel
theorem dX9_init_31 : decode cX9_init 31 = .ok (.newarray .int, 2) := by decide +kernel
theorem dX9_init_33 : decode cX9_init 33 = .ok (.putfield 49, 3) := by decide +kernel
theorem dX9_init_36 : decode cX9_init 36 = .ok (.aload_n 0, 1) := by decide +kernel
theorem dX9_init_37 : decode cX9_init 37 = .ok (.iconst 3, 1) := by decide +kernel
theorem dX9_init_38 : decode cX9_init 38 = .ok (.newarray .int, 2) := by decide +kernel
theorem dX9_init_40 : decode cX9_init 40 = .ok (.putfield 52, 3) := by decide +kernel
theorem dX9_init_43 : decode cX9_init 43 = .ok (.aload_n 0, 1) := by decide +kernel
theorem dX9_init_44 : decode cX9_init 44 = .ok (.iconst 3, 1) := by decide +kernel
theorem dX9_init_45 : decode cX9_init 45 = .ok (.newarray .int, 2) := by decide +kernel
theorem dX9_init_47 : decode cX9_init 47 = .ok (.putfield 55, 3) := by decide +kernel
theorem dX9_init_50 : decode cX9_init 50 = .ok (.aload_n 0, 1) := by decide +kernel
theorem dX9_init_51 : decode cX9_init 51 = .ok (.iconst 3, 1) := by decide +kernel
theorem dX9_init_52 : decode cX9_init 52 = .ok (.newarray .int, 2) := by decide +kernel
theorem dX9_init_54 : decode cX9_init 54 = .ok (.putfield 15, 3) := by decide +kernel
theorem dX9_init_57 : decode cX9_init 57 = .ok (.aload_n 0, 1) := by decide +kernel
theorem dX9_init_58 : decode cX9_init 58 = .ok (.iconst 3, 1) := by decide +kernel
theorem dX9_init_59 : decode cX9_init 59 = .ok (.newarray .int, 2) := by decide +kernel
theorem dX9_init_61 : decode cX9_init 61 = .ok (.putfield 18, 3) := by decide +kernel
theorem dX9_init_64 : decode cX9_init 64 = .ok (.aload_n 0, 1) := by decide +kernel
theorem dX9_init_65 : decode cX9_init 65 = .ok (.iconst 3, 1) := by decide +kernel
theorem dX9_init_66 : decode cX9_init 66 = .ok (.newarray .int, 2) := by decide +kernel
theorem dX9_init_68 : decode cX9_init 68 = .ok (.putfield 21, 3) := by decide +kernel
theorem dX9_init_71 : decode cX9_init 71 = .ok (.aload_n 0, 1) := by decide +kernel
theorem dX9_init_72 : decode cX9_init 72 = .ok (.bipush 20, 2) := by decide +kernel
theorem dX9_init_74 : decode cX9_init 74 = .ok (.newarray .int, 2) := by decide +kernel
theorem dX9_init_76 : decode cX9_init 76 = .ok (.putfield 58, 3) := by decide +kernel
theorem dX9_init_79 : decode cX9_init 79 = .ok (.aload_n 0, 1) := by decide +kernel
theorem dX9_init_80 : decode cX9_init 80 = .ok (.bipush 20, 2) := by decide +kernel
theorem dX9_init_82 : decode cX9_init 82 = .ok (.newarray .int, 2) := by decide +kernel
theorem dX9_init_84 : decode cX9_init 84 = .ok (.putfield 61, 3) := by decide +kernel
theorem dX9_init_87 : decode cX9_init 87 = .ok (.aload_n 0, 1) := by decide +kernel
theorem dX9_init_88 : decode cX9_init 88 = .ok (.bipush 20, 2) := by decide +kernel
theorem dX9_init_90 : decode cX9_init 90 = .ok (.newarray .int, 2) := by decide +kernel
theorem dX9_init_92 : decode cX9_init 92 = .ok (.putfield 64, 3) := by decide +kernel
theorem dX9_init_95 : decode cX9_init 95 = .ok (.aload_n 0, 1) := by decide +kernel
theorem dX9_init_96 : decode cX9_init 96 = .ok (.bipush 20, 2) := by decide +kernel
theorem dX9_init_98 : decode cX9_init 98 = .ok (.newarray .int, 2) := by decide +kernel
theorem dX9_init_100 : decode cX9_init 100 = .ok (.putfield 67, 3) := by decide +kernel
theorem dX9_init_103 : decode cX9_init 103 = .ok (.aload_n 0, 1) := by decide +kernel
theorem dX9_init_104 : decode cX9_init 104 = .ok (.sipush 1280, 3) := by decide +kernel
theorem dX9_init_107 : decode cX9_init 107 = .ok (.newarray .byte, 2) := by decide +kernel
theorem dX9_init_109 : decode cX9_init 109 = .ok (.putfield 70, 3) := by decide +kernel
theorem dX9_init_112 : decode cX9_init 112 = .ok (.aload_n 0, 1) := by decide +kernel
theorem dX9_init_113 : decode cX9_init 113 = .ok (.bipush 16, 2) := by decide +kernel
theorem dX9_init_115 : decode cX9_init 115 = .ok (.newarray .int, 2) := by decide +kernel
theorem dX9_init_117 : decode cX9_init 117 = .ok (.putfield 73, 3) := by decide +kernel
theorem dX9_init_120 : decode cX9_init 120 = .ok (.aload_n 0, 1) := by decide +kernel
theorem dX9_init_121 : decode cX9_init 121 = .ok (.bipush 24, 2) := by decide +kernel
theorem dX9_init_123 : decode cX9_init 123 = .ok (.newarray .boolean, 2) := by decide +kernel
theorem dX9_init_125 : decode cX9_init 125 = .ok (.putfield 33, 3) := by decide +kernel
theorem dX9_init_128 : decode cX9_init 128 = .ok (.aload_n 0, 1) := by decide +kernel
theorem dX9_init_129 : decode cX9_init 129 = .ok (.bipush 24, 2) := by decide +kernel
theorem dX9_init_131 : decode cX9_init 131 = .ok (.newarray .int, 2) := by decide +kernel
theorem dX9_init_133 : decode cX9_init 133 = .ok (.putfield 37, 3) := by decide +kernel
theorem dX9_init_136 : decode cX9_init 136 = .ok (.aload_n 0, 1) := by decide +kernel
theorem dX9_init_137 : decode cX9_init 137 = .ok (.iconst 3, 1) := by decide +kernel
theorem dX9_init_138 : decode cX9_init 138 = .ok (.newarray .int, 2) := by decide +kernel
theorem dX9_init_140 : decode cX9_init 140 = .ok (.putfield 24, 3) := by decide +kernel
theorem dX9_init_143 : decode cX9_init 143 = .ok (.aload_n 0, 1) := by decide +kernel
theorem dX9_init_144 : decode cX9_init 144 = .ok (.iconst 3, 1) := by decide +kernel
theorem dX9_init_145 : decode cX9_init 145 = .ok (.newarray .int, 2) := by decide +kernel
theorem dX9_init_147 : decode cX9_init 147 = .ok (.putfield 27, 3) := by decide +kernel
theorem dX9_init_150 : decode cX9_init 150 = .ok (.aload_n 0, 1) := by decide +kernel
theorem dX9_init_151 : decode cX9_init 151 = .ok (.iconst 3, 1) := by decide +kernel
theorem dX9_init_152 : decode cX9_init 152 = .ok (.newarray .int, 2) := by decide +kernel
theorem dX9_init_154 : decode cX9_init 154 = .ok (.putfield 30, 3) := by decide +kernel
theorem dX9_init_157 : decode cX9_init 157 = .ok (.aload_n 0, 1) := by decide +kernel
theorem dX9_init_158 : decode cX9_init 158 = .ok (.invokevirtual 76, 3) := by decide +kernel
theorem dX9_init_161 : decode cX9_init 161 = .ok (.return_, 1) := by decide +kernel
theorem dX9_start_0 : decode cX9_start 0 = .ok (.aload_n 0, 1) := by decide +kernel
theorem dX9_start_1 : decode cX9_start 1 = .ok (.invokevirtual 76, 3) := by decide +kernel
theorem dX9_start_4 : decode cX9_start 4 = .ok (.iconst 0, 1) := by decide +kernel
theorem dX9_start_5 : decode cX9_start 5 = .ok (.istore_n 2, 1) := by decide +kernel
theorem dX9_start_6 : decode cX9_start 6 = .ok (.iload_n 2, 1) := by decide +kernel
theorem dX9_start_7 : decode cX9_start 7 = .ok (.sipush 4096, 3) := by decide +kernel
theorem dX9_start_10 : decode cX9_start 10 = .ok (.if_icmp .ge 16, 3) := by decide +kernel
theorem dX9_start_13 : decode cX9_start 13 = .ok (.aload_n 0, 1) := by decide +kernel
theorem dX9_start_14 : decode cX9_start 14 = .ok (.getfield 1, 3) := by decide +kernel
theorem dX9_start_17 : decode cX9_start 17 = .ok (.iload_n 2, 1) := by decide +kernel
theorem dX9_start_18 : decode cX9_start 18 = .ok (.iconst 0, 1) := by decide +kernel
theorem dX9_start_19 : decode cX9_start 19 = .ok (.bastore, 1) := by decide +kernel
theorem dX9_start_20 : decode cX9_start 20 = .ok (.iinc 2 1, 3) := by decide +kernel
theorem dX9_start_23 : decode cX9_start 23 = .ok (.goto (-17), 3) := by decide +kernel
theorem dX9_start_26 : decode cX9_start 26 = .ok (.aload_n 0, 1) := by decide +kernel
theorem dX9_start_27 : decode cX9_start 27 = .ok (.iload_n 1, 1) := by decide +kernel
theorem dX9_start_28 : decode cX9_start 28 = .ok (.putfield 79, 3) := by decide +kernel
theorem dX9_start_31 : decode cX9_start 31 = .ok (.aload_n 0, 1) := by decide +kernel
theorem dX9_start_32 : decode cX9_start 32 = .ok (.iconst 1, 1) := by decide +kernel
theorem dX9_start_33 : decode cX9_start 33 = .ok (.putfield 83, 3) := by decide +kernel
theorem dX9_start_36 : decode cX9_start 36 = .ok (.iconst 0, 1) := by decide +kernel
theorem dX9_start_37 : decode cX9_start 37 = .ok (.istore_n 2, 1) := by decide +kernel
theorem dX9_start_38 : decode cX9_start 38 = .ok (.iload_n 2, 1) := by decide +kernel
theorem dX9_start_39 : decode cX9_start 39 = .ok (.iconst 3, 1) := by decide +kernel
theorem dX9_start_40 : decode cX9_start 40 = .ok (.if_icmp .ge 58, 3) := by decide +kernel
theorem dX9_start_43 : decode cX9_start 43 = .ok (.aload_n 0, 1) := by decide +kernel
theorem dX9_start_44 : decode cX9_start 44 = .ok (.getfield 11, 3) := by decide +kernel
theorem dX9_start_47 : decode cX9_start 47 = .ok (.iload_n 2, 1) := by decide +kernel
theorem dX9_start_48 : decode cX9_start 48 = .ok (.bipush 8, 2) := by decide +kernel
theorem dX9_start_50 : decode cX9_start 50 = .ok (.iastore, 1) := by decide +kernel
theorem dX9_start_51 : decode cX9_start 51 = .ok (.aload_n 0, 1) := by decide +kernel
theorem dX9_start_52 : decode cX9_start 52 = .ok (.getfield 49, 3) := by decide +kernel
theorem dX9_start_55 : decode cX9_start 55 = .ok (.iload_n 2, 1) := by decide +kernel
theorem dX9_start_56 : decode cX9_start 56 = .ok (.sipush 256, 3) := by decide +kernel
theorem dX9_start_59 : decode cX9_start 59 = .ok (.iload_n 2, 1) := by decide +kernel
theorem dX9_start_60 : decode cX9_start 60 = .ok (.imul, 1) := by decide +kernel
theorem dX9_start_61 : decode cX9_start 61 = .ok (.iastore, 1) := by decide +kernel
theorem dX9_start_62 : decode cX9_start 62 = .ok (.aload_n 0, 1) := by decide +kernel
theorem dX9_start_63 : decode cX9_start 63 = .ok (.getfield 52, 3) := by decide +kernel
theorem dX9_start_66 : decode cX9_start 66 = .ok (.iload_n 2, 1) := by decide +kernel
theorem dX9_start_67 : decode cX9_start 67 = .ok (.sipush 256, 3) := by decide +kernel
theorem dX9_start_70 : decode cX9_start 70 = .ok (.iload_n 2, 1) := by decide +kernel
theorem dX9_start_71 : decode cX9_start 71 = .ok (.imul, 1) := by decide +kernel
theorem dX9_start_72 : decode cX9_start 72 = .ok (.sipush 128, 3) := by decide +kernel
theorem dX9_start_75 : decode cX9_start 75 = .ok (.iadd, 1) := by decide +kernel
theorem dX9_start_76 : decode cX9_start 76 = .ok (.iastore, 1) := by decide +kernel
theorem dX9_start_77 : decode cX9_start 77 = .ok (.aload_n 0, 1) := by decide +kernel
theorem dX9_start_78 : decode cX9_start 78 = .ok (.getfield 55, 3) := by decide +kernel
theorem dX9_start_81 : decode cX9_start 81 = .ok (.iload_n 2, 1) := by decide +kernel
theorem dX9_start_82 : decode cX9_start 82 = .ok (.sipush 256, 3) := by decide +kernel
theorem dX9_start_85 : decode cX9_start 85 = .ok (.iload_n 2, 1) := by decide +kernel
theorem dX9_start_86 : decode cX9_start 86 = .ok (.imul, 1) := by decide +kernel
theorem dX9_start_87 : decode cX9_start 87 = .ok (.sipush 152, 3) := by decide +kernel
theorem dX9_start_90 : decode cX9_start 90 = .ok (.iadd, 1) := by decide +kernel
theorem dX9_start_91 : decode cX9_start 91 = .ok (.iastore, 1) := by decide +kernel
theorem dX9_start_92 : decode cX9_start 92 = .ok (.iinc 2 1, 3) := by decide +kernel
theorem dX9_start_95 : decode cX9_start 95 = .ok (.goto (-57), 3) := by decide +kernel
theorem dX9_start_98 : decode cX9_start 98 = .ok (.aload_n 0, 1) := by decide +kernel
theorem dX9_start_99 : decode cX9_start 99 = .ok (.iconst 1, 1) := by decide +kernel
theorem dX9_start_100 : decode cX9_start 100 = .ok (.putfield 86, 3) := by decide +kernel
theorem dX9_start_103 : decode cX9_start 103 = .ok (.iconst 0, 1) := by decide +kernel
theorem dX9_start_104 : decode cX9_start 104 = .ok (.ireturn, 1) := by decide +kernel
theorem dX9_reset_0 : decode cX9_reset 0 = .ok (.aload_n 0, 1) := by decide +kernel
theorem dX9_reset_1 : decode cX9_reset 1 = .ok (.invokevirtual 76, 3) := by decide +kernel
theorem dX9_reset_4 : decode cX9_reset 4 = .ok (.aload_n 0, 1) := by decide +kernel
theorem dX9_reset_5 : decode cX9_reset 5 = .ok (.iload_n 1, 1) := by decide +kernel
theorem dX9_reset_6 : decode cX9_reset 6 = .ok (.putfield 79, 3) := by decide +kernel
theorem dX9_reset_9 : decode cX9_reset 9 = .ok (.aload_n 0, 1) := by decide +kernel
theorem dX9_reset_10 : decode cX9_reset 10 = .ok (.iconst 0, 1) := by decide +kernel
theorem dX9_reset_11 : decode cX9_reset 11 = .ok (.putfield 83, 3) := by decide +kernel
theorem dX9_reset_14 : decode cX9_reset 14 = .ok (.aload_n 0, 1) := by decide +kernel
theorem dX9_reset_15 : decode cX9_reset 15 = .ok (.iconst 0, 1) := by decide +kernel
theorem dX9_reset_16 : decode cX9_reset 16 = .ok (.putfield 86, 3) := by decide +kernel
theorem dX9_reset_19 : decode cX9_reset 19 = .ok (.iconst 0, 1) := by decide +kernel
theorem dX9_reset_20 : decode cX9_reset 20 = .ok (.ireturn, 1) := by decide +kernel
theorem dX9_queue_0 : decode cX9_queue 0 = .ok (.iload_n 1, 1) := by decide +kernel
theorem dX9_queue_1 : decode cX9_queue 1 = .ok (.iconst 0, 1) := by decide +kernel
theorem dX9_queue_2 : decode cX9_queue 2 = .ok (.iconst 2, 1) := by decide +kernel
theorem dX9_queue_3 : decode cX9_queue 3 = .ok (.invokestatic 7, 3) := by decide +kernel
theorem dX9_queue_6 : decode cX9_queue 6 = .ok (.ifCond .eq 46, 3) := by decide +kernel
theorem dX9_queue_9 : decode cX9_queue 9 = .ok (.aload_n 0, 1) := by decide +kernel
theorem dX9_queue_10 : decode cX9_queue 10 = .ok (.getfield 11, 3) := by decide +kernel
theorem dX9_queue_13 : decode cX9_queue 13 = .ok (.iload_n 1, 1) := by decide +kernel
theorem dX9_queue_14 : decode cX9_queue 14 = .ok (.iaload, 1) := by decide +kernel
theorem dX9_queue_15 : decode cX9_queue 15 = .ok (.ifCond .gt 37, 3) := by decide +kernel
theorem dX9_queue_18 : decode cX9_queue 18 = .ok (.aload_n 0, 1) := by decide +kernel
theorem dX9_queue_19 : decode cX9_queue 19 = .ok (.getfield 86, 3) := by decide +kernel
theorem dX9_queue_22 : decode cX9_queue 22 = .ok (.ifCond .ne 30, 3) := by decide +kernel
theorem dX9_queue_25 : decode cX9_queue 25 = .ok (.iload_n 2, 1) := by decide +kernel
theorem dX9_queue_26 : decode cX9_queue 26 = .ok (.iconst 1, 1) := by decide +kernel
theorem dX9_queue_27 : decode cX9_queue 27 = .ok (.if_icmp .eq 28, 3) := by decide +kernel
theorem dX9_queue_30 : decode cX9_queue 30 = .ok (.iload_n 2, 1) := by decide +kernel
theorem dX9_queue_31 : decode cX9_queue 31 = .ok (.iconst 2, 1) := by decide +kernel
theorem dX9_queue_32 : decode cX9_queue 32 = .ok (.if_icmp .eq 23, 3) := by decide +kernel
theorem dX9_queue_35 : decode cX9_queue 35 = .ok (.iload_n 2, 1) := by decide +kernel
theorem dX9_queue_36 : decode cX9_queue 36 = .ok (.iconst 4, 1) := by decide +kernel
theorem dX9_queue_37 : decode cX9_queue 37 = .ok (.if_icmp .eq 18, 3) := by decide +kernel
theorem dX9_queue_40 : decode cX9_queue 40 = .ok (.iload_n 2, 1) := by decide +kernel
theorem dX9_queue_41 : decode cX9_queue 41 = .ok (.bipush 8, 2) := by decide +kernel
theorem dX9_queue_43 : decode cX9_queue 43 = .ok (.if_icmp .eq 12, 3) := by decide +kernel
theorem dX9_queue_46 : decode cX9_queue 46 = .ok (.iload_n 2, 1) := by decide +kernel
theorem dX9_queue_47 : decode cX9_queue 47 = .ok (.bipush 16, 2) := by decide +kernel
theorem dX9_queue_49 : decode cX9_queue 49 = .ok (.if_icmp .eq 6, 3) := by decide +kernel
theorem dX9_queue_52 : decode cX9_queue 52 = .ok (.bipush (-2), 2) := by decide +kernel
theorem dX9_queue_54 : decode cX9_queue 54 = .ok (.ireturn, 1) := by decide +kernel
theorem dX9_queue_55 : decode cX9_queue 55 = .ok (.iload_n 3, 1) := by decide +kernel
theorem dX9_queue_56 : decode cX9_queue 56 = .ok (.iconst 0, 1) := by decide +kernel
theorem dX9_queue_57 : decode cX9_queue 57 = .ok (.sipush 4096, 3) := by decide +kernel
theorem dX9_queue_60 : decode cX9_queue 60 = .ok (.bipush 16, 2) := by decide +kernel
theorem dX9_queue_62 : decode cX9_queue 62 = .ok (.iload_n 2, 1) := by decide +kernel
theorem dX9_queue_63 : decode cX9_queue 63 = .ok (.imul, 1) := by decide +kernel
theorem dX9_queue_64 : decode cX9_queue 64 = .ok (.isub, 1) := by decide +kernel
theorem dX9_queue_65 : decode cX9_queue 65 = .ok (.invokestatic 7, 3) := by decide +kernel
theorem dX9_queue_68 : decode cX9_queue 68 = .ok (.ifCond .eq 57, 3) := by decide +kernel
theorem dX9_queue_71 : decode cX9_queue 71 = .ok (.iload_n 3, 1) := by decide +kernel
theorem dX9_queue_72 : decode cX9_queue 72 = .ok (.bipush 16, 2) := by decide +kernel
theorem dX9_queue_74 : decode cX9_queue 74 = .ok (.irem, 1) := by decide +kernel
theorem dX9_queue_75 : decode cX9_queue 75 = .ok (.ifCond .ne 50, 3) := by decide +kernel
theorem dX9_queue_78 : decode cX9_queue 78 = .ok (.iload 4, 2) := by decide +kernel
theorem dX9_queue_80 : decode cX9_queue 80 = .ok (.iconst 0, 1) := by decide +kernel
theorem dX9_queue_81 : decode cX9_queue 81 = .ok (.sipush 4092, 3) := by decide +kernel
theorem dX9_queue_84 : decode cX9_queue 84 = .ok (.iconst 2, 1) := by decide +kernel
theorem dX9_queue_85 : decode cX9_queue 85 = .ok (.iload_n 2, 1) := by decide +kernel
theorem dX9_queue_86 : decode cX9_queue 86 = .ok (.imul, 1) := by decide +kernel
theorem dX9_queue_87 : decode cX9_queue 87 = .ok (.isub, 1) := by decide +kernel
theorem dX9_queue_88 : decode cX9_queue 88 = .ok (.invokestatic 7, 3) := by decide +kernel
theorem dX9_queue_91 : decode cX9_queue 91 = .ok (.ifCond .eq 34, 3) := by decide +kernel
theorem dX9_queue_94 : decode cX9_queue 94 = .ok (.iload 4, 2) := by decide +kernel
theorem dX9_queue_96 : decode cX9_queue 96 = .ok (.iconst 2, 1) := by decide +kernel
theorem dX9_queue_97 : decode cX9_queue 97 = .ok (.irem, 1) := by decide +kernel
theorem dX9_queue_98 : decode cX9_queue 98 = .ok (.ifCond .ne 27, 3) := by decide +kernel
theorem dX9_queue_101 : decode cX9_queue 101 = .ok (.iload 5, 2) := by decide +kernel
theorem dX9_queue_103 : decode cX9_queue 103 = .ok (.iconst 0, 1) := by decide +kernel
theorem dX9_queue_104 : decode cX9_queue 104 = .ok (.sipush 4092, 3) := by decide +kernel
theorem dX9_queue_107 : decode cX9_queue 107 = .ok (.bipush 8, 2) := by decide +kernel
theorem dX9_queue_109 : decode cX9_queue 109 = .ok (.iload_n 2, 1) := by decide +kernel
theorem dX9_queue_110 : decode cX9_queue 110 = .ok (.imul, 1) := by decide +kernel
theorem dX9_queue_111 : decode cX9_queue 111 = .ok (.isub, 1) := by decide +kernel
theorem dX9_queue_112 : decode cX9_queue 112 = .ok (.invokestatic 7, 3) := by decide +kernel
theorem dX9_queue_115 : decode cX9_queue 115 = .ok (.ifCond .eq 10, 3) := by decide +kernel
theorem dX9_queue_118 : decode cX9_queue 118 = .ok (.iload 5, 2) := by decide +kernel
theorem dX9_queue_120 : decode cX9_queue 120 = .ok (.iconst 4, 1) := by decide +kernel
theorem dX9_queue_121 : decode cX9_queue 121 = .ok (.irem, 1) := by decide +kernel
theorem dX9_queue_122 : decode cX9_queue 122 = .ok (.ifCond .eq 6, 3) := by decide +kernel
theorem dX9_queue_125 : decode cX9_queue 125 = .ok (.bipush (-2), 2) := by decide +kernel
theorem dX9_queue_127 : decode cX9_queue 127 = .ok (.ireturn, 1) := by decide +kernel
theorem dX9_queue_128 : decode cX9_queue 128 = .ok (.aload_n 0, 1) := by decide +kernel
theorem dX9_queue_129 : decode cX9_queue 129 = .ok (.getfield 11, 3) := by decide +kernel
theorem dX9_queue_132 : decode cX9_queue 132 = .ok (.iload_n 1, 1) := by decide +kernel
theorem dX9_queue_133 : decode cX9_queue 133 = .ok (.iload_n 2, 1) := by decide +kernel
theorem dX9_queue_134 : decode cX9_queue 134 = .ok (.iastore, 1) := by decide +kernel
theorem dX9_queue_135 : decode cX9_queue 135 = .ok (.aload_n 0, 1) := by decide +kernel
theorem dX9_queue_136 : decode cX9_queue 136 = .ok (.getfield 49, 3) := by decide +kernel
theorem dX9_queue_139 : decode cX9_queue 139 = .ok (.iload_n 1, 1) := by decide +kernel
theorem dX9_queue_140 : decode cX9_queue 140 = .ok (.iload_n 3, 1) := by decide +kernel
theorem dX9_queue_141 : decode cX9_queue 141 = .ok (.iastore, 1) := by decide +kernel
theorem dX9_queue_142 : decode cX9_queue 142 = .ok (.aload_n 0, 1) := by decide +kernel
theorem dX9_queue_143 : decode cX9_queue 143 = .ok (.getfield 52, 3) := by decide +kernel
theorem dX9_queue_146 : decode cX9_queue 146 = .ok (.iload_n 1, 1) := by decide +kernel
theorem dX9_queue_147 : decode cX9_queue 147 = .ok (.iload 4, 2) := by decide +kernel
theorem dX9_queue_149 : decode cX9_queue 149 = .ok (.iastore, 1) := by decide +kernel
theorem dX9_queue_150 : decode cX9_queue 150 = .ok (.aload_n 0, 1) := by decide +kernel
theorem dX9_queue_151 : decode cX9_queue 151 = .ok (.getfield 55, 3) := by decide +kernel
theorem dX9_queue_154 : decode cX9_queue 154 = .ok (.iload_n 1, 1) := by decide +kernel
theorem dX9_queue_155 : decode cX9_queue 155 = .ok (.iload 5, 2) := by decide +kernel
theorem dX9_queue_157 : decode cX9_queue 157 = .ok (.iastore, 1) := by decide +kernel
theorem dX9_queue_158 : decode cX9_queue 158 = .ok (.iconst 0, 1) := by decide +kernel
theorem dX9_queue_159 : decode cX9_queue 159 = .ok (.ireturn, 1) := by decide +kernel
theorem dX9_run_0 : decode cX9_run 0 = .ok (.aload_n 0, 1) := by decide +kernel
theorem dX9_run_1 : decode cX9_run 1 = .ok (.getfield 86, 3) := by decide +kernel
theorem dX9_run_4 : decode cX9_run 4 = .ok (.ifCond .eq 6, 3) := by decide +kernel
theorem dX9_run_7 : decode cX9_run 7 = .ok (.bipush (-2), 2) := by decide +kernel
theorem dX9_run_9 : decode cX9_run 9 = .ok (.ireturn, 1) := by decide +kernel
theorem dX9_run_10 : decode cX9_run 10 = .ok (.aload_n 0, 1) := by decide +kernel
theorem dX9_run_11 : decode cX9_run 11 = .ok (.iconst 1, 1) := by decide +kernel
theorem dX9_run_12 : decode cX9_run 12 = .ok (.putfield 86, 3) := by decide +kernel
theorem dX9_run_15 : decode cX9_run 15 = .ok (.iconst 0, 1) := by decide +kernel
theorem dX9_run_16 : decode cX9_run 16 = .ok (.ireturn, 1) := by decide +kernel
theorem dX9_hasSomething_0 : decode cX9_hasSomething 0 = .ok (.aload_n 0, 1) := by decide +kernel
theorem dX9_hasSomething_1 : decode cX9_hasSomething 1 = .ok (.getfield 86, 3) := by decide +kernel
theorem dX9_hasSomething_4 : decode cX9_hasSomething 4 = .ok (.iconst 1, 1) := by decide +kernel
theorem dX9_hasSomething_5 : decode cX9_hasSomething 5 = .ok (.if_icmp .ne 12, 3) := by decide +kernel
theorem dX9_hasSomething_8 : decode cX9_hasSomething 8 = .ok (.aload_n 0, 1) := by decide +kernel
theorem dX9_hasSomething_9 : decode cX9_hasSomething 9 = .ok (.getfield 11, 3) := by decide +kernel
theorem dX9_hasSomething_12 : decode cX9_hasSomething 12 = .ok (.iload_n 1, 1) := by decide +kernel
theorem dX9_hasSomething_13 : decode cX9_hasSomething 13 = .ok (.iaload, 1) := by decide +kernel
theorem dX9_hasSomething_14 : decode cX9_hasSomething 14 = .ok (.ifCond .ne 5, 3) := by decide +kernel
theorem dX9_hasSomething_17 : decode cX9_hasSomething 17 = .ok (.iconst 0, 1) := by decide +kernel
theorem dX9_hasSomething_18 : decode cX9_hasSomething 18 = .ok (.ireturn, 1) := by decide +kernel
theorem dX9_hasSomething_19 : decode cX9_hasSomething 19 = .ok (.aload_n 0, 1) := by decide +kernel
theorem dX9_hasSomething_20 : decode cX9_hasSomething 20 = .ok (.aload_n 0, 1) := by decide +kernel
theorem dX9_hasSomething_21 : decode cX9_hasSomething 21 = .ok (.getfield 52, 3) := by decide +kernel
theorem dX9_hasSomething_24 : decode cX9_hasSomething 24 = .ok (.iload_n 1, 1) := by decide +kernel
theorem dX9_hasSomething_25 : decode cX9_hasSomething 25 = .ok (.iaload, 1) := by decide +kernel
theorem dX9_hasSomething_26 : decode cX9_hasSomething 26 = .ok (.iconst 2, 1) := by decide +kernel
theorem dX9_hasSomething_27 : decode cX9_hasSomething 27 = .ok (.iadd, 1) := by decide +kernel
theorem dX9_hasSomething_28 : decode cX9_hasSomething 28 = .ok (.iconst 2, 1) := by decide +kernel
theorem dX9_hasSomething_29 : decode cX9_hasSomething 29 = .ok (.invokevirtual 90, 3) := by decide +kernel
theorem dX9_hasSomething_32 : decode cX9_hasSomething 32 = .ok (.l2i, 1) := by decide +kernel
theorem dX9_hasSomething_33 : decode cX9_hasSomething 33 = .ok (.istore_n 2, 1) := by decide +kernel
theorem dX9_hasSomething_34 : decode cX9_hasSomething 34 = .ok (.iload_n 2, 1) := by decide +kernel
theorem dX9_hasSomething_35 : decode cX9_hasSomething 35 = .ok (.aload_n 0, 1) := by decide +kernel
theorem dX9_hasSomething_36 : decode cX9_hasSomething 36 = .ok (.getfield 15, 3) := by decide +kernel
theorem dX9_hasSomething_39 : decode cX9_hasSomething 39 = .ok (.iload_n 1, 1) := by decide +kernel
theorem dX9_hasSomething_40 : decode cX9_hasSomething 40 = .ok (.iaload, 1) := by decide +kernel
theorem dX9_hasSomething_41 : decode cX9_hasSomething 41 = .ok (.isub, 1) := by decide +kernel
theorem dX9_hasSomething_42 : decode cX9_hasSomething 42 = .ok (.ldc 94, 2) := by decide +kernel
theorem dX9_hasSomething_44 : decode cX9_hasSomething 44 = .ok (.iand, 1) := by decide +kernel
theorem dX9_hasSomething_45 : decode cX9_hasSomething 45 = .ok (.istore_n 3, 1) := by decide +kernel
theorem dX9_hasSomething_46 : decode cX9_hasSomething 46 = .ok (.iload_n 3, 1) := by decide +kernel
theorem dX9_hasSomething_47 : decode cX9_hasSomething 47 = .ok (.aload_n 0, 1) := by decide +kernel
theorem dX9_hasSomething_48 : decode cX9_hasSomething 48 = .ok (.getfield 11, 3) := by decide +kernel
theorem dX9_hasSomething_51 : decode cX9_hasSomething 51 = .ok (.iload_n 1, 1) := by decide +kernel
theorem dX9_hasSomething_52 : decode cX9_hasSomething 52 = .ok (.iaload, 1) := by decide +kernel
theorem dX9_hasSomething_53 : decode cX9_hasSomething 53 = .ok (.if_icmp .le 10, 3) := by decide +kernel
theorem dX9_hasSomething_56 : decode cX9_hasSomething 56 = .ok (.aload_n 0, 1) := by decide +kernel
theorem dX9_hasSomething_57 : decode cX9_hasSomething 57 = .ok (.iconst 2, 1) := by decide +kernel
theorem dX9_hasSomething_58 : decode cX9_hasSomething 58 = .ok (.putfield 86, 3) := by decide +kernel
theorem dX9_hasSomething_61 : decode cX9_hasSomething 61 = .ok (.iconst 0, 1) := by decide +kernel
theorem dX9_hasSomething_62 : decode cX9_hasSomething 62 = .ok (.ireturn, 1) := by decide +kernel
theorem dX9_hasSomething_63 : decode cX9_hasSomething 63 = .ok (.iload_n 3, 1) := by decide +kernel
theorem dX9_hasSomething_64 : decode cX9_hasSomething 64 = .ok (.ifCond .le 7, 3) := by decide +kernel
theorem dX9_hasSomething_67 : decode cX9_hasSomething 67 = .ok (.iconst 1, 1) := by decide +kernel
theorem dX9_hasSomething_68 : decode cX9_hasSomething 68 = .ok (.goto 4, 3) := by decide +kernel
theorem dX9_hasSomething_71 : decode cX9_hasSomething 71 = .ok (.iconst 0, 1) := by decide +kernel
theorem dX9_hasSomething_72 : decode cX9_hasSomething 72 = .ok (.ireturn, 1) := by decide +kernel
theorem dX9_take_0 : decode cX9_take 0 = .ok (.aload_n 0, 1) := by decide +kernel
theorem dX9_take_1 : decode cX9_take 1 = .ok (.iconst 0, 1) := by decide +kernel
theorem dX9_take_2 : decode cX9_take 2 = .ok (.putfield 95, 3) := by decide +kernel
theorem dX9_take_5 : decode cX9_take 5 = .ok (.aload_n 0, 1) := by decide +kernel
theorem dX9_take_6 : decode cX9_take 6 = .ok (.iconst 0, 1) := by decide +kernel
theorem dX9_take_7 : decode cX9_take 7 = .ok (.putfield 98, 3) := by decide +kernel
theorem dX9_take_10 : decode cX9_take 10 = .ok (.aload_n 0, 1) := by decide +kernel
theorem dX9_take_11 : decode cX9_take 11 = .ok (.iconst 0, 1) := by decide +kernel
theorem dX9_take_12 : decode cX9_take 12 = .ok (.putfield 101, 3) := by decide +kernel
theorem dX9_take_15 : decode cX9_take 15 = .ok (.aload_n 0, 1) := by decide +kernel
theorem dX9_take_16 : decode cX9_take 16 = .ok (.iconst 0, 1) := by decide +kernel
theorem dX9_take_17 : decode cX9_take 17 = .ok (.putfield 104, 3) := by decide +kernel
theorem dX9_take_20 : decode cX9_take 20 = .ok (.aload_n 0, 1) := by decide +kernel
theorem dX9_take_21 : decode cX9_take 21 = .ok (.getfield 11, 3) := by decide +kernel
theorem dX9_take_24 : decode cX9_take 24 = .ok (.iload_n 1, 1) := by decide +kernel
theorem dX9_take_25 : decode cX9_take 25 = .ok (.iaload, 1) := by decide +kernel
theorem dX9_take_26 : decode cX9_take 26 = .ok (.istore_n 2, 1) := by decide +kernel
theorem dX9_take_27 : decode cX9_take 27 = .ok (.aload_n 0, 1) := by decide +kernel
theorem dX9_take_28 : decode cX9_take 28 = .ok (.aload_n 0, 1) := by decide +kernel
theorem dX9_take_29 : decode cX9_take 29 = .ok (.aload_n 0, 1) := by decide +kernel
theorem dX9_take_30 : decode cX9_take 30 = .ok (.getfield 52, 3) := by decide +kernel
theorem dX9_take_33 : decode cX9_take 33 = .ok (.iload_n 1, 1) := by decide +kernel
theorem dX9_take_34 : decode cX9_take 34 = .ok (.iaload, 1) := by decide +kernel
theorem dX9_take_35 : decode cX9_take 35 = .ok (.iconst 4, 1) := by decide +kernel
theorem dX9_take_36 : decode cX9_take 36 = .ok (.iadd, 1) := by decide +kernel
theorem dX9_take_37 : decode cX9_take 37 = .ok (.iconst 2, 1) := by decide +kernel
theorem dX9_take_38 : decode cX9_take 38 = .ok (.aload_n 0, 1) := by decide +kernel
theorem dX9_take_39 : decode cX9_take 39 = .ok (.getfield 15, 3) := by decide +kernel
theorem dX9_take_42 : decode cX9_take 42 = .ok (.iload_n 1, 1) := by decide +kernel
theorem dX9_take_43 : decode cX9_take 43 = .ok (.iaload, 1) := by decide +kernel
theorem dX9_take_44 : decode cX9_take 44 = .ok (.iload_n 2, 1) := by decide +kernel
theorem dX9_take_45 : decode cX9_take 45 = .ok (.irem, 1) := by decide +kernel
theorem dX9_take_46 : decode cX9_take 46 = .ok (.imul, 1) := by decide +kernel
theorem dX9_take_47 : decode cX9_take 47 = .ok (.iadd, 1) := by decide +kernel
theorem dX9_take_48 : decode cX9_take 48 = .ok (.iconst 2, 1) := by decide +kernel
theorem dX9_take_49 : decode cX9_take 49 = .ok (.invokevirtual 90, 3) := by decide +kernel
theorem dX9_take_52 : decode cX9_take 52 = .ok (.l2i, 1) := by decide +kernel
theorem dX9_take_53 : decode cX9_take 53 = .ok (.putfield 107, 3) := by decide +kernel
theorem dX9_take_56 : decode cX9_take 56 = .ok (.aload_n 0, 1) := by decide +kernel
theorem dX9_take_57 : decode cX9_take 57 = .ok (.getfield 49, 3) := by decide +kernel
theorem dX9_take_60 : decode cX9_take 60 = .ok (.iload_n 1, 1) := by decide +kernel
theorem dX9_take_61 : decode cX9_take 61 = .ok (.iaload, 1) := by decide +kernel
theorem dX9_take_62 : decode cX9_take 62 = .ok (.istore_n 3, 1) := by decide +kernel
theorem dX9_take_63 : decode cX9_take 63 = .ok (.iload_n 2, 1) := by decide +kernel
theorem dX9_take_64 : decode cX9_take 64 = .ok (.istore 4, 2) := by decide +kernel
theorem dX9_take_66 : decode cX9_take 66 = .ok (.aload_n 0, 1) := by decide +kernel
theorem dX9_take_67 : decode cX9_take 67 = .ok (.getfield 107, 3) := by decide +kernel
theorem dX9_take_70 : decode cX9_take 70 = .ok (.istore 5, 2) := by decide +kernel
theorem dX9_take_72 : decode cX9_take 72 = .ok (.iconst 0, 1) := by decide +kernel
theorem dX9_take_73 : decode cX9_take 73 = .ok (.istore 6, 2) := by decide +kernel
theorem dX9_take_75 : decode cX9_take 75 = .ok (.iconst 0, 1) := by decide +kernel
theorem dX9_take_76 : decode cX9_take 76 = .ok (.istore 7, 2) := by decide +kernel
theorem dX9_take_78 : decode cX9_take 78 = .ok (.iconst 1, 1) := by decide +kernel
theorem dX9_take_79 : decode cX9_take 79 = .ok (.istore 8, 2) := by decide +kernel
theorem dX9_take_81 : decode cX9_take 81 = .ok (.aload_n 0, 1) := by decide +kernel
theorem dX9_take_82 : decode cX9_take 82 = .ok (.iconst 0, 1) := by decide +kernel
theorem dX9_take_83 : decode cX9_take 83 = .ok (.putfield 110, 3) := by decide +kernel
theorem dX9_take_86 : decode cX9_take 86 = .ok (.iconst 0, 1) := by decide +kernel
theorem dX9_take_87 : decode cX9_take 87 = .ok (.istore 9, 2) := by decide +kernel
theorem dX9_take_89 : decode cX9_take 89 = .ok (.iload 8, 2) := by decide +kernel
theorem dX9_take_91 : decode cX9_take 91 = .ok (.ifCond .eq 319, 3) := by decide +kernel
theorem dX9_take_94 : decode cX9_take 94 = .ok (.aload_n 0, 1) := by decide +kernel
theorem dX9_take_95 : decode cX9_take 95 = .ok (.getfield 110, 3) := by decide +kernel
theorem dX9_take_98 : decode cX9_take 98 = .ok (.ifCond .ne 312, 3) := by decide +kernel
theorem dX9_take_101 : decode cX9_take 101 = .ok (.iload 5, 2) := by decide +kernel
theorem dX9_take_103 : decode cX9_take 103 = .ok (.iload 4, 2) := by decide +kernel
theorem dX9_take_105 : decode cX9_take 105 = .ok (.if_icmp .ge 10, 3) := by decide +kernel
theorem dX9_take_108 : decode cX9_take 108 = .ok (.iload 9, 2) := by decide +kernel
theorem dX9_take_110 : decode cX9_take 110 = .ok (.bipush 16, 2) := by decide +kernel
theorem dX9_take_112 : decode cX9_take 112 = .ok (.if_icmp .ne 11, 3) := by decide +kernel
theorem dX9_take_115 : decode cX9_take 115 = .ok (.aload_n 0, 1) := by decide +kernel
theorem dX9_take_116 : decode cX9_take 116 = .ok (.iconst 1, 1) := by decide +kernel
theorem dX9_take_117 : decode cX9_take 117 = .ok (.putfield 110, 3) := by decide +kernel
theorem dX9_take_120 : decode cX9_take 120 = .ok (.goto (-31), 3) := by decide +kernel
theorem dX9_take_123 : decode cX9_take 123 = .ok (.iload_n 3, 1) := by decide +kernel
theorem dX9_take_124 : decode cX9_take 124 = .ok (.bipush 16, 2) := by decide +kernel
theorem dX9_take_126 : decode cX9_take 126 = .ok (.iload 5, 2) := by decide +kernel
theorem dX9_take_128 : decode cX9_take 128 = .ok (.imul, 1) := by decide +kernel
theorem dX9_take_129 : decode cX9_take 129 = .ok (.iadd, 1) := by decide +kernel
theorem dX9_take_130 : decode cX9_take 130 = .ok (.istore 10, 2) := by decide +kernel
theorem dX9_take_132 : decode cX9_take 132 = .ok (.aload_n 0, 1) := by decide +kernel
theorem dX9_take_133 : decode cX9_take 133 = .ok (.iload 10, 2) := by decide +kernel
theorem dX9_take_135 : decode cX9_take 135 = .ok (.bipush 8, 2) := by decide +kernel
theorem dX9_take_137 : decode cX9_take 137 = .ok (.invokevirtual 90, 3) := by decide +kernel
theorem dX9_take_140 : decode cX9_take 140 = .ok (.lstore 11, 2) := by decide +kernel
theorem dX9_take_142 : decode cX9_take 142 = .ok (.aload_n 0, 1) := by decide +kernel
theorem dX9_take_143 : decode cX9_take 143 = .ok (.iload 10, 2) := by decide +kernel
theorem dX9_take_145 : decode cX9_take 145 = .ok (.bipush 8, 2) := by decide +kernel
theorem dX9_take_147 : decode cX9_take 147 = .ok (.iadd, 1) := by decide +kernel
theorem dX9_take_148 : decode cX9_take 148 = .ok (.iconst 4, 1) := by decide +kernel
theorem dX9_take_149 : decode cX9_take 149 = .ok (.invokevirtual 90, 3) := by decide +kernel
theorem dX9_take_152 : decode cX9_take 152 = .ok (.lstore 13, 2) := by decide +kernel
theorem dX9_take_154 : decode cX9_take 154 = .ok (.aload_n 0, 1) := by decide +kernel
theorem dX9_take_155 : decode cX9_take 155 = .ok (.iload 10, 2) := by decide +kernel
theorem dX9_take_157 : decode cX9_take 157 = .ok (.bipush 12, 2) := by decide +kernel
theorem dX9_take_159 : decode cX9_take 159 = .ok (.iadd, 1) := by decide +kernel
theorem dX9_take_160 : decode cX9_take 160 = .ok (.iconst 2, 1) := by decide +kernel
theorem dX9_take_161 : decode cX9_take 161 = .ok (.invokevirtual 90, 3) := by decide +kernel
theorem dX9_take_164 : decode cX9_take 164 = .ok (.l2i, 1) := by decide +kernel
theorem dX9_take_165 : decode cX9_take 165 = .ok (.istore 15, 2) := by decide +kernel
theorem dX9_take_167 : decode cX9_take 167 = .ok (.iload 15, 2) := by decide +kernel
theorem dX9_take_169 : decode cX9_take 169 = .ok (.iconst 4, 1) := by decide +kernel
theorem dX9_take_170 : decode cX9_take 170 = .ok (.iand, 1) := by decide +kernel
theorem dX9_take_171 : decode cX9_take 171 = .ok (.ifCond .eq 7, 3) := by decide +kernel
theorem dX9_take_174 : decode cX9_take 174 = .ok (.iconst 1, 1) := by decide +kernel
theorem dX9_take_175 : decode cX9_take 175 = .ok (.goto 4, 3) := by decide +kernel
theorem dX9_take_178 : decode cX9_take 178 = .ok (.iconst 0, 1) := by decide +kernel
theorem dX9_take_179 : decode cX9_take 179 = .ok (.istore 16, 2) := by decide +kernel
theorem dX9_take_181 : decode cX9_take 181 = .ok (.iload 15, 2) := by decide +kernel
theorem dX9_take_183 : decode cX9_take 183 = .ok (.iconst 2, 1) := by decide +kernel
theorem dX9_take_184 : decode cX9_take 184 = .ok (.iand, 1) := by decide +kernel
theorem dX9_take_185 : decode cX9_take 185 = .ok (.ifCond .eq 7, 3) := by decide +kernel
theorem dX9_take_188 : decode cX9_take 188 = .ok (.iconst 1, 1) := by decide +kernel
theorem dX9_take_189 : decode cX9_take 189 = .ok (.goto 4, 3) := by decide +kernel
theorem dX9_take_192 : decode cX9_take 192 = .ok (.iconst 0, 1) := by decide +kernel
theorem dX9_take_193 : decode cX9_take 193 = .ok (.istore 17, 2) := by decide +kernel
theorem dX9_take_195 : decode cX9_take 195 = .ok (.iload 15, 2) := by decide +kernel
theorem dX9_take_197 : decode cX9_take 197 = .ok (.iconst 1, 1) := by decide +kernel
theorem dX9_take_198 : decode cX9_take 198 = .ok (.iand, 1) := by decide +kernel
theorem dX9_take_199 : decode cX9_take 199 = .ok (.ifCond .eq 7, 3) := by decide +kernel
theorem dX9_take_202 : decode cX9_take 202 = .ok (.iconst 1, 1) := by decide +kernel
theorem dX9_take_203 : decode cX9_take 203 = .ok (.goto 4, 3) := by decide +kernel
theorem dX9_take_206 : decode cX9_take 206 = .ok (.iconst 0, 1) := by decide +kernel
theorem dX9_take_207 : decode cX9_take 207 = .ok (.istore 18, 2) := by decide +kernel
theorem dX9_take_209 : decode cX9_take 209 = .ok (.lload 13, 2) := by decide +kernel
theorem dX9_take_211 : decode cX9_take 211 = .ok (.lconst 0, 1) := by decide +kernel
theorem dX9_take_212 : decode cX9_take 212 = .ok (.lcmp, 1) := by decide +kernel
theorem dX9_take_213 : decode cX9_take 213 = .ok (.ifCond .eq 22, 3) := by decide +kernel
theorem dX9_take_216 : decode cX9_take 216 = .ok (.lload 11, 2) := by decide +kernel
theorem dX9_take_218 : decode cX9_take 218 = .ok (.lconst 0, 1) := by decide +kernel
theorem dX9_take_219 : decode cX9_take 219 = .ok (.lcmp, 1) := by decide +kernel
theorem dX9_take_220 : decode cX9_take 220 = .ok (.ifCond .lt 19, 3) := by decide +kernel
theorem dX9_take_223 : decode cX9_take 223 = .ok (.lload 11, 2) := by decide +kernel
theorem dX9_take_225 : decode cX9_take 225 = .ok (.ldc2_w 113, 3) := by decide +kernel
theorem dX9_take_228 : decode cX9_take 228 = .ok (.lload 13, 2) := by decide +kernel
theorem dX9_take_230 : decode cX9_take 230 = .ok (.lsub, 1) := by decide +kernel
theorem dX9_take_231 : decode cX9_take 231 = .ok (.lcmp, 1) := by decide +kernel
theorem dX9_take_232 : decode cX9_take 232 = .ok (.ifCond .gt 7, 3) := by decide +kernel
theorem dX9_take_235 : decode cX9_take 235 = .ok (.iconst 1, 1) := by decide +kernel
theorem dX9_take_236 : decode cX9_take 236 = .ok (.goto 4, 3) := by decide +kernel
theorem dX9_take_239 : decode cX9_take 239 = .ok (.iconst 0, 1) := by decide +kernel
theorem dX9_take_240 : decode cX9_take 240 = .ok (.istore 19, 2) := by decide +kernel
theorem dX9_take_242 : decode cX9_take 242 = .ok (.iload 16, 2) := by decide +kernel
theorem dX9_take_244 : decode cX9_take 244 = .ok (.ifCond .eq 51, 3) := by decide +kernel
theorem dX9_take_247 : decode cX9_take 247 = .ok (.aload_n 0, 1) := by decide +kernel
theorem dX9_take_248 : decode cX9_take 248 = .ok (.getfield 79, 3) := by decide +kernel
theorem dX9_take_251 : decode cX9_take 251 = .ok (.ifCond .eq 40, 3) := by decide +kernel
theorem dX9_take_254 : decode cX9_take 254 = .ok (.iload 18, 2) := by decide +kernel
theorem dX9_take_256 : decode cX9_take 256 = .ok (.ifCond .ne 35, 3) := by decide +kernel
theorem dX9_take_259 : decode cX9_take 259 = .ok (.iload 6, 2) := by decide +kernel
theorem dX9_take_261 : decode cX9_take 261 = .ok (.ifCond .ne 30, 3) := by decide +kernel
theorem dX9_take_264 : decode cX9_take 264 = .ok (.lload 13, 2) := by decide +kernel
theorem dX9_take_266 : decode cX9_take 266 = .ok (.lconst 0, 1) := by decide +kernel
theorem dX9_take_267 : decode cX9_take 267 = .ok (.lcmp, 1) := by decide +kernel
theorem dX9_take_268 : decode cX9_take 268 = .ok (.ifCond .eq 23, 3) := by decide +kernel
theorem dX9_take_271 : decode cX9_take 271 = .ok (.lload 13, 2) := by decide +kernel
theorem dX9_take_273 : decode cX9_take 273 = .ok (.ldc2_w 115, 3) := by decide +kernel
theorem dX9_take_276 : decode cX9_take 276 = .ok (.lrem, 1) := by decide +kernel
theorem dX9_take_277 : decode cX9_take 277 = .ok (.lconst 0, 1) := by decide +kernel
theorem dX9_take_278 : decode cX9_take 278 = .ok (.lcmp, 1) := by decide +kernel
theorem dX9_take_279 : decode cX9_take 279 = .ok (.ifCond .ne 12, 3) := by decide +kernel
theorem dX9_take_282 : decode cX9_take 282 = .ok (.lload 13, 2) := by decide +kernel
theorem dX9_take_284 : decode cX9_take 284 = .ok (.ldc2_w 117, 3) := by decide +kernel
theorem dX9_take_287 : decode cX9_take 287 = .ok (.lcmp, 1) := by decide +kernel
theorem dX9_take_288 : decode cX9_take 288 = .ok (.ifCond .le 7, 3) := by decide +kernel
theorem dX9_take_291 : decode cX9_take 291 = .ok (.iconst 1, 1) := by decide +kernel
theorem dX9_take_292 : decode cX9_take 292 = .ok (.goto 4, 3) := by decide +kernel
theorem dX9_take_295 : decode cX9_take 295 = .ok (.iconst 0, 1) := by decide +kernel
theorem dX9_take_296 : decode cX9_take 296 = .ok (.istore 20, 2) := by decide +kernel
theorem dX9_take_298 : decode cX9_take 298 = .ok (.iload 20, 2) := by decide +kernel
theorem dX9_take_300 : decode cX9_take 300 = .ok (.ifCond .ne 23, 3) := by decide +kernel
theorem dX9_take_303 : decode cX9_take 303 = .ok (.iload 19, 2) := by decide +kernel
theorem dX9_take_305 : decode cX9_take 305 = .ok (.ifCond .eq 18, 3) := by decide +kernel
theorem dX9_take_308 : decode cX9_take 308 = .ok (.iload 17, 2) := by decide +kernel
theorem dX9_take_310 : decode cX9_take 310 = .ok (.ifCond .ne 21, 3) := by decide +kernel
theorem dX9_take_313 : decode cX9_take 313 = .ok (.iload 16, 2) := by decide +kernel
theorem dX9_take_315 : decode cX9_take 315 = .ok (.ifCond .ne 16, 3) := by decide +kernel
theorem dX9_take_318 : decode cX9_take 318 = .ok (.iload 7, 2) := by decide +kernel
theorem dX9_take_320 : decode cX9_take 320 = .ok (.ifCond .eq 11, 3) := by decide +kernel
theorem dX9_take_323 : decode cX9_take 323 = .ok (.aload_n 0, 1) := by decide +kernel
theorem dX9_take_324 : decode cX9_take 324 = .ok (.iconst 1, 1) := by decide +kernel
theorem dX9_take_325 : decode cX9_take 325 = .ok (.putfield 110, 3) := by decide +kernel
theorem dX9_take_328 : decode cX9_take 328 = .ok (.goto 79, 3) := by decide +kernel
theorem dX9_take_331 : decode cX9_take 331 = .ok (.iload 16, 2) := by decide +kernel
theorem dX9_take_333 : decode cX9_take 333 = .ok (.ifCond .eq 25, 3) := by decide +kernel
theorem dX9_take_336 : decode cX9_take 336 = .ok (.iconst 1, 1) := by decide +kernel
theorem dX9_take_337 : decode cX9_take 337 = .ok (.istore 6, 2) := by decide +kernel
theorem dX9_take_339 : decode cX9_take 339 = .ok (.lload 11, 2) := by decide +kernel
theorem dX9_take_341 : decode cX9_take 341 = .ok (.l2i, 1) := by decide +kernel
theorem dX9_take_342 : decode cX9_take 342 = .ok (.istore_n 3, 1) := by decide +kernel
theorem dX9_take_343 : decode cX9_take 343 = .ok (.lload 13, 2) := by decide +kernel
theorem dX9_take_345 : decode cX9_take 345 = .ok (.ldc2_w 115, 3) := by decide +kernel
theorem dX9_take_348 : decode cX9_take 348 = .ok (.ldiv, 1) := by decide +kernel
theorem dX9_take_349 : decode cX9_take 349 = .ok (.l2i, 1) := by decide +kernel
theorem dX9_take_350 : decode cX9_take 350 = .ok (.istore 4, 2) := by decide +kernel
theorem dX9_take_352 : decode cX9_take 352 = .ok (.iconst 0, 1) := by decide +kernel
theorem dX9_take_353 : decode cX9_take 353 = .ok (.istore 5, 2) := by decide +kernel
theorem dX9_take_355 : decode cX9_take 355 = .ok (.goto 52, 3) := by decide +kernel
theorem dX9_take_358 : decode cX9_take 358 = .ok (.iinc 9 1, 3) := by decide +kernel
theorem dX9_take_361 : decode cX9_take 361 = .ok (.aload_n 0, 1) := by decide +kernel
theorem dX9_take_362 : decode cX9_take 362 = .ok (.lload 11, 2) := by decide +kernel
theorem dX9_take_364 : decode cX9_take 364 = .ok (.l2i, 1) := by decide +kernel
theorem dX9_take_365 : decode cX9_take 365 = .ok (.lload 13, 2) := by decide +kernel
theorem dX9_take_367 : decode cX9_take 367 = .ok (.l2i, 1) := by decide +kernel
theorem dX9_take_368 : decode cX9_take 368 = .ok (.iload 17, 2) := by decide +kernel
theorem dX9_take_370 : decode cX9_take 370 = .ok (.invokevirtual 119, 3) := by decide +kernel
theorem dX9_take_373 : decode cX9_take 373 = .ok (.iload 7, 2) := by decide +kernel
theorem dX9_take_375 : decode cX9_take 375 = .ok (.ifCond .ne 8, 3) := by decide +kernel
theorem dX9_take_378 : decode cX9_take 378 = .ok (.iload 17, 2) := by decide +kernel
theorem dX9_take_380 : decode cX9_take 380 = .ok (.ifCond .eq 7, 3) := by decide +kernel
theorem dX9_take_383 : decode cX9_take 383 = .ok (.iconst 1, 1) := by decide +kernel
theorem dX9_take_384 : decode cX9_take 384 = .ok (.goto 4, 3) := by decide +kernel
theorem dX9_take_387 : decode cX9_take 387 = .ok (.iconst 0, 1) := by decide +kernel
theorem dX9_take_388 : decode cX9_take 388 = .ok (.istore 7, 2) := by decide +kernel
theorem dX9_take_390 : decode cX9_take 390 = .ok (.aload_n 0, 1) := by decide +kernel
theorem dX9_take_391 : decode cX9_take 391 = .ok (.iload 10, 2) := by decide +kernel
theorem dX9_take_393 : decode cX9_take 393 = .ok (.bipush 14, 2) := by decide +kernel
theorem dX9_take_395 : decode cX9_take 395 = .ok (.iadd, 1) := by decide +kernel
theorem dX9_take_396 : decode cX9_take 396 = .ok (.iconst 2, 1) := by decide +kernel
theorem dX9_take_397 : decode cX9_take 397 = .ok (.invokevirtual 90, 3) := by decide +kernel
theorem dX9_take_400 : decode cX9_take 400 = .ok (.l2i, 1) := by decide +kernel
theorem dX9_take_401 : decode cX9_take 401 = .ok (.istore 5, 2) := by decide +kernel
theorem dX9_take_403 : decode cX9_take 403 = .ok (.iload 18, 2) := by decide +kernel
theorem dX9_take_405 : decode cX9_take 405 = .ok (.istore 8, 2) := by decide +kernel
theorem dX9_take_407 : decode cX9_take 407 = .ok (.goto (-318), 3) := by decide +kernel
theorem dX9_take_410 : decode cX9_take 410 = .ok (.aload_n 0, 1) := by decide +kernel
theorem dX9_take_411 : decode cX9_take 411 = .ok (.getfield 110, 3) := by decide +kernel
theorem dX9_take_414 : decode cX9_take 414 = .ok (.ifCond .eq 10, 3) := by decide +kernel
theorem dX9_take_417 : decode cX9_take 417 = .ok (.aload_n 0, 1) := by decide +kernel
theorem dX9_take_418 : decode cX9_take 418 = .ok (.iconst 2, 1) := by decide +kernel
theorem dX9_take_419 : decode cX9_take 419 = .ok (.putfield 86, 3) := by decide +kernel
theorem dX9_take_422 : decode cX9_take 422 = .ok (.iconst 0, 1) := by decide +kernel
theorem dX9_take_423 : decode cX9_take 423 = .ok (.ireturn, 1) := by decide +kernel
theorem dX9_take_424 : decode cX9_take 424 = .ok (.aload_n 0, 1) := by decide +kernel
theorem dX9_take_425 : decode cX9_take 425 = .ok (.getfield 15, 3) := by decide +kernel
theorem dX9_take_428 : decode cX9_take 428 = .ok (.iload_n 1, 1) := by decide +kernel
theorem dX9_take_429 : decode cX9_take 429 = .ok (.aload_n 0, 1) := by decide +kernel
theorem dX9_take_430 : decode cX9_take 430 = .ok (.getfield 15, 3) := by decide +kernel
theorem dX9_take_433 : decode cX9_take 433 = .ok (.iload_n 1, 1) := by decide +kernel
theorem dX9_take_434 : decode cX9_take 434 = .ok (.iaload, 1) := by decide +kernel
theorem dX9_take_435 : decode cX9_take 435 = .ok (.iconst 1, 1) := by decide +kernel
theorem dX9_take_436 : decode cX9_take 436 = .ok (.iadd, 1) := by decide +kernel
theorem dX9_take_437 : decode cX9_take 437 = .ok (.ldc 94, 2) := by decide +kernel
theorem dX9_take_439 : decode cX9_take 439 = .ok (.iand, 1) := by decide +kernel
theorem dX9_take_440 : decode cX9_take 440 = .ok (.iastore, 1) := by decide +kernel
theorem dX9_take_441 : decode cX9_take 441 = .ok (.iconst 1, 1) := by decide +kernel
theorem dX9_take_442 : decode cX9_take 442 = .ok (.ireturn, 1) := by decide +kernel
theorem dX9_keep_0 : decode cX9_keep 0 = .ok (.iload_n 3, 1) := by decide +kernel
theorem dX9_keep_1 : decode cX9_keep 1 = .ok (.ifCond .eq 46, 3) := by decide +kernel
theorem dX9_keep_4 : decode cX9_keep 4 = .ok (.aload_n 0, 1) := by decide +kernel
theorem dX9_keep_5 : decode cX9_keep 5 = .ok (.getfield 64, 3) := by decide +kernel
theorem dX9_keep_8 : decode cX9_keep 8 = .ok (.aload_n 0, 1) := by decide +kernel
theorem dX9_keep_9 : decode cX9_keep 9 = .ok (.getfield 101, 3) := by decide +kernel
theorem dX9_keep_12 : decode cX9_keep 12 = .ok (.iload_n 1, 1) := by decide +kernel
theorem dX9_keep_13 : decode cX9_keep 13 = .ok (.iastore, 1) := by decide +kernel
theorem dX9_keep_14 : decode cX9_keep 14 = .ok (.aload_n 0, 1) := by decide +kernel
theorem dX9_keep_15 : decode cX9_keep 15 = .ok (.getfield 67, 3) := by decide +kernel
theorem dX9_keep_18 : decode cX9_keep 18 = .ok (.aload_n 0, 1) := by decide +kernel
theorem dX9_keep_19 : decode cX9_keep 19 = .ok (.getfield 101, 3) := by decide +kernel
theorem dX9_keep_22 : decode cX9_keep 22 = .ok (.iload_n 2, 1) := by decide +kernel
theorem dX9_keep_23 : decode cX9_keep 23 = .ok (.iastore, 1) := by decide +kernel
theorem dX9_keep_24 : decode cX9_keep 24 = .ok (.aload_n 0, 1) := by decide +kernel
theorem dX9_keep_25 : decode cX9_keep 25 = .ok (.dup, 1) := by decide +kernel
theorem dX9_keep_26 : decode cX9_keep 26 = .ok (.getfield 101, 3) := by decide +kernel
theorem dX9_keep_29 : decode cX9_keep 29 = .ok (.iconst 1, 1) := by decide +kernel
theorem dX9_keep_30 : decode cX9_keep 30 = .ok (.iadd, 1) := by decide +kernel
theorem dX9_keep_31 : decode cX9_keep 31 = .ok (.putfield 101, 3) := by decide +kernel
theorem dX9_keep_34 : decode cX9_keep 34 = .ok (.aload_n 0, 1) := by decide +kernel
theorem dX9_keep_35 : decode cX9_keep 35 = .ok (.dup, 1) := by decide +kernel
theorem dX9_keep_36 : decode cX9_keep 36 = .ok (.getfield 104, 3) := by decide +kernel
theorem dX9_keep_39 : decode cX9_keep 39 = .ok (.iload_n 2, 1) := by decide +kernel
theorem dX9_keep_40 : decode cX9_keep 40 = .ok (.iadd, 1) := by decide +kernel
theorem dX9_keep_41 : decode cX9_keep 41 = .ok (.putfield 104, 3) := by decide +kernel
theorem dX9_keep_44 : decode cX9_keep 44 = .ok (.goto 43, 3) := by decide +kernel
theorem dX9_keep_47 : decode cX9_keep 47 = .ok (.aload_n 0, 1) := by decide +kernel
theorem dX9_keep_48 : decode cX9_keep 48 = .ok (.getfield 58, 3) := by decide +kernel
theorem dX9_keep_51 : decode cX9_keep 51 = .ok (.aload_n 0, 1) := by decide +kernel
theorem dX9_keep_52 : decode cX9_keep 52 = .ok (.getfield 95, 3) := by decide +kernel
theorem dX9_keep_55 : decode cX9_keep 55 = .ok (.iload_n 1, 1) := by decide +kernel
theorem dX9_keep_56 : decode cX9_keep 56 = .ok (.iastore, 1) := by decide +kernel
theorem dX9_keep_57 : decode cX9_keep 57 = .ok (.aload_n 0, 1) := by decide +kernel
theorem dX9_keep_58 : decode cX9_keep 58 = .ok (.getfield 61, 3) := by decide +kernel
theorem dX9_keep_61 : decode cX9_keep 61 = .ok (.aload_n 0, 1) := by decide +kernel
theorem dX9_keep_62 : decode cX9_keep 62 = .ok (.getfield 95, 3) := by decide +kernel
theorem dX9_keep_65 : decode cX9_keep 65 = .ok (.iload_n 2, 1) := by decide +kernel
theorem dX9_keep_66 : decode cX9_keep 66 = .ok (.iastore, 1) := by decide +kernel
theorem dX9_keep_67 : decode cX9_keep 67 = .ok (.aload_n 0, 1) := by decide +kernel
theorem dX9_keep_68 : decode cX9_keep 68 = .ok (.dup, 1) := by decide +kernel
theorem dX9_keep_69 : decode cX9_keep 69 = .ok (.getfield 95, 3) := by decide +kernel
theorem dX9_keep_72 : decode cX9_keep 72 = .ok (.iconst 1, 1) := by decide +kernel
theorem dX9_keep_73 : decode cX9_keep 73 = .ok (.iadd, 1) := by decide +kernel
theorem dX9_keep_74 : decode cX9_keep 74 = .ok (.putfield 95, 3) := by decide +kernel
theorem dX9_keep_77 : decode cX9_keep 77 = .ok (.aload_n 0, 1) := by decide +kernel
theorem dX9_keep_78 : decode cX9_keep 78 = .ok (.dup, 1) := by decide +kernel
theorem dX9_keep_79 : decode cX9_keep 79 = .ok (.getfield 98, 3) := by decide +kernel
theorem dX9_keep_82 : decode cX9_keep 82 = .ok (.iload_n 2, 1) := by decide +kernel
theorem dX9_keep_83 : decode cX9_keep 83 = .ok (.iadd, 1) := by decide +kernel
theorem dX9_keep_84 : decode cX9_keep 84 = .ok (.putfield 98, 3) := by decide +kernel
theorem dX9_keep_87 : decode cX9_keep 87 = .ok (.return_, 1) := by decide +kernel
theorem dX9_readByte_0 : decode cX9_readByte 0 = .ok (.iconst 0, 1) := by decide +kernel
theorem dX9_readByte_1 : decode cX9_readByte 1 = .ok (.istore_n 2, 1) := by decide +kernel
theorem dX9_readByte_2 : decode cX9_readByte 2 = .ok (.iload_n 1, 1) := by decide +kernel
theorem dX9_readByte_3 : decode cX9_readByte 3 = .ok (.istore_n 3, 1) := by decide +kernel
theorem dX9_readByte_4 : decode cX9_readByte 4 = .ok (.iload_n 3, 1) := by decide +kernel
theorem dX9_readByte_5 : decode cX9_readByte 5 = .ok (.aload_n 0, 1) := by decide +kernel
theorem dX9_readByte_6 : decode cX9_readByte 6 = .ok (.getfield 61, 3) := by decide +kernel
theorem dX9_readByte_9 : decode cX9_readByte 9 = .ok (.iload_n 2, 1) := by decide +kernel
theorem dX9_readByte_10 : decode cX9_readByte 10 = .ok (.iaload, 1) := by decide +kernel
theorem dX9_readByte_11 : decode cX9_readByte 11 = .ok (.if_icmp .lt 18, 3) := by decide +kernel
theorem dX9_readByte_14 : decode cX9_readByte 14 = .ok (.iload_n 3, 1) := by decide +kernel
theorem dX9_readByte_15 : decode cX9_readByte 15 = .ok (.aload_n 0, 1) := by decide +kernel
theorem dX9_readByte_16 : decode cX9_readByte 16 = .ok (.getfield 61, 3) := by decide +kernel
theorem dX9_readByte_19 : decode cX9_readByte 19 = .ok (.iload_n 2, 1) := by decide +kernel
theorem dX9_readByte_20 : decode cX9_readByte 20 = .ok (.iaload, 1) := by decide +kernel
theorem dX9_readByte_21 : decode cX9_readByte 21 = .ok (.isub, 1) := by decide +kernel
theorem dX9_readByte_22 : decode cX9_readByte 22 = .ok (.istore_n 3, 1) := by decide +kernel
theorem dX9_readByte_23 : decode cX9_readByte 23 = .ok (.iinc 2 1, 3) := by decide +kernel
theorem dX9_readByte_26 : decode cX9_readByte 26 = .ok (.goto (-22), 3) := by decide +kernel
theorem dX9_readByte_29 : decode cX9_readByte 29 = .ok (.aload_n 0, 1) := by decide +kernel
theorem dX9_readByte_30 : decode cX9_readByte 30 = .ok (.getfield 1, 3) := by decide +kernel
theorem dX9_readByte_33 : decode cX9_readByte 33 = .ok (.aload_n 0, 1) := by decide +kernel
theorem dX9_readByte_34 : decode cX9_readByte 34 = .ok (.getfield 58, 3) := by decide +kernel
theorem dX9_readByte_37 : decode cX9_readByte 37 = .ok (.iload_n 2, 1) := by decide +kernel
theorem dX9_readByte_38 : decode cX9_readByte 38 = .ok (.iaload, 1) := by decide +kernel
theorem dX9_readByte_39 : decode cX9_readByte 39 = .ok (.iload_n 3, 1) := by decide +kernel
theorem dX9_readByte_40 : decode cX9_readByte 40 = .ok (.iadd, 1) := by decide +kernel
theorem dX9_readByte_41 : decode cX9_readByte 41 = .ok (.baload, 1) := by decide +kernel
theorem dX9_readByte_42 : decode cX9_readByte 42 = .ok (.sipush 255, 3) := by decide +kernel
theorem dX9_readByte_45 : decode cX9_readByte 45 = .ok (.iand, 1) := by decide +kernel
theorem dX9_readByte_46 : decode cX9_readByte 46 = .ok (.ireturn, 1) := by decide +kernel
theorem dX9_readNumber_0 : decode cX9_readNumber 0 = .ok (.lconst 0, 1) := by decide +kernel
theorem dX9_readNumber_1 : decode cX9_readNumber 1 = .ok (.lstore_n 3, 1) := by decide +kernel
theorem dX9_readNumber_2 : decode cX9_readNumber 2 = .ok (.iload_n 2, 1) := by decide +kernel
theorem dX9_readNumber_3 : decode cX9_readNumber 3 = .ok (.iconst 1, 1) := by decide +kernel
theorem dX9_readNumber_4 : decode cX9_readNumber 4 = .ok (.isub, 1) := by decide +kernel
theorem dX9_readNumber_5 : decode cX9_readNumber 5 = .ok (.istore 5, 2) := by decide +kernel
theorem dX9_readNumber_7 : decode cX9_readNumber 7 = .ok (.iload 5, 2) := by decide +kernel
theorem dX9_readNumber_9 : decode cX9_readNumber 9 = .ok (.ifCond .lt 24, 3) := by decide +kernel
theorem dX9_readNumber_12 : decode cX9_readNumber 12 = .ok (.lload_n 3, 1) := by decide +kernel
theorem dX9_readNumber_13 : decode cX9_readNumber 13 = .ok (.bipush 8, 2) := by decide +kernel
theorem dX9_readNumber_15 : decode cX9_readNumber 15 = .ok (.lshl, 1) := by decide +kernel
theorem dX9_readNumber_16 : decode cX9_readNumber 16 = .ok (.aload_n 0, 1) := by decide +kernel
theorem dX9_readNumber_17 : decode cX9_readNumber 17 = .ok (.iload_n 1, 1) := by decide +kernel
theorem dX9_readNumber_18 : decode cX9_readNumber 18 = .ok (.iload 5, 2) := by decide +kernel
theorem dX9_readNumber_20 : decode cX9_readNumber 20 = .ok (.iadd, 1) := by decide +kernel
theorem dX9_readNumber_21 : decode cX9_readNumber 21 = .ok (.invokevirtual 123, 3) := by decide +kernel
theorem dX9_readNumber_24 : decode cX9_readNumber 24 = .ok (.i2l, 1) := by decide +kernel
theorem dX9_readNumber_25 : decode cX9_readNumber 25 = .ok (.lor, 1) := by decide +kernel
theorem dX9_readNumber_26 : decode cX9_readNumber 26 = .ok (.lstore_n 3, 1) := by decide +kernel
theorem dX9_readNumber_27 : decode cX9_readNumber 27 = .ok (.iinc 5 (-1), 3) := by decide +kernel
theorem dX9_readNumber_30 : decode cX9_readNumber 30 = .ok (.goto (-23), 3) := by decide +kernel
theorem dX9_readNumber_33 : decode cX9_readNumber 33 = .ok (.lload_n 3, 1) := by decide +kernel
theorem dX9_readNumber_34 : decode cX9_readNumber 34 = .ok (.lreturn, 1) := by decide +kernel
theorem dX9_writeByte_0 : decode cX9_writeByte 0 = .ok (.iconst 0, 1) := by decide +kernel
theorem dX9_writeByte_1 : decode cX9_writeByte 1 = .ok (.istore_n 3, 1) := by decide +kernel
theorem dX9_writeByte_2 : decode cX9_writeByte 2 = .ok (.iload_n 1, 1) := by decide +kernel
theorem dX9_writeByte_3 : decode cX9_writeByte 3 = .ok (.istore 4, 2) := by decide +kernel
theorem dX9_writeByte_5 : decode cX9_writeByte 5 = .ok (.iload 4, 2) := by decide +kernel
theorem dX9_writeByte_7 : decode cX9_writeByte 7 = .ok (.aload_n 0, 1) := by decide +kernel
theorem dX9_writeByte_8 : decode cX9_writeByte 8 = .ok (.getfield 67, 3) := by decide +kernel
theorem dX9_writeByte_11 : decode cX9_writeByte 11 = .ok (.iload_n 3, 1) := by decide +kernel
theorem dX9_writeByte_12 : decode cX9_writeByte 12 = .ok (.iaload, 1) := by decide +kernel
theorem dX9_writeByte_13 : decode cX9_writeByte 13 = .ok (.if_icmp .lt 20, 3) := by decide +kernel
theorem dX9_writeByte_16 : decode cX9_writeByte 16 = .ok (.iload 4, 2) := by decide +kernel
theorem dX9_writeByte_18 : decode cX9_writeByte 18 = .ok (.aload_n 0, 1) := by decide +kernel
theorem dX9_writeByte_19 : decode cX9_writeByte 19 = .ok (.getfield 67, 3) := by decide +kernel
theorem dX9_writeByte_22 : decode cX9_writeByte 22 = .ok (.iload_n 3, 1) := by decide +kernel
theorem dX9_writeByte_23 : decode cX9_writeByte 23 = .ok (.iaload, 1) := by decide +kernel
theorem dX9_writeByte_24 : decode cX9_writeByte 24 = .ok (.isub, 1) := by decide +kernel
theorem dX9_writeByte_25 : decode cX9_writeByte 25 = .ok (.istore 4, 2) := by decide +kernel
theorem dX9_writeByte_27 : decode cX9_writeByte 27 = .ok (.iinc 3 1, 3) := by decide +kernel
theorem dX9_writeByte_30 : decode cX9_writeByte 30 = .ok (.goto (-25), 3) := by decide +kernel
theorem dX9_writeByte_33 : decode cX9_writeByte 33 = .ok (.aload_n 0, 1) := by decide +kernel
theorem dX9_writeByte_34 : decode cX9_writeByte 34 = .ok (.getfield 1, 3) := by decide +kernel
theorem dX9_writeByte_37 : decode cX9_writeByte 37 = .ok (.aload_n 0, 1) := by decide +kernel
theorem dX9_writeByte_38 : decode cX9_writeByte 38 = .ok (.getfield 64, 3) := by decide +kernel
theorem dX9_writeByte_41 : decode cX9_writeByte 41 = .ok (.iload_n 3, 1) := by decide +kernel
theorem dX9_writeByte_42 : decode cX9_writeByte 42 = .ok (.iaload, 1) := by decide +kernel
theorem dX9_writeByte_43 : decode cX9_writeByte 43 = .ok (.iload 4, 2) := by decide +kernel
theorem dX9_writeByte_45 : decode cX9_writeByte 45 = .ok (.iadd, 1) := by decide +kernel
theorem dX9_writeByte_46 : decode cX9_writeByte 46 = .ok (.iload_n 2, 1) := by decide +kernel
theorem dX9_writeByte_47 : decode cX9_writeByte 47 = .ok (.i2b, 1) := by decide +kernel
theorem dX9_writeByte_48 : decode cX9_writeByte 48 = .ok (.bastore, 1) := by decide +kernel
theorem dX9_writeByte_49 : decode cX9_writeByte 49 = .ok (.return_, 1) := by decide +kernel
theorem dX9_give_0 : decode cX9_give 0 = .ok (.aload_n 0, 1) := by decide +kernel
theorem dX9_give_1 : decode cX9_give 1 = .ok (.getfield 55, 3) := by decide +kernel
theorem dX9_give_4 : decode cX9_give 4 = .ok (.iload_n 1, 1) := by decide +kernel
theorem dX9_give_5 : decode cX9_give 5 = .ok (.iaload, 1) := by decide +kernel
theorem dX9_give_6 : decode cX9_give 6 = .ok (.iconst 4, 1) := by decide +kernel
theorem dX9_give_7 : decode cX9_give 7 = .ok (.iadd, 1) := by decide +kernel
theorem dX9_give_8 : decode cX9_give 8 = .ok (.bipush 8, 2) := by decide +kernel
theorem dX9_give_10 : decode cX9_give 10 = .ok (.aload_n 0, 1) := by decide +kernel
theorem dX9_give_11 : decode cX9_give 11 = .ok (.getfield 18, 3) := by decide +kernel
theorem dX9_give_14 : decode cX9_give 14 = .ok (.iload_n 1, 1) := by decide +kernel
theorem dX9_give_15 : decode cX9_give 15 = .ok (.iaload, 1) := by decide +kernel
theorem dX9_give_16 : decode cX9_give 16 = .ok (.aload_n 0, 1) := by decide +kernel
theorem dX9_give_17 : decode cX9_give 17 = .ok (.getfield 11, 3) := by decide +kernel
theorem dX9_give_20 : decode cX9_give 20 = .ok (.iload_n 1, 1) := by decide +kernel
theorem dX9_give_21 : decode cX9_give 21 = .ok (.iaload, 1) := by decide +kernel
theorem dX9_give_22 : decode cX9_give 22 = .ok (.irem, 1) := by decide +kernel
theorem dX9_give_23 : decode cX9_give 23 = .ok (.imul, 1) := by decide +kernel
theorem dX9_give_24 : decode cX9_give 24 = .ok (.iadd, 1) := by decide +kernel
theorem dX9_give_25 : decode cX9_give 25 = .ok (.istore_n 3, 1) := by decide +kernel
theorem dX9_give_26 : decode cX9_give 26 = .ok (.aload_n 0, 1) := by decide +kernel
theorem dX9_give_27 : decode cX9_give 27 = .ok (.iload_n 3, 1) := by decide +kernel
theorem dX9_give_28 : decode cX9_give 28 = .ok (.iconst 4, 1) := by decide +kernel
theorem dX9_give_29 : decode cX9_give 29 = .ok (.aload_n 0, 1) := by decide +kernel
theorem dX9_give_30 : decode cX9_give 30 = .ok (.getfield 107, 3) := by decide +kernel
theorem dX9_give_33 : decode cX9_give 33 = .ok (.i2l, 1) := by decide +kernel
theorem dX9_give_34 : decode cX9_give 34 = .ok (.invokevirtual 127, 3) := by decide +kernel
theorem dX9_give_37 : decode cX9_give 37 = .ok (.aload_n 0, 1) := by decide +kernel
theorem dX9_give_38 : decode cX9_give 38 = .ok (.iload_n 3, 1) := by decide +kernel
theorem dX9_give_39 : decode cX9_give 39 = .ok (.iconst 4, 1) := by decide +kernel
theorem dX9_give_40 : decode cX9_give 40 = .ok (.iadd, 1) := by decide +kernel
theorem dX9_give_41 : decode cX9_give 41 = .ok (.iconst 4, 1) := by decide +kernel
theorem dX9_give_42 : decode cX9_give 42 = .ok (.iload_n 2, 1) := by decide +kernel
theorem dX9_give_43 : decode cX9_give 43 = .ok (.i2l, 1) := by decide +kernel
theorem dX9_give_44 : decode cX9_give 44 = .ok (.invokevirtual 127, 3) := by decide +kernel
theorem dX9_give_47 : decode cX9_give 47 = .ok (.aload_n 0, 1) := by decide +kernel
theorem dX9_give_48 : decode cX9_give 48 = .ok (.getfield 18, 3) := by decide +kernel
theorem dX9_give_51 : decode cX9_give 51 = .ok (.iload_n 1, 1) := by decide +kernel
theorem dX9_give_52 : decode cX9_give 52 = .ok (.aload_n 0, 1) := by decide +kernel
theorem dX9_give_53 : decode cX9_give 53 = .ok (.getfield 18, 3) := by decide +kernel
theorem dX9_give_56 : decode cX9_give 56 = .ok (.iload_n 1, 1) := by decide +kernel
theorem dX9_give_57 : decode cX9_give 57 = .ok (.iaload, 1) := by decide +kernel
theorem dX9_give_58 : decode cX9_give 58 = .ok (.iconst 1, 1) := by decide +kernel
theorem dX9_give_59 : decode cX9_give 59 = .ok (.iadd, 1) := by decide +kernel
theorem dX9_give_60 : decode cX9_give 60 = .ok (.ldc 94, 2) := by decide +kernel
theorem dX9_give_62 : decode cX9_give 62 = .ok (.iand, 1) := by decide +kernel
theorem dX9_give_63 : decode cX9_give 63 = .ok (.iastore, 1) := by decide +kernel
theorem dX9_give_64 : decode cX9_give 64 = .ok (.aload_n 0, 1) := by decide +kernel
theorem dX9_give_65 : decode cX9_give 65 = .ok (.aload_n 0, 1) := by decide +kernel
theorem dX9_give_66 : decode cX9_give 66 = .ok (.getfield 55, 3) := by decide +kernel
theorem dX9_give_69 : decode cX9_give 69 = .ok (.iload_n 1, 1) := by decide +kernel
theorem dX9_give_70 : decode cX9_give 70 = .ok (.iaload, 1) := by decide +kernel
theorem dX9_give_71 : decode cX9_give 71 = .ok (.iconst 2, 1) := by decide +kernel
theorem dX9_give_72 : decode cX9_give 72 = .ok (.iadd, 1) := by decide +kernel
theorem dX9_give_73 : decode cX9_give 73 = .ok (.iconst 2, 1) := by decide +kernel
theorem dX9_give_74 : decode cX9_give 74 = .ok (.aload_n 0, 1) := by decide +kernel
theorem dX9_give_75 : decode cX9_give 75 = .ok (.getfield 18, 3) := by decide +kernel
theorem dX9_give_78 : decode cX9_give 78 = .ok (.iload_n 1, 1) := by decide +kernel
theorem dX9_give_79 : decode cX9_give 79 = .ok (.iaload, 1) := by decide +kernel
theorem dX9_give_80 : decode cX9_give 80 = .ok (.i2l, 1) := by decide +kernel
theorem dX9_give_81 : decode cX9_give 81 = .ok (.invokevirtual 127, 3) := by decide +kernel
theorem dX9_give_84 : decode cX9_give 84 = .ok (.aload_n 0, 1) := by decide +kernel
theorem dX9_give_85 : decode cX9_give 85 = .ok (.getfield 1, 3) := by decide +kernel
theorem dX9_give_88 : decode cX9_give 88 = .ok (.aload_n 0, 1) := by decide +kernel
theorem dX9_give_89 : decode cX9_give 89 = .ok (.getfield 52, 3) := by decide +kernel
theorem dX9_give_92 : decode cX9_give 92 = .ok (.iload_n 1, 1) := by decide +kernel
theorem dX9_give_93 : decode cX9_give 93 = .ok (.iaload, 1) := by decide +kernel
theorem dX9_give_94 : decode cX9_give 94 = .ok (.baload, 1) := by decide +kernel
theorem dX9_give_95 : decode cX9_give 95 = .ok (.iconst 1, 1) := by decide +kernel
theorem dX9_give_96 : decode cX9_give 96 = .ok (.iand, 1) := by decide +kernel
theorem dX9_give_97 : decode cX9_give 97 = .ok (.ifCond .ne 13, 3) := by decide +kernel
theorem dX9_give_100 : decode cX9_give 100 = .ok (.aload_n 0, 1) := by decide +kernel
theorem dX9_give_101 : decode cX9_give 101 = .ok (.getfield 21, 3) := by decide +kernel
theorem dX9_give_104 : decode cX9_give 104 = .ok (.iload_n 1, 1) := by decide +kernel
theorem dX9_give_105 : decode cX9_give 105 = .ok (.dup2, 1) := by decide +kernel
theorem dX9_give_106 : decode cX9_give 106 = .ok (.iaload, 1) := by decide +kernel
theorem dX9_give_107 : decode cX9_give 107 = .ok (.iconst 1, 1) := by decide +kernel
theorem dX9_give_108 : decode cX9_give 108 = .ok (.iadd, 1) := by decide +kernel
theorem dX9_give_109 : decode cX9_give 109 = .ok (.iastore, 1) := by decide +kernel
theorem dX9_give_110 : decode cX9_give 110 = .ok (.return_, 1) := by decide +kernel
theorem dX9_step_0 : decode cX9_step 0 = .ok (.iload_n 1, 1) := by decide +kernel
theorem dX9_step_1 : decode cX9_step 1 = .ok (.ifCond .eq 11, 3) := by decide +kernel
theorem dX9_step_4 : decode cX9_step 4 = .ok (.iload_n 1, 1) := by decide +kernel
theorem dX9_step_5 : decode cX9_step 5 = .ok (.iconst 2, 1) := by decide +kernel
theorem dX9_step_6 : decode cX9_step 6 = .ok (.if_icmp .eq 6, 3) := by decide +kernel
theorem dX9_step_9 : decode cX9_step 9 = .ok (.bipush (-2), 2) := by decide +kernel
theorem dX9_step_11 : decode cX9_step 11 = .ok (.ireturn, 1) := by decide +kernel
theorem dX9_step_12 : decode cX9_step 12 = .ok (.aload_n 0, 1) := by decide +kernel
theorem dX9_step_13 : decode cX9_step 13 = .ok (.getfield 86, 3) := by decide +kernel
theorem dX9_step_16 : decode cX9_step 16 = .ok (.ifCond .ne 6, 3) := by decide +kernel
theorem dX9_step_19 : decode cX9_step 19 = .ok (.bipush (-4), 2) := by decide +kernel
theorem dX9_step_21 : decode cX9_step 21 = .ok (.ireturn, 1) := by decide +kernel
theorem dX9_step_22 : decode cX9_step 22 = .ok (.aload_n 0, 1) := by decide +kernel
theorem dX9_step_23 : decode cX9_step 23 = .ok (.iload_n 1, 1) := by decide +kernel
theorem dX9_step_24 : decode cX9_step 24 = .ok (.invokevirtual 131, 3) := by decide +kernel
theorem dX9_step_27 : decode cX9_step 27 = .ok (.ifCond .ne 18, 3) := by decide +kernel
theorem dX9_step_30 : decode cX9_step 30 = .ok (.aload_n 0, 1) := by decide +kernel
theorem dX9_step_31 : decode cX9_step 31 = .ok (.getfield 86, 3) := by decide +kernel
theorem dX9_step_34 : decode cX9_step 34 = .ok (.iconst 2, 1) := by decide +kernel
theorem dX9_step_35 : decode cX9_step 35 = .ok (.if_icmp .ne 8, 3) := by decide +kernel
theorem dX9_step_38 : decode cX9_step 38 = .ok (.bipush (-5), 2) := by decide +kernel
theorem dX9_step_40 : decode cX9_step 40 = .ok (.goto 4, 3) := by decide +kernel
theorem dX9_step_43 : decode cX9_step 43 = .ok (.iconst 0, 1) := by decide +kernel
theorem dX9_step_44 : decode cX9_step 44 = .ok (.ireturn, 1) := by decide +kernel
theorem dX9_step_45 : decode cX9_step 45 = .ok (.aload_n 0, 1) := by decide +kernel
theorem dX9_step_46 : decode cX9_step 46 = .ok (.iload_n 1, 1) := by decide +kernel
theorem dX9_step_47 : decode cX9_step 47 = .ok (.invokevirtual 135, 3) := by decide +kernel
theorem dX9_step_50 : decode cX9_step 50 = .ok (.ifCond .ne 6, 3) := by decide +kernel
theorem dX9_step_53 : decode cX9_step 53 = .ok (.bipush (-5), 2) := by decide +kernel
theorem dX9_step_55 : decode cX9_step 55 = .ok (.ireturn, 1) := by decide +kernel
theorem dX9_step_56 : decode cX9_step 56 = .ok (.iload_n 1, 1) := by decide +kernel
theorem dX9_step_57 : decode cX9_step 57 = .ok (.ifCond .ne 15, 3) := by decide +kernel
theorem dX9_step_60 : decode cX9_step 60 = .ok (.aload_n 0, 1) := by decide +kernel
theorem dX9_step_61 : decode cX9_step 61 = .ok (.iconst 0, 1) := by decide +kernel
theorem dX9_step_62 : decode cX9_step 62 = .ok (.aload_n 0, 1) := by decide +kernel
theorem dX9_step_63 : decode cX9_step 63 = .ok (.invokevirtual 138, 3) := by decide +kernel
theorem dX9_step_66 : decode cX9_step 66 = .ok (.invokevirtual 142, 3) := by decide +kernel
theorem dX9_step_69 : decode cX9_step 69 = .ok (.goto 13, 3) := by decide +kernel
theorem dX9_step_72 : decode cX9_step 72 = .ok (.aload_n 0, 1) := by decide +kernel
theorem dX9_step_73 : decode cX9_step 73 = .ok (.invokevirtual 146, 3) := by decide +kernel
theorem dX9_step_76 : decode cX9_step 76 = .ok (.aload_n 0, 1) := by decide +kernel
theorem dX9_step_77 : decode cX9_step 77 = .ok (.iconst 2, 1) := by decide +kernel
theorem dX9_step_78 : decode cX9_step 78 = .ok (.iconst 0, 1) := by decide +kernel
theorem dX9_step_79 : decode cX9_step 79 = .ok (.invokevirtual 142, 3) := by decide +kernel
theorem dX9_step_82 : decode cX9_step 82 = .ok (.iconst 1, 1) := by decide +kernel
theorem dX9_step_83 : decode cX9_step 83 = .ok (.ireturn, 1) := by decide +kernel
theorem dX9_doDisk_0 : decode cX9_doDisk 0 = .ok (.aload_n 0, 1) := by decide +kernel
theorem dX9_doDisk_1 : decode cX9_doDisk 1 = .ok (.getfield 98, 3) := by decide +kernel
theorem dX9_doDisk_4 : decode cX9_doDisk 4 = .ok (.bipush 16, 2) := by decide +kernel
theorem dX9_doDisk_6 : decode cX9_doDisk 6 = .ok (.if_icmp .lt 10, 3) := by decide +kernel
theorem dX9_doDisk_9 : decode cX9_doDisk 9 = .ok (.aload_n 0, 1) := by decide +kernel
theorem dX9_doDisk_10 : decode cX9_doDisk 10 = .ok (.getfield 104, 3) := by decide +kernel
theorem dX9_doDisk_13 : decode cX9_doDisk 13 = .ok (.ifCond .ne 5, 3) := by decide +kernel
theorem dX9_doDisk_16 : decode cX9_doDisk 16 = .ok (.iconst 0, 1) := by decide +kernel
theorem dX9_doDisk_17 : decode cX9_doDisk 17 = .ok (.ireturn, 1) := by decide +kernel
theorem dX9_doDisk_18 : decode cX9_doDisk 18 = .ok (.aload_n 0, 1) := by decide +kernel
theorem dX9_doDisk_19 : decode cX9_doDisk 19 = .ok (.iconst 0, 1) := by decide +kernel
theorem dX9_doDisk_20 : decode cX9_doDisk 20 = .ok (.iconst 4, 1) := by decide +kernel
theorem dX9_doDisk_21 : decode cX9_doDisk 21 = .ok (.invokevirtual 149, 3) := by decide +kernel
theorem dX9_doDisk_24 : decode cX9_doDisk 24 = .ok (.lstore_n 1, 1) := by decide +kernel
theorem dX9_doDisk_25 : decode cX9_doDisk 25 = .ok (.aload_n 0, 1) := by decide +kernel
theorem dX9_doDisk_26 : decode cX9_doDisk 26 = .ok (.bipush 8, 2) := by decide +kernel
theorem dX9_doDisk_28 : decode cX9_doDisk 28 = .ok (.bipush 8, 2) := by decide +kernel
theorem dX9_doDisk_30 : decode cX9_doDisk 30 = .ok (.invokevirtual 149, 3) := by decide +kernel
theorem dX9_doDisk_33 : decode cX9_doDisk 33 = .ok (.lstore_n 3, 1) := by decide +kernel
theorem dX9_doDisk_34 : decode cX9_doDisk 34 = .ok (.lload_n 1, 1) := by decide +kernel
theorem dX9_doDisk_35 : decode cX9_doDisk 35 = .ok (.lconst 0, 1) := by decide +kernel
theorem dX9_doDisk_36 : decode cX9_doDisk 36 = .ok (.lcmp, 1) := by decide +kernel
theorem dX9_doDisk_37 : decode cX9_doDisk 37 = .ok (.ifCond .ne 12, 3) := by decide +kernel
theorem dX9_doDisk_40 : decode cX9_doDisk 40 = .ok (.aload_n 0, 1) := by decide +kernel
theorem dX9_doDisk_41 : decode cX9_doDisk 41 = .ok (.getfield 104, 3) := by decide +kernel
theorem dX9_doDisk_44 : decode cX9_doDisk 44 = .ok (.iconst 1, 1) := by decide +kernel
theorem dX9_doDisk_45 : decode cX9_doDisk 45 = .ok (.isub, 1) := by decide +kernel
theorem dX9_doDisk_46 : decode cX9_doDisk 46 = .ok (.goto 10, 3) := by decide +kernel
theorem dX9_doDisk_49 : decode cX9_doDisk 49 = .ok (.aload_n 0, 1) := by decide +kernel
theorem dX9_doDisk_50 : decode cX9_doDisk 50 = .ok (.getfield 98, 3) := by decide +kernel
theorem dX9_doDisk_53 : decode cX9_doDisk 53 = .ok (.bipush 16, 2) := by decide +kernel
theorem dX9_doDisk_55 : decode cX9_doDisk 55 = .ok (.isub, 1) := by decide +kernel
theorem dX9_doDisk_56 : decode cX9_doDisk 56 = .ok (.istore 5, 2) := by decide +kernel
theorem dX9_doDisk_58 : decode cX9_doDisk 58 = .ok (.iload 5, 2) := by decide +kernel
theorem dX9_doDisk_60 : decode cX9_doDisk 60 = .ok (.ifCond .eq 31, 3) := by decide +kernel
theorem dX9_doDisk_63 : decode cX9_doDisk 63 = .ok (.iload 5, 2) := by decide +kernel
theorem dX9_doDisk_65 : decode cX9_doDisk 65 = .ok (.bipush 64, 2) := by decide +kernel
theorem dX9_doDisk_67 : decode cX9_doDisk 67 = .ok (.irem, 1) := by decide +kernel
theorem dX9_doDisk_68 : decode cX9_doDisk 68 = .ok (.ifCond .ne 27, 3) := by decide +kernel
theorem dX9_doDisk_71 : decode cX9_doDisk 71 = .ok (.lload_n 3, 1) := by decide +kernel
theorem dX9_doDisk_72 : decode cX9_doDisk 72 = .ok (.lconst 0, 1) := by decide +kernel
theorem dX9_doDisk_73 : decode cX9_doDisk 73 = .ok (.lcmp, 1) := by decide +kernel
theorem dX9_doDisk_74 : decode cX9_doDisk 74 = .ok (.ifCond .lt 21, 3) := by decide +kernel
theorem dX9_doDisk_77 : decode cX9_doDisk 77 = .ok (.lload_n 3, 1) := by decide +kernel
theorem dX9_doDisk_78 : decode cX9_doDisk 78 = .ok (.bipush 32, 2) := by decide +kernel
theorem dX9_doDisk_80 : decode cX9_doDisk 80 = .ok (.iload 5, 2) := by decide +kernel
theorem dX9_doDisk_82 : decode cX9_doDisk 82 = .ok (.bipush 64, 2) := by decide +kernel
theorem dX9_doDisk_84 : decode cX9_doDisk 84 = .ok (.idiv, 1) := by decide +kernel
theorem dX9_doDisk_85 : decode cX9_doDisk 85 = .ok (.isub, 1) := by decide +kernel
theorem dX9_doDisk_86 : decode cX9_doDisk 86 = .ok (.i2l, 1) := by decide +kernel
theorem dX9_doDisk_87 : decode cX9_doDisk 87 = .ok (.lcmp, 1) := by decide +kernel
theorem dX9_doDisk_88 : decode cX9_doDisk 88 = .ok (.ifCond .gt 7, 3) := by decide +kernel
theorem dX9_doDisk_91 : decode cX9_doDisk 91 = .ok (.iconst 1, 1) := by decide +kernel
theorem dX9_doDisk_92 : decode cX9_doDisk 92 = .ok (.goto 4, 3) := by decide +kernel
theorem dX9_doDisk_95 : decode cX9_doDisk 95 = .ok (.iconst 0, 1) := by decide +kernel
theorem dX9_doDisk_96 : decode cX9_doDisk 96 = .ok (.istore 6, 2) := by decide +kernel
theorem dX9_doDisk_98 : decode cX9_doDisk 98 = .ok (.iconst 0, 1) := by decide +kernel
theorem dX9_doDisk_99 : decode cX9_doDisk 99 = .ok (.istore 7, 2) := by decide +kernel
theorem dX9_doDisk_101 : decode cX9_doDisk 101 = .ok (.iconst 1, 1) := by decide +kernel
theorem dX9_doDisk_102 : decode cX9_doDisk 102 = .ok (.istore 8, 2) := by decide +kernel
theorem dX9_doDisk_104 : decode cX9_doDisk 104 = .ok (.lload_n 1, 1) := by decide +kernel
theorem dX9_doDisk_105 : decode cX9_doDisk 105 = .ok (.lconst 0, 1) := by decide +kernel
theorem dX9_doDisk_106 : decode cX9_doDisk 106 = .ok (.lcmp, 1) := by decide +kernel
theorem dX9_doDisk_107 : decode cX9_doDisk 107 = .ok (.ifCond .ne 58, 3) := by decide +kernel
theorem dX9_doDisk_110 : decode cX9_doDisk 110 = .ok (.iload 6, 2) := by decide +kernel
theorem dX9_doDisk_112 : decode cX9_doDisk 112 = .ok (.ifCond .eq 47, 3) := by decide +kernel
theorem dX9_doDisk_115 : decode cX9_doDisk 115 = .ok (.iconst 0, 1) := by decide +kernel
theorem dX9_doDisk_116 : decode cX9_doDisk 116 = .ok (.istore 9, 2) := by decide +kernel
theorem dX9_doDisk_118 : decode cX9_doDisk 118 = .ok (.iload 9, 2) := by decide +kernel
theorem dX9_doDisk_120 : decode cX9_doDisk 120 = .ok (.iload 5, 2) := by decide +kernel
theorem dX9_doDisk_122 : decode cX9_doDisk 122 = .ok (.if_icmp .ge 28, 3) := by decide +kernel
theorem dX9_doDisk_125 : decode cX9_doDisk 125 = .ok (.aload_n 0, 1) := by decide +kernel
theorem dX9_doDisk_126 : decode cX9_doDisk 126 = .ok (.iload 9, 2) := by decide +kernel
theorem dX9_doDisk_128 : decode cX9_doDisk 128 = .ok (.aload_n 0, 1) := by decide +kernel
theorem dX9_doDisk_129 : decode cX9_doDisk 129 = .ok (.getfield 46, 3) := by decide +kernel
theorem dX9_doDisk_132 : decode cX9_doDisk 132 = .ok (.bipush 64, 2) := by decide +kernel
theorem dX9_doDisk_134 : decode cX9_doDisk 134 = .ok (.lload_n 3, 1) := by decide +kernel
theorem dX9_doDisk_135 : decode cX9_doDisk 135 = .ok (.l2i, 1) := by decide +kernel
theorem dX9_doDisk_136 : decode cX9_doDisk 136 = .ok (.imul, 1) := by decide +kernel
theorem dX9_doDisk_137 : decode cX9_doDisk 137 = .ok (.iload 9, 2) := by decide +kernel
theorem dX9_doDisk_139 : decode cX9_doDisk 139 = .ok (.iadd, 1) := by decide +kernel
theorem dX9_doDisk_140 : decode cX9_doDisk 140 = .ok (.baload, 1) := by decide +kernel
theorem dX9_doDisk_141 : decode cX9_doDisk 141 = .ok (.invokevirtual 152, 3) := by decide +kernel
theorem dX9_doDisk_144 : decode cX9_doDisk 144 = .ok (.iinc 9 1, 3) := by decide +kernel
theorem dX9_doDisk_147 : decode cX9_doDisk 147 = .ok (.goto (-29), 3) := by decide +kernel
theorem dX9_doDisk_150 : decode cX9_doDisk 150 = .ok (.iload 5, 2) := by decide +kernel
theorem dX9_doDisk_152 : decode cX9_doDisk 152 = .ok (.iconst 1, 1) := by decide +kernel
theorem dX9_doDisk_153 : decode cX9_doDisk 153 = .ok (.iadd, 1) := by decide +kernel
theorem dX9_doDisk_154 : decode cX9_doDisk 154 = .ok (.istore 8, 2) := by decide +kernel
theorem dX9_doDisk_156 : decode cX9_doDisk 156 = .ok (.goto 192, 3) := by decide +kernel
theorem dX9_doDisk_159 : decode cX9_doDisk 159 = .ok (.iconst 1, 1) := by decide +kernel
theorem dX9_doDisk_160 : decode cX9_doDisk 160 = .ok (.istore 7, 2) := by decide +kernel
theorem dX9_doDisk_162 : decode cX9_doDisk 162 = .ok (.goto 186, 3) := by decide +kernel
theorem dX9_doDisk_165 : decode cX9_doDisk 165 = .ok (.lload_n 1, 1) := by decide +kernel
theorem dX9_doDisk_166 : decode cX9_doDisk 166 = .ok (.lconst 1, 1) := by decide +kernel
theorem dX9_doDisk_167 : decode cX9_doDisk 167 = .ok (.lcmp, 1) := by decide +kernel
theorem dX9_doDisk_168 : decode cX9_doDisk 168 = .ok (.ifCond .ne 62, 3) := by decide +kernel
theorem dX9_doDisk_171 : decode cX9_doDisk 171 = .ok (.iconst 0, 1) := by decide +kernel
theorem dX9_doDisk_172 : decode cX9_doDisk 172 = .ok (.istore 9, 2) := by decide +kernel
theorem dX9_doDisk_174 : decode cX9_doDisk 174 = .ok (.iload 9, 2) := by decide +kernel
theorem dX9_doDisk_176 : decode cX9_doDisk 176 = .ok (.iload 5, 2) := by decide +kernel
theorem dX9_doDisk_178 : decode cX9_doDisk 178 = .ok (.if_icmp .ge 37, 3) := by decide +kernel
theorem dX9_doDisk_181 : decode cX9_doDisk 181 = .ok (.iload 6, 2) := by decide +kernel
theorem dX9_doDisk_183 : decode cX9_doDisk 183 = .ok (.ifCond .eq 32, 3) := by decide +kernel
theorem dX9_doDisk_186 : decode cX9_doDisk 186 = .ok (.aload_n 0, 1) := by decide +kernel
theorem dX9_doDisk_187 : decode cX9_doDisk 187 = .ok (.getfield 46, 3) := by decide +kernel
theorem dX9_doDisk_190 : decode cX9_doDisk 190 = .ok (.bipush 64, 2) := by decide +kernel
theorem dX9_doDisk_192 : decode cX9_doDisk 192 = .ok (.lload_n 3, 1) := by decide +kernel
theorem dX9_doDisk_193 : decode cX9_doDisk 193 = .ok (.l2i, 1) := by decide +kernel
theorem dX9_doDisk_194 : decode cX9_doDisk 194 = .ok (.imul, 1) := by decide +kernel
theorem dX9_doDisk_195 : decode cX9_doDisk 195 = .ok (.iload 9, 2) := by decide +kernel
theorem dX9_doDisk_197 : decode cX9_doDisk 197 = .ok (.iadd, 1) := by decide +kernel
theorem dX9_doDisk_198 : decode cX9_doDisk 198 = .ok (.aload_n 0, 1) := by decide +kernel
theorem dX9_doDisk_199 : decode cX9_doDisk 199 = .ok (.bipush 16, 2) := by decide +kernel
theorem dX9_doDisk_201 : decode cX9_doDisk 201 = .ok (.iload 9, 2) := by decide +kernel
theorem dX9_doDisk_203 : decode cX9_doDisk 203 = .ok (.iadd, 1) := by decide +kernel
theorem dX9_doDisk_204 : decode cX9_doDisk 204 = .ok (.invokevirtual 123, 3) := by decide +kernel
theorem dX9_doDisk_207 : decode cX9_doDisk 207 = .ok (.i2b, 1) := by decide +kernel
theorem dX9_doDisk_208 : decode cX9_doDisk 208 = .ok (.bastore, 1) := by decide +kernel
theorem dX9_doDisk_209 : decode cX9_doDisk 209 = .ok (.iinc 9 1, 3) := by decide +kernel
theorem dX9_doDisk_212 : decode cX9_doDisk 212 = .ok (.goto (-38), 3) := by decide +kernel
theorem dX9_doDisk_215 : decode cX9_doDisk 215 = .ok (.iload 6, 2) := by decide +kernel
theorem dX9_doDisk_217 : decode cX9_doDisk 217 = .ok (.ifCond .eq 7, 3) := by decide +kernel
theorem dX9_doDisk_220 : decode cX9_doDisk 220 = .ok (.iconst 0, 1) := by decide +kernel
theorem dX9_doDisk_221 : decode cX9_doDisk 221 = .ok (.goto 4, 3) := by decide +kernel
theorem dX9_doDisk_224 : decode cX9_doDisk 224 = .ok (.iconst 1, 1) := by decide +kernel
theorem dX9_doDisk_225 : decode cX9_doDisk 225 = .ok (.istore 7, 2) := by decide +kernel
theorem dX9_doDisk_227 : decode cX9_doDisk 227 = .ok (.goto 121, 3) := by decide +kernel
theorem dX9_doDisk_230 : decode cX9_doDisk 230 = .ok (.lload_n 1, 1) := by decide +kernel
theorem dX9_doDisk_231 : decode cX9_doDisk 231 = .ok (.ldc2_w 155, 3) := by decide +kernel
theorem dX9_doDisk_234 : decode cX9_doDisk 234 = .ok (.lcmp, 1) := by decide +kernel
theorem dX9_doDisk_235 : decode cX9_doDisk 235 = .ok (.ifCond .ne 102, 3) := by decide +kernel
theorem dX9_doDisk_238 : decode cX9_doDisk 238 = .ok (.bipush 20, 2) := by decide +kernel
theorem dX9_doDisk_240 : decode cX9_doDisk 240 = .ok (.aload_n 0, 1) := by decide +kernel
theorem dX9_doDisk_241 : decode cX9_doDisk 241 = .ok (.getfield 104, 3) := by decide +kernel
theorem dX9_doDisk_244 : decode cX9_doDisk 244 = .ok (.iconst 1, 1) := by decide +kernel
theorem dX9_doDisk_245 : decode cX9_doDisk 245 = .ok (.isub, 1) := by decide +kernel
theorem dX9_doDisk_246 : decode cX9_doDisk 246 = .ok (.invokestatic 157, 3) := by decide +kernel
theorem dX9_doDisk_249 : decode cX9_doDisk 249 = .ok (.istore 9, 2) := by decide +kernel
theorem dX9_doDisk_251 : decode cX9_doDisk 251 = .ok (.iconst 0, 1) := by decide +kernel
theorem dX9_doDisk_252 : decode cX9_doDisk 252 = .ok (.istore 10, 2) := by decide +kernel
theorem dX9_doDisk_254 : decode cX9_doDisk 254 = .ok (.iload 10, 2) := by decide +kernel
theorem dX9_doDisk_256 : decode cX9_doDisk 256 = .ok (.iload 9, 2) := by decide +kernel
theorem dX9_doDisk_258 : decode cX9_doDisk 258 = .ok (.if_icmp .ge 70, 3) := by decide +kernel
theorem dX9_doDisk_261 : decode cX9_doDisk 261 = .ok (.aload_n 0, 1) := by decide +kernel
theorem dX9_doDisk_262 : decode cX9_doDisk 262 = .ok (.iload 10, 2) := by decide +kernel
theorem dX9_doDisk_264 : decode cX9_doDisk 264 = .ok (.iload 10, 2) := by decide +kernel
theorem dX9_doDisk_266 : decode cX9_doDisk 266 = .ok (.ifCond .ne 8, 3) := by decide +kernel
theorem dX9_doDisk_269 : decode cX9_doDisk 269 = .ok (.bipush 114, 2) := by decide +kernel
theorem dX9_doDisk_271 : decode cX9_doDisk 271 = .ok (.goto 48, 3) := by decide +kernel
theorem dX9_doDisk_274 : decode cX9_doDisk 274 = .ok (.iload 10, 2) := by decide +kernel
theorem dX9_doDisk_276 : decode cX9_doDisk 276 = .ok (.iconst 1, 1) := by decide +kernel
theorem dX9_doDisk_277 : decode cX9_doDisk 277 = .ok (.if_icmp .ne 8, 3) := by decide +kernel
theorem dX9_doDisk_280 : decode cX9_doDisk 280 = .ok (.bipush 105, 2) := by decide +kernel
theorem dX9_doDisk_282 : decode cX9_doDisk 282 = .ok (.goto 37, 3) := by decide +kernel
theorem dX9_doDisk_285 : decode cX9_doDisk 285 = .ok (.iload 10, 2) := by decide +kernel
theorem dX9_doDisk_287 : decode cX9_doDisk 287 = .ok (.iconst 2, 1) := by decide +kernel
theorem dX9_doDisk_288 : decode cX9_doDisk 288 = .ok (.if_icmp .ne 8, 3) := by decide +kernel
theorem dX9_doDisk_291 : decode cX9_doDisk 291 = .ok (.bipush 110, 2) := by decide +kernel
theorem dX9_doDisk_293 : decode cX9_doDisk 293 = .ok (.goto 26, 3) := by decide +kernel
theorem dX9_doDisk_296 : decode cX9_doDisk 296 = .ok (.iload 10, 2) := by decide +kernel
theorem dX9_doDisk_298 : decode cX9_doDisk 298 = .ok (.iconst 3, 1) := by decide +kernel
theorem dX9_doDisk_299 : decode cX9_doDisk 299 = .ok (.if_icmp .ne 8, 3) := by decide +kernel
theorem dX9_doDisk_302 : decode cX9_doDisk 302 = .ok (.bipush 103, 2) := by decide +kernel
theorem dX9_doDisk_304 : decode cX9_doDisk 304 = .ok (.goto 15, 3) := by decide +kernel
theorem dX9_doDisk_307 : decode cX9_doDisk 307 = .ok (.iload 10, 2) := by decide +kernel
theorem dX9_doDisk_309 : decode cX9_doDisk 309 = .ok (.iconst 4, 1) := by decide +kernel
theorem dX9_doDisk_310 : decode cX9_doDisk 310 = .ok (.if_icmp .ne 8, 3) := by decide +kernel
theorem dX9_doDisk_313 : decode cX9_doDisk 313 = .ok (.bipush 115, 2) := by decide +kernel
theorem dX9_doDisk_315 : decode cX9_doDisk 315 = .ok (.goto 4, 3) := by decide +kernel
theorem dX9_doDisk_318 : decode cX9_doDisk 318 = .ok (.iconst 0, 1) := by decide +kernel
theorem dX9_doDisk_319 : decode cX9_doDisk 319 = .ok (.invokevirtual 152, 3) := by decide +kernel
theorem dX9_doDisk_322 : decode cX9_doDisk 322 = .ok (.iinc 10 1, 3) := by decide +kernel
theorem dX9_doDisk_325 : decode cX9_doDisk 325 = .ok (.goto (-71), 3) := by decide +kernel
theorem dX9_doDisk_328 : decode cX9_doDisk 328 = .ok (.iload 9, 2) := by decide +kernel
theorem dX9_doDisk_330 : decode cX9_doDisk 330 = .ok (.iconst 1, 1) := by decide +kernel
theorem dX9_doDisk_331 : decode cX9_doDisk 331 = .ok (.iadd, 1) := by decide +kernel
theorem dX9_doDisk_332 : decode cX9_doDisk 332 = .ok (.istore 8, 2) := by decide +kernel
theorem dX9_doDisk_334 : decode cX9_doDisk 334 = .ok (.goto 14, 3) := by decide +kernel
theorem dX9_doDisk_337 : decode cX9_doDisk 337 = .ok (.lload_n 1, 1) := by decide +kernel
theorem dX9_doDisk_338 : decode cX9_doDisk 338 = .ok (.ldc2_w 163, 3) := by decide +kernel
theorem dX9_doDisk_341 : decode cX9_doDisk 341 = .ok (.lcmp, 1) := by decide +kernel
theorem dX9_doDisk_342 : decode cX9_doDisk 342 = .ok (.ifCond .eq 6, 3) := by decide +kernel
theorem dX9_doDisk_345 : decode cX9_doDisk 345 = .ok (.iconst 2, 1) := by decide +kernel
theorem dX9_doDisk_346 : decode cX9_doDisk 346 = .ok (.istore 7, 2) := by decide +kernel
theorem dX9_doDisk_348 : decode cX9_doDisk 348 = .ok (.aload_n 0, 1) := by decide +kernel
theorem dX9_doDisk_349 : decode cX9_doDisk 349 = .ok (.aload_n 0, 1) := by decide +kernel
theorem dX9_doDisk_350 : decode cX9_doDisk 350 = .ok (.getfield 104, 3) := by decide +kernel
theorem dX9_doDisk_353 : decode cX9_doDisk 353 = .ok (.iconst 1, 1) := by decide +kernel
theorem dX9_doDisk_354 : decode cX9_doDisk 354 = .ok (.isub, 1) := by decide +kernel
theorem dX9_doDisk_355 : decode cX9_doDisk 355 = .ok (.iload 7, 2) := by decide +kernel
theorem dX9_doDisk_357 : decode cX9_doDisk 357 = .ok (.invokevirtual 152, 3) := by decide +kernel
theorem dX9_doDisk_360 : decode cX9_doDisk 360 = .ok (.iload 8, 2) := by decide +kernel
theorem dX9_doDisk_362 : decode cX9_doDisk 362 = .ok (.ireturn, 1) := by decide +kernel
theorem dX9_doWire_0 : decode cX9_doWire 0 = .ok (.aload_n 0, 1) := by decide +kernel
theorem dX9_doWire_1 : decode cX9_doWire 1 = .ok (.getfield 98, 3) := by decide +kernel
theorem dX9_doWire_4 : decode cX9_doWire 4 = .ok (.bipush 12, 2) := by decide +kernel
theorem dX9_doWire_6 : decode cX9_doWire 6 = .ok (.isub, 1) := by decide +kernel
theorem dX9_doWire_7 : decode cX9_doWire 7 = .ok (.istore_n 1, 1) := by decide +kernel
theorem dX9_doWire_8 : decode cX9_doWire 8 = .ok (.iload_n 1, 1) := by decide +kernel
theorem dX9_doWire_9 : decode cX9_doWire 9 = .ok (.iconst 1, 1) := by decide +kernel
theorem dX9_doWire_10 : decode cX9_doWire 10 = .ok (.bipush 80, 2) := by decide +kernel
theorem dX9_doWire_12 : decode cX9_doWire 12 = .ok (.invokestatic 7, 3) := by decide +kernel
theorem dX9_doWire_15 : decode cX9_doWire 15 = .ok (.ifCond .ne 4, 3) := by decide +kernel
theorem dX9_doWire_18 : decode cX9_doWire 18 = .ok (.return_, 1) := by decide +kernel
theorem dX9_doWire_19 : decode cX9_doWire 19 = .ok (.aload_n 0, 1) := by decide +kernel
theorem dX9_doWire_20 : decode cX9_doWire 20 = .ok (.getfield 165, 3) := by decide +kernel
theorem dX9_doWire_23 : decode cX9_doWire 23 = .ok (.bipush 16, 2) := by decide +kernel
theorem dX9_doWire_25 : decode cX9_doWire 25 = .ok (.irem, 1) := by decide +kernel
theorem dX9_doWire_26 : decode cX9_doWire 26 = .ok (.istore_n 2, 1) := by decide +kernel
theorem dX9_doWire_27 : decode cX9_doWire 27 = .ok (.iconst 0, 1) := by decide +kernel
theorem dX9_doWire_28 : decode cX9_doWire 28 = .ok (.istore_n 3, 1) := by decide +kernel
theorem dX9_doWire_29 : decode cX9_doWire 29 = .ok (.iload_n 3, 1) := by decide +kernel
theorem dX9_doWire_30 : decode cX9_doWire 30 = .ok (.iload_n 1, 1) := by decide +kernel
theorem dX9_doWire_31 : decode cX9_doWire 31 = .ok (.if_icmp .ge 29, 3) := by decide +kernel
theorem dX9_doWire_34 : decode cX9_doWire 34 = .ok (.aload_n 0, 1) := by decide +kernel
theorem dX9_doWire_35 : decode cX9_doWire 35 = .ok (.getfield 70, 3) := by decide +kernel
theorem dX9_doWire_38 : decode cX9_doWire 38 = .ok (.bipush 80, 2) := by decide +kernel
theorem dX9_doWire_40 : decode cX9_doWire 40 = .ok (.iload_n 2, 1) := by decide +kernel
theorem dX9_doWire_41 : decode cX9_doWire 41 = .ok (.imul, 1) := by decide +kernel
theorem dX9_doWire_42 : decode cX9_doWire 42 = .ok (.iload_n 3, 1) := by decide +kernel
theorem dX9_doWire_43 : decode cX9_doWire 43 = .ok (.iadd, 1) := by decide +kernel
theorem dX9_doWire_44 : decode cX9_doWire 44 = .ok (.aload_n 0, 1) := by decide +kernel
theorem dX9_doWire_45 : decode cX9_doWire 45 = .ok (.bipush 12, 2) := by decide +kernel
theorem dX9_doWire_47 : decode cX9_doWire 47 = .ok (.iload_n 3, 1) := by decide +kernel
theorem dX9_doWire_48 : decode cX9_doWire 48 = .ok (.iadd, 1) := by decide +kernel
theorem dX9_doWire_49 : decode cX9_doWire 49 = .ok (.invokevirtual 123, 3) := by decide +kernel
theorem dX9_doWire_52 : decode cX9_doWire 52 = .ok (.i2b, 1) := by decide +kernel
theorem dX9_doWire_53 : decode cX9_doWire 53 = .ok (.bastore, 1) := by decide +kernel
theorem dX9_doWire_54 : decode cX9_doWire 54 = .ok (.iinc 3 1, 3) := by decide +kernel
theorem dX9_doWire_57 : decode cX9_doWire 57 = .ok (.goto (-28), 3) := by decide +kernel
theorem dX9_doWire_60 : decode cX9_doWire 60 = .ok (.aload_n 0, 1) := by decide +kernel
theorem dX9_doWire_61 : decode cX9_doWire 61 = .ok (.getfield 73, 3) := by decide +kernel
theorem dX9_doWire_64 : decode cX9_doWire 64 = .ok (.iload_n 2, 1) := by decide +kernel
theorem dX9_doWire_65 : decode cX9_doWire 65 = .ok (.iload_n 1, 1) := by decide +kernel
theorem dX9_doWire_66 : decode cX9_doWire 66 = .ok (.iastore, 1) := by decide +kernel
theorem dX9_doWire_67 : decode cX9_doWire 67 = .ok (.aload_n 0, 1) := by decide +kernel
theorem dX9_doWire_68 : decode cX9_doWire 68 = .ok (.dup, 1) := by decide +kernel
theorem dX9_doWire_69 : decode cX9_doWire 69 = .ok (.getfield 165, 3) := by decide +kernel
theorem dX9_doWire_72 : decode cX9_doWire 72 = .ok (.iconst 1, 1) := by decide +kernel
theorem dX9_doWire_73 : decode cX9_doWire 73 = .ok (.iadd, 1) := by decide +kernel
theorem dX9_doWire_74 : decode cX9_doWire 74 = .ok (.putfield 165, 3) := by decide +kernel
theorem dX9_doWire_77 : decode cX9_doWire 77 = .ok (.return_, 1) := by decide +kernel
theorem dX9_frameByte_0 : decode cX9_frameByte 0 = .ok (.lload_n 0, 1) := by decide +kernel
theorem dX9_frameByte_1 : decode cX9_frameByte 1 = .ok (.bipush 8, 2) := by decide +kernel
theorem dX9_frameByte_3 : decode cX9_frameByte 3 = .ok (.iload_n 2, 1) := by decide +kernel
theorem dX9_frameByte_4 : decode cX9_frameByte 4 = .ok (.bipush 8, 2) := by decide +kernel
theorem dX9_frameByte_6 : decode cX9_frameByte 6 = .ok (.irem, 1) := by decide +kernel
theorem dX9_frameByte_7 : decode cX9_frameByte 7 = .ok (.imul, 1) := by decide +kernel
theorem dX9_frameByte_8 : decode cX9_frameByte 8 = .ok (.lshr, 1) := by decide +kernel
theorem dX9_frameByte_9 : decode cX9_frameByte 9 = .ok (.ldc2_w 168, 3) := by decide +kernel
theorem dX9_frameByte_12 : decode cX9_frameByte 12 = .ok (.land, 1) := by decide +kernel
theorem dX9_frameByte_13 : decode cX9_frameByte 13 = .ok (.l2i, 1) := by decide +kernel
theorem dX9_frameByte_14 : decode cX9_frameByte 14 = .ok (.iload_n 2, 1) := by decide +kernel
theorem dX9_frameByte_15 : decode cX9_frameByte 15 = .ok (.iadd, 1) := by decide +kernel
theorem dX9_frameByte_16 : decode cX9_frameByte 16 = .ok (.sipush 255, 3) := by decide +kernel
theorem dX9_frameByte_19 : decode cX9_frameByte 19 = .ok (.iand, 1) := by decide +kernel
theorem dX9_frameByte_20 : decode cX9_frameByte 20 = .ok (.ireturn, 1) := by decide +kernel
theorem dX9_arrive_0 : decode cX9_arrive 0 = .ok (.iload_n 1, 1) := by decide +kernel
theorem dX9_arrive_1 : decode cX9_arrive 1 = .ok (.iconst 1, 1) := by decide +kernel
theorem dX9_arrive_2 : decode cX9_arrive 2 = .ok (.bipush 80, 2) := by decide +kernel
theorem dX9_arrive_4 : decode cX9_arrive 4 = .ok (.invokestatic 7, 3) := by decide +kernel
theorem dX9_arrive_7 : decode cX9_arrive 7 = .ok (.ifCond .ne 6, 3) := by decide +kernel
theorem dX9_arrive_10 : decode cX9_arrive 10 = .ok (.bipush (-2), 2) := by decide +kernel
theorem dX9_arrive_12 : decode cX9_arrive 12 = .ok (.ireturn, 1) := by decide +kernel
theorem dX9_arrive_13 : decode cX9_arrive 13 = .ok (.aload_n 0, 1) := by decide +kernel
theorem dX9_arrive_14 : decode cX9_arrive 14 = .ok (.getfield 86, 3) := by decide +kernel
theorem dX9_arrive_17 : decode cX9_arrive 17 = .ok (.ifCond .ne 6, 3) := by decide +kernel
theorem dX9_arrive_20 : decode cX9_arrive 20 = .ok (.bipush (-4), 2) := by decide +kernel
theorem dX9_arrive_22 : decode cX9_arrive 22 = .ok (.ireturn, 1) := by decide +kernel
theorem dX9_arrive_23 : decode cX9_arrive 23 = .ok (.aload_n 0, 1) := by decide +kernel
theorem dX9_arrive_24 : decode cX9_arrive 24 = .ok (.iconst 1, 1) := by decide +kernel
theorem dX9_arrive_25 : decode cX9_arrive 25 = .ok (.invokevirtual 131, 3) := by decide +kernel
theorem dX9_arrive_28 : decode cX9_arrive 28 = .ok (.istore 4, 2) := by decide +kernel
theorem dX9_arrive_30 : decode cX9_arrive 30 = .ok (.aload_n 0, 1) := by decide +kernel
theorem dX9_arrive_31 : decode cX9_arrive 31 = .ok (.getfield 86, 3) := by decide +kernel
theorem dX9_arrive_34 : decode cX9_arrive 34 = .ok (.iconst 2, 1) := by decide +kernel
theorem dX9_arrive_35 : decode cX9_arrive 35 = .ok (.if_icmp .ne 6, 3) := by decide +kernel
theorem dX9_arrive_38 : decode cX9_arrive 38 = .ok (.bipush (-5), 2) := by decide +kernel
theorem dX9_arrive_40 : decode cX9_arrive 40 = .ok (.ireturn, 1) := by decide +kernel
theorem dX9_arrive_41 : decode cX9_arrive 41 = .ok (.iload 4, 2) := by decide +kernel
theorem dX9_arrive_43 : decode cX9_arrive 43 = .ok (.ifCond .ne 15, 3) := by decide +kernel
theorem dX9_arrive_46 : decode cX9_arrive 46 = .ok (.aload_n 0, 1) := by decide +kernel
theorem dX9_arrive_47 : decode cX9_arrive 47 = .ok (.dup, 1) := by decide +kernel
theorem dX9_arrive_48 : decode cX9_arrive 48 = .ok (.getfield 170, 3) := by decide +kernel
theorem dX9_arrive_51 : decode cX9_arrive 51 = .ok (.iconst 1, 1) := by decide +kernel
theorem dX9_arrive_52 : decode cX9_arrive 52 = .ok (.iadd, 1) := by decide +kernel
theorem dX9_arrive_53 : decode cX9_arrive 53 = .ok (.putfield 170, 3) := by decide +kernel
theorem dX9_arrive_56 : decode cX9_arrive 56 = .ok (.iconst 0, 1) := by decide +kernel
theorem dX9_arrive_57 : decode cX9_arrive 57 = .ok (.ireturn, 1) := by decide +kernel
theorem dX9_arrive_58 : decode cX9_arrive 58 = .ok (.aload_n 0, 1) := by decide +kernel
theorem dX9_arrive_59 : decode cX9_arrive 59 = .ok (.iconst 1, 1) := by decide +kernel
theorem dX9_arrive_60 : decode cX9_arrive 60 = .ok (.invokevirtual 135, 3) := by decide +kernel
theorem dX9_arrive_63 : decode cX9_arrive 63 = .ok (.ifCond .ne 6, 3) := by decide +kernel
theorem dX9_arrive_66 : decode cX9_arrive 66 = .ok (.bipush (-5), 2) := by decide +kernel
theorem dX9_arrive_68 : decode cX9_arrive 68 = .ok (.ireturn, 1) := by decide +kernel
theorem dX9_arrive_69 : decode cX9_arrive 69 = .ok (.aload_n 0, 1) := by decide +kernel
theorem dX9_arrive_70 : decode cX9_arrive 70 = .ok (.getfield 98, 3) := by decide +kernel
theorem dX9_arrive_73 : decode cX9_arrive 73 = .ok (.ifCond .gt 14, 3) := by decide +kernel
theorem dX9_arrive_76 : decode cX9_arrive 76 = .ok (.aload_n 0, 1) := by decide +kernel
theorem dX9_arrive_77 : decode cX9_arrive 77 = .ok (.getfield 104, 3) := by decide +kernel
theorem dX9_arrive_80 : decode cX9_arrive 80 = .ok (.bipush 12, 2) := by decide +kernel
theorem dX9_arrive_82 : decode cX9_arrive 82 = .ok (.iload_n 1, 1) := by decide +kernel
theorem dX9_arrive_83 : decode cX9_arrive 83 = .ok (.iadd, 1) := by decide +kernel
theorem dX9_arrive_84 : decode cX9_arrive 84 = .ok (.if_icmp .ge 21, 3) := by decide +kernel
theorem dX9_arrive_87 : decode cX9_arrive 87 = .ok (.aload_n 0, 1) := by decide +kernel
theorem dX9_arrive_88 : decode cX9_arrive 88 = .ok (.iconst 1, 1) := by decide +kernel
theorem dX9_arrive_89 : decode cX9_arrive 89 = .ok (.iconst 0, 1) := by decide +kernel
theorem dX9_arrive_90 : decode cX9_arrive 90 = .ok (.invokevirtual 142, 3) := by decide +kernel
theorem dX9_arrive_93 : decode cX9_arrive 93 = .ok (.aload_n 0, 1) := by decide +kernel
theorem dX9_arrive_94 : decode cX9_arrive 94 = .ok (.dup, 1) := by decide +kernel
theorem dX9_arrive_95 : decode cX9_arrive 95 = .ok (.getfield 170, 3) := by decide +kernel
theorem dX9_arrive_98 : decode cX9_arrive 98 = .ok (.iconst 1, 1) := by decide +kernel
theorem dX9_arrive_99 : decode cX9_arrive 99 = .ok (.iadd, 1) := by decide +kernel
theorem dX9_arrive_100 : decode cX9_arrive 100 = .ok (.putfield 170, 3) := by decide +kernel
theorem dX9_arrive_103 : decode cX9_arrive 103 = .ok (.iconst 0, 1) := by decide +kernel
theorem dX9_arrive_104 : decode cX9_arrive 104 = .ok (.ireturn, 1) := by decide +kernel
theorem dX9_arrive_105 : decode cX9_arrive 105 = .ok (.iconst 0, 1) := by decide +kernel
theorem dX9_arrive_106 : decode cX9_arrive 106 = .ok (.istore 5, 2) := by decide +kernel
theorem dX9_arrive_108 : decode cX9_arrive 108 = .ok (.iload 5, 2) := by decide +kernel
theorem dX9_arrive_110 : decode cX9_arrive 110 = .ok (.bipush 12, 2) := by decide +kernel
theorem dX9_arrive_112 : decode cX9_arrive 112 = .ok (.iload_n 1, 1) := by decide +kernel
theorem dX9_arrive_113 : decode cX9_arrive 113 = .ok (.iadd, 1) := by decide +kernel
theorem dX9_arrive_114 : decode cX9_arrive 114 = .ok (.if_icmp .ge 35, 3) := by decide +kernel
theorem dX9_arrive_117 : decode cX9_arrive 117 = .ok (.aload_n 0, 1) := by decide +kernel
theorem dX9_arrive_118 : decode cX9_arrive 118 = .ok (.iload 5, 2) := by decide +kernel
theorem dX9_arrive_120 : decode cX9_arrive 120 = .ok (.iload 5, 2) := by decide +kernel
theorem dX9_arrive_122 : decode cX9_arrive 122 = .ok (.bipush 12, 2) := by decide +kernel
theorem dX9_arrive_124 : decode cX9_arrive 124 = .ok (.if_icmp .ge 7, 3) := by decide +kernel
theorem dX9_arrive_127 : decode cX9_arrive 127 = .ok (.iconst 0, 1) := by decide +kernel
theorem dX9_arrive_128 : decode cX9_arrive 128 = .ok (.goto 12, 3) := by decide +kernel
theorem dX9_arrive_131 : decode cX9_arrive 131 = .ok (.lload_n 2, 1) := by decide +kernel
theorem dX9_arrive_132 : decode cX9_arrive 132 = .ok (.iload 5, 2) := by decide +kernel
theorem dX9_arrive_134 : decode cX9_arrive 134 = .ok (.bipush 12, 2) := by decide +kernel
theorem dX9_arrive_136 : decode cX9_arrive 136 = .ok (.isub, 1) := by decide +kernel
theorem dX9_arrive_137 : decode cX9_arrive 137 = .ok (.invokestatic 173, 3) := by decide +kernel
theorem dX9_arrive_140 : decode cX9_arrive 140 = .ok (.invokevirtual 152, 3) := by decide +kernel
theorem dX9_arrive_143 : decode cX9_arrive 143 = .ok (.iinc 5 1, 3) := by decide +kernel
theorem dX9_arrive_146 : decode cX9_arrive 146 = .ok (.goto (-38), 3) := by decide +kernel
theorem dX9_arrive_149 : decode cX9_arrive 149 = .ok (.aload_n 0, 1) := by decide +kernel
theorem dX9_arrive_150 : decode cX9_arrive 150 = .ok (.iconst 1, 1) := by decide +kernel
theorem dX9_arrive_151 : decode cX9_arrive 151 = .ok (.bipush 12, 2) := by decide +kernel
theorem dX9_arrive_153 : decode cX9_arrive 153 = .ok (.iload_n 1, 1) := by decide +kernel
theorem dX9_arrive_154 : decode cX9_arrive 154 = .ok (.iadd, 1) := by decide +kernel
theorem dX9_arrive_155 : decode cX9_arrive 155 = .ok (.invokevirtual 142, 3) := by decide +kernel
theorem dX9_arrive_158 : decode cX9_arrive 158 = .ok (.aload_n 0, 1) := by decide +kernel
theorem dX9_arrive_159 : decode cX9_arrive 159 = .ok (.dup, 1) := by decide +kernel
theorem dX9_arrive_160 : decode cX9_arrive 160 = .ok (.getfield 177, 3) := by decide +kernel
theorem dX9_arrive_163 : decode cX9_arrive 163 = .ok (.iconst 1, 1) := by decide +kernel
theorem dX9_arrive_164 : decode cX9_arrive 164 = .ok (.iadd, 1) := by decide +kernel
theorem dX9_arrive_165 : decode cX9_arrive 165 = .ok (.putfield 177, 3) := by decide +kernel
theorem dX9_arrive_168 : decode cX9_arrive 168 = .ok (.iconst 1, 1) := by decide +kernel
theorem dX9_arrive_169 : decode cX9_arrive 169 = .ok (.ireturn, 1) := by decide +kernel
theorem dX9_freeOnes_0 : decode cX9_freeOnes 0 = .ok (.iconst 0, 1) := by decide +kernel
theorem dX9_freeOnes_1 : decode cX9_freeOnes 1 = .ok (.istore_n 2, 1) := by decide +kernel
theorem dX9_freeOnes_2 : decode cX9_freeOnes 2 = .ok (.iconst 0, 1) := by decide +kernel
theorem dX9_freeOnes_3 : decode cX9_freeOnes 3 = .ok (.istore_n 3, 1) := by decide +kernel
theorem dX9_freeOnes_4 : decode cX9_freeOnes 4 = .ok (.iload_n 3, 1) := by decide +kernel
theorem dX9_freeOnes_5 : decode cX9_freeOnes 5 = .ok (.bipush 8, 2) := by decide +kernel
theorem dX9_freeOnes_7 : decode cX9_freeOnes 7 = .ok (.if_icmp .ge 31, 3) := by decide +kernel
theorem dX9_freeOnes_10 : decode cX9_freeOnes 10 = .ok (.aload_n 0, 1) := by decide +kernel
theorem dX9_freeOnes_11 : decode cX9_freeOnes 11 = .ok (.getfield 33, 3) := by decide +kernel
theorem dX9_freeOnes_14 : decode cX9_freeOnes 14 = .ok (.bipush 8, 2) := by decide +kernel
theorem dX9_freeOnes_16 : decode cX9_freeOnes 16 = .ok (.iload_n 1, 1) := by decide +kernel
theorem dX9_freeOnes_17 : decode cX9_freeOnes 17 = .ok (.imul, 1) := by decide +kernel
theorem dX9_freeOnes_18 : decode cX9_freeOnes 18 = .ok (.iload_n 3, 1) := by decide +kernel
theorem dX9_freeOnes_19 : decode cX9_freeOnes 19 = .ok (.iadd, 1) := by decide +kernel
theorem dX9_freeOnes_20 : decode cX9_freeOnes 20 = .ok (.baload, 1) := by decide +kernel
theorem dX9_freeOnes_21 : decode cX9_freeOnes 21 = .ok (.ifCond .eq 7, 3) := by decide +kernel
theorem dX9_freeOnes_24 : decode cX9_freeOnes 24 = .ok (.iload_n 2, 1) := by decide +kernel
theorem dX9_freeOnes_25 : decode cX9_freeOnes 25 = .ok (.goto 6, 3) := by decide +kernel
theorem dX9_freeOnes_28 : decode cX9_freeOnes 28 = .ok (.iload_n 2, 1) := by decide +kernel
theorem dX9_freeOnes_29 : decode cX9_freeOnes 29 = .ok (.iconst 1, 1) := by decide +kernel
theorem dX9_freeOnes_30 : decode cX9_freeOnes 30 = .ok (.iadd, 1) := by decide +kernel
theorem dX9_freeOnes_31 : decode cX9_freeOnes 31 = .ok (.istore_n 2, 1) := by decide +kernel
theorem dX9_freeOnes_32 : decode cX9_freeOnes 32 = .ok (.iinc 3 1, 3) := by decide +kernel
theorem dX9_freeOnes_35 : decode cX9_freeOnes 35 = .ok (.goto (-31), 3) := by decide +kernel
theorem dX9_freeOnes_38 : decode cX9_freeOnes 38 = .ok (.iload_n 2, 1) := by decide +kernel
theorem dX9_freeOnes_39 : decode cX9_freeOnes 39 = .ok (.ireturn, 1) := by decide +kernel
theorem dX9_lend_0 : decode cX9_lend 0 = .ok (.iconst 0, 1) := by decide +kernel
theorem dX9_lend_1 : decode cX9_lend 1 = .ok (.istore_n 3, 1) := by decide +kernel
theorem dX9_lend_2 : decode cX9_lend 2 = .ok (.aload_n 0, 1) := by decide +kernel
theorem dX9_lend_3 : decode cX9_lend 3 = .ok (.getfield 33, 3) := by decide +kernel
theorem dX9_lend_6 : decode cX9_lend 6 = .ok (.bipush 8, 2) := by decide +kernel
theorem dX9_lend_8 : decode cX9_lend 8 = .ok (.iload_n 1, 1) := by decide +kernel
theorem dX9_lend_9 : decode cX9_lend 9 = .ok (.imul, 1) := by decide +kernel
theorem dX9_lend_10 : decode cX9_lend 10 = .ok (.iload_n 3, 1) := by decide +kernel
theorem dX9_lend_11 : decode cX9_lend 11 = .ok (.iadd, 1) := by decide +kernel
theorem dX9_lend_12 : decode cX9_lend 12 = .ok (.baload, 1) := by decide +kernel
theorem dX9_lend_13 : decode cX9_lend 13 = .ok (.ifCond .eq 9, 3) := by decide +kernel
theorem dX9_lend_16 : decode cX9_lend 16 = .ok (.iinc 3 1, 3) := by decide +kernel
theorem dX9_lend_19 : decode cX9_lend 19 = .ok (.goto (-17), 3) := by decide +kernel
theorem dX9_lend_22 : decode cX9_lend 22 = .ok (.aload_n 0, 1) := by decide +kernel
theorem dX9_lend_23 : decode cX9_lend 23 = .ok (.getfield 33, 3) := by decide +kernel
theorem dX9_lend_26 : decode cX9_lend 26 = .ok (.bipush 8, 2) := by decide +kernel
theorem dX9_lend_28 : decode cX9_lend 28 = .ok (.iload_n 1, 1) := by decide +kernel
theorem dX9_lend_29 : decode cX9_lend 29 = .ok (.imul, 1) := by decide +kernel
theorem dX9_lend_30 : decode cX9_lend 30 = .ok (.iload_n 3, 1) := by decide +kernel
theorem dX9_lend_31 : decode cX9_lend 31 = .ok (.iadd, 1) := by decide +kernel
theorem dX9_lend_32 : decode cX9_lend 32 = .ok (.iconst 1, 1) := by decide +kernel
theorem dX9_lend_33 : decode cX9_lend 33 = .ok (.bastore, 1) := by decide +kernel
theorem dX9_lend_34 : decode cX9_lend 34 = .ok (.aload_n 0, 1) := by decide +kernel
theorem dX9_lend_35 : decode cX9_lend 35 = .ok (.getfield 37, 3) := by decide +kernel
theorem dX9_lend_38 : decode cX9_lend 38 = .ok (.bipush 8, 2) := by decide +kernel
theorem dX9_lend_40 : decode cX9_lend 40 = .ok (.iload_n 1, 1) := by decide +kernel
theorem dX9_lend_41 : decode cX9_lend 41 = .ok (.imul, 1) := by decide +kernel
theorem dX9_lend_42 : decode cX9_lend 42 = .ok (.iload_n 3, 1) := by decide +kernel
theorem dX9_lend_43 : decode cX9_lend 43 = .ok (.iadd, 1) := by decide +kernel
theorem dX9_lend_44 : decode cX9_lend 44 = .ok (.iload_n 2, 1) := by decide +kernel
theorem dX9_lend_45 : decode cX9_lend 45 = .ok (.ifCond .ge 7, 3) := by decide +kernel
theorem dX9_lend_48 : decode cX9_lend 48 = .ok (.iload_n 3, 1) := by decide +kernel
theorem dX9_lend_49 : decode cX9_lend 49 = .ok (.goto 4, 3) := by decide +kernel
theorem dX9_lend_52 : decode cX9_lend 52 = .ok (.iload_n 2, 1) := by decide +kernel
theorem dX9_lend_53 : decode cX9_lend 53 = .ok (.iastore, 1) := by decide +kernel
theorem dX9_lend_54 : decode cX9_lend 54 = .ok (.iload_n 3, 1) := by decide +kernel
theorem dX9_lend_55 : decode cX9_lend 55 = .ok (.ireturn, 1) := by decide +kernel
theorem dX9_describe_0 : decode cX9_describe 0 = .ok (.aload_n 0, 1) := by decide +kernel
theorem dX9_describe_1 : decode cX9_describe 1 = .ok (.iload_n 1, 1) := by decide +kernel
theorem dX9_describe_2 : decode cX9_describe 2 = .ok (.bipush 8, 2) := by decide +kernel
theorem dX9_describe_4 : decode cX9_describe 4 = .ok (.iload_n 2, 1) := by decide +kernel
theorem dX9_describe_5 : decode cX9_describe 5 = .ok (.i2l, 1) := by decide +kernel
theorem dX9_describe_6 : decode cX9_describe 6 = .ok (.invokevirtual 127, 3) := by decide +kernel
theorem dX9_describe_9 : decode cX9_describe 9 = .ok (.aload_n 0, 1) := by decide +kernel
theorem dX9_describe_10 : decode cX9_describe 10 = .ok (.iload_n 1, 1) := by decide +kernel
theorem dX9_describe_11 : decode cX9_describe 11 = .ok (.bipush 8, 2) := by decide +kernel
theorem dX9_describe_13 : decode cX9_describe 13 = .ok (.iadd, 1) := by decide +kernel
theorem dX9_describe_14 : decode cX9_describe 14 = .ok (.iconst 4, 1) := by decide +kernel
theorem dX9_describe_15 : decode cX9_describe 15 = .ok (.iload_n 3, 1) := by decide +kernel
theorem dX9_describe_16 : decode cX9_describe 16 = .ok (.i2l, 1) := by decide +kernel
theorem dX9_describe_17 : decode cX9_describe 17 = .ok (.invokevirtual 127, 3) := by decide +kernel
theorem dX9_describe_20 : decode cX9_describe 20 = .ok (.aload_n 0, 1) := by decide +kernel
theorem dX9_describe_21 : decode cX9_describe 21 = .ok (.iload_n 1, 1) := by decide +kernel
theorem dX9_describe_22 : decode cX9_describe 22 = .ok (.bipush 12, 2) := by decide +kernel
theorem dX9_describe_24 : decode cX9_describe 24 = .ok (.iadd, 1) := by decide +kernel
theorem dX9_describe_25 : decode cX9_describe 25 = .ok (.iconst 2, 1) := by decide +kernel
theorem dX9_describe_26 : decode cX9_describe 26 = .ok (.iload 4, 2) := by decide +kernel
theorem dX9_describe_28 : decode cX9_describe 28 = .ok (.i2l, 1) := by decide +kernel
theorem dX9_describe_29 : decode cX9_describe 29 = .ok (.invokevirtual 127, 3) := by decide +kernel
theorem dX9_describe_32 : decode cX9_describe 32 = .ok (.aload_n 0, 1) := by decide +kernel
theorem dX9_describe_33 : decode cX9_describe 33 = .ok (.iload_n 1, 1) := by decide +kernel
theorem dX9_describe_34 : decode cX9_describe 34 = .ok (.bipush 14, 2) := by decide +kernel
theorem dX9_describe_36 : decode cX9_describe 36 = .ok (.iadd, 1) := by decide +kernel
theorem dX9_describe_37 : decode cX9_describe 37 = .ok (.iconst 2, 1) := by decide +kernel
theorem dX9_describe_38 : decode cX9_describe 38 = .ok (.iload 5, 2) := by decide +kernel
theorem dX9_describe_40 : decode cX9_describe 40 = .ok (.i2l, 1) := by decide +kernel
theorem dX9_describe_41 : decode cX9_describe 41 = .ok (.invokevirtual 127, 3) := by decide +kernel
theorem dX9_describe_44 : decode cX9_describe 44 = .ok (.return_, 1) := by decide +kernel
theorem dX9_offer_0 : decode cX9_offer 0 = .ok (.aload_n 0, 1) := by decide +kernel
theorem dX9_offer_1 : decode cX9_offer 1 = .ok (.sipush 256, 3) := by decide +kernel
theorem dX9_offer_4 : decode cX9_offer 4 = .ok (.iload_n 1, 1) := by decide +kernel
theorem dX9_offer_5 : decode cX9_offer 5 = .ok (.imul, 1) := by decide +kernel
theorem dX9_offer_6 : decode cX9_offer 6 = .ok (.sipush 132, 3) := by decide +kernel
theorem dX9_offer_9 : decode cX9_offer 9 = .ok (.iadd, 1) := by decide +kernel
theorem dX9_offer_10 : decode cX9_offer 10 = .ok (.iconst 2, 1) := by decide +kernel
theorem dX9_offer_11 : decode cX9_offer 11 = .ok (.aload_n 0, 1) := by decide +kernel
theorem dX9_offer_12 : decode cX9_offer 12 = .ok (.getfield 24, 3) := by decide +kernel
theorem dX9_offer_15 : decode cX9_offer 15 = .ok (.iload_n 1, 1) := by decide +kernel
theorem dX9_offer_16 : decode cX9_offer 16 = .ok (.iaload, 1) := by decide +kernel
theorem dX9_offer_17 : decode cX9_offer 17 = .ok (.bipush 8, 2) := by decide +kernel
theorem dX9_offer_19 : decode cX9_offer 19 = .ok (.irem, 1) := by decide +kernel
theorem dX9_offer_20 : decode cX9_offer 20 = .ok (.imul, 1) := by decide +kernel
theorem dX9_offer_21 : decode cX9_offer 21 = .ok (.iadd, 1) := by decide +kernel
theorem dX9_offer_22 : decode cX9_offer 22 = .ok (.iconst 2, 1) := by decide +kernel
theorem dX9_offer_23 : decode cX9_offer 23 = .ok (.iload_n 2, 1) := by decide +kernel
theorem dX9_offer_24 : decode cX9_offer 24 = .ok (.i2l, 1) := by decide +kernel
theorem dX9_offer_25 : decode cX9_offer 25 = .ok (.invokevirtual 127, 3) := by decide +kernel
theorem dX9_offer_28 : decode cX9_offer 28 = .ok (.aload_n 0, 1) := by decide +kernel
theorem dX9_offer_29 : decode cX9_offer 29 = .ok (.getfield 24, 3) := by decide +kernel
theorem dX9_offer_32 : decode cX9_offer 32 = .ok (.iload_n 1, 1) := by decide +kernel
theorem dX9_offer_33 : decode cX9_offer 33 = .ok (.aload_n 0, 1) := by decide +kernel
theorem dX9_offer_34 : decode cX9_offer 34 = .ok (.getfield 24, 3) := by decide +kernel
theorem dX9_offer_37 : decode cX9_offer 37 = .ok (.iload_n 1, 1) := by decide +kernel
theorem dX9_offer_38 : decode cX9_offer 38 = .ok (.iaload, 1) := by decide +kernel
theorem dX9_offer_39 : decode cX9_offer 39 = .ok (.iconst 1, 1) := by decide +kernel
theorem dX9_offer_40 : decode cX9_offer 40 = .ok (.iadd, 1) := by decide +kernel
theorem dX9_offer_41 : decode cX9_offer 41 = .ok (.ldc 94, 2) := by decide +kernel
theorem dX9_offer_43 : decode cX9_offer 43 = .ok (.iand, 1) := by decide +kernel
theorem dX9_offer_44 : decode cX9_offer 44 = .ok (.iastore, 1) := by decide +kernel
theorem dX9_offer_45 : decode cX9_offer 45 = .ok (.aload_n 0, 1) := by decide +kernel
theorem dX9_offer_46 : decode cX9_offer 46 = .ok (.sipush 256, 3) := by decide +kernel
theorem dX9_offer_49 : decode cX9_offer 49 = .ok (.iload_n 1, 1) := by decide +kernel
theorem dX9_offer_50 : decode cX9_offer 50 = .ok (.imul, 1) := by decide +kernel
theorem dX9_offer_51 : decode cX9_offer 51 = .ok (.sipush 130, 3) := by decide +kernel
theorem dX9_offer_54 : decode cX9_offer 54 = .ok (.iadd, 1) := by decide +kernel
theorem dX9_offer_55 : decode cX9_offer 55 = .ok (.iconst 2, 1) := by decide +kernel
theorem dX9_offer_56 : decode cX9_offer 56 = .ok (.aload_n 0, 1) := by decide +kernel
theorem dX9_offer_57 : decode cX9_offer 57 = .ok (.getfield 24, 3) := by decide +kernel
theorem dX9_offer_60 : decode cX9_offer 60 = .ok (.iload_n 1, 1) := by decide +kernel
theorem dX9_offer_61 : decode cX9_offer 61 = .ok (.iaload, 1) := by decide +kernel
theorem dX9_offer_62 : decode cX9_offer 62 = .ok (.i2l, 1) := by decide +kernel
theorem dX9_offer_63 : decode cX9_offer 63 = .ok (.invokevirtual 127, 3) := by decide +kernel
theorem dX9_offer_66 : decode cX9_offer 66 = .ok (.return_, 1) := by decide +kernel
theorem dX9_ask_0 : decode cX9_ask 0 = .ok (.iload_n 2, 1) := by decide +kernel
theorem dX9_ask_1 : decode cX9_ask 1 = .ok (.iconst 0, 1) := by decide +kernel
theorem dX9_ask_2 : decode cX9_ask 2 = .ok (.bipush 31, 2) := by decide +kernel
theorem dX9_ask_4 : decode cX9_ask 4 = .ok (.invokestatic 7, 3) := by decide +kernel
theorem dX9_ask_7 : decode cX9_ask 7 = .ok (.ifCond .ne 6, 3) := by decide +kernel
theorem dX9_ask_10 : decode cX9_ask 10 = .ok (.bipush (-2), 2) := by decide +kernel
theorem dX9_ask_12 : decode cX9_ask 12 = .ok (.ireturn, 1) := by decide +kernel
theorem dX9_ask_13 : decode cX9_ask 13 = .ok (.aload_n 0, 1) := by decide +kernel
theorem dX9_ask_14 : decode cX9_ask 14 = .ok (.getfield 83, 3) := by decide +kernel
theorem dX9_ask_17 : decode cX9_ask 17 = .ok (.ifCond .ne 6, 3) := by decide +kernel
theorem dX9_ask_20 : decode cX9_ask 20 = .ok (.bipush (-4), 2) := by decide +kernel
theorem dX9_ask_22 : decode cX9_ask 22 = .ok (.ireturn, 1) := by decide +kernel
theorem dX9_ask_23 : decode cX9_ask 23 = .ok (.aload_n 0, 1) := by decide +kernel
theorem dX9_ask_24 : decode cX9_ask 24 = .ok (.iconst 0, 1) := by decide +kernel
theorem dX9_ask_25 : decode cX9_ask 25 = .ok (.invokevirtual 180, 3) := by decide +kernel
theorem dX9_ask_28 : decode cX9_ask 28 = .ok (.aload_n 0, 1) := by decide +kernel
theorem dX9_ask_29 : decode cX9_ask 29 = .ok (.getfield 79, 3) := by decide +kernel
theorem dX9_ask_32 : decode cX9_ask 32 = .ok (.ifCond .eq 7, 3) := by decide +kernel
theorem dX9_ask_35 : decode cX9_ask 35 = .ok (.iconst 1, 1) := by decide +kernel
theorem dX9_ask_36 : decode cX9_ask 36 = .ok (.goto 4, 3) := by decide +kernel
theorem dX9_ask_39 : decode cX9_ask 39 = .ok (.iconst 3, 1) := by decide +kernel
theorem dX9_ask_40 : decode cX9_ask 40 = .ok (.if_icmp .ge 5, 3) := by decide +kernel
theorem dX9_ask_43 : decode cX9_ask 43 = .ok (.iconst (-1), 1) := by decide +kernel
theorem dX9_ask_44 : decode cX9_ask 44 = .ok (.ireturn, 1) := by decide +kernel
theorem dX9_ask_45 : decode cX9_ask 45 = .ok (.aload_n 0, 1) := by decide +kernel
theorem dX9_ask_46 : decode cX9_ask 46 = .ok (.iconst 0, 1) := by decide +kernel
theorem dX9_ask_47 : decode cX9_ask 47 = .ok (.iconst (-1), 1) := by decide +kernel
theorem dX9_ask_48 : decode cX9_ask 48 = .ok (.invokevirtual 183, 3) := by decide +kernel
theorem dX9_ask_51 : decode cX9_ask 51 = .ok (.istore 5, 2) := by decide +kernel
theorem dX9_ask_53 : decode cX9_ask 53 = .ok (.sipush 1024, 3) := by decide +kernel
theorem dX9_ask_56 : decode cX9_ask 56 = .ok (.bipush 96, 2) := by decide +kernel
theorem dX9_ask_58 : decode cX9_ask 58 = .ok (.iload 5, 2) := by decide +kernel
theorem dX9_ask_60 : decode cX9_ask 60 = .ok (.imul, 1) := by decide +kernel
theorem dX9_ask_61 : decode cX9_ask 61 = .ok (.iadd, 1) := by decide +kernel
theorem dX9_ask_62 : decode cX9_ask 62 = .ok (.istore 6, 2) := by decide +kernel
theorem dX9_ask_64 : decode cX9_ask 64 = .ok (.iconst 1, 1) := by decide +kernel
theorem dX9_ask_65 : decode cX9_ask 65 = .ok (.istore 7, 2) := by decide +kernel
theorem dX9_ask_67 : decode cX9_ask 67 = .ok (.iconst 2, 1) := by decide +kernel
theorem dX9_ask_68 : decode cX9_ask 68 = .ok (.istore 8, 2) := by decide +kernel
theorem dX9_ask_70 : decode cX9_ask 70 = .ok (.sipush 1792, 3) := by decide +kernel
theorem dX9_ask_73 : decode cX9_ask 73 = .ok (.bipush 64, 2) := by decide +kernel
theorem dX9_ask_75 : decode cX9_ask 75 = .ok (.iload 5, 2) := by decide +kernel
theorem dX9_ask_77 : decode cX9_ask 77 = .ok (.imul, 1) := by decide +kernel
theorem dX9_ask_78 : decode cX9_ask 78 = .ok (.iadd, 1) := by decide +kernel
theorem dX9_ask_79 : decode cX9_ask 79 = .ok (.istore 9, 2) := by decide +kernel
theorem dX9_ask_81 : decode cX9_ask 81 = .ok (.aload_n 0, 1) := by decide +kernel
theorem dX9_ask_82 : decode cX9_ask 82 = .ok (.getfield 79, 3) := by decide +kernel
theorem dX9_ask_85 : decode cX9_ask 85 = .ok (.ifCond .ne 24, 3) := by decide +kernel
theorem dX9_ask_88 : decode cX9_ask 88 = .ok (.aload_n 0, 1) := by decide +kernel
theorem dX9_ask_89 : decode cX9_ask 89 = .ok (.iconst 0, 1) := by decide +kernel
theorem dX9_ask_90 : decode cX9_ask 90 = .ok (.iload 5, 2) := by decide +kernel
theorem dX9_ask_92 : decode cX9_ask 92 = .ok (.invokevirtual 183, 3) := by decide +kernel
theorem dX9_ask_95 : decode cX9_ask 95 = .ok (.istore 7, 2) := by decide +kernel
theorem dX9_ask_97 : decode cX9_ask 97 = .ok (.aload_n 0, 1) := by decide +kernel
theorem dX9_ask_98 : decode cX9_ask 98 = .ok (.iconst 0, 1) := by decide +kernel
theorem dX9_ask_99 : decode cX9_ask 99 = .ok (.iload 5, 2) := by decide +kernel
theorem dX9_ask_101 : decode cX9_ask 101 = .ok (.invokevirtual 183, 3) := by decide +kernel
theorem dX9_ask_104 : decode cX9_ask 104 = .ok (.istore 8, 2) := by decide +kernel
theorem dX9_ask_106 : decode cX9_ask 106 = .ok (.iconst 0, 1) := by decide +kernel
theorem dX9_ask_107 : decode cX9_ask 107 = .ok (.istore 9, 2) := by decide +kernel
theorem dX9_ask_109 : decode cX9_ask 109 = .ok (.iload_n 1, 1) := by decide +kernel
theorem dX9_ask_110 : decode cX9_ask 110 = .ok (.ifCond .ne 7, 3) := by decide +kernel
theorem dX9_ask_113 : decode cX9_ask 113 = .ok (.iconst 3, 1) := by decide +kernel
theorem dX9_ask_114 : decode cX9_ask 114 = .ok (.goto 4, 3) := by decide +kernel
theorem dX9_ask_117 : decode cX9_ask 117 = .ok (.iconst 1, 1) := by decide +kernel
theorem dX9_ask_118 : decode cX9_ask 118 = .ok (.istore 10, 2) := by decide +kernel
theorem dX9_ask_120 : decode cX9_ask 120 = .ok (.aload_n 0, 1) := by decide +kernel
theorem dX9_ask_121 : decode cX9_ask 121 = .ok (.aload_n 0, 1) := by decide +kernel
theorem dX9_ask_122 : decode cX9_ask 122 = .ok (.getfield 79, 3) := by decide +kernel
theorem dX9_ask_125 : decode cX9_ask 125 = .ok (.ifCond .eq 8, 3) := by decide +kernel
theorem dX9_ask_128 : decode cX9_ask 128 = .ok (.iload 9, 2) := by decide +kernel
theorem dX9_ask_130 : decode cX9_ask 130 = .ok (.goto 8, 3) := by decide +kernel
theorem dX9_ask_133 : decode cX9_ask 133 = .ok (.bipush 16, 2) := by decide +kernel
theorem dX9_ask_135 : decode cX9_ask 135 = .ok (.iload 5, 2) := by decide +kernel
theorem dX9_ask_137 : decode cX9_ask 137 = .ok (.imul, 1) := by decide +kernel
theorem dX9_ask_138 : decode cX9_ask 138 = .ok (.iload 6, 2) := by decide +kernel
theorem dX9_ask_140 : decode cX9_ask 140 = .ok (.bipush 16, 2) := by decide +kernel
theorem dX9_ask_142 : decode cX9_ask 142 = .ok (.iconst 1, 1) := by decide +kernel
theorem dX9_ask_143 : decode cX9_ask 143 = .ok (.iload 7, 2) := by decide +kernel
theorem dX9_ask_145 : decode cX9_ask 145 = .ok (.invokevirtual 186, 3) := by decide +kernel
theorem dX9_ask_148 : decode cX9_ask 148 = .ok (.aload_n 0, 1) := by decide +kernel
theorem dX9_ask_149 : decode cX9_ask 149 = .ok (.iload 9, 2) := by decide +kernel
theorem dX9_ask_151 : decode cX9_ask 151 = .ok (.bipush 16, 2) := by decide +kernel
theorem dX9_ask_153 : decode cX9_ask 153 = .ok (.iload 7, 2) := by decide +kernel
theorem dX9_ask_155 : decode cX9_ask 155 = .ok (.imul, 1) := by decide +kernel
theorem dX9_ask_156 : decode cX9_ask 156 = .ok (.iadd, 1) := by decide +kernel
theorem dX9_ask_157 : decode cX9_ask 157 = .ok (.iload 6, 2) := by decide +kernel
theorem dX9_ask_159 : decode cX9_ask 159 = .ok (.bipush 16, 2) := by decide +kernel
theorem dX9_ask_161 : decode cX9_ask 161 = .ok (.iadd, 1) := by decide +kernel
theorem dX9_ask_162 : decode cX9_ask 162 = .ok (.bipush 64, 2) := by decide +kernel
theorem dX9_ask_164 : decode cX9_ask 164 = .ok (.iload 10, 2) := by decide +kernel
theorem dX9_ask_166 : decode cX9_ask 166 = .ok (.iload 8, 2) := by decide +kernel
theorem dX9_ask_168 : decode cX9_ask 168 = .ok (.invokevirtual 186, 3) := by decide +kernel
theorem dX9_ask_171 : decode cX9_ask 171 = .ok (.aload_n 0, 1) := by decide +kernel
theorem dX9_ask_172 : decode cX9_ask 172 = .ok (.iload 9, 2) := by decide +kernel
theorem dX9_ask_174 : decode cX9_ask 174 = .ok (.bipush 16, 2) := by decide +kernel
theorem dX9_ask_176 : decode cX9_ask 176 = .ok (.iload 8, 2) := by decide +kernel
theorem dX9_ask_178 : decode cX9_ask 178 = .ok (.imul, 1) := by decide +kernel
theorem dX9_ask_179 : decode cX9_ask 179 = .ok (.iadd, 1) := by decide +kernel
theorem dX9_ask_180 : decode cX9_ask 180 = .ok (.iload 6, 2) := by decide +kernel
theorem dX9_ask_182 : decode cX9_ask 182 = .ok (.bipush 80, 2) := by decide +kernel
theorem dX9_ask_184 : decode cX9_ask 184 = .ok (.iadd, 1) := by decide +kernel
theorem dX9_ask_185 : decode cX9_ask 185 = .ok (.iconst 1, 1) := by decide +kernel
theorem dX9_ask_186 : decode cX9_ask 186 = .ok (.iconst 2, 1) := by decide +kernel
theorem dX9_ask_187 : decode cX9_ask 187 = .ok (.iconst 0, 1) := by decide +kernel
theorem dX9_ask_188 : decode cX9_ask 188 = .ok (.invokevirtual 186, 3) := by decide +kernel
theorem dX9_ask_191 : decode cX9_ask 191 = .ok (.aload_n 0, 1) := by decide +kernel
theorem dX9_ask_192 : decode cX9_ask 192 = .ok (.getfield 79, 3) := by decide +kernel
theorem dX9_ask_195 : decode cX9_ask 195 = .ok (.ifCond .eq 18, 3) := by decide +kernel
theorem dX9_ask_198 : decode cX9_ask 198 = .ok (.aload_n 0, 1) := by decide +kernel
theorem dX9_ask_199 : decode cX9_ask 199 = .ok (.bipush 16, 2) := by decide +kernel
theorem dX9_ask_201 : decode cX9_ask 201 = .ok (.iload 5, 2) := by decide +kernel
theorem dX9_ask_203 : decode cX9_ask 203 = .ok (.imul, 1) := by decide +kernel
theorem dX9_ask_204 : decode cX9_ask 204 = .ok (.iload 9, 2) := by decide +kernel
theorem dX9_ask_206 : decode cX9_ask 206 = .ok (.bipush 48, 2) := by decide +kernel
theorem dX9_ask_208 : decode cX9_ask 208 = .ok (.iconst 4, 1) := by decide +kernel
theorem dX9_ask_209 : decode cX9_ask 209 = .ok (.iconst 0, 1) := by decide +kernel
theorem dX9_ask_210 : decode cX9_ask 210 = .ok (.invokevirtual 186, 3) := by decide +kernel
theorem dX9_ask_213 : decode cX9_ask 213 = .ok (.aload_n 0, 1) := by decide +kernel
theorem dX9_ask_214 : decode cX9_ask 214 = .ok (.iload 6, 2) := by decide +kernel
theorem dX9_ask_216 : decode cX9_ask 216 = .ok (.bipush 8, 2) := by decide +kernel
theorem dX9_ask_218 : decode cX9_ask 218 = .ok (.iload_n 1, 1) := by decide +kernel
theorem dX9_ask_219 : decode cX9_ask 219 = .ok (.i2l, 1) := by decide +kernel
theorem dX9_ask_220 : decode cX9_ask 220 = .ok (.invokevirtual 127, 3) := by decide +kernel
theorem dX9_ask_223 : decode cX9_ask 223 = .ok (.aload_n 0, 1) := by decide +kernel
theorem dX9_ask_224 : decode cX9_ask 224 = .ok (.iload 6, 2) := by decide +kernel
theorem dX9_ask_226 : decode cX9_ask 226 = .ok (.bipush 8, 2) := by decide +kernel
theorem dX9_ask_228 : decode cX9_ask 228 = .ok (.iadd, 1) := by decide +kernel
theorem dX9_ask_229 : decode cX9_ask 229 = .ok (.bipush 8, 2) := by decide +kernel
theorem dX9_ask_231 : decode cX9_ask 231 = .ok (.iload_n 2, 1) := by decide +kernel
theorem dX9_ask_232 : decode cX9_ask 232 = .ok (.i2l, 1) := by decide +kernel
theorem dX9_ask_233 : decode cX9_ask 233 = .ok (.invokevirtual 127, 3) := by decide +kernel
theorem dX9_ask_236 : decode cX9_ask 236 = .ok (.iconst 0, 1) := by decide +kernel
theorem dX9_ask_237 : decode cX9_ask 237 = .ok (.istore 11, 2) := by decide +kernel
theorem dX9_ask_239 : decode cX9_ask 239 = .ok (.iload 11, 2) := by decide +kernel
theorem dX9_ask_241 : decode cX9_ask 241 = .ok (.bipush 64, 2) := by decide +kernel
theorem dX9_ask_243 : decode cX9_ask 243 = .ok (.if_icmp .ge 34, 3) := by decide +kernel
theorem dX9_ask_246 : decode cX9_ask 246 = .ok (.iload_n 1, 1) := by decide +kernel
theorem dX9_ask_247 : decode cX9_ask 247 = .ok (.iconst 1, 1) := by decide +kernel
theorem dX9_ask_248 : decode cX9_ask 248 = .ok (.if_icmp .ne 29, 3) := by decide +kernel
theorem dX9_ask_251 : decode cX9_ask 251 = .ok (.aload_n 0, 1) := by decide +kernel
theorem dX9_ask_252 : decode cX9_ask 252 = .ok (.getfield 1, 3) := by decide +kernel
theorem dX9_ask_255 : decode cX9_ask 255 = .ok (.iload 6, 2) := by decide +kernel
theorem dX9_ask_257 : decode cX9_ask 257 = .ok (.bipush 16, 2) := by decide +kernel
theorem dX9_ask_259 : decode cX9_ask 259 = .ok (.iadd, 1) := by decide +kernel
theorem dX9_ask_260 : decode cX9_ask 260 = .ok (.iload 11, 2) := by decide +kernel
theorem dX9_ask_262 : decode cX9_ask 262 = .ok (.iadd, 1) := by decide +kernel
theorem dX9_ask_263 : decode cX9_ask 263 = .ok (.lload_n 3, 1) := by decide +kernel
theorem dX9_ask_264 : decode cX9_ask 264 = .ok (.iload 11, 2) := by decide +kernel
theorem dX9_ask_266 : decode cX9_ask 266 = .ok (.invokestatic 173, 3) := by decide +kernel
theorem dX9_ask_269 : decode cX9_ask 269 = .ok (.i2b, 1) := by decide +kernel
theorem dX9_ask_270 : decode cX9_ask 270 = .ok (.bastore, 1) := by decide +kernel
theorem dX9_ask_271 : decode cX9_ask 271 = .ok (.iinc 11 1, 3) := by decide +kernel
theorem dX9_ask_274 : decode cX9_ask 274 = .ok (.goto (-35), 3) := by decide +kernel
theorem dX9_ask_277 : decode cX9_ask 277 = .ok (.aload_n 0, 1) := by decide +kernel
theorem dX9_ask_278 : decode cX9_ask 278 = .ok (.iconst 0, 1) := by decide +kernel
theorem dX9_ask_279 : decode cX9_ask 279 = .ok (.iload 5, 2) := by decide +kernel
theorem dX9_ask_281 : decode cX9_ask 281 = .ok (.invokevirtual 190, 3) := by decide +kernel
theorem dX9_ask_284 : decode cX9_ask 284 = .ok (.iload 5, 2) := by decide +kernel
theorem dX9_ask_286 : decode cX9_ask 286 = .ok (.ireturn, 1) := by decide +kernel
theorem dX9_read_0 : decode cX9_read 0 = .ok (.aload_n 0, 1) := by decide +kernel
theorem dX9_read_1 : decode cX9_read 1 = .ok (.iconst 0, 1) := by decide +kernel
theorem dX9_read_2 : decode cX9_read 2 = .ok (.iload_n 1, 1) := by decide +kernel
theorem dX9_read_3 : decode cX9_read 3 = .ok (.lconst 0, 1) := by decide +kernel
theorem dX9_read_4 : decode cX9_read 4 = .ok (.invokevirtual 193, 3) := by decide +kernel
theorem dX9_read_7 : decode cX9_read 7 = .ok (.ireturn, 1) := by decide +kernel
theorem dX9_write_0 : decode cX9_write 0 = .ok (.aload_n 0, 1) := by decide +kernel
theorem dX9_write_1 : decode cX9_write 1 = .ok (.iconst 1, 1) := by decide +kernel
theorem dX9_write_2 : decode cX9_write 2 = .ok (.iload_n 1, 1) := by decide +kernel
theorem dX9_write_3 : decode cX9_write 3 = .ok (.lload_n 2, 1) := by decide +kernel
theorem dX9_write_4 : decode cX9_write 4 = .ok (.invokevirtual 193, 3) := by decide +kernel
theorem dX9_write_7 : decode cX9_write 7 = .ok (.ireturn, 1) := by decide +kernel
theorem dX9_send_0 : decode cX9_send 0 = .ok (.iload_n 1, 1) := by decide +kernel
theorem dX9_send_1 : decode cX9_send 1 = .ok (.iconst 1, 1) := by decide +kernel
theorem dX9_send_2 : decode cX9_send 2 = .ok (.bipush 80, 2) := by decide +kernel
theorem dX9_send_4 : decode cX9_send 4 = .ok (.invokestatic 7, 3) := by decide +kernel
theorem dX9_send_7 : decode cX9_send 7 = .ok (.ifCond .ne 6, 3) := by decide +kernel
theorem dX9_send_10 : decode cX9_send 10 = .ok (.bipush (-2), 2) := by decide +kernel
theorem dX9_send_12 : decode cX9_send 12 = .ok (.ireturn, 1) := by decide +kernel
theorem dX9_send_13 : decode cX9_send 13 = .ok (.aload_n 0, 1) := by decide +kernel
theorem dX9_send_14 : decode cX9_send 14 = .ok (.getfield 83, 3) := by decide +kernel
theorem dX9_send_17 : decode cX9_send 17 = .ok (.ifCond .ne 6, 3) := by decide +kernel
theorem dX9_send_20 : decode cX9_send 20 = .ok (.bipush (-4), 2) := by decide +kernel
theorem dX9_send_22 : decode cX9_send 22 = .ok (.ireturn, 1) := by decide +kernel
theorem dX9_send_23 : decode cX9_send 23 = .ok (.aload_n 0, 1) := by decide +kernel
theorem dX9_send_24 : decode cX9_send 24 = .ok (.iconst 2, 1) := by decide +kernel
theorem dX9_send_25 : decode cX9_send 25 = .ok (.invokevirtual 180, 3) := by decide +kernel
theorem dX9_send_28 : decode cX9_send 28 = .ok (.iconst 2, 1) := by decide +kernel
theorem dX9_send_29 : decode cX9_send 29 = .ok (.if_icmp .ge 5, 3) := by decide +kernel
theorem dX9_send_32 : decode cX9_send 32 = .ok (.iconst (-1), 1) := by decide +kernel
theorem dX9_send_33 : decode cX9_send 33 = .ok (.ireturn, 1) := by decide +kernel
theorem dX9_send_34 : decode cX9_send 34 = .ok (.aload_n 0, 1) := by decide +kernel
theorem dX9_send_35 : decode cX9_send 35 = .ok (.iconst 2, 1) := by decide +kernel
theorem dX9_send_36 : decode cX9_send 36 = .ok (.iconst (-1), 1) := by decide +kernel
theorem dX9_send_37 : decode cX9_send 37 = .ok (.invokevirtual 183, 3) := by decide +kernel
theorem dX9_send_40 : decode cX9_send 40 = .ok (.istore 4, 2) := by decide +kernel
theorem dX9_send_42 : decode cX9_send 42 = .ok (.aload_n 0, 1) := by decide +kernel
theorem dX9_send_43 : decode cX9_send 43 = .ok (.iconst 2, 1) := by decide +kernel
theorem dX9_send_44 : decode cX9_send 44 = .ok (.iload 4, 2) := by decide +kernel
theorem dX9_send_46 : decode cX9_send 46 = .ok (.invokevirtual 183, 3) := by decide +kernel
theorem dX9_send_49 : decode cX9_send 49 = .ok (.istore 5, 2) := by decide +kernel
theorem dX9_send_51 : decode cX9_send 51 = .ok (.sipush 2304, 3) := by decide +kernel
theorem dX9_send_54 : decode cX9_send 54 = .ok (.bipush 96, 2) := by decide +kernel
theorem dX9_send_56 : decode cX9_send 56 = .ok (.iload 4, 2) := by decide +kernel
theorem dX9_send_58 : decode cX9_send 58 = .ok (.imul, 1) := by decide +kernel
theorem dX9_send_59 : decode cX9_send 59 = .ok (.iadd, 1) := by decide +kernel
theorem dX9_send_60 : decode cX9_send 60 = .ok (.istore 6, 2) := by decide +kernel
theorem dX9_send_62 : decode cX9_send 62 = .ok (.aload_n 0, 1) := by decide +kernel
theorem dX9_send_63 : decode cX9_send 63 = .ok (.sipush 512, 3) := by decide +kernel
theorem dX9_send_66 : decode cX9_send 66 = .ok (.bipush 16, 2) := by decide +kernel
theorem dX9_send_68 : decode cX9_send 68 = .ok (.iload 4, 2) := by decide +kernel
theorem dX9_send_70 : decode cX9_send 70 = .ok (.imul, 1) := by decide +kernel
theorem dX9_send_71 : decode cX9_send 71 = .ok (.iadd, 1) := by decide +kernel
theorem dX9_send_72 : decode cX9_send 72 = .ok (.iload 6, 2) := by decide +kernel
theorem dX9_send_74 : decode cX9_send 74 = .ok (.bipush 12, 2) := by decide +kernel
theorem dX9_send_76 : decode cX9_send 76 = .ok (.iconst 1, 1) := by decide +kernel
theorem dX9_send_77 : decode cX9_send 77 = .ok (.iload 5, 2) := by decide +kernel
theorem dX9_send_79 : decode cX9_send 79 = .ok (.invokevirtual 186, 3) := by decide +kernel
theorem dX9_send_82 : decode cX9_send 82 = .ok (.aload_n 0, 1) := by decide +kernel
theorem dX9_send_83 : decode cX9_send 83 = .ok (.sipush 512, 3) := by decide +kernel
theorem dX9_send_86 : decode cX9_send 86 = .ok (.bipush 16, 2) := by decide +kernel
theorem dX9_send_88 : decode cX9_send 88 = .ok (.iload 5, 2) := by decide +kernel
theorem dX9_send_90 : decode cX9_send 90 = .ok (.imul, 1) := by decide +kernel
theorem dX9_send_91 : decode cX9_send 91 = .ok (.iadd, 1) := by decide +kernel
theorem dX9_send_92 : decode cX9_send 92 = .ok (.iload 6, 2) := by decide +kernel
theorem dX9_send_94 : decode cX9_send 94 = .ok (.bipush 12, 2) := by decide +kernel
theorem dX9_send_96 : decode cX9_send 96 = .ok (.iadd, 1) := by decide +kernel
theorem dX9_send_97 : decode cX9_send 97 = .ok (.iload_n 1, 1) := by decide +kernel
theorem dX9_send_98 : decode cX9_send 98 = .ok (.iconst 0, 1) := by decide +kernel
theorem dX9_send_99 : decode cX9_send 99 = .ok (.iconst 0, 1) := by decide +kernel
theorem dX9_send_100 : decode cX9_send 100 = .ok (.invokevirtual 186, 3) := by decide +kernel
theorem dX9_send_103 : decode cX9_send 103 = .ok (.iconst 0, 1) := by decide +kernel
theorem dX9_send_104 : decode cX9_send 104 = .ok (.istore 7, 2) := by decide +kernel
theorem dX9_send_106 : decode cX9_send 106 = .ok (.iload 7, 2) := by decide +kernel
theorem dX9_send_108 : decode cX9_send 108 = .ok (.bipush 12, 2) := by decide +kernel
theorem dX9_send_110 : decode cX9_send 110 = .ok (.iload_n 1, 1) := by decide +kernel
theorem dX9_send_111 : decode cX9_send 111 = .ok (.iadd, 1) := by decide +kernel
theorem dX9_send_112 : decode cX9_send 112 = .ok (.if_icmp .ge 40, 3) := by decide +kernel
theorem dX9_send_115 : decode cX9_send 115 = .ok (.aload_n 0, 1) := by decide +kernel
theorem dX9_send_116 : decode cX9_send 116 = .ok (.getfield 1, 3) := by decide +kernel
theorem dX9_send_119 : decode cX9_send 119 = .ok (.iload 6, 2) := by decide +kernel
theorem dX9_send_121 : decode cX9_send 121 = .ok (.iload 7, 2) := by decide +kernel
theorem dX9_send_123 : decode cX9_send 123 = .ok (.iadd, 1) := by decide +kernel
theorem dX9_send_124 : decode cX9_send 124 = .ok (.iload 7, 2) := by decide +kernel
theorem dX9_send_126 : decode cX9_send 126 = .ok (.bipush 12, 2) := by decide +kernel
theorem dX9_send_128 : decode cX9_send 128 = .ok (.if_icmp .ge 7, 3) := by decide +kernel
theorem dX9_send_131 : decode cX9_send 131 = .ok (.iconst 0, 1) := by decide +kernel
theorem dX9_send_132 : decode cX9_send 132 = .ok (.goto 12, 3) := by decide +kernel
theorem dX9_send_135 : decode cX9_send 135 = .ok (.lload_n 2, 1) := by decide +kernel
theorem dX9_send_136 : decode cX9_send 136 = .ok (.iload 7, 2) := by decide +kernel
theorem dX9_send_138 : decode cX9_send 138 = .ok (.bipush 12, 2) := by decide +kernel
theorem dX9_send_140 : decode cX9_send 140 = .ok (.isub, 1) := by decide +kernel
theorem dX9_send_141 : decode cX9_send 141 = .ok (.invokestatic 173, 3) := by decide +kernel
theorem dX9_send_144 : decode cX9_send 144 = .ok (.i2b, 1) := by decide +kernel
theorem dX9_send_145 : decode cX9_send 145 = .ok (.bastore, 1) := by decide +kernel
theorem dX9_send_146 : decode cX9_send 146 = .ok (.iinc 7 1, 3) := by decide +kernel
theorem dX9_send_149 : decode cX9_send 149 = .ok (.goto (-43), 3) := by decide +kernel
theorem dX9_send_152 : decode cX9_send 152 = .ok (.aload_n 0, 1) := by decide +kernel
theorem dX9_send_153 : decode cX9_send 153 = .ok (.iconst 2, 1) := by decide +kernel
theorem dX9_send_154 : decode cX9_send 154 = .ok (.iload 4, 2) := by decide +kernel
theorem dX9_send_156 : decode cX9_send 156 = .ok (.invokevirtual 190, 3) := by decide +kernel
theorem dX9_send_159 : decode cX9_send 159 = .ok (.iload 4, 2) := by decide +kernel
theorem dX9_send_161 : decode cX9_send 161 = .ok (.ireturn, 1) := by decide +kernel
theorem dX9_post_0 : decode cX9_post 0 = .ok (.aload_n 0, 1) := by decide +kernel
theorem dX9_post_1 : decode cX9_post 1 = .ok (.getfield 83, 3) := by decide +kernel
theorem dX9_post_4 : decode cX9_post 4 = .ok (.ifCond .ne 6, 3) := by decide +kernel
theorem dX9_post_7 : decode cX9_post 7 = .ok (.bipush (-4), 2) := by decide +kernel
theorem dX9_post_9 : decode cX9_post 9 = .ok (.ireturn, 1) := by decide +kernel
theorem dX9_post_10 : decode cX9_post 10 = .ok (.aload_n 0, 1) := by decide +kernel
theorem dX9_post_11 : decode cX9_post 11 = .ok (.iconst 1, 1) := by decide +kernel
theorem dX9_post_12 : decode cX9_post 12 = .ok (.invokevirtual 180, 3) := by decide +kernel
theorem dX9_post_15 : decode cX9_post 15 = .ok (.iconst 1, 1) := by decide +kernel
theorem dX9_post_16 : decode cX9_post 16 = .ok (.if_icmp .ge 5, 3) := by decide +kernel
theorem dX9_post_19 : decode cX9_post 19 = .ok (.iconst (-1), 1) := by decide +kernel
theorem dX9_post_20 : decode cX9_post 20 = .ok (.ireturn, 1) := by decide +kernel
theorem dX9_post_21 : decode cX9_post 21 = .ok (.aload_n 0, 1) := by decide +kernel
theorem dX9_post_22 : decode cX9_post 22 = .ok (.iconst 1, 1) := by decide +kernel
theorem dX9_post_23 : decode cX9_post 23 = .ok (.iconst (-1), 1) := by decide +kernel
theorem dX9_post_24 : decode cX9_post 24 = .ok (.invokevirtual 183, 3) := by decide +kernel
theorem dX9_post_27 : decode cX9_post 27 = .ok (.istore_n 1, 1) := by decide +kernel
theorem dX9_post_28 : decode cX9_post 28 = .ok (.aload_n 0, 1) := by decide +kernel
theorem dX9_post_29 : decode cX9_post 29 = .ok (.sipush 256, 3) := by decide +kernel
theorem dX9_post_32 : decode cX9_post 32 = .ok (.bipush 16, 2) := by decide +kernel
theorem dX9_post_34 : decode cX9_post 34 = .ok (.iload_n 1, 1) := by decide +kernel
theorem dX9_post_35 : decode cX9_post 35 = .ok (.imul, 1) := by decide +kernel
theorem dX9_post_36 : decode cX9_post 36 = .ok (.iadd, 1) := by decide +kernel
theorem dX9_post_37 : decode cX9_post 37 = .ok (.sipush 3072, 3) := by decide +kernel
theorem dX9_post_40 : decode cX9_post 40 = .ok (.bipush 96, 2) := by decide +kernel
theorem dX9_post_42 : decode cX9_post 42 = .ok (.iload_n 1, 1) := by decide +kernel
theorem dX9_post_43 : decode cX9_post 43 = .ok (.imul, 1) := by decide +kernel
theorem dX9_post_44 : decode cX9_post 44 = .ok (.iadd, 1) := by decide +kernel
theorem dX9_post_45 : decode cX9_post 45 = .ok (.bipush 92, 2) := by decide +kernel
theorem dX9_post_47 : decode cX9_post 47 = .ok (.iconst 2, 1) := by decide +kernel
theorem dX9_post_48 : decode cX9_post 48 = .ok (.iconst 0, 1) := by decide +kernel
theorem dX9_post_49 : decode cX9_post 49 = .ok (.invokevirtual 186, 3) := by decide +kernel
theorem dX9_post_52 : decode cX9_post 52 = .ok (.aload_n 0, 1) := by decide +kernel
theorem dX9_post_53 : decode cX9_post 53 = .ok (.iconst 1, 1) := by decide +kernel
theorem dX9_post_54 : decode cX9_post 54 = .ok (.iload_n 1, 1) := by decide +kernel
theorem dX9_post_55 : decode cX9_post 55 = .ok (.invokevirtual 190, 3) := by decide +kernel
theorem dX9_post_58 : decode cX9_post 58 = .ok (.iload_n 1, 1) := by decide +kernel
theorem dX9_post_59 : decode cX9_post 59 = .ok (.ireturn, 1) := by decide +kernel
theorem dX9_collect_0 : decode cX9_collect 0 = .ok (.iload_n 1, 1) := by decide +kernel
theorem dX9_collect_1 : decode cX9_collect 1 = .ok (.iconst 0, 1) := by decide +kernel
theorem dX9_collect_2 : decode cX9_collect 2 = .ok (.iconst 2, 1) := by decide +kernel
theorem dX9_collect_3 : decode cX9_collect 3 = .ok (.invokestatic 7, 3) := by decide +kernel
theorem dX9_collect_6 : decode cX9_collect 6 = .ok (.ifCond .ne 6, 3) := by decide +kernel
theorem dX9_collect_9 : decode cX9_collect 9 = .ok (.bipush (-2), 2) := by decide +kernel
theorem dX9_collect_11 : decode cX9_collect 11 = .ok (.ireturn, 1) := by decide +kernel
theorem dX9_collect_12 : decode cX9_collect 12 = .ok (.aload_n 0, 1) := by decide +kernel
theorem dX9_collect_13 : decode cX9_collect 13 = .ok (.getfield 83, 3) := by decide +kernel
theorem dX9_collect_16 : decode cX9_collect 16 = .ok (.ifCond .ne 6, 3) := by decide +kernel
theorem dX9_collect_19 : decode cX9_collect 19 = .ok (.bipush (-4), 2) := by decide +kernel
theorem dX9_collect_21 : decode cX9_collect 21 = .ok (.ireturn, 1) := by decide +kernel
theorem dX9_collect_22 : decode cX9_collect 22 = .ok (.aload_n 0, 1) := by decide +kernel
theorem dX9_collect_23 : decode cX9_collect 23 = .ok (.sipush 256, 3) := by decide +kernel
theorem dX9_collect_26 : decode cX9_collect 26 = .ok (.iload_n 1, 1) := by decide +kernel
theorem dX9_collect_27 : decode cX9_collect 27 = .ok (.imul, 1) := by decide +kernel
theorem dX9_collect_28 : decode cX9_collect 28 = .ok (.sipush 154, 3) := by decide +kernel
theorem dX9_collect_31 : decode cX9_collect 31 = .ok (.iadd, 1) := by decide +kernel
theorem dX9_collect_32 : decode cX9_collect 32 = .ok (.iconst 2, 1) := by decide +kernel
theorem dX9_collect_33 : decode cX9_collect 33 = .ok (.invokevirtual 90, 3) := by decide +kernel
theorem dX9_collect_36 : decode cX9_collect 36 = .ok (.l2i, 1) := by decide +kernel
theorem dX9_collect_37 : decode cX9_collect 37 = .ok (.istore_n 2, 1) := by decide +kernel
theorem dX9_collect_38 : decode cX9_collect 38 = .ok (.iload_n 2, 1) := by decide +kernel
theorem dX9_collect_39 : decode cX9_collect 39 = .ok (.aload_n 0, 1) := by decide +kernel
theorem dX9_collect_40 : decode cX9_collect 40 = .ok (.getfield 27, 3) := by decide +kernel
theorem dX9_collect_43 : decode cX9_collect 43 = .ok (.iload_n 1, 1) := by decide +kernel
theorem dX9_collect_44 : decode cX9_collect 44 = .ok (.iaload, 1) := by decide +kernel
theorem dX9_collect_45 : decode cX9_collect 45 = .ok (.if_icmp .ne 5, 3) := by decide +kernel
theorem dX9_collect_48 : decode cX9_collect 48 = .ok (.iconst (-1), 1) := by decide +kernel
theorem dX9_collect_49 : decode cX9_collect 49 = .ok (.ireturn, 1) := by decide +kernel
theorem dX9_collect_50 : decode cX9_collect 50 = .ok (.sipush 256, 3) := by decide +kernel
theorem dX9_collect_53 : decode cX9_collect 53 = .ok (.iload_n 1, 1) := by decide +kernel
theorem dX9_collect_54 : decode cX9_collect 54 = .ok (.imul, 1) := by decide +kernel
theorem dX9_collect_55 : decode cX9_collect 55 = .ok (.sipush 156, 3) := by decide +kernel
theorem dX9_collect_58 : decode cX9_collect 58 = .ok (.iadd, 1) := by decide +kernel
theorem dX9_collect_59 : decode cX9_collect 59 = .ok (.bipush 8, 2) := by decide +kernel
theorem dX9_collect_61 : decode cX9_collect 61 = .ok (.aload_n 0, 1) := by decide +kernel
theorem dX9_collect_62 : decode cX9_collect 62 = .ok (.getfield 27, 3) := by decide +kernel
theorem dX9_collect_65 : decode cX9_collect 65 = .ok (.iload_n 1, 1) := by decide +kernel
theorem dX9_collect_66 : decode cX9_collect 66 = .ok (.iaload, 1) := by decide +kernel
theorem dX9_collect_67 : decode cX9_collect 67 = .ok (.bipush 8, 2) := by decide +kernel
theorem dX9_collect_69 : decode cX9_collect 69 = .ok (.irem, 1) := by decide +kernel
theorem dX9_collect_70 : decode cX9_collect 70 = .ok (.imul, 1) := by decide +kernel
theorem dX9_collect_71 : decode cX9_collect 71 = .ok (.iadd, 1) := by decide +kernel
theorem dX9_collect_72 : decode cX9_collect 72 = .ok (.istore_n 3, 1) := by decide +kernel
theorem dX9_collect_73 : decode cX9_collect 73 = .ok (.aload_n 0, 1) := by decide +kernel
theorem dX9_collect_74 : decode cX9_collect 74 = .ok (.iload_n 3, 1) := by decide +kernel
theorem dX9_collect_75 : decode cX9_collect 75 = .ok (.iconst 4, 1) := by decide +kernel
theorem dX9_collect_76 : decode cX9_collect 76 = .ok (.invokevirtual 90, 3) := by decide +kernel
theorem dX9_collect_79 : decode cX9_collect 79 = .ok (.lstore 4, 2) := by decide +kernel
theorem dX9_collect_81 : decode cX9_collect 81 = .ok (.aload_n 0, 1) := by decide +kernel
theorem dX9_collect_82 : decode cX9_collect 82 = .ok (.getfield 27, 3) := by decide +kernel
theorem dX9_collect_85 : decode cX9_collect 85 = .ok (.iload_n 1, 1) := by decide +kernel
theorem dX9_collect_86 : decode cX9_collect 86 = .ok (.aload_n 0, 1) := by decide +kernel
theorem dX9_collect_87 : decode cX9_collect 87 = .ok (.getfield 27, 3) := by decide +kernel
theorem dX9_collect_90 : decode cX9_collect 90 = .ok (.iload_n 1, 1) := by decide +kernel
theorem dX9_collect_91 : decode cX9_collect 91 = .ok (.iaload, 1) := by decide +kernel
theorem dX9_collect_92 : decode cX9_collect 92 = .ok (.iconst 1, 1) := by decide +kernel
theorem dX9_collect_93 : decode cX9_collect 93 = .ok (.iadd, 1) := by decide +kernel
theorem dX9_collect_94 : decode cX9_collect 94 = .ok (.ldc 94, 2) := by decide +kernel
theorem dX9_collect_96 : decode cX9_collect 96 = .ok (.iand, 1) := by decide +kernel
theorem dX9_collect_97 : decode cX9_collect 97 = .ok (.iastore, 1) := by decide +kernel
theorem dX9_collect_98 : decode cX9_collect 98 = .ok (.lload 4, 2) := by decide +kernel
theorem dX9_collect_100 : decode cX9_collect 100 = .ok (.ldc2_w 197, 3) := by decide +kernel
theorem dX9_collect_103 : decode cX9_collect 103 = .ok (.lcmp, 1) := by decide +kernel
theorem dX9_collect_104 : decode cX9_collect 104 = .ok (.ifCond .gt 39, 3) := by decide +kernel
theorem dX9_collect_107 : decode cX9_collect 107 = .ok (.aload_n 0, 1) := by decide +kernel
theorem dX9_collect_108 : decode cX9_collect 108 = .ok (.getfield 33, 3) := by decide +kernel
theorem dX9_collect_111 : decode cX9_collect 111 = .ok (.bipush 8, 2) := by decide +kernel
theorem dX9_collect_113 : decode cX9_collect 113 = .ok (.iload_n 1, 1) := by decide +kernel
theorem dX9_collect_114 : decode cX9_collect 114 = .ok (.imul, 1) := by decide +kernel
theorem dX9_collect_115 : decode cX9_collect 115 = .ok (.lload 4, 2) := by decide +kernel
theorem dX9_collect_117 : decode cX9_collect 117 = .ok (.l2i, 1) := by decide +kernel
theorem dX9_collect_118 : decode cX9_collect 118 = .ok (.iadd, 1) := by decide +kernel
theorem dX9_collect_119 : decode cX9_collect 119 = .ok (.baload, 1) := by decide +kernel
theorem dX9_collect_120 : decode cX9_collect 120 = .ok (.ifCond .eq 23, 3) := by decide +kernel
theorem dX9_collect_123 : decode cX9_collect 123 = .ok (.aload_n 0, 1) := by decide +kernel
theorem dX9_collect_124 : decode cX9_collect 124 = .ok (.getfield 37, 3) := by decide +kernel
theorem dX9_collect_127 : decode cX9_collect 127 = .ok (.bipush 8, 2) := by decide +kernel
theorem dX9_collect_129 : decode cX9_collect 129 = .ok (.iload_n 1, 1) := by decide +kernel
theorem dX9_collect_130 : decode cX9_collect 130 = .ok (.imul, 1) := by decide +kernel
theorem dX9_collect_131 : decode cX9_collect 131 = .ok (.lload 4, 2) := by decide +kernel
theorem dX9_collect_133 : decode cX9_collect 133 = .ok (.l2i, 1) := by decide +kernel
theorem dX9_collect_134 : decode cX9_collect 134 = .ok (.iadd, 1) := by decide +kernel
theorem dX9_collect_135 : decode cX9_collect 135 = .ok (.iaload, 1) := by decide +kernel
theorem dX9_collect_136 : decode cX9_collect 136 = .ok (.i2l, 1) := by decide +kernel
theorem dX9_collect_137 : decode cX9_collect 137 = .ok (.lload 4, 2) := by decide +kernel
theorem dX9_collect_139 : decode cX9_collect 139 = .ok (.lcmp, 1) := by decide +kernel
theorem dX9_collect_140 : decode cX9_collect 140 = .ok (.ifCond .eq 6, 3) := by decide +kernel
theorem dX9_collect_143 : decode cX9_collect 143 = .ok (.bipush (-3), 2) := by decide +kernel
theorem dX9_collect_145 : decode cX9_collect 145 = .ok (.ireturn, 1) := by decide +kernel
theorem dX9_collect_146 : decode cX9_collect 146 = .ok (.aload_n 0, 1) := by decide +kernel
theorem dX9_collect_147 : decode cX9_collect 147 = .ok (.getfield 30, 3) := by decide +kernel
theorem dX9_collect_150 : decode cX9_collect 150 = .ok (.iload_n 1, 1) := by decide +kernel
theorem dX9_collect_151 : decode cX9_collect 151 = .ok (.aload_n 0, 1) := by decide +kernel
theorem dX9_collect_152 : decode cX9_collect 152 = .ok (.iload_n 3, 1) := by decide +kernel
theorem dX9_collect_153 : decode cX9_collect 153 = .ok (.iconst 4, 1) := by decide +kernel
theorem dX9_collect_154 : decode cX9_collect 154 = .ok (.iadd, 1) := by decide +kernel
theorem dX9_collect_155 : decode cX9_collect 155 = .ok (.iconst 4, 1) := by decide +kernel
theorem dX9_collect_156 : decode cX9_collect 156 = .ok (.invokevirtual 90, 3) := by decide +kernel
theorem dX9_collect_159 : decode cX9_collect 159 = .ok (.ldc2_w 199, 3) := by decide +kernel
theorem dX9_collect_162 : decode cX9_collect 162 = .ok (.land, 1) := by decide +kernel
theorem dX9_collect_163 : decode cX9_collect 163 = .ok (.l2i, 1) := by decide +kernel
theorem dX9_collect_164 : decode cX9_collect 164 = .ok (.iastore, 1) := by decide +kernel
theorem dX9_collect_165 : decode cX9_collect 165 = .ok (.iconst 0, 1) := by decide +kernel
theorem dX9_collect_166 : decode cX9_collect 166 = .ok (.istore 6, 2) := by decide +kernel
theorem dX9_collect_168 : decode cX9_collect 168 = .ok (.iload 6, 2) := by decide +kernel
theorem dX9_collect_170 : decode cX9_collect 170 = .ok (.bipush 8, 2) := by decide +kernel
theorem dX9_collect_172 : decode cX9_collect 172 = .ok (.if_icmp .ge 70, 3) := by decide +kernel
theorem dX9_collect_175 : decode cX9_collect 175 = .ok (.aload_n 0, 1) := by decide +kernel
theorem dX9_collect_176 : decode cX9_collect 176 = .ok (.getfield 33, 3) := by decide +kernel
theorem dX9_collect_179 : decode cX9_collect 179 = .ok (.bipush 8, 2) := by decide +kernel
theorem dX9_collect_181 : decode cX9_collect 181 = .ok (.iload_n 1, 1) := by decide +kernel
theorem dX9_collect_182 : decode cX9_collect 182 = .ok (.imul, 1) := by decide +kernel
theorem dX9_collect_183 : decode cX9_collect 183 = .ok (.iload 6, 2) := by decide +kernel
theorem dX9_collect_185 : decode cX9_collect 185 = .ok (.iadd, 1) := by decide +kernel
theorem dX9_collect_186 : decode cX9_collect 186 = .ok (.baload, 1) := by decide +kernel
theorem dX9_collect_187 : decode cX9_collect 187 = .ok (.ifCond .eq 49, 3) := by decide +kernel
theorem dX9_collect_190 : decode cX9_collect 190 = .ok (.aload_n 0, 1) := by decide +kernel
theorem dX9_collect_191 : decode cX9_collect 191 = .ok (.getfield 37, 3) := by decide +kernel
theorem dX9_collect_194 : decode cX9_collect 194 = .ok (.bipush 8, 2) := by decide +kernel
theorem dX9_collect_196 : decode cX9_collect 196 = .ok (.iload_n 1, 1) := by decide +kernel
theorem dX9_collect_197 : decode cX9_collect 197 = .ok (.imul, 1) := by decide +kernel
theorem dX9_collect_198 : decode cX9_collect 198 = .ok (.iload 6, 2) := by decide +kernel
theorem dX9_collect_200 : decode cX9_collect 200 = .ok (.iadd, 1) := by decide +kernel
theorem dX9_collect_201 : decode cX9_collect 201 = .ok (.iaload, 1) := by decide +kernel
theorem dX9_collect_202 : decode cX9_collect 202 = .ok (.i2l, 1) := by decide +kernel
theorem dX9_collect_203 : decode cX9_collect 203 = .ok (.lload 4, 2) := by decide +kernel
theorem dX9_collect_205 : decode cX9_collect 205 = .ok (.lcmp, 1) := by decide +kernel
theorem dX9_collect_206 : decode cX9_collect 206 = .ok (.ifCond .ne 30, 3) := by decide +kernel
theorem dX9_collect_209 : decode cX9_collect 209 = .ok (.aload_n 0, 1) := by decide +kernel
theorem dX9_collect_210 : decode cX9_collect 210 = .ok (.getfield 33, 3) := by decide +kernel
theorem dX9_collect_213 : decode cX9_collect 213 = .ok (.bipush 8, 2) := by decide +kernel
theorem dX9_collect_215 : decode cX9_collect 215 = .ok (.iload_n 1, 1) := by decide +kernel
theorem dX9_collect_216 : decode cX9_collect 216 = .ok (.imul, 1) := by decide +kernel
theorem dX9_collect_217 : decode cX9_collect 217 = .ok (.iload 6, 2) := by decide +kernel
theorem dX9_collect_219 : decode cX9_collect 219 = .ok (.iadd, 1) := by decide +kernel
theorem dX9_collect_220 : decode cX9_collect 220 = .ok (.iconst 0, 1) := by decide +kernel
theorem dX9_collect_221 : decode cX9_collect 221 = .ok (.bastore, 1) := by decide +kernel
theorem dX9_collect_222 : decode cX9_collect 222 = .ok (.aload_n 0, 1) := by decide +kernel
theorem dX9_collect_223 : decode cX9_collect 223 = .ok (.getfield 37, 3) := by decide +kernel
theorem dX9_collect_226 : decode cX9_collect 226 = .ok (.bipush 8, 2) := by decide +kernel
theorem dX9_collect_228 : decode cX9_collect 228 = .ok (.iload_n 1, 1) := by decide +kernel
theorem dX9_collect_229 : decode cX9_collect 229 = .ok (.imul, 1) := by decide +kernel
theorem dX9_collect_230 : decode cX9_collect 230 = .ok (.iload 6, 2) := by decide +kernel
theorem dX9_collect_232 : decode cX9_collect 232 = .ok (.iadd, 1) := by decide +kernel
theorem dX9_collect_233 : decode cX9_collect 233 = .ok (.bipush (-2), 2) := by decide +kernel
theorem dX9_collect_235 : decode cX9_collect 235 = .ok (.iastore, 1) := by decide +kernel
theorem dX9_collect_236 : decode cX9_collect 236 = .ok (.iinc 6 1, 3) := by decide +kernel
theorem dX9_collect_239 : decode cX9_collect 239 = .ok (.goto (-71), 3) := by decide +kernel
theorem dX9_collect_242 : decode cX9_collect 242 = .ok (.lload 4, 2) := by decide +kernel
theorem dX9_collect_244 : decode cX9_collect 244 = .ok (.l2i, 1) := by decide +kernel
theorem dX9_collect_245 : decode cX9_collect 245 = .ok (.ireturn, 1) := by decide +kernel
theorem dX9_written_0 : decode cX9_written 0 = .ok (.iload_n 1, 1) := by decide +kernel
theorem dX9_written_1 : decode cX9_written 1 = .ok (.iconst 0, 1) := by decide +kernel
theorem dX9_written_2 : decode cX9_written 2 = .ok (.iconst 2, 1) := by decide +kernel
theorem dX9_written_3 : decode cX9_written 3 = .ok (.invokestatic 7, 3) := by decide +kernel
theorem dX9_written_6 : decode cX9_written 6 = .ok (.ifCond .eq 12, 3) := by decide +kernel
theorem dX9_written_9 : decode cX9_written 9 = .ok (.aload_n 0, 1) := by decide +kernel
theorem dX9_written_10 : decode cX9_written 10 = .ok (.getfield 30, 3) := by decide +kernel
theorem dX9_written_13 : decode cX9_written 13 = .ok (.iload_n 1, 1) := by decide +kernel
theorem dX9_written_14 : decode cX9_written 14 = .ok (.iaload, 1) := by decide +kernel
theorem dX9_written_15 : decode cX9_written 15 = .ok (.goto 5, 3) := by decide +kernel
theorem dX9_written_18 : decode cX9_written 18 = .ok (.bipush (-2), 2) := by decide +kernel
theorem dX9_written_20 : decode cX9_written 20 = .ok (.ireturn, 1) := by decide +kernel
theorem dX9_wire_0 : decode cX9_wire 0 = .ok (.iload_n 1, 1) := by decide +kernel
theorem dX9_wire_1 : decode cX9_wire 1 = .ok (.iconst 0, 1) := by decide +kernel
theorem dX9_wire_2 : decode cX9_wire 2 = .ok (.aload_n 0, 1) := by decide +kernel
theorem dX9_wire_3 : decode cX9_wire 3 = .ok (.getfield 165, 3) := by decide +kernel
theorem dX9_wire_6 : decode cX9_wire 6 = .ok (.bipush 16, 2) := by decide +kernel
theorem dX9_wire_8 : decode cX9_wire 8 = .ok (.invokestatic 157, 3) := by decide +kernel
theorem dX9_wire_11 : decode cX9_wire 11 = .ok (.iconst 1, 1) := by decide +kernel
theorem dX9_wire_12 : decode cX9_wire 12 = .ok (.isub, 1) := by decide +kernel
theorem dX9_wire_13 : decode cX9_wire 13 = .ok (.invokestatic 7, 3) := by decide +kernel
theorem dX9_wire_16 : decode cX9_wire 16 = .ok (.ifCond .ne 5, 3) := by decide +kernel
theorem dX9_wire_19 : decode cX9_wire 19 = .ok (.iconst (-1), 1) := by decide +kernel
theorem dX9_wire_20 : decode cX9_wire 20 = .ok (.ireturn, 1) := by decide +kernel
theorem dX9_wire_21 : decode cX9_wire 21 = .ok (.aload_n 0, 1) := by decide +kernel
theorem dX9_wire_22 : decode cX9_wire 22 = .ok (.getfield 165, 3) := by decide +kernel
theorem dX9_wire_25 : decode cX9_wire 25 = .ok (.iconst 1, 1) := by decide +kernel
theorem dX9_wire_26 : decode cX9_wire 26 = .ok (.isub, 1) := by decide +kernel
theorem dX9_wire_27 : decode cX9_wire 27 = .ok (.iload_n 1, 1) := by decide +kernel
theorem dX9_wire_28 : decode cX9_wire 28 = .ok (.isub, 1) := by decide +kernel
theorem dX9_wire_29 : decode cX9_wire 29 = .ok (.bipush 16, 2) := by decide +kernel
theorem dX9_wire_31 : decode cX9_wire 31 = .ok (.irem, 1) := by decide +kernel
theorem dX9_wire_32 : decode cX9_wire 32 = .ok (.istore_n 3, 1) := by decide +kernel
theorem dX9_wire_33 : decode cX9_wire 33 = .ok (.iload_n 2, 1) := by decide +kernel
theorem dX9_wire_34 : decode cX9_wire 34 = .ok (.iconst 0, 1) := by decide +kernel
theorem dX9_wire_35 : decode cX9_wire 35 = .ok (.aload_n 0, 1) := by decide +kernel
theorem dX9_wire_36 : decode cX9_wire 36 = .ok (.getfield 73, 3) := by decide +kernel
theorem dX9_wire_39 : decode cX9_wire 39 = .ok (.iload_n 3, 1) := by decide +kernel
theorem dX9_wire_40 : decode cX9_wire 40 = .ok (.iaload, 1) := by decide +kernel
theorem dX9_wire_41 : decode cX9_wire 41 = .ok (.iconst 1, 1) := by decide +kernel
theorem dX9_wire_42 : decode cX9_wire 42 = .ok (.isub, 1) := by decide +kernel
theorem dX9_wire_43 : decode cX9_wire 43 = .ok (.invokestatic 7, 3) := by decide +kernel
theorem dX9_wire_46 : decode cX9_wire 46 = .ok (.ifCond .eq 21, 3) := by decide +kernel
theorem dX9_wire_49 : decode cX9_wire 49 = .ok (.aload_n 0, 1) := by decide +kernel
theorem dX9_wire_50 : decode cX9_wire 50 = .ok (.getfield 70, 3) := by decide +kernel
theorem dX9_wire_53 : decode cX9_wire 53 = .ok (.bipush 80, 2) := by decide +kernel
theorem dX9_wire_55 : decode cX9_wire 55 = .ok (.iload_n 3, 1) := by decide +kernel
theorem dX9_wire_56 : decode cX9_wire 56 = .ok (.imul, 1) := by decide +kernel
theorem dX9_wire_57 : decode cX9_wire 57 = .ok (.iload_n 2, 1) := by decide +kernel
theorem dX9_wire_58 : decode cX9_wire 58 = .ok (.iadd, 1) := by decide +kernel
theorem dX9_wire_59 : decode cX9_wire 59 = .ok (.baload, 1) := by decide +kernel
theorem dX9_wire_60 : decode cX9_wire 60 = .ok (.sipush 255, 3) := by decide +kernel
theorem dX9_wire_63 : decode cX9_wire 63 = .ok (.iand, 1) := by decide +kernel
theorem dX9_wire_64 : decode cX9_wire 64 = .ok (.goto 4, 3) := by decide +kernel
theorem dX9_wire_67 : decode cX9_wire 67 = .ok (.iconst (-1), 1) := by decide +kernel
theorem dX9_wire_68 : decode cX9_wire 68 = .ok (.ireturn, 1) := by decide +kernel
theorem dX9_disk_0 : decode cX9_disk 0 = .ok (.iload_n 1, 1) := by decide +kernel
theorem dX9_disk_1 : decode cX9_disk 1 = .ok (.iconst 0, 1) := by decide +kernel
theorem dX9_disk_2 : decode cX9_disk 2 = .ok (.bipush 31, 2) := by decide +kernel
theorem dX9_disk_4 : decode cX9_disk 4 = .ok (.invokestatic 7, 3) := by decide +kernel
theorem dX9_disk_7 : decode cX9_disk 7 = .ok (.ifCond .eq 31, 3) := by decide +kernel
theorem dX9_disk_10 : decode cX9_disk 10 = .ok (.iload_n 2, 1) := by decide +kernel
theorem dX9_disk_11 : decode cX9_disk 11 = .ok (.iconst 0, 1) := by decide +kernel
theorem dX9_disk_12 : decode cX9_disk 12 = .ok (.bipush 63, 2) := by decide +kernel
theorem dX9_disk_14 : decode cX9_disk 14 = .ok (.invokestatic 7, 3) := by decide +kernel
theorem dX9_disk_17 : decode cX9_disk 17 = .ok (.ifCond .eq 21, 3) := by decide +kernel
theorem dX9_disk_20 : decode cX9_disk 20 = .ok (.aload_n 0, 1) := by decide +kernel
theorem dX9_disk_21 : decode cX9_disk 21 = .ok (.getfield 46, 3) := by decide +kernel
theorem dX9_disk_24 : decode cX9_disk 24 = .ok (.bipush 64, 2) := by decide +kernel
theorem dX9_disk_26 : decode cX9_disk 26 = .ok (.iload_n 1, 1) := by decide +kernel
theorem dX9_disk_27 : decode cX9_disk 27 = .ok (.imul, 1) := by decide +kernel
theorem dX9_disk_28 : decode cX9_disk 28 = .ok (.iload_n 2, 1) := by decide +kernel
theorem dX9_disk_29 : decode cX9_disk 29 = .ok (.iadd, 1) := by decide +kernel
theorem dX9_disk_30 : decode cX9_disk 30 = .ok (.baload, 1) := by decide +kernel
theorem dX9_disk_31 : decode cX9_disk 31 = .ok (.sipush 255, 3) := by decide +kernel
theorem dX9_disk_34 : decode cX9_disk 34 = .ok (.iand, 1) := by decide +kernel
theorem dX9_disk_35 : decode cX9_disk 35 = .ok (.goto 5, 3) := by decide +kernel
theorem dX9_disk_38 : decode cX9_disk 38 = .ok (.bipush (-2), 2) := by decide +kernel
theorem dX9_disk_40 : decode cX9_disk 40 = .ok (.ireturn, 1) := by decide +kernel
theorem dX9_told_0 : decode cX9_told 0 = .ok (.iload_n 1, 1) := by decide +kernel
theorem dX9_told_1 : decode cX9_told 1 = .ok (.iconst 0, 1) := by decide +kernel
theorem dX9_told_2 : decode cX9_told 2 = .ok (.iconst 2, 1) := by decide +kernel
theorem dX9_told_3 : decode cX9_told 3 = .ok (.invokestatic 7, 3) := by decide +kernel
theorem dX9_told_6 : decode cX9_told 6 = .ok (.ifCond .eq 13, 3) := by decide +kernel
theorem dX9_told_9 : decode cX9_told 9 = .ok (.iload_n 2, 1) := by decide +kernel
theorem dX9_told_10 : decode cX9_told 10 = .ok (.iconst 0, 1) := by decide +kernel
theorem dX9_told_11 : decode cX9_told 11 = .ok (.bipush 6, 2) := by decide +kernel
theorem dX9_told_13 : decode cX9_told 13 = .ok (.invokestatic 7, 3) := by decide +kernel
theorem dX9_told_16 : decode cX9_told 16 = .ok (.ifCond .ne 6, 3) := by decide +kernel
theorem dX9_told_19 : decode cX9_told 19 = .ok (.bipush (-2), 2) := by decide +kernel
theorem dX9_told_21 : decode cX9_told 21 = .ok (.ireturn, 1) := by decide +kernel
theorem dX9_told_22 : decode cX9_told 22 = .ok (.iload_n 2, 1) := by decide +kernel
theorem dX9_told_23 : decode cX9_told 23 = .ok (.tableswitch 97 0 5 #[37, 52, 59, 66, 73, 80], 37) := by decide +kernel
theorem dX9_told_60 : decode cX9_told 60 = .ok (.aload_n 0, 1) := by decide +kernel
theorem dX9_told_61 : decode cX9_told 61 = .ok (.getfield 11, 3) := by decide +kernel
theorem dX9_told_64 : decode cX9_told 64 = .ok (.iload_n 1, 1) := by decide +kernel
theorem dX9_told_65 : decode cX9_told 65 = .ok (.iaload, 1) := by decide +kernel
theorem dX9_told_66 : decode cX9_told 66 = .ok (.ifCond .le 7, 3) := by decide +kernel
theorem dX9_told_69 : decode cX9_told 69 = .ok (.iconst 1, 1) := by decide +kernel
theorem dX9_told_70 : decode cX9_told 70 = .ok (.goto 4, 3) := by decide +kernel
theorem dX9_told_73 : decode cX9_told 73 = .ok (.iconst 0, 1) := by decide +kernel
theorem dX9_told_74 : decode cX9_told 74 = .ok (.ireturn, 1) := by decide +kernel
theorem dX9_told_75 : decode cX9_told 75 = .ok (.aload_n 0, 1) := by decide +kernel
theorem dX9_told_76 : decode cX9_told 76 = .ok (.getfield 15, 3) := by decide +kernel
theorem dX9_told_79 : decode cX9_told 79 = .ok (.iload_n 1, 1) := by decide +kernel
theorem dX9_told_80 : decode cX9_told 80 = .ok (.iaload, 1) := by decide +kernel
theorem dX9_told_81 : decode cX9_told 81 = .ok (.ireturn, 1) := by decide +kernel
theorem dX9_told_82 : decode cX9_told 82 = .ok (.aload_n 0, 1) := by decide +kernel
theorem dX9_told_83 : decode cX9_told 83 = .ok (.getfield 18, 3) := by decide +kernel
theorem dX9_told_86 : decode cX9_told 86 = .ok (.iload_n 1, 1) := by decide +kernel
theorem dX9_told_87 : decode cX9_told 87 = .ok (.iaload, 1) := by decide +kernel
theorem dX9_told_88 : decode cX9_told 88 = .ok (.ireturn, 1) := by decide +kernel
theorem dX9_told_89 : decode cX9_told 89 = .ok (.aload_n 0, 1) := by decide +kernel
theorem dX9_told_90 : decode cX9_told 90 = .ok (.getfield 21, 3) := by decide +kernel
theorem dX9_told_93 : decode cX9_told 93 = .ok (.iload_n 1, 1) := by decide +kernel
theorem dX9_told_94 : decode cX9_told 94 = .ok (.iaload, 1) := by decide +kernel
theorem dX9_told_95 : decode cX9_told 95 = .ok (.ireturn, 1) := by decide +kernel
theorem dX9_told_96 : decode cX9_told 96 = .ok (.aload_n 0, 1) := by decide +kernel
theorem dX9_told_97 : decode cX9_told 97 = .ok (.getfield 11, 3) := by decide +kernel
theorem dX9_told_100 : decode cX9_told 100 = .ok (.iload_n 1, 1) := by decide +kernel
theorem dX9_told_101 : decode cX9_told 101 = .ok (.iaload, 1) := by decide +kernel
theorem dX9_told_102 : decode cX9_told 102 = .ok (.ireturn, 1) := by decide +kernel
theorem dX9_told_103 : decode cX9_told 103 = .ok (.aload_n 0, 1) := by decide +kernel
theorem dX9_told_104 : decode cX9_told 104 = .ok (.getfield 83, 3) := by decide +kernel
theorem dX9_told_107 : decode cX9_told 107 = .ok (.ifCond .eq 11, 3) := by decide +kernel
theorem dX9_told_110 : decode cX9_told 110 = .ok (.aload_n 0, 1) := by decide +kernel
theorem dX9_told_111 : decode cX9_told 111 = .ok (.iload_n 1, 1) := by decide +kernel
theorem dX9_told_112 : decode cX9_told 112 = .ok (.invokevirtual 180, 3) := by decide +kernel
theorem dX9_told_115 : decode cX9_told 115 = .ok (.goto 4, 3) := by decide +kernel
theorem dX9_told_118 : decode cX9_told 118 = .ok (.iconst 0, 1) := by decide +kernel
theorem dX9_told_119 : decode cX9_told 119 = .ok (.ireturn, 1) := by decide +kernel
theorem dX9_told_120 : decode cX9_told 120 = .ok (.aload_n 0, 1) := by decide +kernel
theorem dX9_told_121 : decode cX9_told 121 = .ok (.getfield 27, 3) := by decide +kernel
theorem dX9_told_124 : decode cX9_told 124 = .ok (.iload_n 1, 1) := by decide +kernel
theorem dX9_told_125 : decode cX9_told 125 = .ok (.iaload, 1) := by decide +kernel
theorem dX9_told_126 : decode cX9_told 126 = .ok (.ireturn, 1) := by decide +kernel
theorem dX9_count_0 : decode cX9_count 0 = .ok (.iload_n 1, 1) := by decide +kernel
theorem dX9_count_1 : decode cX9_count 1 = .ok (.tableswitch 68 0 4 #[35, 40, 45, 50, 55], 35) := by decide +kernel
theorem dX9_count_36 : decode cX9_count 36 = .ok (.aload_n 0, 1) := by decide +kernel
theorem dX9_count_37 : decode cX9_count 37 = .ok (.getfield 86, 3) := by decide +kernel
theorem dX9_count_40 : decode cX9_count 40 = .ok (.ireturn, 1) := by decide +kernel
theorem dX9_count_41 : decode cX9_count 41 = .ok (.aload_n 0, 1) := by decide +kernel
theorem dX9_count_42 : decode cX9_count 42 = .ok (.getfield 165, 3) := by decide +kernel
theorem dX9_count_45 : decode cX9_count 45 = .ok (.ireturn, 1) := by decide +kernel
theorem dX9_count_46 : decode cX9_count 46 = .ok (.aload_n 0, 1) := by decide +kernel
theorem dX9_count_47 : decode cX9_count 47 = .ok (.getfield 177, 3) := by decide +kernel
theorem dX9_count_50 : decode cX9_count 50 = .ok (.ireturn, 1) := by decide +kernel
theorem dX9_count_51 : decode cX9_count 51 = .ok (.aload_n 0, 1) := by decide +kernel
theorem dX9_count_52 : decode cX9_count 52 = .ok (.getfield 170, 3) := by decide +kernel
theorem dX9_count_55 : decode cX9_count 55 = .ok (.ireturn, 1) := by decide +kernel
theorem dX9_count_56 : decode cX9_count 56 = .ok (.aload_n 0, 1) := by decide +kernel
theorem dX9_count_57 : decode cX9_count 57 = .ok (.getfield 79, 3) := by decide +kernel
theorem dX9_count_60 : decode cX9_count 60 = .ok (.ifCond .eq 7, 3) := by decide +kernel
theorem dX9_count_63 : decode cX9_count 63 = .ok (.iconst 1, 1) := by decide +kernel
theorem dX9_count_64 : decode cX9_count 64 = .ok (.goto 4, 3) := by decide +kernel
theorem dX9_count_67 : decode cX9_count 67 = .ok (.iconst 0, 1) := by decide +kernel
theorem dX9_count_68 : decode cX9_count 68 = .ok (.ireturn, 1) := by decide +kernel
theorem dX9_count_69 : decode cX9_count 69 = .ok (.bipush (-2), 2) := by decide +kernel
theorem dX9_count_71 : decode cX9_count 71 = .ok (.ireturn, 1) := by decide +kernel
