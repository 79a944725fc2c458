theorem dX5_init_0 : decode cX5_init 0 = .ok (.aload_n 0, 1) := by decide +kernel
theorem dX5_init_1 : decode cX5_init 1 = .ok (.invokespecial 1, 3) := by decide +kernel
theorem dX5_init_4 : decode cX5_init 4 = .ok (.aload_n 0, 1) := by decide +kernel
theorem dX5_init_5 : decode cX5_init 5 = .ok (.bipush 6, 2) := by decide +kernel
theorem dX5_init_7 : decode cX5_init 7 = .ok (.newarray .int, 2) := by decide +kernel
theorem dX5_init_9 : decode cX5_init 9 = .ok (.putfield 7, 3) := by decide +kernel
theorem dX5_init_12 : decode cX5_init 12 = .ok (.aload_n 0, 1) := by decide +kernel
theorem dX5_init_13 : decode cX5_init 13 = .ok (.bipush 6, 2) := by decide +kernel
theorem dX5_init_15 : decode cX5_init 15 = .ok (.newarray .int, 2) := by decide +kernel
theorem dX5_init_17 : decode cX5_init 17 = .ok (.putfield 13, 3) := by decide +kernel
theorem dX5_init_20 : decode cX5_init 20 = .ok (.aload_n 0, 1) := by decide +kernel
theorem dX5_init_21 : decode cX5_init 21 = .ok (.iconst 4, 1) := by decide +kernel
theorem dX5_init_22 : decode cX5_init 22 = .ok (.newarray .int, 2) := by decide +kernel
theorem dX5_init_24 : decode cX5_init 24 = .ok (.putfield 16, 3) := by decide +kernel
theorem dX5_init_27 : decode cX5_init 27 = .ok (.aload_n 0, 1) := by decide +kernel
theorem dX5_init_28 : decode cX5_init 28 = .ok (.bipush 24, 2) := by decide +kernel
theorem dX5_init_30 : decode cX5_init 30 = .ok (.newarray .int, 2) := by decide +kernel
theorem dX5_init_32 : decode cX5_init 32 = .ok (.putfield 19, 3) := by decide +kernel
theorem dX5_init_35 : decode cX5_init 35 = .ok (.aload_n 0, 1) := by decide +kernel
theorem dX5_init_36 : decode cX5_init 36 = .ok (.bipush 24, 2) := by decide +kernel
theorem dX5_init_38 : decode cX5_init 38 = .ok (.newarray .int, 2) := by decide +kernel
theorem dX5_init_40 : decode cX5_init 40 = .ok (.putfield 22, 3) := by decide +kernel
theorem dX5_init_43 : decode cX5_init 43 = .ok (.aload_n 0, 1) := by decide +kernel
theorem dX5_init_44 : decode cX5_init 44 = .ok (.bipush 24, 2) := by decide +kernel
theorem dX5_init_46 : decode cX5_init 46 = .ok (.newarray .int, 2) := by decide +kernel
theorem dX5_init_48 : decode cX5_init 48 = .ok (.putfield 25, 3) := by decide +kernel
theorem dX5_init_51 : decode cX5_init 51 = .ok (.aload_n 0, 1) := by decide +kernel
theorem dX5_init_52 : decode cX5_init 52 = .ok (.bipush 24, 2) := by decide +kernel
theorem dX5_init_54 : decode cX5_init 54 = .ok (.newarray .int, 2) := by decide +kernel
theorem dX5_init_56 : decode cX5_init 56 = .ok (.putfield 28, 3) := by decide +kernel
theorem dX5_init_59 : decode cX5_init 59 = .ok (.aload_n 0, 1) := by decide +kernel
theorem dX5_init_60 : decode cX5_init 60 = .ok (.bipush 24, 2) := by decide +kernel
theorem dX5_init_62 : decode cX5_init 62 = .ok (.newarray .int, 2) := by decide +kernel
theorem dX5_init_64 : decode cX5_init 64 = .ok (.putfield 31, 3) := by decide +kernel
theorem dX5_init_67 : decode cX5_init 67 = .ok (.aload_n 0, 1) := by decide +kernel
theorem dX5_init_68 : decode cX5_init 68 = .ok (.bipush 24, 2) := by decide +kernel
theorem dX5_init_70 : decode cX5_init 70 = .ok (.newarray .int, 2) := by decide +kernel
theorem dX5_init_72 : decode cX5_init 72 = .ok (.putfield 34, 3) := by decide +kernel
theorem dX5_init_75 : decode cX5_init 75 = .ok (.aload_n 0, 1) := by decide +kernel
theorem dX5_init_76 : decode cX5_init 76 = .ok (.iconst 4, 1) := by decide +kernel
theorem dX5_init_77 : decode cX5_init 77 = .ok (.newarray .int, 2) := by decide +kernel
theorem dX5_init_79 : decode cX5_init 79 = .ok (.putfield 37, 3) := by decide +kernel
theorem dX5_init_82 : decode cX5_init 82 = .ok (.aload_n 0, 1) := by decide +kernel
theorem dX5_init_83 : decode cX5_init 83 = .ok (.sipush 148, 3) := by decide +kernel
theorem dX5_init_86 : decode cX5_init 86 = .ok (.newarray .int, 2) := by decide +kernel
theorem dX5_init_88 : decode cX5_init 88 = .ok (.putfield 40, 3) := by decide +kernel
theorem dX5_init_91 : decode cX5_init 91 = .ok (.aload_n 0, 1) := by decide +kernel
theorem dX5_init_92 : decode cX5_init 92 = .ok (.getfield 16, 3) := by decide +kernel
theorem dX5_init_95 : decode cX5_init 95 = .ok (.iconst 0, 1) := by decide +kernel
theorem dX5_init_96 : decode cX5_init 96 = .ok (.bipush 10, 2) := by decide +kernel
theorem dX5_init_98 : decode cX5_init 98 = .ok (.iastore, 1) := by decide +kernel
theorem dX5_init_99 : decode cX5_init 99 = .ok (.aload_n 0, 1) := by decide +kernel
theorem dX5_init_100 : decode cX5_init 100 = .ok (.getfield 16, 3) := by decide +kernel
theorem dX5_init_103 : decode cX5_init 103 = .ok (.iconst 1, 1) := by decide +kernel
theorem dX5_init_104 : decode cX5_init 104 = .ok (.bipush 40, 2) := by decide +kernel
theorem dX5_init_106 : decode cX5_init 106 = .ok (.iastore, 1) := by decide +kernel
theorem dX5_init_107 : decode cX5_init 107 = .ok (.aload_n 0, 1) := by decide +kernel
theorem dX5_init_108 : decode cX5_init 108 = .ok (.getfield 16, 3) := by decide +kernel
theorem dX5_init_111 : decode cX5_init 111 = .ok (.iconst 2, 1) := by decide +kernel
theorem dX5_init_112 : decode cX5_init 112 = .ok (.iconst 2, 1) := by decide +kernel
theorem dX5_init_113 : decode cX5_init 113 = .ok (.iastore, 1) := by decide +kernel
theorem dX5_init_114 : decode cX5_init 114 = .ok (.aload_n 0, 1) := by decide +kernel
theorem dX5_init_115 : decode cX5_init 115 = .ok (.getfield 16, 3) := by decide +kernel
theorem dX5_init_118 : decode cX5_init 118 = .ok (.iconst 3, 1) := by decide +kernel
theorem dX5_init_119 : decode cX5_init 119 = .ok (.iconst 5, 1) := by decide +kernel
theorem dX5_init_120 : decode cX5_init 120 = .ok (.iastore, 1) := by decide +kernel
theorem dX5_init_121 : decode cX5_init 121 = .ok (.return_, 1) := by decide +kernel
theorem dX5_within_0 : decode cX5_within 0 = .ok (.iload_n 0, 1) := by decide +kernel
theorem dX5_within_1 : decode cX5_within 1 = .ok (.iload_n 1, 1) := by decide +kernel
theorem dX5_within_2 : decode cX5_within 2 = .ok (.if_icmp .lt 12, 3) := by decide +kernel
theorem dX5_within_5 : decode cX5_within 5 = .ok (.iload_n 0, 1) := by decide +kernel
theorem dX5_within_6 : decode cX5_within 6 = .ok (.iload_n 2, 1) := by decide +kernel
theorem dX5_within_7 : decode cX5_within 7 = .ok (.if_icmp .gt 7, 3) := by decide +kernel
theorem dX5_within_10 : decode cX5_within 10 = .ok (.iconst 1, 1) := by decide +kernel
theorem dX5_within_11 : decode cX5_within 11 = .ok (.goto 4, 3) := by decide +kernel
theorem dX5_within_14 : decode cX5_within 14 = .ok (.iconst 0, 1) := by decide +kernel
theorem dX5_within_15 : decode cX5_within 15 = .ok (.ireturn, 1) := by decide +kernel
theorem dX5_isIn_0 : decode cX5_isIn 0 = .ok (.iload_n 0, 1) := by decide +kernel
theorem dX5_isIn_1 : decode cX5_isIn 1 = .ok (.iload_n 1, 1) := by decide +kernel
theorem dX5_isIn_2 : decode cX5_isIn 2 = .ok (.ishr, 1) := by decide +kernel
theorem dX5_isIn_3 : decode cX5_isIn 3 = .ok (.iconst 1, 1) := by decide +kernel
theorem dX5_isIn_4 : decode cX5_isIn 4 = .ok (.iand, 1) := by decide +kernel
theorem dX5_isIn_5 : decode cX5_isIn 5 = .ok (.iconst 1, 1) := by decide +kernel
theorem dX5_isIn_6 : decode cX5_isIn 6 = .ok (.if_icmp .ne 7, 3) := by decide +kernel
theorem dX5_isIn_9 : decode cX5_isIn 9 = .ok (.iconst 1, 1) := by decide +kernel
theorem dX5_isIn_10 : decode cX5_isIn 10 = .ok (.goto 4, 3) := by decide +kernel
theorem dX5_isIn_13 : decode cX5_isIn 13 = .ok (.iconst 0, 1) := by decide +kernel
theorem dX5_isIn_14 : decode cX5_isIn 14 = .ok (.ireturn, 1) := by decide +kernel
theorem dX5_size_0 : decode cX5_size 0 = .ok (.iload_n 0, 1) := by decide +kernel
theorem dX5_size_1 : decode cX5_size 1 = .ok (.ifCond .ge 8, 3) := by decide +kernel
theorem dX5_size_4 : decode cX5_size 4 = .ok (.iload_n 0, 1) := by decide +kernel
theorem dX5_size_5 : decode cX5_size 5 = .ok (.ineg, 1) := by decide +kernel
theorem dX5_size_6 : decode cX5_size 6 = .ok (.goto 4, 3) := by decide +kernel
theorem dX5_size_9 : decode cX5_size 9 = .ok (.iload_n 0, 1) := by decide +kernel
theorem dX5_size_10 : decode cX5_size 10 = .ok (.ireturn, 1) := by decide +kernel
theorem dX5_letter_0 : decode cX5_letter 0 = .ok (.iload_n 1, 1) := by decide +kernel
theorem dX5_letter_1 : decode cX5_letter 1 = .ok (.bipush 32, 2) := by decide +kernel
theorem dX5_letter_3 : decode cX5_letter 3 = .ok (.bipush 126, 2) := by decide +kernel
theorem dX5_letter_5 : decode cX5_letter 5 = .ok (.invokestatic 43, 3) := by decide +kernel
theorem dX5_letter_8 : decode cX5_letter 8 = .ok (.ifCond .ne 7, 3) := by decide +kernel
theorem dX5_letter_11 : decode cX5_letter 11 = .ok (.sipush (-1002), 3) := by decide +kernel
theorem dX5_letter_14 : decode cX5_letter 14 = .ok (.ireturn, 1) := by decide +kernel
theorem dX5_letter_15 : decode cX5_letter 15 = .ok (.aload_n 0, 1) := by decide +kernel
theorem dX5_letter_16 : decode cX5_letter 16 = .ok (.getfield 47, 3) := by decide +kernel
theorem dX5_letter_19 : decode cX5_letter 19 = .ok (.bipush 6, 2) := by decide +kernel
theorem dX5_letter_21 : decode cX5_letter 21 = .ok (.if_icmp .ne 7, 3) := by decide +kernel
theorem dX5_letter_24 : decode cX5_letter 24 = .ok (.sipush (-1004), 3) := by decide +kernel
theorem dX5_letter_27 : decode cX5_letter 27 = .ok (.ireturn, 1) := by decide +kernel
theorem dX5_letter_28 : decode cX5_letter 28 = .ok (.aload_n 0, 1) := by decide +kernel
theorem dX5_letter_29 : decode cX5_letter 29 = .ok (.getfield 7, 3) := by decide +kernel
theorem dX5_letter_32 : decode cX5_letter 32 = .ok (.aload_n 0, 1) := by decide +kernel
theorem dX5_letter_33 : decode cX5_letter 33 = .ok (.getfield 47, 3) := by decide +kernel
theorem dX5_letter_36 : decode cX5_letter 36 = .ok (.iload_n 1, 1) := by decide +kernel
theorem dX5_letter_37 : decode cX5_letter 37 = .ok (.iastore, 1) := by decide +kernel
theorem dX5_letter_38 : decode cX5_letter 38 = .ok (.aload_n 0, 1) := by decide +kernel
theorem dX5_letter_39 : decode cX5_letter 39 = .ok (.dup, 1) := by decide +kernel
theorem dX5_letter_40 : decode cX5_letter 40 = .ok (.getfield 47, 3) := by decide +kernel
theorem dX5_letter_43 : decode cX5_letter 43 = .ok (.iconst 1, 1) := by decide +kernel
theorem dX5_letter_44 : decode cX5_letter 44 = .ok (.iadd, 1) := by decide +kernel
theorem dX5_letter_45 : decode cX5_letter 45 = .ok (.putfield 47, 3) := by decide +kernel
theorem dX5_letter_48 : decode cX5_letter 48 = .ok (.aload_n 0, 1) := by decide +kernel
theorem dX5_letter_49 : decode cX5_letter 49 = .ok (.getfield 47, 3) := by decide +kernel
theorem dX5_letter_52 : decode cX5_letter 52 = .ok (.ireturn, 1) := by decide +kernel
theorem dX5_blank_0 : decode cX5_blank 0 = .ok (.aload_n 0, 1) := by decide +kernel
theorem dX5_blank_1 : decode cX5_blank 1 = .ok (.getfield 47, 3) := by decide +kernel
theorem dX5_blank_4 : decode cX5_blank 4 = .ok (.istore_n 1, 1) := by decide +kernel
theorem dX5_blank_5 : decode cX5_blank 5 = .ok (.aload_n 0, 1) := by decide +kernel
theorem dX5_blank_6 : decode cX5_blank 6 = .ok (.iconst 0, 1) := by decide +kernel
theorem dX5_blank_7 : decode cX5_blank 7 = .ok (.putfield 47, 3) := by decide +kernel
theorem dX5_blank_10 : decode cX5_blank 10 = .ok (.iload_n 1, 1) := by decide +kernel
theorem dX5_blank_11 : decode cX5_blank 11 = .ok (.ireturn, 1) := by decide +kernel
theorem dX5_fault_0 : decode cX5_fault 0 = .ok (.iconst 0, 1) := by decide +kernel
theorem dX5_fault_1 : decode cX5_fault 1 = .ok (.istore_n 1, 1) := by decide +kernel
theorem dX5_fault_2 : decode cX5_fault 2 = .ok (.bipush 48, 2) := by decide +kernel
theorem dX5_fault_4 : decode cX5_fault 4 = .ok (.istore_n 2, 1) := by decide +kernel
theorem dX5_fault_5 : decode cX5_fault 5 = .ok (.iload_n 1, 1) := by decide +kernel
theorem dX5_fault_6 : decode cX5_fault 6 = .ok (.aload_n 0, 1) := by decide +kernel
theorem dX5_fault_7 : decode cX5_fault 7 = .ok (.getfield 47, 3) := by decide +kernel
theorem dX5_fault_10 : decode cX5_fault 10 = .ok (.if_icmp .ge 31, 3) := by decide +kernel
theorem dX5_fault_13 : decode cX5_fault 13 = .ok (.aload_n 0, 1) := by decide +kernel
theorem dX5_fault_14 : decode cX5_fault 14 = .ok (.getfield 7, 3) := by decide +kernel
theorem dX5_fault_17 : decode cX5_fault 17 = .ok (.iload_n 1, 1) := by decide +kernel
theorem dX5_fault_18 : decode cX5_fault 18 = .ok (.iaload, 1) := by decide +kernel
theorem dX5_fault_19 : decode cX5_fault 19 = .ok (.iload_n 2, 1) := by decide +kernel
theorem dX5_fault_20 : decode cX5_fault 20 = .ok (.bipush 57, 2) := by decide +kernel
theorem dX5_fault_22 : decode cX5_fault 22 = .ok (.invokestatic 43, 3) := by decide +kernel
theorem dX5_fault_25 : decode cX5_fault 25 = .ok (.ifCond .eq 16, 3) := by decide +kernel
theorem dX5_fault_28 : decode cX5_fault 28 = .ok (.aload_n 0, 1) := by decide +kernel
theorem dX5_fault_29 : decode cX5_fault 29 = .ok (.getfield 7, 3) := by decide +kernel
theorem dX5_fault_32 : decode cX5_fault 32 = .ok (.iload_n 1, 1) := by decide +kernel
theorem dX5_fault_33 : decode cX5_fault 33 = .ok (.iaload, 1) := by decide +kernel
theorem dX5_fault_34 : decode cX5_fault 34 = .ok (.istore_n 2, 1) := by decide +kernel
theorem dX5_fault_35 : decode cX5_fault 35 = .ok (.iinc 1 1, 3) := by decide +kernel
theorem dX5_fault_38 : decode cX5_fault 38 = .ok (.goto (-33), 3) := by decide +kernel
theorem dX5_fault_41 : decode cX5_fault 41 = .ok (.iload_n 1, 1) := by decide +kernel
theorem dX5_fault_42 : decode cX5_fault 42 = .ok (.ireturn, 1) := by decide +kernel
theorem dX5_line_0 : decode cX5_line 0 = .ok (.aload_n 0, 1) := by decide +kernel
theorem dX5_line_1 : decode cX5_line 1 = .ok (.getfield 47, 3) := by decide +kernel
theorem dX5_line_4 : decode cX5_line 4 = .ok (.iconst 2, 1) := by decide +kernel
theorem dX5_line_5 : decode cX5_line 5 = .ok (.if_icmp .lt 14, 3) := by decide +kernel
theorem dX5_line_8 : decode cX5_line 8 = .ok (.aload_n 0, 1) := by decide +kernel
theorem dX5_line_9 : decode cX5_line 9 = .ok (.invokevirtual 51, 3) := by decide +kernel
theorem dX5_line_12 : decode cX5_line 12 = .ok (.aload_n 0, 1) := by decide +kernel
theorem dX5_line_13 : decode cX5_line 13 = .ok (.getfield 47, 3) := by decide +kernel
theorem dX5_line_16 : decode cX5_line 16 = .ok (.if_icmp .ge 7, 3) := by decide +kernel
theorem dX5_line_19 : decode cX5_line 19 = .ok (.sipush (-1003), 3) := by decide +kernel
theorem dX5_line_22 : decode cX5_line 22 = .ok (.ireturn, 1) := by decide +kernel
theorem dX5_line_23 : decode cX5_line 23 = .ok (.aload_n 0, 1) := by decide +kernel
theorem dX5_line_24 : decode cX5_line 24 = .ok (.aload_n 0, 1) := by decide +kernel
theorem dX5_line_25 : decode cX5_line 25 = .ok (.getfield 47, 3) := by decide +kernel
theorem dX5_line_28 : decode cX5_line 28 = .ok (.putfield 55, 3) := by decide +kernel
theorem dX5_line_31 : decode cX5_line 31 = .ok (.iconst 0, 1) := by decide +kernel
theorem dX5_line_32 : decode cX5_line 32 = .ok (.istore_n 1, 1) := by decide +kernel
theorem dX5_line_33 : decode cX5_line 33 = .ok (.iload_n 1, 1) := by decide +kernel
theorem dX5_line_34 : decode cX5_line 34 = .ok (.aload_n 0, 1) := by decide +kernel
theorem dX5_line_35 : decode cX5_line 35 = .ok (.getfield 55, 3) := by decide +kernel
theorem dX5_line_38 : decode cX5_line 38 = .ok (.if_icmp .ge 24, 3) := by decide +kernel
theorem dX5_line_41 : decode cX5_line 41 = .ok (.aload_n 0, 1) := by decide +kernel
theorem dX5_line_42 : decode cX5_line 42 = .ok (.getfield 13, 3) := by decide +kernel
theorem dX5_line_45 : decode cX5_line 45 = .ok (.iload_n 1, 1) := by decide +kernel
theorem dX5_line_46 : decode cX5_line 46 = .ok (.aload_n 0, 1) := by decide +kernel
theorem dX5_line_47 : decode cX5_line 47 = .ok (.getfield 7, 3) := by decide +kernel
theorem dX5_line_50 : decode cX5_line 50 = .ok (.iload_n 1, 1) := by decide +kernel
theorem dX5_line_51 : decode cX5_line 51 = .ok (.iaload, 1) := by decide +kernel
theorem dX5_line_52 : decode cX5_line 52 = .ok (.bipush 48, 2) := by decide +kernel
theorem dX5_line_54 : decode cX5_line 54 = .ok (.isub, 1) := by decide +kernel
theorem dX5_line_55 : decode cX5_line 55 = .ok (.iastore, 1) := by decide +kernel
theorem dX5_line_56 : decode cX5_line 56 = .ok (.iinc 1 1, 3) := by decide +kernel
theorem dX5_line_59 : decode cX5_line 59 = .ok (.goto (-26), 3) := by decide +kernel
theorem dX5_line_62 : decode cX5_line 62 = .ok (.iconst 0, 1) := by decide +kernel
theorem dX5_line_63 : decode cX5_line 63 = .ok (.istore_n 1, 1) := by decide +kernel
theorem dX5_line_64 : decode cX5_line 64 = .ok (.iload_n 1, 1) := by decide +kernel
theorem dX5_line_65 : decode cX5_line 65 = .ok (.bipush 24, 2) := by decide +kernel
theorem dX5_line_67 : decode cX5_line 67 = .ok (.if_icmp .ge 14, 3) := by decide +kernel
theorem dX5_line_70 : decode cX5_line 70 = .ok (.aload_n 0, 1) := by decide +kernel
theorem dX5_line_71 : decode cX5_line 71 = .ok (.iload_n 1, 1) := by decide +kernel
theorem dX5_line_72 : decode cX5_line 72 = .ok (.invokevirtual 58, 3) := by decide +kernel
theorem dX5_line_75 : decode cX5_line 75 = .ok (.iinc 1 1, 3) := by decide +kernel
theorem dX5_line_78 : decode cX5_line 78 = .ok (.goto (-14), 3) := by decide +kernel
theorem dX5_line_81 : decode cX5_line 81 = .ok (.iconst 0, 1) := by decide +kernel
theorem dX5_line_82 : decode cX5_line 82 = .ok (.istore_n 1, 1) := by decide +kernel
theorem dX5_line_83 : decode cX5_line 83 = .ok (.iload_n 1, 1) := by decide +kernel
theorem dX5_line_84 : decode cX5_line 84 = .ok (.iconst 4, 1) := by decide +kernel
theorem dX5_line_85 : decode cX5_line 85 = .ok (.if_icmp .ge 16, 3) := by decide +kernel
theorem dX5_line_88 : decode cX5_line 88 = .ok (.aload_n 0, 1) := by decide +kernel
theorem dX5_line_89 : decode cX5_line 89 = .ok (.getfield 37, 3) := by decide +kernel
theorem dX5_line_92 : decode cX5_line 92 = .ok (.iload_n 1, 1) := by decide +kernel
theorem dX5_line_93 : decode cX5_line 93 = .ok (.iconst 0, 1) := by decide +kernel
theorem dX5_line_94 : decode cX5_line 94 = .ok (.iastore, 1) := by decide +kernel
theorem dX5_line_95 : decode cX5_line 95 = .ok (.iinc 1 1, 3) := by decide +kernel
theorem dX5_line_98 : decode cX5_line 98 = .ok (.goto (-15), 3) := by decide +kernel
theorem dX5_line_101 : decode cX5_line 101 = .ok (.aload_n 0, 1) := by decide +kernel
theorem dX5_line_102 : decode cX5_line 102 = .ok (.iconst 0, 1) := by decide +kernel
theorem dX5_line_103 : decode cX5_line 103 = .ok (.putfield 62, 3) := by decide +kernel
theorem dX5_line_106 : decode cX5_line 106 = .ok (.aload_n 0, 1) := by decide +kernel
theorem dX5_line_107 : decode cX5_line 107 = .ok (.iconst 0, 1) := by decide +kernel
theorem dX5_line_108 : decode cX5_line 108 = .ok (.putfield 65, 3) := by decide +kernel
theorem dX5_line_111 : decode cX5_line 111 = .ok (.aload_n 0, 1) := by decide +kernel
theorem dX5_line_112 : decode cX5_line 112 = .ok (.iconst 0, 1) := by decide +kernel
theorem dX5_line_113 : decode cX5_line 113 = .ok (.putfield 68, 3) := by decide +kernel
theorem dX5_line_116 : decode cX5_line 116 = .ok (.aload_n 0, 1) := by decide +kernel
theorem dX5_line_117 : decode cX5_line 117 = .ok (.iconst 0, 1) := by decide +kernel
theorem dX5_line_118 : decode cX5_line 118 = .ok (.putfield 71, 3) := by decide +kernel
theorem dX5_line_121 : decode cX5_line 121 = .ok (.aload_n 0, 1) := by decide +kernel
theorem dX5_line_122 : decode cX5_line 122 = .ok (.iconst 0, 1) := by decide +kernel
theorem dX5_line_123 : decode cX5_line 123 = .ok (.putfield 74, 3) := by decide +kernel
theorem dX5_line_126 : decode cX5_line 126 = .ok (.aload_n 0, 1) := by decide +kernel
theorem dX5_line_127 : decode cX5_line 127 = .ok (.dup, 1) := by decide +kernel
theorem dX5_line_128 : decode cX5_line 128 = .ok (.getfield 77, 3) := by decide +kernel
theorem dX5_line_131 : decode cX5_line 131 = .ok (.iconst 1, 1) := by decide +kernel
theorem dX5_line_132 : decode cX5_line 132 = .ok (.iadd, 1) := by decide +kernel
theorem dX5_line_133 : decode cX5_line 133 = .ok (.putfield 77, 3) := by decide +kernel
theorem dX5_line_136 : decode cX5_line 136 = .ok (.aload_n 0, 1) := by decide +kernel
theorem dX5_line_137 : decode cX5_line 137 = .ok (.iconst 0, 1) := by decide +kernel
theorem dX5_line_138 : decode cX5_line 138 = .ok (.putfield 47, 3) := by decide +kernel
theorem dX5_line_141 : decode cX5_line 141 = .ok (.aload_n 0, 1) := by decide +kernel
theorem dX5_line_142 : decode cX5_line 142 = .ok (.getfield 55, 3) := by decide +kernel
theorem dX5_line_145 : decode cX5_line 145 = .ok (.ireturn, 1) := by decide +kernel
theorem dX5_clear_0 : decode cX5_clear 0 = .ok (.aload_n 0, 1) := by decide +kernel
theorem dX5_clear_1 : decode cX5_clear 1 = .ok (.getfield 19, 3) := by decide +kernel
theorem dX5_clear_4 : decode cX5_clear 4 = .ok (.iload_n 1, 1) := by decide +kernel
theorem dX5_clear_5 : decode cX5_clear 5 = .ok (.iconst 0, 1) := by decide +kernel
theorem dX5_clear_6 : decode cX5_clear 6 = .ok (.iastore, 1) := by decide +kernel
theorem dX5_clear_7 : decode cX5_clear 7 = .ok (.aload_n 0, 1) := by decide +kernel
theorem dX5_clear_8 : decode cX5_clear 8 = .ok (.getfield 22, 3) := by decide +kernel
theorem dX5_clear_11 : decode cX5_clear 11 = .ok (.iload_n 1, 1) := by decide +kernel
theorem dX5_clear_12 : decode cX5_clear 12 = .ok (.iconst (-1), 1) := by decide +kernel
theorem dX5_clear_13 : decode cX5_clear 13 = .ok (.iastore, 1) := by decide +kernel
theorem dX5_clear_14 : decode cX5_clear 14 = .ok (.aload_n 0, 1) := by decide +kernel
theorem dX5_clear_15 : decode cX5_clear 15 = .ok (.getfield 25, 3) := by decide +kernel
theorem dX5_clear_18 : decode cX5_clear 18 = .ok (.iload_n 1, 1) := by decide +kernel
theorem dX5_clear_19 : decode cX5_clear 19 = .ok (.iconst (-1), 1) := by decide +kernel
theorem dX5_clear_20 : decode cX5_clear 20 = .ok (.iastore, 1) := by decide +kernel
theorem dX5_clear_21 : decode cX5_clear 21 = .ok (.aload_n 0, 1) := by decide +kernel
theorem dX5_clear_22 : decode cX5_clear 22 = .ok (.getfield 28, 3) := by decide +kernel
theorem dX5_clear_25 : decode cX5_clear 25 = .ok (.iload_n 1, 1) := by decide +kernel
theorem dX5_clear_26 : decode cX5_clear 26 = .ok (.iconst (-1), 1) := by decide +kernel
theorem dX5_clear_27 : decode cX5_clear 27 = .ok (.iastore, 1) := by decide +kernel
theorem dX5_clear_28 : decode cX5_clear 28 = .ok (.aload_n 0, 1) := by decide +kernel
theorem dX5_clear_29 : decode cX5_clear 29 = .ok (.getfield 31, 3) := by decide +kernel
theorem dX5_clear_32 : decode cX5_clear 32 = .ok (.iload_n 1, 1) := by decide +kernel
theorem dX5_clear_33 : decode cX5_clear 33 = .ok (.iconst (-1), 1) := by decide +kernel
theorem dX5_clear_34 : decode cX5_clear 34 = .ok (.iastore, 1) := by decide +kernel
theorem dX5_clear_35 : decode cX5_clear 35 = .ok (.aload_n 0, 1) := by decide +kernel
theorem dX5_clear_36 : decode cX5_clear 36 = .ok (.getfield 34, 3) := by decide +kernel
theorem dX5_clear_39 : decode cX5_clear 39 = .ok (.iload_n 1, 1) := by decide +kernel
theorem dX5_clear_40 : decode cX5_clear 40 = .ok (.iconst 0, 1) := by decide +kernel
theorem dX5_clear_41 : decode cX5_clear 41 = .ok (.iastore, 1) := by decide +kernel
theorem dX5_clear_42 : decode cX5_clear 42 = .ok (.return_, 1) := by decide +kernel
theorem dX5_isDormant_0 : decode cX5_isDormant 0 = .ok (.aload_n 0, 1) := by decide +kernel
theorem dX5_isDormant_1 : decode cX5_isDormant 1 = .ok (.getfield 19, 3) := by decide +kernel
theorem dX5_isDormant_4 : decode cX5_isDormant 4 = .ok (.iload_n 1, 1) := by decide +kernel
theorem dX5_isDormant_5 : decode cX5_isDormant 5 = .ok (.iaload, 1) := by decide +kernel
theorem dX5_isDormant_6 : decode cX5_isDormant 6 = .ok (.iconst 2, 1) := by decide +kernel
theorem dX5_isDormant_7 : decode cX5_isDormant 7 = .ok (.if_icmp .ne 27, 3) := by decide +kernel
theorem dX5_isDormant_10 : decode cX5_isDormant 10 = .ok (.aload_n 0, 1) := by decide +kernel
theorem dX5_isDormant_11 : decode cX5_isDormant 11 = .ok (.getfield 62, 3) := by decide +kernel
theorem dX5_isDormant_14 : decode cX5_isDormant 14 = .ok (.aload_n 0, 1) := by decide +kernel
theorem dX5_isDormant_15 : decode cX5_isDormant 15 = .ok (.getfield 28, 3) := by decide +kernel
theorem dX5_isDormant_18 : decode cX5_isDormant 18 = .ok (.iload_n 1, 1) := by decide +kernel
theorem dX5_isDormant_19 : decode cX5_isDormant 19 = .ok (.iaload, 1) := by decide +kernel
theorem dX5_isDormant_20 : decode cX5_isDormant 20 = .ok (.isub, 1) := by decide +kernel
theorem dX5_isDormant_21 : decode cX5_isDormant 21 = .ok (.aload_n 0, 1) := by decide +kernel
theorem dX5_isDormant_22 : decode cX5_isDormant 22 = .ok (.getfield 16, 3) := by decide +kernel
theorem dX5_isDormant_25 : decode cX5_isDormant 25 = .ok (.iconst 0, 1) := by decide +kernel
theorem dX5_isDormant_26 : decode cX5_isDormant 26 = .ok (.iaload, 1) := by decide +kernel
theorem dX5_isDormant_27 : decode cX5_isDormant 27 = .ok (.if_icmp .le 7, 3) := by decide +kernel
theorem dX5_isDormant_30 : decode cX5_isDormant 30 = .ok (.iconst 1, 1) := by decide +kernel
theorem dX5_isDormant_31 : decode cX5_isDormant 31 = .ok (.goto 4, 3) := by decide +kernel
theorem dX5_isDormant_34 : decode cX5_isDormant 34 = .ok (.iconst 0, 1) := by decide +kernel
theorem dX5_isDormant_35 : decode cX5_isDormant 35 = .ok (.ireturn, 1) := by decide +kernel
theorem dX5_isAwake_0 : decode cX5_isAwake 0 = .ok (.aload_n 0, 1) := by decide +kernel
theorem dX5_isAwake_1 : decode cX5_isAwake 1 = .ok (.getfield 19, 3) := by decide +kernel
theorem dX5_isAwake_4 : decode cX5_isAwake 4 = .ok (.iload_n 1, 1) := by decide +kernel
theorem dX5_isAwake_5 : decode cX5_isAwake 5 = .ok (.iaload, 1) := by decide +kernel
theorem dX5_isAwake_6 : decode cX5_isAwake 6 = .ok (.ifCond .eq 15, 3) := by decide +kernel
theorem dX5_isAwake_9 : decode cX5_isAwake 9 = .ok (.aload_n 0, 1) := by decide +kernel
theorem dX5_isAwake_10 : decode cX5_isAwake 10 = .ok (.iload_n 1, 1) := by decide +kernel
theorem dX5_isAwake_11 : decode cX5_isAwake 11 = .ok (.invokevirtual 80, 3) := by decide +kernel
theorem dX5_isAwake_14 : decode cX5_isAwake 14 = .ok (.ifCond .ne 7, 3) := by decide +kernel
theorem dX5_isAwake_17 : decode cX5_isAwake 17 = .ok (.iconst 1, 1) := by decide +kernel
theorem dX5_isAwake_18 : decode cX5_isAwake 18 = .ok (.goto 4, 3) := by decide +kernel
theorem dX5_isAwake_21 : decode cX5_isAwake 21 = .ok (.iconst 0, 1) := by decide +kernel
theorem dX5_isAwake_22 : decode cX5_isAwake 22 = .ok (.ireturn, 1) := by decide +kernel
theorem dX5_purge_0 : decode cX5_purge 0 = .ok (.iconst 0, 1) := by decide +kernel
theorem dX5_purge_1 : decode cX5_purge 1 = .ok (.istore_n 1, 1) := by decide +kernel
theorem dX5_purge_2 : decode cX5_purge 2 = .ok (.iconst 0, 1) := by decide +kernel
theorem dX5_purge_3 : decode cX5_purge 3 = .ok (.istore_n 2, 1) := by decide +kernel
theorem dX5_purge_4 : decode cX5_purge 4 = .ok (.iload_n 2, 1) := by decide +kernel
theorem dX5_purge_5 : decode cX5_purge 5 = .ok (.iconst 4, 1) := by decide +kernel
theorem dX5_purge_6 : decode cX5_purge 6 = .ok (.aload_n 0, 1) := by decide +kernel
theorem dX5_purge_7 : decode cX5_purge 7 = .ok (.getfield 55, 3) := by decide +kernel
theorem dX5_purge_10 : decode cX5_purge 10 = .ok (.imul, 1) := by decide +kernel
theorem dX5_purge_11 : decode cX5_purge 11 = .ok (.if_icmp .ge 69, 3) := by decide +kernel
theorem dX5_purge_14 : decode cX5_purge 14 = .ok (.aload_n 0, 1) := by decide +kernel
theorem dX5_purge_15 : decode cX5_purge 15 = .ok (.getfield 31, 3) := by decide +kernel
theorem dX5_purge_18 : decode cX5_purge 18 = .ok (.iload_n 2, 1) := by decide +kernel
theorem dX5_purge_19 : decode cX5_purge 19 = .ok (.iaload, 1) := by decide +kernel
theorem dX5_purge_20 : decode cX5_purge 20 = .ok (.iload_n 2, 1) := by decide +kernel
theorem dX5_purge_21 : decode cX5_purge 21 = .ok (.iconst 4, 1) := by decide +kernel
theorem dX5_purge_22 : decode cX5_purge 22 = .ok (.idiv, 1) := by decide +kernel
theorem dX5_purge_23 : decode cX5_purge 23 = .ok (.invokestatic 84, 3) := by decide +kernel
theorem dX5_purge_26 : decode cX5_purge 26 = .ok (.istore_n 3, 1) := by decide +kernel
theorem dX5_purge_27 : decode cX5_purge 27 = .ok (.aload_n 0, 1) := by decide +kernel
theorem dX5_purge_28 : decode cX5_purge 28 = .ok (.iload_n 2, 1) := by decide +kernel
theorem dX5_purge_29 : decode cX5_purge 29 = .ok (.invokevirtual 80, 3) := by decide +kernel
theorem dX5_purge_32 : decode cX5_purge 32 = .ok (.ifCond .eq 42, 3) := by decide +kernel
theorem dX5_purge_35 : decode cX5_purge 35 = .ok (.iload_n 3, 1) := by decide +kernel
theorem dX5_purge_36 : decode cX5_purge 36 = .ok (.ifCond .eq 30, 3) := by decide +kernel
theorem dX5_purge_39 : decode cX5_purge 39 = .ok (.aload_n 0, 1) := by decide +kernel
theorem dX5_purge_40 : decode cX5_purge 40 = .ok (.getfield 62, 3) := by decide +kernel
theorem dX5_purge_43 : decode cX5_purge 43 = .ok (.aload_n 0, 1) := by decide +kernel
theorem dX5_purge_44 : decode cX5_purge 44 = .ok (.getfield 28, 3) := by decide +kernel
theorem dX5_purge_47 : decode cX5_purge 47 = .ok (.iload_n 2, 1) := by decide +kernel
theorem dX5_purge_48 : decode cX5_purge 48 = .ok (.iaload, 1) := by decide +kernel
theorem dX5_purge_49 : decode cX5_purge 49 = .ok (.isub, 1) := by decide +kernel
theorem dX5_purge_50 : decode cX5_purge 50 = .ok (.aload_n 0, 1) := by decide +kernel
theorem dX5_purge_51 : decode cX5_purge 51 = .ok (.getfield 16, 3) := by decide +kernel
theorem dX5_purge_54 : decode cX5_purge 54 = .ok (.iconst 0, 1) := by decide +kernel
theorem dX5_purge_55 : decode cX5_purge 55 = .ok (.iaload, 1) := by decide +kernel
theorem dX5_purge_56 : decode cX5_purge 56 = .ok (.aload_n 0, 1) := by decide +kernel
theorem dX5_purge_57 : decode cX5_purge 57 = .ok (.getfield 16, 3) := by decide +kernel
theorem dX5_purge_60 : decode cX5_purge 60 = .ok (.iconst 1, 1) := by decide +kernel
theorem dX5_purge_61 : decode cX5_purge 61 = .ok (.iaload, 1) := by decide +kernel
theorem dX5_purge_62 : decode cX5_purge 62 = .ok (.iadd, 1) := by decide +kernel
theorem dX5_purge_63 : decode cX5_purge 63 = .ok (.if_icmp .le 11, 3) := by decide +kernel
theorem dX5_purge_66 : decode cX5_purge 66 = .ok (.aload_n 0, 1) := by decide +kernel
theorem dX5_purge_67 : decode cX5_purge 67 = .ok (.iload_n 2, 1) := by decide +kernel
theorem dX5_purge_68 : decode cX5_purge 68 = .ok (.invokevirtual 58, 3) := by decide +kernel
theorem dX5_purge_71 : decode cX5_purge 71 = .ok (.iinc 1 1, 3) := by decide +kernel
theorem dX5_purge_74 : decode cX5_purge 74 = .ok (.iinc 2 1, 3) := by decide +kernel
theorem dX5_purge_77 : decode cX5_purge 77 = .ok (.goto (-73), 3) := by decide +kernel
theorem dX5_purge_80 : decode cX5_purge 80 = .ok (.aload_n 0, 1) := by decide +kernel
theorem dX5_purge_81 : decode cX5_purge 81 = .ok (.dup, 1) := by decide +kernel
theorem dX5_purge_82 : decode cX5_purge 82 = .ok (.getfield 74, 3) := by decide +kernel
theorem dX5_purge_85 : decode cX5_purge 85 = .ok (.iload_n 1, 1) := by decide +kernel
theorem dX5_purge_86 : decode cX5_purge 86 = .ok (.iadd, 1) := by decide +kernel
theorem dX5_purge_87 : decode cX5_purge 87 = .ok (.putfield 74, 3) := by decide +kernel
theorem dX5_purge_90 : decode cX5_purge 90 = .ok (.iload_n 1, 1) := by decide +kernel
theorem dX5_purge_91 : decode cX5_purge 91 = .ok (.ireturn, 1) := by decide +kernel
theorem dX5_isNewer_0 : decode cX5_isNewer 0 = .ok (.aload_n 0, 1) := by decide +kernel
theorem dX5_isNewer_1 : decode cX5_isNewer 1 = .ok (.getfield 25, 3) := by decide +kernel
theorem dX5_isNewer_4 : decode cX5_isNewer 4 = .ok (.iload_n 1, 1) := by decide +kernel
theorem dX5_isNewer_5 : decode cX5_isNewer 5 = .ok (.iaload, 1) := by decide +kernel
theorem dX5_isNewer_6 : decode cX5_isNewer 6 = .ok (.aload_n 0, 1) := by decide +kernel
theorem dX5_isNewer_7 : decode cX5_isNewer 7 = .ok (.getfield 25, 3) := by decide +kernel
theorem dX5_isNewer_10 : decode cX5_isNewer 10 = .ok (.iload_n 2, 1) := by decide +kernel
theorem dX5_isNewer_11 : decode cX5_isNewer 11 = .ok (.iaload, 1) := by decide +kernel
theorem dX5_isNewer_12 : decode cX5_isNewer 12 = .ok (.if_icmp .gt 33, 3) := by decide +kernel
theorem dX5_isNewer_15 : decode cX5_isNewer 15 = .ok (.aload_n 0, 1) := by decide +kernel
theorem dX5_isNewer_16 : decode cX5_isNewer 16 = .ok (.getfield 25, 3) := by decide +kernel
theorem dX5_isNewer_19 : decode cX5_isNewer 19 = .ok (.iload_n 1, 1) := by decide +kernel
theorem dX5_isNewer_20 : decode cX5_isNewer 20 = .ok (.iaload, 1) := by decide +kernel
theorem dX5_isNewer_21 : decode cX5_isNewer 21 = .ok (.aload_n 0, 1) := by decide +kernel
theorem dX5_isNewer_22 : decode cX5_isNewer 22 = .ok (.getfield 25, 3) := by decide +kernel
theorem dX5_isNewer_25 : decode cX5_isNewer 25 = .ok (.iload_n 2, 1) := by decide +kernel
theorem dX5_isNewer_26 : decode cX5_isNewer 26 = .ok (.iaload, 1) := by decide +kernel
theorem dX5_isNewer_27 : decode cX5_isNewer 27 = .ok (.if_icmp .ne 22, 3) := by decide +kernel
theorem dX5_isNewer_30 : decode cX5_isNewer 30 = .ok (.aload_n 0, 1) := by decide +kernel
theorem dX5_isNewer_31 : decode cX5_isNewer 31 = .ok (.getfield 28, 3) := by decide +kernel
theorem dX5_isNewer_34 : decode cX5_isNewer 34 = .ok (.iload_n 1, 1) := by decide +kernel
theorem dX5_isNewer_35 : decode cX5_isNewer 35 = .ok (.iaload, 1) := by decide +kernel
theorem dX5_isNewer_36 : decode cX5_isNewer 36 = .ok (.aload_n 0, 1) := by decide +kernel
theorem dX5_isNewer_37 : decode cX5_isNewer 37 = .ok (.getfield 28, 3) := by decide +kernel
theorem dX5_isNewer_40 : decode cX5_isNewer 40 = .ok (.iload_n 2, 1) := by decide +kernel
theorem dX5_isNewer_41 : decode cX5_isNewer 41 = .ok (.iaload, 1) := by decide +kernel
theorem dX5_isNewer_42 : decode cX5_isNewer 42 = .ok (.if_icmp .le 7, 3) := by decide +kernel
theorem dX5_isNewer_45 : decode cX5_isNewer 45 = .ok (.iconst 1, 1) := by decide +kernel
theorem dX5_isNewer_46 : decode cX5_isNewer 46 = .ok (.goto 4, 3) := by decide +kernel
theorem dX5_isNewer_49 : decode cX5_isNewer 49 = .ok (.iconst 0, 1) := by decide +kernel
theorem dX5_isNewer_50 : decode cX5_isNewer 50 = .ok (.ireturn, 1) := by decide +kernel
theorem dX5_copy_0 : decode cX5_copy 0 = .ok (.aload_n 0, 1) := by decide +kernel
theorem dX5_copy_1 : decode cX5_copy 1 = .ok (.getfield 19, 3) := by decide +kernel
theorem dX5_copy_4 : decode cX5_copy 4 = .ok (.iload_n 2, 1) := by decide +kernel
theorem dX5_copy_5 : decode cX5_copy 5 = .ok (.aload_n 0, 1) := by decide +kernel
theorem dX5_copy_6 : decode cX5_copy 6 = .ok (.getfield 19, 3) := by decide +kernel
theorem dX5_copy_9 : decode cX5_copy 9 = .ok (.iload_n 1, 1) := by decide +kernel
theorem dX5_copy_10 : decode cX5_copy 10 = .ok (.iaload, 1) := by decide +kernel
theorem dX5_copy_11 : decode cX5_copy 11 = .ok (.iastore, 1) := by decide +kernel
theorem dX5_copy_12 : decode cX5_copy 12 = .ok (.aload_n 0, 1) := by decide +kernel
theorem dX5_copy_13 : decode cX5_copy 13 = .ok (.getfield 22, 3) := by decide +kernel
theorem dX5_copy_16 : decode cX5_copy 16 = .ok (.iload_n 2, 1) := by decide +kernel
theorem dX5_copy_17 : decode cX5_copy 17 = .ok (.aload_n 0, 1) := by decide +kernel
theorem dX5_copy_18 : decode cX5_copy 18 = .ok (.getfield 22, 3) := by decide +kernel
theorem dX5_copy_21 : decode cX5_copy 21 = .ok (.iload_n 1, 1) := by decide +kernel
theorem dX5_copy_22 : decode cX5_copy 22 = .ok (.iaload, 1) := by decide +kernel
theorem dX5_copy_23 : decode cX5_copy 23 = .ok (.iastore, 1) := by decide +kernel
theorem dX5_copy_24 : decode cX5_copy 24 = .ok (.aload_n 0, 1) := by decide +kernel
theorem dX5_copy_25 : decode cX5_copy 25 = .ok (.getfield 25, 3) := by decide +kernel
theorem dX5_copy_28 : decode cX5_copy 28 = .ok (.iload_n 2, 1) := by decide +kernel
theorem dX5_copy_29 : decode cX5_copy 29 = .ok (.aload_n 0, 1) := by decide +kernel
theorem dX5_copy_30 : decode cX5_copy 30 = .ok (.getfield 25, 3) := by decide +kernel
theorem dX5_copy_33 : decode cX5_copy 33 = .ok (.iload_n 1, 1) := by decide +kernel
theorem dX5_copy_34 : decode cX5_copy 34 = .ok (.iaload, 1) := by decide +kernel
theorem dX5_copy_35 : decode cX5_copy 35 = .ok (.iastore, 1) := by decide +kernel
theorem dX5_copy_36 : decode cX5_copy 36 = .ok (.aload_n 0, 1) := by decide +kernel
theorem dX5_copy_37 : decode cX5_copy 37 = .ok (.getfield 28, 3) := by decide +kernel
theorem dX5_copy_40 : decode cX5_copy 40 = .ok (.iload_n 2, 1) := by decide +kernel
theorem dX5_copy_41 : decode cX5_copy 41 = .ok (.aload_n 0, 1) := by decide +kernel
theorem dX5_copy_42 : decode cX5_copy 42 = .ok (.getfield 28, 3) := by decide +kernel
theorem dX5_copy_45 : decode cX5_copy 45 = .ok (.iload_n 1, 1) := by decide +kernel
theorem dX5_copy_46 : decode cX5_copy 46 = .ok (.iaload, 1) := by decide +kernel
theorem dX5_copy_47 : decode cX5_copy 47 = .ok (.iastore, 1) := by decide +kernel
theorem dX5_copy_48 : decode cX5_copy 48 = .ok (.aload_n 0, 1) := by decide +kernel
theorem dX5_copy_49 : decode cX5_copy 49 = .ok (.getfield 31, 3) := by decide +kernel
theorem dX5_copy_52 : decode cX5_copy 52 = .ok (.iload_n 2, 1) := by decide +kernel
theorem dX5_copy_53 : decode cX5_copy 53 = .ok (.aload_n 0, 1) := by decide +kernel
theorem dX5_copy_54 : decode cX5_copy 54 = .ok (.getfield 31, 3) := by decide +kernel
theorem dX5_copy_57 : decode cX5_copy 57 = .ok (.iload_n 1, 1) := by decide +kernel
theorem dX5_copy_58 : decode cX5_copy 58 = .ok (.iaload, 1) := by decide +kernel
theorem dX5_copy_59 : decode cX5_copy 59 = .ok (.iastore, 1) := by decide +kernel
theorem dX5_copy_60 : decode cX5_copy 60 = .ok (.aload_n 0, 1) := by decide +kernel
theorem dX5_copy_61 : decode cX5_copy 61 = .ok (.getfield 34, 3) := by decide +kernel
theorem dX5_copy_64 : decode cX5_copy 64 = .ok (.iload_n 2, 1) := by decide +kernel
theorem dX5_copy_65 : decode cX5_copy 65 = .ok (.iload_n 3, 1) := by decide +kernel
theorem dX5_copy_66 : decode cX5_copy 66 = .ok (.iastore, 1) := by decide +kernel
theorem dX5_copy_67 : decode cX5_copy 67 = .ok (.return_, 1) := by decide +kernel
theorem dX5_wake_0 : decode cX5_wake 0 = .ok (.aload_n 0, 1) := by decide +kernel
theorem dX5_wake_1 : decode cX5_wake 1 = .ok (.getfield 28, 3) := by decide +kernel
theorem dX5_wake_4 : decode cX5_wake 4 = .ok (.iload_n 1, 1) := by decide +kernel
theorem dX5_wake_5 : decode cX5_wake 5 = .ok (.aload_n 0, 1) := by decide +kernel
theorem dX5_wake_6 : decode cX5_wake 6 = .ok (.getfield 62, 3) := by decide +kernel
theorem dX5_wake_9 : decode cX5_wake 9 = .ok (.iastore, 1) := by decide +kernel
theorem dX5_wake_10 : decode cX5_wake 10 = .ok (.aload_n 0, 1) := by decide +kernel
theorem dX5_wake_11 : decode cX5_wake 11 = .ok (.getfield 34, 3) := by decide +kernel
theorem dX5_wake_14 : decode cX5_wake 14 = .ok (.iload_n 1, 1) := by decide +kernel
theorem dX5_wake_15 : decode cX5_wake 15 = .ok (.aload_n 0, 1) := by decide +kernel
theorem dX5_wake_16 : decode cX5_wake 16 = .ok (.getfield 16, 3) := by decide +kernel
theorem dX5_wake_19 : decode cX5_wake 19 = .ok (.iconst 2, 1) := by decide +kernel
theorem dX5_wake_20 : decode cX5_wake 20 = .ok (.iaload, 1) := by decide +kernel
theorem dX5_wake_21 : decode cX5_wake 21 = .ok (.iastore, 1) := by decide +kernel
theorem dX5_wake_22 : decode cX5_wake 22 = .ok (.aload_n 0, 1) := by decide +kernel
theorem dX5_wake_23 : decode cX5_wake 23 = .ok (.dup, 1) := by decide +kernel
theorem dX5_wake_24 : decode cX5_wake 24 = .ok (.getfield 71, 3) := by decide +kernel
theorem dX5_wake_27 : decode cX5_wake 27 = .ok (.iconst 1, 1) := by decide +kernel
theorem dX5_wake_28 : decode cX5_wake 28 = .ok (.iadd, 1) := by decide +kernel
theorem dX5_wake_29 : decode cX5_wake 29 = .ok (.putfield 71, 3) := by decide +kernel
theorem dX5_wake_32 : decode cX5_wake 32 = .ok (.return_, 1) := by decide +kernel
theorem dX5_isSite_0 : decode cX5_isSite 0 = .ok (.iload_n 1, 1) := by decide +kernel
theorem dX5_isSite_1 : decode cX5_isSite 1 = .ok (.iconst 0, 1) := by decide +kernel
theorem dX5_isSite_2 : decode cX5_isSite 2 = .ok (.aload_n 0, 1) := by decide +kernel
theorem dX5_isSite_3 : decode cX5_isSite 3 = .ok (.getfield 55, 3) := by decide +kernel
theorem dX5_isSite_6 : decode cX5_isSite 6 = .ok (.iconst 1, 1) := by decide +kernel
theorem dX5_isSite_7 : decode cX5_isSite 7 = .ok (.isub, 1) := by decide +kernel
theorem dX5_isSite_8 : decode cX5_isSite 8 = .ok (.invokestatic 43, 3) := by decide +kernel
theorem dX5_isSite_11 : decode cX5_isSite 11 = .ok (.ireturn, 1) := by decide +kernel
theorem dX5_isKey_0 : decode cX5_isKey 0 = .ok (.iload_n 0, 1) := by decide +kernel
theorem dX5_isKey_1 : decode cX5_isKey 1 = .ok (.iconst 0, 1) := by decide +kernel
theorem dX5_isKey_2 : decode cX5_isKey 2 = .ok (.iconst 3, 1) := by decide +kernel
theorem dX5_isKey_3 : decode cX5_isKey 3 = .ok (.invokestatic 43, 3) := by decide +kernel
theorem dX5_isKey_6 : decode cX5_isKey 6 = .ok (.ireturn, 1) := by decide +kernel
theorem dX5_least_0 : decode cX5_least 0 = .ok (.iload_n 0, 1) := by decide +kernel
theorem dX5_least_1 : decode cX5_least 1 = .ok (.ifCond .eq 8, 3) := by decide +kernel
theorem dX5_least_4 : decode cX5_least 4 = .ok (.iload_n 0, 1) := by decide +kernel
theorem dX5_least_5 : decode cX5_least 5 = .ok (.iconst 2, 1) := by decide +kernel
theorem dX5_least_6 : decode cX5_least 6 = .ok (.if_icmp .ne 7, 3) := by decide +kernel
theorem dX5_least_9 : decode cX5_least 9 = .ok (.iconst 1, 1) := by decide +kernel
theorem dX5_least_10 : decode cX5_least 10 = .ok (.goto 4, 3) := by decide +kernel
theorem dX5_least_13 : decode cX5_least 13 = .ok (.iconst 0, 1) := by decide +kernel
theorem dX5_least_14 : decode cX5_least 14 = .ok (.ireturn, 1) := by decide +kernel
theorem dX5_most_0 : decode cX5_most 0 = .ok (.iload_n 0, 1) := by decide +kernel
theorem dX5_most_1 : decode cX5_most 1 = .ok (.iconst 1, 1) := by decide +kernel
theorem dX5_most_2 : decode cX5_most 2 = .ok (.if_icmp .ne 9, 3) := by decide +kernel
theorem dX5_most_5 : decode cX5_most 5 = .ok (.sipush 200, 3) := by decide +kernel
theorem dX5_most_8 : decode cX5_most 8 = .ok (.goto 14, 3) := by decide +kernel
theorem dX5_most_11 : decode cX5_most 11 = .ok (.iload_n 0, 1) := by decide +kernel
theorem dX5_most_12 : decode cX5_most 12 = .ok (.iconst 2, 1) := by decide +kernel
theorem dX5_most_13 : decode cX5_most 13 = .ok (.if_icmp .ne 7, 3) := by decide +kernel
theorem dX5_most_16 : decode cX5_most 16 = .ok (.iconst 3, 1) := by decide +kernel
theorem dX5_most_17 : decode cX5_most 17 = .ok (.goto 5, 3) := by decide +kernel
theorem dX5_most_20 : decode cX5_most 20 = .ok (.bipush 50, 2) := by decide +kernel
theorem dX5_most_22 : decode cX5_most 22 = .ok (.ireturn, 1) := by decide +kernel
theorem dX5_set_0 : decode cX5_set 0 = .ok (.iload_n 1, 1) := by decide +kernel
theorem dX5_set_1 : decode cX5_set 1 = .ok (.iconst 0, 1) := by decide +kernel
theorem dX5_set_2 : decode cX5_set 2 = .ok (.iconst 3, 1) := by decide +kernel
theorem dX5_set_3 : decode cX5_set 3 = .ok (.invokestatic 43, 3) := by decide +kernel
theorem dX5_set_6 : decode cX5_set 6 = .ok (.ifCond .eq 18, 3) := by decide +kernel
theorem dX5_set_9 : decode cX5_set 9 = .ok (.iload_n 2, 1) := by decide +kernel
theorem dX5_set_10 : decode cX5_set 10 = .ok (.iload_n 1, 1) := by decide +kernel
theorem dX5_set_11 : decode cX5_set 11 = .ok (.invokestatic 88, 3) := by decide +kernel
theorem dX5_set_14 : decode cX5_set 14 = .ok (.iload_n 1, 1) := by decide +kernel
theorem dX5_set_15 : decode cX5_set 15 = .ok (.invokestatic 92, 3) := by decide +kernel
theorem dX5_set_18 : decode cX5_set 18 = .ok (.invokestatic 43, 3) := by decide +kernel
theorem dX5_set_21 : decode cX5_set 21 = .ok (.ifCond .ne 7, 3) := by decide +kernel
theorem dX5_set_24 : decode cX5_set 24 = .ok (.sipush (-1002), 3) := by decide +kernel
theorem dX5_set_27 : decode cX5_set 27 = .ok (.ireturn, 1) := by decide +kernel
theorem dX5_set_28 : decode cX5_set 28 = .ok (.aload_n 0, 1) := by decide +kernel
theorem dX5_set_29 : decode cX5_set 29 = .ok (.getfield 16, 3) := by decide +kernel
theorem dX5_set_32 : decode cX5_set 32 = .ok (.iload_n 1, 1) := by decide +kernel
theorem dX5_set_33 : decode cX5_set 33 = .ok (.iaload, 1) := by decide +kernel
theorem dX5_set_34 : decode cX5_set 34 = .ok (.istore_n 3, 1) := by decide +kernel
theorem dX5_set_35 : decode cX5_set 35 = .ok (.aload_n 0, 1) := by decide +kernel
theorem dX5_set_36 : decode cX5_set 36 = .ok (.getfield 16, 3) := by decide +kernel
theorem dX5_set_39 : decode cX5_set 39 = .ok (.iload_n 1, 1) := by decide +kernel
theorem dX5_set_40 : decode cX5_set 40 = .ok (.iload_n 2, 1) := by decide +kernel
theorem dX5_set_41 : decode cX5_set 41 = .ok (.iastore, 1) := by decide +kernel
theorem dX5_set_42 : decode cX5_set 42 = .ok (.aload_n 0, 1) := by decide +kernel
theorem dX5_set_43 : decode cX5_set 43 = .ok (.invokevirtual 95, 3) := by decide +kernel
theorem dX5_set_46 : decode cX5_set 46 = .ok (.pop, 1) := by decide +kernel
theorem dX5_set_47 : decode cX5_set 47 = .ok (.iload_n 3, 1) := by decide +kernel
theorem dX5_set_48 : decode cX5_set 48 = .ok (.ireturn, 1) := by decide +kernel
theorem dX5_put_0 : decode cX5_put 0 = .ok (.aload_n 0, 1) := by decide +kernel
theorem dX5_put_1 : decode cX5_put 1 = .ok (.iload_n 1, 1) := by decide +kernel
theorem dX5_put_2 : decode cX5_put 2 = .ok (.invokevirtual 98, 3) := by decide +kernel
theorem dX5_put_5 : decode cX5_put 5 = .ok (.ifCond .eq 10, 3) := by decide +kernel
theorem dX5_put_8 : decode cX5_put 8 = .ok (.iload_n 2, 1) := by decide +kernel
theorem dX5_put_9 : decode cX5_put 9 = .ok (.invokestatic 101, 3) := by decide +kernel
theorem dX5_put_12 : decode cX5_put 12 = .ok (.ifCond .ne 7, 3) := by decide +kernel
theorem dX5_put_15 : decode cX5_put 15 = .ok (.sipush (-1001), 3) := by decide +kernel
theorem dX5_put_18 : decode cX5_put 18 = .ok (.ireturn, 1) := by decide +kernel
theorem dX5_put_19 : decode cX5_put 19 = .ok (.iload_n 3, 1) := by decide +kernel
theorem dX5_put_20 : decode cX5_put 20 = .ok (.iconst 0, 1) := by decide +kernel
theorem dX5_put_21 : decode cX5_put 21 = .ok (.bipush 9, 2) := by decide +kernel
theorem dX5_put_23 : decode cX5_put 23 = .ok (.invokestatic 43, 3) := by decide +kernel
theorem dX5_put_26 : decode cX5_put 26 = .ok (.ifCond .ne 7, 3) := by decide +kernel
theorem dX5_put_29 : decode cX5_put 29 = .ok (.sipush (-1002), 3) := by decide +kernel
theorem dX5_put_32 : decode cX5_put 32 = .ok (.ireturn, 1) := by decide +kernel
theorem dX5_put_33 : decode cX5_put 33 = .ok (.aload_n 0, 1) := by decide +kernel
theorem dX5_put_34 : decode cX5_put 34 = .ok (.getfield 65, 3) := by decide +kernel
theorem dX5_put_37 : decode cX5_put 37 = .ok (.iload_n 1, 1) := by decide +kernel
theorem dX5_put_38 : decode cX5_put 38 = .ok (.invokestatic 84, 3) := by decide +kernel
theorem dX5_put_41 : decode cX5_put 41 = .ok (.ifCond .eq 7, 3) := by decide +kernel
theorem dX5_put_44 : decode cX5_put 44 = .ok (.sipush (-1003), 3) := by decide +kernel
theorem dX5_put_47 : decode cX5_put 47 = .ok (.ireturn, 1) := by decide +kernel
theorem dX5_put_48 : decode cX5_put 48 = .ok (.aload_n 0, 1) := by decide +kernel
theorem dX5_put_49 : decode cX5_put 49 = .ok (.getfield 62, 3) := by decide +kernel
theorem dX5_put_52 : decode cX5_put 52 = .ok (.sipush 9999, 3) := by decide +kernel
theorem dX5_put_55 : decode cX5_put 55 = .ok (.if_icmp .ne 7, 3) := by decide +kernel
theorem dX5_put_58 : decode cX5_put 58 = .ok (.sipush (-1004), 3) := by decide +kernel
theorem dX5_put_61 : decode cX5_put 61 = .ok (.ireturn, 1) := by decide +kernel
theorem dX5_put_62 : decode cX5_put 62 = .ok (.aload_n 0, 1) := by decide +kernel
theorem dX5_put_63 : decode cX5_put 63 = .ok (.dup, 1) := by decide +kernel
theorem dX5_put_64 : decode cX5_put 64 = .ok (.getfield 62, 3) := by decide +kernel
theorem dX5_put_67 : decode cX5_put 67 = .ok (.iconst 1, 1) := by decide +kernel
theorem dX5_put_68 : decode cX5_put 68 = .ok (.iadd, 1) := by decide +kernel
theorem dX5_put_69 : decode cX5_put 69 = .ok (.putfield 62, 3) := by decide +kernel
theorem dX5_put_72 : decode cX5_put 72 = .ok (.aload_n 0, 1) := by decide +kernel
theorem dX5_put_73 : decode cX5_put 73 = .ok (.invokevirtual 95, 3) := by decide +kernel
theorem dX5_put_76 : decode cX5_put 76 = .ok (.pop, 1) := by decide +kernel
theorem dX5_put_77 : decode cX5_put 77 = .ok (.iconst 4, 1) := by decide +kernel
theorem dX5_put_78 : decode cX5_put 78 = .ok (.iload_n 1, 1) := by decide +kernel
theorem dX5_put_79 : decode cX5_put 79 = .ok (.imul, 1) := by decide +kernel
theorem dX5_put_80 : decode cX5_put 80 = .ok (.iload_n 2, 1) := by decide +kernel
theorem dX5_put_81 : decode cX5_put 81 = .ok (.iadd, 1) := by decide +kernel
theorem dX5_put_82 : decode cX5_put 82 = .ok (.istore 4, 2) := by decide +kernel
theorem dX5_put_84 : decode cX5_put 84 = .ok (.aload_n 0, 1) := by decide +kernel
theorem dX5_put_85 : decode cX5_put 85 = .ok (.getfield 19, 3) := by decide +kernel
theorem dX5_put_88 : decode cX5_put 88 = .ok (.iload 4, 2) := by decide +kernel
theorem dX5_put_90 : decode cX5_put 90 = .ok (.iconst 1, 1) := by decide +kernel
theorem dX5_put_91 : decode cX5_put 91 = .ok (.iastore, 1) := by decide +kernel
theorem dX5_put_92 : decode cX5_put 92 = .ok (.aload_n 0, 1) := by decide +kernel
theorem dX5_put_93 : decode cX5_put 93 = .ok (.getfield 22, 3) := by decide +kernel
theorem dX5_put_96 : decode cX5_put 96 = .ok (.iload 4, 2) := by decide +kernel
theorem dX5_put_98 : decode cX5_put 98 = .ok (.iload_n 3, 1) := by decide +kernel
theorem dX5_put_99 : decode cX5_put 99 = .ok (.iastore, 1) := by decide +kernel
theorem dX5_put_100 : decode cX5_put 100 = .ok (.aload_n 0, 1) := by decide +kernel
theorem dX5_put_101 : decode cX5_put 101 = .ok (.getfield 25, 3) := by decide +kernel
theorem dX5_put_104 : decode cX5_put 104 = .ok (.iload 4, 2) := by decide +kernel
theorem dX5_put_106 : decode cX5_put 106 = .ok (.aload_n 0, 1) := by decide +kernel
theorem dX5_put_107 : decode cX5_put 107 = .ok (.getfield 62, 3) := by decide +kernel
theorem dX5_put_110 : decode cX5_put 110 = .ok (.iastore, 1) := by decide +kernel
theorem dX5_put_111 : decode cX5_put 111 = .ok (.aload_n 0, 1) := by decide +kernel
theorem dX5_put_112 : decode cX5_put 112 = .ok (.getfield 28, 3) := by decide +kernel
theorem dX5_put_115 : decode cX5_put 115 = .ok (.iload 4, 2) := by decide +kernel
theorem dX5_put_117 : decode cX5_put 117 = .ok (.aload_n 0, 1) := by decide +kernel
theorem dX5_put_118 : decode cX5_put 118 = .ok (.getfield 62, 3) := by decide +kernel
theorem dX5_put_121 : decode cX5_put 121 = .ok (.iastore, 1) := by decide +kernel
theorem dX5_put_122 : decode cX5_put 122 = .ok (.aload_n 0, 1) := by decide +kernel
theorem dX5_put_123 : decode cX5_put 123 = .ok (.getfield 31, 3) := by decide +kernel
theorem dX5_put_126 : decode cX5_put 126 = .ok (.iload 4, 2) := by decide +kernel
theorem dX5_put_128 : decode cX5_put 128 = .ok (.iconst (-1), 1) := by decide +kernel
theorem dX5_put_129 : decode cX5_put 129 = .ok (.iastore, 1) := by decide +kernel
theorem dX5_put_130 : decode cX5_put 130 = .ok (.aload_n 0, 1) := by decide +kernel
theorem dX5_put_131 : decode cX5_put 131 = .ok (.getfield 34, 3) := by decide +kernel
theorem dX5_put_134 : decode cX5_put 134 = .ok (.iload 4, 2) := by decide +kernel
theorem dX5_put_136 : decode cX5_put 136 = .ok (.aload_n 0, 1) := by decide +kernel
theorem dX5_put_137 : decode cX5_put 137 = .ok (.getfield 16, 3) := by decide +kernel
theorem dX5_put_140 : decode cX5_put 140 = .ok (.iconst 2, 1) := by decide +kernel
theorem dX5_put_141 : decode cX5_put 141 = .ok (.iaload, 1) := by decide +kernel
theorem dX5_put_142 : decode cX5_put 142 = .ok (.iastore, 1) := by decide +kernel
theorem dX5_put_143 : decode cX5_put 143 = .ok (.aload_n 0, 1) := by decide +kernel
theorem dX5_put_144 : decode cX5_put 144 = .ok (.getfield 62, 3) := by decide +kernel
theorem dX5_put_147 : decode cX5_put 147 = .ok (.ireturn, 1) := by decide +kernel
theorem dX5_near_0 : decode cX5_near 0 = .ok (.iconst 1, 1) := by decide +kernel
theorem dX5_near_1 : decode cX5_near 1 = .ok (.iload_n 1, 1) := by decide +kernel
theorem dX5_near_2 : decode cX5_near 2 = .ok (.ishl, 1) := by decide +kernel
theorem dX5_near_3 : decode cX5_near 3 = .ok (.istore_n 3, 1) := by decide +kernel
theorem dX5_near_4 : decode cX5_near 4 = .ok (.iconst 1, 1) := by decide +kernel
theorem dX5_near_5 : decode cX5_near 5 = .ok (.istore 4, 2) := by decide +kernel
theorem dX5_near_7 : decode cX5_near 7 = .ok (.iload 4, 2) := by decide +kernel
theorem dX5_near_9 : decode cX5_near 9 = .ok (.iload_n 2, 1) := by decide +kernel
theorem dX5_near_10 : decode cX5_near 10 = .ok (.if_icmp .ge 34, 3) := by decide +kernel
theorem dX5_near_13 : decode cX5_near 13 = .ok (.aload_n 0, 1) := by decide +kernel
theorem dX5_near_14 : decode cX5_near 14 = .ok (.iload_n 1, 1) := by decide +kernel
theorem dX5_near_15 : decode cX5_near 15 = .ok (.iload_n 3, 1) := by decide +kernel
theorem dX5_near_16 : decode cX5_near 16 = .ok (.invokevirtual 104, 3) := by decide +kernel
theorem dX5_near_19 : decode cX5_near 19 = .ok (.istore 5, 2) := by decide +kernel
theorem dX5_near_21 : decode cX5_near 21 = .ok (.iload_n 3, 1) := by decide +kernel
theorem dX5_near_22 : decode cX5_near 22 = .ok (.iload 5, 2) := by decide +kernel
theorem dX5_near_24 : decode cX5_near 24 = .ok (.iconst (-1), 1) := by decide +kernel
theorem dX5_near_25 : decode cX5_near 25 = .ok (.if_icmp .ne 7, 3) := by decide +kernel
theorem dX5_near_28 : decode cX5_near 28 = .ok (.iconst 0, 1) := by decide +kernel
theorem dX5_near_29 : decode cX5_near 29 = .ok (.goto 7, 3) := by decide +kernel
theorem dX5_near_32 : decode cX5_near 32 = .ok (.iconst 1, 1) := by decide +kernel
theorem dX5_near_33 : decode cX5_near 33 = .ok (.iload 5, 2) := by decide +kernel
theorem dX5_near_35 : decode cX5_near 35 = .ok (.ishl, 1) := by decide +kernel
theorem dX5_near_36 : decode cX5_near 36 = .ok (.ior, 1) := by decide +kernel
theorem dX5_near_37 : decode cX5_near 37 = .ok (.istore_n 3, 1) := by decide +kernel
theorem dX5_near_38 : decode cX5_near 38 = .ok (.iinc 4 1, 3) := by decide +kernel
theorem dX5_near_41 : decode cX5_near 41 = .ok (.goto (-34), 3) := by decide +kernel
theorem dX5_near_44 : decode cX5_near 44 = .ok (.iload_n 3, 1) := by decide +kernel
theorem dX5_near_45 : decode cX5_near 45 = .ok (.ireturn, 1) := by decide +kernel
theorem dX5_nearest_0 : decode cX5_nearest 0 = .ok (.iconst (-1), 1) := by decide +kernel
theorem dX5_nearest_1 : decode cX5_nearest 1 = .ok (.istore_n 3, 1) := by decide +kernel
theorem dX5_nearest_2 : decode cX5_nearest 2 = .ok (.sipush 1000, 3) := by decide +kernel
theorem dX5_nearest_5 : decode cX5_nearest 5 = .ok (.istore 4, 2) := by decide +kernel
theorem dX5_nearest_7 : decode cX5_nearest 7 = .ok (.iconst 0, 1) := by decide +kernel
theorem dX5_nearest_8 : decode cX5_nearest 8 = .ok (.istore 5, 2) := by decide +kernel
theorem dX5_nearest_10 : decode cX5_nearest 10 = .ok (.iload 5, 2) := by decide +kernel
theorem dX5_nearest_12 : decode cX5_nearest 12 = .ok (.aload_n 0, 1) := by decide +kernel
theorem dX5_nearest_13 : decode cX5_nearest 13 = .ok (.getfield 55, 3) := by decide +kernel
theorem dX5_nearest_16 : decode cX5_nearest 16 = .ok (.if_icmp .ge 51, 3) := by decide +kernel
theorem dX5_nearest_19 : decode cX5_nearest 19 = .ok (.aload_n 0, 1) := by decide +kernel
theorem dX5_nearest_20 : decode cX5_nearest 20 = .ok (.getfield 13, 3) := by decide +kernel
theorem dX5_nearest_23 : decode cX5_nearest 23 = .ok (.iload 5, 2) := by decide +kernel
theorem dX5_nearest_25 : decode cX5_nearest 25 = .ok (.iaload, 1) := by decide +kernel
theorem dX5_nearest_26 : decode cX5_nearest 26 = .ok (.aload_n 0, 1) := by decide +kernel
theorem dX5_nearest_27 : decode cX5_nearest 27 = .ok (.getfield 13, 3) := by decide +kernel
theorem dX5_nearest_30 : decode cX5_nearest 30 = .ok (.iload_n 1, 1) := by decide +kernel
theorem dX5_nearest_31 : decode cX5_nearest 31 = .ok (.iaload, 1) := by decide +kernel
theorem dX5_nearest_32 : decode cX5_nearest 32 = .ok (.isub, 1) := by decide +kernel
theorem dX5_nearest_33 : decode cX5_nearest 33 = .ok (.invokestatic 108, 3) := by decide +kernel
theorem dX5_nearest_36 : decode cX5_nearest 36 = .ok (.istore 6, 2) := by decide +kernel
theorem dX5_nearest_38 : decode cX5_nearest 38 = .ok (.iload_n 2, 1) := by decide +kernel
theorem dX5_nearest_39 : decode cX5_nearest 39 = .ok (.iload 5, 2) := by decide +kernel
theorem dX5_nearest_41 : decode cX5_nearest 41 = .ok (.invokestatic 84, 3) := by decide +kernel
theorem dX5_nearest_44 : decode cX5_nearest 44 = .ok (.ifCond .ne 17, 3) := by decide +kernel
theorem dX5_nearest_47 : decode cX5_nearest 47 = .ok (.iload 6, 2) := by decide +kernel
theorem dX5_nearest_49 : decode cX5_nearest 49 = .ok (.iload 4, 2) := by decide +kernel
theorem dX5_nearest_51 : decode cX5_nearest 51 = .ok (.if_icmp .ge 10, 3) := by decide +kernel
theorem dX5_nearest_54 : decode cX5_nearest 54 = .ok (.iload 5, 2) := by decide +kernel
theorem dX5_nearest_56 : decode cX5_nearest 56 = .ok (.istore_n 3, 1) := by decide +kernel
theorem dX5_nearest_57 : decode cX5_nearest 57 = .ok (.iload 6, 2) := by decide +kernel
theorem dX5_nearest_59 : decode cX5_nearest 59 = .ok (.istore 4, 2) := by decide +kernel
theorem dX5_nearest_61 : decode cX5_nearest 61 = .ok (.iinc 5 1, 3) := by decide +kernel
theorem dX5_nearest_64 : decode cX5_nearest 64 = .ok (.goto (-54), 3) := by decide +kernel
theorem dX5_nearest_67 : decode cX5_nearest 67 = .ok (.iload_n 3, 1) := by decide +kernel
theorem dX5_nearest_68 : decode cX5_nearest 68 = .ok (.ireturn, 1) := by decide +kernel
theorem dX5_remove_0 : decode cX5_remove 0 = .ok (.aload_n 0, 1) := by decide +kernel
theorem dX5_remove_1 : decode cX5_remove 1 = .ok (.iload_n 1, 1) := by decide +kernel
theorem dX5_remove_2 : decode cX5_remove 2 = .ok (.invokevirtual 98, 3) := by decide +kernel
theorem dX5_remove_5 : decode cX5_remove 5 = .ok (.ifCond .eq 10, 3) := by decide +kernel
theorem dX5_remove_8 : decode cX5_remove 8 = .ok (.iload_n 2, 1) := by decide +kernel
theorem dX5_remove_9 : decode cX5_remove 9 = .ok (.invokestatic 101, 3) := by decide +kernel
theorem dX5_remove_12 : decode cX5_remove 12 = .ok (.ifCond .ne 7, 3) := by decide +kernel
theorem dX5_remove_15 : decode cX5_remove 15 = .ok (.sipush (-1001), 3) := by decide +kernel
theorem dX5_remove_18 : decode cX5_remove 18 = .ok (.ireturn, 1) := by decide +kernel
theorem dX5_remove_19 : decode cX5_remove 19 = .ok (.iload_n 3, 1) := by decide +kernel
theorem dX5_remove_20 : decode cX5_remove 20 = .ok (.iconst 1, 1) := by decide +kernel
theorem dX5_remove_21 : decode cX5_remove 21 = .ok (.iconst 3, 1) := by decide +kernel
theorem dX5_remove_22 : decode cX5_remove 22 = .ok (.invokestatic 43, 3) := by decide +kernel
theorem dX5_remove_25 : decode cX5_remove 25 = .ok (.ifCond .ne 7, 3) := by decide +kernel
theorem dX5_remove_28 : decode cX5_remove 28 = .ok (.sipush (-1002), 3) := by decide +kernel
theorem dX5_remove_31 : decode cX5_remove 31 = .ok (.ireturn, 1) := by decide +kernel
theorem dX5_remove_32 : decode cX5_remove 32 = .ok (.iconst 4, 1) := by decide +kernel
theorem dX5_remove_33 : decode cX5_remove 33 = .ok (.iload_n 1, 1) := by decide +kernel
theorem dX5_remove_34 : decode cX5_remove 34 = .ok (.imul, 1) := by decide +kernel
theorem dX5_remove_35 : decode cX5_remove 35 = .ok (.iload_n 2, 1) := by decide +kernel
theorem dX5_remove_36 : decode cX5_remove 36 = .ok (.iadd, 1) := by decide +kernel
theorem dX5_remove_37 : decode cX5_remove 37 = .ok (.istore 4, 2) := by decide +kernel
theorem dX5_remove_39 : decode cX5_remove 39 = .ok (.aload_n 0, 1) := by decide +kernel
theorem dX5_remove_40 : decode cX5_remove 40 = .ok (.getfield 65, 3) := by decide +kernel
theorem dX5_remove_43 : decode cX5_remove 43 = .ok (.iload_n 1, 1) := by decide +kernel
theorem dX5_remove_44 : decode cX5_remove 44 = .ok (.invokestatic 84, 3) := by decide +kernel
theorem dX5_remove_47 : decode cX5_remove 47 = .ok (.ifCond .ne 14, 3) := by decide +kernel
theorem dX5_remove_50 : decode cX5_remove 50 = .ok (.aload_n 0, 1) := by decide +kernel
theorem dX5_remove_51 : decode cX5_remove 51 = .ok (.getfield 19, 3) := by decide +kernel
theorem dX5_remove_54 : decode cX5_remove 54 = .ok (.iload 4, 2) := by decide +kernel
theorem dX5_remove_56 : decode cX5_remove 56 = .ok (.iaload, 1) := by decide +kernel
theorem dX5_remove_57 : decode cX5_remove 57 = .ok (.iconst 1, 1) := by decide +kernel
theorem dX5_remove_58 : decode cX5_remove 58 = .ok (.if_icmp .eq 7, 3) := by decide +kernel
theorem dX5_remove_61 : decode cX5_remove 61 = .ok (.sipush (-1003), 3) := by decide +kernel
theorem dX5_remove_64 : decode cX5_remove 64 = .ok (.ireturn, 1) := by decide +kernel
theorem dX5_remove_65 : decode cX5_remove 65 = .ok (.aload_n 0, 1) := by decide +kernel
theorem dX5_remove_66 : decode cX5_remove 66 = .ok (.getfield 62, 3) := by decide +kernel
theorem dX5_remove_69 : decode cX5_remove 69 = .ok (.sipush 9999, 3) := by decide +kernel
theorem dX5_remove_72 : decode cX5_remove 72 = .ok (.if_icmp .ne 7, 3) := by decide +kernel
theorem dX5_remove_75 : decode cX5_remove 75 = .ok (.sipush (-1004), 3) := by decide +kernel
theorem dX5_remove_78 : decode cX5_remove 78 = .ok (.ireturn, 1) := by decide +kernel
theorem dX5_remove_79 : decode cX5_remove 79 = .ok (.aload_n 0, 1) := by decide +kernel
theorem dX5_remove_80 : decode cX5_remove 80 = .ok (.dup, 1) := by decide +kernel
theorem dX5_remove_81 : decode cX5_remove 81 = .ok (.getfield 62, 3) := by decide +kernel
theorem dX5_remove_84 : decode cX5_remove 84 = .ok (.iconst 1, 1) := by decide +kernel
theorem dX5_remove_85 : decode cX5_remove 85 = .ok (.iadd, 1) := by decide +kernel
theorem dX5_remove_86 : decode cX5_remove 86 = .ok (.putfield 62, 3) := by decide +kernel
theorem dX5_remove_89 : decode cX5_remove 89 = .ok (.aload_n 0, 1) := by decide +kernel
theorem dX5_remove_90 : decode cX5_remove 90 = .ok (.invokevirtual 95, 3) := by decide +kernel
theorem dX5_remove_93 : decode cX5_remove 93 = .ok (.pop, 1) := by decide +kernel
theorem dX5_remove_94 : decode cX5_remove 94 = .ok (.aload_n 0, 1) := by decide +kernel
theorem dX5_remove_95 : decode cX5_remove 95 = .ok (.getfield 19, 3) := by decide +kernel
theorem dX5_remove_98 : decode cX5_remove 98 = .ok (.iload 4, 2) := by decide +kernel
theorem dX5_remove_100 : decode cX5_remove 100 = .ok (.iconst 2, 1) := by decide +kernel
theorem dX5_remove_101 : decode cX5_remove 101 = .ok (.iastore, 1) := by decide +kernel
theorem dX5_remove_102 : decode cX5_remove 102 = .ok (.aload_n 0, 1) := by decide +kernel
theorem dX5_remove_103 : decode cX5_remove 103 = .ok (.getfield 22, 3) := by decide +kernel
theorem dX5_remove_106 : decode cX5_remove 106 = .ok (.iload 4, 2) := by decide +kernel
theorem dX5_remove_108 : decode cX5_remove 108 = .ok (.iconst (-1), 1) := by decide +kernel
theorem dX5_remove_109 : decode cX5_remove 109 = .ok (.iastore, 1) := by decide +kernel
theorem dX5_remove_110 : decode cX5_remove 110 = .ok (.aload_n 0, 1) := by decide +kernel
theorem dX5_remove_111 : decode cX5_remove 111 = .ok (.getfield 25, 3) := by decide +kernel
theorem dX5_remove_114 : decode cX5_remove 114 = .ok (.iload 4, 2) := by decide +kernel
theorem dX5_remove_116 : decode cX5_remove 116 = .ok (.aload_n 0, 1) := by decide +kernel
theorem dX5_remove_117 : decode cX5_remove 117 = .ok (.getfield 62, 3) := by decide +kernel
theorem dX5_remove_120 : decode cX5_remove 120 = .ok (.iastore, 1) := by decide +kernel
theorem dX5_remove_121 : decode cX5_remove 121 = .ok (.aload_n 0, 1) := by decide +kernel
theorem dX5_remove_122 : decode cX5_remove 122 = .ok (.getfield 28, 3) := by decide +kernel
theorem dX5_remove_125 : decode cX5_remove 125 = .ok (.iload 4, 2) := by decide +kernel
theorem dX5_remove_127 : decode cX5_remove 127 = .ok (.aload_n 0, 1) := by decide +kernel
theorem dX5_remove_128 : decode cX5_remove 128 = .ok (.getfield 62, 3) := by decide +kernel
theorem dX5_remove_131 : decode cX5_remove 131 = .ok (.iastore, 1) := by decide +kernel
theorem dX5_remove_132 : decode cX5_remove 132 = .ok (.aload_n 0, 1) := by decide +kernel
theorem dX5_remove_133 : decode cX5_remove 133 = .ok (.getfield 31, 3) := by decide +kernel
theorem dX5_remove_136 : decode cX5_remove 136 = .ok (.iload 4, 2) := by decide +kernel
theorem dX5_remove_138 : decode cX5_remove 138 = .ok (.aload_n 0, 1) := by decide +kernel
theorem dX5_remove_139 : decode cX5_remove 139 = .ok (.iload_n 1, 1) := by decide +kernel
theorem dX5_remove_140 : decode cX5_remove 140 = .ok (.iload_n 3, 1) := by decide +kernel
theorem dX5_remove_141 : decode cX5_remove 141 = .ok (.invokevirtual 111, 3) := by decide +kernel
theorem dX5_remove_144 : decode cX5_remove 144 = .ok (.iastore, 1) := by decide +kernel
theorem dX5_remove_145 : decode cX5_remove 145 = .ok (.aload_n 0, 1) := by decide +kernel
theorem dX5_remove_146 : decode cX5_remove 146 = .ok (.getfield 34, 3) := by decide +kernel
theorem dX5_remove_149 : decode cX5_remove 149 = .ok (.iload 4, 2) := by decide +kernel
theorem dX5_remove_151 : decode cX5_remove 151 = .ok (.aload_n 0, 1) := by decide +kernel
theorem dX5_remove_152 : decode cX5_remove 152 = .ok (.getfield 16, 3) := by decide +kernel
theorem dX5_remove_155 : decode cX5_remove 155 = .ok (.iconst 2, 1) := by decide +kernel
theorem dX5_remove_156 : decode cX5_remove 156 = .ok (.iaload, 1) := by decide +kernel
theorem dX5_remove_157 : decode cX5_remove 157 = .ok (.iastore, 1) := by decide +kernel
theorem dX5_remove_158 : decode cX5_remove 158 = .ok (.aload_n 0, 1) := by decide +kernel
theorem dX5_remove_159 : decode cX5_remove 159 = .ok (.getfield 37, 3) := by decide +kernel
theorem dX5_remove_162 : decode cX5_remove 162 = .ok (.iload_n 2, 1) := by decide +kernel
theorem dX5_remove_163 : decode cX5_remove 163 = .ok (.aload_n 0, 1) := by decide +kernel
theorem dX5_remove_164 : decode cX5_remove 164 = .ok (.getfield 62, 3) := by decide +kernel
theorem dX5_remove_167 : decode cX5_remove 167 = .ok (.iastore, 1) := by decide +kernel
theorem dX5_remove_168 : decode cX5_remove 168 = .ok (.aload_n 0, 1) := by decide +kernel
theorem dX5_remove_169 : decode cX5_remove 169 = .ok (.getfield 62, 3) := by decide +kernel
theorem dX5_remove_172 : decode cX5_remove 172 = .ok (.ireturn, 1) := by decide +kernel
theorem dX5_pass_0 : decode cX5_pass 0 = .ok (.iload_n 1, 1) := by decide +kernel
theorem dX5_pass_1 : decode cX5_pass 1 = .ok (.iconst 1, 1) := by decide +kernel
theorem dX5_pass_2 : decode cX5_pass 2 = .ok (.sipush 300, 3) := by decide +kernel
theorem dX5_pass_5 : decode cX5_pass 5 = .ok (.invokestatic 43, 3) := by decide +kernel
theorem dX5_pass_8 : decode cX5_pass 8 = .ok (.ifCond .ne 7, 3) := by decide +kernel
theorem dX5_pass_11 : decode cX5_pass 11 = .ok (.sipush (-1002), 3) := by decide +kernel
theorem dX5_pass_14 : decode cX5_pass 14 = .ok (.ireturn, 1) := by decide +kernel
theorem dX5_pass_15 : decode cX5_pass 15 = .ok (.aload_n 0, 1) := by decide +kernel
theorem dX5_pass_16 : decode cX5_pass 16 = .ok (.getfield 55, 3) := by decide +kernel
theorem dX5_pass_19 : decode cX5_pass 19 = .ok (.ifCond .ne 7, 3) := by decide +kernel
theorem dX5_pass_22 : decode cX5_pass 22 = .ok (.sipush (-1003), 3) := by decide +kernel
theorem dX5_pass_25 : decode cX5_pass 25 = .ok (.ireturn, 1) := by decide +kernel
theorem dX5_pass_26 : decode cX5_pass 26 = .ok (.aload_n 0, 1) := by decide +kernel
theorem dX5_pass_27 : decode cX5_pass 27 = .ok (.getfield 62, 3) := by decide +kernel
theorem dX5_pass_30 : decode cX5_pass 30 = .ok (.iload_n 1, 1) := by decide +kernel
theorem dX5_pass_31 : decode cX5_pass 31 = .ok (.iadd, 1) := by decide +kernel
theorem dX5_pass_32 : decode cX5_pass 32 = .ok (.sipush 9999, 3) := by decide +kernel
theorem dX5_pass_35 : decode cX5_pass 35 = .ok (.if_icmp .le 7, 3) := by decide +kernel
theorem dX5_pass_38 : decode cX5_pass 38 = .ok (.sipush (-1004), 3) := by decide +kernel
theorem dX5_pass_41 : decode cX5_pass 41 = .ok (.ireturn, 1) := by decide +kernel
theorem dX5_pass_42 : decode cX5_pass 42 = .ok (.aload_n 0, 1) := by decide +kernel
theorem dX5_pass_43 : decode cX5_pass 43 = .ok (.dup, 1) := by decide +kernel
theorem dX5_pass_44 : decode cX5_pass 44 = .ok (.getfield 62, 3) := by decide +kernel
theorem dX5_pass_47 : decode cX5_pass 47 = .ok (.iload_n 1, 1) := by decide +kernel
theorem dX5_pass_48 : decode cX5_pass 48 = .ok (.iadd, 1) := by decide +kernel
theorem dX5_pass_49 : decode cX5_pass 49 = .ok (.putfield 62, 3) := by decide +kernel
theorem dX5_pass_52 : decode cX5_pass 52 = .ok (.aload_n 0, 1) := by decide +kernel
theorem dX5_pass_53 : decode cX5_pass 53 = .ok (.invokevirtual 95, 3) := by decide +kernel
theorem dX5_pass_56 : decode cX5_pass 56 = .ok (.ireturn, 1) := by decide +kernel
theorem dX5_off_0 : decode cX5_off 0 = .ok (.aload_n 0, 1) := by decide +kernel
theorem dX5_off_1 : decode cX5_off 1 = .ok (.iload_n 1, 1) := by decide +kernel
theorem dX5_off_2 : decode cX5_off 2 = .ok (.invokevirtual 98, 3) := by decide +kernel
theorem dX5_off_5 : decode cX5_off 5 = .ok (.ifCond .ne 7, 3) := by decide +kernel
theorem dX5_off_8 : decode cX5_off 8 = .ok (.sipush (-1001), 3) := by decide +kernel
theorem dX5_off_11 : decode cX5_off 11 = .ok (.ireturn, 1) := by decide +kernel
theorem dX5_off_12 : decode cX5_off 12 = .ok (.aload_n 0, 1) := by decide +kernel
theorem dX5_off_13 : decode cX5_off 13 = .ok (.getfield 65, 3) := by decide +kernel
theorem dX5_off_16 : decode cX5_off 16 = .ok (.iload_n 1, 1) := by decide +kernel
theorem dX5_off_17 : decode cX5_off 17 = .ok (.ishr, 1) := by decide +kernel
theorem dX5_off_18 : decode cX5_off 18 = .ok (.iconst 1, 1) := by decide +kernel
theorem dX5_off_19 : decode cX5_off 19 = .ok (.iand, 1) := by decide +kernel
theorem dX5_off_20 : decode cX5_off 20 = .ok (.istore_n 3, 1) := by decide +kernel
theorem dX5_off_21 : decode cX5_off 21 = .ok (.aload_n 0, 1) := by decide +kernel
theorem dX5_off_22 : decode cX5_off 22 = .ok (.iload_n 2, 1) := by decide +kernel
theorem dX5_off_23 : decode cX5_off 23 = .ok (.ifCond .eq 14, 3) := by decide +kernel
theorem dX5_off_26 : decode cX5_off 26 = .ok (.aload_n 0, 1) := by decide +kernel
theorem dX5_off_27 : decode cX5_off 27 = .ok (.getfield 65, 3) := by decide +kernel
theorem dX5_off_30 : decode cX5_off 30 = .ok (.iconst 1, 1) := by decide +kernel
theorem dX5_off_31 : decode cX5_off 31 = .ok (.iload_n 1, 1) := by decide +kernel
theorem dX5_off_32 : decode cX5_off 32 = .ok (.ishl, 1) := by decide +kernel
theorem dX5_off_33 : decode cX5_off 33 = .ok (.ior, 1) := by decide +kernel
theorem dX5_off_34 : decode cX5_off 34 = .ok (.goto 13, 3) := by decide +kernel
theorem dX5_off_37 : decode cX5_off 37 = .ok (.aload_n 0, 1) := by decide +kernel
theorem dX5_off_38 : decode cX5_off 38 = .ok (.getfield 65, 3) := by decide +kernel
theorem dX5_off_41 : decode cX5_off 41 = .ok (.iconst 1, 1) := by decide +kernel
theorem dX5_off_42 : decode cX5_off 42 = .ok (.iload_n 1, 1) := by decide +kernel
theorem dX5_off_43 : decode cX5_off 43 = .ok (.ishl, 1) := by decide +kernel
theorem dX5_off_44 : decode cX5_off 44 = .ok (.iconst (-1), 1) := by decide +kernel
theorem dX5_off_45 : decode cX5_off 45 = .ok (.ixor, 1) := by decide +kernel
theorem dX5_off_46 : decode cX5_off 46 = .ok (.iand, 1) := by decide +kernel
theorem dX5_off_47 : decode cX5_off 47 = .ok (.putfield 65, 3) := by decide +kernel
theorem dX5_off_50 : decode cX5_off 50 = .ok (.iload_n 3, 1) := by decide +kernel
theorem dX5_off_51 : decode cX5_off 51 = .ok (.ireturn, 1) := by decide +kernel
theorem dX5_wakes_0 : decode cX5_wakes 0 = .ok (.aload_n 0, 1) := by decide +kernel
theorem dX5_wakes_1 : decode cX5_wakes 1 = .ok (.iload_n 1, 1) := by decide +kernel
theorem dX5_wakes_2 : decode cX5_wakes 2 = .ok (.invokevirtual 80, 3) := by decide +kernel
theorem dX5_wakes_5 : decode cX5_wakes 5 = .ok (.ifCond .eq 31, 3) := by decide +kernel
theorem dX5_wakes_8 : decode cX5_wakes 8 = .ok (.aload_n 0, 1) := by decide +kernel
theorem dX5_wakes_9 : decode cX5_wakes 9 = .ok (.getfield 19, 3) := by decide +kernel
theorem dX5_wakes_12 : decode cX5_wakes 12 = .ok (.iload_n 2, 1) := by decide +kernel
theorem dX5_wakes_13 : decode cX5_wakes 13 = .ok (.iaload, 1) := by decide +kernel
theorem dX5_wakes_14 : decode cX5_wakes 14 = .ok (.ifCond .eq 22, 3) := by decide +kernel
theorem dX5_wakes_17 : decode cX5_wakes 17 = .ok (.aload_n 0, 1) := by decide +kernel
theorem dX5_wakes_18 : decode cX5_wakes 18 = .ok (.getfield 25, 3) := by decide +kernel
theorem dX5_wakes_21 : decode cX5_wakes 21 = .ok (.iload_n 2, 1) := by decide +kernel
theorem dX5_wakes_22 : decode cX5_wakes 22 = .ok (.iaload, 1) := by decide +kernel
theorem dX5_wakes_23 : decode cX5_wakes 23 = .ok (.aload_n 0, 1) := by decide +kernel
theorem dX5_wakes_24 : decode cX5_wakes 24 = .ok (.getfield 25, 3) := by decide +kernel
theorem dX5_wakes_27 : decode cX5_wakes 27 = .ok (.iload_n 1, 1) := by decide +kernel
theorem dX5_wakes_28 : decode cX5_wakes 28 = .ok (.iaload, 1) := by decide +kernel
theorem dX5_wakes_29 : decode cX5_wakes 29 = .ok (.if_icmp .ge 7, 3) := by decide +kernel
theorem dX5_wakes_32 : decode cX5_wakes 32 = .ok (.iconst 1, 1) := by decide +kernel
theorem dX5_wakes_33 : decode cX5_wakes 33 = .ok (.goto 4, 3) := by decide +kernel
theorem dX5_wakes_36 : decode cX5_wakes 36 = .ok (.iconst 0, 1) := by decide +kernel
theorem dX5_wakes_37 : decode cX5_wakes 37 = .ok (.ireturn, 1) := by decide +kernel
theorem dX5_goes_0 : decode cX5_goes 0 = .ok (.aload_n 0, 1) := by decide +kernel
theorem dX5_goes_1 : decode cX5_goes 1 = .ok (.iload_n 1, 1) := by decide +kernel
theorem dX5_goes_2 : decode cX5_goes 2 = .ok (.invokevirtual 114, 3) := by decide +kernel
theorem dX5_goes_5 : decode cX5_goes 5 = .ok (.ifCond .eq 30, 3) := by decide +kernel
theorem dX5_goes_8 : decode cX5_goes 8 = .ok (.aload_n 0, 1) := by decide +kernel
theorem dX5_goes_9 : decode cX5_goes 9 = .ok (.getfield 19, 3) := by decide +kernel
theorem dX5_goes_12 : decode cX5_goes 12 = .ok (.iload_n 2, 1) := by decide +kernel
theorem dX5_goes_13 : decode cX5_goes 13 = .ok (.iaload, 1) := by decide +kernel
theorem dX5_goes_14 : decode cX5_goes 14 = .ok (.ifCond .eq 12, 3) := by decide +kernel
theorem dX5_goes_17 : decode cX5_goes 17 = .ok (.aload_n 0, 1) := by decide +kernel
theorem dX5_goes_18 : decode cX5_goes 18 = .ok (.iload_n 1, 1) := by decide +kernel
theorem dX5_goes_19 : decode cX5_goes 19 = .ok (.iload_n 2, 1) := by decide +kernel
theorem dX5_goes_20 : decode cX5_goes 20 = .ok (.invokevirtual 117, 3) := by decide +kernel
theorem dX5_goes_23 : decode cX5_goes 23 = .ok (.ifCond .eq 12, 3) := by decide +kernel
theorem dX5_goes_26 : decode cX5_goes 26 = .ok (.aload_n 0, 1) := by decide +kernel
theorem dX5_goes_27 : decode cX5_goes 27 = .ok (.iload_n 1, 1) := by decide +kernel
theorem dX5_goes_28 : decode cX5_goes 28 = .ok (.iload_n 2, 1) := by decide +kernel
theorem dX5_goes_29 : decode cX5_goes 29 = .ok (.iconst 0, 1) := by decide +kernel
theorem dX5_goes_30 : decode cX5_goes 30 = .ok (.invokevirtual 120, 3) := by decide +kernel
theorem dX5_goes_33 : decode cX5_goes 33 = .ok (.iconst 1, 1) := by decide +kernel
theorem dX5_goes_34 : decode cX5_goes 34 = .ok (.ireturn, 1) := by decide +kernel
theorem dX5_goes_35 : decode cX5_goes 35 = .ok (.iconst 0, 1) := by decide +kernel
theorem dX5_goes_36 : decode cX5_goes 36 = .ok (.ireturn, 1) := by decide +kernel
theorem dX5_meet_0 : decode cX5_meet 0 = .ok (.iconst 4, 1) := by decide +kernel
theorem dX5_meet_1 : decode cX5_meet 1 = .ok (.iload_n 1, 1) := by decide +kernel
theorem dX5_meet_2 : decode cX5_meet 2 = .ok (.imul, 1) := by decide +kernel
theorem dX5_meet_3 : decode cX5_meet 3 = .ok (.iload_n 3, 1) := by decide +kernel
theorem dX5_meet_4 : decode cX5_meet 4 = .ok (.iadd, 1) := by decide +kernel
theorem dX5_meet_5 : decode cX5_meet 5 = .ok (.istore 4, 2) := by decide +kernel
theorem dX5_meet_7 : decode cX5_meet 7 = .ok (.iconst 4, 1) := by decide +kernel
theorem dX5_meet_8 : decode cX5_meet 8 = .ok (.iload_n 2, 1) := by decide +kernel
theorem dX5_meet_9 : decode cX5_meet 9 = .ok (.imul, 1) := by decide +kernel
theorem dX5_meet_10 : decode cX5_meet 10 = .ok (.iload_n 3, 1) := by decide +kernel
theorem dX5_meet_11 : decode cX5_meet 11 = .ok (.iadd, 1) := by decide +kernel
theorem dX5_meet_12 : decode cX5_meet 12 = .ok (.istore 5, 2) := by decide +kernel
theorem dX5_meet_14 : decode cX5_meet 14 = .ok (.aload_n 0, 1) := by decide +kernel
theorem dX5_meet_15 : decode cX5_meet 15 = .ok (.iload 4, 2) := by decide +kernel
theorem dX5_meet_17 : decode cX5_meet 17 = .ok (.iload 5, 2) := by decide +kernel
theorem dX5_meet_19 : decode cX5_meet 19 = .ok (.invokevirtual 124, 3) := by decide +kernel
theorem dX5_meet_22 : decode cX5_meet 22 = .ok (.ifCond .eq 12, 3) := by decide +kernel
theorem dX5_meet_25 : decode cX5_meet 25 = .ok (.aload_n 0, 1) := by decide +kernel
theorem dX5_meet_26 : decode cX5_meet 26 = .ok (.iload 4, 2) := by decide +kernel
theorem dX5_meet_28 : decode cX5_meet 28 = .ok (.invokevirtual 127, 3) := by decide +kernel
theorem dX5_meet_31 : decode cX5_meet 31 = .ok (.goto 20, 3) := by decide +kernel
theorem dX5_meet_34 : decode cX5_meet 34 = .ok (.aload_n 0, 1) := by decide +kernel
theorem dX5_meet_35 : decode cX5_meet 35 = .ok (.iload 5, 2) := by decide +kernel
theorem dX5_meet_37 : decode cX5_meet 37 = .ok (.iload 4, 2) := by decide +kernel
theorem dX5_meet_39 : decode cX5_meet 39 = .ok (.invokevirtual 124, 3) := by decide +kernel
theorem dX5_meet_42 : decode cX5_meet 42 = .ok (.ifCond .eq 9, 3) := by decide +kernel
theorem dX5_meet_45 : decode cX5_meet 45 = .ok (.aload_n 0, 1) := by decide +kernel
theorem dX5_meet_46 : decode cX5_meet 46 = .ok (.iload 5, 2) := by decide +kernel
theorem dX5_meet_48 : decode cX5_meet 48 = .ok (.invokevirtual 127, 3) := by decide +kernel
theorem dX5_meet_51 : decode cX5_meet 51 = .ok (.aload_n 0, 1) := by decide +kernel
theorem dX5_meet_52 : decode cX5_meet 52 = .ok (.iload 4, 2) := by decide +kernel
theorem dX5_meet_54 : decode cX5_meet 54 = .ok (.iload 5, 2) := by decide +kernel
theorem dX5_meet_56 : decode cX5_meet 56 = .ok (.invokevirtual 130, 3) := by decide +kernel
theorem dX5_meet_59 : decode cX5_meet 59 = .ok (.aload_n 0, 1) := by decide +kernel
theorem dX5_meet_60 : decode cX5_meet 60 = .ok (.iload 5, 2) := by decide +kernel
theorem dX5_meet_62 : decode cX5_meet 62 = .ok (.iload 4, 2) := by decide +kernel
theorem dX5_meet_64 : decode cX5_meet 64 = .ok (.invokevirtual 130, 3) := by decide +kernel
theorem dX5_meet_67 : decode cX5_meet 67 = .ok (.iadd, 1) := by decide +kernel
theorem dX5_meet_68 : decode cX5_meet 68 = .ok (.ireturn, 1) := by decide +kernel
theorem dX5_areSame_0 : decode cX5_areSame 0 = .ok (.aload_n 0, 1) := by decide +kernel
theorem dX5_areSame_1 : decode cX5_areSame 1 = .ok (.iload_n 1, 1) := by decide +kernel
theorem dX5_areSame_2 : decode cX5_areSame 2 = .ok (.invokevirtual 114, 3) := by decide +kernel
theorem dX5_areSame_5 : decode cX5_areSame 5 = .ok (.istore_n 3, 1) := by decide +kernel
theorem dX5_areSame_6 : decode cX5_areSame 6 = .ok (.iload_n 3, 1) := by decide +kernel
theorem dX5_areSame_7 : decode cX5_areSame 7 = .ok (.aload_n 0, 1) := by decide +kernel
theorem dX5_areSame_8 : decode cX5_areSame 8 = .ok (.iload_n 2, 1) := by decide +kernel
theorem dX5_areSame_9 : decode cX5_areSame 9 = .ok (.invokevirtual 114, 3) := by decide +kernel
theorem dX5_areSame_12 : decode cX5_areSame 12 = .ok (.if_icmp .ne 41, 3) := by decide +kernel
theorem dX5_areSame_15 : decode cX5_areSame 15 = .ok (.iload_n 3, 1) := by decide +kernel
theorem dX5_areSame_16 : decode cX5_areSame 16 = .ok (.ifCond .eq 33, 3) := by decide +kernel
theorem dX5_areSame_19 : decode cX5_areSame 19 = .ok (.aload_n 0, 1) := by decide +kernel
theorem dX5_areSame_20 : decode cX5_areSame 20 = .ok (.getfield 25, 3) := by decide +kernel
theorem dX5_areSame_23 : decode cX5_areSame 23 = .ok (.iload_n 1, 1) := by decide +kernel
theorem dX5_areSame_24 : decode cX5_areSame 24 = .ok (.iaload, 1) := by decide +kernel
theorem dX5_areSame_25 : decode cX5_areSame 25 = .ok (.aload_n 0, 1) := by decide +kernel
theorem dX5_areSame_26 : decode cX5_areSame 26 = .ok (.getfield 25, 3) := by decide +kernel
theorem dX5_areSame_29 : decode cX5_areSame 29 = .ok (.iload_n 2, 1) := by decide +kernel
theorem dX5_areSame_30 : decode cX5_areSame 30 = .ok (.iaload, 1) := by decide +kernel
theorem dX5_areSame_31 : decode cX5_areSame 31 = .ok (.if_icmp .ne 22, 3) := by decide +kernel
theorem dX5_areSame_34 : decode cX5_areSame 34 = .ok (.aload_n 0, 1) := by decide +kernel
theorem dX5_areSame_35 : decode cX5_areSame 35 = .ok (.getfield 28, 3) := by decide +kernel
theorem dX5_areSame_38 : decode cX5_areSame 38 = .ok (.iload_n 1, 1) := by decide +kernel
theorem dX5_areSame_39 : decode cX5_areSame 39 = .ok (.iaload, 1) := by decide +kernel
theorem dX5_areSame_40 : decode cX5_areSame 40 = .ok (.aload_n 0, 1) := by decide +kernel
theorem dX5_areSame_41 : decode cX5_areSame 41 = .ok (.getfield 28, 3) := by decide +kernel
theorem dX5_areSame_44 : decode cX5_areSame 44 = .ok (.iload_n 2, 1) := by decide +kernel
theorem dX5_areSame_45 : decode cX5_areSame 45 = .ok (.iaload, 1) := by decide +kernel
theorem dX5_areSame_46 : decode cX5_areSame 46 = .ok (.if_icmp .ne 7, 3) := by decide +kernel
theorem dX5_areSame_49 : decode cX5_areSame 49 = .ok (.iconst 1, 1) := by decide +kernel
theorem dX5_areSame_50 : decode cX5_areSame 50 = .ok (.goto 4, 3) := by decide +kernel
theorem dX5_areSame_53 : decode cX5_areSame 53 = .ok (.iconst 0, 1) := by decide +kernel
theorem dX5_areSame_54 : decode cX5_areSame 54 = .ok (.ireturn, 1) := by decide +kernel
theorem dX5_areAlike_0 : decode cX5_areAlike 0 = .ok (.iconst 1, 1) := by decide +kernel
theorem dX5_areAlike_1 : decode cX5_areAlike 1 = .ok (.istore_n 3, 1) := by decide +kernel
theorem dX5_areAlike_2 : decode cX5_areAlike 2 = .ok (.iconst 0, 1) := by decide +kernel
theorem dX5_areAlike_3 : decode cX5_areAlike 3 = .ok (.istore 4, 2) := by decide +kernel
theorem dX5_areAlike_5 : decode cX5_areAlike 5 = .ok (.iload 4, 2) := by decide +kernel
theorem dX5_areAlike_7 : decode cX5_areAlike 7 = .ok (.iconst 4, 1) := by decide +kernel
theorem dX5_areAlike_8 : decode cX5_areAlike 8 = .ok (.if_icmp .ge 38, 3) := by decide +kernel
theorem dX5_areAlike_11 : decode cX5_areAlike 11 = .ok (.iload_n 3, 1) := by decide +kernel
theorem dX5_areAlike_12 : decode cX5_areAlike 12 = .ok (.ifCond .eq 26, 3) := by decide +kernel
theorem dX5_areAlike_15 : decode cX5_areAlike 15 = .ok (.aload_n 0, 1) := by decide +kernel
theorem dX5_areAlike_16 : decode cX5_areAlike 16 = .ok (.iconst 4, 1) := by decide +kernel
theorem dX5_areAlike_17 : decode cX5_areAlike 17 = .ok (.iload_n 1, 1) := by decide +kernel
theorem dX5_areAlike_18 : decode cX5_areAlike 18 = .ok (.imul, 1) := by decide +kernel
theorem dX5_areAlike_19 : decode cX5_areAlike 19 = .ok (.iload 4, 2) := by decide +kernel
theorem dX5_areAlike_21 : decode cX5_areAlike 21 = .ok (.iadd, 1) := by decide +kernel
theorem dX5_areAlike_22 : decode cX5_areAlike 22 = .ok (.iconst 4, 1) := by decide +kernel
theorem dX5_areAlike_23 : decode cX5_areAlike 23 = .ok (.iload_n 2, 1) := by decide +kernel
theorem dX5_areAlike_24 : decode cX5_areAlike 24 = .ok (.imul, 1) := by decide +kernel
theorem dX5_areAlike_25 : decode cX5_areAlike 25 = .ok (.iload 4, 2) := by decide +kernel
theorem dX5_areAlike_27 : decode cX5_areAlike 27 = .ok (.iadd, 1) := by decide +kernel
theorem dX5_areAlike_28 : decode cX5_areAlike 28 = .ok (.invokevirtual 133, 3) := by decide +kernel
theorem dX5_areAlike_31 : decode cX5_areAlike 31 = .ok (.ifCond .eq 7, 3) := by decide +kernel
theorem dX5_areAlike_34 : decode cX5_areAlike 34 = .ok (.iconst 1, 1) := by decide +kernel
theorem dX5_areAlike_35 : decode cX5_areAlike 35 = .ok (.goto 4, 3) := by decide +kernel
theorem dX5_areAlike_38 : decode cX5_areAlike 38 = .ok (.iconst 0, 1) := by decide +kernel
theorem dX5_areAlike_39 : decode cX5_areAlike 39 = .ok (.istore_n 3, 1) := by decide +kernel
theorem dX5_areAlike_40 : decode cX5_areAlike 40 = .ok (.iinc 4 1, 3) := by decide +kernel
theorem dX5_areAlike_43 : decode cX5_areAlike 43 = .ok (.goto (-38), 3) := by decide +kernel
theorem dX5_areAlike_46 : decode cX5_areAlike 46 = .ok (.iload_n 3, 1) := by decide +kernel
theorem dX5_areAlike_47 : decode cX5_areAlike 47 = .ok (.ireturn, 1) := by decide +kernel
theorem dX5_isRecent_0 : decode cX5_isRecent 0 = .ok (.aload_n 0, 1) := by decide +kernel
theorem dX5_isRecent_1 : decode cX5_isRecent 1 = .ok (.iload_n 1, 1) := by decide +kernel
theorem dX5_isRecent_2 : decode cX5_isRecent 2 = .ok (.invokevirtual 114, 3) := by decide +kernel
theorem dX5_isRecent_5 : decode cX5_isRecent 5 = .ok (.ifCond .eq 27, 3) := by decide +kernel
theorem dX5_isRecent_8 : decode cX5_isRecent 8 = .ok (.aload_n 0, 1) := by decide +kernel
theorem dX5_isRecent_9 : decode cX5_isRecent 9 = .ok (.getfield 62, 3) := by decide +kernel
theorem dX5_isRecent_12 : decode cX5_isRecent 12 = .ok (.aload_n 0, 1) := by decide +kernel
theorem dX5_isRecent_13 : decode cX5_isRecent 13 = .ok (.getfield 28, 3) := by decide +kernel
theorem dX5_isRecent_16 : decode cX5_isRecent 16 = .ok (.iload_n 1, 1) := by decide +kernel
theorem dX5_isRecent_17 : decode cX5_isRecent 17 = .ok (.iaload, 1) := by decide +kernel
theorem dX5_isRecent_18 : decode cX5_isRecent 18 = .ok (.isub, 1) := by decide +kernel
theorem dX5_isRecent_19 : decode cX5_isRecent 19 = .ok (.aload_n 0, 1) := by decide +kernel
theorem dX5_isRecent_20 : decode cX5_isRecent 20 = .ok (.getfield 16, 3) := by decide +kernel
theorem dX5_isRecent_23 : decode cX5_isRecent 23 = .ok (.iconst 3, 1) := by decide +kernel
theorem dX5_isRecent_24 : decode cX5_isRecent 24 = .ok (.iaload, 1) := by decide +kernel
theorem dX5_isRecent_25 : decode cX5_isRecent 25 = .ok (.if_icmp .ge 7, 3) := by decide +kernel
theorem dX5_isRecent_28 : decode cX5_isRecent 28 = .ok (.iconst 1, 1) := by decide +kernel
theorem dX5_isRecent_29 : decode cX5_isRecent 29 = .ok (.goto 4, 3) := by decide +kernel
theorem dX5_isRecent_32 : decode cX5_isRecent 32 = .ok (.iconst 0, 1) := by decide +kernel
theorem dX5_isRecent_33 : decode cX5_isRecent 33 = .ok (.ireturn, 1) := by decide +kernel
theorem dX5_meetAll_0 : decode cX5_meetAll 0 = .ok (.iconst 0, 1) := by decide +kernel
theorem dX5_meetAll_1 : decode cX5_meetAll 1 = .ok (.istore 4, 2) := by decide +kernel
theorem dX5_meetAll_3 : decode cX5_meetAll 3 = .ok (.iload 4, 2) := by decide +kernel
theorem dX5_meetAll_5 : decode cX5_meetAll 5 = .ok (.iconst 4, 1) := by decide +kernel
theorem dX5_meetAll_6 : decode cX5_meetAll 6 = .ok (.if_icmp .ge 72, 3) := by decide +kernel
theorem dX5_meetAll_9 : decode cX5_meetAll 9 = .ok (.iload_n 3, 1) := by decide +kernel
theorem dX5_meetAll_10 : decode cX5_meetAll 10 = .ok (.iload 4, 2) := by decide +kernel
theorem dX5_meetAll_12 : decode cX5_meetAll 12 = .ok (.invokestatic 84, 3) := by decide +kernel
theorem dX5_meetAll_15 : decode cX5_meetAll 15 = .ok (.ifCond .eq 57, 3) := by decide +kernel
theorem dX5_meetAll_18 : decode cX5_meetAll 18 = .ok (.aload_n 0, 1) := by decide +kernel
theorem dX5_meetAll_19 : decode cX5_meetAll 19 = .ok (.dup, 1) := by decide +kernel
theorem dX5_meetAll_20 : decode cX5_meetAll 20 = .ok (.getfield 68, 3) := by decide +kernel
theorem dX5_meetAll_23 : decode cX5_meetAll 23 = .ok (.aload_n 0, 1) := by decide +kernel
theorem dX5_meetAll_24 : decode cX5_meetAll 24 = .ok (.iconst 4, 1) := by decide +kernel
theorem dX5_meetAll_25 : decode cX5_meetAll 25 = .ok (.iload_n 1, 1) := by decide +kernel
theorem dX5_meetAll_26 : decode cX5_meetAll 26 = .ok (.imul, 1) := by decide +kernel
theorem dX5_meetAll_27 : decode cX5_meetAll 27 = .ok (.iload 4, 2) := by decide +kernel
theorem dX5_meetAll_29 : decode cX5_meetAll 29 = .ok (.iadd, 1) := by decide +kernel
theorem dX5_meetAll_30 : decode cX5_meetAll 30 = .ok (.invokevirtual 114, 3) := by decide +kernel
theorem dX5_meetAll_33 : decode cX5_meetAll 33 = .ok (.ifCond .eq 7, 3) := by decide +kernel
theorem dX5_meetAll_36 : decode cX5_meetAll 36 = .ok (.iconst 1, 1) := by decide +kernel
theorem dX5_meetAll_37 : decode cX5_meetAll 37 = .ok (.goto 4, 3) := by decide +kernel
theorem dX5_meetAll_40 : decode cX5_meetAll 40 = .ok (.iconst 0, 1) := by decide +kernel
theorem dX5_meetAll_41 : decode cX5_meetAll 41 = .ok (.iadd, 1) := by decide +kernel
theorem dX5_meetAll_42 : decode cX5_meetAll 42 = .ok (.putfield 68, 3) := by decide +kernel
theorem dX5_meetAll_45 : decode cX5_meetAll 45 = .ok (.aload_n 0, 1) := by decide +kernel
theorem dX5_meetAll_46 : decode cX5_meetAll 46 = .ok (.dup, 1) := by decide +kernel
theorem dX5_meetAll_47 : decode cX5_meetAll 47 = .ok (.getfield 68, 3) := by decide +kernel
theorem dX5_meetAll_50 : decode cX5_meetAll 50 = .ok (.aload_n 0, 1) := by decide +kernel
theorem dX5_meetAll_51 : decode cX5_meetAll 51 = .ok (.iconst 4, 1) := by decide +kernel
theorem dX5_meetAll_52 : decode cX5_meetAll 52 = .ok (.iload_n 2, 1) := by decide +kernel
theorem dX5_meetAll_53 : decode cX5_meetAll 53 = .ok (.imul, 1) := by decide +kernel
theorem dX5_meetAll_54 : decode cX5_meetAll 54 = .ok (.iload 4, 2) := by decide +kernel
theorem dX5_meetAll_56 : decode cX5_meetAll 56 = .ok (.iadd, 1) := by decide +kernel
theorem dX5_meetAll_57 : decode cX5_meetAll 57 = .ok (.invokevirtual 114, 3) := by decide +kernel
theorem dX5_meetAll_60 : decode cX5_meetAll 60 = .ok (.ifCond .eq 7, 3) := by decide +kernel
theorem dX5_meetAll_63 : decode cX5_meetAll 63 = .ok (.iconst 1, 1) := by decide +kernel
theorem dX5_meetAll_64 : decode cX5_meetAll 64 = .ok (.goto 4, 3) := by decide +kernel
theorem dX5_meetAll_67 : decode cX5_meetAll 67 = .ok (.iconst 0, 1) := by decide +kernel
theorem dX5_meetAll_68 : decode cX5_meetAll 68 = .ok (.iadd, 1) := by decide +kernel
theorem dX5_meetAll_69 : decode cX5_meetAll 69 = .ok (.putfield 68, 3) := by decide +kernel
theorem dX5_meetAll_72 : decode cX5_meetAll 72 = .ok (.iinc 4 1, 3) := by decide +kernel
theorem dX5_meetAll_75 : decode cX5_meetAll 75 = .ok (.goto (-72), 3) := by decide +kernel
theorem dX5_meetAll_78 : decode cX5_meetAll 78 = .ok (.iconst 0, 1) := by decide +kernel
theorem dX5_meetAll_79 : decode cX5_meetAll 79 = .ok (.istore 4, 2) := by decide +kernel
theorem dX5_meetAll_81 : decode cX5_meetAll 81 = .ok (.iconst 0, 1) := by decide +kernel
theorem dX5_meetAll_82 : decode cX5_meetAll 82 = .ok (.istore 5, 2) := by decide +kernel
theorem dX5_meetAll_84 : decode cX5_meetAll 84 = .ok (.iload 5, 2) := by decide +kernel
theorem dX5_meetAll_86 : decode cX5_meetAll 86 = .ok (.iconst 4, 1) := by decide +kernel
theorem dX5_meetAll_87 : decode cX5_meetAll 87 = .ok (.if_icmp .ge 35, 3) := by decide +kernel
theorem dX5_meetAll_90 : decode cX5_meetAll 90 = .ok (.iload 4, 2) := by decide +kernel
theorem dX5_meetAll_92 : decode cX5_meetAll 92 = .ok (.iload_n 3, 1) := by decide +kernel
theorem dX5_meetAll_93 : decode cX5_meetAll 93 = .ok (.iload 5, 2) := by decide +kernel
theorem dX5_meetAll_95 : decode cX5_meetAll 95 = .ok (.invokestatic 84, 3) := by decide +kernel
theorem dX5_meetAll_98 : decode cX5_meetAll 98 = .ok (.ifCond .eq 14, 3) := by decide +kernel
theorem dX5_meetAll_101 : decode cX5_meetAll 101 = .ok (.aload_n 0, 1) := by decide +kernel
theorem dX5_meetAll_102 : decode cX5_meetAll 102 = .ok (.iload_n 1, 1) := by decide +kernel
theorem dX5_meetAll_103 : decode cX5_meetAll 103 = .ok (.iload_n 2, 1) := by decide +kernel
theorem dX5_meetAll_104 : decode cX5_meetAll 104 = .ok (.iload 5, 2) := by decide +kernel
theorem dX5_meetAll_106 : decode cX5_meetAll 106 = .ok (.invokevirtual 136, 3) := by decide +kernel
theorem dX5_meetAll_109 : decode cX5_meetAll 109 = .ok (.goto 4, 3) := by decide +kernel
theorem dX5_meetAll_112 : decode cX5_meetAll 112 = .ok (.iconst 0, 1) := by decide +kernel
theorem dX5_meetAll_113 : decode cX5_meetAll 113 = .ok (.iadd, 1) := by decide +kernel
theorem dX5_meetAll_114 : decode cX5_meetAll 114 = .ok (.istore 4, 2) := by decide +kernel
theorem dX5_meetAll_116 : decode cX5_meetAll 116 = .ok (.iinc 5 1, 3) := by decide +kernel
theorem dX5_meetAll_119 : decode cX5_meetAll 119 = .ok (.goto (-35), 3) := by decide +kernel
theorem dX5_meetAll_122 : decode cX5_meetAll 122 = .ok (.iload 4, 2) := by decide +kernel
theorem dX5_meetAll_124 : decode cX5_meetAll 124 = .ok (.ireturn, 1) := by decide +kernel
theorem dX5_exchangeNow_0 : decode cX5_exchangeNow 0 = .ok (.iconst 0, 1) := by decide +kernel
theorem dX5_exchangeNow_1 : decode cX5_exchangeNow 1 = .ok (.istore_n 3, 1) := by decide +kernel
theorem dX5_exchangeNow_2 : decode cX5_exchangeNow 2 = .ok (.iconst 0, 1) := by decide +kernel
theorem dX5_exchangeNow_3 : decode cX5_exchangeNow 3 = .ok (.istore 4, 2) := by decide +kernel
theorem dX5_exchangeNow_5 : decode cX5_exchangeNow 5 = .ok (.iload 4, 2) := by decide +kernel
theorem dX5_exchangeNow_7 : decode cX5_exchangeNow 7 = .ok (.iconst 4, 1) := by decide +kernel
theorem dX5_exchangeNow_8 : decode cX5_exchangeNow 8 = .ok (.if_icmp .ge 46, 3) := by decide +kernel
theorem dX5_exchangeNow_11 : decode cX5_exchangeNow 11 = .ok (.iload_n 3, 1) := by decide +kernel
theorem dX5_exchangeNow_12 : decode cX5_exchangeNow 12 = .ok (.aload_n 0, 1) := by decide +kernel
theorem dX5_exchangeNow_13 : decode cX5_exchangeNow 13 = .ok (.iconst 4, 1) := by decide +kernel
theorem dX5_exchangeNow_14 : decode cX5_exchangeNow 14 = .ok (.iload_n 1, 1) := by decide +kernel
theorem dX5_exchangeNow_15 : decode cX5_exchangeNow 15 = .ok (.imul, 1) := by decide +kernel
theorem dX5_exchangeNow_16 : decode cX5_exchangeNow 16 = .ok (.iload 4, 2) := by decide +kernel
theorem dX5_exchangeNow_18 : decode cX5_exchangeNow 18 = .ok (.iadd, 1) := by decide +kernel
theorem dX5_exchangeNow_19 : decode cX5_exchangeNow 19 = .ok (.invokevirtual 140, 3) := by decide +kernel
theorem dX5_exchangeNow_22 : decode cX5_exchangeNow 22 = .ok (.ifCond .ne 16, 3) := by decide +kernel
theorem dX5_exchangeNow_25 : decode cX5_exchangeNow 25 = .ok (.aload_n 0, 1) := by decide +kernel
theorem dX5_exchangeNow_26 : decode cX5_exchangeNow 26 = .ok (.iconst 4, 1) := by decide +kernel
theorem dX5_exchangeNow_27 : decode cX5_exchangeNow 27 = .ok (.iload_n 2, 1) := by decide +kernel
theorem dX5_exchangeNow_28 : decode cX5_exchangeNow 28 = .ok (.imul, 1) := by decide +kernel
theorem dX5_exchangeNow_29 : decode cX5_exchangeNow 29 = .ok (.iload 4, 2) := by decide +kernel
theorem dX5_exchangeNow_31 : decode cX5_exchangeNow 31 = .ok (.iadd, 1) := by decide +kernel
theorem dX5_exchangeNow_32 : decode cX5_exchangeNow 32 = .ok (.invokevirtual 140, 3) := by decide +kernel
theorem dX5_exchangeNow_35 : decode cX5_exchangeNow 35 = .ok (.ifCond .eq 10, 3) := by decide +kernel
theorem dX5_exchangeNow_38 : decode cX5_exchangeNow 38 = .ok (.iconst 1, 1) := by decide +kernel
theorem dX5_exchangeNow_39 : decode cX5_exchangeNow 39 = .ok (.iload 4, 2) := by decide +kernel
theorem dX5_exchangeNow_41 : decode cX5_exchangeNow 41 = .ok (.ishl, 1) := by decide +kernel
theorem dX5_exchangeNow_42 : decode cX5_exchangeNow 42 = .ok (.goto 4, 3) := by decide +kernel
theorem dX5_exchangeNow_45 : decode cX5_exchangeNow 45 = .ok (.iconst 0, 1) := by decide +kernel
theorem dX5_exchangeNow_46 : decode cX5_exchangeNow 46 = .ok (.ior, 1) := by decide +kernel
theorem dX5_exchangeNow_47 : decode cX5_exchangeNow 47 = .ok (.istore_n 3, 1) := by decide +kernel
theorem dX5_exchangeNow_48 : decode cX5_exchangeNow 48 = .ok (.iinc 4 1, 3) := by decide +kernel
theorem dX5_exchangeNow_51 : decode cX5_exchangeNow 51 = .ok (.goto (-46), 3) := by decide +kernel
theorem dX5_exchangeNow_54 : decode cX5_exchangeNow 54 = .ok (.aload_n 0, 1) := by decide +kernel
theorem dX5_exchangeNow_55 : decode cX5_exchangeNow 55 = .ok (.iload_n 1, 1) := by decide +kernel
theorem dX5_exchangeNow_56 : decode cX5_exchangeNow 56 = .ok (.iload_n 2, 1) := by decide +kernel
theorem dX5_exchangeNow_57 : decode cX5_exchangeNow 57 = .ok (.iload_n 3, 1) := by decide +kernel
