theorem dX4_init_0 : decode cX4_init 0 = .ok (.aload_n 0, 1) := by decide +kernel
theorem dX4_init_1 : decode cX4_init 1 = .ok (.invokespecial 1, 3) := by decide +kernel
theorem dX4_init_4 : decode cX4_init 4 = .ok (.aload_n 0, 1) := by decide +kernel
theorem dX4_init_5 : decode cX4_init 5 = .ok (.new 7, 3) := by decide +kernel
theorem dX4_init_8 : decode cX4_init 8 = .ok (.dup, 1) := by decide +kernel
theorem dX4_init_9 : decode cX4_init 9 = .ok (.invokespecial 9, 3) := by decide +kernel
theorem dX4_init_12 : decode cX4_init 12 = .ok (.putfield 10, 3) := by decide +kernel
theorem dX4_init_15 : decode cX4_init 15 = .ok (.aload_n 0, 1) := by decide +kernel
theorem dX4_init_16 : decode cX4_init 16 = .ok (.new 16, 3) := by decide +kernel
theorem dX4_init_19 : decode cX4_init 19 = .ok (.dup, 1) := by decide +kernel
theorem dX4_init_20 : decode cX4_init 20 = .ok (.invokespecial 18, 3) := by decide +kernel
theorem dX4_init_23 : decode cX4_init 23 = .ok (.putfield 19, 3) := by decide +kernel
theorem dX4_init_26 : decode cX4_init 26 = .ok (.aload_n 0, 1) := by decide +kernel
theorem dX4_init_27 : decode cX4_init 27 = .ok (.new 23, 3) := by decide +kernel
theorem dX4_init_30 : decode cX4_init 30 = .ok (.dup, 1) := by decide +kernel
theorem dX4_init_31 : decode cX4_init 31 = .ok (.invokespecial 25, 3) := by decide +kernel
theorem dX4_init_34 : decode cX4_init 34 = .ok (.putfield 26, 3) := by decide +kernel
theorem dX4_init_37 : decode cX4_init 37 = .ok (.return_, 1) := by decide +kernel
theorem dX4_letter_0 : decode cX4_letter 0 = .ok (.iload_n 1, 1) := by decide +kernel
theorem dX4_letter_1 : decode cX4_letter 1 = .ok (.bipush 32, 2) := by decide +kernel
theorem dX4_letter_3 : decode cX4_letter 3 = .ok (.if_icmp .lt 9, 3) := by decide +kernel
theorem dX4_letter_6 : decode cX4_letter 6 = .ok (.iload_n 1, 1) := by decide +kernel
theorem dX4_letter_7 : decode cX4_letter 7 = .ok (.bipush 126, 2) := by decide +kernel
theorem dX4_letter_9 : decode cX4_letter 9 = .ok (.if_icmp .le 7, 3) := by decide +kernel
theorem dX4_letter_12 : decode cX4_letter 12 = .ok (.sipush (-1002), 3) := by decide +kernel
theorem dX4_letter_15 : decode cX4_letter 15 = .ok (.ireturn, 1) := by decide +kernel
theorem dX4_letter_16 : decode cX4_letter 16 = .ok (.aload_n 0, 1) := by decide +kernel
theorem dX4_letter_17 : decode cX4_letter 17 = .ok (.getfield 10, 3) := by decide +kernel
theorem dX4_letter_20 : decode cX4_letter 20 = .ok (.getfield 30, 3) := by decide +kernel
theorem dX4_letter_23 : decode cX4_letter 23 = .ok (.bipush 6, 2) := by decide +kernel
theorem dX4_letter_25 : decode cX4_letter 25 = .ok (.if_icmp .lt 7, 3) := by decide +kernel
theorem dX4_letter_28 : decode cX4_letter 28 = .ok (.sipush (-1004), 3) := by decide +kernel
theorem dX4_letter_31 : decode cX4_letter 31 = .ok (.ireturn, 1) := by decide +kernel
theorem dX4_letter_32 : decode cX4_letter 32 = .ok (.aload_n 0, 1) := by decide +kernel
theorem dX4_letter_33 : decode cX4_letter 33 = .ok (.getfield 10, 3) := by decide +kernel
theorem dX4_letter_36 : decode cX4_letter 36 = .ok (.iload_n 1, 1) := by decide +kernel
theorem dX4_letter_37 : decode cX4_letter 37 = .ok (.invokevirtual 34, 3) := by decide +kernel
theorem dX4_letter_40 : decode cX4_letter 40 = .ok (.aload_n 0, 1) := by decide +kernel
theorem dX4_letter_41 : decode cX4_letter 41 = .ok (.getfield 10, 3) := by decide +kernel
theorem dX4_letter_44 : decode cX4_letter 44 = .ok (.getfield 30, 3) := by decide +kernel
theorem dX4_letter_47 : decode cX4_letter 47 = .ok (.ireturn, 1) := by decide +kernel
theorem dX4_blank_0 : decode cX4_blank 0 = .ok (.aload_n 0, 1) := by decide +kernel
theorem dX4_blank_1 : decode cX4_blank 1 = .ok (.getfield 10, 3) := by decide +kernel
theorem dX4_blank_4 : decode cX4_blank 4 = .ok (.getfield 30, 3) := by decide +kernel
theorem dX4_blank_7 : decode cX4_blank 7 = .ok (.istore_n 1, 1) := by decide +kernel
theorem dX4_blank_8 : decode cX4_blank 8 = .ok (.aload_n 0, 1) := by decide +kernel
theorem dX4_blank_9 : decode cX4_blank 9 = .ok (.getfield 10, 3) := by decide +kernel
theorem dX4_blank_12 : decode cX4_blank 12 = .ok (.iconst 0, 1) := by decide +kernel
theorem dX4_blank_13 : decode cX4_blank 13 = .ok (.putfield 30, 3) := by decide +kernel
theorem dX4_blank_16 : decode cX4_blank 16 = .ok (.iload_n 1, 1) := by decide +kernel
theorem dX4_blank_17 : decode cX4_blank 17 = .ok (.ireturn, 1) := by decide +kernel
theorem dX4_fault_0 : decode cX4_fault 0 = .ok (.aload_n 0, 1) := by decide +kernel
theorem dX4_fault_1 : decode cX4_fault 1 = .ok (.getfield 10, 3) := by decide +kernel
theorem dX4_fault_4 : decode cX4_fault 4 = .ok (.invokevirtual 38, 3) := by decide +kernel
theorem dX4_fault_7 : decode cX4_fault 7 = .ok (.ireturn, 1) := by decide +kernel
theorem dX4_line_0 : decode cX4_line 0 = .ok (.aload_n 0, 1) := by decide +kernel
theorem dX4_line_1 : decode cX4_line 1 = .ok (.getfield 10, 3) := by decide +kernel
theorem dX4_line_4 : decode cX4_line 4 = .ok (.invokevirtual 42, 3) := by decide +kernel
theorem dX4_line_7 : decode cX4_line 7 = .ok (.ifCond .ne 7, 3) := by decide +kernel
theorem dX4_line_10 : decode cX4_line 10 = .ok (.sipush (-1003), 3) := by decide +kernel
theorem dX4_line_13 : decode cX4_line 13 = .ok (.ireturn, 1) := by decide +kernel
theorem dX4_line_14 : decode cX4_line 14 = .ok (.aload_n 0, 1) := by decide +kernel
theorem dX4_line_15 : decode cX4_line 15 = .ok (.getfield 19, 3) := by decide +kernel
theorem dX4_line_18 : decode cX4_line 18 = .ok (.aload_n 0, 1) := by decide +kernel
theorem dX4_line_19 : decode cX4_line 19 = .ok (.getfield 10, 3) := by decide +kernel
theorem dX4_line_22 : decode cX4_line 22 = .ok (.invokevirtual 46, 3) := by decide +kernel
theorem dX4_line_25 : decode cX4_line 25 = .ok (.aload_n 0, 1) := by decide +kernel
theorem dX4_line_26 : decode cX4_line 26 = .ok (.getfield 10, 3) := by decide +kernel
theorem dX4_line_29 : decode cX4_line 29 = .ok (.iconst 0, 1) := by decide +kernel
theorem dX4_line_30 : decode cX4_line 30 = .ok (.putfield 30, 3) := by decide +kernel
theorem dX4_line_33 : decode cX4_line 33 = .ok (.aload_n 0, 1) := by decide +kernel
theorem dX4_line_34 : decode cX4_line 34 = .ok (.dup, 1) := by decide +kernel
theorem dX4_line_35 : decode cX4_line 35 = .ok (.getfield 50, 3) := by decide +kernel
theorem dX4_line_38 : decode cX4_line 38 = .ok (.iconst 1, 1) := by decide +kernel
theorem dX4_line_39 : decode cX4_line 39 = .ok (.iadd, 1) := by decide +kernel
theorem dX4_line_40 : decode cX4_line 40 = .ok (.putfield 50, 3) := by decide +kernel
theorem dX4_line_43 : decode cX4_line 43 = .ok (.aload_n 0, 1) := by decide +kernel
theorem dX4_line_44 : decode cX4_line 44 = .ok (.getfield 19, 3) := by decide +kernel
theorem dX4_line_47 : decode cX4_line 47 = .ok (.getfield 53, 3) := by decide +kernel
theorem dX4_line_50 : decode cX4_line 50 = .ok (.ireturn, 1) := by decide +kernel
theorem dX4_set_0 : decode cX4_set 0 = .ok (.iload_n 1, 1) := by decide +kernel
theorem dX4_set_1 : decode cX4_set 1 = .ok (.ifCond .lt 8, 3) := by decide +kernel
theorem dX4_set_4 : decode cX4_set 4 = .ok (.iload_n 1, 1) := by decide +kernel
theorem dX4_set_5 : decode cX4_set 5 = .ok (.iconst 3, 1) := by decide +kernel
theorem dX4_set_6 : decode cX4_set 6 = .ok (.if_icmp .le 7, 3) := by decide +kernel
theorem dX4_set_9 : decode cX4_set 9 = .ok (.sipush (-1002), 3) := by decide +kernel
theorem dX4_set_12 : decode cX4_set 12 = .ok (.ireturn, 1) := by decide +kernel
theorem dX4_set_13 : decode cX4_set 13 = .ok (.iload_n 2, 1) := by decide +kernel
theorem dX4_set_14 : decode cX4_set 14 = .ok (.getstatic 56, 3) := by decide +kernel
theorem dX4_set_17 : decode cX4_set 17 = .ok (.iload_n 1, 1) := by decide +kernel
theorem dX4_set_18 : decode cX4_set 18 = .ok (.iaload, 1) := by decide +kernel
theorem dX4_set_19 : decode cX4_set 19 = .ok (.if_icmp .lt 12, 3) := by decide +kernel
theorem dX4_set_22 : decode cX4_set 22 = .ok (.iload_n 2, 1) := by decide +kernel
theorem dX4_set_23 : decode cX4_set 23 = .ok (.getstatic 60, 3) := by decide +kernel
theorem dX4_set_26 : decode cX4_set 26 = .ok (.iload_n 1, 1) := by decide +kernel
theorem dX4_set_27 : decode cX4_set 27 = .ok (.iaload, 1) := by decide +kernel
theorem dX4_set_28 : decode cX4_set 28 = .ok (.if_icmp .le 7, 3) := by decide +kernel
theorem dX4_set_31 : decode cX4_set 31 = .ok (.sipush (-1002), 3) := by decide +kernel
theorem dX4_set_34 : decode cX4_set 34 = .ok (.ireturn, 1) := by decide +kernel
theorem dX4_set_35 : decode cX4_set 35 = .ok (.aload_n 0, 1) := by decide +kernel
theorem dX4_set_36 : decode cX4_set 36 = .ok (.getfield 19, 3) := by decide +kernel
theorem dX4_set_39 : decode cX4_set 39 = .ok (.getfield 63, 3) := by decide +kernel
theorem dX4_set_42 : decode cX4_set 42 = .ok (.iload_n 1, 1) := by decide +kernel
theorem dX4_set_43 : decode cX4_set 43 = .ok (.iaload, 1) := by decide +kernel
theorem dX4_set_44 : decode cX4_set 44 = .ok (.istore_n 3, 1) := by decide +kernel
theorem dX4_set_45 : decode cX4_set 45 = .ok (.aload_n 0, 1) := by decide +kernel
theorem dX4_set_46 : decode cX4_set 46 = .ok (.getfield 19, 3) := by decide +kernel
theorem dX4_set_49 : decode cX4_set 49 = .ok (.getfield 63, 3) := by decide +kernel
theorem dX4_set_52 : decode cX4_set 52 = .ok (.iload_n 1, 1) := by decide +kernel
theorem dX4_set_53 : decode cX4_set 53 = .ok (.iload_n 2, 1) := by decide +kernel
theorem dX4_set_54 : decode cX4_set 54 = .ok (.iastore, 1) := by decide +kernel
theorem dX4_set_55 : decode cX4_set 55 = .ok (.aload_n 0, 1) := by decide +kernel
theorem dX4_set_56 : decode cX4_set 56 = .ok (.getfield 19, 3) := by decide +kernel
theorem dX4_set_59 : decode cX4_set 59 = .ok (.invokevirtual 66, 3) := by decide +kernel
theorem dX4_set_62 : decode cX4_set 62 = .ok (.pop, 1) := by decide +kernel
theorem dX4_set_63 : decode cX4_set 63 = .ok (.iload_n 3, 1) := by decide +kernel
theorem dX4_set_64 : decode cX4_set 64 = .ok (.ireturn, 1) := by decide +kernel
theorem dX4_put_0 : decode cX4_put 0 = .ok (.aload_n 0, 1) := by decide +kernel
theorem dX4_put_1 : decode cX4_put 1 = .ok (.getfield 19, 3) := by decide +kernel
theorem dX4_put_4 : decode cX4_put 4 = .ok (.iload_n 1, 1) := by decide +kernel
theorem dX4_put_5 : decode cX4_put 5 = .ok (.invokevirtual 69, 3) := by decide +kernel
theorem dX4_put_8 : decode cX4_put 8 = .ok (.ifCond .eq 10, 3) := by decide +kernel
theorem dX4_put_11 : decode cX4_put 11 = .ok (.iload_n 2, 1) := by decide +kernel
theorem dX4_put_12 : decode cX4_put 12 = .ok (.invokestatic 73, 3) := by decide +kernel
theorem dX4_put_15 : decode cX4_put 15 = .ok (.ifCond .ne 7, 3) := by decide +kernel
theorem dX4_put_18 : decode cX4_put 18 = .ok (.sipush (-1001), 3) := by decide +kernel
theorem dX4_put_21 : decode cX4_put 21 = .ok (.ireturn, 1) := by decide +kernel
theorem dX4_put_22 : decode cX4_put 22 = .ok (.iload_n 3, 1) := by decide +kernel
theorem dX4_put_23 : decode cX4_put 23 = .ok (.ifCond .lt 9, 3) := by decide +kernel
theorem dX4_put_26 : decode cX4_put 26 = .ok (.iload_n 3, 1) := by decide +kernel
theorem dX4_put_27 : decode cX4_put 27 = .ok (.bipush 9, 2) := by decide +kernel
theorem dX4_put_29 : decode cX4_put 29 = .ok (.if_icmp .le 7, 3) := by decide +kernel
theorem dX4_put_32 : decode cX4_put 32 = .ok (.sipush (-1002), 3) := by decide +kernel
theorem dX4_put_35 : decode cX4_put 35 = .ok (.ireturn, 1) := by decide +kernel
theorem dX4_put_36 : decode cX4_put 36 = .ok (.aload_n 0, 1) := by decide +kernel
theorem dX4_put_37 : decode cX4_put 37 = .ok (.getfield 19, 3) := by decide +kernel
theorem dX4_put_40 : decode cX4_put 40 = .ok (.iload_n 1, 1) := by decide +kernel
theorem dX4_put_41 : decode cX4_put 41 = .ok (.invokevirtual 76, 3) := by decide +kernel
theorem dX4_put_44 : decode cX4_put 44 = .ok (.ifCond .eq 7, 3) := by decide +kernel
theorem dX4_put_47 : decode cX4_put 47 = .ok (.sipush (-1003), 3) := by decide +kernel
theorem dX4_put_50 : decode cX4_put 50 = .ok (.ireturn, 1) := by decide +kernel
theorem dX4_put_51 : decode cX4_put 51 = .ok (.aload_n 0, 1) := by decide +kernel
theorem dX4_put_52 : decode cX4_put 52 = .ok (.getfield 19, 3) := by decide +kernel
theorem dX4_put_55 : decode cX4_put 55 = .ok (.getfield 79, 3) := by decide +kernel
theorem dX4_put_58 : decode cX4_put 58 = .ok (.sipush 9999, 3) := by decide +kernel
theorem dX4_put_61 : decode cX4_put 61 = .ok (.if_icmp .lt 7, 3) := by decide +kernel
theorem dX4_put_64 : decode cX4_put 64 = .ok (.sipush (-1004), 3) := by decide +kernel
theorem dX4_put_67 : decode cX4_put 67 = .ok (.ireturn, 1) := by decide +kernel
theorem dX4_put_68 : decode cX4_put 68 = .ok (.aload_n 0, 1) := by decide +kernel
theorem dX4_put_69 : decode cX4_put 69 = .ok (.getfield 19, 3) := by decide +kernel
theorem dX4_put_72 : decode cX4_put 72 = .ok (.iload_n 1, 1) := by decide +kernel
theorem dX4_put_73 : decode cX4_put 73 = .ok (.iload_n 2, 1) := by decide +kernel
theorem dX4_put_74 : decode cX4_put 74 = .ok (.iload_n 3, 1) := by decide +kernel
theorem dX4_put_75 : decode cX4_put 75 = .ok (.invokevirtual 82, 3) := by decide +kernel
theorem dX4_put_78 : decode cX4_put 78 = .ok (.ireturn, 1) := by decide +kernel
theorem dX4_remove_0 : decode cX4_remove 0 = .ok (.aload_n 0, 1) := by decide +kernel
theorem dX4_remove_1 : decode cX4_remove 1 = .ok (.getfield 19, 3) := by decide +kernel
theorem dX4_remove_4 : decode cX4_remove 4 = .ok (.iload_n 1, 1) := by decide +kernel
theorem dX4_remove_5 : decode cX4_remove 5 = .ok (.invokevirtual 69, 3) := by decide +kernel
theorem dX4_remove_8 : decode cX4_remove 8 = .ok (.ifCond .eq 10, 3) := by decide +kernel
theorem dX4_remove_11 : decode cX4_remove 11 = .ok (.iload_n 2, 1) := by decide +kernel
theorem dX4_remove_12 : decode cX4_remove 12 = .ok (.invokestatic 73, 3) := by decide +kernel
theorem dX4_remove_15 : decode cX4_remove 15 = .ok (.ifCond .ne 7, 3) := by decide +kernel
theorem dX4_remove_18 : decode cX4_remove 18 = .ok (.sipush (-1001), 3) := by decide +kernel
theorem dX4_remove_21 : decode cX4_remove 21 = .ok (.ireturn, 1) := by decide +kernel
theorem dX4_remove_22 : decode cX4_remove 22 = .ok (.iload_n 3, 1) := by decide +kernel
theorem dX4_remove_23 : decode cX4_remove 23 = .ok (.iconst 1, 1) := by decide +kernel
theorem dX4_remove_24 : decode cX4_remove 24 = .ok (.if_icmp .lt 8, 3) := by decide +kernel
theorem dX4_remove_27 : decode cX4_remove 27 = .ok (.iload_n 3, 1) := by decide +kernel
theorem dX4_remove_28 : decode cX4_remove 28 = .ok (.iconst 3, 1) := by decide +kernel
theorem dX4_remove_29 : decode cX4_remove 29 = .ok (.if_icmp .le 7, 3) := by decide +kernel
theorem dX4_remove_32 : decode cX4_remove 32 = .ok (.sipush (-1002), 3) := by decide +kernel
theorem dX4_remove_35 : decode cX4_remove 35 = .ok (.ireturn, 1) := by decide +kernel
theorem dX4_remove_36 : decode cX4_remove 36 = .ok (.aload_n 0, 1) := by decide +kernel
theorem dX4_remove_37 : decode cX4_remove 37 = .ok (.getfield 19, 3) := by decide +kernel
theorem dX4_remove_40 : decode cX4_remove 40 = .ok (.iload_n 1, 1) := by decide +kernel
theorem dX4_remove_41 : decode cX4_remove 41 = .ok (.invokevirtual 76, 3) := by decide +kernel
theorem dX4_remove_44 : decode cX4_remove 44 = .ok (.ifCond .ne 19, 3) := by decide +kernel
theorem dX4_remove_47 : decode cX4_remove 47 = .ok (.aload_n 0, 1) := by decide +kernel
theorem dX4_remove_48 : decode cX4_remove 48 = .ok (.getfield 19, 3) := by decide +kernel
theorem dX4_remove_51 : decode cX4_remove 51 = .ok (.iload_n 1, 1) := by decide +kernel
theorem dX4_remove_52 : decode cX4_remove 52 = .ok (.iload_n 2, 1) := by decide +kernel
theorem dX4_remove_53 : decode cX4_remove 53 = .ok (.invokevirtual 86, 3) := by decide +kernel
theorem dX4_remove_56 : decode cX4_remove 56 = .ok (.getfield 90, 3) := by decide +kernel
theorem dX4_remove_59 : decode cX4_remove 59 = .ok (.iconst 1, 1) := by decide +kernel
theorem dX4_remove_60 : decode cX4_remove 60 = .ok (.if_icmp .eq 7, 3) := by decide +kernel
theorem dX4_remove_63 : decode cX4_remove 63 = .ok (.sipush (-1003), 3) := by decide +kernel
theorem dX4_remove_66 : decode cX4_remove 66 = .ok (.ireturn, 1) := by decide +kernel
theorem dX4_remove_67 : decode cX4_remove 67 = .ok (.aload_n 0, 1) := by decide +kernel
theorem dX4_remove_68 : decode cX4_remove 68 = .ok (.getfield 19, 3) := by decide +kernel
theorem dX4_remove_71 : decode cX4_remove 71 = .ok (.getfield 79, 3) := by decide +kernel
theorem dX4_remove_74 : decode cX4_remove 74 = .ok (.sipush 9999, 3) := by decide +kernel
theorem dX4_remove_77 : decode cX4_remove 77 = .ok (.if_icmp .lt 7, 3) := by decide +kernel
theorem dX4_remove_80 : decode cX4_remove 80 = .ok (.sipush (-1004), 3) := by decide +kernel
theorem dX4_remove_83 : decode cX4_remove 83 = .ok (.ireturn, 1) := by decide +kernel
theorem dX4_remove_84 : decode cX4_remove 84 = .ok (.aload_n 0, 1) := by decide +kernel
theorem dX4_remove_85 : decode cX4_remove 85 = .ok (.getfield 19, 3) := by decide +kernel
theorem dX4_remove_88 : decode cX4_remove 88 = .ok (.iload_n 1, 1) := by decide +kernel
theorem dX4_remove_89 : decode cX4_remove 89 = .ok (.iload_n 2, 1) := by decide +kernel
theorem dX4_remove_90 : decode cX4_remove 90 = .ok (.iload_n 3, 1) := by decide +kernel
theorem dX4_remove_91 : decode cX4_remove 91 = .ok (.invokevirtual 95, 3) := by decide +kernel
theorem dX4_remove_94 : decode cX4_remove 94 = .ok (.ireturn, 1) := by decide +kernel
theorem dX4_pass_0 : decode cX4_pass 0 = .ok (.iload_n 1, 1) := by decide +kernel
theorem dX4_pass_1 : decode cX4_pass 1 = .ok (.iconst 1, 1) := by decide +kernel
theorem dX4_pass_2 : decode cX4_pass 2 = .ok (.if_icmp .lt 10, 3) := by decide +kernel
theorem dX4_pass_5 : decode cX4_pass 5 = .ok (.iload_n 1, 1) := by decide +kernel
theorem dX4_pass_6 : decode cX4_pass 6 = .ok (.sipush 300, 3) := by decide +kernel
theorem dX4_pass_9 : decode cX4_pass 9 = .ok (.if_icmp .le 7, 3) := by decide +kernel
theorem dX4_pass_12 : decode cX4_pass 12 = .ok (.sipush (-1002), 3) := by decide +kernel
theorem dX4_pass_15 : decode cX4_pass 15 = .ok (.ireturn, 1) := by decide +kernel
theorem dX4_pass_16 : decode cX4_pass 16 = .ok (.aload_n 0, 1) := by decide +kernel
theorem dX4_pass_17 : decode cX4_pass 17 = .ok (.getfield 19, 3) := by decide +kernel
theorem dX4_pass_20 : decode cX4_pass 20 = .ok (.getfield 53, 3) := by decide +kernel
theorem dX4_pass_23 : decode cX4_pass 23 = .ok (.ifCond .ne 7, 3) := by decide +kernel
theorem dX4_pass_26 : decode cX4_pass 26 = .ok (.sipush (-1003), 3) := by decide +kernel
theorem dX4_pass_29 : decode cX4_pass 29 = .ok (.ireturn, 1) := by decide +kernel
theorem dX4_pass_30 : decode cX4_pass 30 = .ok (.aload_n 0, 1) := by decide +kernel
theorem dX4_pass_31 : decode cX4_pass 31 = .ok (.getfield 19, 3) := by decide +kernel
theorem dX4_pass_34 : decode cX4_pass 34 = .ok (.getfield 79, 3) := by decide +kernel
theorem dX4_pass_37 : decode cX4_pass 37 = .ok (.sipush 9999, 3) := by decide +kernel
theorem dX4_pass_40 : decode cX4_pass 40 = .ok (.iload_n 1, 1) := by decide +kernel
theorem dX4_pass_41 : decode cX4_pass 41 = .ok (.isub, 1) := by decide +kernel
theorem dX4_pass_42 : decode cX4_pass 42 = .ok (.if_icmp .le 7, 3) := by decide +kernel
theorem dX4_pass_45 : decode cX4_pass 45 = .ok (.sipush (-1004), 3) := by decide +kernel
theorem dX4_pass_48 : decode cX4_pass 48 = .ok (.ireturn, 1) := by decide +kernel
theorem dX4_pass_49 : decode cX4_pass 49 = .ok (.aload_n 0, 1) := by decide +kernel
theorem dX4_pass_50 : decode cX4_pass 50 = .ok (.getfield 19, 3) := by decide +kernel
theorem dX4_pass_53 : decode cX4_pass 53 = .ok (.iload_n 1, 1) := by decide +kernel
theorem dX4_pass_54 : decode cX4_pass 54 = .ok (.invokevirtual 98, 3) := by decide +kernel
theorem dX4_pass_57 : decode cX4_pass 57 = .ok (.ireturn, 1) := by decide +kernel
theorem dX4_off_0 : decode cX4_off 0 = .ok (.aload_n 0, 1) := by decide +kernel
theorem dX4_off_1 : decode cX4_off 1 = .ok (.getfield 19, 3) := by decide +kernel
theorem dX4_off_4 : decode cX4_off 4 = .ok (.iload_n 1, 1) := by decide +kernel
theorem dX4_off_5 : decode cX4_off 5 = .ok (.invokevirtual 69, 3) := by decide +kernel
theorem dX4_off_8 : decode cX4_off 8 = .ok (.ifCond .ne 7, 3) := by decide +kernel
theorem dX4_off_11 : decode cX4_off 11 = .ok (.sipush (-1001), 3) := by decide +kernel
theorem dX4_off_14 : decode cX4_off 14 = .ok (.ireturn, 1) := by decide +kernel
theorem dX4_off_15 : decode cX4_off 15 = .ok (.aload_n 0, 1) := by decide +kernel
theorem dX4_off_16 : decode cX4_off 16 = .ok (.getfield 19, 3) := by decide +kernel
theorem dX4_off_19 : decode cX4_off 19 = .ok (.iload_n 1, 1) := by decide +kernel
theorem dX4_off_20 : decode cX4_off 20 = .ok (.invokevirtual 76, 3) := by decide +kernel
theorem dX4_off_23 : decode cX4_off 23 = .ok (.ifCond .eq 7, 3) := by decide +kernel
theorem dX4_off_26 : decode cX4_off 26 = .ok (.iconst 1, 1) := by decide +kernel
theorem dX4_off_27 : decode cX4_off 27 = .ok (.goto 4, 3) := by decide +kernel
theorem dX4_off_30 : decode cX4_off 30 = .ok (.iconst 0, 1) := by decide +kernel
theorem dX4_off_31 : decode cX4_off 31 = .ok (.istore_n 3, 1) := by decide +kernel
theorem dX4_off_32 : decode cX4_off 32 = .ok (.iconst 1, 1) := by decide +kernel
theorem dX4_off_33 : decode cX4_off 33 = .ok (.iload_n 1, 1) := by decide +kernel
theorem dX4_off_34 : decode cX4_off 34 = .ok (.ishl, 1) := by decide +kernel
theorem dX4_off_35 : decode cX4_off 35 = .ok (.istore 4, 2) := by decide +kernel
theorem dX4_off_37 : decode cX4_off 37 = .ok (.aload_n 0, 1) := by decide +kernel
theorem dX4_off_38 : decode cX4_off 38 = .ok (.getfield 19, 3) := by decide +kernel
theorem dX4_off_41 : decode cX4_off 41 = .ok (.iload_n 2, 1) := by decide +kernel
theorem dX4_off_42 : decode cX4_off 42 = .ok (.ifCond .eq 16, 3) := by decide +kernel
theorem dX4_off_45 : decode cX4_off 45 = .ok (.aload_n 0, 1) := by decide +kernel
theorem dX4_off_46 : decode cX4_off 46 = .ok (.getfield 19, 3) := by decide +kernel
theorem dX4_off_49 : decode cX4_off 49 = .ok (.getfield 102, 3) := by decide +kernel
theorem dX4_off_52 : decode cX4_off 52 = .ok (.iload 4, 2) := by decide +kernel
theorem dX4_off_54 : decode cX4_off 54 = .ok (.ior, 1) := by decide +kernel
theorem dX4_off_55 : decode cX4_off 55 = .ok (.goto 15, 3) := by decide +kernel
theorem dX4_off_58 : decode cX4_off 58 = .ok (.aload_n 0, 1) := by decide +kernel
theorem dX4_off_59 : decode cX4_off 59 = .ok (.getfield 19, 3) := by decide +kernel
theorem dX4_off_62 : decode cX4_off 62 = .ok (.getfield 102, 3) := by decide +kernel
theorem dX4_off_65 : decode cX4_off 65 = .ok (.iload 4, 2) := by decide +kernel
theorem dX4_off_67 : decode cX4_off 67 = .ok (.iconst (-1), 1) := by decide +kernel
theorem dX4_off_68 : decode cX4_off 68 = .ok (.ixor, 1) := by decide +kernel
theorem dX4_off_69 : decode cX4_off 69 = .ok (.iand, 1) := by decide +kernel
theorem dX4_off_70 : decode cX4_off 70 = .ok (.putfield 102, 3) := by decide +kernel
theorem dX4_off_73 : decode cX4_off 73 = .ok (.iload_n 3, 1) := by decide +kernel
theorem dX4_off_74 : decode cX4_off 74 = .ok (.ireturn, 1) := by decide +kernel
theorem dX4_exchange_0 : decode cX4_exchange 0 = .ok (.aload_n 0, 1) := by decide +kernel
theorem dX4_exchange_1 : decode cX4_exchange 1 = .ok (.iload_n 1, 1) := by decide +kernel
theorem dX4_exchange_2 : decode cX4_exchange 2 = .ok (.iload_n 2, 1) := by decide +kernel
theorem dX4_exchange_3 : decode cX4_exchange 3 = .ok (.invokevirtual 105, 3) := by decide +kernel
theorem dX4_exchange_6 : decode cX4_exchange 6 = .ok (.istore_n 3, 1) := by decide +kernel
theorem dX4_exchange_7 : decode cX4_exchange 7 = .ok (.iload_n 3, 1) := by decide +kernel
theorem dX4_exchange_8 : decode cX4_exchange 8 = .ok (.ifCond .eq 7, 3) := by decide +kernel
theorem dX4_exchange_11 : decode cX4_exchange 11 = .ok (.iload_n 3, 1) := by decide +kernel
theorem dX4_exchange_12 : decode cX4_exchange 12 = .ok (.goto 12, 3) := by decide +kernel
theorem dX4_exchange_15 : decode cX4_exchange 15 = .ok (.aload_n 0, 1) := by decide +kernel
theorem dX4_exchange_16 : decode cX4_exchange 16 = .ok (.getfield 19, 3) := by decide +kernel
theorem dX4_exchange_19 : decode cX4_exchange 19 = .ok (.iload_n 1, 1) := by decide +kernel
theorem dX4_exchange_20 : decode cX4_exchange 20 = .ok (.iload_n 2, 1) := by decide +kernel
theorem dX4_exchange_21 : decode cX4_exchange 21 = .ok (.invokevirtual 109, 3) := by decide +kernel
theorem dX4_exchange_24 : decode cX4_exchange 24 = .ok (.ireturn, 1) := by decide +kernel
theorem dX4_rumour_0 : decode cX4_rumour 0 = .ok (.aload_n 0, 1) := by decide +kernel
theorem dX4_rumour_1 : decode cX4_rumour 1 = .ok (.iload_n 1, 1) := by decide +kernel
theorem dX4_rumour_2 : decode cX4_rumour 2 = .ok (.iload_n 2, 1) := by decide +kernel
theorem dX4_rumour_3 : decode cX4_rumour 3 = .ok (.invokevirtual 105, 3) := by decide +kernel
theorem dX4_rumour_6 : decode cX4_rumour 6 = .ok (.istore_n 3, 1) := by decide +kernel
theorem dX4_rumour_7 : decode cX4_rumour 7 = .ok (.iload_n 3, 1) := by decide +kernel
theorem dX4_rumour_8 : decode cX4_rumour 8 = .ok (.ifCond .eq 7, 3) := by decide +kernel
theorem dX4_rumour_11 : decode cX4_rumour 11 = .ok (.iload_n 3, 1) := by decide +kernel
theorem dX4_rumour_12 : decode cX4_rumour 12 = .ok (.goto 12, 3) := by decide +kernel
theorem dX4_rumour_15 : decode cX4_rumour 15 = .ok (.aload_n 0, 1) := by decide +kernel
theorem dX4_rumour_16 : decode cX4_rumour 16 = .ok (.getfield 19, 3) := by decide +kernel
theorem dX4_rumour_19 : decode cX4_rumour 19 = .ok (.iload_n 1, 1) := by decide +kernel
theorem dX4_rumour_20 : decode cX4_rumour 20 = .ok (.iload_n 2, 1) := by decide +kernel
theorem dX4_rumour_21 : decode cX4_rumour 21 = .ok (.invokevirtual 112, 3) := by decide +kernel
theorem dX4_rumour_24 : decode cX4_rumour 24 = .ok (.ireturn, 1) := by decide +kernel
theorem dX4_refusalOfPair_0 : decode cX4_refusalOfPair 0 = .ok (.aload_n 0, 1) := by decide +kernel
theorem dX4_refusalOfPair_1 : decode cX4_refusalOfPair 1 = .ok (.getfield 19, 3) := by decide +kernel
theorem dX4_refusalOfPair_4 : decode cX4_refusalOfPair 4 = .ok (.iload_n 1, 1) := by decide +kernel
theorem dX4_refusalOfPair_5 : decode cX4_refusalOfPair 5 = .ok (.invokevirtual 69, 3) := by decide +kernel
theorem dX4_refusalOfPair_8 : decode cX4_refusalOfPair 8 = .ok (.ifCond .eq 19, 3) := by decide +kernel
theorem dX4_refusalOfPair_11 : decode cX4_refusalOfPair 11 = .ok (.aload_n 0, 1) := by decide +kernel
theorem dX4_refusalOfPair_12 : decode cX4_refusalOfPair 12 = .ok (.getfield 19, 3) := by decide +kernel
theorem dX4_refusalOfPair_15 : decode cX4_refusalOfPair 15 = .ok (.iload_n 2, 1) := by decide +kernel
theorem dX4_refusalOfPair_16 : decode cX4_refusalOfPair 16 = .ok (.invokevirtual 69, 3) := by decide +kernel
theorem dX4_refusalOfPair_19 : decode cX4_refusalOfPair 19 = .ok (.ifCond .eq 8, 3) := by decide +kernel
theorem dX4_refusalOfPair_22 : decode cX4_refusalOfPair 22 = .ok (.iload_n 1, 1) := by decide +kernel
theorem dX4_refusalOfPair_23 : decode cX4_refusalOfPair 23 = .ok (.iload_n 2, 1) := by decide +kernel
theorem dX4_refusalOfPair_24 : decode cX4_refusalOfPair 24 = .ok (.if_icmp .ne 7, 3) := by decide +kernel
theorem dX4_refusalOfPair_27 : decode cX4_refusalOfPair 27 = .ok (.sipush (-1001), 3) := by decide +kernel
theorem dX4_refusalOfPair_30 : decode cX4_refusalOfPair 30 = .ok (.ireturn, 1) := by decide +kernel
theorem dX4_refusalOfPair_31 : decode cX4_refusalOfPair 31 = .ok (.aload_n 0, 1) := by decide +kernel
theorem dX4_refusalOfPair_32 : decode cX4_refusalOfPair 32 = .ok (.getfield 19, 3) := by decide +kernel
theorem dX4_refusalOfPair_35 : decode cX4_refusalOfPair 35 = .ok (.iload_n 1, 1) := by decide +kernel
theorem dX4_refusalOfPair_36 : decode cX4_refusalOfPair 36 = .ok (.invokevirtual 76, 3) := by decide +kernel
theorem dX4_refusalOfPair_39 : decode cX4_refusalOfPair 39 = .ok (.ifCond .ne 14, 3) := by decide +kernel
theorem dX4_refusalOfPair_42 : decode cX4_refusalOfPair 42 = .ok (.aload_n 0, 1) := by decide +kernel
theorem dX4_refusalOfPair_43 : decode cX4_refusalOfPair 43 = .ok (.getfield 19, 3) := by decide +kernel
theorem dX4_refusalOfPair_46 : decode cX4_refusalOfPair 46 = .ok (.iload_n 2, 1) := by decide +kernel
theorem dX4_refusalOfPair_47 : decode cX4_refusalOfPair 47 = .ok (.invokevirtual 76, 3) := by decide +kernel
theorem dX4_refusalOfPair_50 : decode cX4_refusalOfPair 50 = .ok (.ifCond .eq 9, 3) := by decide +kernel
theorem dX4_refusalOfPair_53 : decode cX4_refusalOfPair 53 = .ok (.sipush (-1003), 3) := by decide +kernel
theorem dX4_refusalOfPair_56 : decode cX4_refusalOfPair 56 = .ok (.goto 4, 3) := by decide +kernel
theorem dX4_refusalOfPair_59 : decode cX4_refusalOfPair 59 = .ok (.iconst 0, 1) := by decide +kernel
theorem dX4_refusalOfPair_60 : decode cX4_refusalOfPair 60 = .ok (.ireturn, 1) := by decide +kernel
theorem dX4_has_0 : decode cX4_has 0 = .ok (.aload_n 0, 1) := by decide +kernel
theorem dX4_has_1 : decode cX4_has 1 = .ok (.getfield 19, 3) := by decide +kernel
theorem dX4_has_4 : decode cX4_has 4 = .ok (.iload_n 1, 1) := by decide +kernel
theorem dX4_has_5 : decode cX4_has 5 = .ok (.invokevirtual 69, 3) := by decide +kernel
theorem dX4_has_8 : decode cX4_has 8 = .ok (.ifCond .eq 10, 3) := by decide +kernel
theorem dX4_has_11 : decode cX4_has 11 = .ok (.iload_n 2, 1) := by decide +kernel
theorem dX4_has_12 : decode cX4_has 12 = .ok (.invokestatic 73, 3) := by decide +kernel
theorem dX4_has_15 : decode cX4_has 15 = .ok (.ifCond .ne 7, 3) := by decide +kernel
theorem dX4_has_18 : decode cX4_has 18 = .ok (.sipush (-1001), 3) := by decide +kernel
theorem dX4_has_21 : decode cX4_has 21 = .ok (.ireturn, 1) := by decide +kernel
theorem dX4_has_22 : decode cX4_has 22 = .ok (.aload_n 0, 1) := by decide +kernel
theorem dX4_has_23 : decode cX4_has 23 = .ok (.getfield 19, 3) := by decide +kernel
theorem dX4_has_26 : decode cX4_has 26 = .ok (.iload_n 1, 1) := by decide +kernel
theorem dX4_has_27 : decode cX4_has 27 = .ok (.iload_n 2, 1) := by decide +kernel
theorem dX4_has_28 : decode cX4_has 28 = .ok (.invokevirtual 86, 3) := by decide +kernel
theorem dX4_has_31 : decode cX4_has 31 = .ok (.astore 4, 2) := by decide +kernel
theorem dX4_has_33 : decode cX4_has 33 = .ok (.iload_n 3, 1) := by decide +kernel
theorem dX4_has_34 : decode cX4_has 34 = .ok (.tableswitch 96 0 6 #[42, 48, 54, 60, 66, 72, 90], 42) := by decide +kernel
theorem dX4_has_76 : decode cX4_has 76 = .ok (.aload 4, 2) := by decide +kernel
theorem dX4_has_78 : decode cX4_has 78 = .ok (.getfield 90, 3) := by decide +kernel
theorem dX4_has_81 : decode cX4_has 81 = .ok (.ireturn, 1) := by decide +kernel
theorem dX4_has_82 : decode cX4_has 82 = .ok (.aload 4, 2) := by decide +kernel
theorem dX4_has_84 : decode cX4_has 84 = .ok (.getfield 115, 3) := by decide +kernel
theorem dX4_has_87 : decode cX4_has 87 = .ok (.ireturn, 1) := by decide +kernel
theorem dX4_has_88 : decode cX4_has 88 = .ok (.aload 4, 2) := by decide +kernel
theorem dX4_has_90 : decode cX4_has 90 = .ok (.getfield 118, 3) := by decide +kernel
theorem dX4_has_93 : decode cX4_has 93 = .ok (.ireturn, 1) := by decide +kernel
theorem dX4_has_94 : decode cX4_has 94 = .ok (.aload 4, 2) := by decide +kernel
theorem dX4_has_96 : decode cX4_has 96 = .ok (.getfield 121, 3) := by decide +kernel
theorem dX4_has_99 : decode cX4_has 99 = .ok (.ireturn, 1) := by decide +kernel
theorem dX4_has_100 : decode cX4_has 100 = .ok (.aload 4, 2) := by decide +kernel
theorem dX4_has_102 : decode cX4_has 102 = .ok (.getfield 124, 3) := by decide +kernel
theorem dX4_has_105 : decode cX4_has 105 = .ok (.ireturn, 1) := by decide +kernel
theorem dX4_has_106 : decode cX4_has 106 = .ok (.aload_n 0, 1) := by decide +kernel
theorem dX4_has_107 : decode cX4_has 107 = .ok (.getfield 19, 3) := by decide +kernel
theorem dX4_has_110 : decode cX4_has 110 = .ok (.aload 4, 2) := by decide +kernel
theorem dX4_has_112 : decode cX4_has 112 = .ok (.invokevirtual 127, 3) := by decide +kernel
theorem dX4_has_115 : decode cX4_has 115 = .ok (.ifCond .eq 7, 3) := by decide +kernel
theorem dX4_has_118 : decode cX4_has 118 = .ok (.iconst 1, 1) := by decide +kernel
theorem dX4_has_119 : decode cX4_has 119 = .ok (.goto 4, 3) := by decide +kernel
theorem dX4_has_122 : decode cX4_has 122 = .ok (.iconst 0, 1) := by decide +kernel
theorem dX4_has_123 : decode cX4_has 123 = .ok (.ireturn, 1) := by decide +kernel
theorem dX4_has_124 : decode cX4_has 124 = .ok (.aload 4, 2) := by decide +kernel
theorem dX4_has_126 : decode cX4_has 126 = .ok (.getfield 131, 3) := by decide +kernel
theorem dX4_has_129 : decode cX4_has 129 = .ok (.ireturn, 1) := by decide +kernel
theorem dX4_has_130 : decode cX4_has 130 = .ok (.sipush (-1002), 3) := by decide +kernel
theorem dX4_has_133 : decode cX4_has 133 = .ok (.ireturn, 1) := by decide +kernel
theorem dX4_newest_0 : decode cX4_newest 0 = .ok (.aload_n 0, 1) := by decide +kernel
theorem dX4_newest_1 : decode cX4_newest 1 = .ok (.getfield 19, 3) := by decide +kernel
theorem dX4_newest_4 : decode cX4_newest 4 = .ok (.iload_n 1, 1) := by decide +kernel
theorem dX4_newest_5 : decode cX4_newest 5 = .ok (.invokevirtual 69, 3) := by decide +kernel
theorem dX4_newest_8 : decode cX4_newest 8 = .ok (.ifCond .ne 7, 3) := by decide +kernel
theorem dX4_newest_11 : decode cX4_newest 11 = .ok (.sipush (-1001), 3) := by decide +kernel
theorem dX4_newest_14 : decode cX4_newest 14 = .ok (.ireturn, 1) := by decide +kernel
theorem dX4_newest_15 : decode cX4_newest 15 = .ok (.iload_n 2, 1) := by decide +kernel
theorem dX4_newest_16 : decode cX4_newest 16 = .ok (.ifCond .lt 8, 3) := by decide +kernel
theorem dX4_newest_19 : decode cX4_newest 19 = .ok (.iload_n 2, 1) := by decide +kernel
theorem dX4_newest_20 : decode cX4_newest 20 = .ok (.iconst 2, 1) := by decide +kernel
theorem dX4_newest_21 : decode cX4_newest 21 = .ok (.if_icmp .le 7, 3) := by decide +kernel
theorem dX4_newest_24 : decode cX4_newest 24 = .ok (.sipush (-1002), 3) := by decide +kernel
theorem dX4_newest_27 : decode cX4_newest 27 = .ok (.ireturn, 1) := by decide +kernel
theorem dX4_newest_28 : decode cX4_newest 28 = .ok (.aload_n 0, 1) := by decide +kernel
theorem dX4_newest_29 : decode cX4_newest 29 = .ok (.getfield 19, 3) := by decide +kernel
theorem dX4_newest_32 : decode cX4_newest 32 = .ok (.iload_n 1, 1) := by decide +kernel
theorem dX4_newest_33 : decode cX4_newest 33 = .ok (.iload_n 2, 1) := by decide +kernel
theorem dX4_newest_34 : decode cX4_newest 34 = .ok (.invokevirtual 134, 3) := by decide +kernel
theorem dX4_newest_37 : decode cX4_newest 37 = .ok (.ireturn, 1) := by decide +kernel
theorem dX4_alike_0 : decode cX4_alike 0 = .ok (.aload_n 0, 1) := by decide +kernel
theorem dX4_alike_1 : decode cX4_alike 1 = .ok (.getfield 19, 3) := by decide +kernel
theorem dX4_alike_4 : decode cX4_alike 4 = .ok (.iload_n 1, 1) := by decide +kernel
theorem dX4_alike_5 : decode cX4_alike 5 = .ok (.invokevirtual 69, 3) := by decide +kernel
theorem dX4_alike_8 : decode cX4_alike 8 = .ok (.ifCond .eq 14, 3) := by decide +kernel
theorem dX4_alike_11 : decode cX4_alike 11 = .ok (.aload_n 0, 1) := by decide +kernel
theorem dX4_alike_12 : decode cX4_alike 12 = .ok (.getfield 19, 3) := by decide +kernel
theorem dX4_alike_15 : decode cX4_alike 15 = .ok (.iload_n 2, 1) := by decide +kernel
theorem dX4_alike_16 : decode cX4_alike 16 = .ok (.invokevirtual 69, 3) := by decide +kernel
theorem dX4_alike_19 : decode cX4_alike 19 = .ok (.ifCond .ne 7, 3) := by decide +kernel
theorem dX4_alike_22 : decode cX4_alike 22 = .ok (.sipush (-1001), 3) := by decide +kernel
theorem dX4_alike_25 : decode cX4_alike 25 = .ok (.ireturn, 1) := by decide +kernel
theorem dX4_alike_26 : decode cX4_alike 26 = .ok (.aload_n 0, 1) := by decide +kernel
theorem dX4_alike_27 : decode cX4_alike 27 = .ok (.getfield 19, 3) := by decide +kernel
theorem dX4_alike_30 : decode cX4_alike 30 = .ok (.iload_n 1, 1) := by decide +kernel
theorem dX4_alike_31 : decode cX4_alike 31 = .ok (.iload_n 2, 1) := by decide +kernel
theorem dX4_alike_32 : decode cX4_alike 32 = .ok (.invokevirtual 137, 3) := by decide +kernel
theorem dX4_alike_35 : decode cX4_alike 35 = .ok (.ifCond .eq 7, 3) := by decide +kernel
theorem dX4_alike_38 : decode cX4_alike 38 = .ok (.iconst 1, 1) := by decide +kernel
theorem dX4_alike_39 : decode cX4_alike 39 = .ok (.goto 4, 3) := by decide +kernel
theorem dX4_alike_42 : decode cX4_alike 42 = .ok (.iconst 0, 1) := by decide +kernel
theorem dX4_alike_43 : decode cX4_alike 43 = .ok (.ireturn, 1) := by decide +kernel
theorem dX4_risen_0 : decode cX4_risen 0 = .ok (.iload_n 1, 1) := by decide +kernel
theorem dX4_risen_1 : decode cX4_risen 1 = .ok (.invokestatic 73, 3) := by decide +kernel
theorem dX4_risen_4 : decode cX4_risen 4 = .ok (.ifCond .ne 7, 3) := by decide +kernel
theorem dX4_risen_7 : decode cX4_risen 7 = .ok (.sipush (-1001), 3) := by decide +kernel
theorem dX4_risen_10 : decode cX4_risen 10 = .ok (.ireturn, 1) := by decide +kernel
theorem dX4_risen_11 : decode cX4_risen 11 = .ok (.aload_n 0, 1) := by decide +kernel
theorem dX4_risen_12 : decode cX4_risen 12 = .ok (.getfield 19, 3) := by decide +kernel
theorem dX4_risen_15 : decode cX4_risen 15 = .ok (.iload_n 1, 1) := by decide +kernel
theorem dX4_risen_16 : decode cX4_risen 16 = .ok (.invokevirtual 141, 3) := by decide +kernel
theorem dX4_risen_19 : decode cX4_risen 19 = .ok (.ireturn, 1) := by decide +kernel
theorem dX4_partner_0 : decode cX4_partner 0 = .ok (.aload_n 0, 1) := by decide +kernel
theorem dX4_partner_1 : decode cX4_partner 1 = .ok (.getfield 19, 3) := by decide +kernel
theorem dX4_partner_4 : decode cX4_partner 4 = .ok (.iload_n 1, 1) := by decide +kernel
theorem dX4_partner_5 : decode cX4_partner 5 = .ok (.invokevirtual 69, 3) := by decide +kernel
theorem dX4_partner_8 : decode cX4_partner 8 = .ok (.ifCond .ne 7, 3) := by decide +kernel
theorem dX4_partner_11 : decode cX4_partner 11 = .ok (.sipush (-1001), 3) := by decide +kernel
theorem dX4_partner_14 : decode cX4_partner 14 = .ok (.ireturn, 1) := by decide +kernel
theorem dX4_partner_15 : decode cX4_partner 15 = .ok (.iload_n 2, 1) := by decide +kernel
theorem dX4_partner_16 : decode cX4_partner 16 = .ok (.ifCond .lt 12, 3) := by decide +kernel
theorem dX4_partner_19 : decode cX4_partner 19 = .ok (.iload_n 3, 1) := by decide +kernel
theorem dX4_partner_20 : decode cX4_partner 20 = .ok (.ifCond .lt 8, 3) := by decide +kernel
theorem dX4_partner_23 : decode cX4_partner 23 = .ok (.iload_n 3, 1) := by decide +kernel
theorem dX4_partner_24 : decode cX4_partner 24 = .ok (.iconst 1, 1) := by decide +kernel
theorem dX4_partner_25 : decode cX4_partner 25 = .ok (.if_icmp .le 7, 3) := by decide +kernel
theorem dX4_partner_28 : decode cX4_partner 28 = .ok (.sipush (-1002), 3) := by decide +kernel
theorem dX4_partner_31 : decode cX4_partner 31 = .ok (.ireturn, 1) := by decide +kernel
theorem dX4_partner_32 : decode cX4_partner 32 = .ok (.aload_n 0, 1) := by decide +kernel
theorem dX4_partner_33 : decode cX4_partner 33 = .ok (.getfield 19, 3) := by decide +kernel
theorem dX4_partner_36 : decode cX4_partner 36 = .ok (.iload_n 1, 1) := by decide +kernel
theorem dX4_partner_37 : decode cX4_partner 37 = .ok (.invokevirtual 144, 3) := by decide +kernel
theorem dX4_partner_40 : decode cX4_partner 40 = .ok (.ifCond .ne 7, 3) := by decide +kernel
theorem dX4_partner_43 : decode cX4_partner 43 = .ok (.iload_n 2, 1) := by decide +kernel
theorem dX4_partner_44 : decode cX4_partner 44 = .ok (.goto 7, 3) := by decide +kernel
theorem dX4_partner_47 : decode cX4_partner 47 = .ok (.iload_n 2, 1) := by decide +kernel
theorem dX4_partner_48 : decode cX4_partner 48 = .ok (.invokestatic 147, 3) := by decide +kernel
theorem dX4_partner_51 : decode cX4_partner 51 = .ok (.istore 4, 2) := by decide +kernel
theorem dX4_partner_53 : decode cX4_partner 53 = .ok (.iload_n 3, 1) := by decide +kernel
theorem dX4_partner_54 : decode cX4_partner 54 = .ok (.ifCond .ne 16, 3) := by decide +kernel
theorem dX4_partner_57 : decode cX4_partner 57 = .ok (.aload_n 0, 1) := by decide +kernel
theorem dX4_partner_58 : decode cX4_partner 58 = .ok (.getfield 19, 3) := by decide +kernel
theorem dX4_partner_61 : decode cX4_partner 61 = .ok (.iload_n 1, 1) := by decide +kernel
theorem dX4_partner_62 : decode cX4_partner 62 = .ok (.iload 4, 2) := by decide +kernel
theorem dX4_partner_64 : decode cX4_partner 64 = .ok (.invokevirtual 150, 3) := by decide +kernel
theorem dX4_partner_67 : decode cX4_partner 67 = .ok (.goto 5, 3) := by decide +kernel
theorem dX4_partner_70 : decode cX4_partner 70 = .ok (.iload 4, 2) := by decide +kernel
theorem dX4_partner_72 : decode cX4_partner 72 = .ok (.ireturn, 1) := by decide +kernel
theorem dX4_settle_0 : decode cX4_settle 0 = .ok (.iload_n 1, 1) := by decide +kernel
theorem dX4_settle_1 : decode cX4_settle 1 = .ok (.ifCond .lt 12, 3) := by decide +kernel
theorem dX4_settle_4 : decode cX4_settle 4 = .ok (.iload_n 3, 1) := by decide +kernel
theorem dX4_settle_5 : decode cX4_settle 5 = .ok (.ifCond .lt 8, 3) := by decide +kernel
theorem dX4_settle_8 : decode cX4_settle 8 = .ok (.iload_n 3, 1) := by decide +kernel
theorem dX4_settle_9 : decode cX4_settle 9 = .ok (.iconst 2, 1) := by decide +kernel
theorem dX4_settle_10 : decode cX4_settle 10 = .ok (.if_icmp .le 7, 3) := by decide +kernel
theorem dX4_settle_13 : decode cX4_settle 13 = .ok (.sipush (-1002), 3) := by decide +kernel
theorem dX4_settle_16 : decode cX4_settle 16 = .ok (.ireturn, 1) := by decide +kernel
theorem dX4_settle_17 : decode cX4_settle 17 = .ok (.aload_n 0, 1) := by decide +kernel
theorem dX4_settle_18 : decode cX4_settle 18 = .ok (.getfield 19, 3) := by decide +kernel
theorem dX4_settle_21 : decode cX4_settle 21 = .ok (.getfield 53, 3) := by decide +kernel
theorem dX4_settle_24 : decode cX4_settle 24 = .ok (.ifCond .ne 7, 3) := by decide +kernel
theorem dX4_settle_27 : decode cX4_settle 27 = .ok (.sipush (-1003), 3) := by decide +kernel
theorem dX4_settle_30 : decode cX4_settle 30 = .ok (.ireturn, 1) := by decide +kernel
theorem dX4_settle_31 : decode cX4_settle 31 = .ok (.aload_n 0, 1) := by decide +kernel
theorem dX4_settle_32 : decode cX4_settle 32 = .ok (.getfield 26, 3) := by decide +kernel
theorem dX4_settle_35 : decode cX4_settle 35 = .ok (.aload_n 0, 1) := by decide +kernel
theorem dX4_settle_36 : decode cX4_settle 36 = .ok (.getfield 19, 3) := by decide +kernel
theorem dX4_settle_39 : decode cX4_settle 39 = .ok (.iload_n 1, 1) := by decide +kernel
theorem dX4_settle_40 : decode cX4_settle 40 = .ok (.iload_n 2, 1) := by decide +kernel
theorem dX4_settle_41 : decode cX4_settle 41 = .ok (.invokevirtual 153, 3) := by decide +kernel
theorem dX4_settle_44 : decode cX4_settle 44 = .ok (.aload_n 0, 1) := by decide +kernel
theorem dX4_settle_45 : decode cX4_settle 45 = .ok (.getfield 26, 3) := by decide +kernel
theorem dX4_settle_48 : decode cX4_settle 48 = .ok (.iload_n 3, 1) := by decide +kernel
theorem dX4_settle_49 : decode cX4_settle 49 = .ok (.invokevirtual 157, 3) := by decide +kernel
theorem dX4_settle_52 : decode cX4_settle 52 = .ok (.ireturn, 1) := by decide +kernel
theorem dX4_count_0 : decode cX4_count 0 = .ok (.iload_n 1, 1) := by decide +kernel
theorem dX4_count_1 : decode cX4_count 1 = .ok (.tableswitch 164 0 11 #[63, 71, 79, 87, 95, 103, 111, 119, 129, 139, 149, 159], 63) := by decide +kernel
theorem dX4_count_64 : decode cX4_count 64 = .ok (.aload_n 0, 1) := by decide +kernel
theorem dX4_count_65 : decode cX4_count 65 = .ok (.getfield 10, 3) := by decide +kernel
theorem dX4_count_68 : decode cX4_count 68 = .ok (.getfield 30, 3) := by decide +kernel
theorem dX4_count_71 : decode cX4_count 71 = .ok (.ireturn, 1) := by decide +kernel
theorem dX4_count_72 : decode cX4_count 72 = .ok (.aload_n 0, 1) := by decide +kernel
theorem dX4_count_73 : decode cX4_count 73 = .ok (.getfield 19, 3) := by decide +kernel
theorem dX4_count_76 : decode cX4_count 76 = .ok (.getfield 53, 3) := by decide +kernel
theorem dX4_count_79 : decode cX4_count 79 = .ok (.ireturn, 1) := by decide +kernel
theorem dX4_count_80 : decode cX4_count 80 = .ok (.aload_n 0, 1) := by decide +kernel
theorem dX4_count_81 : decode cX4_count 81 = .ok (.getfield 19, 3) := by decide +kernel
theorem dX4_count_84 : decode cX4_count 84 = .ok (.getfield 79, 3) := by decide +kernel
theorem dX4_count_87 : decode cX4_count 87 = .ok (.ireturn, 1) := by decide +kernel
theorem dX4_count_88 : decode cX4_count 88 = .ok (.aload_n 0, 1) := by decide +kernel
theorem dX4_count_89 : decode cX4_count 89 = .ok (.getfield 19, 3) := by decide +kernel
theorem dX4_count_92 : decode cX4_count 92 = .ok (.getfield 102, 3) := by decide +kernel
theorem dX4_count_95 : decode cX4_count 95 = .ok (.ireturn, 1) := by decide +kernel
theorem dX4_count_96 : decode cX4_count 96 = .ok (.aload_n 0, 1) := by decide +kernel
theorem dX4_count_97 : decode cX4_count 97 = .ok (.getfield 19, 3) := by decide +kernel
theorem dX4_count_100 : decode cX4_count 100 = .ok (.getfield 160, 3) := by decide +kernel
theorem dX4_count_103 : decode cX4_count 103 = .ok (.ireturn, 1) := by decide +kernel
theorem dX4_count_104 : decode cX4_count 104 = .ok (.aload_n 0, 1) := by decide +kernel
theorem dX4_count_105 : decode cX4_count 105 = .ok (.getfield 19, 3) := by decide +kernel
theorem dX4_count_108 : decode cX4_count 108 = .ok (.getfield 163, 3) := by decide +kernel
theorem dX4_count_111 : decode cX4_count 111 = .ok (.ireturn, 1) := by decide +kernel
theorem dX4_count_112 : decode cX4_count 112 = .ok (.aload_n 0, 1) := by decide +kernel
theorem dX4_count_113 : decode cX4_count 113 = .ok (.getfield 19, 3) := by decide +kernel
theorem dX4_count_116 : decode cX4_count 116 = .ok (.getfield 166, 3) := by decide +kernel
theorem dX4_count_119 : decode cX4_count 119 = .ok (.ireturn, 1) := by decide +kernel
theorem dX4_count_120 : decode cX4_count 120 = .ok (.aload_n 0, 1) := by decide +kernel
theorem dX4_count_121 : decode cX4_count 121 = .ok (.getfield 19, 3) := by decide +kernel
theorem dX4_count_124 : decode cX4_count 124 = .ok (.getfield 63, 3) := by decide +kernel
theorem dX4_count_127 : decode cX4_count 127 = .ok (.iconst 0, 1) := by decide +kernel
theorem dX4_count_128 : decode cX4_count 128 = .ok (.iaload, 1) := by decide +kernel
theorem dX4_count_129 : decode cX4_count 129 = .ok (.ireturn, 1) := by decide +kernel
theorem dX4_count_130 : decode cX4_count 130 = .ok (.aload_n 0, 1) := by decide +kernel
theorem dX4_count_131 : decode cX4_count 131 = .ok (.getfield 19, 3) := by decide +kernel
theorem dX4_count_134 : decode cX4_count 134 = .ok (.getfield 63, 3) := by decide +kernel
theorem dX4_count_137 : decode cX4_count 137 = .ok (.iconst 1, 1) := by decide +kernel
theorem dX4_count_138 : decode cX4_count 138 = .ok (.iaload, 1) := by decide +kernel
theorem dX4_count_139 : decode cX4_count 139 = .ok (.ireturn, 1) := by decide +kernel
theorem dX4_count_140 : decode cX4_count 140 = .ok (.aload_n 0, 1) := by decide +kernel
theorem dX4_count_141 : decode cX4_count 141 = .ok (.getfield 19, 3) := by decide +kernel
theorem dX4_count_144 : decode cX4_count 144 = .ok (.getfield 63, 3) := by decide +kernel
theorem dX4_count_147 : decode cX4_count 147 = .ok (.iconst 2, 1) := by decide +kernel
theorem dX4_count_148 : decode cX4_count 148 = .ok (.iaload, 1) := by decide +kernel
theorem dX4_count_149 : decode cX4_count 149 = .ok (.ireturn, 1) := by decide +kernel
theorem dX4_count_150 : decode cX4_count 150 = .ok (.aload_n 0, 1) := by decide +kernel
theorem dX4_count_151 : decode cX4_count 151 = .ok (.getfield 19, 3) := by decide +kernel
theorem dX4_count_154 : decode cX4_count 154 = .ok (.getfield 63, 3) := by decide +kernel
theorem dX4_count_157 : decode cX4_count 157 = .ok (.iconst 3, 1) := by decide +kernel
theorem dX4_count_158 : decode cX4_count 158 = .ok (.iaload, 1) := by decide +kernel
theorem dX4_count_159 : decode cX4_count 159 = .ok (.ireturn, 1) := by decide +kernel
theorem dX4_count_160 : decode cX4_count 160 = .ok (.aload_n 0, 1) := by decide +kernel
theorem dX4_count_161 : decode cX4_count 161 = .ok (.getfield 50, 3) := by decide +kernel
theorem dX4_count_164 : decode cX4_count 164 = .ok (.ireturn, 1) := by decide +kernel
theorem dX4_count_165 : decode cX4_count 165 = .ok (.sipush (-1002), 3) := by decide +kernel
theorem dX4_count_168 : decode cX4_count 168 = .ok (.ireturn, 1) := by decide +kernel
theorem dX4_digest_0 : decode cX4_digest 0 = .ok (.ldc2_w 169, 3) := by decide +kernel
theorem dX4_digest_3 : decode cX4_digest 3 = .ok (.lstore_n 1, 1) := by decide +kernel
theorem dX4_digest_4 : decode cX4_digest 4 = .ok (.iconst 0, 1) := by decide +kernel
theorem dX4_digest_5 : decode cX4_digest 5 = .ok (.istore_n 3, 1) := by decide +kernel
theorem dX4_digest_6 : decode cX4_digest 6 = .ok (.iload_n 3, 1) := by decide +kernel
theorem dX4_digest_7 : decode cX4_digest 7 = .ok (.aload_n 0, 1) := by decide +kernel
theorem dX4_digest_8 : decode cX4_digest 8 = .ok (.getfield 19, 3) := by decide +kernel
theorem dX4_digest_11 : decode cX4_digest 11 = .ok (.getfield 53, 3) := by decide +kernel
theorem dX4_digest_14 : decode cX4_digest 14 = .ok (.if_icmp .ge 16, 3) := by decide +kernel
theorem dX4_digest_17 : decode cX4_digest 17 = .ok (.aload_n 0, 1) := by decide +kernel
theorem dX4_digest_18 : decode cX4_digest 18 = .ok (.lload_n 1, 1) := by decide +kernel
theorem dX4_digest_19 : decode cX4_digest 19 = .ok (.iload_n 3, 1) := by decide +kernel
theorem dX4_digest_20 : decode cX4_digest 20 = .ok (.invokevirtual 171, 3) := by decide +kernel
theorem dX4_digest_23 : decode cX4_digest 23 = .ok (.lstore_n 1, 1) := by decide +kernel
theorem dX4_digest_24 : decode cX4_digest 24 = .ok (.iinc 3 1, 3) := by decide +kernel
theorem dX4_digest_27 : decode cX4_digest 27 = .ok (.goto (-21), 3) := by decide +kernel
theorem dX4_digest_30 : decode cX4_digest 30 = .ok (.iconst 0, 1) := by decide +kernel
theorem dX4_digest_31 : decode cX4_digest 31 = .ok (.istore_n 3, 1) := by decide +kernel
theorem dX4_digest_32 : decode cX4_digest 32 = .ok (.iload_n 3, 1) := by decide +kernel
theorem dX4_digest_33 : decode cX4_digest 33 = .ok (.iconst 4, 1) := by decide +kernel
theorem dX4_digest_34 : decode cX4_digest 34 = .ok (.if_icmp .ge 19, 3) := by decide +kernel
theorem dX4_digest_37 : decode cX4_digest 37 = .ok (.lload_n 1, 1) := by decide +kernel
theorem dX4_digest_38 : decode cX4_digest 38 = .ok (.aload_n 0, 1) := by decide +kernel
theorem dX4_digest_39 : decode cX4_digest 39 = .ok (.iload_n 3, 1) := by decide +kernel
theorem dX4_digest_40 : decode cX4_digest 40 = .ok (.invokevirtual 175, 3) := by decide +kernel
theorem dX4_digest_43 : decode cX4_digest 43 = .ok (.invokestatic 178, 3) := by decide +kernel
theorem dX4_digest_46 : decode cX4_digest 46 = .ok (.lstore_n 1, 1) := by decide +kernel
theorem dX4_digest_47 : decode cX4_digest 47 = .ok (.iinc 3 1, 3) := by decide +kernel
theorem dX4_digest_50 : decode cX4_digest 50 = .ok (.goto (-18), 3) := by decide +kernel
theorem dX4_digest_53 : decode cX4_digest 53 = .ok (.iconst 0, 1) := by decide +kernel
theorem dX4_digest_54 : decode cX4_digest 54 = .ok (.istore_n 3, 1) := by decide +kernel
theorem dX4_digest_55 : decode cX4_digest 55 = .ok (.iload_n 3, 1) := by decide +kernel
theorem dX4_digest_56 : decode cX4_digest 56 = .ok (.iconst 2, 1) := by decide +kernel
theorem dX4_digest_57 : decode cX4_digest 57 = .ok (.if_icmp .ge 71, 3) := by decide +kernel
theorem dX4_digest_60 : decode cX4_digest 60 = .ok (.aload_n 0, 1) := by decide +kernel
theorem dX4_digest_61 : decode cX4_digest 61 = .ok (.getfield 19, 3) := by decide +kernel
theorem dX4_digest_64 : decode cX4_digest 64 = .ok (.getfield 53, 3) := by decide +kernel
theorem dX4_digest_67 : decode cX4_digest 67 = .ok (.ifCond .le 61, 3) := by decide +kernel
theorem dX4_digest_70 : decode cX4_digest 70 = .ok (.aload_n 0, 1) := by decide +kernel
theorem dX4_digest_71 : decode cX4_digest 71 = .ok (.getfield 26, 3) := by decide +kernel
theorem dX4_digest_74 : decode cX4_digest 74 = .ok (.aload_n 0, 1) := by decide +kernel
theorem dX4_digest_75 : decode cX4_digest 75 = .ok (.getfield 19, 3) := by decide +kernel
theorem dX4_digest_78 : decode cX4_digest 78 = .ok (.bipush 7, 2) := by decide +kernel
theorem dX4_digest_80 : decode cX4_digest 80 = .ok (.iload_n 3, 1) := by decide +kernel
theorem dX4_digest_81 : decode cX4_digest 81 = .ok (.iconst 1, 1) := by decide +kernel
theorem dX4_digest_82 : decode cX4_digest 82 = .ok (.if_icmp .ne 7, 3) := by decide +kernel
theorem dX4_digest_85 : decode cX4_digest 85 = .ok (.iconst 1, 1) := by decide +kernel
theorem dX4_digest_86 : decode cX4_digest 86 = .ok (.goto 4, 3) := by decide +kernel
theorem dX4_digest_89 : decode cX4_digest 89 = .ok (.iconst 0, 1) := by decide +kernel
theorem dX4_digest_90 : decode cX4_digest 90 = .ok (.invokevirtual 153, 3) := by decide +kernel
theorem dX4_digest_93 : decode cX4_digest 93 = .ok (.iconst 0, 1) := by decide +kernel
theorem dX4_digest_94 : decode cX4_digest 94 = .ok (.istore 4, 2) := by decide +kernel
theorem dX4_digest_96 : decode cX4_digest 96 = .ok (.iload 4, 2) := by decide +kernel
theorem dX4_digest_98 : decode cX4_digest 98 = .ok (.iconst 2, 1) := by decide +kernel
theorem dX4_digest_99 : decode cX4_digest 99 = .ok (.if_icmp .gt 23, 3) := by decide +kernel
theorem dX4_digest_102 : decode cX4_digest 102 = .ok (.lload_n 1, 1) := by decide +kernel
theorem dX4_digest_103 : decode cX4_digest 103 = .ok (.aload_n 0, 1) := by decide +kernel
theorem dX4_digest_104 : decode cX4_digest 104 = .ok (.getfield 26, 3) := by decide +kernel
theorem dX4_digest_107 : decode cX4_digest 107 = .ok (.iload 4, 2) := by decide +kernel
theorem dX4_digest_109 : decode cX4_digest 109 = .ok (.invokevirtual 157, 3) := by decide +kernel
theorem dX4_digest_112 : decode cX4_digest 112 = .ok (.invokestatic 178, 3) := by decide +kernel
theorem dX4_digest_115 : decode cX4_digest 115 = .ok (.lstore_n 1, 1) := by decide +kernel
theorem dX4_digest_116 : decode cX4_digest 116 = .ok (.iinc 4 1, 3) := by decide +kernel
theorem dX4_digest_119 : decode cX4_digest 119 = .ok (.goto (-23), 3) := by decide +kernel
theorem dX4_digest_122 : decode cX4_digest 122 = .ok (.iinc 3 1, 3) := by decide +kernel
theorem dX4_digest_125 : decode cX4_digest 125 = .ok (.goto (-70), 3) := by decide +kernel
theorem dX4_digest_128 : decode cX4_digest 128 = .ok (.iconst 0, 1) := by decide +kernel
theorem dX4_digest_129 : decode cX4_digest 129 = .ok (.istore_n 3, 1) := by decide +kernel
theorem dX4_digest_130 : decode cX4_digest 130 = .ok (.iload_n 3, 1) := by decide +kernel
theorem dX4_digest_131 : decode cX4_digest 131 = .ok (.aload_n 0, 1) := by decide +kernel
theorem dX4_digest_132 : decode cX4_digest 132 = .ok (.getfield 10, 3) := by decide +kernel
theorem dX4_digest_135 : decode cX4_digest 135 = .ok (.getfield 30, 3) := by decide +kernel
theorem dX4_digest_138 : decode cX4_digest 138 = .ok (.if_icmp .ge 23, 3) := by decide +kernel
theorem dX4_digest_141 : decode cX4_digest 141 = .ok (.lload_n 1, 1) := by decide +kernel
theorem dX4_digest_142 : decode cX4_digest 142 = .ok (.aload_n 0, 1) := by decide +kernel
theorem dX4_digest_143 : decode cX4_digest 143 = .ok (.getfield 10, 3) := by decide +kernel
theorem dX4_digest_146 : decode cX4_digest 146 = .ok (.getfield 181, 3) := by decide +kernel
theorem dX4_digest_149 : decode cX4_digest 149 = .ok (.iload_n 3, 1) := by decide +kernel
theorem dX4_digest_150 : decode cX4_digest 150 = .ok (.iaload, 1) := by decide +kernel
theorem dX4_digest_151 : decode cX4_digest 151 = .ok (.invokestatic 178, 3) := by decide +kernel
theorem dX4_digest_154 : decode cX4_digest 154 = .ok (.lstore_n 1, 1) := by decide +kernel
theorem dX4_digest_155 : decode cX4_digest 155 = .ok (.iinc 3 1, 3) := by decide +kernel
theorem dX4_digest_158 : decode cX4_digest 158 = .ok (.goto (-28), 3) := by decide +kernel
theorem dX4_digest_161 : decode cX4_digest 161 = .ok (.iconst 0, 1) := by decide +kernel
theorem dX4_digest_162 : decode cX4_digest 162 = .ok (.istore_n 3, 1) := by decide +kernel
theorem dX4_digest_163 : decode cX4_digest 163 = .ok (.iload_n 3, 1) := by decide +kernel
theorem dX4_digest_164 : decode cX4_digest 164 = .ok (.bipush 12, 2) := by decide +kernel
theorem dX4_digest_166 : decode cX4_digest 166 = .ok (.if_icmp .ge 19, 3) := by decide +kernel
theorem dX4_digest_169 : decode cX4_digest 169 = .ok (.lload_n 1, 1) := by decide +kernel
theorem dX4_digest_170 : decode cX4_digest 170 = .ok (.aload_n 0, 1) := by decide +kernel
theorem dX4_digest_171 : decode cX4_digest 171 = .ok (.iload_n 3, 1) := by decide +kernel
theorem dX4_digest_172 : decode cX4_digest 172 = .ok (.invokevirtual 184, 3) := by decide +kernel
theorem dX4_digest_175 : decode cX4_digest 175 = .ok (.invokestatic 178, 3) := by decide +kernel
theorem dX4_digest_178 : decode cX4_digest 178 = .ok (.lstore_n 1, 1) := by decide +kernel
theorem dX4_digest_179 : decode cX4_digest 179 = .ok (.iinc 3 1, 3) := by decide +kernel
theorem dX4_digest_182 : decode cX4_digest 182 = .ok (.goto (-19), 3) := by decide +kernel
theorem dX4_digest_185 : decode cX4_digest 185 = .ok (.lload_n 1, 1) := by decide +kernel
theorem dX4_digest_186 : decode cX4_digest 186 = .ok (.lreturn, 1) := by decide +kernel
theorem dX4_mixSite_0 : decode cX4_mixSite 0 = .ok (.lload_n 1, 1) := by decide +kernel
theorem dX4_mixSite_1 : decode cX4_mixSite 1 = .ok (.lstore 4, 2) := by decide +kernel
theorem dX4_mixSite_3 : decode cX4_mixSite 3 = .ok (.iconst 0, 1) := by decide +kernel
theorem dX4_mixSite_4 : decode cX4_mixSite 4 = .ok (.istore 6, 2) := by decide +kernel
theorem dX4_mixSite_6 : decode cX4_mixSite 6 = .ok (.iload 6, 2) := by decide +kernel
theorem dX4_mixSite_8 : decode cX4_mixSite 8 = .ok (.iconst 4, 1) := by decide +kernel
theorem dX4_mixSite_9 : decode cX4_mixSite 9 = .ok (.if_icmp .ge 41, 3) := by decide +kernel
theorem dX4_mixSite_12 : decode cX4_mixSite 12 = .ok (.iconst 0, 1) := by decide +kernel
theorem dX4_mixSite_13 : decode cX4_mixSite 13 = .ok (.istore 7, 2) := by decide +kernel
theorem dX4_mixSite_15 : decode cX4_mixSite 15 = .ok (.iload 7, 2) := by decide +kernel
theorem dX4_mixSite_17 : decode cX4_mixSite 17 = .ok (.bipush 6, 2) := by decide +kernel
theorem dX4_mixSite_19 : decode cX4_mixSite 19 = .ok (.if_icmp .gt 25, 3) := by decide +kernel
theorem dX4_mixSite_22 : decode cX4_mixSite 22 = .ok (.lload 4, 2) := by decide +kernel
theorem dX4_mixSite_24 : decode cX4_mixSite 24 = .ok (.aload_n 0, 1) := by decide +kernel
theorem dX4_mixSite_25 : decode cX4_mixSite 25 = .ok (.iload_n 3, 1) := by decide +kernel
theorem dX4_mixSite_26 : decode cX4_mixSite 26 = .ok (.iload 6, 2) := by decide +kernel
theorem dX4_mixSite_28 : decode cX4_mixSite 28 = .ok (.iload 7, 2) := by decide +kernel
theorem dX4_mixSite_30 : decode cX4_mixSite 30 = .ok (.invokevirtual 187, 3) := by decide +kernel
theorem dX4_mixSite_33 : decode cX4_mixSite 33 = .ok (.invokestatic 178, 3) := by decide +kernel
theorem dX4_mixSite_36 : decode cX4_mixSite 36 = .ok (.lstore 4, 2) := by decide +kernel
theorem dX4_mixSite_38 : decode cX4_mixSite 38 = .ok (.iinc 7 1, 3) := by decide +kernel
theorem dX4_mixSite_41 : decode cX4_mixSite 41 = .ok (.goto (-26), 3) := by decide +kernel
theorem dX4_mixSite_44 : decode cX4_mixSite 44 = .ok (.iinc 6 1, 3) := by decide +kernel
theorem dX4_mixSite_47 : decode cX4_mixSite 47 = .ok (.goto (-41), 3) := by decide +kernel
theorem dX4_mixSite_50 : decode cX4_mixSite 50 = .ok (.iconst 0, 1) := by decide +kernel
theorem dX4_mixSite_51 : decode cX4_mixSite 51 = .ok (.istore 6, 2) := by decide +kernel
theorem dX4_mixSite_53 : decode cX4_mixSite 53 = .ok (.iload 6, 2) := by decide +kernel
theorem dX4_mixSite_55 : decode cX4_mixSite 55 = .ok (.iconst 2, 1) := by decide +kernel
theorem dX4_mixSite_56 : decode cX4_mixSite 56 = .ok (.if_icmp .gt 23, 3) := by decide +kernel
theorem dX4_mixSite_59 : decode cX4_mixSite 59 = .ok (.lload 4, 2) := by decide +kernel
theorem dX4_mixSite_61 : decode cX4_mixSite 61 = .ok (.aload_n 0, 1) := by decide +kernel
theorem dX4_mixSite_62 : decode cX4_mixSite 62 = .ok (.iload_n 3, 1) := by decide +kernel
theorem dX4_mixSite_63 : decode cX4_mixSite 63 = .ok (.iload 6, 2) := by decide +kernel
theorem dX4_mixSite_65 : decode cX4_mixSite 65 = .ok (.invokevirtual 190, 3) := by decide +kernel
theorem dX4_mixSite_68 : decode cX4_mixSite 68 = .ok (.invokestatic 178, 3) := by decide +kernel
theorem dX4_mixSite_71 : decode cX4_mixSite 71 = .ok (.lstore 4, 2) := by decide +kernel
theorem dX4_mixSite_73 : decode cX4_mixSite 73 = .ok (.iinc 6 1, 3) := by decide +kernel
theorem dX4_mixSite_76 : decode cX4_mixSite 76 = .ok (.goto (-23), 3) := by decide +kernel
theorem dX4_mixSite_79 : decode cX4_mixSite 79 = .ok (.iconst 0, 1) := by decide +kernel
theorem dX4_mixSite_80 : decode cX4_mixSite 80 = .ok (.istore 6, 2) := by decide +kernel
theorem dX4_mixSite_82 : decode cX4_mixSite 82 = .ok (.iload 6, 2) := by decide +kernel
theorem dX4_mixSite_84 : decode cX4_mixSite 84 = .ok (.aload_n 0, 1) := by decide +kernel
theorem dX4_mixSite_85 : decode cX4_mixSite 85 = .ok (.getfield 19, 3) := by decide +kernel
theorem dX4_mixSite_88 : decode cX4_mixSite 88 = .ok (.getfield 53, 3) := by decide +kernel
theorem dX4_mixSite_91 : decode cX4_mixSite 91 = .ok (.if_icmp .ge 23, 3) := by decide +kernel
theorem dX4_mixSite_94 : decode cX4_mixSite 94 = .ok (.lload 4, 2) := by decide +kernel
theorem dX4_mixSite_96 : decode cX4_mixSite 96 = .ok (.aload_n 0, 1) := by decide +kernel
theorem dX4_mixSite_97 : decode cX4_mixSite 97 = .ok (.iload_n 3, 1) := by decide +kernel
theorem dX4_mixSite_98 : decode cX4_mixSite 98 = .ok (.iload 6, 2) := by decide +kernel
theorem dX4_mixSite_100 : decode cX4_mixSite 100 = .ok (.invokevirtual 193, 3) := by decide +kernel
theorem dX4_mixSite_103 : decode cX4_mixSite 103 = .ok (.invokestatic 178, 3) := by decide +kernel
theorem dX4_mixSite_106 : decode cX4_mixSite 106 = .ok (.lstore 4, 2) := by decide +kernel
theorem dX4_mixSite_108 : decode cX4_mixSite 108 = .ok (.iinc 6 1, 3) := by decide +kernel
theorem dX4_mixSite_111 : decode cX4_mixSite 111 = .ok (.goto (-29), 3) := by decide +kernel
theorem dX4_mixSite_114 : decode cX4_mixSite 114 = .ok (.lload 4, 2) := by decide +kernel
theorem dX4_mixSite_116 : decode cX4_mixSite 116 = .ok (.lreturn, 1) := by decide +kernel
theorem dX4_mix_0 : decode cX4_mix 0 = .ok (.ldc2_w 196, 3) := by decide +kernel
theorem dX4_mix_3 : decode cX4_mix 3 = .ok (.lload_n 0, 1) := by decide +kernel
theorem dX4_mix_4 : decode cX4_mix 4 = .ok (.lmul, 1) := by decide +kernel
theorem dX4_mix_5 : decode cX4_mix 5 = .ok (.iload_n 2, 1) := by decide +kernel
theorem dX4_mix_6 : decode cX4_mix 6 = .ok (.i2l, 1) := by decide +kernel
theorem dX4_mix_7 : decode cX4_mix 7 = .ok (.ladd, 1) := by decide +kernel
theorem dX4_mix_8 : decode cX4_mix 8 = .ok (.lreturn, 1) := by decide +kernel
theorem dX4_isKey_0 : decode cX4_isKey 0 = .ok (.iload_n 0, 1) := by decide +kernel
theorem dX4_isKey_1 : decode cX4_isKey 1 = .ok (.ifCond .lt 12, 3) := by decide +kernel
theorem dX4_isKey_4 : decode cX4_isKey 4 = .ok (.iload_n 0, 1) := by decide +kernel
theorem dX4_isKey_5 : decode cX4_isKey 5 = .ok (.iconst 4, 1) := by decide +kernel
theorem dX4_isKey_6 : decode cX4_isKey 6 = .ok (.if_icmp .ge 7, 3) := by decide +kernel
theorem dX4_isKey_9 : decode cX4_isKey 9 = .ok (.iconst 1, 1) := by decide +kernel
theorem dX4_isKey_10 : decode cX4_isKey 10 = .ok (.goto 4, 3) := by decide +kernel
theorem dX4_isKey_13 : decode cX4_isKey 13 = .ok (.iconst 0, 1) := by decide +kernel
theorem dX4_isKey_14 : decode cX4_isKey 14 = .ok (.ireturn, 1) := by decide +kernel
theorem dX4_nextSeed_0 : decode cX4_nextSeed 0 = .ok (.ldc2_w 198, 3) := by decide +kernel
theorem dX4_nextSeed_3 : decode cX4_nextSeed 3 = .ok (.iload_n 0, 1) := by decide +kernel
theorem dX4_nextSeed_4 : decode cX4_nextSeed 4 = .ok (.i2l, 1) := by decide +kernel
theorem dX4_nextSeed_5 : decode cX4_nextSeed 5 = .ok (.lmul, 1) := by decide +kernel
theorem dX4_nextSeed_6 : decode cX4_nextSeed 6 = .ok (.ldc2_w 200, 3) := by decide +kernel
theorem dX4_nextSeed_9 : decode cX4_nextSeed 9 = .ok (.ladd, 1) := by decide +kernel
theorem dX4_nextSeed_10 : decode cX4_nextSeed 10 = .ok (.ldc2_w 202, 3) := by decide +kernel
theorem dX4_nextSeed_13 : decode cX4_nextSeed 13 = .ok (.land, 1) := by decide +kernel
theorem dX4_nextSeed_14 : decode cX4_nextSeed 14 = .ok (.l2i, 1) := by decide +kernel
theorem dX4_nextSeed_15 : decode cX4_nextSeed 15 = .ok (.ireturn, 1) := by decide +kernel
