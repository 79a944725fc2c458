theorem dX5_exchangeNow_58 : decode cX5_exchangeNow 58 = .ok (.invokevirtual 143, 3) := by decide +kernel
theorem dX5_exchangeNow_61 : decode cX5_exchangeNow 61 = .ok (.istore 4, 2) := by decide +kernel
theorem dX5_exchangeNow_63 : decode cX5_exchangeNow 63 = .ok (.aload_n 0, 1) := by decide +kernel
theorem dX5_exchangeNow_64 : decode cX5_exchangeNow 64 = .ok (.iload_n 1, 1) := by decide +kernel
theorem dX5_exchangeNow_65 : decode cX5_exchangeNow 65 = .ok (.iload_n 2, 1) := by decide +kernel
theorem dX5_exchangeNow_66 : decode cX5_exchangeNow 66 = .ok (.invokevirtual 146, 3) := by decide +kernel
theorem dX5_exchangeNow_69 : decode cX5_exchangeNow 69 = .ok (.ifCond .eq 8, 3) := by decide +kernel
theorem dX5_exchangeNow_72 : decode cX5_exchangeNow 72 = .ok (.iload 4, 2) := by decide +kernel
theorem dX5_exchangeNow_74 : decode cX5_exchangeNow 74 = .ok (.goto 18, 3) := by decide +kernel
theorem dX5_exchangeNow_77 : decode cX5_exchangeNow 77 = .ok (.iload 4, 2) := by decide +kernel
theorem dX5_exchangeNow_79 : decode cX5_exchangeNow 79 = .ok (.aload_n 0, 1) := by decide +kernel
theorem dX5_exchangeNow_80 : decode cX5_exchangeNow 80 = .ok (.iload_n 1, 1) := by decide +kernel
theorem dX5_exchangeNow_81 : decode cX5_exchangeNow 81 = .ok (.iload_n 2, 1) := by decide +kernel
theorem dX5_exchangeNow_82 : decode cX5_exchangeNow 82 = .ok (.bipush 15, 2) := by decide +kernel
theorem dX5_exchangeNow_84 : decode cX5_exchangeNow 84 = .ok (.iload_n 3, 1) := by decide +kernel
theorem dX5_exchangeNow_85 : decode cX5_exchangeNow 85 = .ok (.iconst (-1), 1) := by decide +kernel
theorem dX5_exchangeNow_86 : decode cX5_exchangeNow 86 = .ok (.ixor, 1) := by decide +kernel
theorem dX5_exchangeNow_87 : decode cX5_exchangeNow 87 = .ok (.iand, 1) := by decide +kernel
theorem dX5_exchangeNow_88 : decode cX5_exchangeNow 88 = .ok (.invokevirtual 143, 3) := by decide +kernel
theorem dX5_exchangeNow_91 : decode cX5_exchangeNow 91 = .ok (.iadd, 1) := by decide +kernel
theorem dX5_exchangeNow_92 : decode cX5_exchangeNow 92 = .ok (.ireturn, 1) := by decide +kernel
theorem dX5_areTwo_0 : decode cX5_areTwo 0 = .ok (.aload_n 0, 1) := by decide +kernel
theorem dX5_areTwo_1 : decode cX5_areTwo 1 = .ok (.iload_n 1, 1) := by decide +kernel
theorem dX5_areTwo_2 : decode cX5_areTwo 2 = .ok (.invokevirtual 98, 3) := by decide +kernel
theorem dX5_areTwo_5 : decode cX5_areTwo 5 = .ok (.ifCond .eq 20, 3) := by decide +kernel
theorem dX5_areTwo_8 : decode cX5_areTwo 8 = .ok (.aload_n 0, 1) := by decide +kernel
theorem dX5_areTwo_9 : decode cX5_areTwo 9 = .ok (.iload_n 2, 1) := by decide +kernel
theorem dX5_areTwo_10 : decode cX5_areTwo 10 = .ok (.invokevirtual 98, 3) := by decide +kernel
theorem dX5_areTwo_13 : decode cX5_areTwo 13 = .ok (.ifCond .eq 12, 3) := by decide +kernel
theorem dX5_areTwo_16 : decode cX5_areTwo 16 = .ok (.iload_n 1, 1) := by decide +kernel
theorem dX5_areTwo_17 : decode cX5_areTwo 17 = .ok (.iload_n 2, 1) := by decide +kernel
theorem dX5_areTwo_18 : decode cX5_areTwo 18 = .ok (.if_icmp .eq 7, 3) := by decide +kernel
theorem dX5_areTwo_21 : decode cX5_areTwo 21 = .ok (.iconst 1, 1) := by decide +kernel
theorem dX5_areTwo_22 : decode cX5_areTwo 22 = .ok (.goto 4, 3) := by decide +kernel
theorem dX5_areTwo_25 : decode cX5_areTwo 25 = .ok (.iconst 0, 1) := by decide +kernel
theorem dX5_areTwo_26 : decode cX5_areTwo 26 = .ok (.ireturn, 1) := by decide +kernel
theorem dX5_exchange_0 : decode cX5_exchange 0 = .ok (.aload_n 0, 1) := by decide +kernel
theorem dX5_exchange_1 : decode cX5_exchange 1 = .ok (.iload_n 1, 1) := by decide +kernel
theorem dX5_exchange_2 : decode cX5_exchange 2 = .ok (.iload_n 2, 1) := by decide +kernel
theorem dX5_exchange_3 : decode cX5_exchange 3 = .ok (.invokevirtual 149, 3) := by decide +kernel
theorem dX5_exchange_6 : decode cX5_exchange 6 = .ok (.ifCond .ne 7, 3) := by decide +kernel
theorem dX5_exchange_9 : decode cX5_exchange 9 = .ok (.sipush (-1001), 3) := by decide +kernel
theorem dX5_exchange_12 : decode cX5_exchange 12 = .ok (.ireturn, 1) := by decide +kernel
theorem dX5_exchange_13 : decode cX5_exchange 13 = .ok (.aload_n 0, 1) := by decide +kernel
theorem dX5_exchange_14 : decode cX5_exchange 14 = .ok (.getfield 65, 3) := by decide +kernel
theorem dX5_exchange_17 : decode cX5_exchange 17 = .ok (.iload_n 1, 1) := by decide +kernel
theorem dX5_exchange_18 : decode cX5_exchange 18 = .ok (.invokestatic 84, 3) := by decide +kernel
theorem dX5_exchange_21 : decode cX5_exchange 21 = .ok (.ifCond .ne 14, 3) := by decide +kernel
theorem dX5_exchange_24 : decode cX5_exchange 24 = .ok (.aload_n 0, 1) := by decide +kernel
theorem dX5_exchange_25 : decode cX5_exchange 25 = .ok (.getfield 65, 3) := by decide +kernel
theorem dX5_exchange_28 : decode cX5_exchange 28 = .ok (.iload_n 2, 1) := by decide +kernel
theorem dX5_exchange_29 : decode cX5_exchange 29 = .ok (.invokestatic 84, 3) := by decide +kernel
theorem dX5_exchange_32 : decode cX5_exchange 32 = .ok (.ifCond .eq 9, 3) := by decide +kernel
theorem dX5_exchange_35 : decode cX5_exchange 35 = .ok (.sipush (-1003), 3) := by decide +kernel
theorem dX5_exchange_38 : decode cX5_exchange 38 = .ok (.goto 9, 3) := by decide +kernel
theorem dX5_exchange_41 : decode cX5_exchange 41 = .ok (.aload_n 0, 1) := by decide +kernel
theorem dX5_exchange_42 : decode cX5_exchange 42 = .ok (.iload_n 1, 1) := by decide +kernel
theorem dX5_exchange_43 : decode cX5_exchange 43 = .ok (.iload_n 2, 1) := by decide +kernel
theorem dX5_exchange_44 : decode cX5_exchange 44 = .ok (.invokevirtual 152, 3) := by decide +kernel
theorem dX5_exchange_47 : decode cX5_exchange 47 = .ok (.ireturn, 1) := by decide +kernel
theorem dX5_tell_0 : decode cX5_tell 0 = .ok (.aload_n 0, 1) := by decide +kernel
theorem dX5_tell_1 : decode cX5_tell 1 = .ok (.dup, 1) := by decide +kernel
theorem dX5_tell_2 : decode cX5_tell 2 = .ok (.getfield 68, 3) := by decide +kernel
theorem dX5_tell_5 : decode cX5_tell 5 = .ok (.iconst 1, 1) := by decide +kernel
theorem dX5_tell_6 : decode cX5_tell 6 = .ok (.iadd, 1) := by decide +kernel
theorem dX5_tell_7 : decode cX5_tell 7 = .ok (.putfield 68, 3) := by decide +kernel
theorem dX5_tell_10 : decode cX5_tell 10 = .ok (.aload_n 0, 1) := by decide +kernel
theorem dX5_tell_11 : decode cX5_tell 11 = .ok (.getfield 19, 3) := by decide +kernel
theorem dX5_tell_14 : decode cX5_tell 14 = .ok (.iload_n 2, 1) := by decide +kernel
theorem dX5_tell_15 : decode cX5_tell 15 = .ok (.iaload, 1) := by decide +kernel
theorem dX5_tell_16 : decode cX5_tell 16 = .ok (.ifCond .eq 12, 3) := by decide +kernel
theorem dX5_tell_19 : decode cX5_tell 19 = .ok (.aload_n 0, 1) := by decide +kernel
theorem dX5_tell_20 : decode cX5_tell 20 = .ok (.iload_n 1, 1) := by decide +kernel
theorem dX5_tell_21 : decode cX5_tell 21 = .ok (.iload_n 2, 1) := by decide +kernel
theorem dX5_tell_22 : decode cX5_tell 22 = .ok (.invokevirtual 117, 3) := by decide +kernel
theorem dX5_tell_25 : decode cX5_tell 25 = .ok (.ifCond .eq 17, 3) := by decide +kernel
theorem dX5_tell_28 : decode cX5_tell 28 = .ok (.aload_n 0, 1) := by decide +kernel
theorem dX5_tell_29 : decode cX5_tell 29 = .ok (.iload_n 1, 1) := by decide +kernel
theorem dX5_tell_30 : decode cX5_tell 30 = .ok (.iload_n 2, 1) := by decide +kernel
theorem dX5_tell_31 : decode cX5_tell 31 = .ok (.aload_n 0, 1) := by decide +kernel
theorem dX5_tell_32 : decode cX5_tell 32 = .ok (.getfield 16, 3) := by decide +kernel
theorem dX5_tell_35 : decode cX5_tell 35 = .ok (.iconst 2, 1) := by decide +kernel
theorem dX5_tell_36 : decode cX5_tell 36 = .ok (.iaload, 1) := by decide +kernel
theorem dX5_tell_37 : decode cX5_tell 37 = .ok (.invokevirtual 120, 3) := by decide +kernel
theorem dX5_tell_40 : decode cX5_tell 40 = .ok (.iconst 1, 1) := by decide +kernel
theorem dX5_tell_41 : decode cX5_tell 41 = .ok (.ireturn, 1) := by decide +kernel
theorem dX5_tell_42 : decode cX5_tell 42 = .ok (.aload_n 0, 1) := by decide +kernel
theorem dX5_tell_43 : decode cX5_tell 43 = .ok (.getfield 34, 3) := by decide +kernel
theorem dX5_tell_46 : decode cX5_tell 46 = .ok (.iload_n 1, 1) := by decide +kernel
theorem dX5_tell_47 : decode cX5_tell 47 = .ok (.dup2, 1) := by decide +kernel
theorem dX5_tell_48 : decode cX5_tell 48 = .ok (.iaload, 1) := by decide +kernel
theorem dX5_tell_49 : decode cX5_tell 49 = .ok (.iconst 1, 1) := by decide +kernel
theorem dX5_tell_50 : decode cX5_tell 50 = .ok (.isub, 1) := by decide +kernel
theorem dX5_tell_51 : decode cX5_tell 51 = .ok (.iastore, 1) := by decide +kernel
theorem dX5_tell_52 : decode cX5_tell 52 = .ok (.aload_n 0, 1) := by decide +kernel
theorem dX5_tell_53 : decode cX5_tell 53 = .ok (.iload_n 2, 1) := by decide +kernel
theorem dX5_tell_54 : decode cX5_tell 54 = .ok (.invokevirtual 80, 3) := by decide +kernel
theorem dX5_tell_57 : decode cX5_tell 57 = .ok (.ifCond .eq 23, 3) := by decide +kernel
theorem dX5_tell_60 : decode cX5_tell 60 = .ok (.aload_n 0, 1) := by decide +kernel
theorem dX5_tell_61 : decode cX5_tell 61 = .ok (.getfield 25, 3) := by decide +kernel
theorem dX5_tell_64 : decode cX5_tell 64 = .ok (.iload_n 2, 1) := by decide +kernel
theorem dX5_tell_65 : decode cX5_tell 65 = .ok (.iaload, 1) := by decide +kernel
theorem dX5_tell_66 : decode cX5_tell 66 = .ok (.aload_n 0, 1) := by decide +kernel
theorem dX5_tell_67 : decode cX5_tell 67 = .ok (.getfield 25, 3) := by decide +kernel
theorem dX5_tell_70 : decode cX5_tell 70 = .ok (.iload_n 1, 1) := by decide +kernel
theorem dX5_tell_71 : decode cX5_tell 71 = .ok (.iaload, 1) := by decide +kernel
theorem dX5_tell_72 : decode cX5_tell 72 = .ok (.if_icmp .le 8, 3) := by decide +kernel
theorem dX5_tell_75 : decode cX5_tell 75 = .ok (.aload_n 0, 1) := by decide +kernel
theorem dX5_tell_76 : decode cX5_tell 76 = .ok (.iload_n 2, 1) := by decide +kernel
theorem dX5_tell_77 : decode cX5_tell 77 = .ok (.invokevirtual 127, 3) := by decide +kernel
theorem dX5_tell_80 : decode cX5_tell 80 = .ok (.iconst 0, 1) := by decide +kernel
theorem dX5_tell_81 : decode cX5_tell 81 = .ok (.ireturn, 1) := by decide +kernel
theorem dX5_rumourNow_0 : decode cX5_rumourNow 0 = .ok (.iconst 0, 1) := by decide +kernel
theorem dX5_rumourNow_1 : decode cX5_rumourNow 1 = .ok (.istore_n 3, 1) := by decide +kernel
theorem dX5_rumourNow_2 : decode cX5_rumourNow 2 = .ok (.iconst 0, 1) := by decide +kernel
theorem dX5_rumourNow_3 : decode cX5_rumourNow 3 = .ok (.istore 4, 2) := by decide +kernel
theorem dX5_rumourNow_5 : decode cX5_rumourNow 5 = .ok (.iload 4, 2) := by decide +kernel
theorem dX5_rumourNow_7 : decode cX5_rumourNow 7 = .ok (.iconst 4, 1) := by decide +kernel
theorem dX5_rumourNow_8 : decode cX5_rumourNow 8 = .ok (.if_icmp .ge 55, 3) := by decide +kernel
theorem dX5_rumourNow_11 : decode cX5_rumourNow 11 = .ok (.iconst 4, 1) := by decide +kernel
theorem dX5_rumourNow_12 : decode cX5_rumourNow 12 = .ok (.iload_n 1, 1) := by decide +kernel
theorem dX5_rumourNow_13 : decode cX5_rumourNow 13 = .ok (.imul, 1) := by decide +kernel
theorem dX5_rumourNow_14 : decode cX5_rumourNow 14 = .ok (.iload 4, 2) := by decide +kernel
theorem dX5_rumourNow_16 : decode cX5_rumourNow 16 = .ok (.iadd, 1) := by decide +kernel
theorem dX5_rumourNow_17 : decode cX5_rumourNow 17 = .ok (.istore 5, 2) := by decide +kernel
theorem dX5_rumourNow_19 : decode cX5_rumourNow 19 = .ok (.iload_n 3, 1) := by decide +kernel
theorem dX5_rumourNow_20 : decode cX5_rumourNow 20 = .ok (.aload_n 0, 1) := by decide +kernel
theorem dX5_rumourNow_21 : decode cX5_rumourNow 21 = .ok (.getfield 34, 3) := by decide +kernel
theorem dX5_rumourNow_24 : decode cX5_rumourNow 24 = .ok (.iload 5, 2) := by decide +kernel
theorem dX5_rumourNow_26 : decode cX5_rumourNow 26 = .ok (.iaload, 1) := by decide +kernel
theorem dX5_rumourNow_27 : decode cX5_rumourNow 27 = .ok (.ifCond .le 27, 3) := by decide +kernel
theorem dX5_rumourNow_30 : decode cX5_rumourNow 30 = .ok (.aload_n 0, 1) := by decide +kernel
theorem dX5_rumourNow_31 : decode cX5_rumourNow 31 = .ok (.iload 5, 2) := by decide +kernel
theorem dX5_rumourNow_33 : decode cX5_rumourNow 33 = .ok (.invokevirtual 114, 3) := by decide +kernel
theorem dX5_rumourNow_36 : decode cX5_rumourNow 36 = .ok (.ifCond .eq 18, 3) := by decide +kernel
theorem dX5_rumourNow_39 : decode cX5_rumourNow 39 = .ok (.aload_n 0, 1) := by decide +kernel
theorem dX5_rumourNow_40 : decode cX5_rumourNow 40 = .ok (.iload 5, 2) := by decide +kernel
theorem dX5_rumourNow_42 : decode cX5_rumourNow 42 = .ok (.iconst 4, 1) := by decide +kernel
theorem dX5_rumourNow_43 : decode cX5_rumourNow 43 = .ok (.iload_n 2, 1) := by decide +kernel
theorem dX5_rumourNow_44 : decode cX5_rumourNow 44 = .ok (.imul, 1) := by decide +kernel
theorem dX5_rumourNow_45 : decode cX5_rumourNow 45 = .ok (.iload 4, 2) := by decide +kernel
theorem dX5_rumourNow_47 : decode cX5_rumourNow 47 = .ok (.iadd, 1) := by decide +kernel
theorem dX5_rumourNow_48 : decode cX5_rumourNow 48 = .ok (.invokevirtual 155, 3) := by decide +kernel
theorem dX5_rumourNow_51 : decode cX5_rumourNow 51 = .ok (.goto 4, 3) := by decide +kernel
theorem dX5_rumourNow_54 : decode cX5_rumourNow 54 = .ok (.iconst 0, 1) := by decide +kernel
theorem dX5_rumourNow_55 : decode cX5_rumourNow 55 = .ok (.iadd, 1) := by decide +kernel
theorem dX5_rumourNow_56 : decode cX5_rumourNow 56 = .ok (.istore_n 3, 1) := by decide +kernel
theorem dX5_rumourNow_57 : decode cX5_rumourNow 57 = .ok (.iinc 4 1, 3) := by decide +kernel
theorem dX5_rumourNow_60 : decode cX5_rumourNow 60 = .ok (.goto (-55), 3) := by decide +kernel
theorem dX5_rumourNow_63 : decode cX5_rumourNow 63 = .ok (.iload_n 3, 1) := by decide +kernel
theorem dX5_rumourNow_64 : decode cX5_rumourNow 64 = .ok (.ireturn, 1) := by decide +kernel
theorem dX5_rumour_0 : decode cX5_rumour 0 = .ok (.aload_n 0, 1) := by decide +kernel
theorem dX5_rumour_1 : decode cX5_rumour 1 = .ok (.iload_n 1, 1) := by decide +kernel
theorem dX5_rumour_2 : decode cX5_rumour 2 = .ok (.iload_n 2, 1) := by decide +kernel
theorem dX5_rumour_3 : decode cX5_rumour 3 = .ok (.invokevirtual 149, 3) := by decide +kernel
theorem dX5_rumour_6 : decode cX5_rumour 6 = .ok (.ifCond .ne 7, 3) := by decide +kernel
theorem dX5_rumour_9 : decode cX5_rumour 9 = .ok (.sipush (-1001), 3) := by decide +kernel
theorem dX5_rumour_12 : decode cX5_rumour 12 = .ok (.ireturn, 1) := by decide +kernel
theorem dX5_rumour_13 : decode cX5_rumour 13 = .ok (.aload_n 0, 1) := by decide +kernel
theorem dX5_rumour_14 : decode cX5_rumour 14 = .ok (.getfield 65, 3) := by decide +kernel
theorem dX5_rumour_17 : decode cX5_rumour 17 = .ok (.iload_n 1, 1) := by decide +kernel
theorem dX5_rumour_18 : decode cX5_rumour 18 = .ok (.invokestatic 84, 3) := by decide +kernel
theorem dX5_rumour_21 : decode cX5_rumour 21 = .ok (.ifCond .ne 14, 3) := by decide +kernel
theorem dX5_rumour_24 : decode cX5_rumour 24 = .ok (.aload_n 0, 1) := by decide +kernel
theorem dX5_rumour_25 : decode cX5_rumour 25 = .ok (.getfield 65, 3) := by decide +kernel
theorem dX5_rumour_28 : decode cX5_rumour 28 = .ok (.iload_n 2, 1) := by decide +kernel
theorem dX5_rumour_29 : decode cX5_rumour 29 = .ok (.invokestatic 84, 3) := by decide +kernel
theorem dX5_rumour_32 : decode cX5_rumour 32 = .ok (.ifCond .eq 9, 3) := by decide +kernel
theorem dX5_rumour_35 : decode cX5_rumour 35 = .ok (.sipush (-1003), 3) := by decide +kernel
theorem dX5_rumour_38 : decode cX5_rumour 38 = .ok (.goto 9, 3) := by decide +kernel
theorem dX5_rumour_41 : decode cX5_rumour 41 = .ok (.aload_n 0, 1) := by decide +kernel
theorem dX5_rumour_42 : decode cX5_rumour 42 = .ok (.iload_n 1, 1) := by decide +kernel
theorem dX5_rumour_43 : decode cX5_rumour 43 = .ok (.iload_n 2, 1) := by decide +kernel
theorem dX5_rumour_44 : decode cX5_rumour 44 = .ok (.invokevirtual 158, 3) := by decide +kernel
theorem dX5_rumour_47 : decode cX5_rumour 47 = .ok (.ireturn, 1) := by decide +kernel
theorem dX5_itemNow_0 : decode cX5_itemNow 0 = .ok (.iload_n 2, 1) := by decide +kernel
theorem dX5_itemNow_1 : decode cX5_itemNow 1 = .ok (.tableswitch 88 0 5 #[39, 46, 53, 60, 67, 74], 39) := by decide +kernel
theorem dX5_itemNow_40 : decode cX5_itemNow 40 = .ok (.aload_n 0, 1) := by decide +kernel
theorem dX5_itemNow_41 : decode cX5_itemNow 41 = .ok (.getfield 19, 3) := by decide +kernel
theorem dX5_itemNow_44 : decode cX5_itemNow 44 = .ok (.iload_n 1, 1) := by decide +kernel
theorem dX5_itemNow_45 : decode cX5_itemNow 45 = .ok (.iaload, 1) := by decide +kernel
theorem dX5_itemNow_46 : decode cX5_itemNow 46 = .ok (.ireturn, 1) := by decide +kernel
theorem dX5_itemNow_47 : decode cX5_itemNow 47 = .ok (.aload_n 0, 1) := by decide +kernel
theorem dX5_itemNow_48 : decode cX5_itemNow 48 = .ok (.getfield 22, 3) := by decide +kernel
theorem dX5_itemNow_51 : decode cX5_itemNow 51 = .ok (.iload_n 1, 1) := by decide +kernel
theorem dX5_itemNow_52 : decode cX5_itemNow 52 = .ok (.iaload, 1) := by decide +kernel
theorem dX5_itemNow_53 : decode cX5_itemNow 53 = .ok (.ireturn, 1) := by decide +kernel
theorem dX5_itemNow_54 : decode cX5_itemNow 54 = .ok (.aload_n 0, 1) := by decide +kernel
theorem dX5_itemNow_55 : decode cX5_itemNow 55 = .ok (.getfield 25, 3) := by decide +kernel
theorem dX5_itemNow_58 : decode cX5_itemNow 58 = .ok (.iload_n 1, 1) := by decide +kernel
theorem dX5_itemNow_59 : decode cX5_itemNow 59 = .ok (.iaload, 1) := by decide +kernel
theorem dX5_itemNow_60 : decode cX5_itemNow 60 = .ok (.ireturn, 1) := by decide +kernel
theorem dX5_itemNow_61 : decode cX5_itemNow 61 = .ok (.aload_n 0, 1) := by decide +kernel
theorem dX5_itemNow_62 : decode cX5_itemNow 62 = .ok (.getfield 28, 3) := by decide +kernel
theorem dX5_itemNow_65 : decode cX5_itemNow 65 = .ok (.iload_n 1, 1) := by decide +kernel
theorem dX5_itemNow_66 : decode cX5_itemNow 66 = .ok (.iaload, 1) := by decide +kernel
theorem dX5_itemNow_67 : decode cX5_itemNow 67 = .ok (.ireturn, 1) := by decide +kernel
theorem dX5_itemNow_68 : decode cX5_itemNow 68 = .ok (.aload_n 0, 1) := by decide +kernel
theorem dX5_itemNow_69 : decode cX5_itemNow 69 = .ok (.getfield 31, 3) := by decide +kernel
theorem dX5_itemNow_72 : decode cX5_itemNow 72 = .ok (.iload_n 1, 1) := by decide +kernel
theorem dX5_itemNow_73 : decode cX5_itemNow 73 = .ok (.iaload, 1) := by decide +kernel
theorem dX5_itemNow_74 : decode cX5_itemNow 74 = .ok (.ireturn, 1) := by decide +kernel
theorem dX5_itemNow_75 : decode cX5_itemNow 75 = .ok (.aload_n 0, 1) := by decide +kernel
theorem dX5_itemNow_76 : decode cX5_itemNow 76 = .ok (.iload_n 1, 1) := by decide +kernel
theorem dX5_itemNow_77 : decode cX5_itemNow 77 = .ok (.invokevirtual 80, 3) := by decide +kernel
theorem dX5_itemNow_80 : decode cX5_itemNow 80 = .ok (.ifCond .eq 7, 3) := by decide +kernel
theorem dX5_itemNow_83 : decode cX5_itemNow 83 = .ok (.iconst 1, 1) := by decide +kernel
theorem dX5_itemNow_84 : decode cX5_itemNow 84 = .ok (.goto 4, 3) := by decide +kernel
theorem dX5_itemNow_87 : decode cX5_itemNow 87 = .ok (.iconst 0, 1) := by decide +kernel
theorem dX5_itemNow_88 : decode cX5_itemNow 88 = .ok (.ireturn, 1) := by decide +kernel
theorem dX5_itemNow_89 : decode cX5_itemNow 89 = .ok (.aload_n 0, 1) := by decide +kernel
theorem dX5_itemNow_90 : decode cX5_itemNow 90 = .ok (.getfield 34, 3) := by decide +kernel
theorem dX5_itemNow_93 : decode cX5_itemNow 93 = .ok (.iload_n 1, 1) := by decide +kernel
theorem dX5_itemNow_94 : decode cX5_itemNow 94 = .ok (.iaload, 1) := by decide +kernel
theorem dX5_itemNow_95 : decode cX5_itemNow 95 = .ok (.ireturn, 1) := by decide +kernel
theorem dX5_has_0 : decode cX5_has 0 = .ok (.aload_n 0, 1) := by decide +kernel
theorem dX5_has_1 : decode cX5_has 1 = .ok (.iload_n 1, 1) := by decide +kernel
theorem dX5_has_2 : decode cX5_has 2 = .ok (.invokevirtual 98, 3) := by decide +kernel
theorem dX5_has_5 : decode cX5_has 5 = .ok (.ifCond .eq 10, 3) := by decide +kernel
theorem dX5_has_8 : decode cX5_has 8 = .ok (.iload_n 2, 1) := by decide +kernel
theorem dX5_has_9 : decode cX5_has 9 = .ok (.invokestatic 101, 3) := by decide +kernel
theorem dX5_has_12 : decode cX5_has 12 = .ok (.ifCond .ne 7, 3) := by decide +kernel
theorem dX5_has_15 : decode cX5_has 15 = .ok (.sipush (-1001), 3) := by decide +kernel
theorem dX5_has_18 : decode cX5_has 18 = .ok (.ireturn, 1) := by decide +kernel
theorem dX5_has_19 : decode cX5_has 19 = .ok (.iload_n 3, 1) := by decide +kernel
theorem dX5_has_20 : decode cX5_has 20 = .ok (.iconst 0, 1) := by decide +kernel
theorem dX5_has_21 : decode cX5_has 21 = .ok (.bipush 6, 2) := by decide +kernel
theorem dX5_has_23 : decode cX5_has 23 = .ok (.invokestatic 43, 3) := by decide +kernel
theorem dX5_has_26 : decode cX5_has 26 = .ok (.ifCond .eq 16, 3) := by decide +kernel
theorem dX5_has_29 : decode cX5_has 29 = .ok (.aload_n 0, 1) := by decide +kernel
theorem dX5_has_30 : decode cX5_has 30 = .ok (.iconst 4, 1) := by decide +kernel
theorem dX5_has_31 : decode cX5_has 31 = .ok (.iload_n 1, 1) := by decide +kernel
theorem dX5_has_32 : decode cX5_has 32 = .ok (.imul, 1) := by decide +kernel
theorem dX5_has_33 : decode cX5_has 33 = .ok (.iload_n 2, 1) := by decide +kernel
theorem dX5_has_34 : decode cX5_has 34 = .ok (.iadd, 1) := by decide +kernel
theorem dX5_has_35 : decode cX5_has 35 = .ok (.iload_n 3, 1) := by decide +kernel
theorem dX5_has_36 : decode cX5_has 36 = .ok (.invokevirtual 161, 3) := by decide +kernel
theorem dX5_has_39 : decode cX5_has 39 = .ok (.goto 6, 3) := by decide +kernel
theorem dX5_has_42 : decode cX5_has 42 = .ok (.sipush (-1002), 3) := by decide +kernel
theorem dX5_has_45 : decode cX5_has 45 = .ok (.ireturn, 1) := by decide +kernel
theorem dX5_newestNow_0 : decode cX5_newestNow 0 = .ok (.iconst (-1), 1) := by decide +kernel
theorem dX5_newestNow_1 : decode cX5_newestNow 1 = .ok (.istore_n 3, 1) := by decide +kernel
theorem dX5_newestNow_2 : decode cX5_newestNow 2 = .ok (.iconst 0, 1) := by decide +kernel
theorem dX5_newestNow_3 : decode cX5_newestNow 3 = .ok (.istore 4, 2) := by decide +kernel
theorem dX5_newestNow_5 : decode cX5_newestNow 5 = .ok (.iload 4, 2) := by decide +kernel
theorem dX5_newestNow_7 : decode cX5_newestNow 7 = .ok (.iconst 4, 1) := by decide +kernel
theorem dX5_newestNow_8 : decode cX5_newestNow 8 = .ok (.if_icmp .ge 80, 3) := by decide +kernel
theorem dX5_newestNow_11 : decode cX5_newestNow 11 = .ok (.iconst 4, 1) := by decide +kernel
theorem dX5_newestNow_12 : decode cX5_newestNow 12 = .ok (.iload_n 1, 1) := by decide +kernel
theorem dX5_newestNow_13 : decode cX5_newestNow 13 = .ok (.imul, 1) := by decide +kernel
theorem dX5_newestNow_14 : decode cX5_newestNow 14 = .ok (.iload 4, 2) := by decide +kernel
theorem dX5_newestNow_16 : decode cX5_newestNow 16 = .ok (.iadd, 1) := by decide +kernel
theorem dX5_newestNow_17 : decode cX5_newestNow 17 = .ok (.istore 5, 2) := by decide +kernel
theorem dX5_newestNow_19 : decode cX5_newestNow 19 = .ok (.aload_n 0, 1) := by decide +kernel
theorem dX5_newestNow_20 : decode cX5_newestNow 20 = .ok (.getfield 19, 3) := by decide +kernel
theorem dX5_newestNow_23 : decode cX5_newestNow 23 = .ok (.iload 5, 2) := by decide +kernel
theorem dX5_newestNow_25 : decode cX5_newestNow 25 = .ok (.iaload, 1) := by decide +kernel
theorem dX5_newestNow_26 : decode cX5_newestNow 26 = .ok (.ifCond .eq 22, 3) := by decide +kernel
theorem dX5_newestNow_29 : decode cX5_newestNow 29 = .ok (.iload_n 2, 1) := by decide +kernel
theorem dX5_newestNow_30 : decode cX5_newestNow 30 = .ok (.ifCond .eq 14, 3) := by decide +kernel
theorem dX5_newestNow_33 : decode cX5_newestNow 33 = .ok (.aload_n 0, 1) := by decide +kernel
theorem dX5_newestNow_34 : decode cX5_newestNow 34 = .ok (.getfield 19, 3) := by decide +kernel
theorem dX5_newestNow_37 : decode cX5_newestNow 37 = .ok (.iload 5, 2) := by decide +kernel
theorem dX5_newestNow_39 : decode cX5_newestNow 39 = .ok (.iaload, 1) := by decide +kernel
theorem dX5_newestNow_40 : decode cX5_newestNow 40 = .ok (.iload_n 2, 1) := by decide +kernel
theorem dX5_newestNow_41 : decode cX5_newestNow 41 = .ok (.if_icmp .ne 7, 3) := by decide +kernel
theorem dX5_newestNow_44 : decode cX5_newestNow 44 = .ok (.iconst 1, 1) := by decide +kernel
theorem dX5_newestNow_45 : decode cX5_newestNow 45 = .ok (.goto 4, 3) := by decide +kernel
theorem dX5_newestNow_48 : decode cX5_newestNow 48 = .ok (.iconst 0, 1) := by decide +kernel
theorem dX5_newestNow_49 : decode cX5_newestNow 49 = .ok (.istore 6, 2) := by decide +kernel
theorem dX5_newestNow_51 : decode cX5_newestNow 51 = .ok (.iload 6, 2) := by decide +kernel
theorem dX5_newestNow_53 : decode cX5_newestNow 53 = .ok (.ifCond .eq 27, 3) := by decide +kernel
theorem dX5_newestNow_56 : decode cX5_newestNow 56 = .ok (.iload_n 3, 1) := by decide +kernel
theorem dX5_newestNow_57 : decode cX5_newestNow 57 = .ok (.iconst (-1), 1) := by decide +kernel
theorem dX5_newestNow_58 : decode cX5_newestNow 58 = .ok (.if_icmp .eq 17, 3) := by decide +kernel
theorem dX5_newestNow_61 : decode cX5_newestNow 61 = .ok (.aload_n 0, 1) := by decide +kernel
theorem dX5_newestNow_62 : decode cX5_newestNow 62 = .ok (.iload 5, 2) := by decide +kernel
theorem dX5_newestNow_64 : decode cX5_newestNow 64 = .ok (.iconst 4, 1) := by decide +kernel
theorem dX5_newestNow_65 : decode cX5_newestNow 65 = .ok (.iload_n 1, 1) := by decide +kernel
theorem dX5_newestNow_66 : decode cX5_newestNow 66 = .ok (.imul, 1) := by decide +kernel
theorem dX5_newestNow_67 : decode cX5_newestNow 67 = .ok (.iload_n 3, 1) := by decide +kernel
theorem dX5_newestNow_68 : decode cX5_newestNow 68 = .ok (.iadd, 1) := by decide +kernel
theorem dX5_newestNow_69 : decode cX5_newestNow 69 = .ok (.invokevirtual 117, 3) := by decide +kernel
theorem dX5_newestNow_72 : decode cX5_newestNow 72 = .ok (.ifCond .eq 8, 3) := by decide +kernel
theorem dX5_newestNow_75 : decode cX5_newestNow 75 = .ok (.iload 4, 2) := by decide +kernel
theorem dX5_newestNow_77 : decode cX5_newestNow 77 = .ok (.goto 4, 3) := by decide +kernel
theorem dX5_newestNow_80 : decode cX5_newestNow 80 = .ok (.iload_n 3, 1) := by decide +kernel
theorem dX5_newestNow_81 : decode cX5_newestNow 81 = .ok (.istore_n 3, 1) := by decide +kernel
theorem dX5_newestNow_82 : decode cX5_newestNow 82 = .ok (.iinc 4 1, 3) := by decide +kernel
theorem dX5_newestNow_85 : decode cX5_newestNow 85 = .ok (.goto (-80), 3) := by decide +kernel
theorem dX5_newestNow_88 : decode cX5_newestNow 88 = .ok (.iload_n 3, 1) := by decide +kernel
theorem dX5_newestNow_89 : decode cX5_newestNow 89 = .ok (.ireturn, 1) := by decide +kernel
theorem dX5_newest_0 : decode cX5_newest 0 = .ok (.aload_n 0, 1) := by decide +kernel
theorem dX5_newest_1 : decode cX5_newest 1 = .ok (.iload_n 1, 1) := by decide +kernel
theorem dX5_newest_2 : decode cX5_newest 2 = .ok (.invokevirtual 98, 3) := by decide +kernel
theorem dX5_newest_5 : decode cX5_newest 5 = .ok (.ifCond .ne 7, 3) := by decide +kernel
theorem dX5_newest_8 : decode cX5_newest 8 = .ok (.sipush (-1001), 3) := by decide +kernel
theorem dX5_newest_11 : decode cX5_newest 11 = .ok (.ireturn, 1) := by decide +kernel
theorem dX5_newest_12 : decode cX5_newest 12 = .ok (.iload_n 2, 1) := by decide +kernel
theorem dX5_newest_13 : decode cX5_newest 13 = .ok (.iconst 0, 1) := by decide +kernel
theorem dX5_newest_14 : decode cX5_newest 14 = .ok (.iconst 2, 1) := by decide +kernel
theorem dX5_newest_15 : decode cX5_newest 15 = .ok (.invokestatic 43, 3) := by decide +kernel
theorem dX5_newest_18 : decode cX5_newest 18 = .ok (.ifCond .eq 12, 3) := by decide +kernel
theorem dX5_newest_21 : decode cX5_newest 21 = .ok (.aload_n 0, 1) := by decide +kernel
theorem dX5_newest_22 : decode cX5_newest 22 = .ok (.iload_n 1, 1) := by decide +kernel
theorem dX5_newest_23 : decode cX5_newest 23 = .ok (.iload_n 2, 1) := by decide +kernel
theorem dX5_newest_24 : decode cX5_newest 24 = .ok (.invokevirtual 164, 3) := by decide +kernel
theorem dX5_newest_27 : decode cX5_newest 27 = .ok (.goto 6, 3) := by decide +kernel
theorem dX5_newest_30 : decode cX5_newest 30 = .ok (.sipush (-1002), 3) := by decide +kernel
theorem dX5_newest_33 : decode cX5_newest 33 = .ok (.ireturn, 1) := by decide +kernel
theorem dX5_alike_0 : decode cX5_alike 0 = .ok (.aload_n 0, 1) := by decide +kernel
theorem dX5_alike_1 : decode cX5_alike 1 = .ok (.iload_n 1, 1) := by decide +kernel
theorem dX5_alike_2 : decode cX5_alike 2 = .ok (.invokevirtual 98, 3) := by decide +kernel
theorem dX5_alike_5 : decode cX5_alike 5 = .ok (.ifCond .eq 28, 3) := by decide +kernel
theorem dX5_alike_8 : decode cX5_alike 8 = .ok (.aload_n 0, 1) := by decide +kernel
theorem dX5_alike_9 : decode cX5_alike 9 = .ok (.iload_n 2, 1) := by decide +kernel
theorem dX5_alike_10 : decode cX5_alike 10 = .ok (.invokevirtual 98, 3) := by decide +kernel
theorem dX5_alike_13 : decode cX5_alike 13 = .ok (.ifCond .eq 20, 3) := by decide +kernel
theorem dX5_alike_16 : decode cX5_alike 16 = .ok (.aload_n 0, 1) := by decide +kernel
theorem dX5_alike_17 : decode cX5_alike 17 = .ok (.iload_n 1, 1) := by decide +kernel
theorem dX5_alike_18 : decode cX5_alike 18 = .ok (.iload_n 2, 1) := by decide +kernel
theorem dX5_alike_19 : decode cX5_alike 19 = .ok (.invokevirtual 146, 3) := by decide +kernel
theorem dX5_alike_22 : decode cX5_alike 22 = .ok (.ifCond .eq 7, 3) := by decide +kernel
theorem dX5_alike_25 : decode cX5_alike 25 = .ok (.iconst 1, 1) := by decide +kernel
theorem dX5_alike_26 : decode cX5_alike 26 = .ok (.goto 10, 3) := by decide +kernel
theorem dX5_alike_29 : decode cX5_alike 29 = .ok (.iconst 0, 1) := by decide +kernel
theorem dX5_alike_30 : decode cX5_alike 30 = .ok (.goto 6, 3) := by decide +kernel
theorem dX5_alike_33 : decode cX5_alike 33 = .ok (.sipush (-1001), 3) := by decide +kernel
theorem dX5_alike_36 : decode cX5_alike 36 = .ok (.ireturn, 1) := by decide +kernel
theorem dX5_risenNow_0 : decode cX5_risenNow 0 = .ok (.iconst 0, 1) := by decide +kernel
theorem dX5_risenNow_1 : decode cX5_risenNow 1 = .ok (.istore_n 2, 1) := by decide +kernel
theorem dX5_risenNow_2 : decode cX5_risenNow 2 = .ok (.iconst 0, 1) := by decide +kernel
theorem dX5_risenNow_3 : decode cX5_risenNow 3 = .ok (.istore_n 3, 1) := by decide +kernel
theorem dX5_risenNow_4 : decode cX5_risenNow 4 = .ok (.iload_n 3, 1) := by decide +kernel
theorem dX5_risenNow_5 : decode cX5_risenNow 5 = .ok (.aload_n 0, 1) := by decide +kernel
theorem dX5_risenNow_6 : decode cX5_risenNow 6 = .ok (.getfield 55, 3) := by decide +kernel
theorem dX5_risenNow_9 : decode cX5_risenNow 9 = .ok (.if_icmp .ge 53, 3) := by decide +kernel
theorem dX5_risenNow_12 : decode cX5_risenNow 12 = .ok (.iconst 4, 1) := by decide +kernel
theorem dX5_risenNow_13 : decode cX5_risenNow 13 = .ok (.iload_n 3, 1) := by decide +kernel
theorem dX5_risenNow_14 : decode cX5_risenNow 14 = .ok (.imul, 1) := by decide +kernel
theorem dX5_risenNow_15 : decode cX5_risenNow 15 = .ok (.iload_n 1, 1) := by decide +kernel
theorem dX5_risenNow_16 : decode cX5_risenNow 16 = .ok (.iadd, 1) := by decide +kernel
theorem dX5_risenNow_17 : decode cX5_risenNow 17 = .ok (.istore 4, 2) := by decide +kernel
theorem dX5_risenNow_19 : decode cX5_risenNow 19 = .ok (.iload_n 2, 1) := by decide +kernel
theorem dX5_risenNow_20 : decode cX5_risenNow 20 = .ok (.aload_n 0, 1) := by decide +kernel
theorem dX5_risenNow_21 : decode cX5_risenNow 21 = .ok (.getfield 19, 3) := by decide +kernel
theorem dX5_risenNow_24 : decode cX5_risenNow 24 = .ok (.iload 4, 2) := by decide +kernel
theorem dX5_risenNow_26 : decode cX5_risenNow 26 = .ok (.iaload, 1) := by decide +kernel
theorem dX5_risenNow_27 : decode cX5_risenNow 27 = .ok (.iconst 1, 1) := by decide +kernel
theorem dX5_risenNow_28 : decode cX5_risenNow 28 = .ok (.if_icmp .ne 25, 3) := by decide +kernel
theorem dX5_risenNow_31 : decode cX5_risenNow 31 = .ok (.aload_n 0, 1) := by decide +kernel
theorem dX5_risenNow_32 : decode cX5_risenNow 32 = .ok (.getfield 25, 3) := by decide +kernel
theorem dX5_risenNow_35 : decode cX5_risenNow 35 = .ok (.iload 4, 2) := by decide +kernel
theorem dX5_risenNow_37 : decode cX5_risenNow 37 = .ok (.iaload, 1) := by decide +kernel
theorem dX5_risenNow_38 : decode cX5_risenNow 38 = .ok (.aload_n 0, 1) := by decide +kernel
theorem dX5_risenNow_39 : decode cX5_risenNow 39 = .ok (.getfield 37, 3) := by decide +kernel
theorem dX5_risenNow_42 : decode cX5_risenNow 42 = .ok (.iload_n 1, 1) := by decide +kernel
theorem dX5_risenNow_43 : decode cX5_risenNow 43 = .ok (.iaload, 1) := by decide +kernel
theorem dX5_risenNow_44 : decode cX5_risenNow 44 = .ok (.if_icmp .ge 9, 3) := by decide +kernel
theorem dX5_risenNow_47 : decode cX5_risenNow 47 = .ok (.iconst 1, 1) := by decide +kernel
theorem dX5_risenNow_48 : decode cX5_risenNow 48 = .ok (.iload_n 3, 1) := by decide +kernel
theorem dX5_risenNow_49 : decode cX5_risenNow 49 = .ok (.ishl, 1) := by decide +kernel
theorem dX5_risenNow_50 : decode cX5_risenNow 50 = .ok (.goto 4, 3) := by decide +kernel
theorem dX5_risenNow_53 : decode cX5_risenNow 53 = .ok (.iconst 0, 1) := by decide +kernel
theorem dX5_risenNow_54 : decode cX5_risenNow 54 = .ok (.ior, 1) := by decide +kernel
theorem dX5_risenNow_55 : decode cX5_risenNow 55 = .ok (.istore_n 2, 1) := by decide +kernel
theorem dX5_risenNow_56 : decode cX5_risenNow 56 = .ok (.iinc 3 1, 3) := by decide +kernel
theorem dX5_risenNow_59 : decode cX5_risenNow 59 = .ok (.goto (-55), 3) := by decide +kernel
theorem dX5_risenNow_62 : decode cX5_risenNow 62 = .ok (.iload_n 2, 1) := by decide +kernel
theorem dX5_risenNow_63 : decode cX5_risenNow 63 = .ok (.ireturn, 1) := by decide +kernel
theorem dX5_risen_0 : decode cX5_risen 0 = .ok (.iload_n 1, 1) := by decide +kernel
theorem dX5_risen_1 : decode cX5_risen 1 = .ok (.invokestatic 101, 3) := by decide +kernel
theorem dX5_risen_4 : decode cX5_risen 4 = .ok (.ifCond .eq 11, 3) := by decide +kernel
theorem dX5_risen_7 : decode cX5_risen 7 = .ok (.aload_n 0, 1) := by decide +kernel
theorem dX5_risen_8 : decode cX5_risen 8 = .ok (.iload_n 1, 1) := by decide +kernel
theorem dX5_risen_9 : decode cX5_risen 9 = .ok (.invokevirtual 167, 3) := by decide +kernel
theorem dX5_risen_12 : decode cX5_risen 12 = .ok (.goto 6, 3) := by decide +kernel
theorem dX5_risen_15 : decode cX5_risen 15 = .ok (.sipush (-1001), 3) := by decide +kernel
theorem dX5_risen_18 : decode cX5_risen 18 = .ok (.ireturn, 1) := by decide +kernel
theorem dX5_draw_0 : decode cX5_draw 0 = .ok (.aload_n 0, 1) := by decide +kernel
theorem dX5_draw_1 : decode cX5_draw 1 = .ok (.ldc2_w 170, 3) := by decide +kernel
theorem dX5_draw_4 : decode cX5_draw 4 = .ok (.aload_n 0, 1) := by decide +kernel
theorem dX5_draw_5 : decode cX5_draw 5 = .ok (.getfield 172, 3) := by decide +kernel
theorem dX5_draw_8 : decode cX5_draw 8 = .ok (.lmul, 1) := by decide +kernel
theorem dX5_draw_9 : decode cX5_draw 9 = .ok (.ldc2_w 176, 3) := by decide +kernel
theorem dX5_draw_12 : decode cX5_draw 12 = .ok (.ladd, 1) := by decide +kernel
theorem dX5_draw_13 : decode cX5_draw 13 = .ok (.ldc2_w 178, 3) := by decide +kernel
theorem dX5_draw_16 : decode cX5_draw 16 = .ok (.land, 1) := by decide +kernel
theorem dX5_draw_17 : decode cX5_draw 17 = .ok (.putfield 172, 3) := by decide +kernel
theorem dX5_draw_20 : decode cX5_draw 20 = .ok (.aload_n 0, 1) := by decide +kernel
theorem dX5_draw_21 : decode cX5_draw 21 = .ok (.getfield 172, 3) := by decide +kernel
theorem dX5_draw_24 : decode cX5_draw 24 = .ok (.ldc2_w 180, 3) := by decide +kernel
theorem dX5_draw_27 : decode cX5_draw 27 = .ok (.ldiv, 1) := by decide +kernel
theorem dX5_draw_28 : decode cX5_draw 28 = .ok (.iload_n 1, 1) := by decide +kernel
theorem dX5_draw_29 : decode cX5_draw 29 = .ok (.i2l, 1) := by decide +kernel
theorem dX5_draw_30 : decode cX5_draw 30 = .ok (.lrem, 1) := by decide +kernel
theorem dX5_draw_31 : decode cX5_draw 31 = .ok (.l2i, 1) := by decide +kernel
theorem dX5_draw_32 : decode cX5_draw 32 = .ok (.ireturn, 1) := by decide +kernel
theorem dX5_weight_0 : decode cX5_weight 0 = .ok (.bipush 60, 2) := by decide +kernel
theorem dX5_weight_2 : decode cX5_weight 2 = .ok (.iload_n 0, 1) := by decide +kernel
theorem dX5_weight_3 : decode cX5_weight 3 = .ok (.iconst 1, 1) := by decide +kernel
theorem dX5_weight_4 : decode cX5_weight 4 = .ok (.iadd, 1) := by decide +kernel
theorem dX5_weight_5 : decode cX5_weight 5 = .ok (.idiv, 1) := by decide +kernel
theorem dX5_weight_6 : decode cX5_weight 6 = .ok (.ireturn, 1) := by decide +kernel
theorem dX5_partnerNow_0 : decode cX5_partnerNow 0 = .ok (.aload_n 0, 1) := by decide +kernel
theorem dX5_partnerNow_1 : decode cX5_partnerNow 1 = .ok (.getfield 65, 3) := by decide +kernel
theorem dX5_partnerNow_4 : decode cX5_partnerNow 4 = .ok (.iconst 1, 1) := by decide +kernel
theorem dX5_partnerNow_5 : decode cX5_partnerNow 5 = .ok (.iload_n 1, 1) := by decide +kernel
theorem dX5_partnerNow_6 : decode cX5_partnerNow 6 = .ok (.ishl, 1) := by decide +kernel
theorem dX5_partnerNow_7 : decode cX5_partnerNow 7 = .ok (.ior, 1) := by decide +kernel
theorem dX5_partnerNow_8 : decode cX5_partnerNow 8 = .ok (.istore_n 2, 1) := by decide +kernel
theorem dX5_partnerNow_9 : decode cX5_partnerNow 9 = .ok (.iconst 0, 1) := by decide +kernel
theorem dX5_partnerNow_10 : decode cX5_partnerNow 10 = .ok (.istore_n 3, 1) := by decide +kernel
theorem dX5_partnerNow_11 : decode cX5_partnerNow 11 = .ok (.iconst 0, 1) := by decide +kernel
theorem dX5_partnerNow_12 : decode cX5_partnerNow 12 = .ok (.istore 4, 2) := by decide +kernel
theorem dX5_partnerNow_14 : decode cX5_partnerNow 14 = .ok (.iconst 0, 1) := by decide +kernel
theorem dX5_partnerNow_15 : decode cX5_partnerNow 15 = .ok (.istore 5, 2) := by decide +kernel
theorem dX5_partnerNow_17 : decode cX5_partnerNow 17 = .ok (.iload 5, 2) := by decide +kernel
theorem dX5_partnerNow_19 : decode cX5_partnerNow 19 = .ok (.aload_n 0, 1) := by decide +kernel
theorem dX5_partnerNow_20 : decode cX5_partnerNow 20 = .ok (.getfield 55, 3) := by decide +kernel
theorem dX5_partnerNow_23 : decode cX5_partnerNow 23 = .ok (.if_icmp .ge 30, 3) := by decide +kernel
theorem dX5_partnerNow_26 : decode cX5_partnerNow 26 = .ok (.iload_n 2, 1) := by decide +kernel
theorem dX5_partnerNow_27 : decode cX5_partnerNow 27 = .ok (.iload 5, 2) := by decide +kernel
theorem dX5_partnerNow_29 : decode cX5_partnerNow 29 = .ok (.invokestatic 84, 3) := by decide +kernel
theorem dX5_partnerNow_32 : decode cX5_partnerNow 32 = .ok (.ifCond .ne 15, 3) := by decide +kernel
theorem dX5_partnerNow_35 : decode cX5_partnerNow 35 = .ok (.iload 4, 2) := by decide +kernel
theorem dX5_partnerNow_37 : decode cX5_partnerNow 37 = .ok (.iload_n 3, 1) := by decide +kernel
theorem dX5_partnerNow_38 : decode cX5_partnerNow 38 = .ok (.invokestatic 182, 3) := by decide +kernel
theorem dX5_partnerNow_41 : decode cX5_partnerNow 41 = .ok (.iadd, 1) := by decide +kernel
theorem dX5_partnerNow_42 : decode cX5_partnerNow 42 = .ok (.istore 4, 2) := by decide +kernel
theorem dX5_partnerNow_44 : decode cX5_partnerNow 44 = .ok (.iinc 3 1, 3) := by decide +kernel
theorem dX5_partnerNow_47 : decode cX5_partnerNow 47 = .ok (.iinc 5 1, 3) := by decide +kernel
theorem dX5_partnerNow_50 : decode cX5_partnerNow 50 = .ok (.goto (-33), 3) := by decide +kernel
theorem dX5_partnerNow_53 : decode cX5_partnerNow 53 = .ok (.iload_n 3, 1) := by decide +kernel
theorem dX5_partnerNow_54 : decode cX5_partnerNow 54 = .ok (.ifCond .ne 5, 3) := by decide +kernel
theorem dX5_partnerNow_57 : decode cX5_partnerNow 57 = .ok (.iconst (-1), 1) := by decide +kernel
theorem dX5_partnerNow_58 : decode cX5_partnerNow 58 = .ok (.ireturn, 1) := by decide +kernel
theorem dX5_partnerNow_59 : decode cX5_partnerNow 59 = .ok (.aload_n 0, 1) := by decide +kernel
theorem dX5_partnerNow_60 : decode cX5_partnerNow 60 = .ok (.iload 4, 2) := by decide +kernel
theorem dX5_partnerNow_62 : decode cX5_partnerNow 62 = .ok (.invokevirtual 185, 3) := by decide +kernel
theorem dX5_partnerNow_65 : decode cX5_partnerNow 65 = .ok (.istore 5, 2) := by decide +kernel
theorem dX5_partnerNow_67 : decode cX5_partnerNow 67 = .ok (.aload_n 0, 1) := by decide +kernel
theorem dX5_partnerNow_68 : decode cX5_partnerNow 68 = .ok (.iload_n 1, 1) := by decide +kernel
theorem dX5_partnerNow_69 : decode cX5_partnerNow 69 = .ok (.iload_n 2, 1) := by decide +kernel
theorem dX5_partnerNow_70 : decode cX5_partnerNow 70 = .ok (.invokevirtual 104, 3) := by decide +kernel
theorem dX5_partnerNow_73 : decode cX5_partnerNow 73 = .ok (.istore 6, 2) := by decide +kernel
theorem dX5_partnerNow_75 : decode cX5_partnerNow 75 = .ok (.iconst 0, 1) := by decide +kernel
theorem dX5_partnerNow_76 : decode cX5_partnerNow 76 = .ok (.istore 7, 2) := by decide +kernel
theorem dX5_partnerNow_78 : decode cX5_partnerNow 78 = .ok (.iload 5, 2) := by decide +kernel
theorem dX5_partnerNow_80 : decode cX5_partnerNow 80 = .ok (.iload 7, 2) := by decide +kernel
theorem dX5_partnerNow_82 : decode cX5_partnerNow 82 = .ok (.invokestatic 182, 3) := by decide +kernel
theorem dX5_partnerNow_85 : decode cX5_partnerNow 85 = .ok (.if_icmp .lt 34, 3) := by decide +kernel
theorem dX5_partnerNow_88 : decode cX5_partnerNow 88 = .ok (.iload 5, 2) := by decide +kernel
theorem dX5_partnerNow_90 : decode cX5_partnerNow 90 = .ok (.iload 7, 2) := by decide +kernel
theorem dX5_partnerNow_92 : decode cX5_partnerNow 92 = .ok (.invokestatic 182, 3) := by decide +kernel
theorem dX5_partnerNow_95 : decode cX5_partnerNow 95 = .ok (.isub, 1) := by decide +kernel
theorem dX5_partnerNow_96 : decode cX5_partnerNow 96 = .ok (.istore 5, 2) := by decide +kernel
theorem dX5_partnerNow_98 : decode cX5_partnerNow 98 = .ok (.iload_n 2, 1) := by decide +kernel
theorem dX5_partnerNow_99 : decode cX5_partnerNow 99 = .ok (.iconst 1, 1) := by decide +kernel
theorem dX5_partnerNow_100 : decode cX5_partnerNow 100 = .ok (.iload 6, 2) := by decide +kernel
theorem dX5_partnerNow_102 : decode cX5_partnerNow 102 = .ok (.ishl, 1) := by decide +kernel
theorem dX5_partnerNow_103 : decode cX5_partnerNow 103 = .ok (.ior, 1) := by decide +kernel
theorem dX5_partnerNow_104 : decode cX5_partnerNow 104 = .ok (.istore_n 2, 1) := by decide +kernel
theorem dX5_partnerNow_105 : decode cX5_partnerNow 105 = .ok (.aload_n 0, 1) := by decide +kernel
theorem dX5_partnerNow_106 : decode cX5_partnerNow 106 = .ok (.iload_n 1, 1) := by decide +kernel
theorem dX5_partnerNow_107 : decode cX5_partnerNow 107 = .ok (.iload_n 2, 1) := by decide +kernel
theorem dX5_partnerNow_108 : decode cX5_partnerNow 108 = .ok (.invokevirtual 104, 3) := by decide +kernel
theorem dX5_partnerNow_111 : decode cX5_partnerNow 111 = .ok (.istore 6, 2) := by decide +kernel
theorem dX5_partnerNow_113 : decode cX5_partnerNow 113 = .ok (.iinc 7 1, 3) := by decide +kernel
theorem dX5_partnerNow_116 : decode cX5_partnerNow 116 = .ok (.goto (-38), 3) := by decide +kernel
theorem dX5_partnerNow_119 : decode cX5_partnerNow 119 = .ok (.iload 6, 2) := by decide +kernel
theorem dX5_partnerNow_121 : decode cX5_partnerNow 121 = .ok (.ireturn, 1) := by decide +kernel
theorem dX5_partner_0 : decode cX5_partner 0 = .ok (.aload_n 0, 1) := by decide +kernel
theorem dX5_partner_1 : decode cX5_partner 1 = .ok (.iload_n 1, 1) := by decide +kernel
theorem dX5_partner_2 : decode cX5_partner 2 = .ok (.invokevirtual 98, 3) := by decide +kernel
theorem dX5_partner_5 : decode cX5_partner 5 = .ok (.ifCond .ne 7, 3) := by decide +kernel
theorem dX5_partner_8 : decode cX5_partner 8 = .ok (.sipush (-1001), 3) := by decide +kernel
theorem dX5_partner_11 : decode cX5_partner 11 = .ok (.ireturn, 1) := by decide +kernel
theorem dX5_partner_12 : decode cX5_partner 12 = .ok (.iload_n 2, 1) := by decide +kernel
theorem dX5_partner_13 : decode cX5_partner 13 = .ok (.ifCond .lt 12, 3) := by decide +kernel
theorem dX5_partner_16 : decode cX5_partner 16 = .ok (.iload_n 3, 1) := by decide +kernel
theorem dX5_partner_17 : decode cX5_partner 17 = .ok (.iconst 0, 1) := by decide +kernel
theorem dX5_partner_18 : decode cX5_partner 18 = .ok (.iconst 1, 1) := by decide +kernel
theorem dX5_partner_19 : decode cX5_partner 19 = .ok (.invokestatic 43, 3) := by decide +kernel
theorem dX5_partner_22 : decode cX5_partner 22 = .ok (.ifCond .ne 7, 3) := by decide +kernel
theorem dX5_partner_25 : decode cX5_partner 25 = .ok (.sipush (-1002), 3) := by decide +kernel
theorem dX5_partner_28 : decode cX5_partner 28 = .ok (.ireturn, 1) := by decide +kernel
theorem dX5_partner_29 : decode cX5_partner 29 = .ok (.aload_n 0, 1) := by decide +kernel
theorem dX5_partner_30 : decode cX5_partner 30 = .ok (.iload_n 2, 1) := by decide +kernel
theorem dX5_partner_31 : decode cX5_partner 31 = .ok (.i2l, 1) := by decide +kernel
theorem dX5_partner_32 : decode cX5_partner 32 = .ok (.putfield 172, 3) := by decide +kernel
theorem dX5_partner_35 : decode cX5_partner 35 = .ok (.aload_n 0, 1) := by decide +kernel
theorem dX5_partner_36 : decode cX5_partner 36 = .ok (.iload_n 1, 1) := by decide +kernel
theorem dX5_partner_37 : decode cX5_partner 37 = .ok (.invokevirtual 188, 3) := by decide +kernel
theorem dX5_partner_40 : decode cX5_partner 40 = .ok (.istore 4, 2) := by decide +kernel
theorem dX5_partner_42 : decode cX5_partner 42 = .ok (.iload_n 3, 1) := by decide +kernel
theorem dX5_partner_43 : decode cX5_partner 43 = .ok (.ifCond .ne 8, 3) := by decide +kernel
theorem dX5_partner_46 : decode cX5_partner 46 = .ok (.iload 4, 2) := by decide +kernel
theorem dX5_partner_48 : decode cX5_partner 48 = .ok (.goto 8, 3) := by decide +kernel
theorem dX5_partner_51 : decode cX5_partner 51 = .ok (.aload_n 0, 1) := by decide +kernel
theorem dX5_partner_52 : decode cX5_partner 52 = .ok (.getfield 172, 3) := by decide +kernel
theorem dX5_partner_55 : decode cX5_partner 55 = .ok (.l2i, 1) := by decide +kernel
theorem dX5_partner_56 : decode cX5_partner 56 = .ok (.ireturn, 1) := by decide +kernel
theorem dX5_areAllAlike_0 : decode cX5_areAllAlike 0 = .ok (.iconst 1, 1) := by decide +kernel
theorem dX5_areAllAlike_1 : decode cX5_areAllAlike 1 = .ok (.istore_n 1, 1) := by decide +kernel
theorem dX5_areAllAlike_2 : decode cX5_areAllAlike 2 = .ok (.iconst 0, 1) := by decide +kernel
theorem dX5_areAllAlike_3 : decode cX5_areAllAlike 3 = .ok (.istore_n 2, 1) := by decide +kernel
theorem dX5_areAllAlike_4 : decode cX5_areAllAlike 4 = .ok (.iload_n 2, 1) := by decide +kernel
theorem dX5_areAllAlike_5 : decode cX5_areAllAlike 5 = .ok (.aload_n 0, 1) := by decide +kernel
theorem dX5_areAllAlike_6 : decode cX5_areAllAlike 6 = .ok (.getfield 55, 3) := by decide +kernel
theorem dX5_areAllAlike_9 : decode cX5_areAllAlike 9 = .ok (.if_icmp .ge 63, 3) := by decide +kernel
theorem dX5_areAllAlike_12 : decode cX5_areAllAlike 12 = .ok (.iconst 0, 1) := by decide +kernel
theorem dX5_areAllAlike_13 : decode cX5_areAllAlike 13 = .ok (.istore_n 3, 1) := by decide +kernel
theorem dX5_areAllAlike_14 : decode cX5_areAllAlike 14 = .ok (.iload_n 3, 1) := by decide +kernel
theorem dX5_areAllAlike_15 : decode cX5_areAllAlike 15 = .ok (.iload_n 2, 1) := by decide +kernel
theorem dX5_areAllAlike_16 : decode cX5_areAllAlike 16 = .ok (.if_icmp .ge 50, 3) := by decide +kernel
theorem dX5_areAllAlike_19 : decode cX5_areAllAlike 19 = .ok (.iload_n 1, 1) := by decide +kernel
theorem dX5_areAllAlike_20 : decode cX5_areAllAlike 20 = .ok (.ifCond .eq 38, 3) := by decide +kernel
theorem dX5_areAllAlike_23 : decode cX5_areAllAlike 23 = .ok (.aload_n 0, 1) := by decide +kernel
theorem dX5_areAllAlike_24 : decode cX5_areAllAlike 24 = .ok (.getfield 65, 3) := by decide +kernel
theorem dX5_areAllAlike_27 : decode cX5_areAllAlike 27 = .ok (.iload_n 2, 1) := by decide +kernel
theorem dX5_areAllAlike_28 : decode cX5_areAllAlike 28 = .ok (.invokestatic 84, 3) := by decide +kernel
theorem dX5_areAllAlike_31 : decode cX5_areAllAlike 31 = .ok (.ifCond .ne 23, 3) := by decide +kernel
theorem dX5_areAllAlike_34 : decode cX5_areAllAlike 34 = .ok (.aload_n 0, 1) := by decide +kernel
theorem dX5_areAllAlike_35 : decode cX5_areAllAlike 35 = .ok (.getfield 65, 3) := by decide +kernel
theorem dX5_areAllAlike_38 : decode cX5_areAllAlike 38 = .ok (.iload_n 3, 1) := by decide +kernel
theorem dX5_areAllAlike_39 : decode cX5_areAllAlike 39 = .ok (.invokestatic 84, 3) := by decide +kernel
theorem dX5_areAllAlike_42 : decode cX5_areAllAlike 42 = .ok (.ifCond .ne 12, 3) := by decide +kernel
theorem dX5_areAllAlike_45 : decode cX5_areAllAlike 45 = .ok (.aload_n 0, 1) := by decide +kernel
theorem dX5_areAllAlike_46 : decode cX5_areAllAlike 46 = .ok (.iload_n 2, 1) := by decide +kernel
theorem dX5_areAllAlike_47 : decode cX5_areAllAlike 47 = .ok (.iload_n 3, 1) := by decide +kernel
theorem dX5_areAllAlike_48 : decode cX5_areAllAlike 48 = .ok (.invokevirtual 146, 3) := by decide +kernel
theorem dX5_areAllAlike_51 : decode cX5_areAllAlike 51 = .ok (.ifCond .eq 7, 3) := by decide +kernel
theorem dX5_areAllAlike_54 : decode cX5_areAllAlike 54 = .ok (.iconst 1, 1) := by decide +kernel
theorem dX5_areAllAlike_55 : decode cX5_areAllAlike 55 = .ok (.goto 4, 3) := by decide +kernel
theorem dX5_areAllAlike_58 : decode cX5_areAllAlike 58 = .ok (.iconst 0, 1) := by decide +kernel
theorem dX5_areAllAlike_59 : decode cX5_areAllAlike 59 = .ok (.istore_n 1, 1) := by decide +kernel
theorem dX5_areAllAlike_60 : decode cX5_areAllAlike 60 = .ok (.iinc 3 1, 3) := by decide +kernel
theorem dX5_areAllAlike_63 : decode cX5_areAllAlike 63 = .ok (.goto (-49), 3) := by decide +kernel
theorem dX5_areAllAlike_66 : decode cX5_areAllAlike 66 = .ok (.iinc 2 1, 3) := by decide +kernel
theorem dX5_areAllAlike_69 : decode cX5_areAllAlike 69 = .ok (.goto (-65), 3) := by decide +kernel
theorem dX5_areAllAlike_72 : decode cX5_areAllAlike 72 = .ok (.iload_n 1, 1) := by decide +kernel
theorem dX5_areAllAlike_73 : decode cX5_areAllAlike 73 = .ok (.ireturn, 1) := by decide +kernel
theorem dX5_save_0 : decode cX5_save 0 = .ok (.iconst 0, 1) := by decide +kernel
theorem dX5_save_1 : decode cX5_save 1 = .ok (.istore_n 1, 1) := by decide +kernel
theorem dX5_save_2 : decode cX5_save 2 = .ok (.iload_n 1, 1) := by decide +kernel
theorem dX5_save_3 : decode cX5_save 3 = .ok (.bipush 24, 2) := by decide +kernel
theorem dX5_save_5 : decode cX5_save 5 = .ok (.if_icmp .ge 50, 3) := by decide +kernel
theorem dX5_save_8 : decode cX5_save 8 = .ok (.iconst 0, 1) := by decide +kernel
theorem dX5_save_9 : decode cX5_save 9 = .ok (.istore_n 2, 1) := by decide +kernel
theorem dX5_save_10 : decode cX5_save 10 = .ok (.iload_n 2, 1) := by decide +kernel
theorem dX5_save_11 : decode cX5_save 11 = .ok (.bipush 6, 2) := by decide +kernel
theorem dX5_save_13 : decode cX5_save 13 = .ok (.if_icmp .ge 36, 3) := by decide +kernel
theorem dX5_save_16 : decode cX5_save 16 = .ok (.aload_n 0, 1) := by decide +kernel
theorem dX5_save_17 : decode cX5_save 17 = .ok (.getfield 40, 3) := by decide +kernel
theorem dX5_save_20 : decode cX5_save 20 = .ok (.bipush 6, 2) := by decide +kernel
theorem dX5_save_22 : decode cX5_save 22 = .ok (.iload_n 1, 1) := by decide +kernel
theorem dX5_save_23 : decode cX5_save 23 = .ok (.imul, 1) := by decide +kernel
theorem dX5_save_24 : decode cX5_save 24 = .ok (.iload_n 2, 1) := by decide +kernel
theorem dX5_save_25 : decode cX5_save 25 = .ok (.iadd, 1) := by decide +kernel
theorem dX5_save_26 : decode cX5_save 26 = .ok (.aload_n 0, 1) := by decide +kernel
theorem dX5_save_27 : decode cX5_save 27 = .ok (.iload_n 1, 1) := by decide +kernel
theorem dX5_save_28 : decode cX5_save 28 = .ok (.iload_n 2, 1) := by decide +kernel
theorem dX5_save_29 : decode cX5_save 29 = .ok (.iconst 5, 1) := by decide +kernel
theorem dX5_save_30 : decode cX5_save 30 = .ok (.if_icmp .ne 8, 3) := by decide +kernel
theorem dX5_save_33 : decode cX5_save 33 = .ok (.bipush 6, 2) := by decide +kernel
theorem dX5_save_35 : decode cX5_save 35 = .ok (.goto 4, 3) := by decide +kernel
theorem dX5_save_38 : decode cX5_save 38 = .ok (.iload_n 2, 1) := by decide +kernel
theorem dX5_save_39 : decode cX5_save 39 = .ok (.invokevirtual 161, 3) := by decide +kernel
theorem dX5_save_42 : decode cX5_save 42 = .ok (.iastore, 1) := by decide +kernel
theorem dX5_save_43 : decode cX5_save 43 = .ok (.iinc 2 1, 3) := by decide +kernel
theorem dX5_save_46 : decode cX5_save 46 = .ok (.goto (-36), 3) := by decide +kernel
theorem dX5_save_49 : decode cX5_save 49 = .ok (.iinc 1 1, 3) := by decide +kernel
theorem dX5_save_52 : decode cX5_save 52 = .ok (.goto (-50), 3) := by decide +kernel
theorem dX5_save_55 : decode cX5_save 55 = .ok (.aload_n 0, 1) := by decide +kernel
theorem dX5_save_56 : decode cX5_save 56 = .ok (.getfield 40, 3) := by decide +kernel
theorem dX5_save_59 : decode cX5_save 59 = .ok (.sipush 144, 3) := by decide +kernel
theorem dX5_save_62 : decode cX5_save 62 = .ok (.aload_n 0, 1) := by decide +kernel
theorem dX5_save_63 : decode cX5_save 63 = .ok (.getfield 62, 3) := by decide +kernel
theorem dX5_save_66 : decode cX5_save 66 = .ok (.iastore, 1) := by decide +kernel
theorem dX5_save_67 : decode cX5_save 67 = .ok (.aload_n 0, 1) := by decide +kernel
theorem dX5_save_68 : decode cX5_save 68 = .ok (.getfield 40, 3) := by decide +kernel
theorem dX5_save_71 : decode cX5_save 71 = .ok (.sipush 145, 3) := by decide +kernel
theorem dX5_save_74 : decode cX5_save 74 = .ok (.aload_n 0, 1) := by decide +kernel
theorem dX5_save_75 : decode cX5_save 75 = .ok (.getfield 68, 3) := by decide +kernel
theorem dX5_save_78 : decode cX5_save 78 = .ok (.iastore, 1) := by decide +kernel
theorem dX5_save_79 : decode cX5_save 79 = .ok (.aload_n 0, 1) := by decide +kernel
theorem dX5_save_80 : decode cX5_save 80 = .ok (.getfield 40, 3) := by decide +kernel
theorem dX5_save_83 : decode cX5_save 83 = .ok (.sipush 146, 3) := by decide +kernel
theorem dX5_save_86 : decode cX5_save 86 = .ok (.aload_n 0, 1) := by decide +kernel
theorem dX5_save_87 : decode cX5_save 87 = .ok (.getfield 71, 3) := by decide +kernel
theorem dX5_save_90 : decode cX5_save 90 = .ok (.iastore, 1) := by decide +kernel
theorem dX5_save_91 : decode cX5_save 91 = .ok (.aload_n 0, 1) := by decide +kernel
theorem dX5_save_92 : decode cX5_save 92 = .ok (.getfield 40, 3) := by decide +kernel
theorem dX5_save_95 : decode cX5_save 95 = .ok (.sipush 147, 3) := by decide +kernel
theorem dX5_save_98 : decode cX5_save 98 = .ok (.aload_n 0, 1) := by decide +kernel
theorem dX5_save_99 : decode cX5_save 99 = .ok (.getfield 74, 3) := by decide +kernel
theorem dX5_save_102 : decode cX5_save 102 = .ok (.iastore, 1) := by decide +kernel
theorem dX5_save_103 : decode cX5_save 103 = .ok (.return_, 1) := by decide +kernel
theorem dX5_back_0 : decode cX5_back 0 = .ok (.iconst 0, 1) := by decide +kernel
theorem dX5_back_1 : decode cX5_back 1 = .ok (.istore_n 1, 1) := by decide +kernel
theorem dX5_back_2 : decode cX5_back 2 = .ok (.iload_n 1, 1) := by decide +kernel
theorem dX5_back_3 : decode cX5_back 3 = .ok (.bipush 24, 2) := by decide +kernel
theorem dX5_back_5 : decode cX5_back 5 = .ok (.if_icmp .ge 109, 3) := by decide +kernel
theorem dX5_back_8 : decode cX5_back 8 = .ok (.aload_n 0, 1) := by decide +kernel
theorem dX5_back_9 : decode cX5_back 9 = .ok (.getfield 19, 3) := by decide +kernel
theorem dX5_back_12 : decode cX5_back 12 = .ok (.iload_n 1, 1) := by decide +kernel
theorem dX5_back_13 : decode cX5_back 13 = .ok (.aload_n 0, 1) := by decide +kernel
theorem dX5_back_14 : decode cX5_back 14 = .ok (.getfield 40, 3) := by decide +kernel
theorem dX5_back_17 : decode cX5_back 17 = .ok (.bipush 6, 2) := by decide +kernel
theorem dX5_back_19 : decode cX5_back 19 = .ok (.iload_n 1, 1) := by decide +kernel
theorem dX5_back_20 : decode cX5_back 20 = .ok (.imul, 1) := by decide +kernel
theorem dX5_back_21 : decode cX5_back 21 = .ok (.iaload, 1) := by decide +kernel
theorem dX5_back_22 : decode cX5_back 22 = .ok (.iastore, 1) := by decide +kernel
theorem dX5_back_23 : decode cX5_back 23 = .ok (.aload_n 0, 1) := by decide +kernel
theorem dX5_back_24 : decode cX5_back 24 = .ok (.getfield 22, 3) := by decide +kernel
theorem dX5_back_27 : decode cX5_back 27 = .ok (.iload_n 1, 1) := by decide +kernel
theorem dX5_back_28 : decode cX5_back 28 = .ok (.aload_n 0, 1) := by decide +kernel
theorem dX5_back_29 : decode cX5_back 29 = .ok (.getfield 40, 3) := by decide +kernel
theorem dX5_back_32 : decode cX5_back 32 = .ok (.bipush 6, 2) := by decide +kernel
theorem dX5_back_34 : decode cX5_back 34 = .ok (.iload_n 1, 1) := by decide +kernel
theorem dX5_back_35 : decode cX5_back 35 = .ok (.imul, 1) := by decide +kernel
theorem dX5_back_36 : decode cX5_back 36 = .ok (.iconst 1, 1) := by decide +kernel
theorem dX5_back_37 : decode cX5_back 37 = .ok (.iadd, 1) := by decide +kernel
theorem dX5_back_38 : decode cX5_back 38 = .ok (.iaload, 1) := by decide +kernel
theorem dX5_back_39 : decode cX5_back 39 = .ok (.iastore, 1) := by decide +kernel
theorem dX5_back_40 : decode cX5_back 40 = .ok (.aload_n 0, 1) := by decide +kernel
theorem dX5_back_41 : decode cX5_back 41 = .ok (.getfield 25, 3) := by decide +kernel
theorem dX5_back_44 : decode cX5_back 44 = .ok (.iload_n 1, 1) := by decide +kernel
theorem dX5_back_45 : decode cX5_back 45 = .ok (.aload_n 0, 1) := by decide +kernel
theorem dX5_back_46 : decode cX5_back 46 = .ok (.getfield 40, 3) := by decide +kernel
theorem dX5_back_49 : decode cX5_back 49 = .ok (.bipush 6, 2) := by decide +kernel
theorem dX5_back_51 : decode cX5_back 51 = .ok (.iload_n 1, 1) := by decide +kernel
theorem dX5_back_52 : decode cX5_back 52 = .ok (.imul, 1) := by decide +kernel
theorem dX5_back_53 : decode cX5_back 53 = .ok (.iconst 2, 1) := by decide +kernel
theorem dX5_back_54 : decode cX5_back 54 = .ok (.iadd, 1) := by decide +kernel
theorem dX5_back_55 : decode cX5_back 55 = .ok (.iaload, 1) := by decide +kernel
theorem dX5_back_56 : decode cX5_back 56 = .ok (.iastore, 1) := by decide +kernel
theorem dX5_back_57 : decode cX5_back 57 = .ok (.aload_n 0, 1) := by decide +kernel
theorem dX5_back_58 : decode cX5_back 58 = .ok (.getfield 28, 3) := by decide +kernel
theorem dX5_back_61 : decode cX5_back 61 = .ok (.iload_n 1, 1) := by decide +kernel
theorem dX5_back_62 : decode cX5_back 62 = .ok (.aload_n 0, 1) := by decide +kernel
theorem dX5_back_63 : decode cX5_back 63 = .ok (.getfield 40, 3) := by decide +kernel
theorem dX5_back_66 : decode cX5_back 66 = .ok (.bipush 6, 2) := by decide +kernel
theorem dX5_back_68 : decode cX5_back 68 = .ok (.iload_n 1, 1) := by decide +kernel
theorem dX5_back_69 : decode cX5_back 69 = .ok (.imul, 1) := by decide +kernel
theorem dX5_back_70 : decode cX5_back 70 = .ok (.iconst 3, 1) := by decide +kernel
theorem dX5_back_71 : decode cX5_back 71 = .ok (.iadd, 1) := by decide +kernel
theorem dX5_back_72 : decode cX5_back 72 = .ok (.iaload, 1) := by decide +kernel
theorem dX5_back_73 : decode cX5_back 73 = .ok (.iastore, 1) := by decide +kernel
theorem dX5_back_74 : decode cX5_back 74 = .ok (.aload_n 0, 1) := by decide +kernel
theorem dX5_back_75 : decode cX5_back 75 = .ok (.getfield 31, 3) := by decide +kernel
theorem dX5_back_78 : decode cX5_back 78 = .ok (.iload_n 1, 1) := by decide +kernel
theorem dX5_back_79 : decode cX5_back 79 = .ok (.aload_n 0, 1) := by decide +kernel
theorem dX5_back_80 : decode cX5_back 80 = .ok (.getfield 40, 3) := by decide +kernel
theorem dX5_back_83 : decode cX5_back 83 = .ok (.bipush 6, 2) := by decide +kernel
theorem dX5_back_85 : decode cX5_back 85 = .ok (.iload_n 1, 1) := by decide +kernel
theorem dX5_back_86 : decode cX5_back 86 = .ok (.imul, 1) := by decide +kernel
theorem dX5_back_87 : decode cX5_back 87 = .ok (.iconst 4, 1) := by decide +kernel
theorem dX5_back_88 : decode cX5_back 88 = .ok (.iadd, 1) := by decide +kernel
theorem dX5_back_89 : decode cX5_back 89 = .ok (.iaload, 1) := by decide +kernel
theorem dX5_back_90 : decode cX5_back 90 = .ok (.iastore, 1) := by decide +kernel
theorem dX5_back_91 : decode cX5_back 91 = .ok (.aload_n 0, 1) := by decide +kernel
theorem dX5_back_92 : decode cX5_back 92 = .ok (.getfield 34, 3) := by decide +kernel
theorem dX5_back_95 : decode cX5_back 95 = .ok (.iload_n 1, 1) := by decide +kernel
theorem dX5_back_96 : decode cX5_back 96 = .ok (.aload_n 0, 1) := by decide +kernel
theorem dX5_back_97 : decode cX5_back 97 = .ok (.getfield 40, 3) := by decide +kernel
theorem dX5_back_100 : decode cX5_back 100 = .ok (.bipush 6, 2) := by decide +kernel
theorem dX5_back_102 : decode cX5_back 102 = .ok (.iload_n 1, 1) := by decide +kernel
theorem dX5_back_103 : decode cX5_back 103 = .ok (.imul, 1) := by decide +kernel
theorem dX5_back_104 : decode cX5_back 104 = .ok (.iconst 5, 1) := by decide +kernel
theorem dX5_back_105 : decode cX5_back 105 = .ok (.iadd, 1) := by decide +kernel
theorem dX5_back_106 : decode cX5_back 106 = .ok (.iaload, 1) := by decide +kernel
theorem dX5_back_107 : decode cX5_back 107 = .ok (.iastore, 1) := by decide +kernel
theorem dX5_back_108 : decode cX5_back 108 = .ok (.iinc 1 1, 3) := by decide +kernel
theorem dX5_back_111 : decode cX5_back 111 = .ok (.goto (-109), 3) := by decide +kernel
theorem dX5_back_114 : decode cX5_back 114 = .ok (.aload_n 0, 1) := by decide +kernel
theorem dX5_back_115 : decode cX5_back 115 = .ok (.aload_n 0, 1) := by decide +kernel
theorem dX5_back_116 : decode cX5_back 116 = .ok (.getfield 40, 3) := by decide +kernel
theorem dX5_back_119 : decode cX5_back 119 = .ok (.sipush 144, 3) := by decide +kernel
theorem dX5_back_122 : decode cX5_back 122 = .ok (.iaload, 1) := by decide +kernel
theorem dX5_back_123 : decode cX5_back 123 = .ok (.putfield 62, 3) := by decide +kernel
theorem dX5_back_126 : decode cX5_back 126 = .ok (.aload_n 0, 1) := by decide +kernel
theorem dX5_back_127 : decode cX5_back 127 = .ok (.aload_n 0, 1) := by decide +kernel
theorem dX5_back_128 : decode cX5_back 128 = .ok (.getfield 40, 3) := by decide +kernel
theorem dX5_back_131 : decode cX5_back 131 = .ok (.sipush 145, 3) := by decide +kernel
theorem dX5_back_134 : decode cX5_back 134 = .ok (.iaload, 1) := by decide +kernel
theorem dX5_back_135 : decode cX5_back 135 = .ok (.putfield 68, 3) := by decide +kernel
theorem dX5_back_138 : decode cX5_back 138 = .ok (.aload_n 0, 1) := by decide +kernel
theorem dX5_back_139 : decode cX5_back 139 = .ok (.aload_n 0, 1) := by decide +kernel
theorem dX5_back_140 : decode cX5_back 140 = .ok (.getfield 40, 3) := by decide +kernel
theorem dX5_back_143 : decode cX5_back 143 = .ok (.sipush 146, 3) := by decide +kernel
theorem dX5_back_146 : decode cX5_back 146 = .ok (.iaload, 1) := by decide +kernel
theorem dX5_back_147 : decode cX5_back 147 = .ok (.putfield 71, 3) := by decide +kernel
theorem dX5_back_150 : decode cX5_back 150 = .ok (.aload_n 0, 1) := by decide +kernel
theorem dX5_back_151 : decode cX5_back 151 = .ok (.aload_n 0, 1) := by decide +kernel
theorem dX5_back_152 : decode cX5_back 152 = .ok (.getfield 40, 3) := by decide +kernel
theorem dX5_back_155 : decode cX5_back 155 = .ok (.sipush 147, 3) := by decide +kernel
theorem dX5_back_158 : decode cX5_back 158 = .ok (.iaload, 1) := by decide +kernel
theorem dX5_back_159 : decode cX5_back 159 = .ok (.putfield 74, 3) := by decide +kernel
theorem dX5_back_162 : decode cX5_back 162 = .ok (.return_, 1) := by decide +kernel
theorem dX5_goRound_0 : decode cX5_goRound 0 = .ok (.aload_n 0, 1) := by decide +kernel
theorem dX5_goRound_1 : decode cX5_goRound 1 = .ok (.dup, 1) := by decide +kernel
theorem dX5_goRound_2 : decode cX5_goRound 2 = .ok (.getfield 62, 3) := by decide +kernel
theorem dX5_goRound_5 : decode cX5_goRound 5 = .ok (.iconst 1, 1) := by decide +kernel
theorem dX5_goRound_6 : decode cX5_goRound 6 = .ok (.iadd, 1) := by decide +kernel
theorem dX5_goRound_7 : decode cX5_goRound 7 = .ok (.putfield 62, 3) := by decide +kernel
theorem dX5_goRound_10 : decode cX5_goRound 10 = .ok (.aload_n 0, 1) := by decide +kernel
theorem dX5_goRound_11 : decode cX5_goRound 11 = .ok (.invokevirtual 95, 3) := by decide +kernel
theorem dX5_goRound_14 : decode cX5_goRound 14 = .ok (.pop, 1) := by decide +kernel
theorem dX5_goRound_15 : decode cX5_goRound 15 = .ok (.iconst 0, 1) := by decide +kernel
theorem dX5_goRound_16 : decode cX5_goRound 16 = .ok (.istore_n 2, 1) := by decide +kernel
theorem dX5_goRound_17 : decode cX5_goRound 17 = .ok (.iload_n 2, 1) := by decide +kernel
theorem dX5_goRound_18 : decode cX5_goRound 18 = .ok (.aload_n 0, 1) := by decide +kernel
theorem dX5_goRound_19 : decode cX5_goRound 19 = .ok (.getfield 55, 3) := by decide +kernel
theorem dX5_goRound_22 : decode cX5_goRound 22 = .ok (.if_icmp .ge 61, 3) := by decide +kernel
theorem dX5_goRound_25 : decode cX5_goRound 25 = .ok (.aload_n 0, 1) := by decide +kernel
theorem dX5_goRound_26 : decode cX5_goRound 26 = .ok (.getfield 65, 3) := by decide +kernel
theorem dX5_goRound_29 : decode cX5_goRound 29 = .ok (.iload_n 2, 1) := by decide +kernel
theorem dX5_goRound_30 : decode cX5_goRound 30 = .ok (.invokestatic 84, 3) := by decide +kernel
theorem dX5_goRound_33 : decode cX5_goRound 33 = .ok (.ifCond .eq 7, 3) := by decide +kernel
theorem dX5_goRound_36 : decode cX5_goRound 36 = .ok (.iconst (-1), 1) := by decide +kernel
theorem dX5_goRound_37 : decode cX5_goRound 37 = .ok (.goto 8, 3) := by decide +kernel
theorem dX5_goRound_40 : decode cX5_goRound 40 = .ok (.aload_n 0, 1) := by decide +kernel
theorem dX5_goRound_41 : decode cX5_goRound 41 = .ok (.iload_n 2, 1) := by decide +kernel
theorem dX5_goRound_42 : decode cX5_goRound 42 = .ok (.invokevirtual 188, 3) := by decide +kernel
theorem dX5_goRound_45 : decode cX5_goRound 45 = .ok (.istore_n 3, 1) := by decide +kernel
theorem dX5_goRound_46 : decode cX5_goRound 46 = .ok (.iload_n 3, 1) := by decide +kernel
theorem dX5_goRound_47 : decode cX5_goRound 47 = .ok (.iconst (-1), 1) := by decide +kernel
theorem dX5_goRound_48 : decode cX5_goRound 48 = .ok (.if_icmp .eq 17, 3) := by decide +kernel
theorem dX5_goRound_51 : decode cX5_goRound 51 = .ok (.iload_n 1, 1) := by decide +kernel
theorem dX5_goRound_52 : decode cX5_goRound 52 = .ok (.ifCond .eq 13, 3) := by decide +kernel
theorem dX5_goRound_55 : decode cX5_goRound 55 = .ok (.aload_n 0, 1) := by decide +kernel
theorem dX5_goRound_56 : decode cX5_goRound 56 = .ok (.iload_n 2, 1) := by decide +kernel
theorem dX5_goRound_57 : decode cX5_goRound 57 = .ok (.iload_n 3, 1) := by decide +kernel
theorem dX5_goRound_58 : decode cX5_goRound 58 = .ok (.invokevirtual 158, 3) := by decide +kernel
theorem dX5_goRound_61 : decode cX5_goRound 61 = .ok (.pop, 1) := by decide +kernel
theorem dX5_goRound_62 : decode cX5_goRound 62 = .ok (.goto 15, 3) := by decide +kernel
theorem dX5_goRound_65 : decode cX5_goRound 65 = .ok (.iload_n 3, 1) := by decide +kernel
theorem dX5_goRound_66 : decode cX5_goRound 66 = .ok (.iconst (-1), 1) := by decide +kernel
theorem dX5_goRound_67 : decode cX5_goRound 67 = .ok (.if_icmp .eq 10, 3) := by decide +kernel
theorem dX5_goRound_70 : decode cX5_goRound 70 = .ok (.aload_n 0, 1) := by decide +kernel
theorem dX5_goRound_71 : decode cX5_goRound 71 = .ok (.iload_n 2, 1) := by decide +kernel
theorem dX5_goRound_72 : decode cX5_goRound 72 = .ok (.iload_n 3, 1) := by decide +kernel
theorem dX5_goRound_73 : decode cX5_goRound 73 = .ok (.invokevirtual 152, 3) := by decide +kernel
theorem dX5_goRound_76 : decode cX5_goRound 76 = .ok (.pop, 1) := by decide +kernel
theorem dX5_goRound_77 : decode cX5_goRound 77 = .ok (.iinc 2 1, 3) := by decide +kernel
theorem dX5_goRound_80 : decode cX5_goRound 80 = .ok (.goto (-63), 3) := by decide +kernel
theorem dX5_goRound_83 : decode cX5_goRound 83 = .ok (.return_, 1) := by decide +kernel
theorem dX5_laySettling_0 : decode cX5_laySettling 0 = .ok (.aload_n 0, 1) := by decide +kernel
theorem dX5_laySettling_1 : decode cX5_laySettling 1 = .ok (.invokevirtual 191, 3) := by decide +kernel
theorem dX5_laySettling_4 : decode cX5_laySettling 4 = .ok (.aload_n 0, 1) := by decide +kernel
theorem dX5_laySettling_5 : decode cX5_laySettling 5 = .ok (.iload_n 1, 1) := by decide +kernel
theorem dX5_laySettling_6 : decode cX5_laySettling 6 = .ok (.i2l, 1) := by decide +kernel
theorem dX5_laySettling_7 : decode cX5_laySettling 7 = .ok (.putfield 172, 3) := by decide +kernel
theorem dX5_laySettling_10 : decode cX5_laySettling 10 = .ok (.aload_n 0, 1) := by decide +kernel
theorem dX5_laySettling_11 : decode cX5_laySettling 11 = .ok (.iconst 0, 1) := by decide +kernel
theorem dX5_laySettling_12 : decode cX5_laySettling 12 = .ok (.putfield 194, 3) := by decide +kernel
theorem dX5_laySettling_15 : decode cX5_laySettling 15 = .ok (.aload_n 0, 1) := by decide +kernel
theorem dX5_laySettling_16 : decode cX5_laySettling 16 = .ok (.invokevirtual 197, 3) := by decide +kernel
theorem dX5_laySettling_19 : decode cX5_laySettling 19 = .ok (.istore_n 3, 1) := by decide +kernel
theorem dX5_laySettling_20 : decode cX5_laySettling 20 = .ok (.iload_n 3, 1) := by decide +kernel
theorem dX5_laySettling_21 : decode cX5_laySettling 21 = .ok (.ifCond .ne 35, 3) := by decide +kernel
theorem dX5_laySettling_24 : decode cX5_laySettling 24 = .ok (.aload_n 0, 1) := by decide +kernel
theorem dX5_laySettling_25 : decode cX5_laySettling 25 = .ok (.getfield 194, 3) := by decide +kernel
theorem dX5_laySettling_28 : decode cX5_laySettling 28 = .ok (.bipush 40, 2) := by decide +kernel
theorem dX5_laySettling_30 : decode cX5_laySettling 30 = .ok (.if_icmp .ge 26, 3) := by decide +kernel
theorem dX5_laySettling_33 : decode cX5_laySettling 33 = .ok (.aload_n 0, 1) := by decide +kernel
theorem dX5_laySettling_34 : decode cX5_laySettling 34 = .ok (.iload_n 2, 1) := by decide +kernel
theorem dX5_laySettling_35 : decode cX5_laySettling 35 = .ok (.invokevirtual 201, 3) := by decide +kernel
theorem dX5_laySettling_38 : decode cX5_laySettling 38 = .ok (.aload_n 0, 1) := by decide +kernel
theorem dX5_laySettling_39 : decode cX5_laySettling 39 = .ok (.dup, 1) := by decide +kernel
theorem dX5_laySettling_40 : decode cX5_laySettling 40 = .ok (.getfield 194, 3) := by decide +kernel
theorem dX5_laySettling_43 : decode cX5_laySettling 43 = .ok (.iconst 1, 1) := by decide +kernel
theorem dX5_laySettling_44 : decode cX5_laySettling 44 = .ok (.iadd, 1) := by decide +kernel
theorem dX5_laySettling_45 : decode cX5_laySettling 45 = .ok (.putfield 194, 3) := by decide +kernel
theorem dX5_laySettling_48 : decode cX5_laySettling 48 = .ok (.aload_n 0, 1) := by decide +kernel
theorem dX5_laySettling_49 : decode cX5_laySettling 49 = .ok (.invokevirtual 197, 3) := by decide +kernel
theorem dX5_laySettling_52 : decode cX5_laySettling 52 = .ok (.istore_n 3, 1) := by decide +kernel
theorem dX5_laySettling_53 : decode cX5_laySettling 53 = .ok (.goto (-33), 3) := by decide +kernel
theorem dX5_laySettling_56 : decode cX5_laySettling 56 = .ok (.aload_n 0, 1) := by decide +kernel
theorem dX5_laySettling_57 : decode cX5_laySettling 57 = .ok (.iload_n 3, 1) := by decide +kernel
theorem dX5_laySettling_58 : decode cX5_laySettling 58 = .ok (.ifCond .eq 10, 3) := by decide +kernel
theorem dX5_laySettling_61 : decode cX5_laySettling 61 = .ok (.aload_n 0, 1) := by decide +kernel
theorem dX5_laySettling_62 : decode cX5_laySettling 62 = .ok (.getfield 194, 3) := by decide +kernel
theorem dX5_laySettling_65 : decode cX5_laySettling 65 = .ok (.goto 4, 3) := by decide +kernel
theorem dX5_laySettling_68 : decode cX5_laySettling 68 = .ok (.iconst (-1), 1) := by decide +kernel
theorem dX5_laySettling_69 : decode cX5_laySettling 69 = .ok (.putfield 194, 3) := by decide +kernel
theorem dX5_laySettling_72 : decode cX5_laySettling 72 = .ok (.aload_n 0, 1) := by decide +kernel
theorem dX5_laySettling_73 : decode cX5_laySettling 73 = .ok (.aload_n 0, 1) := by decide +kernel
theorem dX5_laySettling_74 : decode cX5_laySettling 74 = .ok (.getfield 68, 3) := by decide +kernel
theorem dX5_laySettling_77 : decode cX5_laySettling 77 = .ok (.aload_n 0, 1) := by decide +kernel
theorem dX5_laySettling_78 : decode cX5_laySettling 78 = .ok (.getfield 40, 3) := by decide +kernel
theorem dX5_laySettling_81 : decode cX5_laySettling 81 = .ok (.sipush 145, 3) := by decide +kernel
theorem dX5_laySettling_84 : decode cX5_laySettling 84 = .ok (.iaload, 1) := by decide +kernel
theorem dX5_laySettling_85 : decode cX5_laySettling 85 = .ok (.isub, 1) := by decide +kernel
theorem dX5_laySettling_86 : decode cX5_laySettling 86 = .ok (.putfield 205, 3) := by decide +kernel
theorem dX5_laySettling_89 : decode cX5_laySettling 89 = .ok (.aload_n 0, 1) := by decide +kernel
theorem dX5_laySettling_90 : decode cX5_laySettling 90 = .ok (.invokevirtual 208, 3) := by decide +kernel
theorem dX5_laySettling_93 : decode cX5_laySettling 93 = .ok (.return_, 1) := by decide +kernel
theorem dX5_settledNow_0 : decode cX5_settledNow 0 = .ok (.iload_n 1, 1) := by decide +kernel
theorem dX5_settledNow_1 : decode cX5_settledNow 1 = .ok (.ifCond .ne 10, 3) := by decide +kernel
theorem dX5_settledNow_4 : decode cX5_settledNow 4 = .ok (.aload_n 0, 1) := by decide +kernel
theorem dX5_settledNow_5 : decode cX5_settledNow 5 = .ok (.getfield 194, 3) := by decide +kernel
theorem dX5_settledNow_8 : decode cX5_settledNow 8 = .ok (.goto 20, 3) := by decide +kernel
theorem dX5_settledNow_11 : decode cX5_settledNow 11 = .ok (.iload_n 1, 1) := by decide +kernel
theorem dX5_settledNow_12 : decode cX5_settledNow 12 = .ok (.iconst 1, 1) := by decide +kernel
theorem dX5_settledNow_13 : decode cX5_settledNow 13 = .ok (.if_icmp .ne 10, 3) := by decide +kernel
theorem dX5_settledNow_16 : decode cX5_settledNow 16 = .ok (.aload_n 0, 1) := by decide +kernel
theorem dX5_settledNow_17 : decode cX5_settledNow 17 = .ok (.getfield 205, 3) := by decide +kernel
theorem dX5_settledNow_20 : decode cX5_settledNow 20 = .ok (.goto 8, 3) := by decide +kernel
theorem dX5_settledNow_23 : decode cX5_settledNow 23 = .ok (.aload_n 0, 1) := by decide +kernel
theorem dX5_settledNow_24 : decode cX5_settledNow 24 = .ok (.getfield 172, 3) := by decide +kernel
theorem dX5_settledNow_27 : decode cX5_settledNow 27 = .ok (.l2i, 1) := by decide +kernel
theorem dX5_settledNow_28 : decode cX5_settledNow 28 = .ok (.ireturn, 1) := by decide +kernel
theorem dX5_settle_0 : decode cX5_settle 0 = .ok (.iload_n 1, 1) := by decide +kernel
theorem dX5_settle_1 : decode cX5_settle 1 = .ok (.ifCond .lt 12, 3) := by decide +kernel
theorem dX5_settle_4 : decode cX5_settle 4 = .ok (.iload_n 3, 1) := by decide +kernel
theorem dX5_settle_5 : decode cX5_settle 5 = .ok (.iconst 0, 1) := by decide +kernel
theorem dX5_settle_6 : decode cX5_settle 6 = .ok (.iconst 2, 1) := by decide +kernel
theorem dX5_settle_7 : decode cX5_settle 7 = .ok (.invokestatic 43, 3) := by decide +kernel
theorem dX5_settle_10 : decode cX5_settle 10 = .ok (.ifCond .ne 7, 3) := by decide +kernel
theorem dX5_settle_13 : decode cX5_settle 13 = .ok (.sipush (-1002), 3) := by decide +kernel
theorem dX5_settle_16 : decode cX5_settle 16 = .ok (.ireturn, 1) := by decide +kernel
theorem dX5_settle_17 : decode cX5_settle 17 = .ok (.aload_n 0, 1) := by decide +kernel
theorem dX5_settle_18 : decode cX5_settle 18 = .ok (.getfield 55, 3) := by decide +kernel
theorem dX5_settle_21 : decode cX5_settle 21 = .ok (.ifCond .ne 7, 3) := by decide +kernel
theorem dX5_settle_24 : decode cX5_settle 24 = .ok (.sipush (-1003), 3) := by decide +kernel
theorem dX5_settle_27 : decode cX5_settle 27 = .ok (.ireturn, 1) := by decide +kernel
theorem dX5_settle_28 : decode cX5_settle 28 = .ok (.aload_n 0, 1) := by decide +kernel
theorem dX5_settle_29 : decode cX5_settle 29 = .ok (.iload_n 1, 1) := by decide +kernel
theorem dX5_settle_30 : decode cX5_settle 30 = .ok (.iload_n 2, 1) := by decide +kernel
theorem dX5_settle_31 : decode cX5_settle 31 = .ok (.invokevirtual 211, 3) := by decide +kernel
theorem dX5_settle_34 : decode cX5_settle 34 = .ok (.aload_n 0, 1) := by decide +kernel
theorem dX5_settle_35 : decode cX5_settle 35 = .ok (.iload_n 3, 1) := by decide +kernel
theorem dX5_settle_36 : decode cX5_settle 36 = .ok (.invokevirtual 215, 3) := by decide +kernel
theorem dX5_settle_39 : decode cX5_settle 39 = .ok (.ireturn, 1) := by decide +kernel
theorem dX5_howMany_0 : decode cX5_howMany 0 = .ok (.iload_n 1, 1) := by decide +kernel
theorem dX5_howMany_1 : decode cX5_howMany 1 = .ok (.tableswitch 103 0 11 #[63, 68, 73, 78, 83, 88, 93, 103, 103, 103, 103, 98], 63) := by decide +kernel
theorem dX5_howMany_64 : decode cX5_howMany 64 = .ok (.aload_n 0, 1) := by decide +kernel
theorem dX5_howMany_65 : decode cX5_howMany 65 = .ok (.getfield 47, 3) := by decide +kernel
theorem dX5_howMany_68 : decode cX5_howMany 68 = .ok (.ireturn, 1) := by decide +kernel
theorem dX5_howMany_69 : decode cX5_howMany 69 = .ok (.aload_n 0, 1) := by decide +kernel
theorem dX5_howMany_70 : decode cX5_howMany 70 = .ok (.getfield 55, 3) := by decide +kernel
theorem dX5_howMany_73 : decode cX5_howMany 73 = .ok (.ireturn, 1) := by decide +kernel
theorem dX5_howMany_74 : decode cX5_howMany 74 = .ok (.aload_n 0, 1) := by decide +kernel
theorem dX5_howMany_75 : decode cX5_howMany 75 = .ok (.getfield 62, 3) := by decide +kernel
theorem dX5_howMany_78 : decode cX5_howMany 78 = .ok (.ireturn, 1) := by decide +kernel
theorem dX5_howMany_79 : decode cX5_howMany 79 = .ok (.aload_n 0, 1) := by decide +kernel
theorem dX5_howMany_80 : decode cX5_howMany 80 = .ok (.getfield 65, 3) := by decide +kernel
theorem dX5_howMany_83 : decode cX5_howMany 83 = .ok (.ireturn, 1) := by decide +kernel
theorem dX5_howMany_84 : decode cX5_howMany 84 = .ok (.aload_n 0, 1) := by decide +kernel
theorem dX5_howMany_85 : decode cX5_howMany 85 = .ok (.getfield 68, 3) := by decide +kernel
theorem dX5_howMany_88 : decode cX5_howMany 88 = .ok (.ireturn, 1) := by decide +kernel
theorem dX5_howMany_89 : decode cX5_howMany 89 = .ok (.aload_n 0, 1) := by decide +kernel
theorem dX5_howMany_90 : decode cX5_howMany 90 = .ok (.getfield 71, 3) := by decide +kernel
theorem dX5_howMany_93 : decode cX5_howMany 93 = .ok (.ireturn, 1) := by decide +kernel
theorem dX5_howMany_94 : decode cX5_howMany 94 = .ok (.aload_n 0, 1) := by decide +kernel
theorem dX5_howMany_95 : decode cX5_howMany 95 = .ok (.getfield 74, 3) := by decide +kernel
theorem dX5_howMany_98 : decode cX5_howMany 98 = .ok (.ireturn, 1) := by decide +kernel
theorem dX5_howMany_99 : decode cX5_howMany 99 = .ok (.aload_n 0, 1) := by decide +kernel
theorem dX5_howMany_100 : decode cX5_howMany 100 = .ok (.getfield 77, 3) := by decide +kernel
theorem dX5_howMany_103 : decode cX5_howMany 103 = .ok (.ireturn, 1) := by decide +kernel
theorem dX5_howMany_104 : decode cX5_howMany 104 = .ok (.iload_n 1, 1) := by decide +kernel
theorem dX5_howMany_105 : decode cX5_howMany 105 = .ok (.bipush 7, 2) := by decide +kernel
theorem dX5_howMany_107 : decode cX5_howMany 107 = .ok (.bipush 10, 2) := by decide +kernel
theorem dX5_howMany_109 : decode cX5_howMany 109 = .ok (.invokestatic 43, 3) := by decide +kernel
theorem dX5_howMany_112 : decode cX5_howMany 112 = .ok (.ifCond .eq 15, 3) := by decide +kernel
theorem dX5_howMany_115 : decode cX5_howMany 115 = .ok (.aload_n 0, 1) := by decide +kernel
theorem dX5_howMany_116 : decode cX5_howMany 116 = .ok (.getfield 16, 3) := by decide +kernel
theorem dX5_howMany_119 : decode cX5_howMany 119 = .ok (.iload_n 1, 1) := by decide +kernel
theorem dX5_howMany_120 : decode cX5_howMany 120 = .ok (.bipush 7, 2) := by decide +kernel
theorem dX5_howMany_122 : decode cX5_howMany 122 = .ok (.isub, 1) := by decide +kernel
theorem dX5_howMany_123 : decode cX5_howMany 123 = .ok (.iaload, 1) := by decide +kernel
theorem dX5_howMany_124 : decode cX5_howMany 124 = .ok (.goto 6, 3) := by decide +kernel
theorem dX5_howMany_127 : decode cX5_howMany 127 = .ok (.sipush (-1002), 3) := by decide +kernel
theorem dX5_howMany_130 : decode cX5_howMany 130 = .ok (.ireturn, 1) := by decide +kernel
theorem dX5_count_0 : decode cX5_count 0 = .ok (.aload_n 0, 1) := by decide +kernel
theorem dX5_count_1 : decode cX5_count 1 = .ok (.iload_n 1, 1) := by decide +kernel
theorem dX5_count_2 : decode cX5_count 2 = .ok (.invokevirtual 218, 3) := by decide +kernel
theorem dX5_count_5 : decode cX5_count 5 = .ok (.ireturn, 1) := by decide +kernel
theorem dX5_mix_0 : decode cX5_mix 0 = .ok (.aload_n 0, 1) := by decide +kernel
theorem dX5_mix_1 : decode cX5_mix 1 = .ok (.ldc2_w 221, 3) := by decide +kernel
theorem dX5_mix_4 : decode cX5_mix 4 = .ok (.aload_n 0, 1) := by decide +kernel
theorem dX5_mix_5 : decode cX5_mix 5 = .ok (.getfield 223, 3) := by decide +kernel
theorem dX5_mix_8 : decode cX5_mix 8 = .ok (.lmul, 1) := by decide +kernel
theorem dX5_mix_9 : decode cX5_mix 9 = .ok (.lload_n 1, 1) := by decide +kernel
theorem dX5_mix_10 : decode cX5_mix 10 = .ok (.ladd, 1) := by decide +kernel
theorem dX5_mix_11 : decode cX5_mix 11 = .ok (.putfield 223, 3) := by decide +kernel
theorem dX5_mix_14 : decode cX5_mix 14 = .ok (.return_, 1) := by decide +kernel
theorem dX5_mixSite_0 : decode cX5_mixSite 0 = .ok (.iconst 0, 1) := by decide +kernel
theorem dX5_mixSite_1 : decode cX5_mixSite 1 = .ok (.istore_n 2, 1) := by decide +kernel
theorem dX5_mixSite_2 : decode cX5_mixSite 2 = .ok (.iload_n 2, 1) := by decide +kernel
theorem dX5_mixSite_3 : decode cX5_mixSite 3 = .ok (.iconst 4, 1) := by decide +kernel
theorem dX5_mixSite_4 : decode cX5_mixSite 4 = .ok (.if_icmp .ge 38, 3) := by decide +kernel
theorem dX5_mixSite_7 : decode cX5_mixSite 7 = .ok (.iconst 0, 1) := by decide +kernel
theorem dX5_mixSite_8 : decode cX5_mixSite 8 = .ok (.istore_n 3, 1) := by decide +kernel
theorem dX5_mixSite_9 : decode cX5_mixSite 9 = .ok (.iload_n 3, 1) := by decide +kernel
theorem dX5_mixSite_10 : decode cX5_mixSite 10 = .ok (.bipush 7, 2) := by decide +kernel
theorem dX5_mixSite_12 : decode cX5_mixSite 12 = .ok (.if_icmp .ge 24, 3) := by decide +kernel
theorem dX5_mixSite_15 : decode cX5_mixSite 15 = .ok (.aload_n 0, 1) := by decide +kernel
theorem dX5_mixSite_16 : decode cX5_mixSite 16 = .ok (.aload_n 0, 1) := by decide +kernel
theorem dX5_mixSite_17 : decode cX5_mixSite 17 = .ok (.iconst 4, 1) := by decide +kernel
theorem dX5_mixSite_18 : decode cX5_mixSite 18 = .ok (.iload_n 1, 1) := by decide +kernel
theorem dX5_mixSite_19 : decode cX5_mixSite 19 = .ok (.imul, 1) := by decide +kernel
theorem dX5_mixSite_20 : decode cX5_mixSite 20 = .ok (.iload_n 2, 1) := by decide +kernel
theorem dX5_mixSite_21 : decode cX5_mixSite 21 = .ok (.iadd, 1) := by decide +kernel
theorem dX5_mixSite_22 : decode cX5_mixSite 22 = .ok (.iload_n 3, 1) := by decide +kernel
theorem dX5_mixSite_23 : decode cX5_mixSite 23 = .ok (.invokevirtual 161, 3) := by decide +kernel
theorem dX5_mixSite_26 : decode cX5_mixSite 26 = .ok (.i2l, 1) := by decide +kernel
theorem dX5_mixSite_27 : decode cX5_mixSite 27 = .ok (.invokevirtual 226, 3) := by decide +kernel
theorem dX5_mixSite_30 : decode cX5_mixSite 30 = .ok (.iinc 3 1, 3) := by decide +kernel
theorem dX5_mixSite_33 : decode cX5_mixSite 33 = .ok (.goto (-24), 3) := by decide +kernel
theorem dX5_mixSite_36 : decode cX5_mixSite 36 = .ok (.iinc 2 1, 3) := by decide +kernel
theorem dX5_mixSite_39 : decode cX5_mixSite 39 = .ok (.goto (-37), 3) := by decide +kernel
theorem dX5_mixSite_42 : decode cX5_mixSite 42 = .ok (.iconst 0, 1) := by decide +kernel
theorem dX5_mixSite_43 : decode cX5_mixSite 43 = .ok (.istore_n 2, 1) := by decide +kernel
theorem dX5_mixSite_44 : decode cX5_mixSite 44 = .ok (.iload_n 2, 1) := by decide +kernel
theorem dX5_mixSite_45 : decode cX5_mixSite 45 = .ok (.iconst 3, 1) := by decide +kernel
theorem dX5_mixSite_46 : decode cX5_mixSite 46 = .ok (.if_icmp .ge 20, 3) := by decide +kernel
theorem dX5_mixSite_49 : decode cX5_mixSite 49 = .ok (.aload_n 0, 1) := by decide +kernel
theorem dX5_mixSite_50 : decode cX5_mixSite 50 = .ok (.aload_n 0, 1) := by decide +kernel
theorem dX5_mixSite_51 : decode cX5_mixSite 51 = .ok (.iload_n 1, 1) := by decide +kernel
theorem dX5_mixSite_52 : decode cX5_mixSite 52 = .ok (.iload_n 2, 1) := by decide +kernel
theorem dX5_mixSite_53 : decode cX5_mixSite 53 = .ok (.invokevirtual 164, 3) := by decide +kernel
theorem dX5_mixSite_56 : decode cX5_mixSite 56 = .ok (.i2l, 1) := by decide +kernel
theorem dX5_mixSite_57 : decode cX5_mixSite 57 = .ok (.invokevirtual 226, 3) := by decide +kernel
theorem dX5_mixSite_60 : decode cX5_mixSite 60 = .ok (.iinc 2 1, 3) := by decide +kernel
theorem dX5_mixSite_63 : decode cX5_mixSite 63 = .ok (.goto (-19), 3) := by decide +kernel
theorem dX5_mixSite_66 : decode cX5_mixSite 66 = .ok (.iconst 0, 1) := by decide +kernel
theorem dX5_mixSite_67 : decode cX5_mixSite 67 = .ok (.istore_n 2, 1) := by decide +kernel
theorem dX5_mixSite_68 : decode cX5_mixSite 68 = .ok (.iload_n 2, 1) := by decide +kernel
theorem dX5_mixSite_69 : decode cX5_mixSite 69 = .ok (.aload_n 0, 1) := by decide +kernel
theorem dX5_mixSite_70 : decode cX5_mixSite 70 = .ok (.getfield 55, 3) := by decide +kernel
theorem dX5_mixSite_73 : decode cX5_mixSite 73 = .ok (.if_icmp .ge 27, 3) := by decide +kernel
theorem dX5_mixSite_76 : decode cX5_mixSite 76 = .ok (.aload_n 0, 1) := by decide +kernel
theorem dX5_mixSite_77 : decode cX5_mixSite 77 = .ok (.aload_n 0, 1) := by decide +kernel
theorem dX5_mixSite_78 : decode cX5_mixSite 78 = .ok (.iload_n 1, 1) := by decide +kernel
theorem dX5_mixSite_79 : decode cX5_mixSite 79 = .ok (.iload_n 2, 1) := by decide +kernel
theorem dX5_mixSite_80 : decode cX5_mixSite 80 = .ok (.invokevirtual 146, 3) := by decide +kernel
theorem dX5_mixSite_83 : decode cX5_mixSite 83 = .ok (.ifCond .eq 7, 3) := by decide +kernel
theorem dX5_mixSite_86 : decode cX5_mixSite 86 = .ok (.lconst 1, 1) := by decide +kernel
theorem dX5_mixSite_87 : decode cX5_mixSite 87 = .ok (.goto 4, 3) := by decide +kernel
theorem dX5_mixSite_90 : decode cX5_mixSite 90 = .ok (.lconst 0, 1) := by decide +kernel
theorem dX5_mixSite_91 : decode cX5_mixSite 91 = .ok (.invokevirtual 226, 3) := by decide +kernel
theorem dX5_mixSite_94 : decode cX5_mixSite 94 = .ok (.iinc 2 1, 3) := by decide +kernel
theorem dX5_mixSite_97 : decode cX5_mixSite 97 = .ok (.goto (-29), 3) := by decide +kernel
theorem dX5_mixSite_100 : decode cX5_mixSite 100 = .ok (.return_, 1) := by decide +kernel
theorem dX5_mixSettling_0 : decode cX5_mixSettling 0 = .ok (.aload_n 0, 1) := by decide +kernel
theorem dX5_mixSettling_1 : decode cX5_mixSettling 1 = .ok (.bipush 7, 2) := by decide +kernel
theorem dX5_mixSettling_3 : decode cX5_mixSettling 3 = .ok (.iload_n 1, 1) := by decide +kernel
theorem dX5_mixSettling_4 : decode cX5_mixSettling 4 = .ok (.invokevirtual 211, 3) := by decide +kernel
theorem dX5_mixSettling_7 : decode cX5_mixSettling 7 = .ok (.iconst 0, 1) := by decide +kernel
theorem dX5_mixSettling_8 : decode cX5_mixSettling 8 = .ok (.istore_n 2, 1) := by decide +kernel
theorem dX5_mixSettling_9 : decode cX5_mixSettling 9 = .ok (.iload_n 2, 1) := by decide +kernel
theorem dX5_mixSettling_10 : decode cX5_mixSettling 10 = .ok (.iconst 3, 1) := by decide +kernel
theorem dX5_mixSettling_11 : decode cX5_mixSettling 11 = .ok (.if_icmp .ge 19, 3) := by decide +kernel
theorem dX5_mixSettling_14 : decode cX5_mixSettling 14 = .ok (.aload_n 0, 1) := by decide +kernel
theorem dX5_mixSettling_15 : decode cX5_mixSettling 15 = .ok (.aload_n 0, 1) := by decide +kernel
theorem dX5_mixSettling_16 : decode cX5_mixSettling 16 = .ok (.iload_n 2, 1) := by decide +kernel
theorem dX5_mixSettling_17 : decode cX5_mixSettling 17 = .ok (.invokevirtual 215, 3) := by decide +kernel
theorem dX5_mixSettling_20 : decode cX5_mixSettling 20 = .ok (.i2l, 1) := by decide +kernel
theorem dX5_mixSettling_21 : decode cX5_mixSettling 21 = .ok (.invokevirtual 226, 3) := by decide +kernel
theorem dX5_mixSettling_24 : decode cX5_mixSettling 24 = .ok (.iinc 2 1, 3) := by decide +kernel
theorem dX5_mixSettling_27 : decode cX5_mixSettling 27 = .ok (.goto (-18), 3) := by decide +kernel
theorem dX5_mixSettling_30 : decode cX5_mixSettling 30 = .ok (.return_, 1) := by decide +kernel
theorem dX5_digest_0 : decode cX5_digest 0 = .ok (.aload_n 0, 1) := by decide +kernel
theorem dX5_digest_1 : decode cX5_digest 1 = .ok (.ldc2_w 230, 3) := by decide +kernel
theorem dX5_digest_4 : decode cX5_digest 4 = .ok (.putfield 223, 3) := by decide +kernel
theorem dX5_digest_7 : decode cX5_digest 7 = .ok (.iconst 0, 1) := by decide +kernel
theorem dX5_digest_8 : decode cX5_digest 8 = .ok (.istore_n 1, 1) := by decide +kernel
theorem dX5_digest_9 : decode cX5_digest 9 = .ok (.iload_n 1, 1) := by decide +kernel
theorem dX5_digest_10 : decode cX5_digest 10 = .ok (.aload_n 0, 1) := by decide +kernel
theorem dX5_digest_11 : decode cX5_digest 11 = .ok (.getfield 55, 3) := by decide +kernel
theorem dX5_digest_14 : decode cX5_digest 14 = .ok (.if_icmp .ge 14, 3) := by decide +kernel
theorem dX5_digest_17 : decode cX5_digest 17 = .ok (.aload_n 0, 1) := by decide +kernel
theorem dX5_digest_18 : decode cX5_digest 18 = .ok (.iload_n 1, 1) := by decide +kernel
theorem dX5_digest_19 : decode cX5_digest 19 = .ok (.invokevirtual 232, 3) := by decide +kernel
theorem dX5_digest_22 : decode cX5_digest 22 = .ok (.iinc 1 1, 3) := by decide +kernel
theorem dX5_digest_25 : decode cX5_digest 25 = .ok (.goto (-16), 3) := by decide +kernel
theorem dX5_digest_28 : decode cX5_digest 28 = .ok (.iconst 0, 1) := by decide +kernel
theorem dX5_digest_29 : decode cX5_digest 29 = .ok (.istore_n 1, 1) := by decide +kernel
theorem dX5_digest_30 : decode cX5_digest 30 = .ok (.iload_n 1, 1) := by decide +kernel
theorem dX5_digest_31 : decode cX5_digest 31 = .ok (.iconst 4, 1) := by decide +kernel
theorem dX5_digest_32 : decode cX5_digest 32 = .ok (.if_icmp .ge 19, 3) := by decide +kernel
theorem dX5_digest_35 : decode cX5_digest 35 = .ok (.aload_n 0, 1) := by decide +kernel
theorem dX5_digest_36 : decode cX5_digest 36 = .ok (.aload_n 0, 1) := by decide +kernel
theorem dX5_digest_37 : decode cX5_digest 37 = .ok (.iload_n 1, 1) := by decide +kernel
theorem dX5_digest_38 : decode cX5_digest 38 = .ok (.invokevirtual 167, 3) := by decide +kernel
theorem dX5_digest_41 : decode cX5_digest 41 = .ok (.i2l, 1) := by decide +kernel
theorem dX5_digest_42 : decode cX5_digest 42 = .ok (.invokevirtual 226, 3) := by decide +kernel
theorem dX5_digest_45 : decode cX5_digest 45 = .ok (.iinc 1 1, 3) := by decide +kernel
theorem dX5_digest_48 : decode cX5_digest 48 = .ok (.goto (-18), 3) := by decide +kernel
theorem dX5_digest_51 : decode cX5_digest 51 = .ok (.aload_n 0, 1) := by decide +kernel
theorem dX5_digest_52 : decode cX5_digest 52 = .ok (.getfield 55, 3) := by decide +kernel
theorem dX5_digest_55 : decode cX5_digest 55 = .ok (.ifCond .le 13, 3) := by decide +kernel
theorem dX5_digest_58 : decode cX5_digest 58 = .ok (.aload_n 0, 1) := by decide +kernel
theorem dX5_digest_59 : decode cX5_digest 59 = .ok (.iconst 0, 1) := by decide +kernel
theorem dX5_digest_60 : decode cX5_digest 60 = .ok (.invokevirtual 235, 3) := by decide +kernel
theorem dX5_digest_63 : decode cX5_digest 63 = .ok (.aload_n 0, 1) := by decide +kernel
theorem dX5_digest_64 : decode cX5_digest 64 = .ok (.iconst 1, 1) := by decide +kernel
theorem dX5_digest_65 : decode cX5_digest 65 = .ok (.invokevirtual 235, 3) := by decide +kernel
theorem dX5_digest_68 : decode cX5_digest 68 = .ok (.iconst 0, 1) := by decide +kernel
theorem dX5_digest_69 : decode cX5_digest 69 = .ok (.istore_n 1, 1) := by decide +kernel
theorem dX5_digest_70 : decode cX5_digest 70 = .ok (.iload_n 1, 1) := by decide +kernel
theorem dX5_digest_71 : decode cX5_digest 71 = .ok (.aload_n 0, 1) := by decide +kernel
theorem dX5_digest_72 : decode cX5_digest 72 = .ok (.getfield 47, 3) := by decide +kernel
theorem dX5_digest_75 : decode cX5_digest 75 = .ok (.if_icmp .ge 20, 3) := by decide +kernel
theorem dX5_digest_78 : decode cX5_digest 78 = .ok (.aload_n 0, 1) := by decide +kernel
theorem dX5_digest_79 : decode cX5_digest 79 = .ok (.aload_n 0, 1) := by decide +kernel
theorem dX5_digest_80 : decode cX5_digest 80 = .ok (.getfield 7, 3) := by decide +kernel
theorem dX5_digest_83 : decode cX5_digest 83 = .ok (.iload_n 1, 1) := by decide +kernel
theorem dX5_digest_84 : decode cX5_digest 84 = .ok (.iaload, 1) := by decide +kernel
theorem dX5_digest_85 : decode cX5_digest 85 = .ok (.i2l, 1) := by decide +kernel
theorem dX5_digest_86 : decode cX5_digest 86 = .ok (.invokevirtual 226, 3) := by decide +kernel
theorem dX5_digest_89 : decode cX5_digest 89 = .ok (.iinc 1 1, 3) := by decide +kernel
theorem dX5_digest_92 : decode cX5_digest 92 = .ok (.goto (-22), 3) := by decide +kernel
theorem dX5_digest_95 : decode cX5_digest 95 = .ok (.iconst 0, 1) := by decide +kernel
theorem dX5_digest_96 : decode cX5_digest 96 = .ok (.istore_n 1, 1) := by decide +kernel
theorem dX5_digest_97 : decode cX5_digest 97 = .ok (.iload_n 1, 1) := by decide +kernel
theorem dX5_digest_98 : decode cX5_digest 98 = .ok (.bipush 12, 2) := by decide +kernel
theorem dX5_digest_100 : decode cX5_digest 100 = .ok (.if_icmp .ge 19, 3) := by decide +kernel
theorem dX5_digest_103 : decode cX5_digest 103 = .ok (.aload_n 0, 1) := by decide +kernel
theorem dX5_digest_104 : decode cX5_digest 104 = .ok (.aload_n 0, 1) := by decide +kernel
theorem dX5_digest_105 : decode cX5_digest 105 = .ok (.iload_n 1, 1) := by decide +kernel
theorem dX5_digest_106 : decode cX5_digest 106 = .ok (.invokevirtual 218, 3) := by decide +kernel
theorem dX5_digest_109 : decode cX5_digest 109 = .ok (.i2l, 1) := by decide +kernel
theorem dX5_digest_110 : decode cX5_digest 110 = .ok (.invokevirtual 226, 3) := by decide +kernel
theorem dX5_digest_113 : decode cX5_digest 113 = .ok (.iinc 1 1, 3) := by decide +kernel
theorem dX5_digest_116 : decode cX5_digest 116 = .ok (.goto (-19), 3) := by decide +kernel
theorem dX5_digest_119 : decode cX5_digest 119 = .ok (.aload_n 0, 1) := by decide +kernel
theorem dX5_digest_120 : decode cX5_digest 120 = .ok (.getfield 223, 3) := by decide +kernel
theorem dX5_digest_123 : decode cX5_digest 123 = .ok (.lreturn, 1) := by decide +kernel
