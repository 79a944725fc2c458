theorem dX0_init_0 : decode cX0_init 0 = .ok (.aload_n 0, 1) := by decide +kernel
theorem dX0_init_1 : decode cX0_init 1 = .ok (.invokespecial 3, 3) := by decide +kernel
theorem dX0_init_4 : decode cX0_init 4 = .ok (.aload_n 0, 1) := by decide +kernel
theorem dX0_init_5 : decode cX0_init 5 = .ok (.invokevirtual 9, 3) := by decide +kernel
theorem dX0_init_8 : decode cX0_init 8 = .ok (.return_, 1) := by decide +kernel
theorem dX0_becomeNothing_0 : decode cX0_becomeNothing 0 = .ok (.aload_n 0, 1) := by decide +kernel
theorem dX0_becomeNothing_1 : decode cX0_becomeNothing 1 = .ok (.iconst 0, 1) := by decide +kernel
theorem dX0_becomeNothing_2 : decode cX0_becomeNothing 2 = .ok (.putfield 14, 3) := by decide +kernel
theorem dX0_becomeNothing_5 : decode cX0_becomeNothing 5 = .ok (.aload_n 0, 1) := by decide +kernel
theorem dX0_becomeNothing_6 : decode cX0_becomeNothing 6 = .ok (.iconst (-1), 1) := by decide +kernel
theorem dX0_becomeNothing_7 : decode cX0_becomeNothing 7 = .ok (.putfield 18, 3) := by decide +kernel
theorem dX0_becomeNothing_10 : decode cX0_becomeNothing 10 = .ok (.aload_n 0, 1) := by decide +kernel
theorem dX0_becomeNothing_11 : decode cX0_becomeNothing 11 = .ok (.iconst (-1), 1) := by decide +kernel
theorem dX0_becomeNothing_12 : decode cX0_becomeNothing 12 = .ok (.putfield 21, 3) := by decide +kernel
theorem dX0_becomeNothing_15 : decode cX0_becomeNothing 15 = .ok (.aload_n 0, 1) := by decide +kernel
theorem dX0_becomeNothing_16 : decode cX0_becomeNothing 16 = .ok (.iconst (-1), 1) := by decide +kernel
theorem dX0_becomeNothing_17 : decode cX0_becomeNothing 17 = .ok (.putfield 24, 3) := by decide +kernel
theorem dX0_becomeNothing_20 : decode cX0_becomeNothing 20 = .ok (.aload_n 0, 1) := by decide +kernel
theorem dX0_becomeNothing_21 : decode cX0_becomeNothing 21 = .ok (.iconst (-1), 1) := by decide +kernel
theorem dX0_becomeNothing_22 : decode cX0_becomeNothing 22 = .ok (.putfield 27, 3) := by decide +kernel
theorem dX0_becomeNothing_25 : decode cX0_becomeNothing 25 = .ok (.aload_n 0, 1) := by decide +kernel
theorem dX0_becomeNothing_26 : decode cX0_becomeNothing 26 = .ok (.iconst 0, 1) := by decide +kernel
theorem dX0_becomeNothing_27 : decode cX0_becomeNothing 27 = .ok (.putfield 30, 3) := by decide +kernel
theorem dX0_becomeNothing_30 : decode cX0_becomeNothing 30 = .ok (.return_, 1) := by decide +kernel
theorem dX0_becomeValue_0 : decode cX0_becomeValue 0 = .ok (.aload_n 0, 1) := by decide +kernel
theorem dX0_becomeValue_1 : decode cX0_becomeValue 1 = .ok (.iconst 1, 1) := by decide +kernel
theorem dX0_becomeValue_2 : decode cX0_becomeValue 2 = .ok (.putfield 14, 3) := by decide +kernel
theorem dX0_becomeValue_5 : decode cX0_becomeValue 5 = .ok (.aload_n 0, 1) := by decide +kernel
theorem dX0_becomeValue_6 : decode cX0_becomeValue 6 = .ok (.iload_n 1, 1) := by decide +kernel
theorem dX0_becomeValue_7 : decode cX0_becomeValue 7 = .ok (.putfield 18, 3) := by decide +kernel
theorem dX0_becomeValue_10 : decode cX0_becomeValue 10 = .ok (.aload_n 0, 1) := by decide +kernel
theorem dX0_becomeValue_11 : decode cX0_becomeValue 11 = .ok (.iload_n 2, 1) := by decide +kernel
theorem dX0_becomeValue_12 : decode cX0_becomeValue 12 = .ok (.putfield 21, 3) := by decide +kernel
theorem dX0_becomeValue_15 : decode cX0_becomeValue 15 = .ok (.aload_n 0, 1) := by decide +kernel
theorem dX0_becomeValue_16 : decode cX0_becomeValue 16 = .ok (.iload_n 2, 1) := by decide +kernel
theorem dX0_becomeValue_17 : decode cX0_becomeValue 17 = .ok (.putfield 24, 3) := by decide +kernel
theorem dX0_becomeValue_20 : decode cX0_becomeValue 20 = .ok (.aload_n 0, 1) := by decide +kernel
theorem dX0_becomeValue_21 : decode cX0_becomeValue 21 = .ok (.iconst (-1), 1) := by decide +kernel
theorem dX0_becomeValue_22 : decode cX0_becomeValue 22 = .ok (.putfield 27, 3) := by decide +kernel
theorem dX0_becomeValue_25 : decode cX0_becomeValue 25 = .ok (.aload_n 0, 1) := by decide +kernel
theorem dX0_becomeValue_26 : decode cX0_becomeValue 26 = .ok (.iload_n 3, 1) := by decide +kernel
theorem dX0_becomeValue_27 : decode cX0_becomeValue 27 = .ok (.putfield 30, 3) := by decide +kernel
theorem dX0_becomeValue_30 : decode cX0_becomeValue 30 = .ok (.return_, 1) := by decide +kernel
theorem dX0_becomeCertificate_0 : decode cX0_becomeCertificate 0 = .ok (.aload_n 0, 1) := by decide +kernel
theorem dX0_becomeCertificate_1 : decode cX0_becomeCertificate 1 = .ok (.iconst 2, 1) := by decide +kernel
theorem dX0_becomeCertificate_2 : decode cX0_becomeCertificate 2 = .ok (.putfield 14, 3) := by decide +kernel
theorem dX0_becomeCertificate_5 : decode cX0_becomeCertificate 5 = .ok (.aload_n 0, 1) := by decide +kernel
theorem dX0_becomeCertificate_6 : decode cX0_becomeCertificate 6 = .ok (.iconst (-1), 1) := by decide +kernel
theorem dX0_becomeCertificate_7 : decode cX0_becomeCertificate 7 = .ok (.putfield 18, 3) := by decide +kernel
theorem dX0_becomeCertificate_10 : decode cX0_becomeCertificate 10 = .ok (.aload_n 0, 1) := by decide +kernel
theorem dX0_becomeCertificate_11 : decode cX0_becomeCertificate 11 = .ok (.iload_n 2, 1) := by decide +kernel
theorem dX0_becomeCertificate_12 : decode cX0_becomeCertificate 12 = .ok (.putfield 21, 3) := by decide +kernel
theorem dX0_becomeCertificate_15 : decode cX0_becomeCertificate 15 = .ok (.aload_n 0, 1) := by decide +kernel
theorem dX0_becomeCertificate_16 : decode cX0_becomeCertificate 16 = .ok (.iload_n 2, 1) := by decide +kernel
theorem dX0_becomeCertificate_17 : decode cX0_becomeCertificate 17 = .ok (.putfield 24, 3) := by decide +kernel
theorem dX0_becomeCertificate_20 : decode cX0_becomeCertificate 20 = .ok (.aload_n 0, 1) := by decide +kernel
theorem dX0_becomeCertificate_21 : decode cX0_becomeCertificate 21 = .ok (.iload_n 1, 1) := by decide +kernel
theorem dX0_becomeCertificate_22 : decode cX0_becomeCertificate 22 = .ok (.putfield 27, 3) := by decide +kernel
theorem dX0_becomeCertificate_25 : decode cX0_becomeCertificate 25 = .ok (.aload_n 0, 1) := by decide +kernel
theorem dX0_becomeCertificate_26 : decode cX0_becomeCertificate 26 = .ok (.iload_n 3, 1) := by decide +kernel
theorem dX0_becomeCertificate_27 : decode cX0_becomeCertificate 27 = .ok (.putfield 30, 3) := by decide +kernel
theorem dX0_becomeCertificate_30 : decode cX0_becomeCertificate 30 = .ok (.return_, 1) := by decide +kernel
theorem dX0_becomeCopy_0 : decode cX0_becomeCopy 0 = .ok (.aload_n 0, 1) := by decide +kernel
theorem dX0_becomeCopy_1 : decode cX0_becomeCopy 1 = .ok (.aload_n 1, 1) := by decide +kernel
theorem dX0_becomeCopy_2 : decode cX0_becomeCopy 2 = .ok (.getfield 14, 3) := by decide +kernel
theorem dX0_becomeCopy_5 : decode cX0_becomeCopy 5 = .ok (.putfield 14, 3) := by decide +kernel
theorem dX0_becomeCopy_8 : decode cX0_becomeCopy 8 = .ok (.aload_n 0, 1) := by decide +kernel
theorem dX0_becomeCopy_9 : decode cX0_becomeCopy 9 = .ok (.aload_n 1, 1) := by decide +kernel
theorem dX0_becomeCopy_10 : decode cX0_becomeCopy 10 = .ok (.getfield 18, 3) := by decide +kernel
theorem dX0_becomeCopy_13 : decode cX0_becomeCopy 13 = .ok (.putfield 18, 3) := by decide +kernel
theorem dX0_becomeCopy_16 : decode cX0_becomeCopy 16 = .ok (.aload_n 0, 1) := by decide +kernel
theorem dX0_becomeCopy_17 : decode cX0_becomeCopy 17 = .ok (.aload_n 1, 1) := by decide +kernel
theorem dX0_becomeCopy_18 : decode cX0_becomeCopy 18 = .ok (.getfield 21, 3) := by decide +kernel
theorem dX0_becomeCopy_21 : decode cX0_becomeCopy 21 = .ok (.putfield 21, 3) := by decide +kernel
theorem dX0_becomeCopy_24 : decode cX0_becomeCopy 24 = .ok (.aload_n 0, 1) := by decide +kernel
theorem dX0_becomeCopy_25 : decode cX0_becomeCopy 25 = .ok (.aload_n 1, 1) := by decide +kernel
theorem dX0_becomeCopy_26 : decode cX0_becomeCopy 26 = .ok (.getfield 24, 3) := by decide +kernel
theorem dX0_becomeCopy_29 : decode cX0_becomeCopy 29 = .ok (.putfield 24, 3) := by decide +kernel
theorem dX0_becomeCopy_32 : decode cX0_becomeCopy 32 = .ok (.aload_n 0, 1) := by decide +kernel
theorem dX0_becomeCopy_33 : decode cX0_becomeCopy 33 = .ok (.aload_n 1, 1) := by decide +kernel
theorem dX0_becomeCopy_34 : decode cX0_becomeCopy 34 = .ok (.getfield 27, 3) := by decide +kernel
theorem dX0_becomeCopy_37 : decode cX0_becomeCopy 37 = .ok (.putfield 27, 3) := by decide +kernel
theorem dX0_becomeCopy_40 : decode cX0_becomeCopy 40 = .ok (.aload_n 0, 1) := by decide +kernel
theorem dX0_becomeCopy_41 : decode cX0_becomeCopy 41 = .ok (.iload_n 2, 1) := by decide +kernel
theorem dX0_becomeCopy_42 : decode cX0_becomeCopy 42 = .ok (.putfield 30, 3) := by decide +kernel
theorem dX0_becomeCopy_45 : decode cX0_becomeCopy 45 = .ok (.return_, 1) := by decide +kernel
theorem dX0_isNewer_0 : decode cX0_isNewer 0 = .ok (.aload_n 0, 1) := by decide +kernel
theorem dX0_isNewer_1 : decode cX0_isNewer 1 = .ok (.getfield 21, 3) := by decide +kernel
theorem dX0_isNewer_4 : decode cX0_isNewer 4 = .ok (.aload_n 1, 1) := by decide +kernel
theorem dX0_isNewer_5 : decode cX0_isNewer 5 = .ok (.getfield 21, 3) := by decide +kernel
theorem dX0_isNewer_8 : decode cX0_isNewer 8 = .ok (.if_icmp .gt 25, 3) := by decide +kernel
theorem dX0_isNewer_11 : decode cX0_isNewer 11 = .ok (.aload_n 0, 1) := by decide +kernel
theorem dX0_isNewer_12 : decode cX0_isNewer 12 = .ok (.getfield 21, 3) := by decide +kernel
theorem dX0_isNewer_15 : decode cX0_isNewer 15 = .ok (.aload_n 1, 1) := by decide +kernel
theorem dX0_isNewer_16 : decode cX0_isNewer 16 = .ok (.getfield 21, 3) := by decide +kernel
theorem dX0_isNewer_19 : decode cX0_isNewer 19 = .ok (.if_icmp .ne 18, 3) := by decide +kernel
theorem dX0_isNewer_22 : decode cX0_isNewer 22 = .ok (.aload_n 0, 1) := by decide +kernel
theorem dX0_isNewer_23 : decode cX0_isNewer 23 = .ok (.getfield 24, 3) := by decide +kernel
theorem dX0_isNewer_26 : decode cX0_isNewer 26 = .ok (.aload_n 1, 1) := by decide +kernel
theorem dX0_isNewer_27 : decode cX0_isNewer 27 = .ok (.getfield 24, 3) := by decide +kernel
theorem dX0_isNewer_30 : decode cX0_isNewer 30 = .ok (.if_icmp .le 7, 3) := by decide +kernel
theorem dX0_isNewer_33 : decode cX0_isNewer 33 = .ok (.iconst 1, 1) := by decide +kernel
theorem dX0_isNewer_34 : decode cX0_isNewer 34 = .ok (.goto 4, 3) := by decide +kernel
theorem dX0_isNewer_37 : decode cX0_isNewer 37 = .ok (.iconst 0, 1) := by decide +kernel
theorem dX0_isNewer_38 : decode cX0_isNewer 38 = .ok (.ireturn, 1) := by decide +kernel
theorem dX0_isItemBelow_0 : decode cX0_isItemBelow 0 = .ok (.aload_n 0, 1) := by decide +kernel
theorem dX0_isItemBelow_1 : decode cX0_isItemBelow 1 = .ok (.getfield 14, 3) := by decide +kernel
theorem dX0_isItemBelow_4 : decode cX0_isItemBelow 4 = .ok (.ifCond .eq 15, 3) := by decide +kernel
theorem dX0_isItemBelow_7 : decode cX0_isItemBelow 7 = .ok (.aload_n 0, 1) := by decide +kernel
theorem dX0_isItemBelow_8 : decode cX0_isItemBelow 8 = .ok (.getfield 21, 3) := by decide +kernel
theorem dX0_isItemBelow_11 : decode cX0_isItemBelow 11 = .ok (.iload_n 1, 1) := by decide +kernel
theorem dX0_isItemBelow_12 : decode cX0_isItemBelow 12 = .ok (.if_icmp .ge 7, 3) := by decide +kernel
theorem dX0_isItemBelow_15 : decode cX0_isItemBelow 15 = .ok (.iconst 1, 1) := by decide +kernel
theorem dX0_isItemBelow_16 : decode cX0_isItemBelow 16 = .ok (.goto 4, 3) := by decide +kernel
theorem dX0_isItemBelow_19 : decode cX0_isItemBelow 19 = .ok (.iconst 0, 1) := by decide +kernel
theorem dX0_isItemBelow_20 : decode cX0_isItemBelow 20 = .ok (.ireturn, 1) := by decide +kernel
theorem dX1_init_0 : decode cX1_init 0 = .ok (.aload_n 0, 1) := by decide +kernel
theorem dX1_init_1 : decode cX1_init 1 = .ok (.invokespecial 3, 3) := by decide +kernel
theorem dX1_init_4 : decode cX1_init 4 = .ok (.aload_n 0, 1) := by decide +kernel
theorem dX1_init_5 : decode cX1_init 5 = .ok (.bipush 6, 2) := by decide +kernel
theorem dX1_init_7 : decode cX1_init 7 = .ok (.newarray .int, 2) := by decide +kernel
theorem dX1_init_9 : decode cX1_init 9 = .ok (.putfield 9, 3) := by decide +kernel
theorem dX1_init_12 : decode cX1_init 12 = .ok (.return_, 1) := by decide +kernel
theorem dX1_append_0 : decode cX1_append 0 = .ok (.aload_n 0, 1) := by decide +kernel
theorem dX1_append_1 : decode cX1_append 1 = .ok (.getfield 15, 3) := by decide +kernel
theorem dX1_append_4 : decode cX1_append 4 = .ok (.bipush 6, 2) := by decide +kernel
theorem dX1_append_6 : decode cX1_append 6 = .ok (.if_icmp .ge 23, 3) := by decide +kernel
theorem dX1_append_9 : decode cX1_append 9 = .ok (.aload_n 0, 1) := by decide +kernel
theorem dX1_append_10 : decode cX1_append 10 = .ok (.getfield 9, 3) := by decide +kernel
theorem dX1_append_13 : decode cX1_append 13 = .ok (.aload_n 0, 1) := by decide +kernel
theorem dX1_append_14 : decode cX1_append 14 = .ok (.getfield 15, 3) := by decide +kernel
theorem dX1_append_17 : decode cX1_append 17 = .ok (.iload_n 1, 1) := by decide +kernel
theorem dX1_append_18 : decode cX1_append 18 = .ok (.iastore, 1) := by decide +kernel
theorem dX1_append_19 : decode cX1_append 19 = .ok (.aload_n 0, 1) := by decide +kernel
theorem dX1_append_20 : decode cX1_append 20 = .ok (.dup, 1) := by decide +kernel
theorem dX1_append_21 : decode cX1_append 21 = .ok (.getfield 15, 3) := by decide +kernel
theorem dX1_append_24 : decode cX1_append 24 = .ok (.iconst 1, 1) := by decide +kernel
theorem dX1_append_25 : decode cX1_append 25 = .ok (.iadd, 1) := by decide +kernel
theorem dX1_append_26 : decode cX1_append 26 = .ok (.putfield 15, 3) := by decide +kernel
theorem dX1_append_29 : decode cX1_append 29 = .ok (.return_, 1) := by decide +kernel
theorem dX1_firstWrongPlace_0 : decode cX1_firstWrongPlace 0 = .ok (.bipush 48, 2) := by decide +kernel
theorem dX1_firstWrongPlace_2 : decode cX1_firstWrongPlace 2 = .ok (.istore_n 1, 1) := by decide +kernel
theorem dX1_firstWrongPlace_3 : decode cX1_firstWrongPlace 3 = .ok (.iconst 0, 1) := by decide +kernel
theorem dX1_firstWrongPlace_4 : decode cX1_firstWrongPlace 4 = .ok (.istore_n 2, 1) := by decide +kernel
theorem dX1_firstWrongPlace_5 : decode cX1_firstWrongPlace 5 = .ok (.iload_n 2, 1) := by decide +kernel
theorem dX1_firstWrongPlace_6 : decode cX1_firstWrongPlace 6 = .ok (.aload_n 0, 1) := by decide +kernel
theorem dX1_firstWrongPlace_7 : decode cX1_firstWrongPlace 7 = .ok (.getfield 15, 3) := by decide +kernel
theorem dX1_firstWrongPlace_10 : decode cX1_firstWrongPlace 10 = .ok (.if_icmp .ge 31, 3) := by decide +kernel
theorem dX1_firstWrongPlace_13 : decode cX1_firstWrongPlace 13 = .ok (.aload_n 0, 1) := by decide +kernel
theorem dX1_firstWrongPlace_14 : decode cX1_firstWrongPlace 14 = .ok (.getfield 9, 3) := by decide +kernel
theorem dX1_firstWrongPlace_17 : decode cX1_firstWrongPlace 17 = .ok (.iload_n 2, 1) := by decide +kernel
theorem dX1_firstWrongPlace_18 : decode cX1_firstWrongPlace 18 = .ok (.iaload, 1) := by decide +kernel
theorem dX1_firstWrongPlace_19 : decode cX1_firstWrongPlace 19 = .ok (.istore_n 3, 1) := by decide +kernel
theorem dX1_firstWrongPlace_20 : decode cX1_firstWrongPlace 20 = .ok (.iload_n 3, 1) := by decide +kernel
theorem dX1_firstWrongPlace_21 : decode cX1_firstWrongPlace 21 = .ok (.iload_n 1, 1) := by decide +kernel
theorem dX1_firstWrongPlace_22 : decode cX1_firstWrongPlace 22 = .ok (.if_icmp .lt 9, 3) := by decide +kernel
theorem dX1_firstWrongPlace_25 : decode cX1_firstWrongPlace 25 = .ok (.iload_n 3, 1) := by decide +kernel
theorem dX1_firstWrongPlace_26 : decode cX1_firstWrongPlace 26 = .ok (.bipush 57, 2) := by decide +kernel
theorem dX1_firstWrongPlace_28 : decode cX1_firstWrongPlace 28 = .ok (.if_icmp .le 5, 3) := by decide +kernel
theorem dX1_firstWrongPlace_31 : decode cX1_firstWrongPlace 31 = .ok (.iload_n 2, 1) := by decide +kernel
theorem dX1_firstWrongPlace_32 : decode cX1_firstWrongPlace 32 = .ok (.ireturn, 1) := by decide +kernel
theorem dX1_firstWrongPlace_33 : decode cX1_firstWrongPlace 33 = .ok (.iload_n 3, 1) := by decide +kernel
theorem dX1_firstWrongPlace_34 : decode cX1_firstWrongPlace 34 = .ok (.istore_n 1, 1) := by decide +kernel
theorem dX1_firstWrongPlace_35 : decode cX1_firstWrongPlace 35 = .ok (.iinc 2 1, 3) := by decide +kernel
theorem dX1_firstWrongPlace_38 : decode cX1_firstWrongPlace 38 = .ok (.goto (-33), 3) := by decide +kernel
theorem dX1_firstWrongPlace_41 : decode cX1_firstWrongPlace 41 = .ok (.aload_n 0, 1) := by decide +kernel
theorem dX1_firstWrongPlace_42 : decode cX1_firstWrongPlace 42 = .ok (.getfield 15, 3) := by decide +kernel
theorem dX1_firstWrongPlace_45 : decode cX1_firstWrongPlace 45 = .ok (.ireturn, 1) := by decide +kernel
theorem dX1_isLine_0 : decode cX1_isLine 0 = .ok (.aload_n 0, 1) := by decide +kernel
theorem dX1_isLine_1 : decode cX1_isLine 1 = .ok (.getfield 15, 3) := by decide +kernel
theorem dX1_isLine_4 : decode cX1_isLine 4 = .ok (.iconst 2, 1) := by decide +kernel
theorem dX1_isLine_5 : decode cX1_isLine 5 = .ok (.if_icmp .lt 18, 3) := by decide +kernel
theorem dX1_isLine_8 : decode cX1_isLine 8 = .ok (.aload_n 0, 1) := by decide +kernel
theorem dX1_isLine_9 : decode cX1_isLine 9 = .ok (.invokevirtual 19, 3) := by decide +kernel
theorem dX1_isLine_12 : decode cX1_isLine 12 = .ok (.aload_n 0, 1) := by decide +kernel
theorem dX1_isLine_13 : decode cX1_isLine 13 = .ok (.getfield 15, 3) := by decide +kernel
theorem dX1_isLine_16 : decode cX1_isLine 16 = .ok (.if_icmp .ne 7, 3) := by decide +kernel
theorem dX1_isLine_19 : decode cX1_isLine 19 = .ok (.iconst 1, 1) := by decide +kernel
theorem dX1_isLine_20 : decode cX1_isLine 20 = .ok (.goto 4, 3) := by decide +kernel
theorem dX1_isLine_23 : decode cX1_isLine 23 = .ok (.iconst 0, 1) := by decide +kernel
theorem dX1_isLine_24 : decode cX1_isLine 24 = .ok (.ireturn, 1) := by decide +kernel
theorem dX2_init_0 : decode cX2_init 0 = .ok (.aload_n 0, 1) := by decide +kernel
theorem dX2_init_1 : decode cX2_init 1 = .ok (.invokespecial 3, 3) := by decide +kernel
theorem dX2_init_4 : decode cX2_init 4 = .ok (.aload_n 0, 1) := by decide +kernel
theorem dX2_init_5 : decode cX2_init 5 = .ok (.new 9, 3) := by decide +kernel
theorem dX2_init_8 : decode cX2_init 8 = .ok (.dup, 1) := by decide +kernel
theorem dX2_init_9 : decode cX2_init 9 = .ok (.invokespecial 11, 3) := by decide +kernel
theorem dX2_init_12 : decode cX2_init 12 = .ok (.putfield 12, 3) := by decide +kernel
theorem dX2_init_15 : decode cX2_init 15 = .ok (.return_, 1) := by decide +kernel
theorem dX2_run_0 : decode cX2_run 0 = .ok (.aload_n 0, 1) := by decide +kernel
theorem dX2_run_1 : decode cX2_run 1 = .ok (.getfield 12, 3) := by decide +kernel
theorem dX2_run_4 : decode cX2_run 4 = .ok (.aload_n 1, 1) := by decide +kernel
theorem dX2_run_5 : decode cX2_run 5 = .ok (.invokevirtual 18, 3) := by decide +kernel
theorem dX2_run_8 : decode cX2_run 8 = .ok (.aload_n 0, 1) := by decide +kernel
theorem dX2_run_9 : decode cX2_run 9 = .ok (.iload_n 2, 1) := by decide +kernel
theorem dX2_run_10 : decode cX2_run 10 = .ok (.putfield 22, 3) := by decide +kernel
theorem dX2_run_13 : decode cX2_run 13 = .ok (.aload_n 0, 1) := by decide +kernel
theorem dX2_run_14 : decode cX2_run 14 = .ok (.getfield 12, 3) := by decide +kernel
theorem dX2_run_17 : decode cX2_run 17 = .ok (.invokevirtual 26, 3) := by decide +kernel
theorem dX2_run_20 : decode cX2_run 20 = .ok (.istore 4, 2) := by decide +kernel
theorem dX2_run_22 : decode cX2_run 22 = .ok (.iconst 0, 1) := by decide +kernel
theorem dX2_run_23 : decode cX2_run 23 = .ok (.istore 5, 2) := by decide +kernel
theorem dX2_run_25 : decode cX2_run 25 = .ok (.iload 4, 2) := by decide +kernel
theorem dX2_run_27 : decode cX2_run 27 = .ok (.ifCond .ne 30, 3) := by decide +kernel
theorem dX2_run_30 : decode cX2_run 30 = .ok (.iload 5, 2) := by decide +kernel
theorem dX2_run_32 : decode cX2_run 32 = .ok (.bipush 40, 2) := by decide +kernel
theorem dX2_run_34 : decode cX2_run 34 = .ok (.if_icmp .ge 23, 3) := by decide +kernel
theorem dX2_run_37 : decode cX2_run 37 = .ok (.aload_n 0, 1) := by decide +kernel
theorem dX2_run_38 : decode cX2_run 38 = .ok (.iload_n 3, 1) := by decide +kernel
theorem dX2_run_39 : decode cX2_run 39 = .ok (.invokevirtual 30, 3) := by decide +kernel
theorem dX2_run_42 : decode cX2_run 42 = .ok (.iinc 5 1, 3) := by decide +kernel
theorem dX2_run_45 : decode cX2_run 45 = .ok (.aload_n 0, 1) := by decide +kernel
theorem dX2_run_46 : decode cX2_run 46 = .ok (.getfield 12, 3) := by decide +kernel
theorem dX2_run_49 : decode cX2_run 49 = .ok (.invokevirtual 26, 3) := by decide +kernel
theorem dX2_run_52 : decode cX2_run 52 = .ok (.istore 4, 2) := by decide +kernel
theorem dX2_run_54 : decode cX2_run 54 = .ok (.goto (-29), 3) := by decide +kernel
theorem dX2_run_57 : decode cX2_run 57 = .ok (.aload_n 0, 1) := by decide +kernel
theorem dX2_run_58 : decode cX2_run 58 = .ok (.iload 4, 2) := by decide +kernel
theorem dX2_run_60 : decode cX2_run 60 = .ok (.ifCond .eq 8, 3) := by decide +kernel
theorem dX2_run_63 : decode cX2_run 63 = .ok (.iload 5, 2) := by decide +kernel
theorem dX2_run_65 : decode cX2_run 65 = .ok (.goto 4, 3) := by decide +kernel
theorem dX2_run_68 : decode cX2_run 68 = .ok (.iconst (-1), 1) := by decide +kernel
theorem dX2_run_69 : decode cX2_run 69 = .ok (.putfield 34, 3) := by decide +kernel
theorem dX2_run_72 : decode cX2_run 72 = .ok (.return_, 1) := by decide +kernel
theorem dX2_playRound_0 : decode cX2_playRound 0 = .ok (.aload_n 0, 1) := by decide +kernel
theorem dX2_playRound_1 : decode cX2_playRound 1 = .ok (.getfield 12, 3) := by decide +kernel
theorem dX2_playRound_4 : decode cX2_playRound 4 = .ok (.iconst 1, 1) := by decide +kernel
theorem dX2_playRound_5 : decode cX2_playRound 5 = .ok (.invokevirtual 37, 3) := by decide +kernel
theorem dX2_playRound_8 : decode cX2_playRound 8 = .ok (.pop, 1) := by decide +kernel
theorem dX2_playRound_9 : decode cX2_playRound 9 = .ok (.iconst 0, 1) := by decide +kernel
theorem dX2_playRound_10 : decode cX2_playRound 10 = .ok (.istore_n 2, 1) := by decide +kernel
theorem dX2_playRound_11 : decode cX2_playRound 11 = .ok (.iload_n 2, 1) := by decide +kernel
theorem dX2_playRound_12 : decode cX2_playRound 12 = .ok (.aload_n 0, 1) := by decide +kernel
theorem dX2_playRound_13 : decode cX2_playRound 13 = .ok (.getfield 12, 3) := by decide +kernel
theorem dX2_playRound_16 : decode cX2_playRound 16 = .ok (.getfield 41, 3) := by decide +kernel
theorem dX2_playRound_19 : decode cX2_playRound 19 = .ok (.if_icmp .ge 93, 3) := by decide +kernel
theorem dX2_playRound_22 : decode cX2_playRound 22 = .ok (.aload_n 0, 1) := by decide +kernel
theorem dX2_playRound_23 : decode cX2_playRound 23 = .ok (.getfield 12, 3) := by decide +kernel
theorem dX2_playRound_26 : decode cX2_playRound 26 = .ok (.iload_n 2, 1) := by decide +kernel
theorem dX2_playRound_27 : decode cX2_playRound 27 = .ok (.invokevirtual 44, 3) := by decide +kernel
theorem dX2_playRound_30 : decode cX2_playRound 30 = .ok (.ifCond .ne 76, 3) := by decide +kernel
theorem dX2_playRound_33 : decode cX2_playRound 33 = .ok (.aload_n 0, 1) := by decide +kernel
theorem dX2_playRound_34 : decode cX2_playRound 34 = .ok (.getfield 12, 3) := by decide +kernel
theorem dX2_playRound_37 : decode cX2_playRound 37 = .ok (.iload_n 2, 1) := by decide +kernel
theorem dX2_playRound_38 : decode cX2_playRound 38 = .ok (.invokevirtual 48, 3) := by decide +kernel
theorem dX2_playRound_41 : decode cX2_playRound 41 = .ok (.ifCond .ne 6, 3) := by decide +kernel
theorem dX2_playRound_44 : decode cX2_playRound 44 = .ok (.goto 62, 3) := by decide +kernel
theorem dX2_playRound_47 : decode cX2_playRound 47 = .ok (.aload_n 0, 1) := by decide +kernel
theorem dX2_playRound_48 : decode cX2_playRound 48 = .ok (.aload_n 0, 1) := by decide +kernel
theorem dX2_playRound_49 : decode cX2_playRound 49 = .ok (.getfield 22, 3) := by decide +kernel
theorem dX2_playRound_52 : decode cX2_playRound 52 = .ok (.invokestatic 51, 3) := by decide +kernel
theorem dX2_playRound_55 : decode cX2_playRound 55 = .ok (.putfield 22, 3) := by decide +kernel
theorem dX2_playRound_58 : decode cX2_playRound 58 = .ok (.aload_n 0, 1) := by decide +kernel
theorem dX2_playRound_59 : decode cX2_playRound 59 = .ok (.getfield 12, 3) := by decide +kernel
theorem dX2_playRound_62 : decode cX2_playRound 62 = .ok (.iload_n 2, 1) := by decide +kernel
theorem dX2_playRound_63 : decode cX2_playRound 63 = .ok (.aload_n 0, 1) := by decide +kernel
theorem dX2_playRound_64 : decode cX2_playRound 64 = .ok (.getfield 22, 3) := by decide +kernel
theorem dX2_playRound_67 : decode cX2_playRound 67 = .ok (.invokevirtual 54, 3) := by decide +kernel
theorem dX2_playRound_70 : decode cX2_playRound 70 = .ok (.istore_n 3, 1) := by decide +kernel
theorem dX2_playRound_71 : decode cX2_playRound 71 = .ok (.iload_n 3, 1) := by decide +kernel
theorem dX2_playRound_72 : decode cX2_playRound 72 = .ok (.iconst (-1), 1) := by decide +kernel
theorem dX2_playRound_73 : decode cX2_playRound 73 = .ok (.if_icmp .ne 6, 3) := by decide +kernel
theorem dX2_playRound_76 : decode cX2_playRound 76 = .ok (.goto 30, 3) := by decide +kernel
theorem dX2_playRound_79 : decode cX2_playRound 79 = .ok (.iload_n 1, 1) := by decide +kernel
theorem dX2_playRound_80 : decode cX2_playRound 80 = .ok (.ifCond .eq 16, 3) := by decide +kernel
theorem dX2_playRound_83 : decode cX2_playRound 83 = .ok (.aload_n 0, 1) := by decide +kernel
theorem dX2_playRound_84 : decode cX2_playRound 84 = .ok (.getfield 12, 3) := by decide +kernel
theorem dX2_playRound_87 : decode cX2_playRound 87 = .ok (.iload_n 2, 1) := by decide +kernel
theorem dX2_playRound_88 : decode cX2_playRound 88 = .ok (.iload_n 3, 1) := by decide +kernel
theorem dX2_playRound_89 : decode cX2_playRound 89 = .ok (.invokevirtual 58, 3) := by decide +kernel
theorem dX2_playRound_92 : decode cX2_playRound 92 = .ok (.pop, 1) := by decide +kernel
theorem dX2_playRound_93 : decode cX2_playRound 93 = .ok (.goto 13, 3) := by decide +kernel
theorem dX2_playRound_96 : decode cX2_playRound 96 = .ok (.aload_n 0, 1) := by decide +kernel
theorem dX2_playRound_97 : decode cX2_playRound 97 = .ok (.getfield 12, 3) := by decide +kernel
theorem dX2_playRound_100 : decode cX2_playRound 100 = .ok (.iload_n 2, 1) := by decide +kernel
theorem dX2_playRound_101 : decode cX2_playRound 101 = .ok (.iload_n 3, 1) := by decide +kernel
theorem dX2_playRound_102 : decode cX2_playRound 102 = .ok (.invokevirtual 61, 3) := by decide +kernel
theorem dX2_playRound_105 : decode cX2_playRound 105 = .ok (.pop, 1) := by decide +kernel
theorem dX2_playRound_106 : decode cX2_playRound 106 = .ok (.iinc 2 1, 3) := by decide +kernel
theorem dX2_playRound_109 : decode cX2_playRound 109 = .ok (.goto (-98), 3) := by decide +kernel
theorem dX2_playRound_112 : decode cX2_playRound 112 = .ok (.return_, 1) := by decide +kernel
theorem dX2_outcome_0 : decode cX2_outcome 0 = .ok (.iload_n 1, 1) := by decide +kernel
theorem dX2_outcome_1 : decode cX2_outcome 1 = .ok (.lookupswitch 40 #[(0, 27), (1, 32)], 27) := by decide +kernel
theorem dX2_outcome_28 : decode cX2_outcome 28 = .ok (.aload_n 0, 1) := by decide +kernel
theorem dX2_outcome_29 : decode cX2_outcome 29 = .ok (.getfield 34, 3) := by decide +kernel
theorem dX2_outcome_32 : decode cX2_outcome 32 = .ok (.ireturn, 1) := by decide +kernel
theorem dX2_outcome_33 : decode cX2_outcome 33 = .ok (.aload_n 0, 1) := by decide +kernel
theorem dX2_outcome_34 : decode cX2_outcome 34 = .ok (.getfield 12, 3) := by decide +kernel
theorem dX2_outcome_37 : decode cX2_outcome 37 = .ok (.getfield 64, 3) := by decide +kernel
theorem dX2_outcome_40 : decode cX2_outcome 40 = .ok (.ireturn, 1) := by decide +kernel
theorem dX2_outcome_41 : decode cX2_outcome 41 = .ok (.aload_n 0, 1) := by decide +kernel
theorem dX2_outcome_42 : decode cX2_outcome 42 = .ok (.getfield 22, 3) := by decide +kernel
theorem dX2_outcome_45 : decode cX2_outcome 45 = .ok (.ireturn, 1) := by decide +kernel
theorem dJ6_bitCount_0f7a4_0 : decode cJ6_bitCount_0f7a4 0 = .ok (.iload_n 0, 1) := by decide +kernel
theorem dJ6_bitCount_0f7a4_1 : decode cJ6_bitCount_0f7a4 1 = .ok (.iload_n 0, 1) := by decide +kernel
theorem dJ6_bitCount_0f7a4_2 : decode cJ6_bitCount_0f7a4 2 = .ok (.iconst 1, 1) := by decide +kernel
theorem dJ6_bitCount_0f7a4_3 : decode cJ6_bitCount_0f7a4 3 = .ok (.iushr, 1) := by decide +kernel
theorem dJ6_bitCount_0f7a4_4 : decode cJ6_bitCount_0f7a4 4 = .ok (.ldc_w 265, 3) := by decide +kernel
theorem dJ6_bitCount_0f7a4_7 : decode cJ6_bitCount_0f7a4 7 = .ok (.iand, 1) := by decide +kernel
theorem dJ6_bitCount_0f7a4_8 : decode cJ6_bitCount_0f7a4 8 = .ok (.isub, 1) := by decide +kernel
theorem dJ6_bitCount_0f7a4_9 : decode cJ6_bitCount_0f7a4 9 = .ok (.istore_n 0, 1) := by decide +kernel
theorem dJ6_bitCount_0f7a4_10 : decode cJ6_bitCount_0f7a4 10 = .ok (.iload_n 0, 1) := by decide +kernel
theorem dJ6_bitCount_0f7a4_11 : decode cJ6_bitCount_0f7a4 11 = .ok (.ldc_w 266, 3) := by decide +kernel
theorem dJ6_bitCount_0f7a4_14 : decode cJ6_bitCount_0f7a4 14 = .ok (.iand, 1) := by decide +kernel
theorem dJ6_bitCount_0f7a4_15 : decode cJ6_bitCount_0f7a4 15 = .ok (.iload_n 0, 1) := by decide +kernel
theorem dJ6_bitCount_0f7a4_16 : decode cJ6_bitCount_0f7a4 16 = .ok (.iconst 2, 1) := by decide +kernel
theorem dJ6_bitCount_0f7a4_17 : decode cJ6_bitCount_0f7a4 17 = .ok (.iushr, 1) := by decide +kernel
theorem dJ6_bitCount_0f7a4_18 : decode cJ6_bitCount_0f7a4 18 = .ok (.ldc_w 266, 3) := by decide +kernel
theorem dJ6_bitCount_0f7a4_21 : decode cJ6_bitCount_0f7a4 21 = .ok (.iand, 1) := by decide +kernel
theorem dJ6_bitCount_0f7a4_22 : decode cJ6_bitCount_0f7a4 22 = .ok (.iadd, 1) := by decide +kernel
theorem dJ6_bitCount_0f7a4_23 : decode cJ6_bitCount_0f7a4 23 = .ok (.istore_n 0, 1) := by decide +kernel
theorem dJ6_bitCount_0f7a4_24 : decode cJ6_bitCount_0f7a4 24 = .ok (.iload_n 0, 1) := by decide +kernel
theorem dJ6_bitCount_0f7a4_25 : decode cJ6_bitCount_0f7a4 25 = .ok (.iload_n 0, 1) := by decide +kernel
theorem dJ6_bitCount_0f7a4_26 : decode cJ6_bitCount_0f7a4 26 = .ok (.iconst 4, 1) := by decide +kernel
theorem dJ6_bitCount_0f7a4_27 : decode cJ6_bitCount_0f7a4 27 = .ok (.iushr, 1) := by decide +kernel
theorem dJ6_bitCount_0f7a4_28 : decode cJ6_bitCount_0f7a4 28 = .ok (.iadd, 1) := by decide +kernel
theorem dJ6_bitCount_0f7a4_29 : decode cJ6_bitCount_0f7a4 29 = .ok (.ldc_w 267, 3) := by decide +kernel
theorem dJ6_bitCount_0f7a4_32 : decode cJ6_bitCount_0f7a4 32 = .ok (.iand, 1) := by decide +kernel
theorem dJ6_bitCount_0f7a4_33 : decode cJ6_bitCount_0f7a4 33 = .ok (.istore_n 0, 1) := by decide +kernel
theorem dJ6_bitCount_0f7a4_34 : decode cJ6_bitCount_0f7a4 34 = .ok (.iload_n 0, 1) := by decide +kernel
theorem dJ6_bitCount_0f7a4_35 : decode cJ6_bitCount_0f7a4 35 = .ok (.iload_n 0, 1) := by decide +kernel
theorem dJ6_bitCount_0f7a4_36 : decode cJ6_bitCount_0f7a4 36 = .ok (.bipush 8, 2) := by decide +kernel
theorem dJ6_bitCount_0f7a4_38 : decode cJ6_bitCount_0f7a4 38 = .ok (.iushr, 1) := by decide +kernel
theorem dJ6_bitCount_0f7a4_39 : decode cJ6_bitCount_0f7a4 39 = .ok (.iadd, 1) := by decide +kernel
theorem dJ6_bitCount_0f7a4_40 : decode cJ6_bitCount_0f7a4 40 = .ok (.istore_n 0, 1) := by decide +kernel
theorem dJ6_bitCount_0f7a4_41 : decode cJ6_bitCount_0f7a4 41 = .ok (.iload_n 0, 1) := by decide +kernel
theorem dJ6_bitCount_0f7a4_42 : decode cJ6_bitCount_0f7a4 42 = .ok (.iload_n 0, 1) := by decide +kernel
theorem dJ6_bitCount_0f7a4_43 : decode cJ6_bitCount_0f7a4 43 = .ok (.bipush 16, 2) := by decide +kernel
theorem dJ6_bitCount_0f7a4_45 : decode cJ6_bitCount_0f7a4 45 = .ok (.iushr, 1) := by decide +kernel
theorem dJ6_bitCount_0f7a4_46 : decode cJ6_bitCount_0f7a4 46 = .ok (.iadd, 1) := by decide +kernel
theorem dJ6_bitCount_0f7a4_47 : decode cJ6_bitCount_0f7a4 47 = .ok (.istore_n 0, 1) := by decide +kernel
theorem dJ6_bitCount_0f7a4_48 : decode cJ6_bitCount_0f7a4 48 = .ok (.iload_n 0, 1) := by decide +kernel
theorem dJ6_bitCount_0f7a4_49 : decode cJ6_bitCount_0f7a4 49 = .ok (.bipush 63, 2) := by decide +kernel
theorem dJ6_bitCount_0f7a4_51 : decode cJ6_bitCount_0f7a4 51 = .ok (.iand, 1) := by decide +kernel
theorem dJ6_bitCount_0f7a4_52 : decode cJ6_bitCount_0f7a4 52 = .ok (.ireturn, 1) := by decide +kernel
theorem dJ9_abs_0f7a4_0 : decode cJ9_abs_0f7a4 0 = .ok (.iload_n 0, 1) := by decide +kernel
theorem dJ9_abs_0f7a4_1 : decode cJ9_abs_0f7a4 1 = .ok (.ifCond .ge 8, 3) := by decide +kernel
theorem dJ9_abs_0f7a4_4 : decode cJ9_abs_0f7a4 4 = .ok (.iload_n 0, 1) := by decide +kernel
theorem dJ9_abs_0f7a4_5 : decode cJ9_abs_0f7a4 5 = .ok (.ineg, 1) := by decide +kernel
theorem dJ9_abs_0f7a4_6 : decode cJ9_abs_0f7a4 6 = .ok (.goto 4, 3) := by decide +kernel
theorem dJ9_abs_0f7a4_9 : decode cJ9_abs_0f7a4 9 = .ok (.iload_n 0, 1) := by decide +kernel
theorem dJ9_abs_0f7a4_10 : decode cJ9_abs_0f7a4 10 = .ok (.ireturn, 1) := by decide +kernel
theorem dX3_init_0 : decode cX3_init 0 = .ok (.aload_n 0, 1) := by decide +kernel
theorem dX3_init_1 : decode cX3_init 1 = .ok (.invokespecial 3, 3) := by decide +kernel
theorem dX3_init_4 : decode cX3_init 4 = .ok (.aload_n 0, 1) := by decide +kernel
theorem dX3_init_5 : decode cX3_init 5 = .ok (.iconst 4, 1) := by decide +kernel
theorem dX3_init_6 : decode cX3_init 6 = .ok (.newarray .int, 2) := by decide +kernel
theorem dX3_init_8 : decode cX3_init 8 = .ok (.dup, 1) := by decide +kernel
theorem dX3_init_9 : decode cX3_init 9 = .ok (.iconst 0, 1) := by decide +kernel
theorem dX3_init_10 : decode cX3_init 10 = .ok (.bipush 10, 2) := by decide +kernel
theorem dX3_init_12 : decode cX3_init 12 = .ok (.iastore, 1) := by decide +kernel
theorem dX3_init_13 : decode cX3_init 13 = .ok (.dup, 1) := by decide +kernel
theorem dX3_init_14 : decode cX3_init 14 = .ok (.iconst 1, 1) := by decide +kernel
theorem dX3_init_15 : decode cX3_init 15 = .ok (.bipush 40, 2) := by decide +kernel
theorem dX3_init_17 : decode cX3_init 17 = .ok (.iastore, 1) := by decide +kernel
theorem dX3_init_18 : decode cX3_init 18 = .ok (.dup, 1) := by decide +kernel
theorem dX3_init_19 : decode cX3_init 19 = .ok (.iconst 2, 1) := by decide +kernel
theorem dX3_init_20 : decode cX3_init 20 = .ok (.iconst 2, 1) := by decide +kernel
theorem dX3_init_21 : decode cX3_init 21 = .ok (.iastore, 1) := by decide +kernel
theorem dX3_init_22 : decode cX3_init 22 = .ok (.dup, 1) := by decide +kernel
theorem dX3_init_23 : decode cX3_init 23 = .ok (.iconst 3, 1) := by decide +kernel
theorem dX3_init_24 : decode cX3_init 24 = .ok (.iconst 5, 1) := by decide +kernel
theorem dX3_init_25 : decode cX3_init 25 = .ok (.iastore, 1) := by decide +kernel
theorem dX3_init_26 : decode cX3_init 26 = .ok (.putfield 9, 3) := by decide +kernel
theorem dX3_init_29 : decode cX3_init 29 = .ok (.aload_n 0, 1) := by decide +kernel
theorem dX3_init_30 : decode cX3_init 30 = .ok (.bipush 6, 2) := by decide +kernel
theorem dX3_init_32 : decode cX3_init 32 = .ok (.newarray .int, 2) := by decide +kernel
theorem dX3_init_34 : decode cX3_init 34 = .ok (.putfield 15, 3) := by decide +kernel
theorem dX3_init_37 : decode cX3_init 37 = .ok (.aload_n 0, 1) := by decide +kernel
theorem dX3_init_38 : decode cX3_init 38 = .ok (.bipush 24, 2) := by decide +kernel
theorem dX3_init_40 : decode cX3_init 40 = .ok (.anewarray 18, 3) := by decide +kernel
theorem dX3_init_43 : decode cX3_init 43 = .ok (.putfield 20, 3) := by decide +kernel
theorem dX3_init_46 : decode cX3_init 46 = .ok (.aload_n 0, 1) := by decide +kernel
theorem dX3_init_47 : decode cX3_init 47 = .ok (.iconst 4, 1) := by decide +kernel
theorem dX3_init_48 : decode cX3_init 48 = .ok (.newarray .int, 2) := by decide +kernel
theorem dX3_init_50 : decode cX3_init 50 = .ok (.putfield 24, 3) := by decide +kernel
theorem dX3_init_53 : decode cX3_init 53 = .ok (.iconst 0, 1) := by decide +kernel
theorem dX3_init_54 : decode cX3_init 54 = .ok (.istore_n 1, 1) := by decide +kernel
theorem dX3_init_55 : decode cX3_init 55 = .ok (.iload_n 1, 1) := by decide +kernel
theorem dX3_init_56 : decode cX3_init 56 = .ok (.aload_n 0, 1) := by decide +kernel
theorem dX3_init_57 : decode cX3_init 57 = .ok (.getfield 20, 3) := by decide +kernel
theorem dX3_init_60 : decode cX3_init 60 = .ok (.arraylength, 1) := by decide +kernel
theorem dX3_init_61 : decode cX3_init 61 = .ok (.if_icmp .ge 22, 3) := by decide +kernel
theorem dX3_init_64 : decode cX3_init 64 = .ok (.aload_n 0, 1) := by decide +kernel
theorem dX3_init_65 : decode cX3_init 65 = .ok (.getfield 20, 3) := by decide +kernel
theorem dX3_init_68 : decode cX3_init 68 = .ok (.iload_n 1, 1) := by decide +kernel
theorem dX3_init_69 : decode cX3_init 69 = .ok (.new 18, 3) := by decide +kernel
theorem dX3_init_72 : decode cX3_init 72 = .ok (.dup, 1) := by decide +kernel
theorem dX3_init_73 : decode cX3_init 73 = .ok (.invokespecial 27, 3) := by decide +kernel
theorem dX3_init_76 : decode cX3_init 76 = .ok (.aastore, 1) := by decide +kernel
theorem dX3_init_77 : decode cX3_init 77 = .ok (.iinc 1 1, 3) := by decide +kernel
theorem dX3_init_80 : decode cX3_init 80 = .ok (.goto (-25), 3) := by decide +kernel
theorem dX3_init_83 : decode cX3_init 83 = .ok (.return_, 1) := by decide +kernel
theorem dX3_startLine_0 : decode cX3_startLine 0 = .ok (.aload_n 0, 1) := by decide +kernel
theorem dX3_startLine_1 : decode cX3_startLine 1 = .ok (.aload_n 1, 1) := by decide +kernel
theorem dX3_startLine_2 : decode cX3_startLine 2 = .ok (.getfield 28, 3) := by decide +kernel
theorem dX3_startLine_5 : decode cX3_startLine 5 = .ok (.putfield 34, 3) := by decide +kernel
theorem dX3_startLine_8 : decode cX3_startLine 8 = .ok (.aload_n 0, 1) := by decide +kernel
theorem dX3_startLine_9 : decode cX3_startLine 9 = .ok (.iconst 0, 1) := by decide +kernel
theorem dX3_startLine_10 : decode cX3_startLine 10 = .ok (.putfield 37, 3) := by decide +kernel
theorem dX3_startLine_13 : decode cX3_startLine 13 = .ok (.aload_n 0, 1) := by decide +kernel
theorem dX3_startLine_14 : decode cX3_startLine 14 = .ok (.iconst 0, 1) := by decide +kernel
theorem dX3_startLine_15 : decode cX3_startLine 15 = .ok (.putfield 40, 3) := by decide +kernel
theorem dX3_startLine_18 : decode cX3_startLine 18 = .ok (.aload_n 0, 1) := by decide +kernel
theorem dX3_startLine_19 : decode cX3_startLine 19 = .ok (.iconst 0, 1) := by decide +kernel
theorem dX3_startLine_20 : decode cX3_startLine 20 = .ok (.putfield 43, 3) := by decide +kernel
theorem dX3_startLine_23 : decode cX3_startLine 23 = .ok (.aload_n 0, 1) := by decide +kernel
theorem dX3_startLine_24 : decode cX3_startLine 24 = .ok (.iconst 0, 1) := by decide +kernel
theorem dX3_startLine_25 : decode cX3_startLine 25 = .ok (.putfield 46, 3) := by decide +kernel
theorem dX3_startLine_28 : decode cX3_startLine 28 = .ok (.aload_n 0, 1) := by decide +kernel
theorem dX3_startLine_29 : decode cX3_startLine 29 = .ok (.iconst 0, 1) := by decide +kernel
theorem dX3_startLine_30 : decode cX3_startLine 30 = .ok (.putfield 49, 3) := by decide +kernel
theorem dX3_startLine_33 : decode cX3_startLine 33 = .ok (.iconst 0, 1) := by decide +kernel
theorem dX3_startLine_34 : decode cX3_startLine 34 = .ok (.istore_n 2, 1) := by decide +kernel
theorem dX3_startLine_35 : decode cX3_startLine 35 = .ok (.iload_n 2, 1) := by decide +kernel
theorem dX3_startLine_36 : decode cX3_startLine 36 = .ok (.bipush 6, 2) := by decide +kernel
theorem dX3_startLine_38 : decode cX3_startLine 38 = .ok (.if_icmp .ge 21, 3) := by decide +kernel
theorem dX3_startLine_41 : decode cX3_startLine 41 = .ok (.aload_n 0, 1) := by decide +kernel
theorem dX3_startLine_42 : decode cX3_startLine 42 = .ok (.getfield 15, 3) := by decide +kernel
theorem dX3_startLine_45 : decode cX3_startLine 45 = .ok (.iload_n 2, 1) := by decide +kernel
theorem dX3_startLine_46 : decode cX3_startLine 46 = .ok (.aload_n 1, 1) := by decide +kernel
theorem dX3_startLine_47 : decode cX3_startLine 47 = .ok (.getfield 52, 3) := by decide +kernel
theorem dX3_startLine_50 : decode cX3_startLine 50 = .ok (.iload_n 2, 1) := by decide +kernel
theorem dX3_startLine_51 : decode cX3_startLine 51 = .ok (.iaload, 1) := by decide +kernel
theorem dX3_startLine_52 : decode cX3_startLine 52 = .ok (.iastore, 1) := by decide +kernel
theorem dX3_startLine_53 : decode cX3_startLine 53 = .ok (.iinc 2 1, 3) := by decide +kernel
theorem dX3_startLine_56 : decode cX3_startLine 56 = .ok (.goto (-21), 3) := by decide +kernel
theorem dX3_startLine_59 : decode cX3_startLine 59 = .ok (.iconst 0, 1) := by decide +kernel
theorem dX3_startLine_60 : decode cX3_startLine 60 = .ok (.istore_n 2, 1) := by decide +kernel
theorem dX3_startLine_61 : decode cX3_startLine 61 = .ok (.iload_n 2, 1) := by decide +kernel
theorem dX3_startLine_62 : decode cX3_startLine 62 = .ok (.iconst 4, 1) := by decide +kernel
theorem dX3_startLine_63 : decode cX3_startLine 63 = .ok (.if_icmp .ge 16, 3) := by decide +kernel
theorem dX3_startLine_66 : decode cX3_startLine 66 = .ok (.aload_n 0, 1) := by decide +kernel
theorem dX3_startLine_67 : decode cX3_startLine 67 = .ok (.getfield 24, 3) := by decide +kernel
theorem dX3_startLine_70 : decode cX3_startLine 70 = .ok (.iload_n 2, 1) := by decide +kernel
theorem dX3_startLine_71 : decode cX3_startLine 71 = .ok (.iconst 0, 1) := by decide +kernel
theorem dX3_startLine_72 : decode cX3_startLine 72 = .ok (.iastore, 1) := by decide +kernel
theorem dX3_startLine_73 : decode cX3_startLine 73 = .ok (.iinc 2 1, 3) := by decide +kernel
theorem dX3_startLine_76 : decode cX3_startLine 76 = .ok (.goto (-15), 3) := by decide +kernel
theorem dX3_startLine_79 : decode cX3_startLine 79 = .ok (.iconst 0, 1) := by decide +kernel
theorem dX3_startLine_80 : decode cX3_startLine 80 = .ok (.istore_n 2, 1) := by decide +kernel
theorem dX3_startLine_81 : decode cX3_startLine 81 = .ok (.iload_n 2, 1) := by decide +kernel
theorem dX3_startLine_82 : decode cX3_startLine 82 = .ok (.aload_n 0, 1) := by decide +kernel
theorem dX3_startLine_83 : decode cX3_startLine 83 = .ok (.getfield 20, 3) := by decide +kernel
theorem dX3_startLine_86 : decode cX3_startLine 86 = .ok (.arraylength, 1) := by decide +kernel
theorem dX3_startLine_87 : decode cX3_startLine 87 = .ok (.if_icmp .ge 18, 3) := by decide +kernel
theorem dX3_startLine_90 : decode cX3_startLine 90 = .ok (.aload_n 0, 1) := by decide +kernel
theorem dX3_startLine_91 : decode cX3_startLine 91 = .ok (.getfield 20, 3) := by decide +kernel
theorem dX3_startLine_94 : decode cX3_startLine 94 = .ok (.iload_n 2, 1) := by decide +kernel
theorem dX3_startLine_95 : decode cX3_startLine 95 = .ok (.aaload, 1) := by decide +kernel
theorem dX3_startLine_96 : decode cX3_startLine 96 = .ok (.invokevirtual 55, 3) := by decide +kernel
theorem dX3_startLine_99 : decode cX3_startLine 99 = .ok (.iinc 2 1, 3) := by decide +kernel
theorem dX3_startLine_102 : decode cX3_startLine 102 = .ok (.goto (-21), 3) := by decide +kernel
theorem dX3_startLine_105 : decode cX3_startLine 105 = .ok (.return_, 1) := by decide +kernel
theorem dX3_startTrial_0 : decode cX3_startTrial 0 = .ok (.aload_n 0, 1) := by decide +kernel
theorem dX3_startTrial_1 : decode cX3_startTrial 1 = .ok (.aload_n 1, 1) := by decide +kernel
theorem dX3_startTrial_2 : decode cX3_startTrial 2 = .ok (.getfield 34, 3) := by decide +kernel
theorem dX3_startTrial_5 : decode cX3_startTrial 5 = .ok (.putfield 34, 3) := by decide +kernel
theorem dX3_startTrial_8 : decode cX3_startTrial 8 = .ok (.aload_n 0, 1) := by decide +kernel
theorem dX3_startTrial_9 : decode cX3_startTrial 9 = .ok (.aload_n 1, 1) := by decide +kernel
theorem dX3_startTrial_10 : decode cX3_startTrial 10 = .ok (.getfield 37, 3) := by decide +kernel
theorem dX3_startTrial_13 : decode cX3_startTrial 13 = .ok (.putfield 37, 3) := by decide +kernel
theorem dX3_startTrial_16 : decode cX3_startTrial 16 = .ok (.aload_n 0, 1) := by decide +kernel
theorem dX3_startTrial_17 : decode cX3_startTrial 17 = .ok (.aload_n 1, 1) := by decide +kernel
theorem dX3_startTrial_18 : decode cX3_startTrial 18 = .ok (.getfield 40, 3) := by decide +kernel
theorem dX3_startTrial_21 : decode cX3_startTrial 21 = .ok (.putfield 40, 3) := by decide +kernel
theorem dX3_startTrial_24 : decode cX3_startTrial 24 = .ok (.aload_n 0, 1) := by decide +kernel
theorem dX3_startTrial_25 : decode cX3_startTrial 25 = .ok (.iconst 0, 1) := by decide +kernel
theorem dX3_startTrial_26 : decode cX3_startTrial 26 = .ok (.putfield 43, 3) := by decide +kernel
theorem dX3_startTrial_29 : decode cX3_startTrial 29 = .ok (.aload_n 1, 1) := by decide +kernel
theorem dX3_startTrial_30 : decode cX3_startTrial 30 = .ok (.getfield 9, 3) := by decide +kernel
theorem dX3_startTrial_33 : decode cX3_startTrial 33 = .ok (.iconst 0, 1) := by decide +kernel
theorem dX3_startTrial_34 : decode cX3_startTrial 34 = .ok (.aload_n 0, 1) := by decide +kernel
theorem dX3_startTrial_35 : decode cX3_startTrial 35 = .ok (.getfield 9, 3) := by decide +kernel
theorem dX3_startTrial_38 : decode cX3_startTrial 38 = .ok (.iconst 0, 1) := by decide +kernel
theorem dX3_startTrial_39 : decode cX3_startTrial 39 = .ok (.aload_n 0, 1) := by decide +kernel
theorem dX3_startTrial_40 : decode cX3_startTrial 40 = .ok (.getfield 9, 3) := by decide +kernel
theorem dX3_startTrial_43 : decode cX3_startTrial 43 = .ok (.arraylength, 1) := by decide +kernel
theorem dX3_startTrial_44 : decode cX3_startTrial 44 = .ok (.invokestatic 58, 3) := by decide +kernel
theorem dX3_startTrial_47 : decode cX3_startTrial 47 = .ok (.aload_n 1, 1) := by decide +kernel
theorem dX3_startTrial_48 : decode cX3_startTrial 48 = .ok (.getfield 15, 3) := by decide +kernel
theorem dX3_startTrial_51 : decode cX3_startTrial 51 = .ok (.iconst 0, 1) := by decide +kernel
theorem dX3_startTrial_52 : decode cX3_startTrial 52 = .ok (.aload_n 0, 1) := by decide +kernel
theorem dX3_startTrial_53 : decode cX3_startTrial 53 = .ok (.getfield 15, 3) := by decide +kernel
theorem dX3_startTrial_56 : decode cX3_startTrial 56 = .ok (.iconst 0, 1) := by decide +kernel
theorem dX3_startTrial_57 : decode cX3_startTrial 57 = .ok (.bipush 6, 2) := by decide +kernel
theorem dX3_startTrial_59 : decode cX3_startTrial 59 = .ok (.invokestatic 58, 3) := by decide +kernel
theorem dX3_startTrial_62 : decode cX3_startTrial 62 = .ok (.iconst 0, 1) := by decide +kernel
theorem dX3_startTrial_63 : decode cX3_startTrial 63 = .ok (.istore_n 2, 1) := by decide +kernel
theorem dX3_startTrial_64 : decode cX3_startTrial 64 = .ok (.iload_n 2, 1) := by decide +kernel
theorem dX3_startTrial_65 : decode cX3_startTrial 65 = .ok (.aload_n 0, 1) := by decide +kernel
theorem dX3_startTrial_66 : decode cX3_startTrial 66 = .ok (.getfield 20, 3) := by decide +kernel
theorem dX3_startTrial_69 : decode cX3_startTrial 69 = .ok (.arraylength, 1) := by decide +kernel
theorem dX3_startTrial_70 : decode cX3_startTrial 70 = .ok (.if_icmp .ge 33, 3) := by decide +kernel
theorem dX3_startTrial_73 : decode cX3_startTrial 73 = .ok (.aload_n 0, 1) := by decide +kernel
theorem dX3_startTrial_74 : decode cX3_startTrial 74 = .ok (.getfield 20, 3) := by decide +kernel
theorem dX3_startTrial_77 : decode cX3_startTrial 77 = .ok (.iload_n 2, 1) := by decide +kernel
theorem dX3_startTrial_78 : decode cX3_startTrial 78 = .ok (.aaload, 1) := by decide +kernel
theorem dX3_startTrial_79 : decode cX3_startTrial 79 = .ok (.aload_n 1, 1) := by decide +kernel
theorem dX3_startTrial_80 : decode cX3_startTrial 80 = .ok (.getfield 20, 3) := by decide +kernel
theorem dX3_startTrial_83 : decode cX3_startTrial 83 = .ok (.iload_n 2, 1) := by decide +kernel
theorem dX3_startTrial_84 : decode cX3_startTrial 84 = .ok (.aaload, 1) := by decide +kernel
theorem dX3_startTrial_85 : decode cX3_startTrial 85 = .ok (.aload_n 1, 1) := by decide +kernel
theorem dX3_startTrial_86 : decode cX3_startTrial 86 = .ok (.getfield 20, 3) := by decide +kernel
theorem dX3_startTrial_89 : decode cX3_startTrial 89 = .ok (.iload_n 2, 1) := by decide +kernel
theorem dX3_startTrial_90 : decode cX3_startTrial 90 = .ok (.aaload, 1) := by decide +kernel
theorem dX3_startTrial_91 : decode cX3_startTrial 91 = .ok (.getfield 64, 3) := by decide +kernel
theorem dX3_startTrial_94 : decode cX3_startTrial 94 = .ok (.invokevirtual 67, 3) := by decide +kernel
theorem dX3_startTrial_97 : decode cX3_startTrial 97 = .ok (.iinc 2 1, 3) := by decide +kernel
theorem dX3_startTrial_100 : decode cX3_startTrial 100 = .ok (.goto (-36), 3) := by decide +kernel
theorem dX3_startTrial_103 : decode cX3_startTrial 103 = .ok (.return_, 1) := by decide +kernel
theorem dX3_knowsSite_0 : decode cX3_knowsSite 0 = .ok (.iload_n 1, 1) := by decide +kernel
theorem dX3_knowsSite_1 : decode cX3_knowsSite 1 = .ok (.ifCond .lt 15, 3) := by decide +kernel
theorem dX3_knowsSite_4 : decode cX3_knowsSite 4 = .ok (.iload_n 1, 1) := by decide +kernel
theorem dX3_knowsSite_5 : decode cX3_knowsSite 5 = .ok (.aload_n 0, 1) := by decide +kernel
theorem dX3_knowsSite_6 : decode cX3_knowsSite 6 = .ok (.getfield 34, 3) := by decide +kernel
theorem dX3_knowsSite_9 : decode cX3_knowsSite 9 = .ok (.if_icmp .ge 7, 3) := by decide +kernel
theorem dX3_knowsSite_12 : decode cX3_knowsSite 12 = .ok (.iconst 1, 1) := by decide +kernel
theorem dX3_knowsSite_13 : decode cX3_knowsSite 13 = .ok (.goto 4, 3) := by decide +kernel
theorem dX3_knowsSite_16 : decode cX3_knowsSite 16 = .ok (.iconst 0, 1) := by decide +kernel
theorem dX3_knowsSite_17 : decode cX3_knowsSite 17 = .ok (.ireturn, 1) := by decide +kernel
theorem dX3_isOff_0 : decode cX3_isOff 0 = .ok (.aload_n 0, 1) := by decide +kernel
theorem dX3_isOff_1 : decode cX3_isOff 1 = .ok (.getfield 40, 3) := by decide +kernel
theorem dX3_isOff_4 : decode cX3_isOff 4 = .ok (.iload_n 1, 1) := by decide +kernel
theorem dX3_isOff_5 : decode cX3_isOff 5 = .ok (.ishr, 1) := by decide +kernel
theorem dX3_isOff_6 : decode cX3_isOff 6 = .ok (.iconst 1, 1) := by decide +kernel
theorem dX3_isOff_7 : decode cX3_isOff 7 = .ok (.iand, 1) := by decide +kernel
theorem dX3_isOff_8 : decode cX3_isOff 8 = .ok (.iconst 1, 1) := by decide +kernel
theorem dX3_isOff_9 : decode cX3_isOff 9 = .ok (.if_icmp .ne 7, 3) := by decide +kernel
theorem dX3_isOff_12 : decode cX3_isOff 12 = .ok (.iconst 1, 1) := by decide +kernel
theorem dX3_isOff_13 : decode cX3_isOff 13 = .ok (.goto 4, 3) := by decide +kernel
theorem dX3_isOff_16 : decode cX3_isOff 16 = .ok (.iconst 0, 1) := by decide +kernel
theorem dX3_isOff_17 : decode cX3_isOff 17 = .ok (.ireturn, 1) := by decide +kernel
theorem dX3_itemAt_0 : decode cX3_itemAt 0 = .ok (.aload_n 0, 1) := by decide +kernel
theorem dX3_itemAt_1 : decode cX3_itemAt 1 = .ok (.getfield 20, 3) := by decide +kernel
theorem dX3_itemAt_4 : decode cX3_itemAt 4 = .ok (.iload_n 1, 1) := by decide +kernel
theorem dX3_itemAt_5 : decode cX3_itemAt 5 = .ok (.iconst 4, 1) := by decide +kernel
theorem dX3_itemAt_6 : decode cX3_itemAt 6 = .ok (.imul, 1) := by decide +kernel
theorem dX3_itemAt_7 : decode cX3_itemAt 7 = .ok (.iload_n 2, 1) := by decide +kernel
theorem dX3_itemAt_8 : decode cX3_itemAt 8 = .ok (.iadd, 1) := by decide +kernel
theorem dX3_itemAt_9 : decode cX3_itemAt 9 = .ok (.aaload, 1) := by decide +kernel
theorem dX3_itemAt_10 : decode cX3_itemAt 10 = .ok (.areturn, 1) := by decide +kernel
theorem dX3_advance_0 : decode cX3_advance 0 = .ok (.aload_n 0, 1) := by decide +kernel
theorem dX3_advance_1 : decode cX3_advance 1 = .ok (.dup, 1) := by decide +kernel
theorem dX3_advance_2 : decode cX3_advance 2 = .ok (.getfield 37, 3) := by decide +kernel
theorem dX3_advance_5 : decode cX3_advance 5 = .ok (.iload_n 1, 1) := by decide +kernel
theorem dX3_advance_6 : decode cX3_advance 6 = .ok (.iadd, 1) := by decide +kernel
theorem dX3_advance_7 : decode cX3_advance 7 = .ok (.putfield 37, 3) := by decide +kernel
theorem dX3_advance_10 : decode cX3_advance 10 = .ok (.aload_n 0, 1) := by decide +kernel
theorem dX3_advance_11 : decode cX3_advance 11 = .ok (.invokevirtual 71, 3) := by decide +kernel
theorem dX3_advance_14 : decode cX3_advance 14 = .ok (.ireturn, 1) := by decide +kernel
theorem dX3_dropGone_0 : decode cX3_dropGone 0 = .ok (.iconst 0, 1) := by decide +kernel
theorem dX3_dropGone_1 : decode cX3_dropGone 1 = .ok (.istore_n 1, 1) := by decide +kernel
theorem dX3_dropGone_2 : decode cX3_dropGone 2 = .ok (.iconst 0, 1) := by decide +kernel
theorem dX3_dropGone_3 : decode cX3_dropGone 3 = .ok (.istore_n 2, 1) := by decide +kernel
theorem dX3_dropGone_4 : decode cX3_dropGone 4 = .ok (.iload_n 2, 1) := by decide +kernel
theorem dX3_dropGone_5 : decode cX3_dropGone 5 = .ok (.aload_n 0, 1) := by decide +kernel
theorem dX3_dropGone_6 : decode cX3_dropGone 6 = .ok (.getfield 34, 3) := by decide +kernel
theorem dX3_dropGone_9 : decode cX3_dropGone 9 = .ok (.if_icmp .ge 57, 3) := by decide +kernel
theorem dX3_dropGone_12 : decode cX3_dropGone 12 = .ok (.iconst 0, 1) := by decide +kernel
theorem dX3_dropGone_13 : decode cX3_dropGone 13 = .ok (.istore_n 3, 1) := by decide +kernel
theorem dX3_dropGone_14 : decode cX3_dropGone 14 = .ok (.iload_n 3, 1) := by decide +kernel
theorem dX3_dropGone_15 : decode cX3_dropGone 15 = .ok (.iconst 4, 1) := by decide +kernel
theorem dX3_dropGone_16 : decode cX3_dropGone 16 = .ok (.if_icmp .ge 44, 3) := by decide +kernel
theorem dX3_dropGone_19 : decode cX3_dropGone 19 = .ok (.aload_n 0, 1) := by decide +kernel
theorem dX3_dropGone_20 : decode cX3_dropGone 20 = .ok (.iload_n 2, 1) := by decide +kernel
theorem dX3_dropGone_21 : decode cX3_dropGone 21 = .ok (.iload_n 3, 1) := by decide +kernel
theorem dX3_dropGone_22 : decode cX3_dropGone 22 = .ok (.invokevirtual 75, 3) := by decide +kernel
theorem dX3_dropGone_25 : decode cX3_dropGone 25 = .ok (.astore 4, 2) := by decide +kernel
theorem dX3_dropGone_27 : decode cX3_dropGone 27 = .ok (.aload_n 0, 1) := by decide +kernel
theorem dX3_dropGone_28 : decode cX3_dropGone 28 = .ok (.aload 4, 2) := by decide +kernel
theorem dX3_dropGone_30 : decode cX3_dropGone 30 = .ok (.invokevirtual 79, 3) := by decide +kernel
theorem dX3_dropGone_33 : decode cX3_dropGone 33 = .ok (.ifCond .eq 21, 3) := by decide +kernel
theorem dX3_dropGone_36 : decode cX3_dropGone 36 = .ok (.aload_n 0, 1) := by decide +kernel
theorem dX3_dropGone_37 : decode cX3_dropGone 37 = .ok (.aload 4, 2) := by decide +kernel
theorem dX3_dropGone_39 : decode cX3_dropGone 39 = .ok (.iload_n 2, 1) := by decide +kernel
theorem dX3_dropGone_40 : decode cX3_dropGone 40 = .ok (.invokevirtual 83, 3) := by decide +kernel
theorem dX3_dropGone_43 : decode cX3_dropGone 43 = .ok (.ifCond .ne 11, 3) := by decide +kernel
theorem dX3_dropGone_46 : decode cX3_dropGone 46 = .ok (.aload 4, 2) := by decide +kernel
theorem dX3_dropGone_48 : decode cX3_dropGone 48 = .ok (.invokevirtual 55, 3) := by decide +kernel
theorem dX3_dropGone_51 : decode cX3_dropGone 51 = .ok (.iinc 1 1, 3) := by decide +kernel
theorem dX3_dropGone_54 : decode cX3_dropGone 54 = .ok (.iinc 3 1, 3) := by decide +kernel
theorem dX3_dropGone_57 : decode cX3_dropGone 57 = .ok (.goto (-43), 3) := by decide +kernel
theorem dX3_dropGone_60 : decode cX3_dropGone 60 = .ok (.iinc 2 1, 3) := by decide +kernel
theorem dX3_dropGone_63 : decode cX3_dropGone 63 = .ok (.goto (-59), 3) := by decide +kernel
theorem dX3_dropGone_66 : decode cX3_dropGone 66 = .ok (.aload_n 0, 1) := by decide +kernel
theorem dX3_dropGone_67 : decode cX3_dropGone 67 = .ok (.dup, 1) := by decide +kernel
theorem dX3_dropGone_68 : decode cX3_dropGone 68 = .ok (.getfield 49, 3) := by decide +kernel
theorem dX3_dropGone_71 : decode cX3_dropGone 71 = .ok (.iload_n 1, 1) := by decide +kernel
theorem dX3_dropGone_72 : decode cX3_dropGone 72 = .ok (.iadd, 1) := by decide +kernel
theorem dX3_dropGone_73 : decode cX3_dropGone 73 = .ok (.putfield 49, 3) := by decide +kernel
theorem dX3_dropGone_76 : decode cX3_dropGone 76 = .ok (.iload_n 1, 1) := by decide +kernel
theorem dX3_dropGone_77 : decode cX3_dropGone 77 = .ok (.ireturn, 1) := by decide +kernel
theorem dX3_isDormant_0 : decode cX3_isDormant 0 = .ok (.aload_n 1, 1) := by decide +kernel
theorem dX3_isDormant_1 : decode cX3_isDormant 1 = .ok (.getfield 87, 3) := by decide +kernel
theorem dX3_isDormant_4 : decode cX3_isDormant 4 = .ok (.iconst 2, 1) := by decide +kernel
theorem dX3_isDormant_5 : decode cX3_isDormant 5 = .ok (.if_icmp .ne 25, 3) := by decide +kernel
theorem dX3_isDormant_8 : decode cX3_isDormant 8 = .ok (.aload_n 0, 1) := by decide +kernel
theorem dX3_isDormant_9 : decode cX3_isDormant 9 = .ok (.getfield 37, 3) := by decide +kernel
theorem dX3_isDormant_12 : decode cX3_isDormant 12 = .ok (.aload_n 1, 1) := by decide +kernel
theorem dX3_isDormant_13 : decode cX3_isDormant 13 = .ok (.getfield 90, 3) := by decide +kernel
theorem dX3_isDormant_16 : decode cX3_isDormant 16 = .ok (.isub, 1) := by decide +kernel
theorem dX3_isDormant_17 : decode cX3_isDormant 17 = .ok (.aload_n 0, 1) := by decide +kernel
theorem dX3_isDormant_18 : decode cX3_isDormant 18 = .ok (.getfield 9, 3) := by decide +kernel
theorem dX3_isDormant_21 : decode cX3_isDormant 21 = .ok (.iconst 0, 1) := by decide +kernel
theorem dX3_isDormant_22 : decode cX3_isDormant 22 = .ok (.iaload, 1) := by decide +kernel
theorem dX3_isDormant_23 : decode cX3_isDormant 23 = .ok (.if_icmp .le 7, 3) := by decide +kernel
theorem dX3_isDormant_26 : decode cX3_isDormant 26 = .ok (.iconst 1, 1) := by decide +kernel
theorem dX3_isDormant_27 : decode cX3_isDormant 27 = .ok (.goto 4, 3) := by decide +kernel
theorem dX3_isDormant_30 : decode cX3_isDormant 30 = .ok (.iconst 0, 1) := by decide +kernel
theorem dX3_isDormant_31 : decode cX3_isDormant 31 = .ok (.ireturn, 1) := by decide +kernel
theorem dX3_isAwake_0 : decode cX3_isAwake 0 = .ok (.aload_n 1, 1) := by decide +kernel
theorem dX3_isAwake_1 : decode cX3_isAwake 1 = .ok (.getfield 87, 3) := by decide +kernel
theorem dX3_isAwake_4 : decode cX3_isAwake 4 = .ok (.iconst 1, 1) := by decide +kernel
theorem dX3_isAwake_5 : decode cX3_isAwake 5 = .ok (.if_icmp .eq 29, 3) := by decide +kernel
theorem dX3_isAwake_8 : decode cX3_isAwake 8 = .ok (.aload_n 1, 1) := by decide +kernel
theorem dX3_isAwake_9 : decode cX3_isAwake 9 = .ok (.getfield 87, 3) := by decide +kernel
theorem dX3_isAwake_12 : decode cX3_isAwake 12 = .ok (.iconst 2, 1) := by decide +kernel
theorem dX3_isAwake_13 : decode cX3_isAwake 13 = .ok (.if_icmp .ne 25, 3) := by decide +kernel
theorem dX3_isAwake_16 : decode cX3_isAwake 16 = .ok (.aload_n 0, 1) := by decide +kernel
theorem dX3_isAwake_17 : decode cX3_isAwake 17 = .ok (.getfield 37, 3) := by decide +kernel
theorem dX3_isAwake_20 : decode cX3_isAwake 20 = .ok (.aload_n 1, 1) := by decide +kernel
theorem dX3_isAwake_21 : decode cX3_isAwake 21 = .ok (.getfield 90, 3) := by decide +kernel
theorem dX3_isAwake_24 : decode cX3_isAwake 24 = .ok (.isub, 1) := by decide +kernel
theorem dX3_isAwake_25 : decode cX3_isAwake 25 = .ok (.aload_n 0, 1) := by decide +kernel
theorem dX3_isAwake_26 : decode cX3_isAwake 26 = .ok (.getfield 9, 3) := by decide +kernel
theorem dX3_isAwake_29 : decode cX3_isAwake 29 = .ok (.iconst 0, 1) := by decide +kernel
theorem dX3_isAwake_30 : decode cX3_isAwake 30 = .ok (.iaload, 1) := by decide +kernel
theorem dX3_isAwake_31 : decode cX3_isAwake 31 = .ok (.if_icmp .gt 7, 3) := by decide +kernel
theorem dX3_isAwake_34 : decode cX3_isAwake 34 = .ok (.iconst 1, 1) := by decide +kernel
theorem dX3_isAwake_35 : decode cX3_isAwake 35 = .ok (.goto 4, 3) := by decide +kernel
theorem dX3_isAwake_38 : decode cX3_isAwake 38 = .ok (.iconst 0, 1) := by decide +kernel
theorem dX3_isAwake_39 : decode cX3_isAwake 39 = .ok (.ireturn, 1) := by decide +kernel
theorem dX3_isKept_0 : decode cX3_isKept 0 = .ok (.aload_n 1, 1) := by decide +kernel
theorem dX3_isKept_1 : decode cX3_isKept 1 = .ok (.getfield 93, 3) := by decide +kernel
theorem dX3_isKept_4 : decode cX3_isKept 4 = .ok (.iload_n 2, 1) := by decide +kernel
theorem dX3_isKept_5 : decode cX3_isKept 5 = .ok (.ishr, 1) := by decide +kernel
theorem dX3_isKept_6 : decode cX3_isKept 6 = .ok (.iconst 1, 1) := by decide +kernel
theorem dX3_isKept_7 : decode cX3_isKept 7 = .ok (.iand, 1) := by decide +kernel
theorem dX3_isKept_8 : decode cX3_isKept 8 = .ok (.iconst 1, 1) := by decide +kernel
theorem dX3_isKept_9 : decode cX3_isKept 9 = .ok (.if_icmp .ne 7, 3) := by decide +kernel
theorem dX3_isKept_12 : decode cX3_isKept 12 = .ok (.iconst 1, 1) := by decide +kernel
theorem dX3_isKept_13 : decode cX3_isKept 13 = .ok (.goto 4, 3) := by decide +kernel
theorem dX3_isKept_16 : decode cX3_isKept 16 = .ok (.iconst 0, 1) := by decide +kernel
theorem dX3_isKept_17 : decode cX3_isKept 17 = .ok (.istore_n 3, 1) := by decide +kernel
theorem dX3_isKept_18 : decode cX3_isKept 18 = .ok (.iload_n 3, 1) := by decide +kernel
theorem dX3_isKept_19 : decode cX3_isKept 19 = .ok (.ifCond .eq 32, 3) := by decide +kernel
theorem dX3_isKept_22 : decode cX3_isKept 22 = .ok (.aload_n 0, 1) := by decide +kernel
theorem dX3_isKept_23 : decode cX3_isKept 23 = .ok (.getfield 37, 3) := by decide +kernel
theorem dX3_isKept_26 : decode cX3_isKept 26 = .ok (.aload_n 1, 1) := by decide +kernel
theorem dX3_isKept_27 : decode cX3_isKept 27 = .ok (.getfield 90, 3) := by decide +kernel
theorem dX3_isKept_30 : decode cX3_isKept 30 = .ok (.isub, 1) := by decide +kernel
theorem dX3_isKept_31 : decode cX3_isKept 31 = .ok (.aload_n 0, 1) := by decide +kernel
theorem dX3_isKept_32 : decode cX3_isKept 32 = .ok (.getfield 9, 3) := by decide +kernel
theorem dX3_isKept_35 : decode cX3_isKept 35 = .ok (.iconst 0, 1) := by decide +kernel
theorem dX3_isKept_36 : decode cX3_isKept 36 = .ok (.iaload, 1) := by decide +kernel
theorem dX3_isKept_37 : decode cX3_isKept 37 = .ok (.aload_n 0, 1) := by decide +kernel
theorem dX3_isKept_38 : decode cX3_isKept 38 = .ok (.getfield 9, 3) := by decide +kernel
theorem dX3_isKept_41 : decode cX3_isKept 41 = .ok (.iconst 1, 1) := by decide +kernel
theorem dX3_isKept_42 : decode cX3_isKept 42 = .ok (.iaload, 1) := by decide +kernel
theorem dX3_isKept_43 : decode cX3_isKept 43 = .ok (.iadd, 1) := by decide +kernel
theorem dX3_isKept_44 : decode cX3_isKept 44 = .ok (.if_icmp .gt 7, 3) := by decide +kernel
theorem dX3_isKept_47 : decode cX3_isKept 47 = .ok (.iconst 1, 1) := by decide +kernel
theorem dX3_isKept_48 : decode cX3_isKept 48 = .ok (.goto 4, 3) := by decide +kernel
theorem dX3_isKept_51 : decode cX3_isKept 51 = .ok (.iconst 0, 1) := by decide +kernel
theorem dX3_isKept_52 : decode cX3_isKept 52 = .ok (.ireturn, 1) := by decide +kernel
theorem dX3_wake_0 : decode cX3_wake 0 = .ok (.aload_n 1, 1) := by decide +kernel
theorem dX3_wake_1 : decode cX3_wake 1 = .ok (.aload_n 0, 1) := by decide +kernel
theorem dX3_wake_2 : decode cX3_wake 2 = .ok (.getfield 37, 3) := by decide +kernel
theorem dX3_wake_5 : decode cX3_wake 5 = .ok (.putfield 90, 3) := by decide +kernel
theorem dX3_wake_8 : decode cX3_wake 8 = .ok (.aload_n 1, 1) := by decide +kernel
theorem dX3_wake_9 : decode cX3_wake 9 = .ok (.aload_n 0, 1) := by decide +kernel
theorem dX3_wake_10 : decode cX3_wake 10 = .ok (.getfield 9, 3) := by decide +kernel
theorem dX3_wake_13 : decode cX3_wake 13 = .ok (.iconst 2, 1) := by decide +kernel
theorem dX3_wake_14 : decode cX3_wake 14 = .ok (.iaload, 1) := by decide +kernel
theorem dX3_wake_15 : decode cX3_wake 15 = .ok (.putfield 64, 3) := by decide +kernel
theorem dX3_wake_18 : decode cX3_wake 18 = .ok (.aload_n 0, 1) := by decide +kernel
theorem dX3_wake_19 : decode cX3_wake 19 = .ok (.dup, 1) := by decide +kernel
theorem dX3_wake_20 : decode cX3_wake 20 = .ok (.getfield 46, 3) := by decide +kernel
theorem dX3_wake_23 : decode cX3_wake 23 = .ok (.iconst 1, 1) := by decide +kernel
theorem dX3_wake_24 : decode cX3_wake 24 = .ok (.iadd, 1) := by decide +kernel
theorem dX3_wake_25 : decode cX3_wake 25 = .ok (.putfield 46, 3) := by decide +kernel
theorem dX3_wake_28 : decode cX3_wake 28 = .ok (.return_, 1) := by decide +kernel
theorem dX3_putValue_0 : decode cX3_putValue 0 = .ok (.aload_n 0, 1) := by decide +kernel
theorem dX3_putValue_1 : decode cX3_putValue 1 = .ok (.iconst 1, 1) := by decide +kernel
theorem dX3_putValue_2 : decode cX3_putValue 2 = .ok (.invokevirtual 96, 3) := by decide +kernel
theorem dX3_putValue_5 : decode cX3_putValue 5 = .ok (.pop, 1) := by decide +kernel
theorem dX3_putValue_6 : decode cX3_putValue 6 = .ok (.aload_n 0, 1) := by decide +kernel
theorem dX3_putValue_7 : decode cX3_putValue 7 = .ok (.iload_n 1, 1) := by decide +kernel
theorem dX3_putValue_8 : decode cX3_putValue 8 = .ok (.iload_n 2, 1) := by decide +kernel
theorem dX3_putValue_9 : decode cX3_putValue 9 = .ok (.invokevirtual 75, 3) := by decide +kernel
theorem dX3_putValue_12 : decode cX3_putValue 12 = .ok (.iload_n 3, 1) := by decide +kernel
theorem dX3_putValue_13 : decode cX3_putValue 13 = .ok (.aload_n 0, 1) := by decide +kernel
theorem dX3_putValue_14 : decode cX3_putValue 14 = .ok (.getfield 37, 3) := by decide +kernel
theorem dX3_putValue_17 : decode cX3_putValue 17 = .ok (.aload_n 0, 1) := by decide +kernel
theorem dX3_putValue_18 : decode cX3_putValue 18 = .ok (.getfield 9, 3) := by decide +kernel
theorem dX3_putValue_21 : decode cX3_putValue 21 = .ok (.iconst 2, 1) := by decide +kernel
theorem dX3_putValue_22 : decode cX3_putValue 22 = .ok (.iaload, 1) := by decide +kernel
theorem dX3_putValue_23 : decode cX3_putValue 23 = .ok (.invokevirtual 100, 3) := by decide +kernel
theorem dX3_putValue_26 : decode cX3_putValue 26 = .ok (.aload_n 0, 1) := by decide +kernel
theorem dX3_putValue_27 : decode cX3_putValue 27 = .ok (.getfield 37, 3) := by decide +kernel
theorem dX3_putValue_30 : decode cX3_putValue 30 = .ok (.ireturn, 1) := by decide +kernel
theorem dX3_removeValue_0 : decode cX3_removeValue 0 = .ok (.aload_n 0, 1) := by decide +kernel
theorem dX3_removeValue_1 : decode cX3_removeValue 1 = .ok (.iconst 1, 1) := by decide +kernel
theorem dX3_removeValue_2 : decode cX3_removeValue 2 = .ok (.invokevirtual 96, 3) := by decide +kernel
theorem dX3_removeValue_5 : decode cX3_removeValue 5 = .ok (.pop, 1) := by decide +kernel
theorem dX3_removeValue_6 : decode cX3_removeValue 6 = .ok (.aload_n 0, 1) := by decide +kernel
theorem dX3_removeValue_7 : decode cX3_removeValue 7 = .ok (.iload_n 1, 1) := by decide +kernel
theorem dX3_removeValue_8 : decode cX3_removeValue 8 = .ok (.iload_n 2, 1) := by decide +kernel
theorem dX3_removeValue_9 : decode cX3_removeValue 9 = .ok (.invokevirtual 75, 3) := by decide +kernel
theorem dX3_removeValue_12 : decode cX3_removeValue 12 = .ok (.aload_n 0, 1) := by decide +kernel
theorem dX3_removeValue_13 : decode cX3_removeValue 13 = .ok (.iload_n 1, 1) := by decide +kernel
theorem dX3_removeValue_14 : decode cX3_removeValue 14 = .ok (.iload_n 3, 1) := by decide +kernel
theorem dX3_removeValue_15 : decode cX3_removeValue 15 = .ok (.invokevirtual 104, 3) := by decide +kernel
theorem dX3_removeValue_18 : decode cX3_removeValue 18 = .ok (.aload_n 0, 1) := by decide +kernel
theorem dX3_removeValue_19 : decode cX3_removeValue 19 = .ok (.getfield 37, 3) := by decide +kernel
theorem dX3_removeValue_22 : decode cX3_removeValue 22 = .ok (.aload_n 0, 1) := by decide +kernel
theorem dX3_removeValue_23 : decode cX3_removeValue 23 = .ok (.getfield 9, 3) := by decide +kernel
theorem dX3_removeValue_26 : decode cX3_removeValue 26 = .ok (.iconst 2, 1) := by decide +kernel
theorem dX3_removeValue_27 : decode cX3_removeValue 27 = .ok (.iaload, 1) := by decide +kernel
theorem dX3_removeValue_28 : decode cX3_removeValue 28 = .ok (.invokevirtual 108, 3) := by decide +kernel
theorem dX3_removeValue_31 : decode cX3_removeValue 31 = .ok (.aload_n 0, 1) := by decide +kernel
theorem dX3_removeValue_32 : decode cX3_removeValue 32 = .ok (.getfield 24, 3) := by decide +kernel
theorem dX3_removeValue_35 : decode cX3_removeValue 35 = .ok (.iload_n 2, 1) := by decide +kernel
theorem dX3_removeValue_36 : decode cX3_removeValue 36 = .ok (.aload_n 0, 1) := by decide +kernel
theorem dX3_removeValue_37 : decode cX3_removeValue 37 = .ok (.getfield 37, 3) := by decide +kernel
theorem dX3_removeValue_40 : decode cX3_removeValue 40 = .ok (.iastore, 1) := by decide +kernel
theorem dX3_removeValue_41 : decode cX3_removeValue 41 = .ok (.aload_n 0, 1) := by decide +kernel
theorem dX3_removeValue_42 : decode cX3_removeValue 42 = .ok (.getfield 37, 3) := by decide +kernel
theorem dX3_removeValue_45 : decode cX3_removeValue 45 = .ok (.ireturn, 1) := by decide +kernel
theorem dX3_keepersOf_0 : decode cX3_keepersOf 0 = .ok (.iconst 1, 1) := by decide +kernel
theorem dX3_keepersOf_1 : decode cX3_keepersOf 1 = .ok (.iload_n 1, 1) := by decide +kernel
theorem dX3_keepersOf_2 : decode cX3_keepersOf 2 = .ok (.ishl, 1) := by decide +kernel
theorem dX3_keepersOf_3 : decode cX3_keepersOf 3 = .ok (.istore_n 3, 1) := by decide +kernel
theorem dX3_keepersOf_4 : decode cX3_keepersOf 4 = .ok (.aload_n 0, 1) := by decide +kernel
theorem dX3_keepersOf_5 : decode cX3_keepersOf 5 = .ok (.iload_n 1, 1) := by decide +kernel
theorem dX3_keepersOf_6 : decode cX3_keepersOf 6 = .ok (.invokevirtual 111, 3) := by decide +kernel
theorem dX3_keepersOf_9 : decode cX3_keepersOf 9 = .ok (.istore 4, 2) := by decide +kernel
theorem dX3_keepersOf_11 : decode cX3_keepersOf 11 = .ok (.iconst 1, 1) := by decide +kernel
theorem dX3_keepersOf_12 : decode cX3_keepersOf 12 = .ok (.istore 5, 2) := by decide +kernel
theorem dX3_keepersOf_14 : decode cX3_keepersOf 14 = .ok (.iload 5, 2) := by decide +kernel
theorem dX3_keepersOf_16 : decode cX3_keepersOf 16 = .ok (.iload_n 2, 1) := by decide +kernel
theorem dX3_keepersOf_17 : decode cX3_keepersOf 17 = .ok (.if_icmp .ge 39, 3) := by decide +kernel
theorem dX3_keepersOf_20 : decode cX3_keepersOf 20 = .ok (.iload 4, 2) := by decide +kernel
theorem dX3_keepersOf_22 : decode cX3_keepersOf 22 = .ok (.ifCond .eq 34, 3) := by decide +kernel
theorem dX3_keepersOf_25 : decode cX3_keepersOf 25 = .ok (.iconst 1, 1) := by decide +kernel
theorem dX3_keepersOf_26 : decode cX3_keepersOf 26 = .ok (.aload_n 0, 1) := by decide +kernel
theorem dX3_keepersOf_27 : decode cX3_keepersOf 27 = .ok (.iload_n 1, 1) := by decide +kernel
theorem dX3_keepersOf_28 : decode cX3_keepersOf 28 = .ok (.iload 4, 2) := by decide +kernel
theorem dX3_keepersOf_30 : decode cX3_keepersOf 30 = .ok (.invokevirtual 114, 3) := by decide +kernel
theorem dX3_keepersOf_33 : decode cX3_keepersOf 33 = .ok (.ishl, 1) := by decide +kernel
theorem dX3_keepersOf_34 : decode cX3_keepersOf 34 = .ok (.istore 6, 2) := by decide +kernel
theorem dX3_keepersOf_36 : decode cX3_keepersOf 36 = .ok (.iload_n 3, 1) := by decide +kernel
theorem dX3_keepersOf_37 : decode cX3_keepersOf 37 = .ok (.iload 6, 2) := by decide +kernel
theorem dX3_keepersOf_39 : decode cX3_keepersOf 39 = .ok (.ior, 1) := by decide +kernel
theorem dX3_keepersOf_40 : decode cX3_keepersOf 40 = .ok (.istore_n 3, 1) := by decide +kernel
theorem dX3_keepersOf_41 : decode cX3_keepersOf 41 = .ok (.iload 4, 2) := by decide +kernel
theorem dX3_keepersOf_43 : decode cX3_keepersOf 43 = .ok (.iload 6, 2) := by decide +kernel
theorem dX3_keepersOf_45 : decode cX3_keepersOf 45 = .ok (.iconst (-1), 1) := by decide +kernel
theorem dX3_keepersOf_46 : decode cX3_keepersOf 46 = .ok (.ixor, 1) := by decide +kernel
theorem dX3_keepersOf_47 : decode cX3_keepersOf 47 = .ok (.iand, 1) := by decide +kernel
theorem dX3_keepersOf_48 : decode cX3_keepersOf 48 = .ok (.istore 4, 2) := by decide +kernel
theorem dX3_keepersOf_50 : decode cX3_keepersOf 50 = .ok (.iinc 5 1, 3) := by decide +kernel
theorem dX3_keepersOf_53 : decode cX3_keepersOf 53 = .ok (.goto (-39), 3) := by decide +kernel
theorem dX3_keepersOf_56 : decode cX3_keepersOf 56 = .ok (.iload_n 3, 1) := by decide +kernel
theorem dX3_keepersOf_57 : decode cX3_keepersOf 57 = .ok (.ireturn, 1) := by decide +kernel
theorem dX3_compareAll_0 : decode cX3_compareAll 0 = .ok (.aload_n 0, 1) := by decide +kernel
theorem dX3_compareAll_1 : decode cX3_compareAll 1 = .ok (.iload_n 1, 1) := by decide +kernel
theorem dX3_compareAll_2 : decode cX3_compareAll 2 = .ok (.iload_n 2, 1) := by decide +kernel
theorem dX3_compareAll_3 : decode cX3_compareAll 3 = .ok (.invokevirtual 117, 3) := by decide +kernel
theorem dX3_compareAll_6 : decode cX3_compareAll 6 = .ok (.istore_n 3, 1) := by decide +kernel
theorem dX3_compareAll_7 : decode cX3_compareAll 7 = .ok (.aload_n 0, 1) := by decide +kernel
theorem dX3_compareAll_8 : decode cX3_compareAll 8 = .ok (.iload_n 1, 1) := by decide +kernel
theorem dX3_compareAll_9 : decode cX3_compareAll 9 = .ok (.iload_n 2, 1) := by decide +kernel
theorem dX3_compareAll_10 : decode cX3_compareAll 10 = .ok (.iload_n 3, 1) := by decide +kernel
theorem dX3_compareAll_11 : decode cX3_compareAll 11 = .ok (.invokevirtual 120, 3) := by decide +kernel
theorem dX3_compareAll_14 : decode cX3_compareAll 14 = .ok (.istore 4, 2) := by decide +kernel
theorem dX3_compareAll_16 : decode cX3_compareAll 16 = .ok (.aload_n 0, 1) := by decide +kernel
theorem dX3_compareAll_17 : decode cX3_compareAll 17 = .ok (.iload_n 1, 1) := by decide +kernel
theorem dX3_compareAll_18 : decode cX3_compareAll 18 = .ok (.iload_n 2, 1) := by decide +kernel
theorem dX3_compareAll_19 : decode cX3_compareAll 19 = .ok (.invokevirtual 124, 3) := by decide +kernel
theorem dX3_compareAll_22 : decode cX3_compareAll 22 = .ok (.ifCond .ne 20, 3) := by decide +kernel
theorem dX3_compareAll_25 : decode cX3_compareAll 25 = .ok (.iload 4, 2) := by decide +kernel
theorem dX3_compareAll_27 : decode cX3_compareAll 27 = .ok (.aload_n 0, 1) := by decide +kernel
theorem dX3_compareAll_28 : decode cX3_compareAll 28 = .ok (.iload_n 1, 1) := by decide +kernel
theorem dX3_compareAll_29 : decode cX3_compareAll 29 = .ok (.iload_n 2, 1) := by decide +kernel
theorem dX3_compareAll_30 : decode cX3_compareAll 30 = .ok (.bipush 15, 2) := by decide +kernel
theorem dX3_compareAll_32 : decode cX3_compareAll 32 = .ok (.iload_n 3, 1) := by decide +kernel
theorem dX3_compareAll_33 : decode cX3_compareAll 33 = .ok (.iconst (-1), 1) := by decide +kernel
theorem dX3_compareAll_34 : decode cX3_compareAll 34 = .ok (.ixor, 1) := by decide +kernel
theorem dX3_compareAll_35 : decode cX3_compareAll 35 = .ok (.iand, 1) := by decide +kernel
theorem dX3_compareAll_36 : decode cX3_compareAll 36 = .ok (.invokevirtual 120, 3) := by decide +kernel
theorem dX3_compareAll_39 : decode cX3_compareAll 39 = .ok (.iadd, 1) := by decide +kernel
theorem dX3_compareAll_40 : decode cX3_compareAll 40 = .ok (.istore 4, 2) := by decide +kernel
theorem dX3_compareAll_42 : decode cX3_compareAll 42 = .ok (.iload 4, 2) := by decide +kernel
theorem dX3_compareAll_44 : decode cX3_compareAll 44 = .ok (.ireturn, 1) := by decide +kernel
theorem dX3_recentKeys_0 : decode cX3_recentKeys 0 = .ok (.iconst 0, 1) := by decide +kernel
theorem dX3_recentKeys_1 : decode cX3_recentKeys 1 = .ok (.istore_n 3, 1) := by decide +kernel
theorem dX3_recentKeys_2 : decode cX3_recentKeys 2 = .ok (.iconst 0, 1) := by decide +kernel
theorem dX3_recentKeys_3 : decode cX3_recentKeys 3 = .ok (.istore 4, 2) := by decide +kernel
theorem dX3_recentKeys_5 : decode cX3_recentKeys 5 = .ok (.iload 4, 2) := by decide +kernel
theorem dX3_recentKeys_7 : decode cX3_recentKeys 7 = .ok (.iconst 4, 1) := by decide +kernel
theorem dX3_recentKeys_8 : decode cX3_recentKeys 8 = .ok (.if_icmp .ge 44, 3) := by decide +kernel
theorem dX3_recentKeys_11 : decode cX3_recentKeys 11 = .ok (.aload_n 0, 1) := by decide +kernel
theorem dX3_recentKeys_12 : decode cX3_recentKeys 12 = .ok (.aload_n 0, 1) := by decide +kernel
theorem dX3_recentKeys_13 : decode cX3_recentKeys 13 = .ok (.iload_n 1, 1) := by decide +kernel
theorem dX3_recentKeys_14 : decode cX3_recentKeys 14 = .ok (.iload 4, 2) := by decide +kernel
theorem dX3_recentKeys_16 : decode cX3_recentKeys 16 = .ok (.invokevirtual 75, 3) := by decide +kernel
theorem dX3_recentKeys_19 : decode cX3_recentKeys 19 = .ok (.invokevirtual 128, 3) := by decide +kernel
theorem dX3_recentKeys_22 : decode cX3_recentKeys 22 = .ok (.ifCond .ne 17, 3) := by decide +kernel
theorem dX3_recentKeys_25 : decode cX3_recentKeys 25 = .ok (.aload_n 0, 1) := by decide +kernel
theorem dX3_recentKeys_26 : decode cX3_recentKeys 26 = .ok (.aload_n 0, 1) := by decide +kernel
theorem dX3_recentKeys_27 : decode cX3_recentKeys 27 = .ok (.iload_n 2, 1) := by decide +kernel
theorem dX3_recentKeys_28 : decode cX3_recentKeys 28 = .ok (.iload 4, 2) := by decide +kernel
theorem dX3_recentKeys_30 : decode cX3_recentKeys 30 = .ok (.invokevirtual 75, 3) := by decide +kernel
theorem dX3_recentKeys_33 : decode cX3_recentKeys 33 = .ok (.invokevirtual 128, 3) := by decide +kernel
theorem dX3_recentKeys_36 : decode cX3_recentKeys 36 = .ok (.ifCond .eq 10, 3) := by decide +kernel
theorem dX3_recentKeys_39 : decode cX3_recentKeys 39 = .ok (.iload_n 3, 1) := by decide +kernel
theorem dX3_recentKeys_40 : decode cX3_recentKeys 40 = .ok (.iconst 1, 1) := by decide +kernel
theorem dX3_recentKeys_41 : decode cX3_recentKeys 41 = .ok (.iload 4, 2) := by decide +kernel
theorem dX3_recentKeys_43 : decode cX3_recentKeys 43 = .ok (.ishl, 1) := by decide +kernel
theorem dX3_recentKeys_44 : decode cX3_recentKeys 44 = .ok (.ior, 1) := by decide +kernel
theorem dX3_recentKeys_45 : decode cX3_recentKeys 45 = .ok (.istore_n 3, 1) := by decide +kernel
theorem dX3_recentKeys_46 : decode cX3_recentKeys 46 = .ok (.iinc 4 1, 3) := by decide +kernel
theorem dX3_recentKeys_49 : decode cX3_recentKeys 49 = .ok (.goto (-44), 3) := by decide +kernel
theorem dX3_recentKeys_52 : decode cX3_recentKeys 52 = .ok (.iload_n 3, 1) := by decide +kernel
theorem dX3_recentKeys_53 : decode cX3_recentKeys 53 = .ok (.ireturn, 1) := by decide +kernel
theorem dX3_isRecent_0 : decode cX3_isRecent 0 = .ok (.aload_n 0, 1) := by decide +kernel
theorem dX3_isRecent_1 : decode cX3_isRecent 1 = .ok (.aload_n 1, 1) := by decide +kernel
theorem dX3_isRecent_2 : decode cX3_isRecent 2 = .ok (.invokevirtual 131, 3) := by decide +kernel
theorem dX3_isRecent_5 : decode cX3_isRecent 5 = .ok (.ifCond .eq 25, 3) := by decide +kernel
theorem dX3_isRecent_8 : decode cX3_isRecent 8 = .ok (.aload_n 0, 1) := by decide +kernel
theorem dX3_isRecent_9 : decode cX3_isRecent 9 = .ok (.getfield 37, 3) := by decide +kernel
theorem dX3_isRecent_12 : decode cX3_isRecent 12 = .ok (.aload_n 1, 1) := by decide +kernel
theorem dX3_isRecent_13 : decode cX3_isRecent 13 = .ok (.getfield 90, 3) := by decide +kernel
theorem dX3_isRecent_16 : decode cX3_isRecent 16 = .ok (.isub, 1) := by decide +kernel
theorem dX3_isRecent_17 : decode cX3_isRecent 17 = .ok (.aload_n 0, 1) := by decide +kernel
theorem dX3_isRecent_18 : decode cX3_isRecent 18 = .ok (.getfield 9, 3) := by decide +kernel
theorem dX3_isRecent_21 : decode cX3_isRecent 21 = .ok (.iconst 3, 1) := by decide +kernel
theorem dX3_isRecent_22 : decode cX3_isRecent 22 = .ok (.iaload, 1) := by decide +kernel
theorem dX3_isRecent_23 : decode cX3_isRecent 23 = .ok (.if_icmp .ge 7, 3) := by decide +kernel
theorem dX3_isRecent_26 : decode cX3_isRecent 26 = .ok (.iconst 1, 1) := by decide +kernel
theorem dX3_isRecent_27 : decode cX3_isRecent 27 = .ok (.goto 4, 3) := by decide +kernel
theorem dX3_isRecent_30 : decode cX3_isRecent 30 = .ok (.iconst 0, 1) := by decide +kernel
theorem dX3_isRecent_31 : decode cX3_isRecent 31 = .ok (.ireturn, 1) := by decide +kernel
theorem dX3_meetKeys_0 : decode cX3_meetKeys 0 = .ok (.iconst 0, 1) := by decide +kernel
theorem dX3_meetKeys_1 : decode cX3_meetKeys 1 = .ok (.istore 4, 2) := by decide +kernel
theorem dX3_meetKeys_3 : decode cX3_meetKeys 3 = .ok (.iconst 0, 1) := by decide +kernel
theorem dX3_meetKeys_4 : decode cX3_meetKeys 4 = .ok (.istore 5, 2) := by decide +kernel
theorem dX3_meetKeys_6 : decode cX3_meetKeys 6 = .ok (.iload 5, 2) := by decide +kernel
theorem dX3_meetKeys_8 : decode cX3_meetKeys 8 = .ok (.iconst 4, 1) := by decide +kernel
theorem dX3_meetKeys_9 : decode cX3_meetKeys 9 = .ok (.if_icmp .ge 88, 3) := by decide +kernel
theorem dX3_meetKeys_12 : decode cX3_meetKeys 12 = .ok (.iload_n 3, 1) := by decide +kernel
theorem dX3_meetKeys_13 : decode cX3_meetKeys 13 = .ok (.iload 5, 2) := by decide +kernel
theorem dX3_meetKeys_15 : decode cX3_meetKeys 15 = .ok (.ishr, 1) := by decide +kernel
theorem dX3_meetKeys_16 : decode cX3_meetKeys 16 = .ok (.iconst 1, 1) := by decide +kernel
theorem dX3_meetKeys_17 : decode cX3_meetKeys 17 = .ok (.iand, 1) := by decide +kernel
theorem dX3_meetKeys_18 : decode cX3_meetKeys 18 = .ok (.iconst 1, 1) := by decide +kernel
theorem dX3_meetKeys_19 : decode cX3_meetKeys 19 = .ok (.if_icmp .ne 72, 3) := by decide +kernel
theorem dX3_meetKeys_22 : decode cX3_meetKeys 22 = .ok (.aload_n 0, 1) := by decide +kernel
theorem dX3_meetKeys_23 : decode cX3_meetKeys 23 = .ok (.iload_n 1, 1) := by decide +kernel
theorem dX3_meetKeys_24 : decode cX3_meetKeys 24 = .ok (.iload 5, 2) := by decide +kernel
theorem dX3_meetKeys_26 : decode cX3_meetKeys 26 = .ok (.invokevirtual 75, 3) := by decide +kernel
theorem dX3_meetKeys_29 : decode cX3_meetKeys 29 = .ok (.astore 6, 2) := by decide +kernel
theorem dX3_meetKeys_31 : decode cX3_meetKeys 31 = .ok (.aload_n 0, 1) := by decide +kernel
theorem dX3_meetKeys_32 : decode cX3_meetKeys 32 = .ok (.iload_n 2, 1) := by decide +kernel
theorem dX3_meetKeys_33 : decode cX3_meetKeys 33 = .ok (.iload 5, 2) := by decide +kernel
theorem dX3_meetKeys_35 : decode cX3_meetKeys 35 = .ok (.invokevirtual 75, 3) := by decide +kernel
theorem dX3_meetKeys_38 : decode cX3_meetKeys 38 = .ok (.astore 7, 2) := by decide +kernel
theorem dX3_meetKeys_40 : decode cX3_meetKeys 40 = .ok (.aload_n 0, 1) := by decide +kernel
theorem dX3_meetKeys_41 : decode cX3_meetKeys 41 = .ok (.dup, 1) := by decide +kernel
theorem dX3_meetKeys_42 : decode cX3_meetKeys 42 = .ok (.getfield 43, 3) := by decide +kernel
theorem dX3_meetKeys_45 : decode cX3_meetKeys 45 = .ok (.aload_n 0, 1) := by decide +kernel
theorem dX3_meetKeys_46 : decode cX3_meetKeys 46 = .ok (.aload 6, 2) := by decide +kernel
theorem dX3_meetKeys_48 : decode cX3_meetKeys 48 = .ok (.invokevirtual 131, 3) := by decide +kernel
theorem dX3_meetKeys_51 : decode cX3_meetKeys 51 = .ok (.ifCond .eq 7, 3) := by decide +kernel
theorem dX3_meetKeys_54 : decode cX3_meetKeys 54 = .ok (.iconst 1, 1) := by decide +kernel
theorem dX3_meetKeys_55 : decode cX3_meetKeys 55 = .ok (.goto 4, 3) := by decide +kernel
theorem dX3_meetKeys_58 : decode cX3_meetKeys 58 = .ok (.iconst 0, 1) := by decide +kernel
theorem dX3_meetKeys_59 : decode cX3_meetKeys 59 = .ok (.aload_n 0, 1) := by decide +kernel
theorem dX3_meetKeys_60 : decode cX3_meetKeys 60 = .ok (.aload 7, 2) := by decide +kernel
theorem dX3_meetKeys_62 : decode cX3_meetKeys 62 = .ok (.invokevirtual 131, 3) := by decide +kernel
theorem dX3_meetKeys_65 : decode cX3_meetKeys 65 = .ok (.ifCond .eq 7, 3) := by decide +kernel
theorem dX3_meetKeys_68 : decode cX3_meetKeys 68 = .ok (.iconst 1, 1) := by decide +kernel
theorem dX3_meetKeys_69 : decode cX3_meetKeys 69 = .ok (.goto 4, 3) := by decide +kernel
theorem dX3_meetKeys_72 : decode cX3_meetKeys 72 = .ok (.iconst 0, 1) := by decide +kernel
theorem dX3_meetKeys_73 : decode cX3_meetKeys 73 = .ok (.iadd, 1) := by decide +kernel
theorem dX3_meetKeys_74 : decode cX3_meetKeys 74 = .ok (.iadd, 1) := by decide +kernel
theorem dX3_meetKeys_75 : decode cX3_meetKeys 75 = .ok (.putfield 43, 3) := by decide +kernel
theorem dX3_meetKeys_78 : decode cX3_meetKeys 78 = .ok (.iload 4, 2) := by decide +kernel
theorem dX3_meetKeys_80 : decode cX3_meetKeys 80 = .ok (.aload_n 0, 1) := by decide +kernel
theorem dX3_meetKeys_81 : decode cX3_meetKeys 81 = .ok (.aload 6, 2) := by decide +kernel
theorem dX3_meetKeys_83 : decode cX3_meetKeys 83 = .ok (.aload 7, 2) := by decide +kernel
theorem dX3_meetKeys_85 : decode cX3_meetKeys 85 = .ok (.invokevirtual 134, 3) := by decide +kernel
theorem dX3_meetKeys_88 : decode cX3_meetKeys 88 = .ok (.iadd, 1) := by decide +kernel
theorem dX3_meetKeys_89 : decode cX3_meetKeys 89 = .ok (.istore 4, 2) := by decide +kernel
theorem dX3_meetKeys_91 : decode cX3_meetKeys 91 = .ok (.iinc 5 1, 3) := by decide +kernel
theorem dX3_meetKeys_94 : decode cX3_meetKeys 94 = .ok (.goto (-88), 3) := by decide +kernel
theorem dX3_meetKeys_97 : decode cX3_meetKeys 97 = .ok (.iload 4, 2) := by decide +kernel
theorem dX3_meetKeys_99 : decode cX3_meetKeys 99 = .ok (.ireturn, 1) := by decide +kernel
theorem dX3_meet_0 : decode cX3_meet 0 = .ok (.aload_n 0, 1) := by decide +kernel
theorem dX3_meet_1 : decode cX3_meet 1 = .ok (.aload_n 1, 1) := by decide +kernel
theorem dX3_meet_2 : decode cX3_meet 2 = .ok (.invokevirtual 79, 3) := by decide +kernel
theorem dX3_meet_5 : decode cX3_meet 5 = .ok (.ifCond .eq 22, 3) := by decide +kernel
theorem dX3_meet_8 : decode cX3_meet 8 = .ok (.aload_n 2, 1) := by decide +kernel
theorem dX3_meet_9 : decode cX3_meet 9 = .ok (.aload_n 1, 1) := by decide +kernel
theorem dX3_meet_10 : decode cX3_meet 10 = .ok (.getfield 138, 3) := by decide +kernel
theorem dX3_meet_13 : decode cX3_meet 13 = .ok (.invokevirtual 141, 3) := by decide +kernel
theorem dX3_meet_16 : decode cX3_meet 16 = .ok (.ifCond .eq 11, 3) := by decide +kernel
theorem dX3_meet_19 : decode cX3_meet 19 = .ok (.aload_n 0, 1) := by decide +kernel
theorem dX3_meet_20 : decode cX3_meet 20 = .ok (.aload_n 1, 1) := by decide +kernel
theorem dX3_meet_21 : decode cX3_meet 21 = .ok (.invokevirtual 145, 3) := by decide +kernel
theorem dX3_meet_24 : decode cX3_meet 24 = .ok (.goto 27, 3) := by decide +kernel
theorem dX3_meet_27 : decode cX3_meet 27 = .ok (.aload_n 0, 1) := by decide +kernel
theorem dX3_meet_28 : decode cX3_meet 28 = .ok (.aload_n 2, 1) := by decide +kernel
theorem dX3_meet_29 : decode cX3_meet 29 = .ok (.invokevirtual 79, 3) := by decide +kernel
theorem dX3_meet_32 : decode cX3_meet 32 = .ok (.ifCond .eq 19, 3) := by decide +kernel
theorem dX3_meet_35 : decode cX3_meet 35 = .ok (.aload_n 1, 1) := by decide +kernel
theorem dX3_meet_36 : decode cX3_meet 36 = .ok (.aload_n 2, 1) := by decide +kernel
theorem dX3_meet_37 : decode cX3_meet 37 = .ok (.getfield 138, 3) := by decide +kernel
theorem dX3_meet_40 : decode cX3_meet 40 = .ok (.invokevirtual 141, 3) := by decide +kernel
theorem dX3_meet_43 : decode cX3_meet 43 = .ok (.ifCond .eq 8, 3) := by decide +kernel
theorem dX3_meet_46 : decode cX3_meet 46 = .ok (.aload_n 0, 1) := by decide +kernel
theorem dX3_meet_47 : decode cX3_meet 47 = .ok (.aload_n 2, 1) := by decide +kernel
theorem dX3_meet_48 : decode cX3_meet 48 = .ok (.invokevirtual 145, 3) := by decide +kernel
theorem dX3_meet_51 : decode cX3_meet 51 = .ok (.aload_n 0, 1) := by decide +kernel
theorem dX3_meet_52 : decode cX3_meet 52 = .ok (.aload_n 1, 1) := by decide +kernel
theorem dX3_meet_53 : decode cX3_meet 53 = .ok (.invokevirtual 131, 3) := by decide +kernel
theorem dX3_meet_56 : decode cX3_meet 56 = .ok (.ifCond .eq 19, 3) := by decide +kernel
theorem dX3_meet_59 : decode cX3_meet 59 = .ok (.aload_n 1, 1) := by decide +kernel
theorem dX3_meet_60 : decode cX3_meet 60 = .ok (.aload_n 2, 1) := by decide +kernel
theorem dX3_meet_61 : decode cX3_meet 61 = .ok (.invokevirtual 149, 3) := by decide +kernel
theorem dX3_meet_64 : decode cX3_meet 64 = .ok (.ifCond .eq 11, 3) := by decide +kernel
theorem dX3_meet_67 : decode cX3_meet 67 = .ok (.aload_n 2, 1) := by decide +kernel
theorem dX3_meet_68 : decode cX3_meet 68 = .ok (.aload_n 1, 1) := by decide +kernel
theorem dX3_meet_69 : decode cX3_meet 69 = .ok (.iconst 0, 1) := by decide +kernel
theorem dX3_meet_70 : decode cX3_meet 70 = .ok (.invokevirtual 67, 3) := by decide +kernel
theorem dX3_meet_73 : decode cX3_meet 73 = .ok (.iconst 1, 1) := by decide +kernel
theorem dX3_meet_74 : decode cX3_meet 74 = .ok (.ireturn, 1) := by decide +kernel
theorem dX3_meet_75 : decode cX3_meet 75 = .ok (.aload_n 0, 1) := by decide +kernel
theorem dX3_meet_76 : decode cX3_meet 76 = .ok (.aload_n 2, 1) := by decide +kernel
theorem dX3_meet_77 : decode cX3_meet 77 = .ok (.invokevirtual 131, 3) := by decide +kernel
theorem dX3_meet_80 : decode cX3_meet 80 = .ok (.ifCond .eq 19, 3) := by decide +kernel
theorem dX3_meet_83 : decode cX3_meet 83 = .ok (.aload_n 2, 1) := by decide +kernel
theorem dX3_meet_84 : decode cX3_meet 84 = .ok (.aload_n 1, 1) := by decide +kernel
theorem dX3_meet_85 : decode cX3_meet 85 = .ok (.invokevirtual 149, 3) := by decide +kernel
theorem dX3_meet_88 : decode cX3_meet 88 = .ok (.ifCond .eq 11, 3) := by decide +kernel
theorem dX3_meet_91 : decode cX3_meet 91 = .ok (.aload_n 1, 1) := by decide +kernel
theorem dX3_meet_92 : decode cX3_meet 92 = .ok (.aload_n 2, 1) := by decide +kernel
theorem dX3_meet_93 : decode cX3_meet 93 = .ok (.iconst 0, 1) := by decide +kernel
theorem dX3_meet_94 : decode cX3_meet 94 = .ok (.invokevirtual 67, 3) := by decide +kernel
theorem dX3_meet_97 : decode cX3_meet 97 = .ok (.iconst 1, 1) := by decide +kernel
theorem dX3_meet_98 : decode cX3_meet 98 = .ok (.ireturn, 1) := by decide +kernel
theorem dX3_meet_99 : decode cX3_meet 99 = .ok (.iconst 0, 1) := by decide +kernel
theorem dX3_meet_100 : decode cX3_meet 100 = .ok (.ireturn, 1) := by decide +kernel
theorem dX3_tellHot_0 : decode cX3_tellHot 0 = .ok (.iconst 0, 1) := by decide +kernel
theorem dX3_tellHot_1 : decode cX3_tellHot 1 = .ok (.istore_n 3, 1) := by decide +kernel
theorem dX3_tellHot_2 : decode cX3_tellHot 2 = .ok (.iconst 0, 1) := by decide +kernel
theorem dX3_tellHot_3 : decode cX3_tellHot 3 = .ok (.istore 4, 2) := by decide +kernel
theorem dX3_tellHot_5 : decode cX3_tellHot 5 = .ok (.iload 4, 2) := by decide +kernel
theorem dX3_tellHot_7 : decode cX3_tellHot 7 = .ok (.iconst 4, 1) := by decide +kernel
theorem dX3_tellHot_8 : decode cX3_tellHot 8 = .ok (.if_icmp .ge 61, 3) := by decide +kernel
theorem dX3_tellHot_11 : decode cX3_tellHot 11 = .ok (.aload_n 0, 1) := by decide +kernel
theorem dX3_tellHot_12 : decode cX3_tellHot 12 = .ok (.iload_n 1, 1) := by decide +kernel
theorem dX3_tellHot_13 : decode cX3_tellHot 13 = .ok (.iload 4, 2) := by decide +kernel
theorem dX3_tellHot_15 : decode cX3_tellHot 15 = .ok (.invokevirtual 75, 3) := by decide +kernel
theorem dX3_tellHot_18 : decode cX3_tellHot 18 = .ok (.astore 5, 2) := by decide +kernel
theorem dX3_tellHot_20 : decode cX3_tellHot 20 = .ok (.aload 5, 2) := by decide +kernel
theorem dX3_tellHot_22 : decode cX3_tellHot 22 = .ok (.getfield 64, 3) := by decide +kernel
theorem dX3_tellHot_25 : decode cX3_tellHot 25 = .ok (.ifCond .le 38, 3) := by decide +kernel
theorem dX3_tellHot_28 : decode cX3_tellHot 28 = .ok (.aload_n 0, 1) := by decide +kernel
theorem dX3_tellHot_29 : decode cX3_tellHot 29 = .ok (.aload 5, 2) := by decide +kernel
theorem dX3_tellHot_31 : decode cX3_tellHot 31 = .ok (.invokevirtual 131, 3) := by decide +kernel
theorem dX3_tellHot_34 : decode cX3_tellHot 34 = .ok (.ifCond .eq 29, 3) := by decide +kernel
theorem dX3_tellHot_37 : decode cX3_tellHot 37 = .ok (.aload_n 0, 1) := by decide +kernel
theorem dX3_tellHot_38 : decode cX3_tellHot 38 = .ok (.dup, 1) := by decide +kernel
theorem dX3_tellHot_39 : decode cX3_tellHot 39 = .ok (.getfield 43, 3) := by decide +kernel
theorem dX3_tellHot_42 : decode cX3_tellHot 42 = .ok (.iconst 1, 1) := by decide +kernel
theorem dX3_tellHot_43 : decode cX3_tellHot 43 = .ok (.iadd, 1) := by decide +kernel
theorem dX3_tellHot_44 : decode cX3_tellHot 44 = .ok (.putfield 43, 3) := by decide +kernel
theorem dX3_tellHot_47 : decode cX3_tellHot 47 = .ok (.iload_n 3, 1) := by decide +kernel
theorem dX3_tellHot_48 : decode cX3_tellHot 48 = .ok (.aload_n 0, 1) := by decide +kernel
theorem dX3_tellHot_49 : decode cX3_tellHot 49 = .ok (.aload 5, 2) := by decide +kernel
theorem dX3_tellHot_51 : decode cX3_tellHot 51 = .ok (.aload_n 0, 1) := by decide +kernel
theorem dX3_tellHot_52 : decode cX3_tellHot 52 = .ok (.iload_n 2, 1) := by decide +kernel
theorem dX3_tellHot_53 : decode cX3_tellHot 53 = .ok (.iload 4, 2) := by decide +kernel
theorem dX3_tellHot_55 : decode cX3_tellHot 55 = .ok (.invokevirtual 75, 3) := by decide +kernel
theorem dX3_tellHot_58 : decode cX3_tellHot 58 = .ok (.invokevirtual 152, 3) := by decide +kernel
theorem dX3_tellHot_61 : decode cX3_tellHot 61 = .ok (.iadd, 1) := by decide +kernel
theorem dX3_tellHot_62 : decode cX3_tellHot 62 = .ok (.istore_n 3, 1) := by decide +kernel
theorem dX3_tellHot_63 : decode cX3_tellHot 63 = .ok (.iinc 4 1, 3) := by decide +kernel
theorem dX3_tellHot_66 : decode cX3_tellHot 66 = .ok (.goto (-61), 3) := by decide +kernel
theorem dX3_tellHot_69 : decode cX3_tellHot 69 = .ok (.iload_n 3, 1) := by decide +kernel
theorem dX3_tellHot_70 : decode cX3_tellHot 70 = .ok (.ireturn, 1) := by decide +kernel
theorem dX3_tell_0 : decode cX3_tell 0 = .ok (.aload_n 1, 1) := by decide +kernel
theorem dX3_tell_1 : decode cX3_tell 1 = .ok (.aload_n 2, 1) := by decide +kernel
theorem dX3_tell_2 : decode cX3_tell 2 = .ok (.invokevirtual 149, 3) := by decide +kernel
theorem dX3_tell_5 : decode cX3_tell 5 = .ok (.ifCond .eq 16, 3) := by decide +kernel
theorem dX3_tell_8 : decode cX3_tell 8 = .ok (.aload_n 2, 1) := by decide +kernel
theorem dX3_tell_9 : decode cX3_tell 9 = .ok (.aload_n 1, 1) := by decide +kernel
theorem dX3_tell_10 : decode cX3_tell 10 = .ok (.aload_n 0, 1) := by decide +kernel
theorem dX3_tell_11 : decode cX3_tell 11 = .ok (.getfield 9, 3) := by decide +kernel
theorem dX3_tell_14 : decode cX3_tell 14 = .ok (.iconst 2, 1) := by decide +kernel
theorem dX3_tell_15 : decode cX3_tell 15 = .ok (.iaload, 1) := by decide +kernel
theorem dX3_tell_16 : decode cX3_tell 16 = .ok (.invokevirtual 67, 3) := by decide +kernel
theorem dX3_tell_19 : decode cX3_tell 19 = .ok (.iconst 1, 1) := by decide +kernel
theorem dX3_tell_20 : decode cX3_tell 20 = .ok (.ireturn, 1) := by decide +kernel
theorem dX3_tell_21 : decode cX3_tell 21 = .ok (.aload_n 1, 1) := by decide +kernel
theorem dX3_tell_22 : decode cX3_tell 22 = .ok (.dup, 1) := by decide +kernel
theorem dX3_tell_23 : decode cX3_tell 23 = .ok (.getfield 64, 3) := by decide +kernel
theorem dX3_tell_26 : decode cX3_tell 26 = .ok (.iconst 1, 1) := by decide +kernel
theorem dX3_tell_27 : decode cX3_tell 27 = .ok (.isub, 1) := by decide +kernel
theorem dX3_tell_28 : decode cX3_tell 28 = .ok (.putfield 64, 3) := by decide +kernel
theorem dX3_tell_31 : decode cX3_tell 31 = .ok (.aload_n 0, 1) := by decide +kernel
theorem dX3_tell_32 : decode cX3_tell 32 = .ok (.aload_n 2, 1) := by decide +kernel
theorem dX3_tell_33 : decode cX3_tell 33 = .ok (.invokevirtual 79, 3) := by decide +kernel
theorem dX3_tell_36 : decode cX3_tell 36 = .ok (.ifCond .eq 19, 3) := by decide +kernel
theorem dX3_tell_39 : decode cX3_tell 39 = .ok (.aload_n 1, 1) := by decide +kernel
theorem dX3_tell_40 : decode cX3_tell 40 = .ok (.aload_n 2, 1) := by decide +kernel
theorem dX3_tell_41 : decode cX3_tell 41 = .ok (.getfield 138, 3) := by decide +kernel
theorem dX3_tell_44 : decode cX3_tell 44 = .ok (.invokevirtual 141, 3) := by decide +kernel
theorem dX3_tell_47 : decode cX3_tell 47 = .ok (.ifCond .eq 8, 3) := by decide +kernel
theorem dX3_tell_50 : decode cX3_tell 50 = .ok (.aload_n 0, 1) := by decide +kernel
theorem dX3_tell_51 : decode cX3_tell 51 = .ok (.aload_n 2, 1) := by decide +kernel
theorem dX3_tell_52 : decode cX3_tell 52 = .ok (.invokevirtual 145, 3) := by decide +kernel
theorem dX3_tell_55 : decode cX3_tell 55 = .ok (.iconst 0, 1) := by decide +kernel
theorem dX3_tell_56 : decode cX3_tell 56 = .ok (.ireturn, 1) := by decide +kernel
theorem dX3_areAlike_0 : decode cX3_areAlike 0 = .ok (.iconst 0, 1) := by decide +kernel
theorem dX3_areAlike_1 : decode cX3_areAlike 1 = .ok (.istore_n 3, 1) := by decide +kernel
theorem dX3_areAlike_2 : decode cX3_areAlike 2 = .ok (.iload_n 3, 1) := by decide +kernel
theorem dX3_areAlike_3 : decode cX3_areAlike 3 = .ok (.iconst 4, 1) := by decide +kernel
theorem dX3_areAlike_4 : decode cX3_areAlike 4 = .ok (.if_icmp .ge 30, 3) := by decide +kernel
theorem dX3_areAlike_7 : decode cX3_areAlike 7 = .ok (.aload_n 0, 1) := by decide +kernel
theorem dX3_areAlike_8 : decode cX3_areAlike 8 = .ok (.aload_n 0, 1) := by decide +kernel
theorem dX3_areAlike_9 : decode cX3_areAlike 9 = .ok (.iload_n 1, 1) := by decide +kernel
theorem dX3_areAlike_10 : decode cX3_areAlike 10 = .ok (.iload_n 3, 1) := by decide +kernel
theorem dX3_areAlike_11 : decode cX3_areAlike 11 = .ok (.invokevirtual 75, 3) := by decide +kernel
theorem dX3_areAlike_14 : decode cX3_areAlike 14 = .ok (.aload_n 0, 1) := by decide +kernel
theorem dX3_areAlike_15 : decode cX3_areAlike 15 = .ok (.iload_n 2, 1) := by decide +kernel
theorem dX3_areAlike_16 : decode cX3_areAlike 16 = .ok (.iload_n 3, 1) := by decide +kernel
theorem dX3_areAlike_17 : decode cX3_areAlike 17 = .ok (.invokevirtual 75, 3) := by decide +kernel
theorem dX3_areAlike_20 : decode cX3_areAlike 20 = .ok (.invokevirtual 155, 3) := by decide +kernel
theorem dX3_areAlike_23 : decode cX3_areAlike 23 = .ok (.ifCond .ne 5, 3) := by decide +kernel
theorem dX3_areAlike_26 : decode cX3_areAlike 26 = .ok (.iconst 0, 1) := by decide +kernel
theorem dX3_areAlike_27 : decode cX3_areAlike 27 = .ok (.ireturn, 1) := by decide +kernel
theorem dX3_areAlike_28 : decode cX3_areAlike 28 = .ok (.iinc 3 1, 3) := by decide +kernel
theorem dX3_areAlike_31 : decode cX3_areAlike 31 = .ok (.goto (-29), 3) := by decide +kernel
theorem dX3_areAlike_34 : decode cX3_areAlike 34 = .ok (.iconst 1, 1) := by decide +kernel
theorem dX3_areAlike_35 : decode cX3_areAlike 35 = .ok (.ireturn, 1) := by decide +kernel
theorem dX3_isSame_0 : decode cX3_isSame 0 = .ok (.aload_n 0, 1) := by decide +kernel
theorem dX3_isSame_1 : decode cX3_isSame 1 = .ok (.aload_n 1, 1) := by decide +kernel
theorem dX3_isSame_2 : decode cX3_isSame 2 = .ok (.invokevirtual 131, 3) := by decide +kernel
theorem dX3_isSame_5 : decode cX3_isSame 5 = .ok (.ifCond .eq 11, 3) := by decide +kernel
theorem dX3_isSame_8 : decode cX3_isSame 8 = .ok (.aload_n 0, 1) := by decide +kernel
theorem dX3_isSame_9 : decode cX3_isSame 9 = .ok (.aload_n 2, 1) := by decide +kernel
theorem dX3_isSame_10 : decode cX3_isSame 10 = .ok (.invokevirtual 131, 3) := by decide +kernel
theorem dX3_isSame_13 : decode cX3_isSame 13 = .ok (.ifCond .ne 25, 3) := by decide +kernel
theorem dX3_isSame_16 : decode cX3_isSame 16 = .ok (.aload_n 0, 1) := by decide +kernel
theorem dX3_isSame_17 : decode cX3_isSame 17 = .ok (.aload_n 1, 1) := by decide +kernel
theorem dX3_isSame_18 : decode cX3_isSame 18 = .ok (.invokevirtual 131, 3) := by decide +kernel
theorem dX3_isSame_21 : decode cX3_isSame 21 = .ok (.ifCond .ne 15, 3) := by decide +kernel
theorem dX3_isSame_24 : decode cX3_isSame 24 = .ok (.aload_n 0, 1) := by decide +kernel
theorem dX3_isSame_25 : decode cX3_isSame 25 = .ok (.aload_n 2, 1) := by decide +kernel
theorem dX3_isSame_26 : decode cX3_isSame 26 = .ok (.invokevirtual 131, 3) := by decide +kernel
theorem dX3_isSame_29 : decode cX3_isSame 29 = .ok (.ifCond .ne 7, 3) := by decide +kernel
theorem dX3_isSame_32 : decode cX3_isSame 32 = .ok (.iconst 1, 1) := by decide +kernel
theorem dX3_isSame_33 : decode cX3_isSame 33 = .ok (.goto 4, 3) := by decide +kernel
theorem dX3_isSame_36 : decode cX3_isSame 36 = .ok (.iconst 0, 1) := by decide +kernel
theorem dX3_isSame_37 : decode cX3_isSame 37 = .ok (.ireturn, 1) := by decide +kernel
theorem dX3_isSame_38 : decode cX3_isSame 38 = .ok (.aload_n 1, 1) := by decide +kernel
theorem dX3_isSame_39 : decode cX3_isSame 39 = .ok (.getfield 138, 3) := by decide +kernel
theorem dX3_isSame_42 : decode cX3_isSame 42 = .ok (.aload_n 2, 1) := by decide +kernel
theorem dX3_isSame_43 : decode cX3_isSame 43 = .ok (.getfield 138, 3) := by decide +kernel
theorem dX3_isSame_46 : decode cX3_isSame 46 = .ok (.if_icmp .ne 18, 3) := by decide +kernel
theorem dX3_isSame_49 : decode cX3_isSame 49 = .ok (.aload_n 1, 1) := by decide +kernel
theorem dX3_isSame_50 : decode cX3_isSame 50 = .ok (.getfield 90, 3) := by decide +kernel
theorem dX3_isSame_53 : decode cX3_isSame 53 = .ok (.aload_n 2, 1) := by decide +kernel
theorem dX3_isSame_54 : decode cX3_isSame 54 = .ok (.getfield 90, 3) := by decide +kernel
theorem dX3_isSame_57 : decode cX3_isSame 57 = .ok (.if_icmp .ne 7, 3) := by decide +kernel
theorem dX3_isSame_60 : decode cX3_isSame 60 = .ok (.iconst 1, 1) := by decide +kernel
theorem dX3_isSame_61 : decode cX3_isSame 61 = .ok (.goto 4, 3) := by decide +kernel
theorem dX3_isSame_64 : decode cX3_isSame 64 = .ok (.iconst 0, 1) := by decide +kernel
theorem dX3_isSame_65 : decode cX3_isSame 65 = .ok (.ireturn, 1) := by decide +kernel
theorem dX3_allOnAlike_0 : decode cX3_allOnAlike 0 = .ok (.iconst (-1), 1) := by decide +kernel
theorem dX3_allOnAlike_1 : decode cX3_allOnAlike 1 = .ok (.istore_n 1, 1) := by decide +kernel
theorem dX3_allOnAlike_2 : decode cX3_allOnAlike 2 = .ok (.iconst 0, 1) := by decide +kernel
theorem dX3_allOnAlike_3 : decode cX3_allOnAlike 3 = .ok (.istore_n 2, 1) := by decide +kernel
theorem dX3_allOnAlike_4 : decode cX3_allOnAlike 4 = .ok (.iload_n 2, 1) := by decide +kernel
theorem dX3_allOnAlike_5 : decode cX3_allOnAlike 5 = .ok (.aload_n 0, 1) := by decide +kernel
theorem dX3_allOnAlike_6 : decode cX3_allOnAlike 6 = .ok (.getfield 34, 3) := by decide +kernel
theorem dX3_allOnAlike_9 : decode cX3_allOnAlike 9 = .ok (.if_icmp .ge 35, 3) := by decide +kernel
theorem dX3_allOnAlike_12 : decode cX3_allOnAlike 12 = .ok (.aload_n 0, 1) := by decide +kernel
theorem dX3_allOnAlike_13 : decode cX3_allOnAlike 13 = .ok (.iload_n 2, 1) := by decide +kernel
theorem dX3_allOnAlike_14 : decode cX3_allOnAlike 14 = .ok (.invokevirtual 159, 3) := by decide +kernel
theorem dX3_allOnAlike_17 : decode cX3_allOnAlike 17 = .ok (.ifCond .ne 21, 3) := by decide +kernel
theorem dX3_allOnAlike_20 : decode cX3_allOnAlike 20 = .ok (.iload_n 1, 1) := by decide +kernel
theorem dX3_allOnAlike_21 : decode cX3_allOnAlike 21 = .ok (.iconst (-1), 1) := by decide +kernel
theorem dX3_allOnAlike_22 : decode cX3_allOnAlike 22 = .ok (.if_icmp .eq 14, 3) := by decide +kernel
theorem dX3_allOnAlike_25 : decode cX3_allOnAlike 25 = .ok (.aload_n 0, 1) := by decide +kernel
theorem dX3_allOnAlike_26 : decode cX3_allOnAlike 26 = .ok (.iload_n 1, 1) := by decide +kernel
theorem dX3_allOnAlike_27 : decode cX3_allOnAlike 27 = .ok (.iload_n 2, 1) := by decide +kernel
theorem dX3_allOnAlike_28 : decode cX3_allOnAlike 28 = .ok (.invokevirtual 124, 3) := by decide +kernel
theorem dX3_allOnAlike_31 : decode cX3_allOnAlike 31 = .ok (.ifCond .ne 5, 3) := by decide +kernel
theorem dX3_allOnAlike_34 : decode cX3_allOnAlike 34 = .ok (.iconst 0, 1) := by decide +kernel
theorem dX3_allOnAlike_35 : decode cX3_allOnAlike 35 = .ok (.ireturn, 1) := by decide +kernel
theorem dX3_allOnAlike_36 : decode cX3_allOnAlike 36 = .ok (.iload_n 2, 1) := by decide +kernel
theorem dX3_allOnAlike_37 : decode cX3_allOnAlike 37 = .ok (.istore_n 1, 1) := by decide +kernel
theorem dX3_allOnAlike_38 : decode cX3_allOnAlike 38 = .ok (.iinc 2 1, 3) := by decide +kernel
theorem dX3_allOnAlike_41 : decode cX3_allOnAlike 41 = .ok (.goto (-37), 3) := by decide +kernel
theorem dX3_allOnAlike_44 : decode cX3_allOnAlike 44 = .ok (.iconst 1, 1) := by decide +kernel
theorem dX3_allOnAlike_45 : decode cX3_allOnAlike 45 = .ok (.ireturn, 1) := by decide +kernel
theorem dX3_newestKey_0 : decode cX3_newestKey 0 = .ok (.iconst (-1), 1) := by decide +kernel
theorem dX3_newestKey_1 : decode cX3_newestKey 1 = .ok (.istore_n 3, 1) := by decide +kernel
theorem dX3_newestKey_2 : decode cX3_newestKey 2 = .ok (.iconst 0, 1) := by decide +kernel
theorem dX3_newestKey_3 : decode cX3_newestKey 3 = .ok (.istore 4, 2) := by decide +kernel
theorem dX3_newestKey_5 : decode cX3_newestKey 5 = .ok (.iload 4, 2) := by decide +kernel
theorem dX3_newestKey_7 : decode cX3_newestKey 7 = .ok (.iconst 4, 1) := by decide +kernel
theorem dX3_newestKey_8 : decode cX3_newestKey 8 = .ok (.if_icmp .ge 81, 3) := by decide +kernel
theorem dX3_newestKey_11 : decode cX3_newestKey 11 = .ok (.aload_n 0, 1) := by decide +kernel
theorem dX3_newestKey_12 : decode cX3_newestKey 12 = .ok (.iload_n 1, 1) := by decide +kernel
theorem dX3_newestKey_13 : decode cX3_newestKey 13 = .ok (.iload 4, 2) := by decide +kernel
theorem dX3_newestKey_15 : decode cX3_newestKey 15 = .ok (.invokevirtual 75, 3) := by decide +kernel
theorem dX3_newestKey_18 : decode cX3_newestKey 18 = .ok (.astore 5, 2) := by decide +kernel
theorem dX3_newestKey_20 : decode cX3_newestKey 20 = .ok (.iload_n 2, 1) := by decide +kernel
theorem dX3_newestKey_21 : decode cX3_newestKey 21 = .ok (.ifCond .ne 19, 3) := by decide +kernel
theorem dX3_newestKey_24 : decode cX3_newestKey 24 = .ok (.aload 5, 2) := by decide +kernel
theorem dX3_newestKey_26 : decode cX3_newestKey 26 = .ok (.getfield 87, 3) := by decide +kernel
theorem dX3_newestKey_29 : decode cX3_newestKey 29 = .ok (.ifCond .eq 7, 3) := by decide +kernel
theorem dX3_newestKey_32 : decode cX3_newestKey 32 = .ok (.iconst 1, 1) := by decide +kernel
theorem dX3_newestKey_33 : decode cX3_newestKey 33 = .ok (.goto 21, 3) := by decide +kernel
theorem dX3_newestKey_36 : decode cX3_newestKey 36 = .ok (.iconst 0, 1) := by decide +kernel
theorem dX3_newestKey_37 : decode cX3_newestKey 37 = .ok (.goto 17, 3) := by decide +kernel
theorem dX3_newestKey_40 : decode cX3_newestKey 40 = .ok (.aload 5, 2) := by decide +kernel
theorem dX3_newestKey_42 : decode cX3_newestKey 42 = .ok (.getfield 87, 3) := by decide +kernel
theorem dX3_newestKey_45 : decode cX3_newestKey 45 = .ok (.iload_n 2, 1) := by decide +kernel
theorem dX3_newestKey_46 : decode cX3_newestKey 46 = .ok (.if_icmp .ne 7, 3) := by decide +kernel
theorem dX3_newestKey_49 : decode cX3_newestKey 49 = .ok (.iconst 1, 1) := by decide +kernel
theorem dX3_newestKey_50 : decode cX3_newestKey 50 = .ok (.goto 4, 3) := by decide +kernel
theorem dX3_newestKey_53 : decode cX3_newestKey 53 = .ok (.iconst 0, 1) := by decide +kernel
theorem dX3_newestKey_54 : decode cX3_newestKey 54 = .ok (.istore 6, 2) := by decide +kernel
theorem dX3_newestKey_56 : decode cX3_newestKey 56 = .ok (.iload 6, 2) := by decide +kernel
theorem dX3_newestKey_58 : decode cX3_newestKey 58 = .ok (.ifCond .eq 25, 3) := by decide +kernel
theorem dX3_newestKey_61 : decode cX3_newestKey 61 = .ok (.iload_n 3, 1) := by decide +kernel
theorem dX3_newestKey_62 : decode cX3_newestKey 62 = .ok (.iconst (-1), 1) := by decide +kernel
theorem dX3_newestKey_63 : decode cX3_newestKey 63 = .ok (.if_icmp .eq 17, 3) := by decide +kernel
theorem dX3_newestKey_66 : decode cX3_newestKey 66 = .ok (.aload 5, 2) := by decide +kernel
theorem dX3_newestKey_68 : decode cX3_newestKey 68 = .ok (.aload_n 0, 1) := by decide +kernel
theorem dX3_newestKey_69 : decode cX3_newestKey 69 = .ok (.iload_n 1, 1) := by decide +kernel
theorem dX3_newestKey_70 : decode cX3_newestKey 70 = .ok (.iload_n 3, 1) := by decide +kernel
theorem dX3_newestKey_71 : decode cX3_newestKey 71 = .ok (.invokevirtual 75, 3) := by decide +kernel
theorem dX3_newestKey_74 : decode cX3_newestKey 74 = .ok (.invokevirtual 149, 3) := by decide +kernel
theorem dX3_newestKey_77 : decode cX3_newestKey 77 = .ok (.ifCond .eq 6, 3) := by decide +kernel
theorem dX3_newestKey_80 : decode cX3_newestKey 80 = .ok (.iload 4, 2) := by decide +kernel
theorem dX3_newestKey_82 : decode cX3_newestKey 82 = .ok (.istore_n 3, 1) := by decide +kernel
theorem dX3_newestKey_83 : decode cX3_newestKey 83 = .ok (.iinc 4 1, 3) := by decide +kernel
theorem dX3_newestKey_86 : decode cX3_newestKey 86 = .ok (.goto (-81), 3) := by decide +kernel
theorem dX3_newestKey_89 : decode cX3_newestKey 89 = .ok (.iload_n 3, 1) := by decide +kernel
theorem dX3_newestKey_90 : decode cX3_newestKey 90 = .ok (.ireturn, 1) := by decide +kernel
theorem dX3_risenSites_0 : decode cX3_risenSites 0 = .ok (.iconst 0, 1) := by decide +kernel
theorem dX3_risenSites_1 : decode cX3_risenSites 1 = .ok (.istore_n 2, 1) := by decide +kernel
theorem dX3_risenSites_2 : decode cX3_risenSites 2 = .ok (.iconst 0, 1) := by decide +kernel
theorem dX3_risenSites_3 : decode cX3_risenSites 3 = .ok (.istore_n 3, 1) := by decide +kernel
theorem dX3_risenSites_4 : decode cX3_risenSites 4 = .ok (.iload_n 3, 1) := by decide +kernel
theorem dX3_risenSites_5 : decode cX3_risenSites 5 = .ok (.aload_n 0, 1) := by decide +kernel
theorem dX3_risenSites_6 : decode cX3_risenSites 6 = .ok (.getfield 34, 3) := by decide +kernel
theorem dX3_risenSites_9 : decode cX3_risenSites 9 = .ok (.if_icmp .ge 46, 3) := by decide +kernel
theorem dX3_risenSites_12 : decode cX3_risenSites 12 = .ok (.aload_n 0, 1) := by decide +kernel
theorem dX3_risenSites_13 : decode cX3_risenSites 13 = .ok (.iload_n 3, 1) := by decide +kernel
theorem dX3_risenSites_14 : decode cX3_risenSites 14 = .ok (.iload_n 1, 1) := by decide +kernel
theorem dX3_risenSites_15 : decode cX3_risenSites 15 = .ok (.invokevirtual 75, 3) := by decide +kernel
theorem dX3_risenSites_18 : decode cX3_risenSites 18 = .ok (.astore 4, 2) := by decide +kernel
theorem dX3_risenSites_20 : decode cX3_risenSites 20 = .ok (.aload 4, 2) := by decide +kernel
theorem dX3_risenSites_22 : decode cX3_risenSites 22 = .ok (.getfield 87, 3) := by decide +kernel
theorem dX3_risenSites_25 : decode cX3_risenSites 25 = .ok (.iconst 1, 1) := by decide +kernel
theorem dX3_risenSites_26 : decode cX3_risenSites 26 = .ok (.if_icmp .ne 23, 3) := by decide +kernel
theorem dX3_risenSites_29 : decode cX3_risenSites 29 = .ok (.aload 4, 2) := by decide +kernel
theorem dX3_risenSites_31 : decode cX3_risenSites 31 = .ok (.getfield 138, 3) := by decide +kernel
theorem dX3_risenSites_34 : decode cX3_risenSites 34 = .ok (.aload_n 0, 1) := by decide +kernel
theorem dX3_risenSites_35 : decode cX3_risenSites 35 = .ok (.getfield 24, 3) := by decide +kernel
theorem dX3_risenSites_38 : decode cX3_risenSites 38 = .ok (.iload_n 1, 1) := by decide +kernel
theorem dX3_risenSites_39 : decode cX3_risenSites 39 = .ok (.iaload, 1) := by decide +kernel
theorem dX3_risenSites_40 : decode cX3_risenSites 40 = .ok (.if_icmp .ge 9, 3) := by decide +kernel
theorem dX3_risenSites_43 : decode cX3_risenSites 43 = .ok (.iload_n 2, 1) := by decide +kernel
theorem dX3_risenSites_44 : decode cX3_risenSites 44 = .ok (.iconst 1, 1) := by decide +kernel
theorem dX3_risenSites_45 : decode cX3_risenSites 45 = .ok (.iload_n 3, 1) := by decide +kernel
theorem dX3_risenSites_46 : decode cX3_risenSites 46 = .ok (.ishl, 1) := by decide +kernel
theorem dX3_risenSites_47 : decode cX3_risenSites 47 = .ok (.ior, 1) := by decide +kernel
theorem dX3_risenSites_48 : decode cX3_risenSites 48 = .ok (.istore_n 2, 1) := by decide +kernel
theorem dX3_risenSites_49 : decode cX3_risenSites 49 = .ok (.iinc 3 1, 3) := by decide +kernel
theorem dX3_risenSites_52 : decode cX3_risenSites 52 = .ok (.goto (-48), 3) := by decide +kernel
theorem dX3_risenSites_55 : decode cX3_risenSites 55 = .ok (.iload_n 2, 1) := by decide +kernel
theorem dX3_risenSites_56 : decode cX3_risenSites 56 = .ok (.ireturn, 1) := by decide +kernel
theorem dX3_othersOf_0 : decode cX3_othersOf 0 = .ok (.iconst 1, 1) := by decide +kernel
theorem dX3_othersOf_1 : decode cX3_othersOf 1 = .ok (.aload_n 0, 1) := by decide +kernel
theorem dX3_othersOf_2 : decode cX3_othersOf 2 = .ok (.getfield 34, 3) := by decide +kernel
theorem dX3_othersOf_5 : decode cX3_othersOf 5 = .ok (.ishl, 1) := by decide +kernel
theorem dX3_othersOf_6 : decode cX3_othersOf 6 = .ok (.iconst 1, 1) := by decide +kernel
theorem dX3_othersOf_7 : decode cX3_othersOf 7 = .ok (.isub, 1) := by decide +kernel
theorem dX3_othersOf_8 : decode cX3_othersOf 8 = .ok (.iconst 1, 1) := by decide +kernel
theorem dX3_othersOf_9 : decode cX3_othersOf 9 = .ok (.iload_n 1, 1) := by decide +kernel
theorem dX3_othersOf_10 : decode cX3_othersOf 10 = .ok (.ishl, 1) := by decide +kernel
theorem dX3_othersOf_11 : decode cX3_othersOf 11 = .ok (.iconst (-1), 1) := by decide +kernel
theorem dX3_othersOf_12 : decode cX3_othersOf 12 = .ok (.ixor, 1) := by decide +kernel
theorem dX3_othersOf_13 : decode cX3_othersOf 13 = .ok (.iand, 1) := by decide +kernel
theorem dX3_othersOf_14 : decode cX3_othersOf 14 = .ok (.ireturn, 1) := by decide +kernel
theorem dX3_othersOn_0 : decode cX3_othersOn 0 = .ok (.aload_n 0, 1) := by decide +kernel
theorem dX3_othersOn_1 : decode cX3_othersOn 1 = .ok (.iload_n 1, 1) := by decide +kernel
theorem dX3_othersOn_2 : decode cX3_othersOn 2 = .ok (.invokevirtual 111, 3) := by decide +kernel
theorem dX3_othersOn_5 : decode cX3_othersOn 5 = .ok (.aload_n 0, 1) := by decide +kernel
theorem dX3_othersOn_6 : decode cX3_othersOn 6 = .ok (.getfield 40, 3) := by decide +kernel
theorem dX3_othersOn_9 : decode cX3_othersOn 9 = .ok (.iconst (-1), 1) := by decide +kernel
theorem dX3_othersOn_10 : decode cX3_othersOn 10 = .ok (.ixor, 1) := by decide +kernel
theorem dX3_othersOn_11 : decode cX3_othersOn 11 = .ok (.iand, 1) := by decide +kernel
theorem dX3_othersOn_12 : decode cX3_othersOn 12 = .ok (.ireturn, 1) := by decide +kernel
theorem dX3_nearest_0 : decode cX3_nearest 0 = .ok (.iconst (-1), 1) := by decide +kernel
theorem dX3_nearest_1 : decode cX3_nearest 1 = .ok (.istore_n 3, 1) := by decide +kernel
theorem dX3_nearest_2 : decode cX3_nearest 2 = .ok (.iconst 0, 1) := by decide +kernel
theorem dX3_nearest_3 : decode cX3_nearest 3 = .ok (.istore 4, 2) := by decide +kernel
theorem dX3_nearest_5 : decode cX3_nearest 5 = .ok (.iconst 0, 1) := by decide +kernel
theorem dX3_nearest_6 : decode cX3_nearest 6 = .ok (.istore 5, 2) := by decide +kernel
theorem dX3_nearest_8 : decode cX3_nearest 8 = .ok (.iload 5, 2) := by decide +kernel
theorem dX3_nearest_10 : decode cX3_nearest 10 = .ok (.aload_n 0, 1) := by decide +kernel
theorem dX3_nearest_11 : decode cX3_nearest 11 = .ok (.getfield 34, 3) := by decide +kernel
theorem dX3_nearest_14 : decode cX3_nearest 14 = .ok (.if_icmp .ge 69, 3) := by decide +kernel
theorem dX3_nearest_17 : decode cX3_nearest 17 = .ok (.aload_n 0, 1) := by decide +kernel
theorem dX3_nearest_18 : decode cX3_nearest 18 = .ok (.getfield 15, 3) := by decide +kernel
theorem dX3_nearest_21 : decode cX3_nearest 21 = .ok (.iload 5, 2) := by decide +kernel
theorem dX3_nearest_23 : decode cX3_nearest 23 = .ok (.iaload, 1) := by decide +kernel
theorem dX3_nearest_24 : decode cX3_nearest 24 = .ok (.aload_n 0, 1) := by decide +kernel
theorem dX3_nearest_25 : decode cX3_nearest 25 = .ok (.getfield 15, 3) := by decide +kernel
theorem dX3_nearest_28 : decode cX3_nearest 28 = .ok (.iload_n 1, 1) := by decide +kernel
theorem dX3_nearest_29 : decode cX3_nearest 29 = .ok (.iaload, 1) := by decide +kernel
theorem dX3_nearest_30 : decode cX3_nearest 30 = .ok (.isub, 1) := by decide +kernel
theorem dX3_nearest_31 : decode cX3_nearest 31 = .ok (.invokestatic 162, 3) := by decide +kernel
theorem dX3_nearest_34 : decode cX3_nearest 34 = .ok (.istore 6, 2) := by decide +kernel
theorem dX3_nearest_36 : decode cX3_nearest 36 = .ok (.iload_n 2, 1) := by decide +kernel
theorem dX3_nearest_37 : decode cX3_nearest 37 = .ok (.iload 5, 2) := by decide +kernel
theorem dX3_nearest_39 : decode cX3_nearest 39 = .ok (.ishr, 1) := by decide +kernel
theorem dX3_nearest_40 : decode cX3_nearest 40 = .ok (.iconst 1, 1) := by decide +kernel
theorem dX3_nearest_41 : decode cX3_nearest 41 = .ok (.iand, 1) := by decide +kernel
theorem dX3_nearest_42 : decode cX3_nearest 42 = .ok (.iconst 1, 1) := by decide +kernel
theorem dX3_nearest_43 : decode cX3_nearest 43 = .ok (.if_icmp .ne 7, 3) := by decide +kernel
theorem dX3_nearest_46 : decode cX3_nearest 46 = .ok (.iconst 1, 1) := by decide +kernel
theorem dX3_nearest_47 : decode cX3_nearest 47 = .ok (.goto 4, 3) := by decide +kernel
theorem dX3_nearest_50 : decode cX3_nearest 50 = .ok (.iconst 0, 1) := by decide +kernel
theorem dX3_nearest_51 : decode cX3_nearest 51 = .ok (.istore 7, 2) := by decide +kernel
theorem dX3_nearest_53 : decode cX3_nearest 53 = .ok (.iload 7, 2) := by decide +kernel
theorem dX3_nearest_55 : decode cX3_nearest 55 = .ok (.ifCond .eq 22, 3) := by decide +kernel
theorem dX3_nearest_58 : decode cX3_nearest 58 = .ok (.iload_n 3, 1) := by decide +kernel
theorem dX3_nearest_59 : decode cX3_nearest 59 = .ok (.iconst (-1), 1) := by decide +kernel
theorem dX3_nearest_60 : decode cX3_nearest 60 = .ok (.if_icmp .eq 10, 3) := by decide +kernel
theorem dX3_nearest_63 : decode cX3_nearest 63 = .ok (.iload 6, 2) := by decide +kernel
theorem dX3_nearest_65 : decode cX3_nearest 65 = .ok (.iload 4, 2) := by decide +kernel
theorem dX3_nearest_67 : decode cX3_nearest 67 = .ok (.if_icmp .ge 10, 3) := by decide +kernel
theorem dX3_nearest_70 : decode cX3_nearest 70 = .ok (.iload 5, 2) := by decide +kernel
theorem dX3_nearest_72 : decode cX3_nearest 72 = .ok (.istore_n 3, 1) := by decide +kernel
theorem dX3_nearest_73 : decode cX3_nearest 73 = .ok (.iload 6, 2) := by decide +kernel
theorem dX3_nearest_75 : decode cX3_nearest 75 = .ok (.istore 4, 2) := by decide +kernel
theorem dX3_nearest_77 : decode cX3_nearest 77 = .ok (.iinc 5 1, 3) := by decide +kernel
theorem dX3_nearest_80 : decode cX3_nearest 80 = .ok (.goto (-72), 3) := by decide +kernel
theorem dX3_nearest_83 : decode cX3_nearest 83 = .ok (.iload_n 3, 1) := by decide +kernel
theorem dX3_nearest_84 : decode cX3_nearest 84 = .ok (.ireturn, 1) := by decide +kernel
theorem dX3_partnerBy_0 : decode cX3_partnerBy 0 = .ok (.aload_n 0, 1) := by decide +kernel
theorem dX3_partnerBy_1 : decode cX3_partnerBy 1 = .ok (.iload_n 1, 1) := by decide +kernel
theorem dX3_partnerBy_2 : decode cX3_partnerBy 2 = .ok (.invokevirtual 167, 3) := by decide +kernel
theorem dX3_partnerBy_5 : decode cX3_partnerBy 5 = .ok (.istore_n 3, 1) := by decide +kernel
theorem dX3_partnerBy_6 : decode cX3_partnerBy 6 = .ok (.iload_n 3, 1) := by decide +kernel
theorem dX3_partnerBy_7 : decode cX3_partnerBy 7 = .ok (.invokestatic 170, 3) := by decide +kernel
theorem dX3_partnerBy_10 : decode cX3_partnerBy 10 = .ok (.invokestatic 175, 3) := by decide +kernel
theorem dX3_partnerBy_13 : decode cX3_partnerBy 13 = .ok (.istore 4, 2) := by decide +kernel
theorem dX3_partnerBy_15 : decode cX3_partnerBy 15 = .ok (.iload 4, 2) := by decide +kernel
theorem dX3_partnerBy_17 : decode cX3_partnerBy 17 = .ok (.ifCond .gt 5, 3) := by decide +kernel
theorem dX3_partnerBy_20 : decode cX3_partnerBy 20 = .ok (.iconst (-1), 1) := by decide +kernel
theorem dX3_partnerBy_21 : decode cX3_partnerBy 21 = .ok (.ireturn, 1) := by decide +kernel
theorem dX3_partnerBy_22 : decode cX3_partnerBy 22 = .ok (.iload_n 2, 1) := by decide +kernel
theorem dX3_partnerBy_23 : decode cX3_partnerBy 23 = .ok (.ldc 178, 2) := by decide +kernel
theorem dX3_partnerBy_25 : decode cX3_partnerBy 25 = .ok (.idiv, 1) := by decide +kernel
theorem dX3_partnerBy_26 : decode cX3_partnerBy 26 = .ok (.iload 4, 2) := by decide +kernel
theorem dX3_partnerBy_28 : decode cX3_partnerBy 28 = .ok (.irem, 1) := by decide +kernel
theorem dX3_partnerBy_29 : decode cX3_partnerBy 29 = .ok (.istore 5, 2) := by decide +kernel
theorem dX3_partnerBy_31 : decode cX3_partnerBy 31 = .ok (.iconst 0, 1) := by decide +kernel
theorem dX3_partnerBy_32 : decode cX3_partnerBy 32 = .ok (.istore 6, 2) := by decide +kernel
theorem dX3_partnerBy_34 : decode cX3_partnerBy 34 = .ok (.iconst 0, 1) := by decide +kernel
theorem dX3_partnerBy_35 : decode cX3_partnerBy 35 = .ok (.istore 7, 2) := by decide +kernel
theorem dX3_partnerBy_37 : decode cX3_partnerBy 37 = .ok (.iload 7, 2) := by decide +kernel
theorem dX3_partnerBy_39 : decode cX3_partnerBy 39 = .ok (.getstatic 179, 3) := by decide +kernel
theorem dX3_partnerBy_42 : decode cX3_partnerBy 42 = .ok (.arraylength, 1) := by decide +kernel
theorem dX3_partnerBy_43 : decode cX3_partnerBy 43 = .ok (.if_icmp .ge 51, 3) := by decide +kernel
theorem dX3_partnerBy_46 : decode cX3_partnerBy 46 = .ok (.iload_n 3, 1) := by decide +kernel
theorem dX3_partnerBy_47 : decode cX3_partnerBy 47 = .ok (.ifCond .eq 47, 3) := by decide +kernel
theorem dX3_partnerBy_50 : decode cX3_partnerBy 50 = .ok (.aload_n 0, 1) := by decide +kernel
theorem dX3_partnerBy_51 : decode cX3_partnerBy 51 = .ok (.iload_n 1, 1) := by decide +kernel
theorem dX3_partnerBy_52 : decode cX3_partnerBy 52 = .ok (.iload_n 3, 1) := by decide +kernel
theorem dX3_partnerBy_53 : decode cX3_partnerBy 53 = .ok (.invokevirtual 114, 3) := by decide +kernel
theorem dX3_partnerBy_56 : decode cX3_partnerBy 56 = .ok (.istore 8, 2) := by decide +kernel
theorem dX3_partnerBy_58 : decode cX3_partnerBy 58 = .ok (.iload 6, 2) := by decide +kernel
theorem dX3_partnerBy_60 : decode cX3_partnerBy 60 = .ok (.getstatic 179, 3) := by decide +kernel
theorem dX3_partnerBy_63 : decode cX3_partnerBy 63 = .ok (.iload 7, 2) := by decide +kernel
theorem dX3_partnerBy_65 : decode cX3_partnerBy 65 = .ok (.iaload, 1) := by decide +kernel
theorem dX3_partnerBy_66 : decode cX3_partnerBy 66 = .ok (.iadd, 1) := by decide +kernel
theorem dX3_partnerBy_67 : decode cX3_partnerBy 67 = .ok (.istore 6, 2) := by decide +kernel
theorem dX3_partnerBy_69 : decode cX3_partnerBy 69 = .ok (.iload 6, 2) := by decide +kernel
theorem dX3_partnerBy_71 : decode cX3_partnerBy 71 = .ok (.iload 5, 2) := by decide +kernel
theorem dX3_partnerBy_73 : decode cX3_partnerBy 73 = .ok (.if_icmp .le 6, 3) := by decide +kernel
theorem dX3_partnerBy_76 : decode cX3_partnerBy 76 = .ok (.iload 8, 2) := by decide +kernel
theorem dX3_partnerBy_78 : decode cX3_partnerBy 78 = .ok (.ireturn, 1) := by decide +kernel
theorem dX3_partnerBy_79 : decode cX3_partnerBy 79 = .ok (.iload_n 3, 1) := by decide +kernel
theorem dX3_partnerBy_80 : decode cX3_partnerBy 80 = .ok (.iconst 1, 1) := by decide +kernel
theorem dX3_partnerBy_81 : decode cX3_partnerBy 81 = .ok (.iload 8, 2) := by decide +kernel
theorem dX3_partnerBy_83 : decode cX3_partnerBy 83 = .ok (.ishl, 1) := by decide +kernel
theorem dX3_partnerBy_84 : decode cX3_partnerBy 84 = .ok (.iconst (-1), 1) := by decide +kernel
theorem dX3_partnerBy_85 : decode cX3_partnerBy 85 = .ok (.ixor, 1) := by decide +kernel
theorem dX3_partnerBy_86 : decode cX3_partnerBy 86 = .ok (.iand, 1) := by decide +kernel
theorem dX3_partnerBy_87 : decode cX3_partnerBy 87 = .ok (.istore_n 3, 1) := by decide +kernel
theorem dX3_partnerBy_88 : decode cX3_partnerBy 88 = .ok (.iinc 7 1, 3) := by decide +kernel
theorem dX3_partnerBy_91 : decode cX3_partnerBy 91 = .ok (.goto (-54), 3) := by decide +kernel
theorem dX3_partnerBy_94 : decode cX3_partnerBy 94 = .ok (.iconst (-1), 1) := by decide +kernel
theorem dX3_partnerBy_95 : decode cX3_partnerBy 95 = .ok (.ireturn, 1) := by decide +kernel
theorem dX3_weightOf_0 : decode cX3_weightOf 0 = .ok (.iconst 0, 1) := by decide +kernel
theorem dX3_weightOf_1 : decode cX3_weightOf 1 = .ok (.istore_n 1, 1) := by decide +kernel
theorem dX3_weightOf_2 : decode cX3_weightOf 2 = .ok (.iconst 0, 1) := by decide +kernel
theorem dX3_weightOf_3 : decode cX3_weightOf 3 = .ok (.istore_n 2, 1) := by decide +kernel
theorem dX3_weightOf_4 : decode cX3_weightOf 4 = .ok (.iload_n 2, 1) := by decide +kernel
theorem dX3_weightOf_5 : decode cX3_weightOf 5 = .ok (.getstatic 179, 3) := by decide +kernel
theorem dX3_weightOf_8 : decode cX3_weightOf 8 = .ok (.arraylength, 1) := by decide +kernel
theorem dX3_weightOf_9 : decode cX3_weightOf 9 = .ok (.if_icmp .ge 22, 3) := by decide +kernel
theorem dX3_weightOf_12 : decode cX3_weightOf 12 = .ok (.iload_n 2, 1) := by decide +kernel
theorem dX3_weightOf_13 : decode cX3_weightOf 13 = .ok (.iload_n 0, 1) := by decide +kernel
theorem dX3_weightOf_14 : decode cX3_weightOf 14 = .ok (.if_icmp .ge 17, 3) := by decide +kernel
theorem dX3_weightOf_17 : decode cX3_weightOf 17 = .ok (.iload_n 1, 1) := by decide +kernel
theorem dX3_weightOf_18 : decode cX3_weightOf 18 = .ok (.getstatic 179, 3) := by decide +kernel
theorem dX3_weightOf_21 : decode cX3_weightOf 21 = .ok (.iload_n 2, 1) := by decide +kernel
theorem dX3_weightOf_22 : decode cX3_weightOf 22 = .ok (.iaload, 1) := by decide +kernel
theorem dX3_weightOf_23 : decode cX3_weightOf 23 = .ok (.iadd, 1) := by decide +kernel
theorem dX3_weightOf_24 : decode cX3_weightOf 24 = .ok (.istore_n 1, 1) := by decide +kernel
theorem dX3_weightOf_25 : decode cX3_weightOf 25 = .ok (.iinc 2 1, 3) := by decide +kernel
theorem dX3_weightOf_28 : decode cX3_weightOf 28 = .ok (.goto (-24), 3) := by decide +kernel
theorem dX3_weightOf_31 : decode cX3_weightOf 31 = .ok (.iload_n 1, 1) := by decide +kernel
theorem dX3_weightOf_32 : decode cX3_weightOf 32 = .ok (.ireturn, 1) := by decide +kernel
