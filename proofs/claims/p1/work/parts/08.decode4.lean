theorem d_Mo_tip_73 : decode b_Mo_tip 73 = .ok (.lshl, 1) := by decide +kernel
theorem d_Mo_tip_74 : decode b_Mo_tip 74 = .ok (.aload_n 0, 1) := by decide +kernel
theorem d_Mo_tip_75 : decode b_Mo_tip 75 = .ok (.getfield 50, 3) := by decide +kernel
theorem d_Mo_tip_78 : decode b_Mo_tip 78 = .ok (.bipush 32, 2) := by decide +kernel
theorem d_Mo_tip_80 : decode b_Mo_tip 80 = .ok (.aload_n 0, 1) := by decide +kernel
theorem d_Mo_tip_81 : decode b_Mo_tip 81 = .ok (.getfield 328, 3) := by decide +kernel
theorem d_Mo_tip_84 : decode b_Mo_tip 84 = .ok (.imul, 1) := by decide +kernel
theorem d_Mo_tip_85 : decode b_Mo_tip 85 = .ok (.iload 4, 2) := by decide +kernel
theorem d_Mo_tip_87 : decode b_Mo_tip 87 = .ok (.iadd, 1) := by decide +kernel
theorem d_Mo_tip_88 : decode b_Mo_tip 88 = .ok (.baload, 1) := by decide +kernel
theorem d_Mo_tip_89 : decode b_Mo_tip 89 = .ok (.sipush 255, 3) := by decide +kernel
theorem d_Mo_tip_92 : decode b_Mo_tip 92 = .ok (.iand, 1) := by decide +kernel
theorem d_Mo_tip_93 : decode b_Mo_tip 93 = .ok (.i2l, 1) := by decide +kernel
theorem d_Mo_tip_94 : decode b_Mo_tip 94 = .ok (.lor, 1) := by decide +kernel
theorem d_Mo_tip_95 : decode b_Mo_tip 95 = .ok (.lstore_n 2, 1) := by decide +kernel
theorem d_Mo_tip_96 : decode b_Mo_tip 96 = .ok (.iinc 4 1, 3) := by decide +kernel
theorem d_Mo_tip_99 : decode b_Mo_tip 99 = .ok (.goto (-35), 3) := by decide +kernel
theorem d_Mo_tip_102 : decode b_Mo_tip 102 = .ok (.lload_n 2, 1) := by decide +kernel
theorem d_Mo_tip_103 : decode b_Mo_tip 103 = .ok (.lreturn, 1) := by decide +kernel
theorem d_Mo_tip_104 : decode b_Mo_tip 104 = .ok (.ldc2_w 261, 3) := by decide +kernel
theorem d_Mo_tip_107 : decode b_Mo_tip 107 = .ok (.lreturn, 1) := by decide +kernel
theorem d_Mo_wellFormed_0 : decode b_Mo_wellFormed 0 = .ok (.iload_n 2, 1) := by decide +kernel
theorem d_Mo_wellFormed_1 : decode b_Mo_wellFormed 1 = .ok (.bipush 77, 2) := by decide +kernel
theorem d_Mo_wellFormed_3 : decode b_Mo_wellFormed 3 = .ok (.if_icmp .ge 5, 3) := by decide +kernel
theorem d_Mo_wellFormed_6 : decode b_Mo_wellFormed 6 = .ok (.iconst 0, 1) := by decide +kernel
theorem d_Mo_wellFormed_7 : decode b_Mo_wellFormed 7 = .ok (.ireturn, 1) := by decide +kernel
theorem d_Payment_init_0 : decode b_Payment_init 0 = .ok (.aload_n 0, 1) := by decide +kernel
theorem d_Payment_init_1 : decode b_Payment_init 1 = .ok (.invokespecial 3, 3) := by decide +kernel
theorem d_Payment_init_4 : decode b_Payment_init 4 = .ok (.aload_n 0, 1) := by decide +kernel
theorem d_Payment_init_5 : decode b_Payment_init 5 = .ok (.bipush 8, 2) := by decide +kernel
theorem d_Payment_init_7 : decode b_Payment_init 7 = .ok (.newarray .int, 2) := by decide +kernel
theorem d_Payment_init_9 : decode b_Payment_init 9 = .ok (.putfield 9, 3) := by decide +kernel
theorem d_Payment_init_12 : decode b_Payment_init 12 = .ok (.aload_n 0, 1) := by decide +kernel
theorem d_Payment_init_13 : decode b_Payment_init 13 = .ok (.bipush 8, 2) := by decide +kernel
theorem d_Payment_init_15 : decode b_Payment_init 15 = .ok (.newarray .int, 2) := by decide +kernel
theorem d_Payment_init_17 : decode b_Payment_init 17 = .ok (.putfield 15, 3) := by decide +kernel
theorem d_Payment_init_20 : decode b_Payment_init 20 = .ok (.aload_n 0, 1) := by decide +kernel
theorem d_Payment_init_21 : decode b_Payment_init 21 = .ok (.bipush 32, 2) := by decide +kernel
theorem d_Payment_init_23 : decode b_Payment_init 23 = .ok (.newarray .byte, 2) := by decide +kernel
theorem d_Payment_init_25 : decode b_Payment_init 25 = .ok (.putfield 18, 3) := by decide +kernel
theorem d_Payment_init_28 : decode b_Payment_init 28 = .ok (.aload_n 0, 1) := by decide +kernel
theorem d_Payment_init_29 : decode b_Payment_init 29 = .ok (.bipush 32, 2) := by decide +kernel
theorem d_Payment_init_31 : decode b_Payment_init 31 = .ok (.newarray .byte, 2) := by decide +kernel
theorem d_Payment_init_33 : decode b_Payment_init 33 = .ok (.putfield 22, 3) := by decide +kernel
theorem d_Payment_init_36 : decode b_Payment_init 36 = .ok (.return_, 1) := by decide +kernel
theorem d_Payment_read_0 : decode b_Payment_read 0 = .ok (.aload_n 0, 1) := by decide +kernel
theorem d_Payment_read_1 : decode b_Payment_read 1 = .ok (.aload_n 1, 1) := by decide +kernel
theorem d_Payment_read_2 : decode b_Payment_read 2 = .ok (.putfield 25, 3) := by decide +kernel
theorem d_Payment_read_5 : decode b_Payment_read 5 = .ok (.aload_n 0, 1) := by decide +kernel
theorem d_Payment_read_6 : decode b_Payment_read 6 = .ok (.iload_n 2, 1) := by decide +kernel
theorem d_Payment_read_7 : decode b_Payment_read 7 = .ok (.putfield 28, 3) := by decide +kernel
theorem d_Payment_read_10 : decode b_Payment_read 10 = .ok (.aload_n 0, 1) := by decide +kernel
theorem d_Payment_read_11 : decode b_Payment_read 11 = .ok (.iconst 0, 1) := by decide +kernel
theorem d_Payment_read_12 : decode b_Payment_read 12 = .ok (.putfield 32, 3) := by decide +kernel
theorem d_Payment_read_15 : decode b_Payment_read 15 = .ok (.aload_n 0, 1) := by decide +kernel
theorem d_Payment_read_16 : decode b_Payment_read 16 = .ok (.aconst_null, 1) := by decide +kernel
theorem d_Payment_read_17 : decode b_Payment_read 17 = .ok (.putfield 36, 3) := by decide +kernel
theorem d_Payment_read_20 : decode b_Payment_read 20 = .ok (.iload_n 3, 1) := by decide +kernel
theorem d_Payment_read_21 : decode b_Payment_read 21 = .ok (.iload_n 2, 1) := by decide +kernel
theorem d_Payment_read_22 : decode b_Payment_read 22 = .ok (.isub, 1) := by decide +kernel
theorem d_Payment_read_23 : decode b_Payment_read 23 = .ok (.iconst 5, 1) := by decide +kernel
theorem d_Payment_read_24 : decode b_Payment_read 24 = .ok (.if_icmp .ge 5, 3) := by decide +kernel
theorem d_Payment_read_27 : decode b_Payment_read 27 = .ok (.iconst (-1), 1) := by decide +kernel
theorem d_Payment_read_28 : decode b_Payment_read 28 = .ok (.ireturn, 1) := by decide +kernel
theorem d_Pool_feesOf_0 : decode b_Pool_feesOf 0 = .ok (.lconst 0, 1) := by decide +kernel
theorem d_Pool_feesOf_1 : decode b_Pool_feesOf 1 = .ok (.lstore_n 2, 1) := by decide +kernel
theorem d_Pool_feesOf_2 : decode b_Pool_feesOf 2 = .ok (.iconst 0, 1) := by decide +kernel
theorem d_Pool_feesOf_3 : decode b_Pool_feesOf 3 = .ok (.istore 4, 2) := by decide +kernel
theorem d_Pool_feesOf_5 : decode b_Pool_feesOf 5 = .ok (.iload 4, 2) := by decide +kernel
theorem d_Pool_feesOf_7 : decode b_Pool_feesOf 7 = .ok (.iload_n 1, 1) := by decide +kernel
theorem d_Pool_feesOf_8 : decode b_Pool_feesOf 8 = .ok (.if_icmp .ge 40, 3) := by decide +kernel
theorem d_Pool_feesOf_48 : decode b_Pool_feesOf 48 = .ok (.lload_n 2, 1) := by decide +kernel
theorem d_Pool_feesOf_49 : decode b_Pool_feesOf 49 = .ok (.lreturn, 1) := by decide +kernel
theorem d_Pool_fitting_0 : decode b_Pool_fitting 0 = .ok (.iconst 0, 1) := by decide +kernel
theorem d_Pool_fitting_1 : decode b_Pool_fitting 1 = .ok (.istore_n 2, 1) := by decide +kernel
theorem d_Pool_fitting_2 : decode b_Pool_fitting 2 = .ok (.iload_n 1, 1) := by decide +kernel
theorem d_Pool_fitting_3 : decode b_Pool_fitting 3 = .ok (.istore_n 3, 1) := by decide +kernel
theorem d_Pool_fitting_4 : decode b_Pool_fitting 4 = .ok (.iload_n 2, 1) := by decide +kernel
theorem d_Pool_fitting_5 : decode b_Pool_fitting 5 = .ok (.aload_n 0, 1) := by decide +kernel
theorem d_Pool_fitting_6 : decode b_Pool_fitting 6 = .ok (.getfield 12, 3) := by decide +kernel
theorem d_Pool_fitting_9 : decode b_Pool_fitting 9 = .ok (.invokevirtual 96, 3) := by decide +kernel
theorem d_Pool_fitting_12 : decode b_Pool_fitting 12 = .ok (.if_icmp .ge 43, 3) := by decide +kernel
theorem d_Pool_fitting_55 : decode b_Pool_fitting 55 = .ok (.iload_n 2, 1) := by decide +kernel
theorem d_Pool_fitting_56 : decode b_Pool_fitting 56 = .ok (.ireturn, 1) := by decide +kernel
theorem d_Pool_hasAmong_0 : decode b_Pool_hasAmong 0 = .ok (.iconst 0, 1) := by decide +kernel
theorem d_Pool_hasAmong_1 : decode b_Pool_hasAmong 1 = .ok (.istore_n 3, 1) := by decide +kernel
theorem d_Pool_hasAmong_2 : decode b_Pool_hasAmong 2 = .ok (.iload_n 3, 1) := by decide +kernel
theorem d_Pool_hasAmong_3 : decode b_Pool_hasAmong 3 = .ok (.iload_n 1, 1) := by decide +kernel
theorem d_Pool_hasAmong_4 : decode b_Pool_hasAmong 4 = .ok (.if_icmp .ge 47, 3) := by decide +kernel
theorem d_Pool_hasAmong_51 : decode b_Pool_hasAmong 51 = .ok (.iconst 0, 1) := by decide +kernel
theorem d_Pool_hasAmong_52 : decode b_Pool_hasAmong 52 = .ok (.ireturn, 1) := by decide +kernel
theorem d_Pool_init_0 : decode b_Pool_init 0 = .ok (.aload_n 0, 1) := by decide +kernel
theorem d_Pool_init_1 : decode b_Pool_init 1 = .ok (.invokespecial 3, 3) := by decide +kernel
theorem d_Pool_init_4 : decode b_Pool_init 4 = .ok (.aload_n 0, 1) := by decide +kernel
theorem d_Pool_init_5 : decode b_Pool_init 5 = .ok (.new 9, 3) := by decide +kernel
theorem d_Pool_init_8 : decode b_Pool_init 8 = .ok (.dup, 1) := by decide +kernel
theorem d_Pool_init_9 : decode b_Pool_init 9 = .ok (.invokespecial 11, 3) := by decide +kernel
theorem d_Pool_init_12 : decode b_Pool_init 12 = .ok (.putfield 12, 3) := by decide +kernel
theorem d_Pool_init_15 : decode b_Pool_init 15 = .ok (.aload_n 0, 1) := by decide +kernel
theorem d_Pool_init_16 : decode b_Pool_init 16 = .ok (.new 9, 3) := by decide +kernel
theorem d_Pool_init_19 : decode b_Pool_init 19 = .ok (.dup, 1) := by decide +kernel
theorem d_Pool_init_20 : decode b_Pool_init 20 = .ok (.invokespecial 11, 3) := by decide +kernel
theorem d_Pool_init_23 : decode b_Pool_init 23 = .ok (.putfield 18, 3) := by decide +kernel
theorem d_Pool_init_26 : decode b_Pool_init 26 = .ok (.aload_n 0, 1) := by decide +kernel
theorem d_Pool_init_27 : decode b_Pool_init 27 = .ok (.aload_n 1, 1) := by decide +kernel
theorem d_Pool_init_28 : decode b_Pool_init 28 = .ok (.putfield 21, 3) := by decide +kernel
theorem d_Pool_init_31 : decode b_Pool_init 31 = .ok (.aload_n 0, 1) := by decide +kernel
theorem d_Pool_init_32 : decode b_Pool_init 32 = .ok (.aload_n 2, 1) := by decide +kernel
theorem d_Pool_init_33 : decode b_Pool_init 33 = .ok (.putfield 25, 3) := by decide +kernel
theorem d_Pool_init_36 : decode b_Pool_init 36 = .ok (.aload_n 0, 1) := by decide +kernel
theorem d_Pool_init_37 : decode b_Pool_init 37 = .ok (.aload_n 3, 1) := by decide +kernel
theorem d_Pool_init_38 : decode b_Pool_init 38 = .ok (.putfield 29, 3) := by decide +kernel
theorem d_Pool_init_41 : decode b_Pool_init 41 = .ok (.aload_n 0, 1) := by decide +kernel
theorem d_Pool_init_42 : decode b_Pool_init 42 = .ok (.aload_n 3, 1) := by decide +kernel
theorem d_Pool_init_43 : decode b_Pool_init 43 = .ok (.getfield 33, 3) := by decide +kernel
theorem d_Pool_init_46 : decode b_Pool_init 46 = .ok (.putfield 39, 3) := by decide +kernel
theorem d_Pool_init_49 : decode b_Pool_init 49 = .ok (.return_, 1) := by decide +kernel
theorem d_Pool_receive_0 : decode b_Pool_receive 0 = .ok (.aload_n 0, 1) := by decide +kernel
theorem d_Pool_receive_1 : decode b_Pool_receive 1 = .ok (.getfield 42, 3) := by decide +kernel
theorem d_Pool_receive_4 : decode b_Pool_receive 4 = .ok (.ifnonnull 14, 3) := by decide +kernel
theorem d_Pool_receive_7 : decode b_Pool_receive 7 = .ok (.aload_n 0, 1) := by decide +kernel
theorem d_Pool_receive_8 : decode b_Pool_receive 8 = .ok (.new 46, 3) := by decide +kernel
theorem d_Pool_receive_11 : decode b_Pool_receive 11 = .ok (.dup, 1) := by decide +kernel
theorem d_Pool_receive_12 : decode b_Pool_receive 12 = .ok (.invokespecial 48, 3) := by decide +kernel
theorem d_Pool_receive_15 : decode b_Pool_receive 15 = .ok (.putfield 42, 3) := by decide +kernel
theorem d_Pool_receive_18 : decode b_Pool_receive 18 = .ok (.aload_n 0, 1) := by decide +kernel
theorem d_Pool_receive_19 : decode b_Pool_receive 19 = .ok (.getfield 42, 3) := by decide +kernel
theorem d_Pool_receive_22 : decode b_Pool_receive 22 = .ok (.astore_n 3, 1) := by decide +kernel
theorem d_Pool_receive_23 : decode b_Pool_receive 23 = .ok (.aload_n 3, 1) := by decide +kernel
theorem d_Pool_receive_24 : decode b_Pool_receive 24 = .ok (.aload_n 1, 1) := by decide +kernel
theorem d_Pool_receive_25 : decode b_Pool_receive 25 = .ok (.iconst 0, 1) := by decide +kernel
theorem d_Pool_receive_26 : decode b_Pool_receive 26 = .ok (.iload_n 2, 1) := by decide +kernel
theorem d_Pool_receive_27 : decode b_Pool_receive 27 = .ok (.invokevirtual 49, 3) := by decide +kernel
theorem d_Pool_receive_30 : decode b_Pool_receive 30 = .ok (.iload_n 2, 1) := by decide +kernel
theorem d_Pool_receive_31 : decode b_Pool_receive 31 = .ok (.if_icmp .eq 6, 3) := by decide +kernel
theorem d_Pool_receive_34 : decode b_Pool_receive 34 = .ok (.bipush (-3), 2) := by decide +kernel
theorem d_Pool_receive_36 : decode b_Pool_receive 36 = .ok (.ireturn, 1) := by decide +kernel
theorem d_Pool_renew_0 : decode b_Pool_renew 0 = .ok (.aload_n 0, 1) := by decide +kernel
theorem d_Pool_renew_1 : decode b_Pool_renew 1 = .ok (.getfield 39, 3) := by decide +kernel
theorem d_Pool_renew_4 : decode b_Pool_renew 4 = .ok (.aload_n 0, 1) := by decide +kernel
theorem d_Pool_renew_5 : decode b_Pool_renew 5 = .ok (.getfield 29, 3) := by decide +kernel
theorem d_Pool_renew_8 : decode b_Pool_renew 8 = .ok (.getfield 33, 3) := by decide +kernel
theorem d_Pool_renew_11 : decode b_Pool_renew 11 = .ok (.if_acmp .ne 4, 3) := by decide +kernel
theorem d_Pool_renew_14 : decode b_Pool_renew 14 = .ok (.return_, 1) := by decide +kernel
theorem d_Row_addByte_0 : decode b_Row_addByte 0 = .ok (.aload_n 0, 1) := by decide +kernel
theorem d_Row_addByte_1 : decode b_Row_addByte 1 = .ok (.getfield 15, 3) := by decide +kernel
theorem d_Row_addByte_4 : decode b_Row_addByte 4 = .ok (.sipush 4096, 3) := by decide +kernel
theorem d_Row_addByte_7 : decode b_Row_addByte 7 = .ok (.if_icmp .ge 24, 3) := by decide +kernel
theorem d_Row_addByte_10 : decode b_Row_addByte 10 = .ok (.aload_n 0, 1) := by decide +kernel
theorem d_Row_addByte_11 : decode b_Row_addByte 11 = .ok (.getfield 9, 3) := by decide +kernel
theorem d_Row_addByte_14 : decode b_Row_addByte 14 = .ok (.aload_n 0, 1) := by decide +kernel
theorem d_Row_addByte_15 : decode b_Row_addByte 15 = .ok (.getfield 15, 3) := by decide +kernel
theorem d_Row_addByte_18 : decode b_Row_addByte 18 = .ok (.iload_n 1, 1) := by decide +kernel
theorem d_Row_addByte_19 : decode b_Row_addByte 19 = .ok (.i2b, 1) := by decide +kernel
theorem d_Row_addByte_20 : decode b_Row_addByte 20 = .ok (.bastore, 1) := by decide +kernel
theorem d_Row_addByte_21 : decode b_Row_addByte 21 = .ok (.aload_n 0, 1) := by decide +kernel
theorem d_Row_addByte_22 : decode b_Row_addByte 22 = .ok (.dup, 1) := by decide +kernel
theorem d_Row_addByte_23 : decode b_Row_addByte 23 = .ok (.getfield 15, 3) := by decide +kernel
theorem d_Row_addByte_26 : decode b_Row_addByte 26 = .ok (.iconst 1, 1) := by decide +kernel
theorem d_Row_addByte_27 : decode b_Row_addByte 27 = .ok (.iadd, 1) := by decide +kernel
theorem d_Row_addByte_28 : decode b_Row_addByte 28 = .ok (.putfield 15, 3) := by decide +kernel
theorem d_Row_addByte_31 : decode b_Row_addByte 31 = .ok (.return_, 1) := by decide +kernel
theorem d_Row_addBytes_0 : decode b_Row_addBytes 0 = .ok (.iload_n 3, 1) := by decide +kernel
theorem d_Row_addBytes_1 : decode b_Row_addBytes 1 = .ok (.sipush 4096, 3) := by decide +kernel
theorem d_Row_addBytes_4 : decode b_Row_addBytes 4 = .ok (.aload_n 0, 1) := by decide +kernel
theorem d_Row_addBytes_5 : decode b_Row_addBytes 5 = .ok (.getfield 15, 3) := by decide +kernel
theorem d_Row_addBytes_8 : decode b_Row_addBytes 8 = .ok (.isub, 1) := by decide +kernel
theorem d_Row_addBytes_9 : decode b_Row_addBytes 9 = .ok (.if_icmp .gt 27, 3) := by decide +kernel
theorem d_Row_addBytes_12 : decode b_Row_addBytes 12 = .ok (.aload_n 1, 1) := by decide +kernel
theorem d_Row_addBytes_13 : decode b_Row_addBytes 13 = .ok (.iload_n 2, 1) := by decide +kernel
theorem d_Row_addBytes_14 : decode b_Row_addBytes 14 = .ok (.aload_n 0, 1) := by decide +kernel
theorem d_Row_addBytes_15 : decode b_Row_addBytes 15 = .ok (.getfield 9, 3) := by decide +kernel
theorem d_Row_addBytes_18 : decode b_Row_addBytes 18 = .ok (.aload_n 0, 1) := by decide +kernel
theorem d_Row_addBytes_19 : decode b_Row_addBytes 19 = .ok (.getfield 15, 3) := by decide +kernel
theorem d_Row_addBytes_22 : decode b_Row_addBytes 22 = .ok (.iload_n 3, 1) := by decide +kernel
theorem d_Row_addBytes_23 : decode b_Row_addBytes 23 = .ok (.invokestatic 23, 3) := by decide +kernel
theorem d_Row_addBytes_26 : decode b_Row_addBytes 26 = .ok (.aload_n 0, 1) := by decide +kernel
theorem d_Row_addBytes_27 : decode b_Row_addBytes 27 = .ok (.dup, 1) := by decide +kernel
theorem d_Row_addBytes_28 : decode b_Row_addBytes 28 = .ok (.getfield 15, 3) := by decide +kernel
theorem d_Row_addBytes_31 : decode b_Row_addBytes 31 = .ok (.iload_n 3, 1) := by decide +kernel
theorem d_Row_addBytes_32 : decode b_Row_addBytes 32 = .ok (.iadd, 1) := by decide +kernel
theorem d_Row_addBytes_33 : decode b_Row_addBytes 33 = .ok (.putfield 15, 3) := by decide +kernel
theorem d_Row_addBytes_36 : decode b_Row_addBytes 36 = .ok (.return_, 1) := by decide +kernel
theorem d_Row_addKeyOutput_0 : decode b_Row_addKeyOutput 0 = .ok (.aload_n 0, 1) := by decide +kernel
theorem d_Row_addKeyOutput_1 : decode b_Row_addKeyOutput 1 = .ok (.iload_n 1, 1) := by decide +kernel
theorem d_Row_addKeyOutput_2 : decode b_Row_addKeyOutput 2 = .ok (.invokevirtual 29, 3) := by decide +kernel
theorem d_Row_addKeyOutput_5 : decode b_Row_addKeyOutput 5 = .ok (.aload_n 0, 1) := by decide +kernel
theorem d_Row_addKeyOutput_6 : decode b_Row_addKeyOutput 6 = .ok (.bipush 6, 2) := by decide +kernel
theorem d_Row_addKeyOutput_8 : decode b_Row_addKeyOutput 8 = .ok (.invokevirtual 33, 3) := by decide +kernel
theorem d_Row_addKeyOutput_11 : decode b_Row_addKeyOutput 11 = .ok (.aload_n 0, 1) := by decide +kernel
theorem d_Row_addKeyOutput_12 : decode b_Row_addKeyOutput 12 = .ok (.iconst 4, 1) := by decide +kernel
theorem d_Row_addKeyOutput_13 : decode b_Row_addKeyOutput 13 = .ok (.invokevirtual 33, 3) := by decide +kernel
theorem d_Row_addKeyOutput_16 : decode b_Row_addKeyOutput 16 = .ok (.aload_n 0, 1) := by decide +kernel
theorem d_Row_addKeyOutput_17 : decode b_Row_addKeyOutput 17 = .ok (.iload_n 2, 1) := by decide +kernel
theorem d_Row_addKeyOutput_18 : decode b_Row_addKeyOutput 18 = .ok (.invokevirtual 29, 3) := by decide +kernel
theorem d_Row_addKeyOutput_21 : decode b_Row_addKeyOutput 21 = .ok (.aload_n 0, 1) := by decide +kernel
theorem d_Row_addKeyOutput_22 : decode b_Row_addKeyOutput 22 = .ok (.bipush 95, 2) := by decide +kernel
theorem d_Row_addKeyOutput_24 : decode b_Row_addKeyOutput 24 = .ok (.invokevirtual 33, 3) := by decide +kernel
theorem d_Row_addKeyOutput_27 : decode b_Row_addKeyOutput 27 = .ok (.return_, 1) := by decide +kernel
theorem d_Row_addNumber_0 : decode b_Row_addNumber 0 = .ok (.aload_n 0, 1) := by decide +kernel
theorem d_Row_addNumber_1 : decode b_Row_addNumber 1 = .ok (.getfield 15, 3) := by decide +kernel
theorem d_Row_addNumber_4 : decode b_Row_addNumber 4 = .ok (.sipush 4092, 3) := by decide +kernel
theorem d_Row_addNumber_7 : decode b_Row_addNumber 7 = .ok (.if_icmp .gt 25, 3) := by decide +kernel
theorem d_Row_addNumber_10 : decode b_Row_addNumber 10 = .ok (.aload_n 0, 1) := by decide +kernel
theorem d_Row_addNumber_11 : decode b_Row_addNumber 11 = .ok (.getfield 9, 3) := by decide +kernel
theorem d_Row_addNumber_14 : decode b_Row_addNumber 14 = .ok (.aload_n 0, 1) := by decide +kernel
theorem d_Row_addNumber_15 : decode b_Row_addNumber 15 = .ok (.getfield 15, 3) := by decide +kernel
theorem d_Row_addNumber_18 : decode b_Row_addNumber 18 = .ok (.iload_n 1, 1) := by decide +kernel
theorem d_Row_addNumber_19 : decode b_Row_addNumber 19 = .ok (.invokestatic 19, 3) := by decide +kernel
theorem d_Row_addNumber_22 : decode b_Row_addNumber 22 = .ok (.aload_n 0, 1) := by decide +kernel
theorem d_Row_addNumber_23 : decode b_Row_addNumber 23 = .ok (.dup, 1) := by decide +kernel
theorem d_Row_addNumber_24 : decode b_Row_addNumber 24 = .ok (.getfield 15, 3) := by decide +kernel
theorem d_Row_addNumber_27 : decode b_Row_addNumber 27 = .ok (.iconst 4, 1) := by decide +kernel
theorem d_Row_addNumber_28 : decode b_Row_addNumber 28 = .ok (.iadd, 1) := by decide +kernel
theorem d_Row_addNumber_29 : decode b_Row_addNumber 29 = .ok (.putfield 15, 3) := by decide +kernel
theorem d_Row_addNumber_32 : decode b_Row_addNumber 32 = .ok (.return_, 1) := by decide +kernel
theorem d_Row_init_0 : decode b_Row_init 0 = .ok (.aload_n 0, 1) := by decide +kernel
theorem d_Row_init_1 : decode b_Row_init 1 = .ok (.invokespecial 3, 3) := by decide +kernel
theorem d_Row_init_4 : decode b_Row_init 4 = .ok (.aload_n 0, 1) := by decide +kernel
theorem d_Row_init_5 : decode b_Row_init 5 = .ok (.sipush 4096, 3) := by decide +kernel
theorem d_Row_init_8 : decode b_Row_init 8 = .ok (.newarray .byte, 2) := by decide +kernel
theorem d_Row_init_10 : decode b_Row_init 10 = .ok (.putfield 9, 3) := by decide +kernel
theorem d_Row_init_13 : decode b_Row_init 13 = .ok (.return_, 1) := by decide +kernel
theorem d_Sha_digest_0 : decode b_Sha_digest 0 = .ok (.aload_n 1, 1) := by decide +kernel
theorem d_Sha_digest_1 : decode b_Sha_digest 1 = .ok (.astore 7, 2) := by decide +kernel
theorem d_Sha_digest_3 : decode b_Sha_digest 3 = .ok (.iload_n 2, 1) := by decide +kernel
theorem d_Sha_digest_4 : decode b_Sha_digest 4 = .ok (.istore 8, 2) := by decide +kernel
theorem d_Sha_digest_6 : decode b_Sha_digest 6 = .ok (.iload_n 3, 1) := by decide +kernel
theorem d_Sha_digest_7 : decode b_Sha_digest 7 = .ok (.istore 9, 2) := by decide +kernel
theorem d_Sha_digest_9 : decode b_Sha_digest 9 = .ok (.iconst 0, 1) := by decide +kernel
theorem d_Sha_digest_10 : decode b_Sha_digest 10 = .ok (.istore 10, 2) := by decide +kernel
theorem d_Sha_digest_12 : decode b_Sha_digest 12 = .ok (.iload 10, 2) := by decide +kernel
theorem d_Sha_digest_14 : decode b_Sha_digest 14 = .ok (.iload 4, 2) := by decide +kernel
theorem d_Sha_digest_16 : decode b_Sha_digest 16 = .ok (.if_icmp .ge 115, 3) := by decide +kernel
theorem d_Sha_digest_19 : decode b_Sha_digest 19 = .ok (.getstatic 18, 3) := by decide +kernel
theorem d_Sha_digest_22 : decode b_Sha_digest 22 = .ok (.iconst 0, 1) := by decide +kernel
theorem d_Sha_digest_23 : decode b_Sha_digest 23 = .ok (.aload_n 0, 1) := by decide +kernel
theorem d_Sha_digest_24 : decode b_Sha_digest 24 = .ok (.getfield 15, 3) := by decide +kernel
theorem d_Sha_digest_27 : decode b_Sha_digest 27 = .ok (.iconst 0, 1) := by decide +kernel
theorem d_Sha_digest_28 : decode b_Sha_digest 28 = .ok (.bipush 8, 2) := by decide +kernel
theorem d_Sha_digest_30 : decode b_Sha_digest 30 = .ok (.invokestatic 21, 3) := by decide +kernel
theorem d_Sha_digest_33 : decode b_Sha_digest 33 = .ok (.iload 9, 2) := by decide +kernel
theorem d_Sha_digest_35 : decode b_Sha_digest 35 = .ok (.bipush 72, 2) := by decide +kernel
theorem d_Sha_digest_37 : decode b_Sha_digest 37 = .ok (.iadd, 1) := by decide +kernel
theorem d_Sha_digest_38 : decode b_Sha_digest 38 = .ok (.bipush 64, 2) := by decide +kernel
theorem d_Sha_digest_40 : decode b_Sha_digest 40 = .ok (.idiv, 1) := by decide +kernel
theorem d_Sha_digest_41 : decode b_Sha_digest 41 = .ok (.istore 11, 2) := by decide +kernel
theorem d_Sha_digest_43 : decode b_Sha_digest 43 = .ok (.iconst 0, 1) := by decide +kernel
theorem d_Sha_digest_44 : decode b_Sha_digest 44 = .ok (.istore 12, 2) := by decide +kernel
theorem d_Sha_digest_46 : decode b_Sha_digest 46 = .ok (.iload 12, 2) := by decide +kernel
theorem d_Sha_digest_48 : decode b_Sha_digest 48 = .ok (.iload 11, 2) := by decide +kernel
theorem d_Sha_digest_50 : decode b_Sha_digest 50 = .ok (.if_icmp .ge 28, 3) := by decide +kernel
theorem d_Sha_digest_53 : decode b_Sha_digest 53 = .ok (.aload_n 0, 1) := by decide +kernel
theorem d_Sha_digest_54 : decode b_Sha_digest 54 = .ok (.aload 7, 2) := by decide +kernel
theorem d_Sha_digest_56 : decode b_Sha_digest 56 = .ok (.iload 8, 2) := by decide +kernel
theorem d_Sha_digest_58 : decode b_Sha_digest 58 = .ok (.iload 9, 2) := by decide +kernel
theorem d_Sha_digest_60 : decode b_Sha_digest 60 = .ok (.iload 12, 2) := by decide +kernel
theorem d_Sha_digest_62 : decode b_Sha_digest 62 = .ok (.bipush 64, 2) := by decide +kernel
theorem d_Sha_digest_64 : decode b_Sha_digest 64 = .ok (.imul, 1) := by decide +kernel
theorem d_Sha_digest_65 : decode b_Sha_digest 65 = .ok (.invokevirtual 27, 3) := by decide +kernel
theorem d_Sha_digest_68 : decode b_Sha_digest 68 = .ok (.aload_n 0, 1) := by decide +kernel
theorem d_Sha_digest_69 : decode b_Sha_digest 69 = .ok (.invokevirtual 31, 3) := by decide +kernel
theorem d_Sha_digest_72 : decode b_Sha_digest 72 = .ok (.iinc 12 1, 3) := by decide +kernel
theorem d_Sha_digest_75 : decode b_Sha_digest 75 = .ok (.goto (-29), 3) := by decide +kernel
theorem d_Sha_digest_78 : decode b_Sha_digest 78 = .ok (.iconst 0, 1) := by decide +kernel
theorem d_Sha_digest_79 : decode b_Sha_digest 79 = .ok (.istore 12, 2) := by decide +kernel
theorem d_Sha_digest_81 : decode b_Sha_digest 81 = .ok (.iload 12, 2) := by decide +kernel
theorem d_Sha_digest_83 : decode b_Sha_digest 83 = .ok (.bipush 8, 2) := by decide +kernel
theorem d_Sha_digest_85 : decode b_Sha_digest 85 = .ok (.if_icmp .ge 28, 3) := by decide +kernel
theorem d_Sha_digest_88 : decode b_Sha_digest 88 = .ok (.aload 5, 2) := by decide +kernel
theorem d_Sha_digest_90 : decode b_Sha_digest 90 = .ok (.iload 6, 2) := by decide +kernel
theorem d_Sha_digest_92 : decode b_Sha_digest 92 = .ok (.iload 12, 2) := by decide +kernel
theorem d_Sha_digest_94 : decode b_Sha_digest 94 = .ok (.iconst 4, 1) := by decide +kernel
theorem d_Sha_digest_95 : decode b_Sha_digest 95 = .ok (.imul, 1) := by decide +kernel
theorem d_Sha_digest_96 : decode b_Sha_digest 96 = .ok (.iadd, 1) := by decide +kernel
theorem d_Sha_digest_97 : decode b_Sha_digest 97 = .ok (.aload_n 0, 1) := by decide +kernel
theorem d_Sha_digest_98 : decode b_Sha_digest 98 = .ok (.getfield 15, 3) := by decide +kernel
theorem d_Sha_digest_101 : decode b_Sha_digest 101 = .ok (.iload 12, 2) := by decide +kernel
theorem d_Sha_digest_103 : decode b_Sha_digest 103 = .ok (.iaload, 1) := by decide +kernel
theorem d_Sha_digest_104 : decode b_Sha_digest 104 = .ok (.invokestatic 34, 3) := by decide +kernel
theorem d_Sha_digest_107 : decode b_Sha_digest 107 = .ok (.iinc 12 1, 3) := by decide +kernel
theorem d_Sha_digest_110 : decode b_Sha_digest 110 = .ok (.goto (-29), 3) := by decide +kernel
theorem d_Sha_digest_113 : decode b_Sha_digest 113 = .ok (.aload 5, 2) := by decide +kernel
theorem d_Sha_digest_115 : decode b_Sha_digest 115 = .ok (.astore 7, 2) := by decide +kernel
theorem d_Sha_digest_117 : decode b_Sha_digest 117 = .ok (.iload 6, 2) := by decide +kernel
theorem d_Sha_digest_119 : decode b_Sha_digest 119 = .ok (.istore 8, 2) := by decide +kernel
theorem d_Sha_digest_121 : decode b_Sha_digest 121 = .ok (.bipush 32, 2) := by decide +kernel
theorem d_Sha_digest_123 : decode b_Sha_digest 123 = .ok (.istore 9, 2) := by decide +kernel
theorem d_Sha_digest_125 : decode b_Sha_digest 125 = .ok (.iinc 10 1, 3) := by decide +kernel
theorem d_Sha_digest_128 : decode b_Sha_digest 128 = .ok (.goto (-116), 3) := by decide +kernel
theorem d_Sha_digest_131 : decode b_Sha_digest 131 = .ok (.return_, 1) := by decide +kernel
theorem d_Sha_foldToRoot_0 : decode b_Sha_foldToRoot 0 = .ok (.iload_n 2, 1) := by decide +kernel
theorem d_Sha_foldToRoot_1 : decode b_Sha_foldToRoot 1 = .ok (.istore_n 3, 1) := by decide +kernel
theorem d_Sha_foldToRoot_2 : decode b_Sha_foldToRoot 2 = .ok (.iload_n 3, 1) := by decide +kernel
theorem d_Sha_foldToRoot_3 : decode b_Sha_foldToRoot 3 = .ok (.iconst 1, 1) := by decide +kernel
theorem d_Sha_foldToRoot_4 : decode b_Sha_foldToRoot 4 = .ok (.if_icmp .le 71, 3) := by decide +kernel
theorem d_Sha_foldToRoot_75 : decode b_Sha_foldToRoot 75 = .ok (.return_, 1) := by decide +kernel
theorem d_Sha_init_0 : decode b_Sha_init 0 = .ok (.aload_n 0, 1) := by decide +kernel
theorem d_Sha_init_1 : decode b_Sha_init 1 = .ok (.invokespecial 3, 3) := by decide +kernel
theorem d_Sha_init_4 : decode b_Sha_init 4 = .ok (.aload_n 0, 1) := by decide +kernel
theorem d_Sha_init_5 : decode b_Sha_init 5 = .ok (.bipush 64, 2) := by decide +kernel
theorem d_Sha_init_7 : decode b_Sha_init 7 = .ok (.newarray .int, 2) := by decide +kernel
theorem d_Sha_init_9 : decode b_Sha_init 9 = .ok (.putfield 9, 3) := by decide +kernel
theorem d_Sha_init_12 : decode b_Sha_init 12 = .ok (.aload_n 0, 1) := by decide +kernel
theorem d_Sha_init_13 : decode b_Sha_init 13 = .ok (.bipush 8, 2) := by decide +kernel
theorem d_Sha_init_15 : decode b_Sha_init 15 = .ok (.newarray .int, 2) := by decide +kernel
theorem d_Sha_init_17 : decode b_Sha_init 17 = .ok (.putfield 15, 3) := by decide +kernel
theorem d_Sha_init_20 : decode b_Sha_init 20 = .ok (.return_, 1) := by decide +kernel
theorem d_Sha_load_0 : decode b_Sha_load 0 = .ok (.iconst 0, 1) := by decide +kernel
theorem d_Sha_load_1 : decode b_Sha_load 1 = .ok (.istore 5, 2) := by decide +kernel
theorem d_Sha_load_3 : decode b_Sha_load 3 = .ok (.iload 5, 2) := by decide +kernel
theorem d_Sha_load_5 : decode b_Sha_load 5 = .ok (.bipush 64, 2) := by decide +kernel
theorem d_Sha_load_7 : decode b_Sha_load 7 = .ok (.if_icmp .ge 74, 3) := by decide +kernel
theorem d_Sha_load_10 : decode b_Sha_load 10 = .ok (.iload 4, 2) := by decide +kernel
theorem d_Sha_load_12 : decode b_Sha_load 12 = .ok (.iload 5, 2) := by decide +kernel
theorem d_Sha_load_14 : decode b_Sha_load 14 = .ok (.iadd, 1) := by decide +kernel
theorem d_Sha_load_15 : decode b_Sha_load 15 = .ok (.istore 6, 2) := by decide +kernel
theorem d_Sha_load_17 : decode b_Sha_load 17 = .ok (.iload 6, 2) := by decide +kernel
theorem d_Sha_load_19 : decode b_Sha_load 19 = .ok (.iload_n 3, 1) := by decide +kernel
theorem d_Sha_load_20 : decode b_Sha_load 20 = .ok (.if_icmp .ge 16, 3) := by decide +kernel
theorem d_Sha_load_23 : decode b_Sha_load 23 = .ok (.aload_n 1, 1) := by decide +kernel
theorem d_Sha_load_24 : decode b_Sha_load 24 = .ok (.iload_n 2, 1) := by decide +kernel
theorem d_Sha_load_25 : decode b_Sha_load 25 = .ok (.iload 6, 2) := by decide +kernel
theorem d_Sha_load_27 : decode b_Sha_load 27 = .ok (.iadd, 1) := by decide +kernel
theorem d_Sha_load_28 : decode b_Sha_load 28 = .ok (.baload, 1) := by decide +kernel
theorem d_Sha_load_29 : decode b_Sha_load 29 = .ok (.sipush 255, 3) := by decide +kernel
theorem d_Sha_load_32 : decode b_Sha_load 32 = .ok (.iand, 1) := by decide +kernel
theorem d_Sha_load_33 : decode b_Sha_load 33 = .ok (.goto 16, 3) := by decide +kernel
theorem d_Sha_load_36 : decode b_Sha_load 36 = .ok (.iload 6, 2) := by decide +kernel
theorem d_Sha_load_38 : decode b_Sha_load 38 = .ok (.iload_n 3, 1) := by decide +kernel
theorem d_Sha_load_39 : decode b_Sha_load 39 = .ok (.if_icmp .ne 9, 3) := by decide +kernel
theorem d_Sha_load_42 : decode b_Sha_load 42 = .ok (.sipush 128, 3) := by decide +kernel
theorem d_Sha_load_45 : decode b_Sha_load 45 = .ok (.goto 4, 3) := by decide +kernel
theorem d_Sha_load_48 : decode b_Sha_load 48 = .ok (.iconst 0, 1) := by decide +kernel
theorem d_Sha_load_49 : decode b_Sha_load 49 = .ok (.istore 7, 2) := by decide +kernel
theorem d_Sha_load_51 : decode b_Sha_load 51 = .ok (.aload_n 0, 1) := by decide +kernel
theorem d_Sha_load_52 : decode b_Sha_load 52 = .ok (.getfield 9, 3) := by decide +kernel
theorem d_Sha_load_55 : decode b_Sha_load 55 = .ok (.iload 5, 2) := by decide +kernel
theorem d_Sha_load_57 : decode b_Sha_load 57 = .ok (.iconst 2, 1) := by decide +kernel
theorem d_Sha_load_58 : decode b_Sha_load 58 = .ok (.ishr, 1) := by decide +kernel
theorem d_Sha_load_59 : decode b_Sha_load 59 = .ok (.aload_n 0, 1) := by decide +kernel
theorem d_Sha_load_60 : decode b_Sha_load 60 = .ok (.getfield 9, 3) := by decide +kernel
theorem d_Sha_load_63 : decode b_Sha_load 63 = .ok (.iload 5, 2) := by decide +kernel
theorem d_Sha_load_65 : decode b_Sha_load 65 = .ok (.iconst 2, 1) := by decide +kernel
theorem d_Sha_load_66 : decode b_Sha_load 66 = .ok (.ishr, 1) := by decide +kernel
theorem d_Sha_load_67 : decode b_Sha_load 67 = .ok (.iaload, 1) := by decide +kernel
theorem d_Sha_load_68 : decode b_Sha_load 68 = .ok (.bipush 8, 2) := by decide +kernel
theorem d_Sha_load_70 : decode b_Sha_load 70 = .ok (.ishl, 1) := by decide +kernel
theorem d_Sha_load_71 : decode b_Sha_load 71 = .ok (.iload 7, 2) := by decide +kernel
theorem d_Sha_load_73 : decode b_Sha_load 73 = .ok (.ior, 1) := by decide +kernel
theorem d_Sha_load_74 : decode b_Sha_load 74 = .ok (.iastore, 1) := by decide +kernel
theorem d_Sha_load_75 : decode b_Sha_load 75 = .ok (.iinc 5 1, 3) := by decide +kernel
theorem d_Sha_load_78 : decode b_Sha_load 78 = .ok (.goto (-75), 3) := by decide +kernel
theorem d_Sha_load_81 : decode b_Sha_load 81 = .ok (.iload 4, 2) := by decide +kernel
theorem d_Sha_load_83 : decode b_Sha_load 83 = .ok (.bipush 64, 2) := by decide +kernel
theorem d_Sha_load_85 : decode b_Sha_load 85 = .ok (.iadd, 1) := by decide +kernel
theorem d_Sha_load_86 : decode b_Sha_load 86 = .ok (.iload_n 3, 1) := by decide +kernel
theorem d_Sha_load_87 : decode b_Sha_load 87 = .ok (.bipush 9, 2) := by decide +kernel
theorem d_Sha_load_89 : decode b_Sha_load 89 = .ok (.iadd, 1) := by decide +kernel
theorem d_Sha_load_90 : decode b_Sha_load 90 = .ok (.if_icmp .lt 14, 3) := by decide +kernel
theorem d_Sha_load_93 : decode b_Sha_load 93 = .ok (.aload_n 0, 1) := by decide +kernel
theorem d_Sha_load_94 : decode b_Sha_load 94 = .ok (.getfield 9, 3) := by decide +kernel
theorem d_Sha_load_97 : decode b_Sha_load 97 = .ok (.bipush 15, 2) := by decide +kernel
theorem d_Sha_load_99 : decode b_Sha_load 99 = .ok (.iload_n 3, 1) := by decide +kernel
theorem d_Sha_load_100 : decode b_Sha_load 100 = .ok (.bipush 8, 2) := by decide +kernel
theorem d_Sha_load_102 : decode b_Sha_load 102 = .ok (.imul, 1) := by decide +kernel
theorem d_Sha_load_103 : decode b_Sha_load 103 = .ok (.iastore, 1) := by decide +kernel
theorem d_Sha_load_104 : decode b_Sha_load 104 = .ok (.return_, 1) := by decide +kernel
theorem d_Sha_mix_0 : decode b_Sha_mix 0 = .ok (.bipush 16, 2) := by decide +kernel
theorem d_Sha_mix_2 : decode b_Sha_mix 2 = .ok (.istore_n 1, 1) := by decide +kernel
theorem d_Sha_mix_3 : decode b_Sha_mix 3 = .ok (.iload_n 1, 1) := by decide +kernel
theorem d_Sha_mix_4 : decode b_Sha_mix 4 = .ok (.bipush 64, 2) := by decide +kernel
theorem d_Sha_mix_6 : decode b_Sha_mix 6 = .ok (.if_icmp .ge 110, 3) := by decide +kernel
theorem d_Sha_mix_9 : decode b_Sha_mix 9 = .ok (.aload_n 0, 1) := by decide +kernel
theorem d_Sha_mix_10 : decode b_Sha_mix 10 = .ok (.getfield 9, 3) := by decide +kernel
theorem d_Sha_mix_13 : decode b_Sha_mix 13 = .ok (.iload_n 1, 1) := by decide +kernel
theorem d_Sha_mix_14 : decode b_Sha_mix 14 = .ok (.bipush 15, 2) := by decide +kernel
theorem d_Sha_mix_16 : decode b_Sha_mix 16 = .ok (.isub, 1) := by decide +kernel
theorem d_Sha_mix_17 : decode b_Sha_mix 17 = .ok (.iaload, 1) := by decide +kernel
theorem d_Sha_mix_18 : decode b_Sha_mix 18 = .ok (.istore_n 2, 1) := by decide +kernel
theorem d_Sha_mix_19 : decode b_Sha_mix 19 = .ok (.aload_n 0, 1) := by decide +kernel
theorem d_Sha_mix_20 : decode b_Sha_mix 20 = .ok (.getfield 9, 3) := by decide +kernel
theorem d_Sha_mix_23 : decode b_Sha_mix 23 = .ok (.iload_n 1, 1) := by decide +kernel
theorem d_Sha_mix_24 : decode b_Sha_mix 24 = .ok (.iconst 2, 1) := by decide +kernel
theorem d_Sha_mix_25 : decode b_Sha_mix 25 = .ok (.isub, 1) := by decide +kernel
theorem d_Sha_mix_26 : decode b_Sha_mix 26 = .ok (.iaload, 1) := by decide +kernel
theorem d_Sha_mix_27 : decode b_Sha_mix 27 = .ok (.istore_n 3, 1) := by decide +kernel
theorem d_Sha_mix_28 : decode b_Sha_mix 28 = .ok (.iload_n 2, 1) := by decide +kernel
theorem d_Sha_mix_29 : decode b_Sha_mix 29 = .ok (.bipush 7, 2) := by decide +kernel
theorem d_Sha_mix_31 : decode b_Sha_mix 31 = .ok (.iushr, 1) := by decide +kernel
theorem d_Sha_mix_32 : decode b_Sha_mix 32 = .ok (.iload_n 2, 1) := by decide +kernel
theorem d_Sha_mix_33 : decode b_Sha_mix 33 = .ok (.bipush 25, 2) := by decide +kernel
theorem d_Sha_mix_35 : decode b_Sha_mix 35 = .ok (.ishl, 1) := by decide +kernel
theorem d_Sha_mix_36 : decode b_Sha_mix 36 = .ok (.ior, 1) := by decide +kernel
theorem d_Sha_mix_37 : decode b_Sha_mix 37 = .ok (.iload_n 2, 1) := by decide +kernel
theorem d_Sha_mix_38 : decode b_Sha_mix 38 = .ok (.bipush 18, 2) := by decide +kernel
theorem d_Sha_mix_40 : decode b_Sha_mix 40 = .ok (.iushr, 1) := by decide +kernel
theorem d_Sha_mix_41 : decode b_Sha_mix 41 = .ok (.iload_n 2, 1) := by decide +kernel
theorem d_Sha_mix_42 : decode b_Sha_mix 42 = .ok (.bipush 14, 2) := by decide +kernel
theorem d_Sha_mix_44 : decode b_Sha_mix 44 = .ok (.ishl, 1) := by decide +kernel
theorem d_Sha_mix_45 : decode b_Sha_mix 45 = .ok (.ior, 1) := by decide +kernel
theorem d_Sha_mix_46 : decode b_Sha_mix 46 = .ok (.ixor, 1) := by decide +kernel
theorem d_Sha_mix_47 : decode b_Sha_mix 47 = .ok (.iload_n 2, 1) := by decide +kernel
theorem d_Sha_mix_48 : decode b_Sha_mix 48 = .ok (.iconst 3, 1) := by decide +kernel
theorem d_Sha_mix_49 : decode b_Sha_mix 49 = .ok (.iushr, 1) := by decide +kernel
theorem d_Sha_mix_50 : decode b_Sha_mix 50 = .ok (.ixor, 1) := by decide +kernel
theorem d_Sha_mix_51 : decode b_Sha_mix 51 = .ok (.istore 4, 2) := by decide +kernel
theorem d_Sha_mix_53 : decode b_Sha_mix 53 = .ok (.iload_n 3, 1) := by decide +kernel
theorem d_Sha_mix_54 : decode b_Sha_mix 54 = .ok (.bipush 17, 2) := by decide +kernel
theorem d_Sha_mix_56 : decode b_Sha_mix 56 = .ok (.iushr, 1) := by decide +kernel
theorem d_Sha_mix_57 : decode b_Sha_mix 57 = .ok (.iload_n 3, 1) := by decide +kernel
theorem d_Sha_mix_58 : decode b_Sha_mix 58 = .ok (.bipush 15, 2) := by decide +kernel
theorem d_Sha_mix_60 : decode b_Sha_mix 60 = .ok (.ishl, 1) := by decide +kernel
theorem d_Sha_mix_61 : decode b_Sha_mix 61 = .ok (.ior, 1) := by decide +kernel
theorem d_Sha_mix_62 : decode b_Sha_mix 62 = .ok (.iload_n 3, 1) := by decide +kernel
theorem d_Sha_mix_63 : decode b_Sha_mix 63 = .ok (.bipush 19, 2) := by decide +kernel
theorem d_Sha_mix_65 : decode b_Sha_mix 65 = .ok (.iushr, 1) := by decide +kernel
theorem d_Sha_mix_66 : decode b_Sha_mix 66 = .ok (.iload_n 3, 1) := by decide +kernel
theorem d_Sha_mix_67 : decode b_Sha_mix 67 = .ok (.bipush 13, 2) := by decide +kernel
theorem d_Sha_mix_69 : decode b_Sha_mix 69 = .ok (.ishl, 1) := by decide +kernel
theorem d_Sha_mix_70 : decode b_Sha_mix 70 = .ok (.ior, 1) := by decide +kernel
theorem d_Sha_mix_71 : decode b_Sha_mix 71 = .ok (.ixor, 1) := by decide +kernel
theorem d_Sha_mix_72 : decode b_Sha_mix 72 = .ok (.iload_n 3, 1) := by decide +kernel
theorem d_Sha_mix_73 : decode b_Sha_mix 73 = .ok (.bipush 10, 2) := by decide +kernel
theorem d_Sha_mix_75 : decode b_Sha_mix 75 = .ok (.iushr, 1) := by decide +kernel
theorem d_Sha_mix_76 : decode b_Sha_mix 76 = .ok (.ixor, 1) := by decide +kernel
theorem d_Sha_mix_77 : decode b_Sha_mix 77 = .ok (.istore 5, 2) := by decide +kernel
theorem d_Sha_mix_79 : decode b_Sha_mix 79 = .ok (.aload_n 0, 1) := by decide +kernel
theorem d_Sha_mix_80 : decode b_Sha_mix 80 = .ok (.getfield 9, 3) := by decide +kernel
theorem d_Sha_mix_83 : decode b_Sha_mix 83 = .ok (.iload_n 1, 1) := by decide +kernel
theorem d_Sha_mix_84 : decode b_Sha_mix 84 = .ok (.aload_n 0, 1) := by decide +kernel
theorem d_Sha_mix_85 : decode b_Sha_mix 85 = .ok (.getfield 9, 3) := by decide +kernel
theorem d_Sha_mix_88 : decode b_Sha_mix 88 = .ok (.iload_n 1, 1) := by decide +kernel
theorem d_Sha_mix_89 : decode b_Sha_mix 89 = .ok (.bipush 16, 2) := by decide +kernel
theorem d_Sha_mix_91 : decode b_Sha_mix 91 = .ok (.isub, 1) := by decide +kernel
theorem d_Sha_mix_92 : decode b_Sha_mix 92 = .ok (.iaload, 1) := by decide +kernel
theorem d_Sha_mix_93 : decode b_Sha_mix 93 = .ok (.iload 4, 2) := by decide +kernel
theorem d_Sha_mix_95 : decode b_Sha_mix 95 = .ok (.iadd, 1) := by decide +kernel
theorem d_Sha_mix_96 : decode b_Sha_mix 96 = .ok (.aload_n 0, 1) := by decide +kernel
theorem d_Sha_mix_97 : decode b_Sha_mix 97 = .ok (.getfield 9, 3) := by decide +kernel
theorem d_Sha_mix_100 : decode b_Sha_mix 100 = .ok (.iload_n 1, 1) := by decide +kernel
theorem d_Sha_mix_101 : decode b_Sha_mix 101 = .ok (.bipush 7, 2) := by decide +kernel
theorem d_Sha_mix_103 : decode b_Sha_mix 103 = .ok (.isub, 1) := by decide +kernel
theorem d_Sha_mix_104 : decode b_Sha_mix 104 = .ok (.iaload, 1) := by decide +kernel
theorem d_Sha_mix_105 : decode b_Sha_mix 105 = .ok (.iadd, 1) := by decide +kernel
theorem d_Sha_mix_106 : decode b_Sha_mix 106 = .ok (.iload 5, 2) := by decide +kernel
theorem d_Sha_mix_108 : decode b_Sha_mix 108 = .ok (.iadd, 1) := by decide +kernel
theorem d_Sha_mix_109 : decode b_Sha_mix 109 = .ok (.iastore, 1) := by decide +kernel
theorem d_Sha_mix_110 : decode b_Sha_mix 110 = .ok (.iinc 1 1, 3) := by decide +kernel
theorem d_Sha_mix_113 : decode b_Sha_mix 113 = .ok (.goto (-110), 3) := by decide +kernel
theorem d_Sha_mix_116 : decode b_Sha_mix 116 = .ok (.aload_n 0, 1) := by decide +kernel
theorem d_Sha_mix_117 : decode b_Sha_mix 117 = .ok (.getfield 15, 3) := by decide +kernel
theorem d_Sha_mix_120 : decode b_Sha_mix 120 = .ok (.iconst 0, 1) := by decide +kernel
theorem d_Sha_mix_121 : decode b_Sha_mix 121 = .ok (.iaload, 1) := by decide +kernel
theorem d_Sha_mix_122 : decode b_Sha_mix 122 = .ok (.istore_n 1, 1) := by decide +kernel
theorem d_Sha_mix_123 : decode b_Sha_mix 123 = .ok (.aload_n 0, 1) := by decide +kernel
theorem d_Sha_mix_124 : decode b_Sha_mix 124 = .ok (.getfield 15, 3) := by decide +kernel
theorem d_Sha_mix_127 : decode b_Sha_mix 127 = .ok (.iconst 1, 1) := by decide +kernel
theorem d_Sha_mix_128 : decode b_Sha_mix 128 = .ok (.iaload, 1) := by decide +kernel
theorem d_Sha_mix_129 : decode b_Sha_mix 129 = .ok (.istore_n 2, 1) := by decide +kernel
theorem d_Sha_mix_130 : decode b_Sha_mix 130 = .ok (.aload_n 0, 1) := by decide +kernel
theorem d_Sha_mix_131 : decode b_Sha_mix 131 = .ok (.getfield 15, 3) := by decide +kernel
theorem d_Sha_mix_134 : decode b_Sha_mix 134 = .ok (.iconst 2, 1) := by decide +kernel
theorem d_Sha_mix_135 : decode b_Sha_mix 135 = .ok (.iaload, 1) := by decide +kernel
theorem d_Sha_mix_136 : decode b_Sha_mix 136 = .ok (.istore_n 3, 1) := by decide +kernel
theorem d_Sha_mix_137 : decode b_Sha_mix 137 = .ok (.aload_n 0, 1) := by decide +kernel
theorem d_Sha_mix_138 : decode b_Sha_mix 138 = .ok (.getfield 15, 3) := by decide +kernel
theorem d_Sha_mix_141 : decode b_Sha_mix 141 = .ok (.iconst 3, 1) := by decide +kernel
theorem d_Sha_mix_142 : decode b_Sha_mix 142 = .ok (.iaload, 1) := by decide +kernel
theorem d_Sha_mix_143 : decode b_Sha_mix 143 = .ok (.istore 4, 2) := by decide +kernel
theorem d_Sha_mix_145 : decode b_Sha_mix 145 = .ok (.aload_n 0, 1) := by decide +kernel
theorem d_Sha_mix_146 : decode b_Sha_mix 146 = .ok (.getfield 15, 3) := by decide +kernel
theorem d_Sha_mix_149 : decode b_Sha_mix 149 = .ok (.iconst 4, 1) := by decide +kernel
theorem d_Sha_mix_150 : decode b_Sha_mix 150 = .ok (.iaload, 1) := by decide +kernel
theorem d_Sha_mix_151 : decode b_Sha_mix 151 = .ok (.istore 5, 2) := by decide +kernel
theorem d_Sha_mix_153 : decode b_Sha_mix 153 = .ok (.aload_n 0, 1) := by decide +kernel
theorem d_Sha_mix_154 : decode b_Sha_mix 154 = .ok (.getfield 15, 3) := by decide +kernel
theorem d_Sha_mix_157 : decode b_Sha_mix 157 = .ok (.iconst 5, 1) := by decide +kernel
theorem d_Sha_mix_158 : decode b_Sha_mix 158 = .ok (.iaload, 1) := by decide +kernel
theorem d_Sha_mix_159 : decode b_Sha_mix 159 = .ok (.istore 6, 2) := by decide +kernel
theorem d_Sha_mix_161 : decode b_Sha_mix 161 = .ok (.aload_n 0, 1) := by decide +kernel
theorem d_Sha_mix_162 : decode b_Sha_mix 162 = .ok (.getfield 15, 3) := by decide +kernel
theorem d_Sha_mix_165 : decode b_Sha_mix 165 = .ok (.bipush 6, 2) := by decide +kernel
theorem d_Sha_mix_167 : decode b_Sha_mix 167 = .ok (.iaload, 1) := by decide +kernel
theorem d_Sha_mix_168 : decode b_Sha_mix 168 = .ok (.istore 7, 2) := by decide +kernel
theorem d_Sha_mix_170 : decode b_Sha_mix 170 = .ok (.aload_n 0, 1) := by decide +kernel
theorem d_Sha_mix_171 : decode b_Sha_mix 171 = .ok (.getfield 15, 3) := by decide +kernel
theorem d_Sha_mix_174 : decode b_Sha_mix 174 = .ok (.bipush 7, 2) := by decide +kernel
theorem d_Sha_mix_176 : decode b_Sha_mix 176 = .ok (.iaload, 1) := by decide +kernel
theorem d_Sha_mix_177 : decode b_Sha_mix 177 = .ok (.istore 8, 2) := by decide +kernel
theorem d_Sha_mix_179 : decode b_Sha_mix 179 = .ok (.iconst 0, 1) := by decide +kernel
theorem d_Sha_mix_180 : decode b_Sha_mix 180 = .ok (.istore 9, 2) := by decide +kernel
theorem d_Sha_mix_182 : decode b_Sha_mix 182 = .ok (.iload 9, 2) := by decide +kernel
theorem d_Sha_mix_184 : decode b_Sha_mix 184 = .ok (.bipush 64, 2) := by decide +kernel
theorem d_Sha_mix_186 : decode b_Sha_mix 186 = .ok (.if_icmp .ge 160, 3) := by decide +kernel
theorem d_Sha_mix_189 : decode b_Sha_mix 189 = .ok (.iload 5, 2) := by decide +kernel
theorem d_Sha_mix_191 : decode b_Sha_mix 191 = .ok (.bipush 6, 2) := by decide +kernel
theorem d_Sha_mix_193 : decode b_Sha_mix 193 = .ok (.iushr, 1) := by decide +kernel
theorem d_Sha_mix_194 : decode b_Sha_mix 194 = .ok (.iload 5, 2) := by decide +kernel
theorem d_Sha_mix_196 : decode b_Sha_mix 196 = .ok (.bipush 26, 2) := by decide +kernel
theorem d_Sha_mix_198 : decode b_Sha_mix 198 = .ok (.ishl, 1) := by decide +kernel
theorem d_Sha_mix_199 : decode b_Sha_mix 199 = .ok (.ior, 1) := by decide +kernel
theorem d_Sha_mix_200 : decode b_Sha_mix 200 = .ok (.iload 5, 2) := by decide +kernel
theorem d_Sha_mix_202 : decode b_Sha_mix 202 = .ok (.bipush 11, 2) := by decide +kernel
theorem d_Sha_mix_204 : decode b_Sha_mix 204 = .ok (.iushr, 1) := by decide +kernel
theorem d_Sha_mix_205 : decode b_Sha_mix 205 = .ok (.iload 5, 2) := by decide +kernel
theorem d_Sha_mix_207 : decode b_Sha_mix 207 = .ok (.bipush 21, 2) := by decide +kernel
theorem d_Sha_mix_209 : decode b_Sha_mix 209 = .ok (.ishl, 1) := by decide +kernel
theorem d_Sha_mix_210 : decode b_Sha_mix 210 = .ok (.ior, 1) := by decide +kernel
theorem d_Sha_mix_211 : decode b_Sha_mix 211 = .ok (.ixor, 1) := by decide +kernel
theorem d_Sha_mix_212 : decode b_Sha_mix 212 = .ok (.iload 5, 2) := by decide +kernel
theorem d_Sha_mix_214 : decode b_Sha_mix 214 = .ok (.bipush 25, 2) := by decide +kernel
theorem d_Sha_mix_216 : decode b_Sha_mix 216 = .ok (.iushr, 1) := by decide +kernel
theorem d_Sha_mix_217 : decode b_Sha_mix 217 = .ok (.iload 5, 2) := by decide +kernel
theorem d_Sha_mix_219 : decode b_Sha_mix 219 = .ok (.bipush 7, 2) := by decide +kernel
theorem d_Sha_mix_221 : decode b_Sha_mix 221 = .ok (.ishl, 1) := by decide +kernel
theorem d_Sha_mix_222 : decode b_Sha_mix 222 = .ok (.ior, 1) := by decide +kernel
theorem d_Sha_mix_223 : decode b_Sha_mix 223 = .ok (.ixor, 1) := by decide +kernel
theorem d_Sha_mix_224 : decode b_Sha_mix 224 = .ok (.istore 10, 2) := by decide +kernel
theorem d_Sha_mix_226 : decode b_Sha_mix 226 = .ok (.iload 8, 2) := by decide +kernel
theorem d_Sha_mix_228 : decode b_Sha_mix 228 = .ok (.iload 10, 2) := by decide +kernel
theorem d_Sha_mix_230 : decode b_Sha_mix 230 = .ok (.iadd, 1) := by decide +kernel
theorem d_Sha_mix_231 : decode b_Sha_mix 231 = .ok (.iload 5, 2) := by decide +kernel
theorem d_Sha_mix_233 : decode b_Sha_mix 233 = .ok (.iload 6, 2) := by decide +kernel
theorem d_Sha_mix_235 : decode b_Sha_mix 235 = .ok (.iand, 1) := by decide +kernel
theorem d_Sha_mix_236 : decode b_Sha_mix 236 = .ok (.iload 5, 2) := by decide +kernel
theorem d_Sha_mix_238 : decode b_Sha_mix 238 = .ok (.iconst (-1), 1) := by decide +kernel
theorem d_Sha_mix_239 : decode b_Sha_mix 239 = .ok (.ixor, 1) := by decide +kernel
theorem d_Sha_mix_240 : decode b_Sha_mix 240 = .ok (.iload 7, 2) := by decide +kernel
theorem d_Sha_mix_242 : decode b_Sha_mix 242 = .ok (.iand, 1) := by decide +kernel
theorem d_Sha_mix_243 : decode b_Sha_mix 243 = .ok (.ixor, 1) := by decide +kernel
theorem d_Sha_mix_244 : decode b_Sha_mix 244 = .ok (.iadd, 1) := by decide +kernel
theorem d_Sha_mix_245 : decode b_Sha_mix 245 = .ok (.getstatic 42, 3) := by decide +kernel
theorem d_Sha_mix_248 : decode b_Sha_mix 248 = .ok (.iload 9, 2) := by decide +kernel
theorem d_Sha_mix_250 : decode b_Sha_mix 250 = .ok (.iaload, 1) := by decide +kernel
theorem d_Sha_mix_251 : decode b_Sha_mix 251 = .ok (.iadd, 1) := by decide +kernel
theorem d_Sha_mix_252 : decode b_Sha_mix 252 = .ok (.aload_n 0, 1) := by decide +kernel
theorem d_Sha_mix_253 : decode b_Sha_mix 253 = .ok (.getfield 9, 3) := by decide +kernel
theorem d_Sha_mix_256 : decode b_Sha_mix 256 = .ok (.iload 9, 2) := by decide +kernel
theorem d_Sha_mix_258 : decode b_Sha_mix 258 = .ok (.iaload, 1) := by decide +kernel
theorem d_Sha_mix_259 : decode b_Sha_mix 259 = .ok (.iadd, 1) := by decide +kernel
theorem d_Sha_mix_260 : decode b_Sha_mix 260 = .ok (.istore 11, 2) := by decide +kernel
theorem d_Sha_mix_262 : decode b_Sha_mix 262 = .ok (.iload_n 1, 1) := by decide +kernel
theorem d_Sha_mix_263 : decode b_Sha_mix 263 = .ok (.iconst 2, 1) := by decide +kernel
theorem d_Sha_mix_264 : decode b_Sha_mix 264 = .ok (.iushr, 1) := by decide +kernel
theorem d_Sha_mix_265 : decode b_Sha_mix 265 = .ok (.iload_n 1, 1) := by decide +kernel
theorem d_Sha_mix_266 : decode b_Sha_mix 266 = .ok (.bipush 30, 2) := by decide +kernel
theorem d_Sha_mix_268 : decode b_Sha_mix 268 = .ok (.ishl, 1) := by decide +kernel
theorem d_Sha_mix_269 : decode b_Sha_mix 269 = .ok (.ior, 1) := by decide +kernel
theorem d_Sha_mix_270 : decode b_Sha_mix 270 = .ok (.iload_n 1, 1) := by decide +kernel
theorem d_Sha_mix_271 : decode b_Sha_mix 271 = .ok (.bipush 13, 2) := by decide +kernel
theorem d_Sha_mix_273 : decode b_Sha_mix 273 = .ok (.iushr, 1) := by decide +kernel
theorem d_Sha_mix_274 : decode b_Sha_mix 274 = .ok (.iload_n 1, 1) := by decide +kernel
theorem d_Sha_mix_275 : decode b_Sha_mix 275 = .ok (.bipush 19, 2) := by decide +kernel
theorem d_Sha_mix_277 : decode b_Sha_mix 277 = .ok (.ishl, 1) := by decide +kernel
theorem d_Sha_mix_278 : decode b_Sha_mix 278 = .ok (.ior, 1) := by decide +kernel
theorem d_Sha_mix_279 : decode b_Sha_mix 279 = .ok (.ixor, 1) := by decide +kernel
theorem d_Sha_mix_280 : decode b_Sha_mix 280 = .ok (.iload_n 1, 1) := by decide +kernel
theorem d_Sha_mix_281 : decode b_Sha_mix 281 = .ok (.bipush 22, 2) := by decide +kernel
theorem d_Sha_mix_283 : decode b_Sha_mix 283 = .ok (.iushr, 1) := by decide +kernel
