theorem d_AL_init_0 : decode b_AL_init 0 = .ok (.aload_n 0, 1) := by decide +kernel
theorem d_AL_init_1 : decode b_AL_init 1 = .ok (.invokespecial 1, 3) := by decide +kernel
theorem d_AL_init_4 : decode b_AL_init 4 = .ok (.aload_n 0, 1) := by decide +kernel
theorem d_AL_init_5 : decode b_AL_init 5 = .ok (.getstatic 39, 3) := by decide +kernel
theorem d_AL_init_8 : decode b_AL_init 8 = .ok (.putfield 9, 3) := by decide +kernel
theorem d_AL_init_11 : decode b_AL_init 11 = .ok (.return_, 1) := by decide +kernel
theorem d_AL_size_0 : decode b_AL_size 0 = .ok (.aload_n 0, 1) := by decide +kernel
theorem d_AL_size_1 : decode b_AL_size 1 = .ok (.getfield 48, 3) := by decide +kernel
theorem d_AL_size_4 : decode b_AL_size 4 = .ok (.ireturn, 1) := by decide +kernel
theorem d_Ab_init_0 : decode b_Ab_init 0 = .ok (.aload_n 0, 1) := by decide +kernel
theorem d_Ab_init_1 : decode b_Ab_init 1 = .ok (.invokespecial 1, 3) := by decide +kernel
theorem d_Ab_init_4 : decode b_Ab_init 4 = .ok (.aload_n 0, 1) := by decide +kernel
theorem d_Ab_init_5 : decode b_Ab_init 5 = .ok (.iconst 0, 1) := by decide +kernel
theorem d_Ab_init_6 : decode b_Ab_init 6 = .ok (.putfield 7, 3) := by decide +kernel
theorem d_Ab_init_9 : decode b_Ab_init 9 = .ok (.return_, 1) := by decide +kernel
theorem d_Ac_init_0 : decode b_Ac_init 0 = .ok (.aload_n 0, 1) := by decide +kernel
theorem d_Ac_init_1 : decode b_Ac_init 1 = .ok (.invokespecial 1, 3) := by decide +kernel
theorem d_Ac_init_4 : decode b_Ac_init 4 = .ok (.return_, 1) := by decide +kernel
theorem d_Block_init_0 : decode b_Block_init 0 = .ok (.aload_n 0, 1) := by decide +kernel
theorem d_Block_init_1 : decode b_Block_init 1 = .ok (.invokespecial 3, 3) := by decide +kernel
theorem d_Block_init_4 : decode b_Block_init 4 = .ok (.aload_n 0, 1) := by decide +kernel
theorem d_Block_init_5 : decode b_Block_init 5 = .ok (.bipush 32, 2) := by decide +kernel
theorem d_Block_init_7 : decode b_Block_init 7 = .ok (.newarray .byte, 2) := by decide +kernel
theorem d_Block_init_9 : decode b_Block_init 9 = .ok (.putfield 9, 3) := by decide +kernel
theorem d_Block_init_12 : decode b_Block_init 12 = .ok (.aload_n 0, 1) := by decide +kernel
theorem d_Block_init_13 : decode b_Block_init 13 = .ok (.bipush 32, 2) := by decide +kernel
theorem d_Block_init_15 : decode b_Block_init 15 = .ok (.anewarray 15, 3) := by decide +kernel
theorem d_Block_init_18 : decode b_Block_init 18 = .ok (.putfield 17, 3) := by decide +kernel
theorem d_Block_init_21 : decode b_Block_init 21 = .ok (.aload_n 0, 1) := by decide +kernel
theorem d_Block_init_22 : decode b_Block_init 22 = .ok (.new 21, 3) := by decide +kernel
theorem d_Block_init_25 : decode b_Block_init 25 = .ok (.dup, 1) := by decide +kernel
theorem d_Block_init_26 : decode b_Block_init 26 = .ok (.invokespecial 23, 3) := by decide +kernel
theorem d_Block_init_29 : decode b_Block_init 29 = .ok (.putfield 24, 3) := by decide +kernel
theorem d_Block_init_32 : decode b_Block_init 32 = .ok (.return_, 1) := by decide +kernel
theorem d_Block_read_0 : decode b_Block_read 0 = .ok (.aload_n 0, 1) := by decide +kernel
theorem d_Block_read_1 : decode b_Block_read 1 = .ok (.aload_n 1, 1) := by decide +kernel
theorem d_Block_read_2 : decode b_Block_read 2 = .ok (.putfield 28, 3) := by decide +kernel
theorem d_Block_read_5 : decode b_Block_read 5 = .ok (.aload_n 0, 1) := by decide +kernel
theorem d_Block_read_6 : decode b_Block_read 6 = .ok (.iload_n 2, 1) := by decide +kernel
theorem d_Block_read_7 : decode b_Block_read 7 = .ok (.putfield 31, 3) := by decide +kernel
theorem d_Block_read_10 : decode b_Block_read 10 = .ok (.iload_n 2, 1) := by decide +kernel
theorem d_Block_read_11 : decode b_Block_read 11 = .ok (.bipush 77, 2) := by decide +kernel
theorem d_Block_read_13 : decode b_Block_read 13 = .ok (.if_icmp .ge 5, 3) := by decide +kernel
theorem d_Block_read_16 : decode b_Block_read 16 = .ok (.iconst 0, 1) := by decide +kernel
theorem d_Block_read_17 : decode b_Block_read 17 = .ok (.ireturn, 1) := by decide +kernel
theorem d_CL_alter_0 : decode b_CL_alter 0 = .ok (.iload_n 1, 1) := by decide +kernel
theorem d_CL_alter_1 : decode b_CL_alter 1 = .ok (.ifCond .lt 25, 3) := by decide +kernel
theorem d_CL_alter_4 : decode b_CL_alter 4 = .ok (.iload_n 1, 1) := by decide +kernel
theorem d_CL_alter_5 : decode b_CL_alter 5 = .ok (.aload_n 0, 1) := by decide +kernel
theorem d_CL_alter_6 : decode b_CL_alter 6 = .ok (.getfield 10, 3) := by decide +kernel
theorem d_CL_alter_9 : decode b_CL_alter 9 = .ok (.getfield 68, 3) := by decide +kernel
theorem d_CL_alter_12 : decode b_CL_alter 12 = .ok (.if_icmp .ge 14, 3) := by decide +kernel
theorem d_CL_alter_26 : decode b_CL_alter 26 = .ok (.iconst (-1), 1) := by decide +kernel
theorem d_CL_alter_27 : decode b_CL_alter 27 = .ok (.ireturn, 1) := by decide +kernel
theorem d_CL_back_0 : decode b_CL_back 0 = .ok (.aload_n 0, 1) := by decide +kernel
theorem d_CL_back_1 : decode b_CL_back 1 = .ok (.getfield 10, 3) := by decide +kernel
theorem d_CL_back_4 : decode b_CL_back 4 = .ok (.iconst 0, 1) := by decide +kernel
theorem d_CL_back_5 : decode b_CL_back 5 = .ok (.putfield 68, 3) := by decide +kernel
theorem d_CL_back_8 : decode b_CL_back 8 = .ok (.aload_n 0, 1) := by decide +kernel
theorem d_CL_back_9 : decode b_CL_back 9 = .ok (.getfield 10, 3) := by decide +kernel
theorem d_CL_back_12 : decode b_CL_back 12 = .ok (.aload_n 0, 1) := by decide +kernel
theorem d_CL_back_13 : decode b_CL_back 13 = .ok (.getfield 16, 3) := by decide +kernel
theorem d_CL_back_16 : decode b_CL_back 16 = .ok (.getfield 75, 3) := by decide +kernel
theorem d_CL_back_19 : decode b_CL_back 19 = .ok (.iconst 0, 1) := by decide +kernel
theorem d_CL_back_20 : decode b_CL_back 20 = .ok (.aload_n 0, 1) := by decide +kernel
theorem d_CL_back_21 : decode b_CL_back 21 = .ok (.getfield 16, 3) := by decide +kernel
theorem d_CL_back_24 : decode b_CL_back 24 = .ok (.getfield 68, 3) := by decide +kernel
theorem d_CL_back_27 : decode b_CL_back 27 = .ok (.invokevirtual 136, 3) := by decide +kernel
theorem d_CL_back_30 : decode b_CL_back 30 = .ok (.aload_n 0, 1) := by decide +kernel
theorem d_CL_back_31 : decode b_CL_back 31 = .ok (.getfield 10, 3) := by decide +kernel
theorem d_CL_back_34 : decode b_CL_back 34 = .ok (.getfield 68, 3) := by decide +kernel
theorem d_CL_back_37 : decode b_CL_back 37 = .ok (.ireturn, 1) := by decide +kernel
theorem d_CL_balance_0 : decode b_CL_balance 0 = .ok (.lconst 0, 1) := by decide +kernel
theorem d_CL_balance_1 : decode b_CL_balance 1 = .ok (.lstore_n 1, 1) := by decide +kernel
theorem d_CL_balance_2 : decode b_CL_balance 2 = .ok (.iconst 0, 1) := by decide +kernel
theorem d_CL_balance_3 : decode b_CL_balance 3 = .ok (.istore_n 3, 1) := by decide +kernel
theorem d_CL_balance_4 : decode b_CL_balance 4 = .ok (.iload_n 3, 1) := by decide +kernel
theorem d_CL_balance_5 : decode b_CL_balance 5 = .ok (.aload_n 0, 1) := by decide +kernel
theorem d_CL_balance_6 : decode b_CL_balance 6 = .ok (.getfield 44, 3) := by decide +kernel
theorem d_CL_balance_9 : decode b_CL_balance 9 = .ok (.getfield 161, 3) := by decide +kernel
theorem d_CL_balance_12 : decode b_CL_balance 12 = .ok (.getfield 165, 3) := by decide +kernel
theorem d_CL_balance_15 : decode b_CL_balance 15 = .ok (.invokevirtual 170, 3) := by decide +kernel
theorem d_CL_balance_18 : decode b_CL_balance 18 = .ok (.if_icmp .ge 59, 3) := by decide +kernel
theorem d_CL_balance_77 : decode b_CL_balance 77 = .ok (.aload_n 0, 1) := by decide +kernel
theorem d_CL_balance_78 : decode b_CL_balance 78 = .ok (.getfield 10, 3) := by decide +kernel
theorem d_CL_balance_81 : decode b_CL_balance 81 = .ok (.iconst 0, 1) := by decide +kernel
theorem d_CL_balance_82 : decode b_CL_balance 82 = .ok (.putfield 68, 3) := by decide +kernel
theorem d_CL_balance_85 : decode b_CL_balance 85 = .ok (.lload_n 1, 1) := by decide +kernel
theorem d_CL_balance_86 : decode b_CL_balance 86 = .ok (.lreturn, 1) := by decide +kernel
theorem d_CL_block_0 : decode b_CL_block 0 = .ok (.aload_n 0, 1) := by decide +kernel
theorem d_CL_block_1 : decode b_CL_block 1 = .ok (.getfield 44, 3) := by decide +kernel
theorem d_CL_block_4 : decode b_CL_block 4 = .ok (.aload_n 0, 1) := by decide +kernel
theorem d_CL_block_5 : decode b_CL_block 5 = .ok (.getfield 10, 3) := by decide +kernel
theorem d_CL_block_8 : decode b_CL_block 8 = .ok (.getfield 75, 3) := by decide +kernel
theorem d_CL_block_11 : decode b_CL_block 11 = .ok (.aload_n 0, 1) := by decide +kernel
theorem d_CL_block_12 : decode b_CL_block 12 = .ok (.getfield 10, 3) := by decide +kernel
theorem d_CL_block_15 : decode b_CL_block 15 = .ok (.getfield 68, 3) := by decide +kernel
theorem d_CL_block_18 : decode b_CL_block 18 = .ok (.invokevirtual 78, 3) := by decide +kernel
theorem d_CL_block_21 : decode b_CL_block 21 = .ok (.istore_n 1, 1) := by decide +kernel
theorem d_CL_block_22 : decode b_CL_block 22 = .ok (.aload_n 0, 1) := by decide +kernel
theorem d_CL_block_23 : decode b_CL_block 23 = .ok (.getfield 44, 3) := by decide +kernel
theorem d_CL_block_26 : decode b_CL_block 26 = .ok (.invokevirtual 82, 3) := by decide +kernel
theorem d_CL_block_29 : decode b_CL_block 29 = .ok (.aload_n 0, 1) := by decide +kernel
theorem d_CL_block_30 : decode b_CL_block 30 = .ok (.getfield 53, 3) := by decide +kernel
theorem d_CL_block_33 : decode b_CL_block 33 = .ok (.invokevirtual 85, 3) := by decide +kernel
theorem d_CL_block_36 : decode b_CL_block 36 = .ok (.aload_n 0, 1) := by decide +kernel
theorem d_CL_block_37 : decode b_CL_block 37 = .ok (.getfield 10, 3) := by decide +kernel
theorem d_CL_block_40 : decode b_CL_block 40 = .ok (.iconst 0, 1) := by decide +kernel
theorem d_CL_block_41 : decode b_CL_block 41 = .ok (.putfield 68, 3) := by decide +kernel
theorem d_CL_block_44 : decode b_CL_block 44 = .ok (.iload_n 1, 1) := by decide +kernel
theorem d_CL_block_45 : decode b_CL_block 45 = .ok (.ireturn, 1) := by decide +kernel
theorem d_CL_coin_0 : decode b_CL_coin 0 = .ok (.iload_n 2, 1) := by decide +kernel
theorem d_CL_coin_1 : decode b_CL_coin 1 = .ok (.ifCond .lt 8, 3) := by decide +kernel
theorem d_CL_coin_4 : decode b_CL_coin 4 = .ok (.iload_n 2, 1) := by decide +kernel
theorem d_CL_coin_5 : decode b_CL_coin 5 = .ok (.iconst 5, 1) := by decide +kernel
theorem d_CL_coin_6 : decode b_CL_coin 6 = .ok (.if_icmp .le 5, 3) := by decide +kernel
theorem d_CL_coin_9 : decode b_CL_coin 9 = .ok (.iconst (-1), 1) := by decide +kernel
theorem d_CL_coin_10 : decode b_CL_coin 10 = .ok (.ireturn, 1) := by decide +kernel
theorem d_CL_coin_11 : decode b_CL_coin 11 = .ok (.iload_n 1, 1) := by decide +kernel
theorem d_CL_coin_12 : decode b_CL_coin 12 = .ok (.ifCond .lt 20, 3) := by decide +kernel
theorem d_CL_coin_15 : decode b_CL_coin 15 = .ok (.iload_n 1, 1) := by decide +kernel
theorem d_CL_coin_16 : decode b_CL_coin 16 = .ok (.aload_n 0, 1) := by decide +kernel
theorem d_CL_coin_17 : decode b_CL_coin 17 = .ok (.getfield 44, 3) := by decide +kernel
theorem d_CL_coin_20 : decode b_CL_coin 20 = .ok (.getfield 161, 3) := by decide +kernel
theorem d_CL_coin_23 : decode b_CL_coin 23 = .ok (.getfield 165, 3) := by decide +kernel
theorem d_CL_coin_26 : decode b_CL_coin 26 = .ok (.invokevirtual 170, 3) := by decide +kernel
theorem d_CL_coin_29 : decode b_CL_coin 29 = .ok (.if_icmp .lt 6, 3) := by decide +kernel
theorem d_CL_coin_32 : decode b_CL_coin 32 = .ok (.bipush (-2), 2) := by decide +kernel
theorem d_CL_coin_34 : decode b_CL_coin 34 = .ok (.ireturn, 1) := by decide +kernel
theorem d_CL_count_0 : decode b_CL_count 0 = .ok (.iload_n 1, 1) := by decide +kernel
theorem d_CL_count_1 : decode b_CL_count 1 = .ok (.tableswitch 120 0 6 #[43, 52, 64, 79, 90, 102, 111], 43) := by decide +kernel
theorem d_CL_count_44 : decode b_CL_count 44 = .ok (.aload_n 0, 1) := by decide +kernel
theorem d_CL_count_45 : decode b_CL_count 45 = .ok (.getfield 44, 3) := by decide +kernel
theorem d_CL_count_48 : decode b_CL_count 48 = .ok (.getfield 268, 3) := by decide +kernel
theorem d_CL_count_51 : decode b_CL_count 51 = .ok (.i2l, 1) := by decide +kernel
theorem d_CL_count_52 : decode b_CL_count 52 = .ok (.lreturn, 1) := by decide +kernel
theorem d_CL_count_53 : decode b_CL_count 53 = .ok (.aload_n 0, 1) := by decide +kernel
theorem d_CL_count_54 : decode b_CL_count 54 = .ok (.getfield 44, 3) := by decide +kernel
theorem d_CL_count_57 : decode b_CL_count 57 = .ok (.getfield 271, 3) := by decide +kernel
theorem d_CL_count_60 : decode b_CL_count 60 = .ok (.invokevirtual 170, 3) := by decide +kernel
theorem d_CL_count_63 : decode b_CL_count 63 = .ok (.i2l, 1) := by decide +kernel
theorem d_CL_count_64 : decode b_CL_count 64 = .ok (.lreturn, 1) := by decide +kernel
theorem d_CL_count_65 : decode b_CL_count 65 = .ok (.aload_n 0, 1) := by decide +kernel
theorem d_CL_count_66 : decode b_CL_count 66 = .ok (.getfield 44, 3) := by decide +kernel
theorem d_CL_count_69 : decode b_CL_count 69 = .ok (.getfield 161, 3) := by decide +kernel
theorem d_CL_count_72 : decode b_CL_count 72 = .ok (.getfield 165, 3) := by decide +kernel
theorem d_CL_count_75 : decode b_CL_count 75 = .ok (.invokevirtual 170, 3) := by decide +kernel
theorem d_CL_count_78 : decode b_CL_count 78 = .ok (.i2l, 1) := by decide +kernel
theorem d_CL_count_79 : decode b_CL_count 79 = .ok (.lreturn, 1) := by decide +kernel
theorem d_CL_count_80 : decode b_CL_count 80 = .ok (.aload_n 0, 1) := by decide +kernel
theorem d_CL_count_81 : decode b_CL_count 81 = .ok (.getfield 44, 3) := by decide +kernel
theorem d_CL_count_84 : decode b_CL_count 84 = .ok (.getfield 161, 3) := by decide +kernel
theorem d_CL_count_87 : decode b_CL_count 87 = .ok (.invokevirtual 274, 3) := by decide +kernel
theorem d_CL_count_90 : decode b_CL_count 90 = .ok (.lreturn, 1) := by decide +kernel
theorem d_CL_count_91 : decode b_CL_count 91 = .ok (.aload_n 0, 1) := by decide +kernel
theorem d_CL_count_92 : decode b_CL_count 92 = .ok (.getfield 53, 3) := by decide +kernel
theorem d_CL_count_95 : decode b_CL_count 95 = .ok (.getfield 121, 3) := by decide +kernel
theorem d_CL_count_98 : decode b_CL_count 98 = .ok (.invokevirtual 170, 3) := by decide +kernel
theorem d_CL_count_101 : decode b_CL_count 101 = .ok (.i2l, 1) := by decide +kernel
theorem d_CL_count_102 : decode b_CL_count 102 = .ok (.lreturn, 1) := by decide +kernel
theorem d_CL_count_103 : decode b_CL_count 103 = .ok (.aload_n 0, 1) := by decide +kernel
theorem d_CL_count_104 : decode b_CL_count 104 = .ok (.getfield 44, 3) := by decide +kernel
theorem d_CL_count_107 : decode b_CL_count 107 = .ok (.getfield 278, 3) := by decide +kernel
theorem d_CL_count_110 : decode b_CL_count 110 = .ok (.i2l, 1) := by decide +kernel
theorem d_CL_count_111 : decode b_CL_count 111 = .ok (.lreturn, 1) := by decide +kernel
theorem d_CL_count_112 : decode b_CL_count 112 = .ok (.aload_n 0, 1) := by decide +kernel
theorem d_CL_count_113 : decode b_CL_count 113 = .ok (.getfield 10, 3) := by decide +kernel
theorem d_CL_count_116 : decode b_CL_count 116 = .ok (.getfield 68, 3) := by decide +kernel
theorem d_CL_count_119 : decode b_CL_count 119 = .ok (.i2l, 1) := by decide +kernel
theorem d_CL_count_120 : decode b_CL_count 120 = .ok (.lreturn, 1) := by decide +kernel
theorem d_CL_count_121 : decode b_CL_count 121 = .ok (.ldc2_w 234, 3) := by decide +kernel
theorem d_CL_count_124 : decode b_CL_count 124 = .ok (.lreturn, 1) := by decide +kernel
theorem d_CL_draft_0 : decode b_CL_draft 0 = .ok (.iload_n 1, 1) := by decide +kernel
theorem d_CL_draft_1 : decode b_CL_draft 1 = .ok (.iconst (-1), 1) := by decide +kernel
theorem d_CL_draft_2 : decode b_CL_draft 2 = .ok (.if_icmp .ne 13, 3) := by decide +kernel
theorem d_CL_draft_5 : decode b_CL_draft 5 = .ok (.aload_n 0, 1) := by decide +kernel
theorem d_CL_draft_6 : decode b_CL_draft 6 = .ok (.getfield 44, 3) := by decide +kernel
theorem d_CL_draft_9 : decode b_CL_draft 9 = .ok (.getfield 89, 3) := by decide +kernel
theorem d_CL_draft_12 : decode b_CL_draft 12 = .ok (.goto 11, 3) := by decide +kernel
theorem d_CL_draft_15 : decode b_CL_draft 15 = .ok (.aload_n 0, 1) := by decide +kernel
theorem d_CL_draft_16 : decode b_CL_draft 16 = .ok (.getfield 44, 3) := by decide +kernel
theorem d_CL_draft_19 : decode b_CL_draft 19 = .ok (.iload_n 1, 1) := by decide +kernel
theorem d_CL_draft_20 : decode b_CL_draft 20 = .ok (.invokevirtual 93, 3) := by decide +kernel
theorem d_CL_draft_23 : decode b_CL_draft 23 = .ok (.astore 5, 2) := by decide +kernel
theorem d_CL_draft_25 : decode b_CL_draft 25 = .ok (.aload 5, 2) := by decide +kernel
theorem d_CL_draft_27 : decode b_CL_draft 27 = .ok (.ifnull 7, 3) := by decide +kernel
theorem d_CL_draft_30 : decode b_CL_draft 30 = .ok (.iload_n 2, 1) := by decide +kernel
theorem d_CL_draft_31 : decode b_CL_draft 31 = .ok (.ifCond .ge 5, 3) := by decide +kernel
theorem d_CL_draft_34 : decode b_CL_draft 34 = .ok (.iconst (-1), 1) := by decide +kernel
theorem d_CL_draft_35 : decode b_CL_draft 35 = .ok (.ireturn, 1) := by decide +kernel
theorem d_CL_draft_36 : decode b_CL_draft 36 = .ok (.iload 4, 2) := by decide +kernel
theorem d_CL_draft_38 : decode b_CL_draft 38 = .ok (.ifCond .eq 27, 3) := by decide +kernel
theorem d_CL_draft_41 : decode b_CL_draft 41 = .ok (.aload 5, 2) := by decide +kernel
theorem d_CL_draft_43 : decode b_CL_draft 43 = .ok (.aload_n 0, 1) := by decide +kernel
theorem d_CL_draft_44 : decode b_CL_draft 44 = .ok (.getfield 44, 3) := by decide +kernel
theorem d_CL_draft_47 : decode b_CL_draft 47 = .ok (.getfield 89, 3) := by decide +kernel
theorem d_CL_draft_50 : decode b_CL_draft 50 = .ok (.if_acmp .ne 15, 3) := by decide +kernel
theorem d_CL_draft_53 : decode b_CL_draft 53 = .ok (.aload_n 0, 1) := by decide +kernel
theorem d_CL_draft_54 : decode b_CL_draft 54 = .ok (.getfield 53, 3) := by decide +kernel
theorem d_CL_draft_57 : decode b_CL_draft 57 = .ok (.bipush 94, 2) := by decide +kernel
theorem d_CL_draft_59 : decode b_CL_draft 59 = .ok (.invokevirtual 97, 3) := by decide +kernel
theorem d_CL_draft_62 : decode b_CL_draft 62 = .ok (.goto 4, 3) := by decide +kernel
theorem d_CL_draft_65 : decode b_CL_draft 65 = .ok (.iconst 0, 1) := by decide +kernel
theorem d_CL_draft_66 : decode b_CL_draft 66 = .ok (.istore 6, 2) := by decide +kernel
theorem d_CL_draft_68 : decode b_CL_draft 68 = .ok (.aload_n 0, 1) := by decide +kernel
theorem d_CL_draft_69 : decode b_CL_draft 69 = .ok (.iconst 1, 1) := by decide +kernel
theorem d_CL_draft_70 : decode b_CL_draft 70 = .ok (.putfield 19, 3) := by decide +kernel
theorem d_CL_draft_73 : decode b_CL_draft 73 = .ok (.aload_n 0, 1) := by decide +kernel
theorem d_CL_draft_74 : decode b_CL_draft 74 = .ok (.getfield 16, 3) := by decide +kernel
theorem d_CL_draft_77 : decode b_CL_draft 77 = .ok (.iconst 0, 1) := by decide +kernel
theorem d_CL_draft_78 : decode b_CL_draft 78 = .ok (.putfield 68, 3) := by decide +kernel
theorem d_CL_draft_81 : decode b_CL_draft 81 = .ok (.aload_n 0, 1) := by decide +kernel
theorem d_CL_draft_82 : decode b_CL_draft 82 = .ok (.aload 5, 2) := by decide +kernel
theorem d_CL_draft_84 : decode b_CL_draft 84 = .ok (.iload_n 2, 1) := by decide +kernel
theorem d_CL_draft_85 : decode b_CL_draft 85 = .ok (.invokevirtual 101, 3) := by decide +kernel
theorem d_CL_draft_88 : decode b_CL_draft 88 = .ok (.aload_n 0, 1) := by decide +kernel
theorem d_CL_draft_89 : decode b_CL_draft 89 = .ok (.getfield 16, 3) := by decide +kernel
theorem d_CL_draft_92 : decode b_CL_draft 92 = .ok (.iload 6, 2) := by decide +kernel
theorem d_CL_draft_94 : decode b_CL_draft 94 = .ok (.iconst 1, 1) := by decide +kernel
theorem d_CL_draft_95 : decode b_CL_draft 95 = .ok (.iadd, 1) := by decide +kernel
theorem d_CL_draft_96 : decode b_CL_draft 96 = .ok (.invokevirtual 105, 3) := by decide +kernel
theorem d_CL_draft_99 : decode b_CL_draft 99 = .ok (.aload_n 0, 1) := by decide +kernel
theorem d_CL_draft_100 : decode b_CL_draft 100 = .ok (.aload 5, 2) := by decide +kernel
theorem d_CL_draft_102 : decode b_CL_draft 102 = .ok (.getfield 108, 3) := by decide +kernel
theorem d_CL_draft_105 : decode b_CL_draft 105 = .ok (.iconst 1, 1) := by decide +kernel
theorem d_CL_draft_106 : decode b_CL_draft 106 = .ok (.iadd, 1) := by decide +kernel
theorem d_CL_draft_107 : decode b_CL_draft 107 = .ok (.aload_n 0, 1) := by decide +kernel
theorem d_CL_draft_108 : decode b_CL_draft 108 = .ok (.getfield 53, 3) := by decide +kernel
theorem d_CL_draft_111 : decode b_CL_draft 111 = .ok (.iload 6, 2) := by decide +kernel
theorem d_CL_draft_113 : decode b_CL_draft 113 = .ok (.invokevirtual 113, 3) := by decide +kernel
theorem d_CL_draft_116 : decode b_CL_draft 116 = .ok (.iload_n 3, 1) := by decide +kernel
theorem d_CL_draft_117 : decode b_CL_draft 117 = .ok (.invokevirtual 117, 3) := by decide +kernel
theorem d_CL_draft_120 : decode b_CL_draft 120 = .ok (.iconst 0, 1) := by decide +kernel
theorem d_CL_draft_121 : decode b_CL_draft 121 = .ok (.istore 7, 2) := by decide +kernel
theorem d_CL_draft_123 : decode b_CL_draft 123 = .ok (.iload 7, 2) := by decide +kernel
theorem d_CL_draft_125 : decode b_CL_draft 125 = .ok (.iload 6, 2) := by decide +kernel
theorem d_CL_draft_127 : decode b_CL_draft 127 = .ok (.if_icmp .ge 48, 3) := by decide +kernel
theorem d_CL_draft_175 : decode b_CL_draft 175 = .ok (.aload_n 0, 1) := by decide +kernel
theorem d_CL_draft_176 : decode b_CL_draft 176 = .ok (.iload 6, 2) := by decide +kernel
theorem d_CL_draft_178 : decode b_CL_draft 178 = .ok (.invokevirtual 140, 3) := by decide +kernel
theorem d_CL_draft_181 : decode b_CL_draft 181 = .ok (.aload_n 0, 1) := by decide +kernel
theorem d_CL_draft_182 : decode b_CL_draft 182 = .ok (.getfield 16, 3) := by decide +kernel
theorem d_CL_draft_185 : decode b_CL_draft 185 = .ok (.getfield 68, 3) := by decide +kernel
theorem d_CL_draft_188 : decode b_CL_draft 188 = .ok (.ireturn, 1) := by decide +kernel
theorem d_CL_end_0 : decode b_CL_end 0 = .ok (.iload_n 1, 1) := by decide +kernel
theorem d_CL_end_1 : decode b_CL_end 1 = .ok (.ifCond .lt 14, 3) := by decide +kernel
theorem d_CL_end_4 : decode b_CL_end 4 = .ok (.iload_n 1, 1) := by decide +kernel
theorem d_CL_end_5 : decode b_CL_end 5 = .ok (.aload_n 0, 1) := by decide +kernel
theorem d_CL_end_6 : decode b_CL_end 6 = .ok (.getfield 10, 3) := by decide +kernel
theorem d_CL_end_9 : decode b_CL_end 9 = .ok (.getfield 68, 3) := by decide +kernel
theorem d_CL_end_12 : decode b_CL_end 12 = .ok (.if_icmp .le 5, 3) := by decide +kernel
theorem d_CL_end_15 : decode b_CL_end 15 = .ok (.iconst (-1), 1) := by decide +kernel
theorem d_CL_end_16 : decode b_CL_end 16 = .ok (.ireturn, 1) := by decide +kernel
theorem d_CL_end_17 : decode b_CL_end 17 = .ok (.aload_n 0, 1) := by decide +kernel
theorem d_CL_end_18 : decode b_CL_end 18 = .ok (.getfield 10, 3) := by decide +kernel
theorem d_CL_end_21 : decode b_CL_end 21 = .ok (.iload_n 1, 1) := by decide +kernel
theorem d_CL_end_22 : decode b_CL_end 22 = .ok (.putfield 68, 3) := by decide +kernel
theorem d_CL_end_25 : decode b_CL_end 25 = .ok (.iload_n 1, 1) := by decide +kernel
theorem d_CL_end_26 : decode b_CL_end 26 = .ok (.ireturn, 1) := by decide +kernel
theorem d_CL_feed_0 : decode b_CL_feed 0 = .ok (.aload_n 0, 1) := by decide +kernel
theorem d_CL_feed_1 : decode b_CL_feed 1 = .ok (.getfield 10, 3) := by decide +kernel
theorem d_CL_feed_4 : decode b_CL_feed 4 = .ok (.getfield 68, 3) := by decide +kernel
theorem d_CL_feed_7 : decode b_CL_feed 7 = .ok (.bipush 20, 2) := by decide +kernel
theorem d_CL_feed_9 : decode b_CL_feed 9 = .ok (.iadd, 1) := by decide +kernel
theorem d_CL_feed_10 : decode b_CL_feed 10 = .ok (.sipush 4096, 3) := by decide +kernel
theorem d_CL_feed_13 : decode b_CL_feed 13 = .ok (.if_icmp .le 6, 3) := by decide +kernel
theorem d_CL_feed_19 : decode b_CL_feed 19 = .ok (.aload_n 0, 1) := by decide +kernel
theorem d_CL_feed_20 : decode b_CL_feed 20 = .ok (.getfield 10, 3) := by decide +kernel
theorem d_CL_feed_23 : decode b_CL_feed 23 = .ok (.iload_n 1, 1) := by decide +kernel
theorem d_CL_feed_24 : decode b_CL_feed 24 = .ok (.invokevirtual 71, 3) := by decide +kernel
theorem d_CL_feed_27 : decode b_CL_feed 27 = .ok (.aload_n 0, 1) := by decide +kernel
theorem d_CL_feed_28 : decode b_CL_feed 28 = .ok (.getfield 10, 3) := by decide +kernel
theorem d_CL_feed_31 : decode b_CL_feed 31 = .ok (.iload_n 2, 1) := by decide +kernel
theorem d_CL_feed_32 : decode b_CL_feed 32 = .ok (.invokevirtual 71, 3) := by decide +kernel
theorem d_CL_feed_35 : decode b_CL_feed 35 = .ok (.aload_n 0, 1) := by decide +kernel
theorem d_CL_feed_36 : decode b_CL_feed 36 = .ok (.getfield 10, 3) := by decide +kernel
theorem d_CL_feed_39 : decode b_CL_feed 39 = .ok (.iload_n 3, 1) := by decide +kernel
theorem d_CL_feed_40 : decode b_CL_feed 40 = .ok (.invokevirtual 71, 3) := by decide +kernel
theorem d_CL_feed_43 : decode b_CL_feed 43 = .ok (.aload_n 0, 1) := by decide +kernel
theorem d_CL_feed_44 : decode b_CL_feed 44 = .ok (.getfield 10, 3) := by decide +kernel
theorem d_CL_feed_47 : decode b_CL_feed 47 = .ok (.iload 4, 2) := by decide +kernel
theorem d_CL_feed_49 : decode b_CL_feed 49 = .ok (.invokevirtual 71, 3) := by decide +kernel
theorem d_CL_feed_52 : decode b_CL_feed 52 = .ok (.aload_n 0, 1) := by decide +kernel
theorem d_CL_feed_53 : decode b_CL_feed 53 = .ok (.getfield 10, 3) := by decide +kernel
theorem d_CL_feed_56 : decode b_CL_feed 56 = .ok (.iload 5, 2) := by decide +kernel
theorem d_CL_feed_58 : decode b_CL_feed 58 = .ok (.invokevirtual 71, 3) := by decide +kernel
theorem d_CL_feed_61 : decode b_CL_feed 61 = .ok (.aload_n 0, 1) := by decide +kernel
theorem d_CL_feed_62 : decode b_CL_feed 62 = .ok (.getfield 10, 3) := by decide +kernel
theorem d_CL_feed_65 : decode b_CL_feed 65 = .ok (.getfield 68, 3) := by decide +kernel
theorem d_CL_feed_68 : decode b_CL_feed 68 = .ok (.ireturn, 1) := by decide +kernel
theorem d_CL_init_0 : decode b_CL_init 0 = .ok (.aload_n 0, 1) := by decide +kernel
theorem d_CL_init_1 : decode b_CL_init 1 = .ok (.invokespecial 1, 3) := by decide +kernel
theorem d_CL_init_4 : decode b_CL_init 4 = .ok (.aload_n 0, 1) := by decide +kernel
theorem d_CL_init_5 : decode b_CL_init 5 = .ok (.new 7, 3) := by decide +kernel
theorem d_CL_init_8 : decode b_CL_init 8 = .ok (.dup, 1) := by decide +kernel
theorem d_CL_init_9 : decode b_CL_init 9 = .ok (.invokespecial 9, 3) := by decide +kernel
theorem d_CL_init_12 : decode b_CL_init 12 = .ok (.putfield 10, 3) := by decide +kernel
theorem d_CL_init_15 : decode b_CL_init 15 = .ok (.aload_n 0, 1) := by decide +kernel
theorem d_CL_init_16 : decode b_CL_init 16 = .ok (.new 7, 3) := by decide +kernel
theorem d_CL_init_19 : decode b_CL_init 19 = .ok (.dup, 1) := by decide +kernel
theorem d_CL_init_20 : decode b_CL_init 20 = .ok (.invokespecial 9, 3) := by decide +kernel
theorem d_CL_init_23 : decode b_CL_init 23 = .ok (.putfield 16, 3) := by decide +kernel
theorem d_CL_init_26 : decode b_CL_init 26 = .ok (.aload_n 0, 1) := by decide +kernel
theorem d_CL_init_27 : decode b_CL_init 27 = .ok (.iconst 0, 1) := by decide +kernel
theorem d_CL_init_28 : decode b_CL_init 28 = .ok (.putfield 19, 3) := by decide +kernel
theorem d_CL_init_31 : decode b_CL_init 31 = .ok (.aload_n 0, 1) := by decide +kernel
theorem d_CL_init_32 : decode b_CL_init 32 = .ok (.new 23, 3) := by decide +kernel
theorem d_CL_init_35 : decode b_CL_init 35 = .ok (.dup, 1) := by decide +kernel
theorem d_CL_init_36 : decode b_CL_init 36 = .ok (.invokespecial 25, 3) := by decide +kernel
theorem d_CL_init_39 : decode b_CL_init 39 = .ok (.putfield 26, 3) := by decide +kernel
theorem d_CL_init_42 : decode b_CL_init 42 = .ok (.aload_n 0, 1) := by decide +kernel
theorem d_CL_init_43 : decode b_CL_init 43 = .ok (.new 30, 3) := by decide +kernel
theorem d_CL_init_46 : decode b_CL_init 46 = .ok (.dup, 1) := by decide +kernel
theorem d_CL_init_47 : decode b_CL_init 47 = .ok (.aload_n 0, 1) := by decide +kernel
theorem d_CL_init_48 : decode b_CL_init 48 = .ok (.getfield 26, 3) := by decide +kernel
theorem d_CL_init_51 : decode b_CL_init 51 = .ok (.invokespecial 32, 3) := by decide +kernel
theorem d_CL_init_54 : decode b_CL_init 54 = .ok (.putfield 35, 3) := by decide +kernel
theorem d_CL_init_57 : decode b_CL_init 57 = .ok (.aload_n 0, 1) := by decide +kernel
theorem d_CL_init_58 : decode b_CL_init 58 = .ok (.new 39, 3) := by decide +kernel
theorem d_CL_init_61 : decode b_CL_init 61 = .ok (.dup, 1) := by decide +kernel
theorem d_CL_init_62 : decode b_CL_init 62 = .ok (.aload_n 0, 1) := by decide +kernel
theorem d_CL_init_63 : decode b_CL_init 63 = .ok (.getfield 26, 3) := by decide +kernel
theorem d_CL_init_66 : decode b_CL_init 66 = .ok (.aload_n 0, 1) := by decide +kernel
theorem d_CL_init_67 : decode b_CL_init 67 = .ok (.getfield 35, 3) := by decide +kernel
theorem d_CL_init_70 : decode b_CL_init 70 = .ok (.invokespecial 41, 3) := by decide +kernel
theorem d_CL_init_73 : decode b_CL_init 73 = .ok (.putfield 44, 3) := by decide +kernel
theorem d_CL_init_76 : decode b_CL_init 76 = .ok (.aload_n 0, 1) := by decide +kernel
theorem d_CL_init_77 : decode b_CL_init 77 = .ok (.new 48, 3) := by decide +kernel
theorem d_CL_init_80 : decode b_CL_init 80 = .ok (.dup, 1) := by decide +kernel
theorem d_CL_init_81 : decode b_CL_init 81 = .ok (.aload_n 0, 1) := by decide +kernel
theorem d_CL_init_82 : decode b_CL_init 82 = .ok (.getfield 26, 3) := by decide +kernel
theorem d_CL_init_85 : decode b_CL_init 85 = .ok (.aload_n 0, 1) := by decide +kernel
theorem d_CL_init_86 : decode b_CL_init 86 = .ok (.getfield 35, 3) := by decide +kernel
theorem d_CL_init_89 : decode b_CL_init 89 = .ok (.aload_n 0, 1) := by decide +kernel
theorem d_CL_init_90 : decode b_CL_init 90 = .ok (.getfield 44, 3) := by decide +kernel
theorem d_CL_init_93 : decode b_CL_init 93 = .ok (.invokespecial 50, 3) := by decide +kernel
theorem d_CL_init_96 : decode b_CL_init 96 = .ok (.putfield 53, 3) := by decide +kernel
theorem d_CL_init_99 : decode b_CL_init 99 = .ok (.aload_n 0, 1) := by decide +kernel
theorem d_CL_init_100 : decode b_CL_init 100 = .ok (.new 57, 3) := by decide +kernel
theorem d_CL_init_103 : decode b_CL_init 103 = .ok (.dup, 1) := by decide +kernel
theorem d_CL_init_104 : decode b_CL_init 104 = .ok (.invokespecial 59, 3) := by decide +kernel
theorem d_CL_init_107 : decode b_CL_init 107 = .ok (.putfield 60, 3) := by decide +kernel
theorem d_CL_init_110 : decode b_CL_init 110 = .ok (.aload_n 0, 1) := by decide +kernel
theorem d_CL_init_111 : decode b_CL_init 111 = .ok (.bipush 80, 2) := by decide +kernel
theorem d_CL_init_113 : decode b_CL_init 113 = .ok (.newarray .byte, 2) := by decide +kernel
theorem d_CL_init_115 : decode b_CL_init 115 = .ok (.putfield 64, 3) := by decide +kernel
theorem d_CL_init_118 : decode b_CL_init 118 = .ok (.return_, 1) := by decide +kernel
theorem d_CL_mine_0 : decode b_CL_mine 0 = .ok (.iload_n 1, 1) := by decide +kernel
theorem d_CL_mine_1 : decode b_CL_mine 1 = .ok (.iconst 1, 1) := by decide +kernel
theorem d_CL_mine_2 : decode b_CL_mine 2 = .ok (.if_icmp .lt 18, 3) := by decide +kernel
theorem d_CL_mine_5 : decode b_CL_mine 5 = .ok (.iload_n 1, 1) := by decide +kernel
theorem d_CL_mine_6 : decode b_CL_mine 6 = .ok (.sipush 2000, 3) := by decide +kernel
theorem d_CL_mine_9 : decode b_CL_mine 9 = .ok (.if_icmp .gt 11, 3) := by decide +kernel
theorem d_CL_mine_12 : decode b_CL_mine 12 = .ok (.aload_n 0, 1) := by decide +kernel
theorem d_CL_mine_13 : decode b_CL_mine 13 = .ok (.getfield 19, 3) := by decide +kernel
theorem d_CL_mine_16 : decode b_CL_mine 16 = .ok (.iconst 1, 1) := by decide +kernel
theorem d_CL_mine_17 : decode b_CL_mine 17 = .ok (.if_icmp .eq 5, 3) := by decide +kernel
theorem d_CL_mine_20 : decode b_CL_mine 20 = .ok (.iconst (-1), 1) := by decide +kernel
theorem d_CL_mine_21 : decode b_CL_mine 21 = .ok (.ireturn, 1) := by decide +kernel
theorem d_CL_numberAt_0 : decode b_CL_numberAt 0 = .ok (.aload_n 0, 1) := by decide +kernel
theorem d_CL_numberAt_1 : decode b_CL_numberAt 1 = .ok (.iload_n 1, 1) := by decide +kernel
theorem d_CL_numberAt_2 : decode b_CL_numberAt 2 = .ok (.baload, 1) := by decide +kernel
theorem d_CL_numberAt_3 : decode b_CL_numberAt 3 = .ok (.bipush 24, 2) := by decide +kernel
theorem d_CL_numberAt_5 : decode b_CL_numberAt 5 = .ok (.ishl, 1) := by decide +kernel
theorem d_CL_numberAt_6 : decode b_CL_numberAt 6 = .ok (.aload_n 0, 1) := by decide +kernel
theorem d_CL_numberAt_7 : decode b_CL_numberAt 7 = .ok (.iload_n 1, 1) := by decide +kernel
theorem d_CL_numberAt_8 : decode b_CL_numberAt 8 = .ok (.iconst 1, 1) := by decide +kernel
theorem d_CL_numberAt_9 : decode b_CL_numberAt 9 = .ok (.iadd, 1) := by decide +kernel
theorem d_CL_numberAt_10 : decode b_CL_numberAt 10 = .ok (.baload, 1) := by decide +kernel
theorem d_CL_numberAt_11 : decode b_CL_numberAt 11 = .ok (.sipush 255, 3) := by decide +kernel
theorem d_CL_numberAt_14 : decode b_CL_numberAt 14 = .ok (.iand, 1) := by decide +kernel
theorem d_CL_numberAt_15 : decode b_CL_numberAt 15 = .ok (.bipush 16, 2) := by decide +kernel
theorem d_CL_numberAt_17 : decode b_CL_numberAt 17 = .ok (.ishl, 1) := by decide +kernel
theorem d_CL_numberAt_18 : decode b_CL_numberAt 18 = .ok (.ior, 1) := by decide +kernel
theorem d_CL_numberAt_19 : decode b_CL_numberAt 19 = .ok (.aload_n 0, 1) := by decide +kernel
theorem d_CL_numberAt_20 : decode b_CL_numberAt 20 = .ok (.iload_n 1, 1) := by decide +kernel
theorem d_CL_numberAt_21 : decode b_CL_numberAt 21 = .ok (.iconst 2, 1) := by decide +kernel
theorem d_CL_numberAt_22 : decode b_CL_numberAt 22 = .ok (.iadd, 1) := by decide +kernel
theorem d_CL_numberAt_23 : decode b_CL_numberAt 23 = .ok (.baload, 1) := by decide +kernel
theorem d_CL_numberAt_24 : decode b_CL_numberAt 24 = .ok (.sipush 255, 3) := by decide +kernel
theorem d_CL_numberAt_27 : decode b_CL_numberAt 27 = .ok (.iand, 1) := by decide +kernel
theorem d_CL_numberAt_28 : decode b_CL_numberAt 28 = .ok (.bipush 8, 2) := by decide +kernel
theorem d_CL_numberAt_30 : decode b_CL_numberAt 30 = .ok (.ishl, 1) := by decide +kernel
theorem d_CL_numberAt_31 : decode b_CL_numberAt 31 = .ok (.ior, 1) := by decide +kernel
theorem d_CL_numberAt_32 : decode b_CL_numberAt 32 = .ok (.aload_n 0, 1) := by decide +kernel
theorem d_CL_numberAt_33 : decode b_CL_numberAt 33 = .ok (.iload_n 1, 1) := by decide +kernel
theorem d_CL_numberAt_34 : decode b_CL_numberAt 34 = .ok (.iconst 3, 1) := by decide +kernel
theorem d_CL_numberAt_35 : decode b_CL_numberAt 35 = .ok (.iadd, 1) := by decide +kernel
theorem d_CL_numberAt_36 : decode b_CL_numberAt 36 = .ok (.baload, 1) := by decide +kernel
theorem d_CL_numberAt_37 : decode b_CL_numberAt 37 = .ok (.sipush 255, 3) := by decide +kernel
theorem d_CL_numberAt_40 : decode b_CL_numberAt 40 = .ok (.iand, 1) := by decide +kernel
theorem d_CL_numberAt_41 : decode b_CL_numberAt 41 = .ok (.ior, 1) := by decide +kernel
theorem d_CL_numberAt_42 : decode b_CL_numberAt 42 = .ok (.ireturn, 1) := by decide +kernel
theorem d_CL_octet_0 : decode b_CL_octet 0 = .ok (.iload_n 1, 1) := by decide +kernel
theorem d_CL_octet_1 : decode b_CL_octet 1 = .ok (.iconst (-1), 1) := by decide +kernel
theorem d_CL_octet_2 : decode b_CL_octet 2 = .ok (.if_icmp .ne 11, 3) := by decide +kernel
theorem d_CL_octet_5 : decode b_CL_octet 5 = .ok (.aload_n 0, 1) := by decide +kernel
theorem d_CL_octet_6 : decode b_CL_octet 6 = .ok (.getfield 16, 3) := by decide +kernel
theorem d_CL_octet_9 : decode b_CL_octet 9 = .ok (.getfield 68, 3) := by decide +kernel
theorem d_CL_octet_12 : decode b_CL_octet 12 = .ok (.ireturn, 1) := by decide +kernel
theorem d_CL_octet_13 : decode b_CL_octet 13 = .ok (.iload_n 1, 1) := by decide +kernel
theorem d_CL_octet_14 : decode b_CL_octet 14 = .ok (.ifCond .lt 14, 3) := by decide +kernel
theorem d_CL_octet_17 : decode b_CL_octet 17 = .ok (.iload_n 1, 1) := by decide +kernel
theorem d_CL_octet_18 : decode b_CL_octet 18 = .ok (.aload_n 0, 1) := by decide +kernel
theorem d_CL_octet_19 : decode b_CL_octet 19 = .ok (.getfield 16, 3) := by decide +kernel
theorem d_CL_octet_22 : decode b_CL_octet 22 = .ok (.getfield 68, 3) := by decide +kernel
theorem d_CL_octet_25 : decode b_CL_octet 25 = .ok (.if_icmp .lt 8, 3) := by decide +kernel
theorem d_CL_octet_28 : decode b_CL_octet 28 = .ok (.bipush (-2), 2) := by decide +kernel
theorem d_CL_octet_30 : decode b_CL_octet 30 = .ok (.goto 16, 3) := by decide +kernel
theorem d_CL_octet_46 : decode b_CL_octet 46 = .ok (.ireturn, 1) := by decide +kernel
theorem d_CL_pay_0 : decode b_CL_pay 0 = .ok (.aload_n 0, 1) := by decide +kernel
theorem d_CL_pay_1 : decode b_CL_pay 1 = .ok (.getfield 53, 3) := by decide +kernel
theorem d_CL_pay_4 : decode b_CL_pay 4 = .ok (.aload_n 0, 1) := by decide +kernel
theorem d_CL_pay_5 : decode b_CL_pay 5 = .ok (.getfield 10, 3) := by decide +kernel
theorem d_CL_pay_8 : decode b_CL_pay 8 = .ok (.getfield 75, 3) := by decide +kernel
theorem d_CL_pay_11 : decode b_CL_pay 11 = .ok (.aload_n 0, 1) := by decide +kernel
theorem d_CL_pay_12 : decode b_CL_pay 12 = .ok (.getfield 10, 3) := by decide +kernel
theorem d_CL_pay_15 : decode b_CL_pay 15 = .ok (.getfield 68, 3) := by decide +kernel
theorem d_CL_pay_18 : decode b_CL_pay 18 = .ok (.invokevirtual 88, 3) := by decide +kernel
theorem d_CL_pay_21 : decode b_CL_pay 21 = .ok (.istore_n 1, 1) := by decide +kernel
theorem d_CL_pay_22 : decode b_CL_pay 22 = .ok (.aload_n 0, 1) := by decide +kernel
theorem d_CL_pay_23 : decode b_CL_pay 23 = .ok (.getfield 10, 3) := by decide +kernel
theorem d_CL_pay_26 : decode b_CL_pay 26 = .ok (.iconst 0, 1) := by decide +kernel
theorem d_CL_pay_27 : decode b_CL_pay 27 = .ok (.putfield 68, 3) := by decide +kernel
theorem d_CL_pay_30 : decode b_CL_pay 30 = .ok (.iload_n 1, 1) := by decide +kernel
theorem d_CL_pay_31 : decode b_CL_pay 31 = .ok (.ireturn, 1) := by decide +kernel
theorem d_CL_pooled_0 : decode b_CL_pooled 0 = .ok (.iload_n 2, 1) := by decide +kernel
theorem d_CL_pooled_1 : decode b_CL_pooled 1 = .ok (.ifCond .lt 8, 3) := by decide +kernel
theorem d_CL_pooled_4 : decode b_CL_pooled 4 = .ok (.iload_n 2, 1) := by decide +kernel
theorem d_CL_pooled_5 : decode b_CL_pooled 5 = .ok (.iconst 3, 1) := by decide +kernel
theorem d_CL_pooled_6 : decode b_CL_pooled 6 = .ok (.if_icmp .le 5, 3) := by decide +kernel
theorem d_CL_pooled_9 : decode b_CL_pooled 9 = .ok (.iconst (-1), 1) := by decide +kernel
theorem d_CL_pooled_10 : decode b_CL_pooled 10 = .ok (.ireturn, 1) := by decide +kernel
theorem d_CL_pooled_11 : decode b_CL_pooled 11 = .ok (.iload_n 1, 1) := by decide +kernel
theorem d_CL_pooled_12 : decode b_CL_pooled 12 = .ok (.ifCond .lt 17, 3) := by decide +kernel
theorem d_CL_pooled_15 : decode b_CL_pooled 15 = .ok (.iload_n 1, 1) := by decide +kernel
theorem d_CL_pooled_16 : decode b_CL_pooled 16 = .ok (.aload_n 0, 1) := by decide +kernel
theorem d_CL_pooled_17 : decode b_CL_pooled 17 = .ok (.getfield 53, 3) := by decide +kernel
theorem d_CL_pooled_20 : decode b_CL_pooled 20 = .ok (.getfield 121, 3) := by decide +kernel
theorem d_CL_pooled_23 : decode b_CL_pooled 23 = .ok (.invokevirtual 170, 3) := by decide +kernel
theorem d_CL_pooled_26 : decode b_CL_pooled 26 = .ok (.if_icmp .lt 6, 3) := by decide +kernel
theorem d_CL_pooled_29 : decode b_CL_pooled 29 = .ok (.bipush (-2), 2) := by decide +kernel
theorem d_CL_pooled_31 : decode b_CL_pooled 31 = .ok (.ireturn, 1) := by decide +kernel
theorem d_CL_putNumber_0 : decode b_CL_putNumber 0 = .ok (.aload_n 0, 1) := by decide +kernel
theorem d_CL_putNumber_1 : decode b_CL_putNumber 1 = .ok (.iload_n 1, 1) := by decide +kernel
theorem d_CL_putNumber_2 : decode b_CL_putNumber 2 = .ok (.iload_n 2, 1) := by decide +kernel
theorem d_CL_putNumber_3 : decode b_CL_putNumber 3 = .ok (.bipush 24, 2) := by decide +kernel
theorem d_CL_putNumber_5 : decode b_CL_putNumber 5 = .ok (.ishr, 1) := by decide +kernel
theorem d_CL_putNumber_6 : decode b_CL_putNumber 6 = .ok (.i2b, 1) := by decide +kernel
theorem d_CL_putNumber_7 : decode b_CL_putNumber 7 = .ok (.bastore, 1) := by decide +kernel
theorem d_CL_putNumber_8 : decode b_CL_putNumber 8 = .ok (.aload_n 0, 1) := by decide +kernel
theorem d_CL_putNumber_9 : decode b_CL_putNumber 9 = .ok (.iload_n 1, 1) := by decide +kernel
theorem d_CL_putNumber_10 : decode b_CL_putNumber 10 = .ok (.iconst 1, 1) := by decide +kernel
theorem d_CL_putNumber_11 : decode b_CL_putNumber 11 = .ok (.iadd, 1) := by decide +kernel
theorem d_CL_putNumber_12 : decode b_CL_putNumber 12 = .ok (.iload_n 2, 1) := by decide +kernel
theorem d_CL_putNumber_13 : decode b_CL_putNumber 13 = .ok (.bipush 16, 2) := by decide +kernel
theorem d_CL_putNumber_15 : decode b_CL_putNumber 15 = .ok (.ishr, 1) := by decide +kernel
theorem d_CL_putNumber_16 : decode b_CL_putNumber 16 = .ok (.i2b, 1) := by decide +kernel
theorem d_CL_putNumber_17 : decode b_CL_putNumber 17 = .ok (.bastore, 1) := by decide +kernel
theorem d_CL_putNumber_18 : decode b_CL_putNumber 18 = .ok (.aload_n 0, 1) := by decide +kernel
theorem d_CL_putNumber_19 : decode b_CL_putNumber 19 = .ok (.iload_n 1, 1) := by decide +kernel
theorem d_CL_putNumber_20 : decode b_CL_putNumber 20 = .ok (.iconst 2, 1) := by decide +kernel
theorem d_CL_putNumber_21 : decode b_CL_putNumber 21 = .ok (.iadd, 1) := by decide +kernel
theorem d_CL_putNumber_22 : decode b_CL_putNumber 22 = .ok (.iload_n 2, 1) := by decide +kernel
theorem d_CL_putNumber_23 : decode b_CL_putNumber 23 = .ok (.bipush 8, 2) := by decide +kernel
theorem d_CL_putNumber_25 : decode b_CL_putNumber 25 = .ok (.ishr, 1) := by decide +kernel
theorem d_CL_putNumber_26 : decode b_CL_putNumber 26 = .ok (.i2b, 1) := by decide +kernel
theorem d_CL_putNumber_27 : decode b_CL_putNumber 27 = .ok (.bastore, 1) := by decide +kernel
theorem d_CL_putNumber_28 : decode b_CL_putNumber 28 = .ok (.aload_n 0, 1) := by decide +kernel
theorem d_CL_putNumber_29 : decode b_CL_putNumber 29 = .ok (.iload_n 1, 1) := by decide +kernel
theorem d_CL_putNumber_30 : decode b_CL_putNumber 30 = .ok (.iconst 3, 1) := by decide +kernel
theorem d_CL_putNumber_31 : decode b_CL_putNumber 31 = .ok (.iadd, 1) := by decide +kernel
theorem d_CL_putNumber_32 : decode b_CL_putNumber 32 = .ok (.iload_n 2, 1) := by decide +kernel
theorem d_CL_putNumber_33 : decode b_CL_putNumber 33 = .ok (.i2b, 1) := by decide +kernel
theorem d_CL_putNumber_34 : decode b_CL_putNumber 34 = .ok (.bastore, 1) := by decide +kernel
theorem d_CL_putNumber_35 : decode b_CL_putNumber 35 = .ok (.return_, 1) := by decide +kernel
theorem d_CL_putRoot_0 : decode b_CL_putRoot 0 = .ok (.aload_n 0, 1) := by decide +kernel
theorem d_CL_putRoot_1 : decode b_CL_putRoot 1 = .ok (.getfield 26, 3) := by decide +kernel
theorem d_CL_putRoot_4 : decode b_CL_putRoot 4 = .ok (.aload_n 0, 1) := by decide +kernel
theorem d_CL_putRoot_5 : decode b_CL_putRoot 5 = .ok (.getfield 16, 3) := by decide +kernel
theorem d_CL_putRoot_8 : decode b_CL_putRoot 8 = .ok (.getfield 75, 3) := by decide +kernel
theorem d_CL_putRoot_11 : decode b_CL_putRoot 11 = .ok (.bipush 77, 2) := by decide +kernel
theorem d_CL_putRoot_13 : decode b_CL_putRoot 13 = .ok (.bipush 17, 2) := by decide +kernel
theorem d_CL_putRoot_15 : decode b_CL_putRoot 15 = .ok (.iconst 2, 1) := by decide +kernel
theorem d_CL_putRoot_16 : decode b_CL_putRoot 16 = .ok (.aload_n 0, 1) := by decide +kernel
theorem d_CL_putRoot_17 : decode b_CL_putRoot 17 = .ok (.getfield 44, 3) := by decide +kernel
theorem d_CL_putRoot_20 : decode b_CL_putRoot 20 = .ok (.getfield 288, 3) := by decide +kernel
theorem d_CL_putRoot_23 : decode b_CL_putRoot 23 = .ok (.iconst 0, 1) := by decide +kernel
theorem d_CL_putRoot_24 : decode b_CL_putRoot 24 = .ok (.invokevirtual 146, 3) := by decide +kernel
theorem d_CL_putRoot_27 : decode b_CL_putRoot 27 = .ok (.aload_n 0, 1) := by decide +kernel
theorem d_CL_putRoot_28 : decode b_CL_putRoot 28 = .ok (.aload_n 0, 1) := by decide +kernel
theorem d_CL_putRoot_29 : decode b_CL_putRoot 29 = .ok (.getfield 53, 3) := by decide +kernel
theorem d_CL_putRoot_32 : decode b_CL_putRoot 32 = .ok (.iload_n 1, 1) := by decide +kernel
theorem d_CL_putRoot_33 : decode b_CL_putRoot 33 = .ok (.aload_n 0, 1) := by decide +kernel
theorem d_CL_putRoot_34 : decode b_CL_putRoot 34 = .ok (.getfield 44, 3) := by decide +kernel
theorem d_CL_putRoot_37 : decode b_CL_putRoot 37 = .ok (.getfield 288, 3) := by decide +kernel
theorem d_CL_putRoot_40 : decode b_CL_putRoot 40 = .ok (.invokevirtual 291, 3) := by decide +kernel
theorem d_CL_putRoot_43 : decode b_CL_putRoot 43 = .ok (.ifCond .ne 7, 3) := by decide +kernel
theorem d_CL_putRoot_46 : decode b_CL_putRoot 46 = .ok (.iconst 1, 1) := by decide +kernel
theorem d_CL_putRoot_47 : decode b_CL_putRoot 47 = .ok (.goto 4, 3) := by decide +kernel
theorem d_CL_putRoot_51 : decode b_CL_putRoot 51 = .ok (.putfield 150, 3) := by decide +kernel
theorem d_CL_putRoot_54 : decode b_CL_putRoot 54 = .ok (.iconst 0, 1) := by decide +kernel
theorem d_CL_putRoot_55 : decode b_CL_putRoot 55 = .ok (.istore_n 2, 1) := by decide +kernel
theorem d_CL_putRoot_56 : decode b_CL_putRoot 56 = .ok (.iload_n 2, 1) := by decide +kernel
theorem d_CL_putRoot_57 : decode b_CL_putRoot 57 = .ok (.iload_n 1, 1) := by decide +kernel
theorem d_CL_putRoot_58 : decode b_CL_putRoot 58 = .ok (.if_icmp .ge 59, 3) := by decide +kernel
theorem d_CL_putRoot_117 : decode b_CL_putRoot 117 = .ok (.aload_n 0, 1) := by decide +kernel
theorem d_CL_putRoot_118 : decode b_CL_putRoot 118 = .ok (.getfield 26, 3) := by decide +kernel
theorem d_CL_putRoot_121 : decode b_CL_putRoot 121 = .ok (.aload_n 0, 1) := by decide +kernel
theorem d_CL_putRoot_122 : decode b_CL_putRoot 122 = .ok (.getfield 44, 3) := by decide +kernel
theorem d_CL_putRoot_125 : decode b_CL_putRoot 125 = .ok (.getfield 288, 3) := by decide +kernel
theorem d_CL_putRoot_128 : decode b_CL_putRoot 128 = .ok (.iload_n 1, 1) := by decide +kernel
theorem d_CL_putRoot_129 : decode b_CL_putRoot 129 = .ok (.iconst 1, 1) := by decide +kernel
theorem d_CL_putRoot_130 : decode b_CL_putRoot 130 = .ok (.iadd, 1) := by decide +kernel
theorem d_CL_putRoot_131 : decode b_CL_putRoot 131 = .ok (.invokevirtual 295, 3) := by decide +kernel
theorem d_CL_putRoot_134 : decode b_CL_putRoot 134 = .ok (.aload_n 0, 1) := by decide +kernel
theorem d_CL_putRoot_135 : decode b_CL_putRoot 135 = .ok (.getfield 44, 3) := by decide +kernel
theorem d_CL_putRoot_138 : decode b_CL_putRoot 138 = .ok (.getfield 288, 3) := by decide +kernel
theorem d_CL_putRoot_141 : decode b_CL_putRoot 141 = .ok (.iconst 0, 1) := by decide +kernel
theorem d_CL_putRoot_142 : decode b_CL_putRoot 142 = .ok (.aload_n 0, 1) := by decide +kernel
theorem d_CL_putRoot_143 : decode b_CL_putRoot 143 = .ok (.getfield 16, 3) := by decide +kernel
theorem d_CL_putRoot_146 : decode b_CL_putRoot 146 = .ok (.getfield 75, 3) := by decide +kernel
theorem d_CL_putRoot_149 : decode b_CL_putRoot 149 = .ok (.bipush 32, 2) := by decide +kernel
theorem d_CL_putRoot_151 : decode b_CL_putRoot 151 = .ok (.bipush 32, 2) := by decide +kernel
theorem d_CL_putRoot_153 : decode b_CL_putRoot 153 = .ok (.invokestatic 207, 3) := by decide +kernel
theorem d_CL_putRoot_156 : decode b_CL_putRoot 156 = .ok (.return_, 1) := by decide +kernel
theorem d_CL_readOutPayment_0 : decode b_CL_readOutPayment 0 = .ok (.aload_n 0, 1) := by decide +kernel
theorem d_CL_readOutPayment_1 : decode b_CL_readOutPayment 1 = .ok (.getfield 19, 3) := by decide +kernel
theorem d_CL_readOutPayment_4 : decode b_CL_readOutPayment 4 = .ok (.iconst 2, 1) := by decide +kernel
theorem d_CL_readOutPayment_5 : decode b_CL_readOutPayment 5 = .ok (.if_icmp .ne 39, 3) := by decide +kernel
theorem d_CL_readOutPayment_44 : decode b_CL_readOutPayment 44 = .ok (.iconst 0, 1) := by decide +kernel
theorem d_CL_readOutPayment_45 : decode b_CL_readOutPayment 45 = .ok (.ireturn, 1) := by decide +kernel
theorem d_CL_rewardAt_0 : decode b_CL_rewardAt 0 = .ok (.iload_n 0, 1) := by decide +kernel
theorem d_CL_rewardAt_1 : decode b_CL_rewardAt 1 = .ok (.bipush 16, 2) := by decide +kernel
theorem d_CL_rewardAt_3 : decode b_CL_rewardAt 3 = .ok (.idiv, 1) := by decide +kernel
theorem d_CL_rewardAt_4 : decode b_CL_rewardAt 4 = .ok (.istore_n 1, 1) := by decide +kernel
theorem d_CL_rewardAt_5 : decode b_CL_rewardAt 5 = .ok (.iload_n 1, 1) := by decide +kernel
theorem d_CL_rewardAt_6 : decode b_CL_rewardAt 6 = .ok (.bipush 20, 2) := by decide +kernel
theorem d_CL_rewardAt_8 : decode b_CL_rewardAt 8 = .ok (.if_icmp .lt 7, 3) := by decide +kernel
theorem d_CL_rewardAt_15 : decode b_CL_rewardAt 15 = .ok (.ldc_w 303, 3) := by decide +kernel
theorem d_CL_rewardAt_18 : decode b_CL_rewardAt 18 = .ok (.iload_n 1, 1) := by decide +kernel
theorem d_CL_rewardAt_19 : decode b_CL_rewardAt 19 = .ok (.ishr, 1) := by decide +kernel
theorem d_CL_rewardAt_20 : decode b_CL_rewardAt 20 = .ok (.ireturn, 1) := by decide +kernel
theorem d_CL_script_0 : decode b_CL_script 0 = .ok (.aload_n 0, 1) := by decide +kernel
theorem d_CL_script_1 : decode b_CL_script 1 = .ok (.getfield 10, 3) := by decide +kernel
theorem d_CL_script_4 : decode b_CL_script 4 = .ok (.getfield 68, 3) := by decide +kernel
theorem d_CL_script_7 : decode b_CL_script 7 = .ok (.bipush 80, 2) := by decide +kernel
theorem d_CL_script_9 : decode b_CL_script 9 = .ok (.if_icmp .gt 10, 3) := by decide +kernel
theorem d_CL_script_12 : decode b_CL_script 12 = .ok (.aload_n 0, 1) := by decide +kernel
theorem d_CL_script_13 : decode b_CL_script 13 = .ok (.invokevirtual 193, 3) := by decide +kernel
theorem d_CL_script_16 : decode b_CL_script 16 = .ok (.ifCond .ne 5, 3) := by decide +kernel
theorem d_CL_script_19 : decode b_CL_script 19 = .ok (.iconst (-1), 1) := by decide +kernel
theorem d_CL_script_20 : decode b_CL_script 20 = .ok (.ireturn, 1) := by decide +kernel
theorem d_CL_send_0 : decode b_CL_send 0 = .ok (.aload_n 0, 1) := by decide +kernel
theorem d_CL_send_1 : decode b_CL_send 1 = .ok (.getfield 19, 3) := by decide +kernel
theorem d_CL_send_4 : decode b_CL_send 4 = .ok (.ifCond .ne 5, 3) := by decide +kernel
theorem d_CL_send_7 : decode b_CL_send 7 = .ok (.iconst (-1), 1) := by decide +kernel
theorem d_CL_send_8 : decode b_CL_send 8 = .ok (.ireturn, 1) := by decide +kernel
theorem d_CL_sign_0 : decode b_CL_sign 0 = .ok (.aload_n 0, 1) := by decide +kernel
theorem d_CL_sign_1 : decode b_CL_sign 1 = .ok (.invokevirtual 193, 3) := by decide +kernel
