theorem d_CL_sign_4 : decode b_CL_sign 4 = .ok (.ifCond .eq 18, 3) := by decide +kernel
theorem d_CL_sign_22 : decode b_CL_sign 22 = .ok (.iconst (-1), 1) := by decide +kernel
theorem d_CL_sign_23 : decode b_CL_sign 23 = .ok (.ireturn, 1) := by decide +kernel
theorem d_CL_spend_0 : decode b_CL_spend 0 = .ok (.iload_n 2, 1) := by decide +kernel
theorem d_CL_spend_1 : decode b_CL_spend 1 = .ok (.iconst 1, 1) := by decide +kernel
theorem d_CL_spend_2 : decode b_CL_spend 2 = .ok (.if_icmp .lt 19, 3) := by decide +kernel
theorem d_CL_spend_5 : decode b_CL_spend 5 = .ok (.iload_n 2, 1) := by decide +kernel
theorem d_CL_spend_6 : decode b_CL_spend 6 = .ok (.bipush 8, 2) := by decide +kernel
theorem d_CL_spend_8 : decode b_CL_spend 8 = .ok (.if_icmp .gt 13, 3) := by decide +kernel
theorem d_CL_spend_11 : decode b_CL_spend 11 = .ok (.iload 4, 2) := by decide +kernel
theorem d_CL_spend_13 : decode b_CL_spend 13 = .ok (.ifCond .lt 8, 3) := by decide +kernel
theorem d_CL_spend_16 : decode b_CL_spend 16 = .ok (.iload 5, 2) := by decide +kernel
theorem d_CL_spend_18 : decode b_CL_spend 18 = .ok (.ifCond .ge 5, 3) := by decide +kernel
theorem d_CL_spend_21 : decode b_CL_spend 21 = .ok (.iconst (-1), 1) := by decide +kernel
theorem d_CL_spend_22 : decode b_CL_spend 22 = .ok (.ireturn, 1) := by decide +kernel
theorem d_CL_spend_23 : decode b_CL_spend 23 = .ok (.iload_n 1, 1) := by decide +kernel
theorem d_CL_spend_24 : decode b_CL_spend 24 = .ok (.ifCond .lt 22, 3) := by decide +kernel
theorem d_CL_spend_27 : decode b_CL_spend 27 = .ok (.iload_n 1, 1) := by decide +kernel
theorem d_CL_spend_28 : decode b_CL_spend 28 = .ok (.aload_n 0, 1) := by decide +kernel
theorem d_CL_spend_29 : decode b_CL_spend 29 = .ok (.getfield 44, 3) := by decide +kernel
theorem d_CL_spend_32 : decode b_CL_spend 32 = .ok (.getfield 161, 3) := by decide +kernel
theorem d_CL_spend_35 : decode b_CL_spend 35 = .ok (.getfield 165, 3) := by decide +kernel
theorem d_CL_spend_38 : decode b_CL_spend 38 = .ok (.invokevirtual 170, 3) := by decide +kernel
theorem d_CL_spend_41 : decode b_CL_spend 41 = .ok (.iload_n 2, 1) := by decide +kernel
theorem d_CL_spend_42 : decode b_CL_spend 42 = .ok (.isub, 1) := by decide +kernel
theorem d_CL_spend_43 : decode b_CL_spend 43 = .ok (.if_icmp .le 5, 3) := by decide +kernel
theorem d_CL_spend_46 : decode b_CL_spend 46 = .ok (.iconst (-1), 1) := by decide +kernel
theorem d_CL_spend_47 : decode b_CL_spend 47 = .ok (.ireturn, 1) := by decide +kernel
theorem d_CL_stored_0 : decode b_CL_stored 0 = .ok (.iload_n 2, 1) := by decide +kernel
theorem d_CL_stored_1 : decode b_CL_stored 1 = .ok (.ifCond .lt 8, 3) := by decide +kernel
theorem d_CL_stored_4 : decode b_CL_stored 4 = .ok (.iload_n 2, 1) := by decide +kernel
theorem d_CL_stored_5 : decode b_CL_stored 5 = .ok (.iconst 5, 1) := by decide +kernel
theorem d_CL_stored_6 : decode b_CL_stored 6 = .ok (.if_icmp .le 5, 3) := by decide +kernel
theorem d_CL_stored_9 : decode b_CL_stored 9 = .ok (.iconst (-1), 1) := by decide +kernel
theorem d_CL_stored_10 : decode b_CL_stored 10 = .ok (.ireturn, 1) := by decide +kernel
theorem d_CL_stored_11 : decode b_CL_stored 11 = .ok (.aload_n 0, 1) := by decide +kernel
theorem d_CL_stored_12 : decode b_CL_stored 12 = .ok (.getfield 44, 3) := by decide +kernel
theorem d_CL_stored_15 : decode b_CL_stored 15 = .ok (.iload_n 1, 1) := by decide +kernel
theorem d_CL_stored_16 : decode b_CL_stored 16 = .ok (.invokevirtual 93, 3) := by decide +kernel
theorem d_CL_stored_19 : decode b_CL_stored 19 = .ok (.astore_n 3, 1) := by decide +kernel
theorem d_CL_stored_20 : decode b_CL_stored 20 = .ok (.aload_n 3, 1) := by decide +kernel
theorem d_CL_stored_21 : decode b_CL_stored 21 = .ok (.ifnonnull 6, 3) := by decide +kernel
theorem d_CL_stored_24 : decode b_CL_stored 24 = .ok (.bipush (-2), 2) := by decide +kernel
theorem d_CL_stored_26 : decode b_CL_stored 26 = .ok (.ireturn, 1) := by decide +kernel
theorem d_CL_stored_27 : decode b_CL_stored 27 = .ok (.iload_n 2, 1) := by decide +kernel
theorem d_CL_stored_28 : decode b_CL_stored 28 = .ok (.tableswitch 76 0 4 #[36, 41, 61, 66, 71], 36) := by decide +kernel
theorem d_CL_stored_64 : decode b_CL_stored 64 = .ok (.aload_n 3, 1) := by decide +kernel
theorem d_CL_stored_65 : decode b_CL_stored 65 = .ok (.getfield 108, 3) := by decide +kernel
theorem d_CL_stored_68 : decode b_CL_stored 68 = .ok (.ireturn, 1) := by decide +kernel
theorem d_CL_stored_69 : decode b_CL_stored 69 = .ok (.aload_n 3, 1) := by decide +kernel
theorem d_CL_stored_70 : decode b_CL_stored 70 = .ok (.getfield 236, 3) := by decide +kernel
theorem d_CL_stored_73 : decode b_CL_stored 73 = .ok (.ifnonnull 8, 3) := by decide +kernel
theorem d_CL_stored_76 : decode b_CL_stored 76 = .ok (.bipush (-2), 2) := by decide +kernel
theorem d_CL_stored_78 : decode b_CL_stored 78 = .ok (.goto 10, 3) := by decide +kernel
theorem d_CL_stored_88 : decode b_CL_stored 88 = .ok (.ireturn, 1) := by decide +kernel
theorem d_CL_stored_89 : decode b_CL_stored 89 = .ok (.aload_n 3, 1) := by decide +kernel
theorem d_CL_stored_90 : decode b_CL_stored 90 = .ok (.getfield 239, 3) := by decide +kernel
theorem d_CL_stored_93 : decode b_CL_stored 93 = .ok (.ireturn, 1) := by decide +kernel
theorem d_CL_stored_94 : decode b_CL_stored 94 = .ok (.aload_n 3, 1) := by decide +kernel
theorem d_CL_stored_95 : decode b_CL_stored 95 = .ok (.getfield 242, 3) := by decide +kernel
theorem d_CL_stored_98 : decode b_CL_stored 98 = .ok (.ireturn, 1) := by decide +kernel
theorem d_CL_stored_99 : decode b_CL_stored 99 = .ok (.aload_n 3, 1) := by decide +kernel
theorem d_CL_stored_100 : decode b_CL_stored 100 = .ok (.getfield 245, 3) := by decide +kernel
theorem d_CL_stored_103 : decode b_CL_stored 103 = .ok (.ireturn, 1) := by decide +kernel
theorem d_CL_stored_104 : decode b_CL_stored 104 = .ok (.aload_n 3, 1) := by decide +kernel
theorem d_CL_stored_105 : decode b_CL_stored 105 = .ok (.getfield 248, 3) := by decide +kernel
theorem d_CL_stored_108 : decode b_CL_stored 108 = .ok (.ifCond .eq 7, 3) := by decide +kernel
theorem d_CL_stored_111 : decode b_CL_stored 111 = .ok (.iconst 1, 1) := by decide +kernel
theorem d_CL_stored_112 : decode b_CL_stored 112 = .ok (.goto 4, 3) := by decide +kernel
theorem d_CL_stored_116 : decode b_CL_stored 116 = .ok (.ireturn, 1) := by decide +kernel
theorem d_CL_tip_0 : decode b_CL_tip 0 = .ok (.iload_n 1, 1) := by decide +kernel
theorem d_CL_tip_1 : decode b_CL_tip 1 = .ok (.tableswitch 86 0 3 #[31, 43, 55, 66], 31) := by decide +kernel
theorem d_CL_tip_32 : decode b_CL_tip 32 = .ok (.aload_n 0, 1) := by decide +kernel
theorem d_CL_tip_33 : decode b_CL_tip 33 = .ok (.getfield 44, 3) := by decide +kernel
theorem d_CL_tip_36 : decode b_CL_tip 36 = .ok (.getfield 89, 3) := by decide +kernel
theorem d_CL_tip_39 : decode b_CL_tip 39 = .ok (.getfield 108, 3) := by decide +kernel
theorem d_CL_tip_42 : decode b_CL_tip 42 = .ok (.i2l, 1) := by decide +kernel
theorem d_CL_tip_43 : decode b_CL_tip 43 = .ok (.lreturn, 1) := by decide +kernel
theorem d_CL_tip_44 : decode b_CL_tip 44 = .ok (.aload_n 0, 1) := by decide +kernel
theorem d_CL_tip_45 : decode b_CL_tip 45 = .ok (.getfield 44, 3) := by decide +kernel
theorem d_CL_tip_48 : decode b_CL_tip 48 = .ok (.getfield 89, 3) := by decide +kernel
theorem d_CL_tip_51 : decode b_CL_tip 51 = .ok (.getfield 224, 3) := by decide +kernel
theorem d_CL_tip_54 : decode b_CL_tip 54 = .ok (.i2l, 1) := by decide +kernel
theorem d_CL_tip_55 : decode b_CL_tip 55 = .ok (.lreturn, 1) := by decide +kernel
theorem d_CL_tip_56 : decode b_CL_tip 56 = .ok (.aload_n 0, 1) := by decide +kernel
theorem d_CL_tip_57 : decode b_CL_tip 57 = .ok (.getfield 44, 3) := by decide +kernel
theorem d_CL_tip_60 : decode b_CL_tip 60 = .ok (.getfield 89, 3) := by decide +kernel
theorem d_CL_tip_63 : decode b_CL_tip 63 = .ok (.getfield 227, 3) := by decide +kernel
theorem d_CL_tip_66 : decode b_CL_tip 66 = .ok (.lreturn, 1) := by decide +kernel
theorem d_CL_tip_67 : decode b_CL_tip 67 = .ok (.aload_n 0, 1) := by decide +kernel
theorem d_CL_tip_68 : decode b_CL_tip 68 = .ok (.getfield 44, 3) := by decide +kernel
theorem d_CL_tip_71 : decode b_CL_tip 71 = .ok (.getfield 89, 3) := by decide +kernel
theorem d_CL_tip_74 : decode b_CL_tip 74 = .ok (.getfield 231, 3) := by decide +kernel
theorem d_CL_tip_77 : decode b_CL_tip 77 = .ok (.iconst 0, 1) := by decide +kernel
theorem d_CL_tip_78 : decode b_CL_tip 78 = .ok (.invokestatic 143, 3) := by decide +kernel
theorem d_CL_tip_81 : decode b_CL_tip 81 = .ok (.i2l, 1) := by decide +kernel
theorem d_CL_tip_82 : decode b_CL_tip 82 = .ok (.ldc2_w 232, 3) := by decide +kernel
theorem d_CL_tip_85 : decode b_CL_tip 85 = .ok (.land, 1) := by decide +kernel
theorem d_CL_tip_86 : decode b_CL_tip 86 = .ok (.lreturn, 1) := by decide +kernel
theorem d_CL_tip_87 : decode b_CL_tip 87 = .ok (.ldc2_w 234, 3) := by decide +kernel
theorem d_CL_tip_90 : decode b_CL_tip 90 = .ok (.lreturn, 1) := by decide +kernel
theorem d_CL_writeFirst_0 : decode b_CL_writeFirst 0 = .ok (.aload_n 0, 1) := by decide +kernel
theorem d_CL_writeFirst_1 : decode b_CL_writeFirst 1 = .ok (.getfield 16, 3) := by decide +kernel
theorem d_CL_writeFirst_4 : decode b_CL_writeFirst 4 = .ok (.iload_n 1, 1) := by decide +kernel
theorem d_CL_writeFirst_5 : decode b_CL_writeFirst 5 = .ok (.invokevirtual 71, 3) := by decide +kernel
theorem d_CL_writeFirst_8 : decode b_CL_writeFirst 8 = .ok (.aload_n 0, 1) := by decide +kernel
theorem d_CL_writeFirst_9 : decode b_CL_writeFirst 9 = .ok (.getfield 16, 3) := by decide +kernel
theorem d_CL_writeFirst_12 : decode b_CL_writeFirst 12 = .ok (.iconst 0, 1) := by decide +kernel
theorem d_CL_writeFirst_13 : decode b_CL_writeFirst 13 = .ok (.invokevirtual 105, 3) := by decide +kernel
theorem d_CL_writeFirst_16 : decode b_CL_writeFirst 16 = .ok (.aload_n 0, 1) := by decide +kernel
theorem d_CL_writeFirst_17 : decode b_CL_writeFirst 17 = .ok (.getfield 16, 3) := by decide +kernel
theorem d_CL_writeFirst_20 : decode b_CL_writeFirst 20 = .ok (.iconst 1, 1) := by decide +kernel
theorem d_CL_writeFirst_21 : decode b_CL_writeFirst 21 = .ok (.invokevirtual 105, 3) := by decide +kernel
theorem d_CL_writeFirst_24 : decode b_CL_writeFirst 24 = .ok (.aload_n 0, 1) := by decide +kernel
theorem d_CL_writeFirst_25 : decode b_CL_writeFirst 25 = .ok (.getfield 16, 3) := by decide +kernel
theorem d_CL_writeFirst_28 : decode b_CL_writeFirst 28 = .ok (.iload_n 1, 1) := by decide +kernel
theorem d_CL_writeFirst_29 : decode b_CL_writeFirst 29 = .ok (.invokestatic 285, 3) := by decide +kernel
theorem d_CL_writeFirst_32 : decode b_CL_writeFirst 32 = .ok (.i2l, 1) := by decide +kernel
theorem d_CL_writeFirst_33 : decode b_CL_writeFirst 33 = .ok (.lload_n 2, 1) := by decide +kernel
theorem d_CL_writeFirst_34 : decode b_CL_writeFirst 34 = .ok (.ladd, 1) := by decide +kernel
theorem d_CL_writeFirst_35 : decode b_CL_writeFirst 35 = .ok (.l2i, 1) := by decide +kernel
theorem d_CL_writeFirst_36 : decode b_CL_writeFirst 36 = .ok (.iload 4, 2) := by decide +kernel
theorem d_CL_writeFirst_38 : decode b_CL_writeFirst 38 = .ok (.invokevirtual 189, 3) := by decide +kernel
theorem d_CL_writeFirst_41 : decode b_CL_writeFirst 41 = .ok (.return_, 1) := by decide +kernel
theorem d_CL_writeHeader_0 : decode b_CL_writeHeader 0 = .ok (.aload_n 0, 1) := by decide +kernel
theorem d_CL_writeHeader_1 : decode b_CL_writeHeader 1 = .ok (.getfield 16, 3) := by decide +kernel
theorem d_CL_writeHeader_4 : decode b_CL_writeHeader 4 = .ok (.aload_n 1, 1) := by decide +kernel
theorem d_CL_writeHeader_5 : decode b_CL_writeHeader 5 = .ok (.getfield 231, 3) := by decide +kernel
theorem d_CL_writeHeader_8 : decode b_CL_writeHeader 8 = .ok (.iconst 0, 1) := by decide +kernel
theorem d_CL_writeHeader_9 : decode b_CL_writeHeader 9 = .ok (.bipush 32, 2) := by decide +kernel
theorem d_CL_writeHeader_11 : decode b_CL_writeHeader 11 = .ok (.invokevirtual 136, 3) := by decide +kernel
theorem d_CL_writeHeader_14 : decode b_CL_writeHeader 14 = .ok (.aload_n 0, 1) := by decide +kernel
theorem d_CL_writeHeader_15 : decode b_CL_writeHeader 15 = .ok (.getfield 16, 3) := by decide +kernel
theorem d_CL_writeHeader_18 : decode b_CL_writeHeader 18 = .ok (.aload_n 1, 1) := by decide +kernel
theorem d_CL_writeHeader_19 : decode b_CL_writeHeader 19 = .ok (.getfield 231, 3) := by decide +kernel
theorem d_CL_writeHeader_22 : decode b_CL_writeHeader 22 = .ok (.iconst 0, 1) := by decide +kernel
theorem d_CL_writeHeader_23 : decode b_CL_writeHeader 23 = .ok (.bipush 32, 2) := by decide +kernel
theorem d_CL_writeHeader_25 : decode b_CL_writeHeader 25 = .ok (.invokevirtual 136, 3) := by decide +kernel
theorem d_CL_writeHeader_28 : decode b_CL_writeHeader 28 = .ok (.aload_n 0, 1) := by decide +kernel
theorem d_CL_writeHeader_29 : decode b_CL_writeHeader 29 = .ok (.getfield 16, 3) := by decide +kernel
theorem d_CL_writeHeader_32 : decode b_CL_writeHeader 32 = .ok (.iload_n 2, 1) := by decide +kernel
theorem d_CL_writeHeader_33 : decode b_CL_writeHeader 33 = .ok (.invokevirtual 71, 3) := by decide +kernel
theorem d_CL_writeHeader_36 : decode b_CL_writeHeader 36 = .ok (.aload_n 0, 1) := by decide +kernel
theorem d_CL_writeHeader_37 : decode b_CL_writeHeader 37 = .ok (.getfield 16, 3) := by decide +kernel
theorem d_CL_writeHeader_40 : decode b_CL_writeHeader 40 = .ok (.aload_n 0, 1) := by decide +kernel
theorem d_CL_writeHeader_41 : decode b_CL_writeHeader 41 = .ok (.getfield 44, 3) := by decide +kernel
theorem d_CL_writeHeader_44 : decode b_CL_writeHeader 44 = .ok (.aload_n 1, 1) := by decide +kernel
theorem d_CL_writeHeader_45 : decode b_CL_writeHeader 45 = .ok (.invokevirtual 281, 3) := by decide +kernel
theorem d_CL_writeHeader_48 : decode b_CL_writeHeader 48 = .ok (.invokevirtual 71, 3) := by decide +kernel
theorem d_CL_writeHeader_51 : decode b_CL_writeHeader 51 = .ok (.aload_n 0, 1) := by decide +kernel
theorem d_CL_writeHeader_52 : decode b_CL_writeHeader 52 = .ok (.getfield 16, 3) := by decide +kernel
theorem d_CL_writeHeader_55 : decode b_CL_writeHeader 55 = .ok (.iconst 0, 1) := by decide +kernel
theorem d_CL_writeHeader_56 : decode b_CL_writeHeader 56 = .ok (.invokevirtual 71, 3) := by decide +kernel
theorem d_CL_writeHeader_59 : decode b_CL_writeHeader 59 = .ok (.return_, 1) := by decide +kernel
theorem d_Chain_dueTarget_0 : decode b_Chain_dueTarget 0 = .ok (.aload_n 1, 1) := by decide +kernel
theorem d_Chain_dueTarget_1 : decode b_Chain_dueTarget 1 = .ok (.getfield 156, 3) := by decide +kernel
theorem d_Chain_dueTarget_4 : decode b_Chain_dueTarget 4 = .ok (.iconst 1, 1) := by decide +kernel
theorem d_Chain_dueTarget_5 : decode b_Chain_dueTarget 5 = .ok (.iadd, 1) := by decide +kernel
theorem d_Chain_dueTarget_6 : decode b_Chain_dueTarget 6 = .ok (.bipush 8, 2) := by decide +kernel
theorem d_Chain_dueTarget_8 : decode b_Chain_dueTarget 8 = .ok (.irem, 1) := by decide +kernel
theorem d_Chain_dueTarget_9 : decode b_Chain_dueTarget 9 = .ok (.ifCond .eq 8, 3) := by decide +kernel
theorem d_Chain_dueTarget_12 : decode b_Chain_dueTarget 12 = .ok (.aload_n 1, 1) := by decide +kernel
theorem d_Chain_dueTarget_13 : decode b_Chain_dueTarget 13 = .ok (.getfield 55, 3) := by decide +kernel
theorem d_Chain_dueTarget_16 : decode b_Chain_dueTarget 16 = .ok (.ireturn, 1) := by decide +kernel
theorem d_Chain_init_0 : decode b_Chain_init 0 = .ok (.aload_n 0, 1) := by decide +kernel
theorem d_Chain_init_1 : decode b_Chain_init 1 = .ok (.invokespecial 3, 3) := by decide +kernel
theorem d_Chain_init_4 : decode b_Chain_init 4 = .ok (.aload_n 0, 1) := by decide +kernel
theorem d_Chain_init_5 : decode b_Chain_init 5 = .ok (.new 9, 3) := by decide +kernel
theorem d_Chain_init_8 : decode b_Chain_init 8 = .ok (.dup, 1) := by decide +kernel
theorem d_Chain_init_9 : decode b_Chain_init 9 = .ok (.invokespecial 11, 3) := by decide +kernel
theorem d_Chain_init_12 : decode b_Chain_init 12 = .ok (.putfield 12, 3) := by decide +kernel
theorem d_Chain_init_15 : decode b_Chain_init 15 = .ok (.aload_n 0, 1) := by decide +kernel
theorem d_Chain_init_16 : decode b_Chain_init 16 = .ok (.sipush 256, 3) := by decide +kernel
theorem d_Chain_init_19 : decode b_Chain_init 19 = .ok (.anewarray 18, 3) := by decide +kernel
theorem d_Chain_init_22 : decode b_Chain_init 22 = .ok (.putfield 20, 3) := by decide +kernel
theorem d_Chain_init_25 : decode b_Chain_init 25 = .ok (.aload_n 0, 1) := by decide +kernel
theorem d_Chain_init_26 : decode b_Chain_init 26 = .ok (.new 24, 3) := by decide +kernel
theorem d_Chain_init_29 : decode b_Chain_init 29 = .ok (.dup, 1) := by decide +kernel
theorem d_Chain_init_30 : decode b_Chain_init 30 = .ok (.invokespecial 26, 3) := by decide +kernel
theorem d_Chain_init_33 : decode b_Chain_init 33 = .ok (.putfield 27, 3) := by decide +kernel
theorem d_Chain_init_36 : decode b_Chain_init 36 = .ok (.aload_n 0, 1) := by decide +kernel
theorem d_Chain_init_37 : decode b_Chain_init 37 = .ok (.sipush 1024, 3) := by decide +kernel
theorem d_Chain_init_40 : decode b_Chain_init 40 = .ok (.newarray .byte, 2) := by decide +kernel
theorem d_Chain_init_42 : decode b_Chain_init 42 = .ok (.putfield 31, 3) := by decide +kernel
theorem d_Chain_init_45 : decode b_Chain_init 45 = .ok (.aload_n 0, 1) := by decide +kernel
theorem d_Chain_init_46 : decode b_Chain_init 46 = .ok (.sipush 256, 3) := by decide +kernel
theorem d_Chain_init_49 : decode b_Chain_init 49 = .ok (.anewarray 18, 3) := by decide +kernel
theorem d_Chain_init_52 : decode b_Chain_init 52 = .ok (.putfield 35, 3) := by decide +kernel
theorem d_Chain_init_55 : decode b_Chain_init 55 = .ok (.aload_n 0, 1) := by decide +kernel
theorem d_Chain_init_56 : decode b_Chain_init 56 = .ok (.sipush 256, 3) := by decide +kernel
theorem d_Chain_init_59 : decode b_Chain_init 59 = .ok (.anewarray 18, 3) := by decide +kernel
theorem d_Chain_init_62 : decode b_Chain_init 62 = .ok (.putfield 38, 3) := by decide +kernel
theorem d_Chain_init_65 : decode b_Chain_init 65 = .ok (.aload_n 0, 1) := by decide +kernel
theorem d_Chain_init_66 : decode b_Chain_init 66 = .ok (.bipush 7, 2) := by decide +kernel
theorem d_Chain_init_68 : decode b_Chain_init 68 = .ok (.newarray .int, 2) := by decide +kernel
theorem d_Chain_init_70 : decode b_Chain_init 70 = .ok (.putfield 41, 3) := by decide +kernel
theorem d_Chain_init_73 : decode b_Chain_init 73 = .ok (.aload_n 0, 1) := by decide +kernel
theorem d_Chain_init_74 : decode b_Chain_init 74 = .ok (.aload_n 1, 1) := by decide +kernel
theorem d_Chain_init_75 : decode b_Chain_init 75 = .ok (.putfield 45, 3) := by decide +kernel
theorem d_Chain_init_78 : decode b_Chain_init 78 = .ok (.aload_n 0, 1) := by decide +kernel
theorem d_Chain_init_79 : decode b_Chain_init 79 = .ok (.aload_n 2, 1) := by decide +kernel
theorem d_Chain_init_80 : decode b_Chain_init 80 = .ok (.putfield 49, 3) := by decide +kernel
theorem d_Chain_init_83 : decode b_Chain_init 83 = .ok (.new 18, 3) := by decide +kernel
theorem d_Chain_init_86 : decode b_Chain_init 86 = .ok (.dup, 1) := by decide +kernel
theorem d_Chain_init_87 : decode b_Chain_init 87 = .ok (.invokespecial 53, 3) := by decide +kernel
theorem d_Chain_init_90 : decode b_Chain_init 90 = .ok (.astore_n 3, 1) := by decide +kernel
theorem d_Chain_init_91 : decode b_Chain_init 91 = .ok (.aload_n 3, 1) := by decide +kernel
theorem d_Chain_init_92 : decode b_Chain_init 92 = .ok (.ldc 54, 2) := by decide +kernel
theorem d_Chain_init_94 : decode b_Chain_init 94 = .ok (.putfield 55, 3) := by decide +kernel
theorem d_Chain_init_97 : decode b_Chain_init 97 = .ok (.aload_n 3, 1) := by decide +kernel
theorem d_Chain_init_98 : decode b_Chain_init 98 = .ok (.iconst 1, 1) := by decide +kernel
theorem d_Chain_init_99 : decode b_Chain_init 99 = .ok (.putfield 59, 3) := by decide +kernel
theorem d_Chain_init_102 : decode b_Chain_init 102 = .ok (.aload_n 3, 1) := by decide +kernel
theorem d_Chain_init_103 : decode b_Chain_init 103 = .ok (.iconst 1, 1) := by decide +kernel
theorem d_Chain_init_104 : decode b_Chain_init 104 = .ok (.putfield 63, 3) := by decide +kernel
theorem d_Chain_init_107 : decode b_Chain_init 107 = .ok (.aload_n 0, 1) := by decide +kernel
theorem d_Chain_init_108 : decode b_Chain_init 108 = .ok (.getfield 20, 3) := by decide +kernel
theorem d_Chain_init_111 : decode b_Chain_init 111 = .ok (.iconst 0, 1) := by decide +kernel
theorem d_Chain_init_112 : decode b_Chain_init 112 = .ok (.aload_n 3, 1) := by decide +kernel
theorem d_Chain_init_113 : decode b_Chain_init 113 = .ok (.aastore, 1) := by decide +kernel
theorem d_Chain_init_114 : decode b_Chain_init 114 = .ok (.aload_n 0, 1) := by decide +kernel
theorem d_Chain_init_115 : decode b_Chain_init 115 = .ok (.iconst 1, 1) := by decide +kernel
theorem d_Chain_init_116 : decode b_Chain_init 116 = .ok (.putfield 66, 3) := by decide +kernel
theorem d_Chain_init_119 : decode b_Chain_init 119 = .ok (.aload_n 0, 1) := by decide +kernel
theorem d_Chain_init_120 : decode b_Chain_init 120 = .ok (.iconst 1, 1) := by decide +kernel
theorem d_Chain_init_121 : decode b_Chain_init 121 = .ok (.putfield 69, 3) := by decide +kernel
theorem d_Chain_init_124 : decode b_Chain_init 124 = .ok (.aload_n 0, 1) := by decide +kernel
theorem d_Chain_init_125 : decode b_Chain_init 125 = .ok (.aload_n 3, 1) := by decide +kernel
theorem d_Chain_init_126 : decode b_Chain_init 126 = .ok (.putfield 72, 3) := by decide +kernel
theorem d_Chain_init_129 : decode b_Chain_init 129 = .ok (.return_, 1) := by decide +kernel
theorem d_Chain_listLeft_0 : decode b_Chain_listLeft 0 = .ok (.aload_n 0, 1) := by decide +kernel
theorem d_Chain_listLeft_1 : decode b_Chain_listLeft 1 = .ok (.iconst 0, 1) := by decide +kernel
theorem d_Chain_listLeft_2 : decode b_Chain_listLeft 2 = .ok (.putfield 224, 3) := by decide +kernel
theorem d_Chain_listLeft_5 : decode b_Chain_listLeft 5 = .ok (.aload_n 1, 1) := by decide +kernel
theorem d_Chain_listLeft_6 : decode b_Chain_listLeft 6 = .ok (.astore_n 2, 1) := by decide +kernel
theorem d_Chain_listLeft_7 : decode b_Chain_listLeft 7 = .ok (.aload_n 2, 1) := by decide +kernel
theorem d_Chain_listLeft_8 : decode b_Chain_listLeft 8 = .ok (.ifnull 38, 3) := by decide +kernel
theorem d_Chain_listLeft_11 : decode b_Chain_listLeft 11 = .ok (.aload_n 2, 1) := by decide +kernel
theorem d_Chain_listLeft_12 : decode b_Chain_listLeft 12 = .ok (.getfield 63, 3) := by decide +kernel
theorem d_Chain_listLeft_15 : decode b_Chain_listLeft 15 = .ok (.ifCond .ne 31, 3) := by decide +kernel
theorem d_Chain_listLeft_46 : decode b_Chain_listLeft 46 = .ok (.return_, 1) := by decide +kernel
theorem d_Chain_numbered_0 : decode b_Chain_numbered 0 = .ok (.iload_n 1, 1) := by decide +kernel
theorem d_Chain_numbered_1 : decode b_Chain_numbered 1 = .ok (.ifCond .lt 11, 3) := by decide +kernel
theorem d_Chain_numbered_4 : decode b_Chain_numbered 4 = .ok (.iload_n 1, 1) := by decide +kernel
theorem d_Chain_numbered_5 : decode b_Chain_numbered 5 = .ok (.aload_n 0, 1) := by decide +kernel
theorem d_Chain_numbered_6 : decode b_Chain_numbered 6 = .ok (.getfield 66, 3) := by decide +kernel
theorem d_Chain_numbered_9 : decode b_Chain_numbered 9 = .ok (.if_icmp .lt 7, 3) := by decide +kernel
theorem d_Chain_numbered_12 : decode b_Chain_numbered 12 = .ok (.aconst_null, 1) := by decide +kernel
theorem d_Chain_numbered_13 : decode b_Chain_numbered 13 = .ok (.goto 9, 3) := by decide +kernel
theorem d_Chain_numbered_16 : decode b_Chain_numbered 16 = .ok (.aload_n 0, 1) := by decide +kernel
theorem d_Chain_numbered_17 : decode b_Chain_numbered 17 = .ok (.getfield 20, 3) := by decide +kernel
theorem d_Chain_numbered_20 : decode b_Chain_numbered 20 = .ok (.iload_n 1, 1) := by decide +kernel
theorem d_Chain_numbered_21 : decode b_Chain_numbered 21 = .ok (.aaload, 1) := by decide +kernel
theorem d_Chain_numbered_22 : decode b_Chain_numbered 22 = .ok (.areturn, 1) := by decide +kernel
theorem d_Chain_receive_0 : decode b_Chain_receive 0 = .ok (.aload_n 0, 1) := by decide +kernel
theorem d_Chain_receive_1 : decode b_Chain_receive 1 = .ok (.getfield 76, 3) := by decide +kernel
theorem d_Chain_receive_4 : decode b_Chain_receive 4 = .ok (.ifnonnull 14, 3) := by decide +kernel
theorem d_Chain_receive_7 : decode b_Chain_receive 7 = .ok (.aload_n 0, 1) := by decide +kernel
theorem d_Chain_receive_8 : decode b_Chain_receive 8 = .ok (.new 18, 3) := by decide +kernel
theorem d_Chain_receive_11 : decode b_Chain_receive 11 = .ok (.dup, 1) := by decide +kernel
theorem d_Chain_receive_12 : decode b_Chain_receive 12 = .ok (.invokespecial 53, 3) := by decide +kernel
theorem d_Chain_receive_15 : decode b_Chain_receive 15 = .ok (.putfield 76, 3) := by decide +kernel
theorem d_Chain_receive_18 : decode b_Chain_receive 18 = .ok (.aload_n 0, 1) := by decide +kernel
theorem d_Chain_receive_19 : decode b_Chain_receive 19 = .ok (.getfield 76, 3) := by decide +kernel
theorem d_Chain_receive_22 : decode b_Chain_receive 22 = .ok (.astore_n 3, 1) := by decide +kernel
theorem d_Chain_receive_23 : decode b_Chain_receive 23 = .ok (.aload_n 3, 1) := by decide +kernel
theorem d_Chain_receive_24 : decode b_Chain_receive 24 = .ok (.aload_n 1, 1) := by decide +kernel
theorem d_Chain_receive_25 : decode b_Chain_receive 25 = .ok (.iload_n 2, 1) := by decide +kernel
theorem d_Chain_receive_26 : decode b_Chain_receive 26 = .ok (.aload_n 0, 1) := by decide +kernel
theorem d_Chain_receive_27 : decode b_Chain_receive 27 = .ok (.getfield 45, 3) := by decide +kernel
theorem d_Chain_receive_30 : decode b_Chain_receive 30 = .ok (.aload_n 0, 1) := by decide +kernel
theorem d_Chain_receive_31 : decode b_Chain_receive 31 = .ok (.getfield 31, 3) := by decide +kernel
theorem d_Chain_receive_34 : decode b_Chain_receive 34 = .ok (.invokevirtual 79, 3) := by decide +kernel
theorem d_Chain_receive_37 : decode b_Chain_receive 37 = .ok (.ifCond .ne 6, 3) := by decide +kernel
theorem d_Chain_receive_40 : decode b_Chain_receive 40 = .ok (.bipush (-3), 2) := by decide +kernel
theorem d_Chain_receive_42 : decode b_Chain_receive 42 = .ok (.ireturn, 1) := by decide +kernel
theorem d_Chain_settle_0 : decode b_Chain_settle 0 = .ok (.aload_n 0, 1) := by decide +kernel
theorem d_Chain_settle_1 : decode b_Chain_settle 1 = .ok (.getfield 72, 3) := by decide +kernel
theorem d_Chain_settle_4 : decode b_Chain_settle 4 = .ok (.astore_n 1, 1) := by decide +kernel
theorem d_Chain_settle_5 : decode b_Chain_settle 5 = .ok (.aload_n 0, 1) := by decide +kernel
theorem d_Chain_settle_6 : decode b_Chain_settle 6 = .ok (.getfield 69, 3) := by decide +kernel
theorem d_Chain_settle_9 : decode b_Chain_settle 9 = .ok (.aload_n 0, 1) := by decide +kernel
theorem d_Chain_settle_10 : decode b_Chain_settle 10 = .ok (.getfield 66, 3) := by decide +kernel
theorem d_Chain_settle_13 : decode b_Chain_settle 13 = .ok (.if_icmp .ge 135, 3) := by decide +kernel
theorem d_Chain_settle_148 : decode b_Chain_settle 148 = .ok (.aload_n 0, 1) := by decide +kernel
theorem d_Chain_settle_149 : decode b_Chain_settle 149 = .ok (.aload_n 1, 1) := by decide +kernel
theorem d_Chain_settle_150 : decode b_Chain_settle 150 = .ok (.invokevirtual 215, 3) := by decide +kernel
theorem d_Chain_settle_153 : decode b_Chain_settle 153 = .ok (.return_, 1) := by decide +kernel
theorem d_Coins_init_0 : decode b_Coins_init 0 = .ok (.aload_n 0, 1) := by decide +kernel
theorem d_Coins_init_1 : decode b_Coins_init 1 = .ok (.invokespecial 3, 3) := by decide +kernel
theorem d_Coins_init_4 : decode b_Coins_init 4 = .ok (.aload_n 0, 1) := by decide +kernel
theorem d_Coins_init_5 : decode b_Coins_init 5 = .ok (.new 9, 3) := by decide +kernel
theorem d_Coins_init_8 : decode b_Coins_init 8 = .ok (.dup, 1) := by decide +kernel
theorem d_Coins_init_9 : decode b_Coins_init 9 = .ok (.invokespecial 11, 3) := by decide +kernel
theorem d_Coins_init_12 : decode b_Coins_init 12 = .ok (.putfield 12, 3) := by decide +kernel
theorem d_Coins_init_15 : decode b_Coins_init 15 = .ok (.return_, 1) := by decide +kernel
theorem d_Coins_total_0 : decode b_Coins_total 0 = .ok (.lconst 0, 1) := by decide +kernel
theorem d_Coins_total_1 : decode b_Coins_total 1 = .ok (.lstore_n 1, 1) := by decide +kernel
theorem d_Coins_total_2 : decode b_Coins_total 2 = .ok (.iconst 0, 1) := by decide +kernel
theorem d_Coins_total_3 : decode b_Coins_total 3 = .ok (.istore_n 3, 1) := by decide +kernel
theorem d_Coins_total_4 : decode b_Coins_total 4 = .ok (.iload_n 3, 1) := by decide +kernel
theorem d_Coins_total_5 : decode b_Coins_total 5 = .ok (.aload_n 0, 1) := by decide +kernel
theorem d_Coins_total_6 : decode b_Coins_total 6 = .ok (.getfield 12, 3) := by decide +kernel
theorem d_Coins_total_9 : decode b_Coins_total 9 = .ok (.invokevirtual 22, 3) := by decide +kernel
theorem d_Coins_total_12 : decode b_Coins_total 12 = .ok (.if_icmp .ge 27, 3) := by decide +kernel
theorem d_Coins_total_39 : decode b_Coins_total 39 = .ok (.lload_n 1, 1) := by decide +kernel
theorem d_Coins_total_40 : decode b_Coins_total 40 = .ok (.lreturn, 1) := by decide +kernel
theorem d_Judge_init_0 : decode b_Judge_init 0 = .ok (.aload_n 0, 1) := by decide +kernel
theorem d_Judge_init_1 : decode b_Judge_init 1 = .ok (.invokespecial 3, 3) := by decide +kernel
theorem d_Judge_init_4 : decode b_Judge_init 4 = .ok (.aload_n 0, 1) := by decide +kernel
theorem d_Judge_init_5 : decode b_Judge_init 5 = .ok (.new 9, 3) := by decide +kernel
theorem d_Judge_init_8 : decode b_Judge_init 8 = .ok (.dup, 1) := by decide +kernel
theorem d_Judge_init_9 : decode b_Judge_init 9 = .ok (.invokespecial 11, 3) := by decide +kernel
theorem d_Judge_init_12 : decode b_Judge_init 12 = .ok (.putfield 12, 3) := by decide +kernel
theorem d_Judge_init_15 : decode b_Judge_init 15 = .ok (.aload_n 0, 1) := by decide +kernel
theorem d_Judge_init_16 : decode b_Judge_init 16 = .ok (.bipush 8, 2) := by decide +kernel
theorem d_Judge_init_18 : decode b_Judge_init 18 = .ok (.anewarray 18, 3) := by decide +kernel
theorem d_Judge_init_21 : decode b_Judge_init 21 = .ok (.putfield 20, 3) := by decide +kernel
theorem d_Judge_init_24 : decode b_Judge_init 24 = .ok (.aload_n 0, 1) := by decide +kernel
theorem d_Judge_init_25 : decode b_Judge_init 25 = .ok (.aload_n 1, 1) := by decide +kernel
theorem d_Judge_init_26 : decode b_Judge_init 26 = .ok (.putfield 24, 3) := by decide +kernel
theorem d_Judge_init_29 : decode b_Judge_init 29 = .ok (.aload_n 0, 1) := by decide +kernel
theorem d_Judge_init_30 : decode b_Judge_init 30 = .ok (.new 28, 3) := by decide +kernel
theorem d_Judge_init_33 : decode b_Judge_init 33 = .ok (.dup, 1) := by decide +kernel
theorem d_Judge_init_34 : decode b_Judge_init 34 = .ok (.aload_n 1, 1) := by decide +kernel
theorem d_Judge_init_35 : decode b_Judge_init 35 = .ok (.invokespecial 30, 3) := by decide +kernel
theorem d_Judge_init_38 : decode b_Judge_init 38 = .ok (.putfield 33, 3) := by decide +kernel
theorem d_Judge_init_41 : decode b_Judge_init 41 = .ok (.return_, 1) := by decide +kernel
theorem d_Machine_init_0 : decode b_Machine_init 0 = .ok (.aload_n 0, 1) := by decide +kernel
theorem d_Machine_init_1 : decode b_Machine_init 1 = .ok (.invokespecial 3, 3) := by decide +kernel
theorem d_Machine_init_4 : decode b_Machine_init 4 = .ok (.aload_n 0, 1) := by decide +kernel
theorem d_Machine_init_5 : decode b_Machine_init 5 = .ok (.bipush 24, 2) := by decide +kernel
theorem d_Machine_init_7 : decode b_Machine_init 7 = .ok (.bipush 80, 2) := by decide +kernel
theorem d_Machine_init_9 : decode b_Machine_init 9 = .ok (.multianewarray 11 2, 4) := by decide +kernel
theorem d_Machine_init_13 : decode b_Machine_init 13 = .ok (.putfield 13, 3) := by decide +kernel
theorem d_Machine_init_16 : decode b_Machine_init 16 = .ok (.aload_n 0, 1) := by decide +kernel
theorem d_Machine_init_17 : decode b_Machine_init 17 = .ok (.bipush 24, 2) := by decide +kernel
theorem d_Machine_init_19 : decode b_Machine_init 19 = .ok (.newarray .int, 2) := by decide +kernel
theorem d_Machine_init_21 : decode b_Machine_init 21 = .ok (.putfield 16, 3) := by decide +kernel
theorem d_Machine_init_24 : decode b_Machine_init 24 = .ok (.aload_n 0, 1) := by decide +kernel
theorem d_Machine_init_25 : decode b_Machine_init 25 = .ok (.bipush 80, 2) := by decide +kernel
theorem d_Machine_init_27 : decode b_Machine_init 27 = .ok (.newarray .boolean, 2) := by decide +kernel
theorem d_Machine_init_29 : decode b_Machine_init 29 = .ok (.putfield 20, 3) := by decide +kernel
theorem d_Machine_init_32 : decode b_Machine_init 32 = .ok (.aload_n 0, 1) := by decide +kernel
theorem d_Machine_init_33 : decode b_Machine_init 33 = .ok (.bipush 112, 2) := by decide +kernel
theorem d_Machine_init_35 : decode b_Machine_init 35 = .ok (.newarray .byte, 2) := by decide +kernel
theorem d_Machine_init_37 : decode b_Machine_init 37 = .ok (.putfield 24, 3) := by decide +kernel
theorem d_Machine_init_40 : decode b_Machine_init 40 = .ok (.aload_n 0, 1) := by decide +kernel
theorem d_Machine_init_41 : decode b_Machine_init 41 = .ok (.bipush 32, 2) := by decide +kernel
theorem d_Machine_init_43 : decode b_Machine_init 43 = .ok (.newarray .byte, 2) := by decide +kernel
theorem d_Machine_init_45 : decode b_Machine_init 45 = .ok (.putfield 28, 3) := by decide +kernel
theorem d_Machine_init_48 : decode b_Machine_init 48 = .ok (.aload_n 0, 1) := by decide +kernel
theorem d_Machine_init_49 : decode b_Machine_init 49 = .ok (.aload_n 1, 1) := by decide +kernel
theorem d_Machine_init_50 : decode b_Machine_init 50 = .ok (.putfield 31, 3) := by decide +kernel
theorem d_Machine_init_53 : decode b_Machine_init 53 = .ok (.aload_n 0, 1) := by decide +kernel
theorem d_Machine_init_54 : decode b_Machine_init 54 = .ok (.bipush 32, 2) := by decide +kernel
theorem d_Machine_init_56 : decode b_Machine_init 56 = .ok (.newarray .byte, 2) := by decide +kernel
theorem d_Machine_init_58 : decode b_Machine_init 58 = .ok (.putfield 35, 3) := by decide +kernel
theorem d_Machine_init_61 : decode b_Machine_init 61 = .ok (.return_, 1) := by decide +kernel
theorem d_Mc_init_0 : decode b_Mc_init 0 = .ok (.aload_n 0, 1) := by decide +kernel
theorem d_Mc_init_1 : decode b_Mc_init 1 = .ok (.invokespecial 1, 3) := by decide +kernel
theorem d_Mc_init_4 : decode b_Mc_init 4 = .ok (.aload_n 0, 1) := by decide +kernel
theorem d_Mc_init_5 : decode b_Mc_init 5 = .ok (.sipush 27000, 3) := by decide +kernel
theorem d_Mc_init_8 : decode b_Mc_init 8 = .ok (.newarray .int, 2) := by decide +kernel
theorem d_Mc_init_10 : decode b_Mc_init 10 = .ok (.putfield 9, 3) := by decide +kernel
theorem d_Mc_init_13 : decode b_Mc_init 13 = .ok (.aload_n 0, 1) := by decide +kernel
theorem d_Mc_init_14 : decode b_Mc_init 14 = .ok (.sipush 27000, 3) := by decide +kernel
theorem d_Mc_init_17 : decode b_Mc_init 17 = .ok (.newarray .int, 2) := by decide +kernel
theorem d_Mc_init_19 : decode b_Mc_init 19 = .ok (.putfield 13, 3) := by decide +kernel
theorem d_Mc_init_22 : decode b_Mc_init 22 = .ok (.aload_n 0, 1) := by decide +kernel
theorem d_Mc_init_23 : decode b_Mc_init 23 = .ok (.sipush 27000, 3) := by decide +kernel
theorem d_Mc_init_26 : decode b_Mc_init 26 = .ok (.newarray .int, 2) := by decide +kernel
theorem d_Mc_init_28 : decode b_Mc_init 28 = .ok (.putfield 16, 3) := by decide +kernel
theorem d_Mc_init_31 : decode b_Mc_init 31 = .ok (.aload_n 0, 1) := by decide +kernel
theorem d_Mc_init_32 : decode b_Mc_init 32 = .ok (.sipush 27000, 3) := by decide +kernel
theorem d_Mc_init_35 : decode b_Mc_init 35 = .ok (.newarray .int, 2) := by decide +kernel
theorem d_Mc_init_37 : decode b_Mc_init 37 = .ok (.putfield 19, 3) := by decide +kernel
theorem d_Mc_init_40 : decode b_Mc_init 40 = .ok (.aload_n 0, 1) := by decide +kernel
theorem d_Mc_init_41 : decode b_Mc_init 41 = .ok (.sipush 27000, 3) := by decide +kernel
theorem d_Mc_init_44 : decode b_Mc_init 44 = .ok (.newarray .int, 2) := by decide +kernel
theorem d_Mc_init_46 : decode b_Mc_init 46 = .ok (.putfield 22, 3) := by decide +kernel
theorem d_Mc_init_49 : decode b_Mc_init 49 = .ok (.aload_n 0, 1) := by decide +kernel
theorem d_Mc_init_50 : decode b_Mc_init 50 = .ok (.sipush 27000, 3) := by decide +kernel
theorem d_Mc_init_53 : decode b_Mc_init 53 = .ok (.newarray .int, 2) := by decide +kernel
theorem d_Mc_init_55 : decode b_Mc_init 55 = .ok (.putfield 25, 3) := by decide +kernel
theorem d_Mc_init_58 : decode b_Mc_init 58 = .ok (.aload_n 0, 1) := by decide +kernel
theorem d_Mc_init_59 : decode b_Mc_init 59 = .ok (.sipush 27000, 3) := by decide +kernel
theorem d_Mc_init_62 : decode b_Mc_init 62 = .ok (.newarray .boolean, 2) := by decide +kernel
theorem d_Mc_init_64 : decode b_Mc_init 64 = .ok (.putfield 28, 3) := by decide +kernel
theorem d_Mc_init_67 : decode b_Mc_init 67 = .ok (.return_, 1) := by decide +kernel
theorem d_Mo_accept_0 : decode b_Mo_accept 0 = .ok (.iload_n 2, 1) := by decide +kernel
theorem d_Mo_accept_1 : decode b_Mo_accept 1 = .ok (.sipush 1000, 3) := by decide +kernel
theorem d_Mo_accept_4 : decode b_Mo_accept 4 = .ok (.if_icmp .gt 24, 3) := by decide +kernel
theorem d_Mo_accept_7 : decode b_Mo_accept 7 = .ok (.aload_n 0, 1) := by decide +kernel
theorem d_Mo_accept_8 : decode b_Mo_accept 8 = .ok (.iload_n 1, 1) := by decide +kernel
theorem d_Mo_accept_9 : decode b_Mo_accept 9 = .ok (.iload_n 1, 1) := by decide +kernel
theorem d_Mo_accept_10 : decode b_Mo_accept 10 = .ok (.iload_n 2, 1) := by decide +kernel
theorem d_Mo_accept_11 : decode b_Mo_accept 11 = .ok (.iadd, 1) := by decide +kernel
theorem d_Mo_accept_12 : decode b_Mo_accept 12 = .ok (.invokevirtual 179, 3) := by decide +kernel
theorem d_Mo_accept_15 : decode b_Mo_accept 15 = .ok (.iload_n 1, 1) := by decide +kernel
theorem d_Mo_accept_16 : decode b_Mo_accept 16 = .ok (.iload_n 2, 1) := by decide +kernel
theorem d_Mo_accept_17 : decode b_Mo_accept 17 = .ok (.iadd, 1) := by decide +kernel
theorem d_Mo_accept_18 : decode b_Mo_accept 18 = .ok (.if_icmp .ne 10, 3) := by decide +kernel
theorem d_Mo_accept_28 : decode b_Mo_accept 28 = .ok (.bipush (-3), 2) := by decide +kernel
theorem d_Mo_accept_30 : decode b_Mo_accept 30 = .ok (.ireturn, 1) := by decide +kernel
theorem d_Mo_alter_0 : decode b_Mo_alter 0 = .ok (.iload_n 1, 1) := by decide +kernel
theorem d_Mo_alter_1 : decode b_Mo_alter 1 = .ok (.ifCond .lt 22, 3) := by decide +kernel
theorem d_Mo_alter_4 : decode b_Mo_alter 4 = .ok (.iload_n 1, 1) := by decide +kernel
theorem d_Mo_alter_5 : decode b_Mo_alter 5 = .ok (.aload_n 0, 1) := by decide +kernel
theorem d_Mo_alter_6 : decode b_Mo_alter 6 = .ok (.getfield 363, 3) := by decide +kernel
theorem d_Mo_alter_9 : decode b_Mo_alter 9 = .ok (.if_icmp .ge 14, 3) := by decide +kernel
theorem d_Mo_alter_23 : decode b_Mo_alter 23 = .ok (.iconst (-1), 1) := by decide +kernel
theorem d_Mo_alter_24 : decode b_Mo_alter 24 = .ok (.ireturn, 1) := by decide +kernel
theorem d_Mo_ancestor_0 : decode b_Mo_ancestor 0 = .ok (.iload_n 1, 1) := by decide +kernel
theorem d_Mo_ancestor_1 : decode b_Mo_ancestor 1 = .ok (.istore_n 3, 1) := by decide +kernel
theorem d_Mo_ancestor_2 : decode b_Mo_ancestor 2 = .ok (.aload_n 0, 1) := by decide +kernel
theorem d_Mo_ancestor_3 : decode b_Mo_ancestor 3 = .ok (.getfield 24, 3) := by decide +kernel
theorem d_Mo_ancestor_6 : decode b_Mo_ancestor 6 = .ok (.iload_n 3, 1) := by decide +kernel
theorem d_Mo_ancestor_7 : decode b_Mo_ancestor 7 = .ok (.iaload, 1) := by decide +kernel
theorem d_Mo_ancestor_8 : decode b_Mo_ancestor 8 = .ok (.iload_n 2, 1) := by decide +kernel
theorem d_Mo_ancestor_9 : decode b_Mo_ancestor 9 = .ok (.if_icmp .le 13, 3) := by decide +kernel
theorem d_Mo_ancestor_22 : decode b_Mo_ancestor 22 = .ok (.iload_n 3, 1) := by decide +kernel
theorem d_Mo_ancestor_23 : decode b_Mo_ancestor 23 = .ok (.ireturn, 1) := by decide +kernel
theorem d_Mo_back_0 : decode b_Mo_back 0 = .ok (.iconst 0, 1) := by decide +kernel
theorem d_Mo_back_1 : decode b_Mo_back 1 = .ok (.istore_n 1, 1) := by decide +kernel
theorem d_Mo_back_2 : decode b_Mo_back 2 = .ok (.iload_n 1, 1) := by decide +kernel
theorem d_Mo_back_3 : decode b_Mo_back 3 = .ok (.aload_n 0, 1) := by decide +kernel
theorem d_Mo_back_4 : decode b_Mo_back 4 = .ok (.getfield 390, 3) := by decide +kernel
theorem d_Mo_back_7 : decode b_Mo_back 7 = .ok (.if_icmp .ge 29, 3) := by decide +kernel
theorem d_Mo_back_36 : decode b_Mo_back 36 = .ok (.aload_n 0, 1) := by decide +kernel
theorem d_Mo_back_37 : decode b_Mo_back 37 = .ok (.aload_n 0, 1) := by decide +kernel
theorem d_Mo_back_38 : decode b_Mo_back 38 = .ok (.getfield 390, 3) := by decide +kernel
theorem d_Mo_back_41 : decode b_Mo_back 41 = .ok (.putfield 363, 3) := by decide +kernel
theorem d_Mo_back_44 : decode b_Mo_back 44 = .ok (.aload_n 0, 1) := by decide +kernel
theorem d_Mo_back_45 : decode b_Mo_back 45 = .ok (.getfield 390, 3) := by decide +kernel
theorem d_Mo_back_48 : decode b_Mo_back 48 = .ok (.ireturn, 1) := by decide +kernel
theorem d_Mo_balance_0 : decode b_Mo_balance 0 = .ok (.lconst 0, 1) := by decide +kernel
theorem d_Mo_balance_1 : decode b_Mo_balance 1 = .ok (.lstore_n 1, 1) := by decide +kernel
theorem d_Mo_balance_2 : decode b_Mo_balance 2 = .ok (.iconst 0, 1) := by decide +kernel
theorem d_Mo_balance_3 : decode b_Mo_balance 3 = .ok (.istore_n 3, 1) := by decide +kernel
theorem d_Mo_balance_4 : decode b_Mo_balance 4 = .ok (.iload_n 3, 1) := by decide +kernel
theorem d_Mo_balance_5 : decode b_Mo_balance 5 = .ok (.aload_n 0, 1) := by decide +kernel
theorem d_Mo_balance_6 : decode b_Mo_balance 6 = .ok (.getfield 130, 3) := by decide +kernel
theorem d_Mo_balance_9 : decode b_Mo_balance 9 = .ok (.getfield 232, 3) := by decide +kernel
theorem d_Mo_balance_12 : decode b_Mo_balance 12 = .ok (.if_icmp .ge 68, 3) := by decide +kernel
theorem d_Mo_balance_80 : decode b_Mo_balance 80 = .ok (.aload_n 0, 1) := by decide +kernel
theorem d_Mo_balance_81 : decode b_Mo_balance 81 = .ok (.iconst 0, 1) := by decide +kernel
theorem d_Mo_balance_82 : decode b_Mo_balance 82 = .ok (.putfield 363, 3) := by decide +kernel
theorem d_Mo_balance_85 : decode b_Mo_balance 85 = .ok (.lload_n 1, 1) := by decide +kernel
theorem d_Mo_balance_86 : decode b_Mo_balance 86 = .ok (.lreturn, 1) := by decide +kernel
theorem d_Mo_block_0 : decode b_Mo_block 0 = .ok (.aload_n 0, 1) := by decide +kernel
theorem d_Mo_block_1 : decode b_Mo_block 1 = .ok (.getfield 363, 3) := by decide +kernel
theorem d_Mo_block_4 : decode b_Mo_block 4 = .ok (.istore_n 1, 1) := by decide +kernel
theorem d_Mo_block_5 : decode b_Mo_block 5 = .ok (.aload_n 0, 1) := by decide +kernel
theorem d_Mo_block_6 : decode b_Mo_block 6 = .ok (.iconst 0, 1) := by decide +kernel
theorem d_Mo_block_7 : decode b_Mo_block 7 = .ok (.putfield 363, 3) := by decide +kernel
theorem d_Mo_block_10 : decode b_Mo_block 10 = .ok (.aload_n 0, 1) := by decide +kernel
theorem d_Mo_block_11 : decode b_Mo_block 11 = .ok (.ldc_w 305, 3) := by decide +kernel
theorem d_Mo_block_14 : decode b_Mo_block 14 = .ok (.iload_n 1, 1) := by decide +kernel
theorem d_Mo_block_15 : decode b_Mo_block 15 = .ok (.invokevirtual 369, 3) := by decide +kernel
theorem d_Mo_block_18 : decode b_Mo_block 18 = .ok (.ireturn, 1) := by decide +kernel
theorem d_Mo_coin_0 : decode b_Mo_coin 0 = .ok (.iload_n 2, 1) := by decide +kernel
theorem d_Mo_coin_1 : decode b_Mo_coin 1 = .ok (.ifCond .lt 8, 3) := by decide +kernel
theorem d_Mo_coin_4 : decode b_Mo_coin 4 = .ok (.iload_n 2, 1) := by decide +kernel
theorem d_Mo_coin_5 : decode b_Mo_coin 5 = .ok (.iconst 5, 1) := by decide +kernel
theorem d_Mo_coin_6 : decode b_Mo_coin 6 = .ok (.if_icmp .le 5, 3) := by decide +kernel
theorem d_Mo_coin_9 : decode b_Mo_coin 9 = .ok (.iconst (-1), 1) := by decide +kernel
theorem d_Mo_coin_10 : decode b_Mo_coin 10 = .ok (.ireturn, 1) := by decide +kernel
theorem d_Mo_coin_11 : decode b_Mo_coin 11 = .ok (.aload_n 0, 1) := by decide +kernel
theorem d_Mo_coin_12 : decode b_Mo_coin 12 = .ok (.iload_n 1, 1) := by decide +kernel
theorem d_Mo_coin_13 : decode b_Mo_coin 13 = .ok (.invokevirtual 400, 3) := by decide +kernel
theorem d_Mo_coin_16 : decode b_Mo_coin 16 = .ok (.istore_n 3, 1) := by decide +kernel
theorem d_Mo_coin_17 : decode b_Mo_coin 17 = .ok (.iload_n 3, 1) := by decide +kernel
theorem d_Mo_coin_18 : decode b_Mo_coin 18 = .ok (.ifCond .ge 6, 3) := by decide +kernel
theorem d_Mo_coin_21 : decode b_Mo_coin 21 = .ok (.bipush (-2), 2) := by decide +kernel
theorem d_Mo_coin_23 : decode b_Mo_coin 23 = .ok (.ireturn, 1) := by decide +kernel
theorem d_Mo_coinAt_0 : decode b_Mo_coinAt 0 = .ok (.iload_n 1, 1) := by decide +kernel
theorem d_Mo_coinAt_1 : decode b_Mo_coinAt 1 = .ok (.ifCond .lt 14, 3) := by decide +kernel
theorem d_Mo_coinAt_4 : decode b_Mo_coinAt 4 = .ok (.iload_n 1, 1) := by decide +kernel
theorem d_Mo_coinAt_5 : decode b_Mo_coinAt 5 = .ok (.aload_n 0, 1) := by decide +kernel
theorem d_Mo_coinAt_6 : decode b_Mo_coinAt 6 = .ok (.getfield 130, 3) := by decide +kernel
theorem d_Mo_coinAt_9 : decode b_Mo_coinAt 9 = .ok (.getfield 232, 3) := by decide +kernel
theorem d_Mo_coinAt_12 : decode b_Mo_coinAt 12 = .ok (.if_icmp .lt 5, 3) := by decide +kernel
theorem d_Mo_coinAt_15 : decode b_Mo_coinAt 15 = .ok (.iconst (-1), 1) := by decide +kernel
theorem d_Mo_coinAt_16 : decode b_Mo_coinAt 16 = .ok (.ireturn, 1) := by decide +kernel
theorem d_Mo_come_0 : decode b_Mo_come 0 = .ok (.aload_n 0, 1) := by decide +kernel
theorem d_Mo_come_1 : decode b_Mo_come 1 = .ok (.dup, 1) := by decide +kernel
theorem d_Mo_come_2 : decode b_Mo_come 2 = .ok (.getfield 337, 3) := by decide +kernel
theorem d_Mo_come_5 : decode b_Mo_come 5 = .ok (.iconst 1, 1) := by decide +kernel
theorem d_Mo_come_6 : decode b_Mo_come 6 = .ok (.iadd, 1) := by decide +kernel
theorem d_Mo_come_7 : decode b_Mo_come 7 = .ok (.putfield 337, 3) := by decide +kernel
theorem d_Mo_come_10 : decode b_Mo_come 10 = .ok (.aload_n 0, 1) := by decide +kernel
theorem d_Mo_come_11 : decode b_Mo_come 11 = .ok (.iload_n 1, 1) := by decide +kernel
theorem d_Mo_come_12 : decode b_Mo_come 12 = .ok (.iload_n 2, 1) := by decide +kernel
theorem d_Mo_come_13 : decode b_Mo_come 13 = .ok (.invokevirtual 292, 3) := by decide +kernel
theorem d_Mo_come_16 : decode b_Mo_come 16 = .ok (.ifCond .ne 6, 3) := by decide +kernel
theorem d_Mo_come_19 : decode b_Mo_come 19 = .ok (.bipush (-3), 2) := by decide +kernel
theorem d_Mo_come_21 : decode b_Mo_come 21 = .ok (.ireturn, 1) := by decide +kernel
theorem d_Mo_count_0 : decode b_Mo_count 0 = .ok (.lconst 0, 1) := by decide +kernel
theorem d_Mo_count_1 : decode b_Mo_count 1 = .ok (.lstore_n 2, 1) := by decide +kernel
theorem d_Mo_count_2 : decode b_Mo_count 2 = .ok (.iconst 0, 1) := by decide +kernel
theorem d_Mo_count_3 : decode b_Mo_count 3 = .ok (.istore 4, 2) := by decide +kernel
theorem d_Mo_count_5 : decode b_Mo_count 5 = .ok (.iload 4, 2) := by decide +kernel
theorem d_Mo_count_7 : decode b_Mo_count 7 = .ok (.aload_n 0, 1) := by decide +kernel
theorem d_Mo_count_8 : decode b_Mo_count 8 = .ok (.getfield 130, 3) := by decide +kernel
theorem d_Mo_count_11 : decode b_Mo_count 11 = .ok (.getfield 232, 3) := by decide +kernel
theorem d_Mo_count_14 : decode b_Mo_count 14 = .ok (.if_icmp .ge 23, 3) := by decide +kernel
theorem d_Mo_count_37 : decode b_Mo_count 37 = .ok (.iload_n 1, 1) := by decide +kernel
theorem d_Mo_count_38 : decode b_Mo_count 38 = .ok (.tableswitch 83 0 6 #[42, 48, 54, 63, 65, 71, 77], 42) := by decide +kernel
theorem d_Mo_count_80 : decode b_Mo_count 80 = .ok (.aload_n 0, 1) := by decide +kernel
theorem d_Mo_count_81 : decode b_Mo_count 81 = .ok (.getfield 53, 3) := by decide +kernel
theorem d_Mo_count_84 : decode b_Mo_count 84 = .ok (.i2l, 1) := by decide +kernel
theorem d_Mo_count_85 : decode b_Mo_count 85 = .ok (.lreturn, 1) := by decide +kernel
theorem d_Mo_count_86 : decode b_Mo_count 86 = .ok (.aload_n 0, 1) := by decide +kernel
theorem d_Mo_count_87 : decode b_Mo_count 87 = .ok (.getfield 306, 3) := by decide +kernel
theorem d_Mo_count_90 : decode b_Mo_count 90 = .ok (.i2l, 1) := by decide +kernel
theorem d_Mo_count_91 : decode b_Mo_count 91 = .ok (.lreturn, 1) := by decide +kernel
theorem d_Mo_count_92 : decode b_Mo_count 92 = .ok (.aload_n 0, 1) := by decide +kernel
theorem d_Mo_count_93 : decode b_Mo_count 93 = .ok (.getfield 130, 3) := by decide +kernel
theorem d_Mo_count_96 : decode b_Mo_count 96 = .ok (.getfield 232, 3) := by decide +kernel
theorem d_Mo_count_99 : decode b_Mo_count 99 = .ok (.i2l, 1) := by decide +kernel
theorem d_Mo_count_100 : decode b_Mo_count 100 = .ok (.lreturn, 1) := by decide +kernel
theorem d_Mo_count_101 : decode b_Mo_count 101 = .ok (.lload_n 2, 1) := by decide +kernel
theorem d_Mo_count_102 : decode b_Mo_count 102 = .ok (.lreturn, 1) := by decide +kernel
theorem d_Mo_count_103 : decode b_Mo_count 103 = .ok (.aload_n 0, 1) := by decide +kernel
theorem d_Mo_count_104 : decode b_Mo_count 104 = .ok (.getfield 346, 3) := by decide +kernel
theorem d_Mo_count_107 : decode b_Mo_count 107 = .ok (.i2l, 1) := by decide +kernel
theorem d_Mo_count_108 : decode b_Mo_count 108 = .ok (.lreturn, 1) := by decide +kernel
theorem d_Mo_count_109 : decode b_Mo_count 109 = .ok (.aload_n 0, 1) := by decide +kernel
theorem d_Mo_count_110 : decode b_Mo_count 110 = .ok (.getfield 295, 3) := by decide +kernel
theorem d_Mo_count_113 : decode b_Mo_count 113 = .ok (.i2l, 1) := by decide +kernel
theorem d_Mo_count_114 : decode b_Mo_count 114 = .ok (.lreturn, 1) := by decide +kernel
theorem d_Mo_count_115 : decode b_Mo_count 115 = .ok (.aload_n 0, 1) := by decide +kernel
theorem d_Mo_count_116 : decode b_Mo_count 116 = .ok (.getfield 363, 3) := by decide +kernel
theorem d_Mo_count_119 : decode b_Mo_count 119 = .ok (.i2l, 1) := by decide +kernel
theorem d_Mo_count_120 : decode b_Mo_count 120 = .ok (.lreturn, 1) := by decide +kernel
theorem d_Mo_count_121 : decode b_Mo_count 121 = .ok (.ldc2_w 261, 3) := by decide +kernel
theorem d_Mo_count_124 : decode b_Mo_count 124 = .ok (.lreturn, 1) := by decide +kernel
theorem d_Mo_draft_0 : decode b_Mo_draft 0 = .ok (.iload_n 1, 1) := by decide +kernel
theorem d_Mo_draft_1 : decode b_Mo_draft 1 = .ok (.iconst (-1), 1) := by decide +kernel
theorem d_Mo_draft_2 : decode b_Mo_draft 2 = .ok (.if_icmp .ne 10, 3) := by decide +kernel
theorem d_Mo_draft_5 : decode b_Mo_draft 5 = .ok (.aload_n 0, 1) := by decide +kernel
theorem d_Mo_draft_6 : decode b_Mo_draft 6 = .ok (.getfield 328, 3) := by decide +kernel
theorem d_Mo_draft_9 : decode b_Mo_draft 9 = .ok (.goto 4, 3) := by decide +kernel
theorem d_Mo_draft_12 : decode b_Mo_draft 12 = .ok (.iload_n 1, 1) := by decide +kernel
theorem d_Mo_draft_13 : decode b_Mo_draft 13 = .ok (.istore 5, 2) := by decide +kernel
theorem d_Mo_draft_15 : decode b_Mo_draft 15 = .ok (.iload 5, 2) := by decide +kernel
theorem d_Mo_draft_17 : decode b_Mo_draft 17 = .ok (.ifCond .lt 16, 3) := by decide +kernel
theorem d_Mo_draft_20 : decode b_Mo_draft 20 = .ok (.iload 5, 2) := by decide +kernel
theorem d_Mo_draft_22 : decode b_Mo_draft 22 = .ok (.aload_n 0, 1) := by decide +kernel
theorem d_Mo_draft_23 : decode b_Mo_draft 23 = .ok (.getfield 53, 3) := by decide +kernel
theorem d_Mo_draft_26 : decode b_Mo_draft 26 = .ok (.if_icmp .ge 7, 3) := by decide +kernel
theorem d_Mo_draft_29 : decode b_Mo_draft 29 = .ok (.iload_n 2, 1) := by decide +kernel
theorem d_Mo_draft_30 : decode b_Mo_draft 30 = .ok (.ifCond .ge 5, 3) := by decide +kernel
theorem d_Mo_draft_33 : decode b_Mo_draft 33 = .ok (.iconst (-1), 1) := by decide +kernel
theorem d_Mo_draft_34 : decode b_Mo_draft 34 = .ok (.ireturn, 1) := by decide +kernel
theorem d_Mo_draft_35 : decode b_Mo_draft 35 = .ok (.aload_n 0, 1) := by decide +kernel
theorem d_Mo_draft_36 : decode b_Mo_draft 36 = .ok (.getfield 24, 3) := by decide +kernel
theorem d_Mo_draft_39 : decode b_Mo_draft 39 = .ok (.iload 5, 2) := by decide +kernel
theorem d_Mo_draft_41 : decode b_Mo_draft 41 = .ok (.iaload, 1) := by decide +kernel
