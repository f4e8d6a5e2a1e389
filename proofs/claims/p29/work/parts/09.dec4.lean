theorem dX4_init_0 : decode cX4_init 0 = .ok (.aload_n 0, 1) := by decide +kernel
theorem dX4_init_1 : decode cX4_init 1 = .ok (.invokespecial 1, 3) := by decide +kernel
theorem dX4_init_4 : decode cX4_init 4 = .ok (.aload_n 0, 1) := by decide +kernel
theorem dX4_init_5 : decode cX4_init 5 = .ok (.new 7, 3) := by decide +kernel
theorem dX4_init_8 : decode cX4_init 8 = .ok (.dup, 1) := by decide +kernel
theorem dX4_init_9 : decode cX4_init 9 = .ok (.invokespecial 9, 3) := by decide +kernel
theorem dX4_init_12 : decode cX4_init 12 = .ok (.putfield 10, 3) := by decide +kernel
theorem dX4_init_15 : decode cX4_init 15 = .ok (.aload_n 0, 1) := by decide +kernel
theorem dX4_init_16 : decode cX4_init 16 = .ok (.new 16, 3) := by decide +kernel
theorem dX4_init_19 : decode cX4_init 19 = .ok (.dup, 1) := by decide +kernel
theorem dX4_init_20 : decode cX4_init 20 = .ok (.invokespecial 18, 3) := by decide +kernel
theorem dX4_init_23 : decode cX4_init 23 = .ok (.putfield 19, 3) := by decide +kernel
theorem dX4_init_26 : decode cX4_init 26 = .ok (.aload_n 0, 1) := by decide +kernel
theorem dX4_init_27 : decode cX4_init 27 = .ok (.new 16, 3) := by decide +kernel
theorem dX4_init_30 : decode cX4_init 30 = .ok (.dup, 1) := by decide +kernel
theorem dX4_init_31 : decode cX4_init 31 = .ok (.invokespecial 18, 3) := by decide +kernel
theorem dX4_init_34 : decode cX4_init 34 = .ok (.putfield 23, 3) := by decide +kernel
theorem dX4_init_37 : decode cX4_init 37 = .ok (.aload_n 0, 1) := by decide +kernel
theorem dX4_init_38 : decode cX4_init 38 = .ok (.new 26, 3) := by decide +kernel
theorem dX4_init_41 : decode cX4_init 41 = .ok (.dup, 1) := by decide +kernel
theorem dX4_init_42 : decode cX4_init 42 = .ok (.invokespecial 28, 3) := by decide +kernel
theorem dX4_init_45 : decode cX4_init 45 = .ok (.putfield 29, 3) := by decide +kernel
theorem dX4_init_48 : decode cX4_init 48 = .ok (.aload_n 0, 1) := by decide +kernel
theorem dX4_init_49 : decode cX4_init 49 = .ok (.iconst 2, 1) := by decide +kernel
theorem dX4_init_50 : decode cX4_init 50 = .ok (.anewarray 16, 3) := by decide +kernel
theorem dX4_init_53 : decode cX4_init 53 = .ok (.putfield 33, 3) := by decide +kernel
theorem dX4_init_56 : decode cX4_init 56 = .ok (.aload_n 0, 1) := by decide +kernel
theorem dX4_init_57 : decode cX4_init 57 = .ok (.iconst 2, 1) := by decide +kernel
theorem dX4_init_58 : decode cX4_init 58 = .ok (.newarray .boolean, 2) := by decide +kernel
theorem dX4_init_60 : decode cX4_init 60 = .ok (.putfield 37, 3) := by decide +kernel
theorem dX4_init_63 : decode cX4_init 63 = .ok (.iconst 0, 1) := by decide +kernel
theorem dX4_init_64 : decode cX4_init 64 = .ok (.istore_n 1, 1) := by decide +kernel
theorem dX4_init_65 : decode cX4_init 65 = .ok (.iload_n 1, 1) := by decide +kernel
theorem dX4_init_66 : decode cX4_init 66 = .ok (.iconst 2, 1) := by decide +kernel
theorem dX4_init_67 : decode cX4_init 67 = .ok (.if_icmp .ge 22, 3) := by decide +kernel
theorem dX4_init_70 : decode cX4_init 70 = .ok (.aload_n 0, 1) := by decide +kernel
theorem dX4_init_71 : decode cX4_init 71 = .ok (.getfield 33, 3) := by decide +kernel
theorem dX4_init_74 : decode cX4_init 74 = .ok (.iload_n 1, 1) := by decide +kernel
theorem dX4_init_75 : decode cX4_init 75 = .ok (.new 16, 3) := by decide +kernel
theorem dX4_init_78 : decode cX4_init 78 = .ok (.dup, 1) := by decide +kernel
theorem dX4_init_79 : decode cX4_init 79 = .ok (.invokespecial 18, 3) := by decide +kernel
theorem dX4_init_82 : decode cX4_init 82 = .ok (.aastore, 1) := by decide +kernel
theorem dX4_init_83 : decode cX4_init 83 = .ok (.iinc 1 1, 3) := by decide +kernel
theorem dX4_init_86 : decode cX4_init 86 = .ok (.goto (-21), 3) := by decide +kernel
theorem dX4_init_89 : decode cX4_init 89 = .ok (.return_, 1) := by decide +kernel
theorem dX4_append_0 : decode cX4_append 0 = .ok (.iload_n 1, 1) := by decide +kernel
theorem dX4_append_1 : decode cX4_append 1 = .ok (.iconst 0, 1) := by decide +kernel
theorem dX4_append_2 : decode cX4_append 2 = .ok (.sipush 255, 3) := by decide +kernel
theorem dX4_append_5 : decode cX4_append 5 = .ok (.invokestatic 41, 3) := by decide +kernel
theorem dX4_append_8 : decode cX4_append 8 = .ok (.ifCond .ne 11, 3) := by decide +kernel
theorem dX4_append_11 : decode cX4_append 11 = .ok (.new 45, 3) := by decide +kernel
theorem dX4_append_14 : decode cX4_append 14 = .ok (.dup, 1) := by decide +kernel
theorem dX4_append_15 : decode cX4_append 15 = .ok (.invokespecial 47, 3) := by decide +kernel
theorem dX4_append_18 : decode cX4_append 18 = .ok (.athrow, 1) := by decide +kernel
theorem dX4_append_19 : decode cX4_append 19 = .ok (.aload_n 0, 1) := by decide +kernel
theorem dX4_append_20 : decode cX4_append 20 = .ok (.getfield 10, 3) := by decide +kernel
theorem dX4_append_23 : decode cX4_append 23 = .ok (.invokevirtual 48, 3) := by decide +kernel
theorem dX4_append_26 : decode cX4_append 26 = .ok (.ifCond .eq 11, 3) := by decide +kernel
theorem dX4_append_29 : decode cX4_append 29 = .ok (.new 52, 3) := by decide +kernel
theorem dX4_append_32 : decode cX4_append 32 = .ok (.dup, 1) := by decide +kernel
theorem dX4_append_33 : decode cX4_append 33 = .ok (.invokespecial 54, 3) := by decide +kernel
theorem dX4_append_36 : decode cX4_append 36 = .ok (.athrow, 1) := by decide +kernel
theorem dX4_append_37 : decode cX4_append 37 = .ok (.aload_n 0, 1) := by decide +kernel
theorem dX4_append_38 : decode cX4_append 38 = .ok (.getfield 10, 3) := by decide +kernel
theorem dX4_append_41 : decode cX4_append 41 = .ok (.iload_n 1, 1) := by decide +kernel
theorem dX4_append_42 : decode cX4_append 42 = .ok (.i2c, 1) := by decide +kernel
theorem dX4_append_43 : decode cX4_append 43 = .ok (.invokevirtual 55, 3) := by decide +kernel
theorem dX4_append_46 : decode cX4_append 46 = .ok (.ireturn, 1) := by decide +kernel
theorem dX4_load_0 : decode cX4_load 0 = .ok (.aload_n 0, 1) := by decide +kernel
theorem dX4_load_1 : decode cX4_load 1 = .ok (.getfield 10, 3) := by decide +kernel
theorem dX4_load_4 : decode cX4_load 4 = .ok (.invokevirtual 63, 3) := by decide +kernel
theorem dX4_load_7 : decode cX4_load 7 = .ok (.iconst (-1), 1) := by decide +kernel
theorem dX4_load_8 : decode cX4_load 8 = .ok (.if_icmp .eq 11, 3) := by decide +kernel
theorem dX4_load_11 : decode cX4_load 11 = .ok (.new 52, 3) := by decide +kernel
theorem dX4_load_14 : decode cX4_load 14 = .ok (.dup, 1) := by decide +kernel
theorem dX4_load_15 : decode cX4_load 15 = .ok (.invokespecial 54, 3) := by decide +kernel
theorem dX4_load_18 : decode cX4_load 18 = .ok (.athrow, 1) := by decide +kernel
theorem dX4_load_19 : decode cX4_load 19 = .ok (.aload_n 0, 1) := by decide +kernel
theorem dX4_load_20 : decode cX4_load 20 = .ok (.getfield 19, 3) := by decide +kernel
theorem dX4_load_23 : decode cX4_load 23 = .ok (.invokevirtual 66, 3) := by decide +kernel
theorem dX4_load_26 : decode cX4_load 26 = .ok (.aload_n 0, 1) := by decide +kernel
theorem dX4_load_27 : decode cX4_load 27 = .ok (.getfield 29, 3) := by decide +kernel
theorem dX4_load_30 : decode cX4_load 30 = .ok (.invokevirtual 69, 3) := by decide +kernel
theorem dX4_load_33 : decode cX4_load 33 = .ok (.iconst 0, 1) := by decide +kernel
theorem dX4_load_34 : decode cX4_load 34 = .ok (.istore_n 1, 1) := by decide +kernel
theorem dX4_load_35 : decode cX4_load 35 = .ok (.iload_n 1, 1) := by decide +kernel
theorem dX4_load_36 : decode cX4_load 36 = .ok (.iconst 2, 1) := by decide +kernel
theorem dX4_load_37 : decode cX4_load 37 = .ok (.if_icmp .ge 16, 3) := by decide +kernel
theorem dX4_load_40 : decode cX4_load 40 = .ok (.aload_n 0, 1) := by decide +kernel
theorem dX4_load_41 : decode cX4_load 41 = .ok (.getfield 37, 3) := by decide +kernel
theorem dX4_load_44 : decode cX4_load 44 = .ok (.iload_n 1, 1) := by decide +kernel
theorem dX4_load_45 : decode cX4_load 45 = .ok (.iconst 0, 1) := by decide +kernel
theorem dX4_load_46 : decode cX4_load 46 = .ok (.bastore, 1) := by decide +kernel
theorem dX4_load_47 : decode cX4_load 47 = .ok (.iinc 1 1, 3) := by decide +kernel
theorem dX4_load_50 : decode cX4_load 50 = .ok (.goto (-15), 3) := by decide +kernel
theorem dX4_load_53 : decode cX4_load 53 = .ok (.iconst 0, 1) := by decide +kernel
theorem dX4_load_54 : decode cX4_load 54 = .ok (.istore_n 1, 1) := by decide +kernel
theorem dX4_load_55 : decode cX4_load 55 = .ok (.aload_n 0, 1) := by decide +kernel
theorem dX4_load_56 : decode cX4_load 56 = .ok (.getfield 10, 3) := by decide +kernel
theorem dX4_load_59 : decode cX4_load 59 = .ok (.invokevirtual 72, 3) := by decide +kernel
theorem dX4_load_62 : decode cX4_load 62 = .ok (.iconst 0, 1) := by decide +kernel
theorem dX4_load_63 : decode cX4_load 63 = .ok (.istore_n 2, 1) := by decide +kernel
theorem dX4_load_64 : decode cX4_load 64 = .ok (.iload_n 2, 1) := by decide +kernel
theorem dX4_load_65 : decode cX4_load 65 = .ok (.bipush 120, 2) := by decide +kernel
theorem dX4_load_67 : decode cX4_load 67 = .ok (.if_icmp .ge 53, 3) := by decide +kernel
theorem dX4_load_70 : decode cX4_load 70 = .ok (.aload_n 0, 1) := by decide +kernel
theorem dX4_load_71 : decode cX4_load 71 = .ok (.getfield 10, 3) := by decide +kernel
theorem dX4_load_74 : decode cX4_load 74 = .ok (.invokevirtual 75, 3) := by decide +kernel
theorem dX4_load_77 : decode cX4_load 77 = .ok (.ifCond .eq 43, 3) := by decide +kernel
theorem dX4_load_80 : decode cX4_load 80 = .ok (.aload_n 0, 1) := by decide +kernel
theorem dX4_load_81 : decode cX4_load 81 = .ok (.getfield 19, 3) := by decide +kernel
theorem dX4_load_84 : decode cX4_load 84 = .ok (.aload_n 0, 1) := by decide +kernel
theorem dX4_load_85 : decode cX4_load 85 = .ok (.getfield 10, 3) := by decide +kernel
theorem dX4_load_88 : decode cX4_load 88 = .ok (.getfield 78, 3) := by decide +kernel
theorem dX4_load_91 : decode cX4_load 91 = .ok (.aload_n 0, 1) := by decide +kernel
theorem dX4_load_92 : decode cX4_load 92 = .ok (.getfield 10, 3) := by decide +kernel
theorem dX4_load_95 : decode cX4_load 95 = .ok (.getfield 82, 3) := by decide +kernel
theorem dX4_load_98 : decode cX4_load 98 = .ok (.aload_n 0, 1) := by decide +kernel
theorem dX4_load_99 : decode cX4_load 99 = .ok (.getfield 10, 3) := by decide +kernel
theorem dX4_load_102 : decode cX4_load 102 = .ok (.getfield 85, 3) := by decide +kernel
theorem dX4_load_105 : decode cX4_load 105 = .ok (.invokestatic 88, 3) := by decide +kernel
theorem dX4_load_108 : decode cX4_load 108 = .ok (.ifCond .ne 6, 3) := by decide +kernel
theorem dX4_load_111 : decode cX4_load 111 = .ok (.iinc 1 1, 3) := by decide +kernel
theorem dX4_load_114 : decode cX4_load 114 = .ok (.iinc 2 1, 3) := by decide +kernel
theorem dX4_load_117 : decode cX4_load 117 = .ok (.goto (-53), 3) := by decide +kernel
theorem dX4_load_120 : decode cX4_load 120 = .ok (.iload_n 1, 1) := by decide +kernel
theorem dX4_load_121 : decode cX4_load 121 = .ok (.ireturn, 1) := by decide +kernel
theorem dX4_about_0 : decode cX4_about 0 = .ok (.iload_n 1, 1) := by decide +kernel
theorem dX4_about_1 : decode cX4_about 1 = .ok (.tableswitch 123 0 8 #[51, 59, 67, 75, 83, 91, 99, 107, 115], 51) := by decide +kernel
theorem dX4_about_52 : decode cX4_about 52 = .ok (.aload_n 0, 1) := by decide +kernel
theorem dX4_about_53 : decode cX4_about 53 = .ok (.getfield 19, 3) := by decide +kernel
theorem dX4_about_56 : decode cX4_about 56 = .ok (.getfield 92, 3) := by decide +kernel
theorem dX4_about_59 : decode cX4_about 59 = .ok (.ireturn, 1) := by decide +kernel
theorem dX4_about_60 : decode cX4_about 60 = .ok (.aload_n 0, 1) := by decide +kernel
theorem dX4_about_61 : decode cX4_about 61 = .ok (.getfield 19, 3) := by decide +kernel
theorem dX4_about_64 : decode cX4_about 64 = .ok (.getfield 95, 3) := by decide +kernel
theorem dX4_about_67 : decode cX4_about 67 = .ok (.ireturn, 1) := by decide +kernel
theorem dX4_about_68 : decode cX4_about 68 = .ok (.aload_n 0, 1) := by decide +kernel
theorem dX4_about_69 : decode cX4_about 69 = .ok (.getfield 19, 3) := by decide +kernel
theorem dX4_about_72 : decode cX4_about 72 = .ok (.invokevirtual 98, 3) := by decide +kernel
theorem dX4_about_75 : decode cX4_about 75 = .ok (.ireturn, 1) := by decide +kernel
theorem dX4_about_76 : decode cX4_about 76 = .ok (.aload_n 0, 1) := by decide +kernel
theorem dX4_about_77 : decode cX4_about 77 = .ok (.getfield 19, 3) := by decide +kernel
theorem dX4_about_80 : decode cX4_about 80 = .ok (.invokevirtual 101, 3) := by decide +kernel
theorem dX4_about_83 : decode cX4_about 83 = .ok (.ireturn, 1) := by decide +kernel
theorem dX4_about_84 : decode cX4_about 84 = .ok (.aload_n 0, 1) := by decide +kernel
theorem dX4_about_85 : decode cX4_about 85 = .ok (.getfield 19, 3) := by decide +kernel
theorem dX4_about_88 : decode cX4_about 88 = .ok (.invokevirtual 104, 3) := by decide +kernel
theorem dX4_about_91 : decode cX4_about 91 = .ok (.ireturn, 1) := by decide +kernel
theorem dX4_about_92 : decode cX4_about 92 = .ok (.aload_n 0, 1) := by decide +kernel
theorem dX4_about_93 : decode cX4_about 93 = .ok (.getfield 19, 3) := by decide +kernel
theorem dX4_about_96 : decode cX4_about 96 = .ok (.invokevirtual 107, 3) := by decide +kernel
theorem dX4_about_99 : decode cX4_about 99 = .ok (.ireturn, 1) := by decide +kernel
theorem dX4_about_100 : decode cX4_about 100 = .ok (.aload_n 0, 1) := by decide +kernel
theorem dX4_about_101 : decode cX4_about 101 = .ok (.getfield 19, 3) := by decide +kernel
theorem dX4_about_104 : decode cX4_about 104 = .ok (.getfield 110, 3) := by decide +kernel
theorem dX4_about_107 : decode cX4_about 107 = .ok (.ireturn, 1) := by decide +kernel
theorem dX4_about_108 : decode cX4_about 108 = .ok (.aload_n 0, 1) := by decide +kernel
theorem dX4_about_109 : decode cX4_about 109 = .ok (.getfield 19, 3) := by decide +kernel
theorem dX4_about_112 : decode cX4_about 112 = .ok (.getfield 113, 3) := by decide +kernel
theorem dX4_about_115 : decode cX4_about 115 = .ok (.ireturn, 1) := by decide +kernel
theorem dX4_about_116 : decode cX4_about 116 = .ok (.aload_n 0, 1) := by decide +kernel
theorem dX4_about_117 : decode cX4_about 117 = .ok (.getfield 19, 3) := by decide +kernel
theorem dX4_about_120 : decode cX4_about 120 = .ok (.getfield 116, 3) := by decide +kernel
theorem dX4_about_123 : decode cX4_about 123 = .ok (.ireturn, 1) := by decide +kernel
theorem dX4_about_124 : decode cX4_about 124 = .ok (.new 45, 3) := by decide +kernel
theorem dX4_about_127 : decode cX4_about 127 = .ok (.dup, 1) := by decide +kernel
theorem dX4_about_128 : decode cX4_about 128 = .ok (.invokespecial 47, 3) := by decide +kernel
theorem dX4_about_131 : decode cX4_about 131 = .ok (.athrow, 1) := by decide +kernel
theorem dX4_task_0 : decode cX4_task 0 = .ok (.aload_n 0, 1) := by decide +kernel
theorem dX4_task_1 : decode cX4_task 1 = .ok (.getfield 19, 3) := by decide +kernel
theorem dX4_task_4 : decode cX4_task 4 = .ok (.iload_n 1, 1) := by decide +kernel
theorem dX4_task_5 : decode cX4_task 5 = .ok (.invokevirtual 119, 3) := by decide +kernel
theorem dX4_task_8 : decode cX4_task 8 = .ok (.astore_n 3, 1) := by decide +kernel
theorem dX4_task_9 : decode cX4_task 9 = .ok (.aload_n 3, 1) := by decide +kernel
theorem dX4_task_10 : decode cX4_task 10 = .ok (.ifnonnull 11, 3) := by decide +kernel
theorem dX4_task_13 : decode cX4_task 13 = .ok (.new 123, 3) := by decide +kernel
theorem dX4_task_16 : decode cX4_task 16 = .ok (.dup, 1) := by decide +kernel
theorem dX4_task_17 : decode cX4_task 17 = .ok (.invokespecial 125, 3) := by decide +kernel
theorem dX4_task_20 : decode cX4_task 20 = .ok (.athrow, 1) := by decide +kernel
theorem dX4_task_21 : decode cX4_task 21 = .ok (.iload_n 2, 1) := by decide +kernel
theorem dX4_task_22 : decode cX4_task 22 = .ok (.tableswitch 68 0 5 #[38, 43, 48, 53, 58, 63], 38) := by decide +kernel
theorem dX4_task_60 : decode cX4_task 60 = .ok (.aload_n 3, 1) := by decide +kernel
theorem dX4_task_61 : decode cX4_task 61 = .ok (.getfield 126, 3) := by decide +kernel
theorem dX4_task_64 : decode cX4_task 64 = .ok (.ireturn, 1) := by decide +kernel
theorem dX4_task_65 : decode cX4_task 65 = .ok (.aload_n 3, 1) := by decide +kernel
theorem dX4_task_66 : decode cX4_task 66 = .ok (.getfield 131, 3) := by decide +kernel
theorem dX4_task_69 : decode cX4_task 69 = .ok (.ireturn, 1) := by decide +kernel
theorem dX4_task_70 : decode cX4_task 70 = .ok (.aload_n 3, 1) := by decide +kernel
theorem dX4_task_71 : decode cX4_task 71 = .ok (.getfield 134, 3) := by decide +kernel
theorem dX4_task_74 : decode cX4_task 74 = .ok (.ireturn, 1) := by decide +kernel
theorem dX4_task_75 : decode cX4_task 75 = .ok (.aload_n 3, 1) := by decide +kernel
theorem dX4_task_76 : decode cX4_task 76 = .ok (.getfield 137, 3) := by decide +kernel
theorem dX4_task_79 : decode cX4_task 79 = .ok (.ireturn, 1) := by decide +kernel
theorem dX4_task_80 : decode cX4_task 80 = .ok (.aload_n 3, 1) := by decide +kernel
theorem dX4_task_81 : decode cX4_task 81 = .ok (.getfield 140, 3) := by decide +kernel
theorem dX4_task_84 : decode cX4_task 84 = .ok (.ireturn, 1) := by decide +kernel
theorem dX4_task_85 : decode cX4_task 85 = .ok (.aload_n 3, 1) := by decide +kernel
theorem dX4_task_86 : decode cX4_task 86 = .ok (.getfield 143, 3) := by decide +kernel
theorem dX4_task_89 : decode cX4_task 89 = .ok (.ireturn, 1) := by decide +kernel
theorem dX4_task_90 : decode cX4_task 90 = .ok (.new 45, 3) := by decide +kernel
theorem dX4_task_93 : decode cX4_task 93 = .ok (.dup, 1) := by decide +kernel
theorem dX4_task_94 : decode cX4_task 94 = .ok (.invokespecial 47, 3) := by decide +kernel
theorem dX4_task_97 : decode cX4_task 97 = .ok (.athrow, 1) := by decide +kernel
theorem dX4_stripe_0 : decode cX4_stripe 0 = .ok (.iload_n 1, 1) := by decide +kernel
theorem dX4_stripe_1 : decode cX4_stripe 1 = .ok (.invokestatic 144, 3) := by decide +kernel
theorem dX4_stripe_4 : decode cX4_stripe 4 = .ok (.ifCond .ne 11, 3) := by decide +kernel
theorem dX4_stripe_7 : decode cX4_stripe 7 = .ok (.new 123, 3) := by decide +kernel
theorem dX4_stripe_10 : decode cX4_stripe 10 = .ok (.dup, 1) := by decide +kernel
theorem dX4_stripe_11 : decode cX4_stripe 11 = .ok (.invokespecial 125, 3) := by decide +kernel
theorem dX4_stripe_14 : decode cX4_stripe 14 = .ok (.athrow, 1) := by decide +kernel
theorem dX4_stripe_15 : decode cX4_stripe 15 = .ok (.iload_n 2, 1) := by decide +kernel
theorem dX4_stripe_16 : decode cX4_stripe 16 = .ok (.tableswitch 63 0 2 #[28, 37, 46], 28) := by decide +kernel
theorem dX4_stripe_44 : decode cX4_stripe 44 = .ok (.aload_n 0, 1) := by decide +kernel
theorem dX4_stripe_45 : decode cX4_stripe 45 = .ok (.getfield 19, 3) := by decide +kernel
theorem dX4_stripe_48 : decode cX4_stripe 48 = .ok (.iload_n 1, 1) := by decide +kernel
theorem dX4_stripe_49 : decode cX4_stripe 49 = .ok (.invokevirtual 148, 3) := by decide +kernel
theorem dX4_stripe_52 : decode cX4_stripe 52 = .ok (.ireturn, 1) := by decide +kernel
theorem dX4_stripe_53 : decode cX4_stripe 53 = .ok (.aload_n 0, 1) := by decide +kernel
theorem dX4_stripe_54 : decode cX4_stripe 54 = .ok (.getfield 19, 3) := by decide +kernel
theorem dX4_stripe_57 : decode cX4_stripe 57 = .ok (.iload_n 1, 1) := by decide +kernel
theorem dX4_stripe_58 : decode cX4_stripe 58 = .ok (.invokevirtual 152, 3) := by decide +kernel
theorem dX4_stripe_61 : decode cX4_stripe 61 = .ok (.ireturn, 1) := by decide +kernel
theorem dX4_stripe_62 : decode cX4_stripe 62 = .ok (.aload_n 0, 1) := by decide +kernel
theorem dX4_stripe_63 : decode cX4_stripe 63 = .ok (.getfield 19, 3) := by decide +kernel
theorem dX4_stripe_66 : decode cX4_stripe 66 = .ok (.iload_n 1, 1) := by decide +kernel
theorem dX4_stripe_67 : decode cX4_stripe 67 = .ok (.invokevirtual 155, 3) := by decide +kernel
theorem dX4_stripe_70 : decode cX4_stripe 70 = .ok (.ifCond .eq 7, 3) := by decide +kernel
theorem dX4_stripe_73 : decode cX4_stripe 73 = .ok (.iconst 1, 1) := by decide +kernel
theorem dX4_stripe_74 : decode cX4_stripe 74 = .ok (.goto 4, 3) := by decide +kernel
theorem dX4_stripe_77 : decode cX4_stripe 77 = .ok (.iconst 0, 1) := by decide +kernel
theorem dX4_stripe_78 : decode cX4_stripe 78 = .ok (.ireturn, 1) := by decide +kernel
theorem dX4_stripe_79 : decode cX4_stripe 79 = .ok (.new 45, 3) := by decide +kernel
theorem dX4_stripe_82 : decode cX4_stripe 82 = .ok (.dup, 1) := by decide +kernel
theorem dX4_stripe_83 : decode cX4_stripe 83 = .ok (.invokespecial 47, 3) := by decide +kernel
theorem dX4_stripe_86 : decode cX4_stripe 86 = .ok (.athrow, 1) := by decide +kernel
theorem dX4_job_0 : decode cX4_job 0 = .ok (.iload_n 1, 1) := by decide +kernel
theorem dX4_job_1 : decode cX4_job 1 = .ok (.iconst 0, 1) := by decide +kernel
theorem dX4_job_2 : decode cX4_job 2 = .ok (.iconst 2, 1) := by decide +kernel
theorem dX4_job_3 : decode cX4_job 3 = .ok (.invokestatic 41, 3) := by decide +kernel
theorem dX4_job_6 : decode cX4_job 6 = .ok (.ifCond .ne 11, 3) := by decide +kernel
theorem dX4_job_9 : decode cX4_job 9 = .ok (.new 45, 3) := by decide +kernel
theorem dX4_job_12 : decode cX4_job 12 = .ok (.dup, 1) := by decide +kernel
theorem dX4_job_13 : decode cX4_job 13 = .ok (.invokespecial 47, 3) := by decide +kernel
theorem dX4_job_16 : decode cX4_job 16 = .ok (.athrow, 1) := by decide +kernel
theorem dX4_job_17 : decode cX4_job 17 = .ok (.aload_n 0, 1) := by decide +kernel
theorem dX4_job_18 : decode cX4_job 18 = .ok (.getfield 19, 3) := by decide +kernel
theorem dX4_job_21 : decode cX4_job 21 = .ok (.invokevirtual 158, 3) := by decide +kernel
theorem dX4_job_24 : decode cX4_job 24 = .ok (.ifCond .eq 5, 3) := by decide +kernel
theorem dX4_job_27 : decode cX4_job 27 = .ok (.iconst (-1), 1) := by decide +kernel
theorem dX4_job_28 : decode cX4_job 28 = .ok (.ireturn, 1) := by decide +kernel
theorem dX4_job_29 : decode cX4_job 29 = .ok (.iload_n 1, 1) := by decide +kernel
theorem dX4_job_30 : decode cX4_job 30 = .ok (.ifCond .ne 11, 3) := by decide +kernel
theorem dX4_job_33 : decode cX4_job 33 = .ok (.aload_n 0, 1) := by decide +kernel
theorem dX4_job_34 : decode cX4_job 34 = .ok (.getfield 19, 3) := by decide +kernel
theorem dX4_job_37 : decode cX4_job 37 = .ok (.getfield 161, 3) := by decide +kernel
theorem dX4_job_40 : decode cX4_job 40 = .ok (.ireturn, 1) := by decide +kernel
theorem dX4_job_41 : decode cX4_job 41 = .ok (.iload_n 1, 1) := by decide +kernel
theorem dX4_job_42 : decode cX4_job 42 = .ok (.iconst 1, 1) := by decide +kernel
theorem dX4_job_43 : decode cX4_job 43 = .ok (.if_icmp .ne 13, 3) := by decide +kernel
theorem dX4_job_46 : decode cX4_job 46 = .ok (.aload_n 0, 1) := by decide +kernel
theorem dX4_job_47 : decode cX4_job 47 = .ok (.getfield 19, 3) := by decide +kernel
theorem dX4_job_50 : decode cX4_job 50 = .ok (.getfield 164, 3) := by decide +kernel
theorem dX4_job_53 : decode cX4_job 53 = .ok (.goto 10, 3) := by decide +kernel
theorem dX4_job_56 : decode cX4_job 56 = .ok (.aload_n 0, 1) := by decide +kernel
theorem dX4_job_57 : decode cX4_job 57 = .ok (.getfield 19, 3) := by decide +kernel
theorem dX4_job_60 : decode cX4_job 60 = .ok (.getfield 167, 3) := by decide +kernel
theorem dX4_job_63 : decode cX4_job 63 = .ok (.ireturn, 1) := by decide +kernel
theorem dX4_setting_0 : decode cX4_setting 0 = .ok (.iload_n 1, 1) := by decide +kernel
theorem dX4_setting_1 : decode cX4_setting 1 = .ok (.invokestatic 170, 3) := by decide +kernel
theorem dX4_setting_4 : decode cX4_setting 4 = .ok (.ifCond .ne 11, 3) := by decide +kernel
theorem dX4_setting_7 : decode cX4_setting 7 = .ok (.new 45, 3) := by decide +kernel
theorem dX4_setting_10 : decode cX4_setting 10 = .ok (.dup, 1) := by decide +kernel
theorem dX4_setting_11 : decode cX4_setting 11 = .ok (.invokespecial 47, 3) := by decide +kernel
theorem dX4_setting_14 : decode cX4_setting 14 = .ok (.athrow, 1) := by decide +kernel
theorem dX4_setting_15 : decode cX4_setting 15 = .ok (.aload_n 0, 1) := by decide +kernel
theorem dX4_setting_16 : decode cX4_setting 16 = .ok (.getfield 19, 3) := by decide +kernel
theorem dX4_setting_19 : decode cX4_setting 19 = .ok (.getfield 173, 3) := by decide +kernel
theorem dX4_setting_22 : decode cX4_setting 22 = .ok (.iload_n 1, 1) := by decide +kernel
theorem dX4_setting_23 : decode cX4_setting 23 = .ok (.iaload, 1) := by decide +kernel
theorem dX4_setting_24 : decode cX4_setting 24 = .ok (.ireturn, 1) := by decide +kernel
theorem dX4_add_0 : decode cX4_add 0 = .ok (.iload_n 1, 1) := by decide +kernel
theorem dX4_add_1 : decode cX4_add 1 = .ok (.invokestatic 177, 3) := by decide +kernel
theorem dX4_add_4 : decode cX4_add 4 = .ok (.ifCond .eq 10, 3) := by decide +kernel
theorem dX4_add_7 : decode cX4_add 7 = .ok (.iload_n 2, 1) := by decide +kernel
theorem dX4_add_8 : decode cX4_add 8 = .ok (.invokestatic 180, 3) := by decide +kernel
theorem dX4_add_11 : decode cX4_add 11 = .ok (.ifCond .ne 11, 3) := by decide +kernel
theorem dX4_add_14 : decode cX4_add 14 = .ok (.new 45, 3) := by decide +kernel
theorem dX4_add_17 : decode cX4_add 17 = .ok (.dup, 1) := by decide +kernel
theorem dX4_add_18 : decode cX4_add 18 = .ok (.invokespecial 47, 3) := by decide +kernel
theorem dX4_add_21 : decode cX4_add 21 = .ok (.athrow, 1) := by decide +kernel
theorem dX4_add_22 : decode cX4_add 22 = .ok (.aload_n 0, 1) := by decide +kernel
theorem dX4_add_23 : decode cX4_add 23 = .ok (.getfield 19, 3) := by decide +kernel
theorem dX4_add_26 : decode cX4_add 26 = .ok (.invokevirtual 183, 3) := by decide +kernel
theorem dX4_add_29 : decode cX4_add 29 = .ok (.ifCond .ne 11, 3) := by decide +kernel
theorem dX4_add_32 : decode cX4_add 32 = .ok (.new 52, 3) := by decide +kernel
theorem dX4_add_35 : decode cX4_add 35 = .ok (.dup, 1) := by decide +kernel
theorem dX4_add_36 : decode cX4_add 36 = .ok (.invokespecial 54, 3) := by decide +kernel
theorem dX4_add_39 : decode cX4_add 39 = .ok (.athrow, 1) := by decide +kernel
theorem dX4_add_40 : decode cX4_add 40 = .ok (.aload_n 0, 1) := by decide +kernel
theorem dX4_add_41 : decode cX4_add 41 = .ok (.getfield 29, 3) := by decide +kernel
theorem dX4_add_44 : decode cX4_add 44 = .ok (.aload_n 0, 1) := by decide +kernel
theorem dX4_add_45 : decode cX4_add 45 = .ok (.getfield 19, 3) := by decide +kernel
theorem dX4_add_48 : decode cX4_add 48 = .ok (.invokevirtual 186, 3) := by decide +kernel
theorem dX4_add_51 : decode cX4_add 51 = .ok (.aload_n 0, 1) := by decide +kernel
theorem dX4_add_52 : decode cX4_add 52 = .ok (.getfield 19, 3) := by decide +kernel
theorem dX4_add_55 : decode cX4_add 55 = .ok (.iload_n 1, 1) := by decide +kernel
theorem dX4_add_56 : decode cX4_add 56 = .ok (.iload_n 2, 1) := by decide +kernel
theorem dX4_add_57 : decode cX4_add 57 = .ok (.invokevirtual 190, 3) := by decide +kernel
theorem dX4_add_60 : decode cX4_add 60 = .ok (.ireturn, 1) := by decide +kernel
theorem dX4_bring_0 : decode cX4_bring 0 = .ok (.aload_n 0, 1) := by decide +kernel
theorem dX4_bring_1 : decode cX4_bring 1 = .ok (.getfield 19, 3) := by decide +kernel
theorem dX4_bring_4 : decode cX4_bring 4 = .ok (.iload_n 1, 1) := by decide +kernel
theorem dX4_bring_5 : decode cX4_bring 5 = .ok (.invokevirtual 194, 3) := by decide +kernel
theorem dX4_bring_8 : decode cX4_bring 8 = .ok (.ifCond .eq 10, 3) := by decide +kernel
theorem dX4_bring_11 : decode cX4_bring 11 = .ok (.iload_n 2, 1) := by decide +kernel
theorem dX4_bring_12 : decode cX4_bring 12 = .ok (.invokestatic 144, 3) := by decide +kernel
theorem dX4_bring_15 : decode cX4_bring 15 = .ok (.ifCond .ne 11, 3) := by decide +kernel
theorem dX4_bring_18 : decode cX4_bring 18 = .ok (.new 123, 3) := by decide +kernel
theorem dX4_bring_21 : decode cX4_bring 21 = .ok (.dup, 1) := by decide +kernel
theorem dX4_bring_22 : decode cX4_bring 22 = .ok (.invokespecial 125, 3) := by decide +kernel
theorem dX4_bring_25 : decode cX4_bring 25 = .ok (.athrow, 1) := by decide +kernel
theorem dX4_bring_26 : decode cX4_bring 26 = .ok (.aload_n 0, 1) := by decide +kernel
theorem dX4_bring_27 : decode cX4_bring 27 = .ok (.getfield 19, 3) := by decide +kernel
theorem dX4_bring_30 : decode cX4_bring 30 = .ok (.iload_n 1, 1) := by decide +kernel
theorem dX4_bring_31 : decode cX4_bring 31 = .ok (.iload_n 2, 1) := by decide +kernel
theorem dX4_bring_32 : decode cX4_bring 32 = .ok (.invokevirtual 197, 3) := by decide +kernel
theorem dX4_bring_35 : decode cX4_bring 35 = .ok (.ifCond .ne 11, 3) := by decide +kernel
theorem dX4_bring_38 : decode cX4_bring 38 = .ok (.new 52, 3) := by decide +kernel
theorem dX4_bring_41 : decode cX4_bring 41 = .ok (.dup, 1) := by decide +kernel
theorem dX4_bring_42 : decode cX4_bring 42 = .ok (.invokespecial 54, 3) := by decide +kernel
theorem dX4_bring_45 : decode cX4_bring 45 = .ok (.athrow, 1) := by decide +kernel
theorem dX4_bring_46 : decode cX4_bring 46 = .ok (.aload_n 0, 1) := by decide +kernel
theorem dX4_bring_47 : decode cX4_bring 47 = .ok (.getfield 29, 3) := by decide +kernel
theorem dX4_bring_50 : decode cX4_bring 50 = .ok (.aload_n 0, 1) := by decide +kernel
theorem dX4_bring_51 : decode cX4_bring 51 = .ok (.getfield 19, 3) := by decide +kernel
theorem dX4_bring_54 : decode cX4_bring 54 = .ok (.invokevirtual 186, 3) := by decide +kernel
theorem dX4_bring_57 : decode cX4_bring 57 = .ok (.aload_n 0, 1) := by decide +kernel
theorem dX4_bring_58 : decode cX4_bring 58 = .ok (.getfield 19, 3) := by decide +kernel
theorem dX4_bring_61 : decode cX4_bring 61 = .ok (.iload_n 1, 1) := by decide +kernel
theorem dX4_bring_62 : decode cX4_bring 62 = .ok (.iload_n 2, 1) := by decide +kernel
theorem dX4_bring_63 : decode cX4_bring 63 = .ok (.invokevirtual 201, 3) := by decide +kernel
theorem dX4_bring_66 : decode cX4_bring 66 = .ok (.ireturn, 1) := by decide +kernel
theorem dX4_stop_0 : decode cX4_stop 0 = .ok (.aload_n 0, 1) := by decide +kernel
theorem dX4_stop_1 : decode cX4_stop 1 = .ok (.getfield 19, 3) := by decide +kernel
theorem dX4_stop_4 : decode cX4_stop 4 = .ok (.iload_n 1, 1) := by decide +kernel
theorem dX4_stop_5 : decode cX4_stop 5 = .ok (.invokevirtual 194, 3) := by decide +kernel
theorem dX4_stop_8 : decode cX4_stop 8 = .ok (.ifCond .ne 11, 3) := by decide +kernel
theorem dX4_stop_11 : decode cX4_stop 11 = .ok (.new 123, 3) := by decide +kernel
theorem dX4_stop_14 : decode cX4_stop 14 = .ok (.dup, 1) := by decide +kernel
theorem dX4_stop_15 : decode cX4_stop 15 = .ok (.invokespecial 125, 3) := by decide +kernel
theorem dX4_stop_18 : decode cX4_stop 18 = .ok (.athrow, 1) := by decide +kernel
theorem dX4_stop_19 : decode cX4_stop 19 = .ok (.aload_n 0, 1) := by decide +kernel
theorem dX4_stop_20 : decode cX4_stop 20 = .ok (.getfield 19, 3) := by decide +kernel
theorem dX4_stop_23 : decode cX4_stop 23 = .ok (.iload_n 1, 1) := by decide +kernel
theorem dX4_stop_24 : decode cX4_stop 24 = .ok (.invokevirtual 204, 3) := by decide +kernel
theorem dX4_stop_27 : decode cX4_stop 27 = .ok (.ifCond .ne 11, 3) := by decide +kernel
theorem dX4_stop_30 : decode cX4_stop 30 = .ok (.new 52, 3) := by decide +kernel
theorem dX4_stop_33 : decode cX4_stop 33 = .ok (.dup, 1) := by decide +kernel
theorem dX4_stop_34 : decode cX4_stop 34 = .ok (.invokespecial 54, 3) := by decide +kernel
theorem dX4_stop_37 : decode cX4_stop 37 = .ok (.athrow, 1) := by decide +kernel
theorem dX4_stop_38 : decode cX4_stop 38 = .ok (.aload_n 0, 1) := by decide +kernel
theorem dX4_stop_39 : decode cX4_stop 39 = .ok (.getfield 29, 3) := by decide +kernel
theorem dX4_stop_42 : decode cX4_stop 42 = .ok (.aload_n 0, 1) := by decide +kernel
theorem dX4_stop_43 : decode cX4_stop 43 = .ok (.getfield 19, 3) := by decide +kernel
theorem dX4_stop_46 : decode cX4_stop 46 = .ok (.invokevirtual 186, 3) := by decide +kernel
theorem dX4_stop_49 : decode cX4_stop 49 = .ok (.aload_n 0, 1) := by decide +kernel
theorem dX4_stop_50 : decode cX4_stop 50 = .ok (.getfield 19, 3) := by decide +kernel
theorem dX4_stop_53 : decode cX4_stop 53 = .ok (.iload_n 1, 1) := by decide +kernel
theorem dX4_stop_54 : decode cX4_stop 54 = .ok (.invokevirtual 207, 3) := by decide +kernel
theorem dX4_stop_57 : decode cX4_stop 57 = .ok (.ireturn, 1) := by decide +kernel
theorem dX4_turnBad_0 : decode cX4_turnBad 0 = .ok (.iload_n 1, 1) := by decide +kernel
theorem dX4_turnBad_1 : decode cX4_turnBad 1 = .ok (.invokestatic 144, 3) := by decide +kernel
theorem dX4_turnBad_4 : decode cX4_turnBad 4 = .ok (.ifCond .ne 11, 3) := by decide +kernel
theorem dX4_turnBad_7 : decode cX4_turnBad 7 = .ok (.new 123, 3) := by decide +kernel
theorem dX4_turnBad_10 : decode cX4_turnBad 10 = .ok (.dup, 1) := by decide +kernel
theorem dX4_turnBad_11 : decode cX4_turnBad 11 = .ok (.invokespecial 125, 3) := by decide +kernel
theorem dX4_turnBad_14 : decode cX4_turnBad 14 = .ok (.athrow, 1) := by decide +kernel
theorem dX4_turnBad_15 : decode cX4_turnBad 15 = .ok (.aload_n 0, 1) := by decide +kernel
theorem dX4_turnBad_16 : decode cX4_turnBad 16 = .ok (.getfield 29, 3) := by decide +kernel
theorem dX4_turnBad_19 : decode cX4_turnBad 19 = .ok (.aload_n 0, 1) := by decide +kernel
theorem dX4_turnBad_20 : decode cX4_turnBad 20 = .ok (.getfield 19, 3) := by decide +kernel
theorem dX4_turnBad_23 : decode cX4_turnBad 23 = .ok (.invokevirtual 186, 3) := by decide +kernel
theorem dX4_turnBad_26 : decode cX4_turnBad 26 = .ok (.aload_n 0, 1) := by decide +kernel
theorem dX4_turnBad_27 : decode cX4_turnBad 27 = .ok (.getfield 19, 3) := by decide +kernel
theorem dX4_turnBad_30 : decode cX4_turnBad 30 = .ok (.iload_n 1, 1) := by decide +kernel
theorem dX4_turnBad_31 : decode cX4_turnBad 31 = .ok (.invokevirtual 210, 3) := by decide +kernel
theorem dX4_turnBad_34 : decode cX4_turnBad 34 = .ok (.ireturn, 1) := by decide +kernel
theorem dX4_mend_0 : decode cX4_mend 0 = .ok (.iload_n 1, 1) := by decide +kernel
theorem dX4_mend_1 : decode cX4_mend 1 = .ok (.invokestatic 144, 3) := by decide +kernel
theorem dX4_mend_4 : decode cX4_mend 4 = .ok (.ifCond .ne 11, 3) := by decide +kernel
theorem dX4_mend_7 : decode cX4_mend 7 = .ok (.new 123, 3) := by decide +kernel
theorem dX4_mend_10 : decode cX4_mend 10 = .ok (.dup, 1) := by decide +kernel
theorem dX4_mend_11 : decode cX4_mend 11 = .ok (.invokespecial 125, 3) := by decide +kernel
theorem dX4_mend_14 : decode cX4_mend 14 = .ok (.athrow, 1) := by decide +kernel
theorem dX4_mend_15 : decode cX4_mend 15 = .ok (.aload_n 0, 1) := by decide +kernel
theorem dX4_mend_16 : decode cX4_mend 16 = .ok (.getfield 29, 3) := by decide +kernel
theorem dX4_mend_19 : decode cX4_mend 19 = .ok (.aload_n 0, 1) := by decide +kernel
theorem dX4_mend_20 : decode cX4_mend 20 = .ok (.getfield 19, 3) := by decide +kernel
theorem dX4_mend_23 : decode cX4_mend 23 = .ok (.invokevirtual 186, 3) := by decide +kernel
theorem dX4_mend_26 : decode cX4_mend 26 = .ok (.aload_n 0, 1) := by decide +kernel
theorem dX4_mend_27 : decode cX4_mend 27 = .ok (.getfield 19, 3) := by decide +kernel
theorem dX4_mend_30 : decode cX4_mend 30 = .ok (.iload_n 1, 1) := by decide +kernel
theorem dX4_mend_31 : decode cX4_mend 31 = .ok (.invokevirtual 213, 3) := by decide +kernel
theorem dX4_mend_34 : decode cX4_mend 34 = .ok (.ireturn, 1) := by decide +kernel
theorem dX4_run_0 : decode cX4_run 0 = .ok (.iload_n 1, 1) := by decide +kernel
theorem dX4_run_1 : decode cX4_run 1 = .ok (.iconst 1, 1) := by decide +kernel
theorem dX4_run_2 : decode cX4_run 2 = .ok (.bipush 60, 2) := by decide +kernel
theorem dX4_run_4 : decode cX4_run 4 = .ok (.invokestatic 41, 3) := by decide +kernel
theorem dX4_run_7 : decode cX4_run 7 = .ok (.ifCond .ne 11, 3) := by decide +kernel
theorem dX4_run_10 : decode cX4_run 10 = .ok (.new 45, 3) := by decide +kernel
theorem dX4_run_13 : decode cX4_run 13 = .ok (.dup, 1) := by decide +kernel
theorem dX4_run_14 : decode cX4_run 14 = .ok (.invokespecial 47, 3) := by decide +kernel
theorem dX4_run_17 : decode cX4_run 17 = .ok (.athrow, 1) := by decide +kernel
theorem dX4_run_18 : decode cX4_run 18 = .ok (.aload_n 0, 1) := by decide +kernel
theorem dX4_run_19 : decode cX4_run 19 = .ok (.getfield 29, 3) := by decide +kernel
theorem dX4_run_22 : decode cX4_run 22 = .ok (.aload_n 0, 1) := by decide +kernel
theorem dX4_run_23 : decode cX4_run 23 = .ok (.getfield 19, 3) := by decide +kernel
theorem dX4_run_26 : decode cX4_run 26 = .ok (.invokevirtual 186, 3) := by decide +kernel
theorem dX4_run_29 : decode cX4_run 29 = .ok (.aload_n 0, 1) := by decide +kernel
theorem dX4_run_30 : decode cX4_run 30 = .ok (.getfield 19, 3) := by decide +kernel
theorem dX4_run_33 : decode cX4_run 33 = .ok (.iload_n 1, 1) := by decide +kernel
theorem dX4_run_34 : decode cX4_run 34 = .ok (.invokevirtual 216, 3) := by decide +kernel
theorem dX4_run_37 : decode cX4_run 37 = .ok (.ireturn, 1) := by decide +kernel
theorem dX4_set_0 : decode cX4_set 0 = .ok (.iload_n 1, 1) := by decide +kernel
theorem dX4_set_1 : decode cX4_set 1 = .ok (.invokestatic 170, 3) := by decide +kernel
theorem dX4_set_4 : decode cX4_set 4 = .ok (.ifCond .eq 20, 3) := by decide +kernel
theorem dX4_set_7 : decode cX4_set 7 = .ok (.iload_n 2, 1) := by decide +kernel
theorem dX4_set_8 : decode cX4_set 8 = .ok (.getstatic 219, 3) := by decide +kernel
theorem dX4_set_11 : decode cX4_set 11 = .ok (.iload_n 1, 1) := by decide +kernel
theorem dX4_set_12 : decode cX4_set 12 = .ok (.iaload, 1) := by decide +kernel
theorem dX4_set_13 : decode cX4_set 13 = .ok (.getstatic 222, 3) := by decide +kernel
theorem dX4_set_16 : decode cX4_set 16 = .ok (.iload_n 1, 1) := by decide +kernel
theorem dX4_set_17 : decode cX4_set 17 = .ok (.iaload, 1) := by decide +kernel
theorem dX4_set_18 : decode cX4_set 18 = .ok (.invokestatic 41, 3) := by decide +kernel
theorem dX4_set_21 : decode cX4_set 21 = .ok (.ifCond .ne 11, 3) := by decide +kernel
theorem dX4_set_24 : decode cX4_set 24 = .ok (.new 45, 3) := by decide +kernel
theorem dX4_set_27 : decode cX4_set 27 = .ok (.dup, 1) := by decide +kernel
theorem dX4_set_28 : decode cX4_set 28 = .ok (.invokespecial 47, 3) := by decide +kernel
theorem dX4_set_31 : decode cX4_set 31 = .ok (.athrow, 1) := by decide +kernel
theorem dX4_set_32 : decode cX4_set 32 = .ok (.aload_n 0, 1) := by decide +kernel
theorem dX4_set_33 : decode cX4_set 33 = .ok (.getfield 29, 3) := by decide +kernel
theorem dX4_set_36 : decode cX4_set 36 = .ok (.aload_n 0, 1) := by decide +kernel
theorem dX4_set_37 : decode cX4_set 37 = .ok (.getfield 19, 3) := by decide +kernel
theorem dX4_set_40 : decode cX4_set 40 = .ok (.invokevirtual 186, 3) := by decide +kernel
theorem dX4_set_43 : decode cX4_set 43 = .ok (.aload_n 0, 1) := by decide +kernel
theorem dX4_set_44 : decode cX4_set 44 = .ok (.getfield 19, 3) := by decide +kernel
theorem dX4_set_47 : decode cX4_set 47 = .ok (.getfield 173, 3) := by decide +kernel
theorem dX4_set_50 : decode cX4_set 50 = .ok (.iload_n 1, 1) := by decide +kernel
theorem dX4_set_51 : decode cX4_set 51 = .ok (.iaload, 1) := by decide +kernel
theorem dX4_set_52 : decode cX4_set 52 = .ok (.istore_n 3, 1) := by decide +kernel
theorem dX4_set_53 : decode cX4_set 53 = .ok (.aload_n 0, 1) := by decide +kernel
theorem dX4_set_54 : decode cX4_set 54 = .ok (.getfield 19, 3) := by decide +kernel
theorem dX4_set_57 : decode cX4_set 57 = .ok (.getfield 173, 3) := by decide +kernel
theorem dX4_set_60 : decode cX4_set 60 = .ok (.iload_n 1, 1) := by decide +kernel
theorem dX4_set_61 : decode cX4_set 61 = .ok (.iload_n 2, 1) := by decide +kernel
theorem dX4_set_62 : decode cX4_set 62 = .ok (.iastore, 1) := by decide +kernel
theorem dX4_set_63 : decode cX4_set 63 = .ok (.iload_n 3, 1) := by decide +kernel
theorem dX4_set_64 : decode cX4_set 64 = .ok (.ireturn, 1) := by decide +kernel
theorem dX4_undo_0 : decode cX4_undo 0 = .ok (.aload_n 0, 1) := by decide +kernel
theorem dX4_undo_1 : decode cX4_undo 1 = .ok (.getfield 29, 3) := by decide +kernel
theorem dX4_undo_4 : decode cX4_undo 4 = .ok (.getfield 225, 3) := by decide +kernel
theorem dX4_undo_7 : decode cX4_undo 7 = .ok (.ifCond .ne 11, 3) := by decide +kernel
theorem dX4_undo_10 : decode cX4_undo 10 = .ok (.new 52, 3) := by decide +kernel
theorem dX4_undo_13 : decode cX4_undo 13 = .ok (.dup, 1) := by decide +kernel
theorem dX4_undo_14 : decode cX4_undo 14 = .ok (.invokespecial 54, 3) := by decide +kernel
theorem dX4_undo_17 : decode cX4_undo 17 = .ok (.athrow, 1) := by decide +kernel
theorem dX4_undo_18 : decode cX4_undo 18 = .ok (.aload_n 0, 1) := by decide +kernel
theorem dX4_undo_19 : decode cX4_undo 19 = .ok (.getfield 29, 3) := by decide +kernel
theorem dX4_undo_22 : decode cX4_undo 22 = .ok (.aload_n 0, 1) := by decide +kernel
theorem dX4_undo_23 : decode cX4_undo 23 = .ok (.getfield 19, 3) := by decide +kernel
theorem dX4_undo_26 : decode cX4_undo 26 = .ok (.invokevirtual 228, 3) := by decide +kernel
theorem dX4_undo_29 : decode cX4_undo 29 = .ok (.ireturn, 1) := by decide +kernel
theorem dX4_bestGap_0 : decode cX4_bestGap 0 = .ok (.iload_n 1, 1) := by decide +kernel
theorem dX4_bestGap_1 : decode cX4_bestGap 1 = .ok (.invokestatic 177, 3) := by decide +kernel
theorem dX4_bestGap_4 : decode cX4_bestGap 4 = .ok (.ifCond .ne 11, 3) := by decide +kernel
theorem dX4_bestGap_7 : decode cX4_bestGap 7 = .ok (.new 45, 3) := by decide +kernel
theorem dX4_bestGap_10 : decode cX4_bestGap 10 = .ok (.dup, 1) := by decide +kernel
theorem dX4_bestGap_11 : decode cX4_bestGap 11 = .ok (.invokespecial 47, 3) := by decide +kernel
theorem dX4_bestGap_14 : decode cX4_bestGap 14 = .ok (.athrow, 1) := by decide +kernel
theorem dX4_bestGap_15 : decode cX4_bestGap 15 = .ok (.aload_n 0, 1) := by decide +kernel
theorem dX4_bestGap_16 : decode cX4_bestGap 16 = .ok (.getfield 19, 3) := by decide +kernel
theorem dX4_bestGap_19 : decode cX4_bestGap 19 = .ok (.iload_n 1, 1) := by decide +kernel
theorem dX4_bestGap_20 : decode cX4_bestGap 20 = .ok (.invokevirtual 232, 3) := by decide +kernel
theorem dX4_bestGap_23 : decode cX4_bestGap 23 = .ok (.ireturn, 1) := by decide +kernel
theorem dX4_window_0 : decode cX4_window 0 = .ok (.iload_n 1, 1) := by decide +kernel
theorem dX4_window_1 : decode cX4_window 1 = .ok (.iconst 1, 1) := by decide +kernel
theorem dX4_window_2 : decode cX4_window 2 = .ok (.bipush 12, 2) := by decide +kernel
theorem dX4_window_4 : decode cX4_window 4 = .ok (.invokestatic 41, 3) := by decide +kernel
theorem dX4_window_7 : decode cX4_window 7 = .ok (.ifCond .eq 12, 3) := by decide +kernel
theorem dX4_window_10 : decode cX4_window 10 = .ok (.iload_n 2, 1) := by decide +kernel
theorem dX4_window_11 : decode cX4_window 11 = .ok (.iconst 0, 1) := by decide +kernel
theorem dX4_window_12 : decode cX4_window 12 = .ok (.iconst 1, 1) := by decide +kernel
theorem dX4_window_13 : decode cX4_window 13 = .ok (.invokestatic 41, 3) := by decide +kernel
theorem dX4_window_16 : decode cX4_window 16 = .ok (.ifCond .ne 11, 3) := by decide +kernel
theorem dX4_window_19 : decode cX4_window 19 = .ok (.new 45, 3) := by decide +kernel
theorem dX4_window_22 : decode cX4_window 22 = .ok (.dup, 1) := by decide +kernel
theorem dX4_window_23 : decode cX4_window 23 = .ok (.invokespecial 47, 3) := by decide +kernel
theorem dX4_window_26 : decode cX4_window 26 = .ok (.athrow, 1) := by decide +kernel
theorem dX4_window_27 : decode cX4_window 27 = .ok (.aload_n 0, 1) := by decide +kernel
theorem dX4_window_28 : decode cX4_window 28 = .ok (.getfield 19, 3) := by decide +kernel
theorem dX4_window_31 : decode cX4_window 31 = .ok (.iload_n 1, 1) := by decide +kernel
theorem dX4_window_32 : decode cX4_window 32 = .ok (.invokevirtual 235, 3) := by decide +kernel
theorem dX4_window_35 : decode cX4_window 35 = .ok (.istore_n 3, 1) := by decide +kernel
theorem dX4_window_36 : decode cX4_window 36 = .ok (.iload_n 3, 1) := by decide +kernel
theorem dX4_window_37 : decode cX4_window 37 = .ok (.iconst (-1), 1) := by decide +kernel
theorem dX4_window_38 : decode cX4_window 38 = .ok (.if_icmp .eq 7, 3) := by decide +kernel
theorem dX4_window_41 : decode cX4_window 41 = .ok (.iload_n 2, 1) := by decide +kernel
theorem dX4_window_42 : decode cX4_window 42 = .ok (.ifCond .ne 5, 3) := by decide +kernel
theorem dX4_window_45 : decode cX4_window 45 = .ok (.iload_n 3, 1) := by decide +kernel
theorem dX4_window_46 : decode cX4_window 46 = .ok (.ireturn, 1) := by decide +kernel
theorem dX4_window_47 : decode cX4_window 47 = .ok (.aload_n 0, 1) := by decide +kernel
theorem dX4_window_48 : decode cX4_window 48 = .ok (.getfield 19, 3) := by decide +kernel
theorem dX4_window_51 : decode cX4_window 51 = .ok (.iload_n 3, 1) := by decide +kernel
theorem dX4_window_52 : decode cX4_window 52 = .ok (.iload_n 1, 1) := by decide +kernel
theorem dX4_window_53 : decode cX4_window 53 = .ok (.invokevirtual 238, 3) := by decide +kernel
theorem dX4_window_56 : decode cX4_window 56 = .ok (.ireturn, 1) := by decide +kernel
theorem dX4_idleIn_0 : decode cX4_idleIn 0 = .ok (.aload_n 0, 1) := by decide +kernel
theorem dX4_idleIn_1 : decode cX4_idleIn 1 = .ok (.getfield 19, 3) := by decide +kernel
theorem dX4_idleIn_4 : decode cX4_idleIn 4 = .ok (.invokevirtual 241, 3) := by decide +kernel
theorem dX4_idleIn_7 : decode cX4_idleIn 7 = .ok (.ireturn, 1) := by decide +kernel
theorem dX4_coming_0 : decode cX4_coming 0 = .ok (.aload_n 0, 1) := by decide +kernel
theorem dX4_coming_1 : decode cX4_coming 1 = .ok (.getfield 19, 3) := by decide +kernel
theorem dX4_coming_4 : decode cX4_coming 4 = .ok (.iload_n 1, 1) := by decide +kernel
theorem dX4_coming_5 : decode cX4_coming 5 = .ok (.invokevirtual 119, 3) := by decide +kernel
theorem dX4_coming_8 : decode cX4_coming 8 = .ok (.astore 4, 2) := by decide +kernel
theorem dX4_coming_10 : decode cX4_coming 10 = .ok (.aload 4, 2) := by decide +kernel
theorem dX4_coming_12 : decode cX4_coming 12 = .ok (.ifnonnull 11, 3) := by decide +kernel
theorem dX4_coming_15 : decode cX4_coming 15 = .ok (.new 123, 3) := by decide +kernel
theorem dX4_coming_18 : decode cX4_coming 18 = .ok (.dup, 1) := by decide +kernel
theorem dX4_coming_19 : decode cX4_coming 19 = .ok (.invokespecial 125, 3) := by decide +kernel
theorem dX4_coming_22 : decode cX4_coming 22 = .ok (.athrow, 1) := by decide +kernel
theorem dX4_coming_23 : decode cX4_coming 23 = .ok (.iload_n 2, 1) := by decide +kernel
theorem dX4_coming_24 : decode cX4_coming 24 = .ok (.iconst 1, 1) := by decide +kernel
theorem dX4_coming_25 : decode cX4_coming 25 = .ok (.sipush 200, 3) := by decide +kernel
theorem dX4_coming_28 : decode cX4_coming 28 = .ok (.invokestatic 41, 3) := by decide +kernel
theorem dX4_coming_31 : decode cX4_coming 31 = .ok (.ifCond .eq 12, 3) := by decide +kernel
theorem dX4_coming_34 : decode cX4_coming 34 = .ok (.iload_n 3, 1) := by decide +kernel
theorem dX4_coming_35 : decode cX4_coming 35 = .ok (.iconst 0, 1) := by decide +kernel
theorem dX4_coming_36 : decode cX4_coming 36 = .ok (.iconst 2, 1) := by decide +kernel
theorem dX4_coming_37 : decode cX4_coming 37 = .ok (.invokestatic 41, 3) := by decide +kernel
theorem dX4_coming_40 : decode cX4_coming 40 = .ok (.ifCond .ne 11, 3) := by decide +kernel
theorem dX4_coming_43 : decode cX4_coming 43 = .ok (.new 45, 3) := by decide +kernel
theorem dX4_coming_46 : decode cX4_coming 46 = .ok (.dup, 1) := by decide +kernel
theorem dX4_coming_47 : decode cX4_coming 47 = .ok (.invokespecial 47, 3) := by decide +kernel
theorem dX4_coming_50 : decode cX4_coming 50 = .ok (.athrow, 1) := by decide +kernel
theorem dX4_coming_51 : decode cX4_coming 51 = .ok (.aload_n 0, 1) := by decide +kernel
theorem dX4_coming_52 : decode cX4_coming 52 = .ok (.getfield 23, 3) := by decide +kernel
theorem dX4_coming_55 : decode cX4_coming 55 = .ok (.aload_n 0, 1) := by decide +kernel
theorem dX4_coming_56 : decode cX4_coming 56 = .ok (.getfield 19, 3) := by decide +kernel
theorem dX4_coming_59 : decode cX4_coming 59 = .ok (.invokevirtual 244, 3) := by decide +kernel
theorem dX4_coming_62 : decode cX4_coming 62 = .ok (.iconst 0, 1) := by decide +kernel
theorem dX4_coming_63 : decode cX4_coming 63 = .ok (.istore 5, 2) := by decide +kernel
theorem dX4_coming_65 : decode cX4_coming 65 = .ok (.iload 5, 2) := by decide +kernel
theorem dX4_coming_67 : decode cX4_coming 67 = .ok (.iload_n 2, 1) := by decide +kernel
theorem dX4_coming_68 : decode cX4_coming 68 = .ok (.if_icmp .ge 16, 3) := by decide +kernel
theorem dX4_coming_71 : decode cX4_coming 71 = .ok (.aload_n 0, 1) := by decide +kernel
theorem dX4_coming_72 : decode cX4_coming 72 = .ok (.getfield 23, 3) := by decide +kernel
theorem dX4_coming_75 : decode cX4_coming 75 = .ok (.invokevirtual 247, 3) := by decide +kernel
theorem dX4_coming_78 : decode cX4_coming 78 = .ok (.iinc 5 1, 3) := by decide +kernel
theorem dX4_coming_81 : decode cX4_coming 81 = .ok (.goto (-16), 3) := by decide +kernel
theorem dX4_coming_84 : decode cX4_coming 84 = .ok (.aload_n 0, 1) := by decide +kernel
theorem dX4_coming_85 : decode cX4_coming 85 = .ok (.getfield 23, 3) := by decide +kernel
theorem dX4_coming_88 : decode cX4_coming 88 = .ok (.iload_n 1, 1) := by decide +kernel
theorem dX4_coming_89 : decode cX4_coming 89 = .ok (.invokevirtual 119, 3) := by decide +kernel
theorem dX4_coming_92 : decode cX4_coming 92 = .ok (.astore 5, 2) := by decide +kernel
theorem dX4_coming_94 : decode cX4_coming 94 = .ok (.aload 5, 2) := by decide +kernel
theorem dX4_coming_96 : decode cX4_coming 96 = .ok (.ifnonnull 5, 3) := by decide +kernel
theorem dX4_coming_99 : decode cX4_coming 99 = .ok (.iconst (-1), 1) := by decide +kernel
theorem dX4_coming_100 : decode cX4_coming 100 = .ok (.ireturn, 1) := by decide +kernel
theorem dX4_coming_101 : decode cX4_coming 101 = .ok (.iload_n 3, 1) := by decide +kernel
theorem dX4_coming_102 : decode cX4_coming 102 = .ok (.ifCond .ne 9, 3) := by decide +kernel
theorem dX4_coming_105 : decode cX4_coming 105 = .ok (.aload 5, 2) := by decide +kernel
theorem dX4_coming_107 : decode cX4_coming 107 = .ok (.getfield 131, 3) := by decide +kernel
theorem dX4_coming_110 : decode cX4_coming 110 = .ok (.ireturn, 1) := by decide +kernel
theorem dX4_coming_111 : decode cX4_coming 111 = .ok (.iload_n 3, 1) := by decide +kernel
theorem dX4_coming_112 : decode cX4_coming 112 = .ok (.iconst 1, 1) := by decide +kernel
theorem dX4_coming_113 : decode cX4_coming 113 = .ok (.if_icmp .ne 11, 3) := by decide +kernel
theorem dX4_coming_116 : decode cX4_coming 116 = .ok (.aload 5, 2) := by decide +kernel
theorem dX4_coming_118 : decode cX4_coming 118 = .ok (.getfield 134, 3) := by decide +kernel
theorem dX4_coming_121 : decode cX4_coming 121 = .ok (.goto 14, 3) := by decide +kernel
theorem dX4_coming_124 : decode cX4_coming 124 = .ok (.aload 5, 2) := by decide +kernel
theorem dX4_coming_126 : decode cX4_coming 126 = .ok (.getfield 137, 3) := by decide +kernel
theorem dX4_coming_129 : decode cX4_coming 129 = .ok (.aload 4, 2) := by decide +kernel
theorem dX4_coming_131 : decode cX4_coming 131 = .ok (.getfield 137, 3) := by decide +kernel
theorem dX4_coming_134 : decode cX4_coming 134 = .ok (.isub, 1) := by decide +kernel
theorem dX4_coming_135 : decode cX4_coming 135 = .ok (.ireturn, 1) := by decide +kernel
theorem dX4_lost_0 : decode cX4_lost 0 = .ok (.iload_n 1, 1) := by decide +kernel
theorem dX4_lost_1 : decode cX4_lost 1 = .ok (.invokestatic 144, 3) := by decide +kernel
theorem dX4_lost_4 : decode cX4_lost 4 = .ok (.ifCond .ne 11, 3) := by decide +kernel
theorem dX4_lost_7 : decode cX4_lost 7 = .ok (.new 123, 3) := by decide +kernel
theorem dX4_lost_10 : decode cX4_lost 10 = .ok (.dup, 1) := by decide +kernel
theorem dX4_lost_11 : decode cX4_lost 11 = .ok (.invokespecial 125, 3) := by decide +kernel
theorem dX4_lost_14 : decode cX4_lost 14 = .ok (.athrow, 1) := by decide +kernel
theorem dX4_lost_15 : decode cX4_lost 15 = .ok (.aload_n 0, 1) := by decide +kernel
theorem dX4_lost_16 : decode cX4_lost 16 = .ok (.getfield 19, 3) := by decide +kernel
theorem dX4_lost_19 : decode cX4_lost 19 = .ok (.aload_n 0, 1) := by decide +kernel
theorem dX4_lost_20 : decode cX4_lost 20 = .ok (.getfield 19, 3) := by decide +kernel
theorem dX4_lost_23 : decode cX4_lost 23 = .ok (.iload_n 1, 1) := by decide +kernel
theorem dX4_lost_24 : decode cX4_lost 24 = .ok (.invokevirtual 250, 3) := by decide +kernel
theorem dX4_lost_27 : decode cX4_lost 27 = .ok (.invokevirtual 119, 3) := by decide +kernel
theorem dX4_lost_30 : decode cX4_lost 30 = .ok (.astore_n 2, 1) := by decide +kernel
theorem dX4_lost_31 : decode cX4_lost 31 = .ok (.aload_n 2, 1) := by decide +kernel
theorem dX4_lost_32 : decode cX4_lost 32 = .ok (.ifnonnull 7, 3) := by decide +kernel
theorem dX4_lost_35 : decode cX4_lost 35 = .ok (.iconst 0, 1) := by decide +kernel
theorem dX4_lost_36 : decode cX4_lost 36 = .ok (.goto 7, 3) := by decide +kernel
theorem dX4_lost_39 : decode cX4_lost 39 = .ok (.aload_n 2, 1) := by decide +kernel
theorem dX4_lost_40 : decode cX4_lost 40 = .ok (.getfield 253, 3) := by decide +kernel
theorem dX4_lost_43 : decode cX4_lost 43 = .ok (.ireturn, 1) := by decide +kernel
theorem dX4_runScript_0 : decode cX4_runScript 0 = .ok (.iload_n 1, 1) := by decide +kernel
theorem dX4_runScript_1 : decode cX4_runScript 1 = .ok (.iconst 1, 1) := by decide +kernel
theorem dX4_runScript_2 : decode cX4_runScript 2 = .ok (.iconst 3, 1) := by decide +kernel
theorem dX4_runScript_3 : decode cX4_runScript 3 = .ok (.invokestatic 41, 3) := by decide +kernel
theorem dX4_runScript_6 : decode cX4_runScript 6 = .ok (.ifCond .ne 11, 3) := by decide +kernel
theorem dX4_runScript_9 : decode cX4_runScript 9 = .ok (.new 45, 3) := by decide +kernel
theorem dX4_runScript_12 : decode cX4_runScript 12 = .ok (.dup, 1) := by decide +kernel
theorem dX4_runScript_13 : decode cX4_runScript 13 = .ok (.invokespecial 47, 3) := by decide +kernel
theorem dX4_runScript_16 : decode cX4_runScript 16 = .ok (.athrow, 1) := by decide +kernel
theorem dX4_runScript_17 : decode cX4_runScript 17 = .ok (.lload_n 2, 1) := by decide +kernel
theorem dX4_runScript_18 : decode cX4_runScript 18 = .ok (.lconst 0, 1) := by decide +kernel
theorem dX4_runScript_19 : decode cX4_runScript 19 = .ok (.lcmp, 1) := by decide +kernel
theorem dX4_runScript_20 : decode cX4_runScript 20 = .ok (.ifCond .lt 13, 3) := by decide +kernel
theorem dX4_runScript_23 : decode cX4_runScript 23 = .ok (.lload_n 2, 1) := by decide +kernel
theorem dX4_runScript_24 : decode cX4_runScript 24 = .ok (.iload_n 1, 1) := by decide +kernel
theorem dX4_runScript_25 : decode cX4_runScript 25 = .ok (.invokestatic 256, 3) := by decide +kernel
theorem dX4_runScript_28 : decode cX4_runScript 28 = .ok (.lconst 0, 1) := by decide +kernel
theorem dX4_runScript_29 : decode cX4_runScript 29 = .ok (.lcmp, 1) := by decide +kernel
theorem dX4_runScript_30 : decode cX4_runScript 30 = .ok (.ifCond .eq 11, 3) := by decide +kernel
theorem dX4_runScript_33 : decode cX4_runScript 33 = .ok (.new 45, 3) := by decide +kernel
theorem dX4_runScript_36 : decode cX4_runScript 36 = .ok (.dup, 1) := by decide +kernel
theorem dX4_runScript_37 : decode cX4_runScript 37 = .ok (.invokespecial 47, 3) := by decide +kernel
theorem dX4_runScript_40 : decode cX4_runScript 40 = .ok (.athrow, 1) := by decide +kernel
theorem dX4_runScript_41 : decode cX4_runScript 41 = .ok (.aload_n 0, 1) := by decide +kernel
theorem dX4_runScript_42 : decode cX4_runScript 42 = .ok (.getfield 23, 3) := by decide +kernel
theorem dX4_runScript_45 : decode cX4_runScript 45 = .ok (.aload_n 0, 1) := by decide +kernel
theorem dX4_runScript_46 : decode cX4_runScript 46 = .ok (.getfield 19, 3) := by decide +kernel
theorem dX4_runScript_49 : decode cX4_runScript 49 = .ok (.invokevirtual 244, 3) := by decide +kernel
theorem dX4_runScript_52 : decode cX4_runScript 52 = .ok (.iconst 0, 1) := by decide +kernel
theorem dX4_runScript_53 : decode cX4_runScript 53 = .ok (.istore 4, 2) := by decide +kernel
theorem dX4_runScript_55 : decode cX4_runScript 55 = .ok (.iload 4, 2) := by decide +kernel
theorem dX4_runScript_57 : decode cX4_runScript 57 = .ok (.iload_n 1, 1) := by decide +kernel
theorem dX4_runScript_58 : decode cX4_runScript 58 = .ok (.if_icmp .ge 41, 3) := by decide +kernel
theorem dX4_runScript_61 : decode cX4_runScript 61 = .ok (.lload_n 2, 1) := by decide +kernel
theorem dX4_runScript_62 : decode cX4_runScript 62 = .ok (.iload_n 1, 1) := by decide +kernel
theorem dX4_runScript_63 : decode cX4_runScript 63 = .ok (.iconst 1, 1) := by decide +kernel
theorem dX4_runScript_64 : decode cX4_runScript 64 = .ok (.isub, 1) := by decide +kernel
theorem dX4_runScript_65 : decode cX4_runScript 65 = .ok (.iload 4, 2) := by decide +kernel
theorem dX4_runScript_67 : decode cX4_runScript 67 = .ok (.isub, 1) := by decide +kernel
theorem dX4_runScript_68 : decode cX4_runScript 68 = .ok (.invokestatic 256, 3) := by decide +kernel
theorem dX4_runScript_71 : decode cX4_runScript 71 = .ok (.ldc2_w 260, 3) := by decide +kernel
theorem dX4_runScript_74 : decode cX4_runScript 74 = .ok (.lrem, 1) := by decide +kernel
theorem dX4_runScript_75 : decode cX4_runScript 75 = .ok (.l2i, 1) := by decide +kernel
theorem dX4_runScript_76 : decode cX4_runScript 76 = .ok (.istore 5, 2) := by decide +kernel
theorem dX4_runScript_78 : decode cX4_runScript 78 = .ok (.aload_n 0, 1) := by decide +kernel
theorem dX4_runScript_79 : decode cX4_runScript 79 = .ok (.getfield 23, 3) := by decide +kernel
theorem dX4_runScript_82 : decode cX4_runScript 82 = .ok (.iload 5, 2) := by decide +kernel
theorem dX4_runScript_84 : decode cX4_runScript 84 = .ok (.invokestatic 262, 3) := by decide +kernel
theorem dX4_runScript_87 : decode cX4_runScript 87 = .ok (.ifCond .ne 6, 3) := by decide +kernel
theorem dX4_runScript_90 : decode cX4_runScript 90 = .ok (.iload 4, 2) := by decide +kernel
theorem dX4_runScript_92 : decode cX4_runScript 92 = .ok (.ireturn, 1) := by decide +kernel
theorem dX4_runScript_93 : decode cX4_runScript 93 = .ok (.iinc 4 1, 3) := by decide +kernel
theorem dX4_runScript_96 : decode cX4_runScript 96 = .ok (.goto (-41), 3) := by decide +kernel
theorem dX4_runScript_99 : decode cX4_runScript 99 = .ok (.iconst (-1), 1) := by decide +kernel
theorem dX4_runScript_100 : decode cX4_runScript 100 = .ok (.ireturn, 1) := by decide +kernel
theorem dX4_simulate_0 : decode cX4_simulate 0 = .ok (.iload_n 3, 1) := by decide +kernel
theorem dX4_simulate_1 : decode cX4_simulate 1 = .ok (.iconst 1, 1) := by decide +kernel
theorem dX4_simulate_2 : decode cX4_simulate 2 = .ok (.bipush 60, 2) := by decide +kernel
theorem dX4_simulate_4 : decode cX4_simulate 4 = .ok (.invokestatic 41, 3) := by decide +kernel
theorem dX4_simulate_7 : decode cX4_simulate 7 = .ok (.ifCond .ne 11, 3) := by decide +kernel
theorem dX4_simulate_10 : decode cX4_simulate 10 = .ok (.new 45, 3) := by decide +kernel
theorem dX4_simulate_13 : decode cX4_simulate 13 = .ok (.dup, 1) := by decide +kernel
theorem dX4_simulate_14 : decode cX4_simulate 14 = .ok (.invokespecial 47, 3) := by decide +kernel
theorem dX4_simulate_17 : decode cX4_simulate 17 = .ok (.athrow, 1) := by decide +kernel
theorem dX4_simulate_18 : decode cX4_simulate 18 = .ok (.aload_n 0, 1) := by decide +kernel
theorem dX4_simulate_19 : decode cX4_simulate 19 = .ok (.getfield 23, 3) := by decide +kernel
theorem dX4_simulate_22 : decode cX4_simulate 22 = .ok (.aload_n 0, 1) := by decide +kernel
theorem dX4_simulate_23 : decode cX4_simulate 23 = .ok (.getfield 19, 3) := by decide +kernel
theorem dX4_simulate_26 : decode cX4_simulate 26 = .ok (.invokevirtual 244, 3) := by decide +kernel
theorem dX4_simulate_29 : decode cX4_simulate 29 = .ok (.lload_n 1, 1) := by decide +kernel
theorem dX4_simulate_30 : decode cX4_simulate 30 = .ok (.lstore 4, 2) := by decide +kernel
theorem dX4_simulate_32 : decode cX4_simulate 32 = .ok (.iconst 0, 1) := by decide +kernel
theorem dX4_simulate_33 : decode cX4_simulate 33 = .ok (.istore 6, 2) := by decide +kernel
theorem dX4_simulate_35 : decode cX4_simulate 35 = .ok (.iload 6, 2) := by decide +kernel
theorem dX4_simulate_37 : decode cX4_simulate 37 = .ok (.iload_n 3, 1) := by decide +kernel
theorem dX4_simulate_38 : decode cX4_simulate 38 = .ok (.if_icmp .ge 34, 3) := by decide +kernel
theorem dX4_simulate_41 : decode cX4_simulate 41 = .ok (.lload 4, 2) := by decide +kernel
theorem dX4_simulate_43 : decode cX4_simulate 43 = .ok (.ldc2_w 266, 3) := by decide +kernel
theorem dX4_simulate_46 : decode cX4_simulate 46 = .ok (.lmul, 1) := by decide +kernel
theorem dX4_simulate_47 : decode cX4_simulate 47 = .ok (.ldc2_w 268, 3) := by decide +kernel
theorem dX4_simulate_50 : decode cX4_simulate 50 = .ok (.ladd, 1) := by decide +kernel
theorem dX4_simulate_51 : decode cX4_simulate 51 = .ok (.lstore 4, 2) := by decide +kernel
theorem dX4_simulate_53 : decode cX4_simulate 53 = .ok (.aload_n 0, 1) := by decide +kernel
theorem dX4_simulate_54 : decode cX4_simulate 54 = .ok (.getfield 23, 3) := by decide +kernel
theorem dX4_simulate_57 : decode cX4_simulate 57 = .ok (.lload 4, 2) := by decide +kernel
theorem dX4_simulate_59 : decode cX4_simulate 59 = .ok (.bipush 33, 2) := by decide +kernel
theorem dX4_simulate_61 : decode cX4_simulate 61 = .ok (.lushr, 1) := by decide +kernel
theorem dX4_simulate_62 : decode cX4_simulate 62 = .ok (.l2i, 1) := by decide +kernel
theorem dX4_simulate_63 : decode cX4_simulate 63 = .ok (.invokestatic 270, 3) := by decide +kernel
theorem dX4_simulate_66 : decode cX4_simulate 66 = .ok (.iinc 6 1, 3) := by decide +kernel
theorem dX4_simulate_69 : decode cX4_simulate 69 = .ok (.goto (-34), 3) := by decide +kernel
theorem dX4_simulate_72 : decode cX4_simulate 72 = .ok (.aload_n 0, 1) := by decide +kernel
theorem dX4_simulate_73 : decode cX4_simulate 73 = .ok (.getfield 23, 3) := by decide +kernel
theorem dX4_simulate_76 : decode cX4_simulate 76 = .ok (.getfield 116, 3) := by decide +kernel
theorem dX4_simulate_79 : decode cX4_simulate 79 = .ok (.aload_n 0, 1) := by decide +kernel
theorem dX4_simulate_80 : decode cX4_simulate 80 = .ok (.getfield 19, 3) := by decide +kernel
theorem dX4_simulate_83 : decode cX4_simulate 83 = .ok (.getfield 116, 3) := by decide +kernel
theorem dX4_simulate_86 : decode cX4_simulate 86 = .ok (.isub, 1) := by decide +kernel
theorem dX4_simulate_87 : decode cX4_simulate 87 = .ok (.istore 6, 2) := by decide +kernel
theorem dX4_simulate_89 : decode cX4_simulate 89 = .ok (.sipush 10000, 3) := by decide +kernel
theorem dX4_simulate_92 : decode cX4_simulate 92 = .ok (.aload_n 0, 1) := by decide +kernel
theorem dX4_simulate_93 : decode cX4_simulate 93 = .ok (.getfield 23, 3) := by decide +kernel
theorem dX4_simulate_96 : decode cX4_simulate 96 = .ok (.invokevirtual 98, 3) := by decide +kernel
theorem dX4_simulate_99 : decode cX4_simulate 99 = .ok (.imul, 1) := by decide +kernel
theorem dX4_simulate_100 : decode cX4_simulate 100 = .ok (.iload 6, 2) := by decide +kernel
theorem dX4_simulate_102 : decode cX4_simulate 102 = .ok (.sipush 9999, 3) := by decide +kernel
theorem dX4_simulate_105 : decode cX4_simulate 105 = .ok (.invokestatic 274, 3) := by decide +kernel
theorem dX4_simulate_108 : decode cX4_simulate 108 = .ok (.iadd, 1) := by decide +kernel
theorem dX4_simulate_109 : decode cX4_simulate 109 = .ok (.ireturn, 1) := by decide +kernel
theorem dX4_save_0 : decode cX4_save 0 = .ok (.iload_n 1, 1) := by decide +kernel
theorem dX4_save_1 : decode cX4_save 1 = .ok (.iconst 0, 1) := by decide +kernel
theorem dX4_save_2 : decode cX4_save 2 = .ok (.iconst 1, 1) := by decide +kernel
theorem dX4_save_3 : decode cX4_save 3 = .ok (.invokestatic 41, 3) := by decide +kernel
theorem dX4_save_6 : decode cX4_save 6 = .ok (.ifCond .ne 11, 3) := by decide +kernel
theorem dX4_save_9 : decode cX4_save 9 = .ok (.new 123, 3) := by decide +kernel
theorem dX4_save_12 : decode cX4_save 12 = .ok (.dup, 1) := by decide +kernel
theorem dX4_save_13 : decode cX4_save 13 = .ok (.invokespecial 125, 3) := by decide +kernel
theorem dX4_save_16 : decode cX4_save 16 = .ok (.athrow, 1) := by decide +kernel
theorem dX4_save_17 : decode cX4_save 17 = .ok (.aload_n 0, 1) := by decide +kernel
theorem dX4_save_18 : decode cX4_save 18 = .ok (.getfield 33, 3) := by decide +kernel
theorem dX4_save_21 : decode cX4_save 21 = .ok (.iload_n 1, 1) := by decide +kernel
theorem dX4_save_22 : decode cX4_save 22 = .ok (.aaload, 1) := by decide +kernel
theorem dX4_save_23 : decode cX4_save 23 = .ok (.aload_n 0, 1) := by decide +kernel
theorem dX4_save_24 : decode cX4_save 24 = .ok (.getfield 19, 3) := by decide +kernel
theorem dX4_save_27 : decode cX4_save 27 = .ok (.invokevirtual 244, 3) := by decide +kernel
theorem dX4_save_30 : decode cX4_save 30 = .ok (.aload_n 0, 1) := by decide +kernel
theorem dX4_save_31 : decode cX4_save 31 = .ok (.getfield 37, 3) := by decide +kernel
theorem dX4_save_34 : decode cX4_save 34 = .ok (.iload_n 1, 1) := by decide +kernel
theorem dX4_save_35 : decode cX4_save 35 = .ok (.iconst 1, 1) := by decide +kernel
theorem dX4_save_36 : decode cX4_save 36 = .ok (.bastore, 1) := by decide +kernel
theorem dX4_save_37 : decode cX4_save 37 = .ok (.aload_n 0, 1) := by decide +kernel
theorem dX4_save_38 : decode cX4_save 38 = .ok (.getfield 19, 3) := by decide +kernel
theorem dX4_save_41 : decode cX4_save 41 = .ok (.getfield 95, 3) := by decide +kernel
theorem dX4_save_44 : decode cX4_save 44 = .ok (.ireturn, 1) := by decide +kernel
theorem dX4_restore_0 : decode cX4_restore 0 = .ok (.iload_n 1, 1) := by decide +kernel
theorem dX4_restore_1 : decode cX4_restore 1 = .ok (.iconst 0, 1) := by decide +kernel
theorem dX4_restore_2 : decode cX4_restore 2 = .ok (.iconst 1, 1) := by decide +kernel
theorem dX4_restore_3 : decode cX4_restore 3 = .ok (.invokestatic 41, 3) := by decide +kernel
theorem dX4_restore_6 : decode cX4_restore 6 = .ok (.ifCond .ne 11, 3) := by decide +kernel
theorem dX4_restore_9 : decode cX4_restore 9 = .ok (.new 123, 3) := by decide +kernel
theorem dX4_restore_12 : decode cX4_restore 12 = .ok (.dup, 1) := by decide +kernel
theorem dX4_restore_13 : decode cX4_restore 13 = .ok (.invokespecial 125, 3) := by decide +kernel
theorem dX4_restore_16 : decode cX4_restore 16 = .ok (.athrow, 1) := by decide +kernel
theorem dX4_restore_17 : decode cX4_restore 17 = .ok (.aload_n 0, 1) := by decide +kernel
theorem dX4_restore_18 : decode cX4_restore 18 = .ok (.getfield 37, 3) := by decide +kernel
theorem dX4_restore_21 : decode cX4_restore 21 = .ok (.iload_n 1, 1) := by decide +kernel
theorem dX4_restore_22 : decode cX4_restore 22 = .ok (.baload, 1) := by decide +kernel
theorem dX4_restore_23 : decode cX4_restore 23 = .ok (.ifCond .ne 11, 3) := by decide +kernel
theorem dX4_restore_26 : decode cX4_restore 26 = .ok (.new 52, 3) := by decide +kernel
theorem dX4_restore_29 : decode cX4_restore 29 = .ok (.dup, 1) := by decide +kernel
theorem dX4_restore_30 : decode cX4_restore 30 = .ok (.invokespecial 54, 3) := by decide +kernel
theorem dX4_restore_33 : decode cX4_restore 33 = .ok (.athrow, 1) := by decide +kernel
theorem dX4_restore_34 : decode cX4_restore 34 = .ok (.aload_n 0, 1) := by decide +kernel
theorem dX4_restore_35 : decode cX4_restore 35 = .ok (.getfield 19, 3) := by decide +kernel
theorem dX4_restore_38 : decode cX4_restore 38 = .ok (.aload_n 0, 1) := by decide +kernel
theorem dX4_restore_39 : decode cX4_restore 39 = .ok (.getfield 33, 3) := by decide +kernel
theorem dX4_restore_42 : decode cX4_restore 42 = .ok (.iload_n 1, 1) := by decide +kernel
theorem dX4_restore_43 : decode cX4_restore 43 = .ok (.aaload, 1) := by decide +kernel
theorem dX4_restore_44 : decode cX4_restore 44 = .ok (.invokevirtual 244, 3) := by decide +kernel
theorem dX4_restore_47 : decode cX4_restore 47 = .ok (.aload_n 0, 1) := by decide +kernel
theorem dX4_restore_48 : decode cX4_restore 48 = .ok (.getfield 29, 3) := by decide +kernel
theorem dX4_restore_51 : decode cX4_restore 51 = .ok (.invokevirtual 69, 3) := by decide +kernel
theorem dX4_restore_54 : decode cX4_restore 54 = .ok (.aload_n 0, 1) := by decide +kernel
theorem dX4_restore_55 : decode cX4_restore 55 = .ok (.getfield 19, 3) := by decide +kernel
theorem dX4_restore_58 : decode cX4_restore 58 = .ok (.getfield 95, 3) := by decide +kernel
theorem dX4_restore_61 : decode cX4_restore 61 = .ok (.ireturn, 1) := by decide +kernel
theorem dX4_isBetween_0 : decode cX4_isBetween 0 = .ok (.iload_n 0, 1) := by decide +kernel
theorem dX4_isBetween_1 : decode cX4_isBetween 1 = .ok (.iload_n 1, 1) := by decide +kernel
theorem dX4_isBetween_2 : decode cX4_isBetween 2 = .ok (.if_icmp .lt 12, 3) := by decide +kernel
theorem dX4_isBetween_5 : decode cX4_isBetween 5 = .ok (.iload_n 0, 1) := by decide +kernel
theorem dX4_isBetween_6 : decode cX4_isBetween 6 = .ok (.iload_n 2, 1) := by decide +kernel
theorem dX4_isBetween_7 : decode cX4_isBetween 7 = .ok (.if_icmp .gt 7, 3) := by decide +kernel
theorem dX4_isBetween_10 : decode cX4_isBetween 10 = .ok (.iconst 1, 1) := by decide +kernel
theorem dX4_isBetween_11 : decode cX4_isBetween 11 = .ok (.goto 4, 3) := by decide +kernel
theorem dX4_isBetween_14 : decode cX4_isBetween 14 = .ok (.iconst 0, 1) := by decide +kernel
theorem dX4_isBetween_15 : decode cX4_isBetween 15 = .ok (.ireturn, 1) := by decide +kernel
theorem dX4_isStripe_0 : decode cX4_isStripe 0 = .ok (.iload_n 0, 1) := by decide +kernel
theorem dX4_isStripe_1 : decode cX4_isStripe 1 = .ok (.iconst 0, 1) := by decide +kernel
theorem dX4_isStripe_2 : decode cX4_isStripe 2 = .ok (.bipush 11, 2) := by decide +kernel
theorem dX4_isStripe_4 : decode cX4_isStripe 4 = .ok (.invokestatic 41, 3) := by decide +kernel
theorem dX4_isStripe_7 : decode cX4_isStripe 7 = .ok (.ireturn, 1) := by decide +kernel
theorem dX4_isWidth_0 : decode cX4_isWidth 0 = .ok (.iload_n 0, 1) := by decide +kernel
theorem dX4_isWidth_1 : decode cX4_isWidth 1 = .ok (.iconst 1, 1) := by decide +kernel
theorem dX4_isWidth_2 : decode cX4_isWidth 2 = .ok (.bipush 6, 2) := by decide +kernel
theorem dX4_isWidth_4 : decode cX4_isWidth 4 = .ok (.invokestatic 41, 3) := by decide +kernel
theorem dX4_isWidth_7 : decode cX4_isWidth 7 = .ok (.ireturn, 1) := by decide +kernel
theorem dX4_isValue_0 : decode cX4_isValue 0 = .ok (.iload_n 0, 1) := by decide +kernel
theorem dX4_isValue_1 : decode cX4_isValue 1 = .ok (.iconst 0, 1) := by decide +kernel
theorem dX4_isValue_2 : decode cX4_isValue 2 = .ok (.sipush 996, 3) := by decide +kernel
theorem dX4_isValue_5 : decode cX4_isValue 5 = .ok (.invokestatic 41, 3) := by decide +kernel
theorem dX4_isValue_8 : decode cX4_isValue 8 = .ok (.ireturn, 1) := by decide +kernel
theorem dX4_isSetting_0 : decode cX4_isSetting 0 = .ok (.iload_n 0, 1) := by decide +kernel
theorem dX4_isSetting_1 : decode cX4_isSetting 1 = .ok (.iconst 0, 1) := by decide +kernel
theorem dX4_isSetting_2 : decode cX4_isSetting 2 = .ok (.iconst 2, 1) := by decide +kernel
theorem dX4_isSetting_3 : decode cX4_isSetting 3 = .ok (.invokestatic 41, 3) := by decide +kernel
theorem dX4_isSetting_6 : decode cX4_isSetting 6 = .ok (.ireturn, 1) := by decide +kernel
theorem dX4_obeyTextCommand_0 : decode cX4_obeyTextCommand 0 = .ok (.iload_n 1, 1) := by decide +kernel
theorem dX4_obeyTextCommand_1 : decode cX4_obeyTextCommand 1 = .ok (.lookupswitch 142 #[(98, 91), (103, 97), (108, 75), (115, 112), (116, 59), (119, 127)], 59) := by decide +kernel
theorem dX4_obeyTextCommand_60 : decode cX4_obeyTextCommand 60 = .ok (.aload_n 0, 1) := by decide +kernel
theorem dX4_obeyTextCommand_61 : decode cX4_obeyTextCommand 61 = .ok (.iload_n 2, 1) := by decide +kernel
theorem dX4_obeyTextCommand_62 : decode cX4_obeyTextCommand 62 = .ok (.iload_n 3, 1) := by decide +kernel
theorem dX4_obeyTextCommand_63 : decode cX4_obeyTextCommand 63 = .ok (.invokevirtual 190, 3) := by decide +kernel
theorem dX4_obeyTextCommand_66 : decode cX4_obeyTextCommand 66 = .ok (.iconst (-1), 1) := by decide +kernel
theorem dX4_obeyTextCommand_67 : decode cX4_obeyTextCommand 67 = .ok (.if_icmp .eq 7, 3) := by decide +kernel
theorem dX4_obeyTextCommand_70 : decode cX4_obeyTextCommand 70 = .ok (.iconst 1, 1) := by decide +kernel
theorem dX4_obeyTextCommand_71 : decode cX4_obeyTextCommand 71 = .ok (.goto 4, 3) := by decide +kernel
theorem dX4_obeyTextCommand_74 : decode cX4_obeyTextCommand 74 = .ok (.iconst 0, 1) := by decide +kernel
theorem dX4_obeyTextCommand_75 : decode cX4_obeyTextCommand 75 = .ok (.ireturn, 1) := by decide +kernel
theorem dX4_obeyTextCommand_76 : decode cX4_obeyTextCommand 76 = .ok (.aload_n 0, 1) := by decide +kernel
theorem dX4_obeyTextCommand_77 : decode cX4_obeyTextCommand 77 = .ok (.iload_n 2, 1) := by decide +kernel
theorem dX4_obeyTextCommand_78 : decode cX4_obeyTextCommand 78 = .ok (.iload_n 3, 1) := by decide +kernel
theorem dX4_obeyTextCommand_79 : decode cX4_obeyTextCommand 79 = .ok (.invokevirtual 201, 3) := by decide +kernel
theorem dX4_obeyTextCommand_82 : decode cX4_obeyTextCommand 82 = .ok (.iconst (-1), 1) := by decide +kernel
theorem dX4_obeyTextCommand_83 : decode cX4_obeyTextCommand 83 = .ok (.if_icmp .eq 7, 3) := by decide +kernel
theorem dX4_obeyTextCommand_86 : decode cX4_obeyTextCommand 86 = .ok (.iconst 1, 1) := by decide +kernel
theorem dX4_obeyTextCommand_87 : decode cX4_obeyTextCommand 87 = .ok (.goto 4, 3) := by decide +kernel
theorem dX4_obeyTextCommand_90 : decode cX4_obeyTextCommand 90 = .ok (.iconst 0, 1) := by decide +kernel
theorem dX4_obeyTextCommand_91 : decode cX4_obeyTextCommand 91 = .ok (.ireturn, 1) := by decide +kernel
theorem dX4_obeyTextCommand_92 : decode cX4_obeyTextCommand 92 = .ok (.aload_n 0, 1) := by decide +kernel
theorem dX4_obeyTextCommand_93 : decode cX4_obeyTextCommand 93 = .ok (.iload_n 2, 1) := by decide +kernel
theorem dX4_obeyTextCommand_94 : decode cX4_obeyTextCommand 94 = .ok (.invokestatic 279, 3) := by decide +kernel
theorem dX4_obeyTextCommand_97 : decode cX4_obeyTextCommand 97 = .ok (.ireturn, 1) := by decide +kernel
theorem dX4_obeyTextCommand_98 : decode cX4_obeyTextCommand 98 = .ok (.aload_n 0, 1) := by decide +kernel
theorem dX4_obeyTextCommand_99 : decode cX4_obeyTextCommand 99 = .ok (.iload_n 2, 1) := by decide +kernel
theorem dX4_obeyTextCommand_100 : decode cX4_obeyTextCommand 100 = .ok (.invokevirtual 213, 3) := by decide +kernel
theorem dX4_obeyTextCommand_103 : decode cX4_obeyTextCommand 103 = .ok (.iconst (-1), 1) := by decide +kernel
theorem dX4_obeyTextCommand_104 : decode cX4_obeyTextCommand 104 = .ok (.if_icmp .eq 7, 3) := by decide +kernel
theorem dX4_obeyTextCommand_107 : decode cX4_obeyTextCommand 107 = .ok (.iconst 1, 1) := by decide +kernel
theorem dX4_obeyTextCommand_108 : decode cX4_obeyTextCommand 108 = .ok (.goto 4, 3) := by decide +kernel
theorem dX4_obeyTextCommand_111 : decode cX4_obeyTextCommand 111 = .ok (.iconst 0, 1) := by decide +kernel
theorem dX4_obeyTextCommand_112 : decode cX4_obeyTextCommand 112 = .ok (.ireturn, 1) := by decide +kernel
theorem dX4_obeyTextCommand_113 : decode cX4_obeyTextCommand 113 = .ok (.aload_n 0, 1) := by decide +kernel
theorem dX4_obeyTextCommand_114 : decode cX4_obeyTextCommand 114 = .ok (.iload_n 2, 1) := by decide +kernel
theorem dX4_obeyTextCommand_115 : decode cX4_obeyTextCommand 115 = .ok (.invokevirtual 207, 3) := by decide +kernel
theorem dX4_obeyTextCommand_118 : decode cX4_obeyTextCommand 118 = .ok (.iconst (-1), 1) := by decide +kernel
theorem dX4_obeyTextCommand_119 : decode cX4_obeyTextCommand 119 = .ok (.if_icmp .eq 7, 3) := by decide +kernel
theorem dX4_obeyTextCommand_122 : decode cX4_obeyTextCommand 122 = .ok (.iconst 1, 1) := by decide +kernel
theorem dX4_obeyTextCommand_123 : decode cX4_obeyTextCommand 123 = .ok (.goto 4, 3) := by decide +kernel
theorem dX4_obeyTextCommand_126 : decode cX4_obeyTextCommand 126 = .ok (.iconst 0, 1) := by decide +kernel
theorem dX4_obeyTextCommand_127 : decode cX4_obeyTextCommand 127 = .ok (.ireturn, 1) := by decide +kernel
theorem dX4_obeyTextCommand_128 : decode cX4_obeyTextCommand 128 = .ok (.aload_n 0, 1) := by decide +kernel
theorem dX4_obeyTextCommand_129 : decode cX4_obeyTextCommand 129 = .ok (.iload_n 2, 1) := by decide +kernel
theorem dX4_obeyTextCommand_130 : decode cX4_obeyTextCommand 130 = .ok (.invokevirtual 216, 3) := by decide +kernel
theorem dX4_obeyTextCommand_133 : decode cX4_obeyTextCommand 133 = .ok (.iconst (-1), 1) := by decide +kernel
theorem dX4_obeyTextCommand_134 : decode cX4_obeyTextCommand 134 = .ok (.if_icmp .eq 7, 3) := by decide +kernel
theorem dX4_obeyTextCommand_137 : decode cX4_obeyTextCommand 137 = .ok (.iconst 1, 1) := by decide +kernel
theorem dX4_obeyTextCommand_138 : decode cX4_obeyTextCommand 138 = .ok (.goto 4, 3) := by decide +kernel
theorem dX4_obeyTextCommand_141 : decode cX4_obeyTextCommand 141 = .ok (.iconst 0, 1) := by decide +kernel
theorem dX4_obeyTextCommand_142 : decode cX4_obeyTextCommand 142 = .ok (.ireturn, 1) := by decide +kernel
theorem dX4_obeyTextCommand_143 : decode cX4_obeyTextCommand 143 = .ok (.iconst 0, 1) := by decide +kernel
theorem dX4_obeyTextCommand_144 : decode cX4_obeyTextCommand 144 = .ok (.ireturn, 1) := by decide +kernel
theorem dX4_tryToMakeBad_0 : decode cX4_tryToMakeBad 0 = .ok (.iload_n 1, 1) := by decide +kernel
theorem dX4_tryToMakeBad_1 : decode cX4_tryToMakeBad 1 = .ok (.invokestatic 144, 3) := by decide +kernel
theorem dX4_tryToMakeBad_4 : decode cX4_tryToMakeBad 4 = .ok (.ifCond .ne 5, 3) := by decide +kernel
theorem dX4_tryToMakeBad_7 : decode cX4_tryToMakeBad 7 = .ok (.iconst 0, 1) := by decide +kernel
theorem dX4_tryToMakeBad_8 : decode cX4_tryToMakeBad 8 = .ok (.ireturn, 1) := by decide +kernel
theorem dX4_tryToMakeBad_9 : decode cX4_tryToMakeBad 9 = .ok (.aload_n 0, 1) := by decide +kernel
theorem dX4_tryToMakeBad_10 : decode cX4_tryToMakeBad 10 = .ok (.iload_n 1, 1) := by decide +kernel
theorem dX4_tryToMakeBad_11 : decode cX4_tryToMakeBad 11 = .ok (.invokevirtual 210, 3) := by decide +kernel
theorem dX4_tryToMakeBad_14 : decode cX4_tryToMakeBad 14 = .ok (.pop, 1) := by decide +kernel
theorem dX4_tryToMakeBad_15 : decode cX4_tryToMakeBad 15 = .ok (.iconst 1, 1) := by decide +kernel
theorem dX4_tryToMakeBad_16 : decode cX4_tryToMakeBad 16 = .ok (.ireturn, 1) := by decide +kernel
theorem dX4_withoutLastGroups_0 : decode cX4_withoutLastGroups 0 = .ok (.lload_n 0, 1) := by decide +kernel
theorem dX4_withoutLastGroups_1 : decode cX4_withoutLastGroups 1 = .ok (.lstore_n 3, 1) := by decide +kernel
theorem dX4_withoutLastGroups_2 : decode cX4_withoutLastGroups 2 = .ok (.iconst 0, 1) := by decide +kernel
theorem dX4_withoutLastGroups_3 : decode cX4_withoutLastGroups 3 = .ok (.istore 5, 2) := by decide +kernel
theorem dX4_withoutLastGroups_5 : decode cX4_withoutLastGroups 5 = .ok (.iload 5, 2) := by decide +kernel
theorem dX4_withoutLastGroups_7 : decode cX4_withoutLastGroups 7 = .ok (.iload_n 2, 1) := by decide +kernel
theorem dX4_withoutLastGroups_8 : decode cX4_withoutLastGroups 8 = .ok (.if_icmp .ge 15, 3) := by decide +kernel
theorem dX4_withoutLastGroups_11 : decode cX4_withoutLastGroups 11 = .ok (.lload_n 3, 1) := by decide +kernel
theorem dX4_withoutLastGroups_12 : decode cX4_withoutLastGroups 12 = .ok (.ldc2_w 260, 3) := by decide +kernel
theorem dX4_withoutLastGroups_15 : decode cX4_withoutLastGroups 15 = .ok (.ldiv, 1) := by decide +kernel
theorem dX4_withoutLastGroups_16 : decode cX4_withoutLastGroups 16 = .ok (.lstore_n 3, 1) := by decide +kernel
theorem dX4_withoutLastGroups_17 : decode cX4_withoutLastGroups 17 = .ok (.iinc 5 1, 3) := by decide +kernel
theorem dX4_withoutLastGroups_20 : decode cX4_withoutLastGroups 20 = .ok (.goto (-15), 3) := by decide +kernel
theorem dX4_withoutLastGroups_23 : decode cX4_withoutLastGroups 23 = .ok (.lload_n 3, 1) := by decide +kernel
theorem dX4_withoutLastGroups_24 : decode cX4_withoutLastGroups 24 = .ok (.lreturn, 1) := by decide +kernel
theorem dX4_obeyGroup_0 : decode cX4_obeyGroup 0 = .ok (.iload_n 1, 1) := by decide +kernel
theorem dX4_obeyGroup_1 : decode cX4_obeyGroup 1 = .ok (.sipush 10000, 3) := by decide +kernel
theorem dX4_obeyGroup_4 : decode cX4_obeyGroup 4 = .ok (.irem, 1) := by decide +kernel
theorem dX4_obeyGroup_5 : decode cX4_obeyGroup 5 = .ok (.istore_n 2, 1) := by decide +kernel
theorem dX4_obeyGroup_6 : decode cX4_obeyGroup 6 = .ok (.iload_n 2, 1) := by decide +kernel
theorem dX4_obeyGroup_7 : decode cX4_obeyGroup 7 = .ok (.sipush 1000, 3) := by decide +kernel
theorem dX4_obeyGroup_10 : decode cX4_obeyGroup 10 = .ok (.idiv, 1) := by decide +kernel
theorem dX4_obeyGroup_11 : decode cX4_obeyGroup 11 = .ok (.istore_n 3, 1) := by decide +kernel
theorem dX4_obeyGroup_12 : decode cX4_obeyGroup 12 = .ok (.iload_n 2, 1) := by decide +kernel
theorem dX4_obeyGroup_13 : decode cX4_obeyGroup 13 = .ok (.bipush 10, 2) := by decide +kernel
theorem dX4_obeyGroup_15 : decode cX4_obeyGroup 15 = .ok (.idiv, 1) := by decide +kernel
theorem dX4_obeyGroup_16 : decode cX4_obeyGroup 16 = .ok (.bipush 10, 2) := by decide +kernel
theorem dX4_obeyGroup_18 : decode cX4_obeyGroup 18 = .ok (.irem, 1) := by decide +kernel
theorem dX4_obeyGroup_19 : decode cX4_obeyGroup 19 = .ok (.istore 4, 2) := by decide +kernel
theorem dX4_obeyGroup_21 : decode cX4_obeyGroup 21 = .ok (.iload_n 2, 1) := by decide +kernel
theorem dX4_obeyGroup_22 : decode cX4_obeyGroup 22 = .ok (.bipush 10, 2) := by decide +kernel
theorem dX4_obeyGroup_24 : decode cX4_obeyGroup 24 = .ok (.irem, 1) := by decide +kernel
theorem dX4_obeyGroup_25 : decode cX4_obeyGroup 25 = .ok (.istore 5, 2) := by decide +kernel
theorem dX4_obeyGroup_27 : decode cX4_obeyGroup 27 = .ok (.iload_n 2, 1) := by decide +kernel
theorem dX4_obeyGroup_28 : decode cX4_obeyGroup 28 = .ok (.bipush 100, 2) := by decide +kernel
theorem dX4_obeyGroup_30 : decode cX4_obeyGroup 30 = .ok (.idiv, 1) := by decide +kernel
theorem dX4_obeyGroup_31 : decode cX4_obeyGroup 31 = .ok (.istore 6, 2) := by decide +kernel
theorem dX4_obeyGroup_33 : decode cX4_obeyGroup 33 = .ok (.iload_n 2, 1) := by decide +kernel
theorem dX4_obeyGroup_34 : decode cX4_obeyGroup 34 = .ok (.sipush 1000, 3) := by decide +kernel
theorem dX4_obeyGroup_37 : decode cX4_obeyGroup 37 = .ok (.irem, 1) := by decide +kernel
theorem dX4_obeyGroup_38 : decode cX4_obeyGroup 38 = .ok (.istore 7, 2) := by decide +kernel
theorem dX4_obeyGroup_40 : decode cX4_obeyGroup 40 = .ok (.iload_n 2, 1) := by decide +kernel
theorem dX4_obeyGroup_41 : decode cX4_obeyGroup 41 = .ok (.bipush 100, 2) := by decide +kernel
theorem dX4_obeyGroup_43 : decode cX4_obeyGroup 43 = .ok (.irem, 1) := by decide +kernel
theorem dX4_obeyGroup_44 : decode cX4_obeyGroup 44 = .ok (.istore 8, 2) := by decide +kernel
theorem dX4_obeyGroup_46 : decode cX4_obeyGroup 46 = .ok (.iload_n 1, 1) := by decide +kernel
theorem dX4_obeyGroup_47 : decode cX4_obeyGroup 47 = .ok (.sipush 10000, 3) := by decide +kernel
theorem dX4_obeyGroup_50 : decode cX4_obeyGroup 50 = .ok (.idiv, 1) := by decide +kernel
theorem dX4_obeyGroup_51 : decode cX4_obeyGroup 51 = .ok (.tableswitch 248 1 9 #[49, 74, 95, 115, 136, 156, 179, 187, 228], 49) := by decide +kernel
theorem dX4_obeyGroup_100 : decode cX4_obeyGroup 100 = .ok (.iload 5, 2) := by decide +kernel
theorem dX4_obeyGroup_102 : decode cX4_obeyGroup 102 = .ok (.ifCond .ne 21, 3) := by decide +kernel
theorem dX4_obeyGroup_105 : decode cX4_obeyGroup 105 = .ok (.aload_n 0, 1) := by decide +kernel
theorem dX4_obeyGroup_106 : decode cX4_obeyGroup 106 = .ok (.iload_n 3, 1) := by decide +kernel
theorem dX4_obeyGroup_107 : decode cX4_obeyGroup 107 = .ok (.iload 7, 2) := by decide +kernel
theorem dX4_obeyGroup_109 : decode cX4_obeyGroup 109 = .ok (.bipush 10, 2) := by decide +kernel
theorem dX4_obeyGroup_111 : decode cX4_obeyGroup 111 = .ok (.idiv, 1) := by decide +kernel
theorem dX4_obeyGroup_112 : decode cX4_obeyGroup 112 = .ok (.invokevirtual 201, 3) := by decide +kernel
theorem dX4_obeyGroup_115 : decode cX4_obeyGroup 115 = .ok (.iconst (-1), 1) := by decide +kernel
theorem dX4_obeyGroup_116 : decode cX4_obeyGroup 116 = .ok (.if_icmp .eq 7, 3) := by decide +kernel
theorem dX4_obeyGroup_119 : decode cX4_obeyGroup 119 = .ok (.iconst 1, 1) := by decide +kernel
theorem dX4_obeyGroup_120 : decode cX4_obeyGroup 120 = .ok (.goto 4, 3) := by decide +kernel
theorem dX4_obeyGroup_123 : decode cX4_obeyGroup 123 = .ok (.iconst 0, 1) := by decide +kernel
theorem dX4_obeyGroup_124 : decode cX4_obeyGroup 124 = .ok (.ireturn, 1) := by decide +kernel
theorem dX4_obeyGroup_125 : decode cX4_obeyGroup 125 = .ok (.iload 6, 2) := by decide +kernel
theorem dX4_obeyGroup_127 : decode cX4_obeyGroup 127 = .ok (.ifCond .ne 17, 3) := by decide +kernel
theorem dX4_obeyGroup_130 : decode cX4_obeyGroup 130 = .ok (.aload_n 0, 1) := by decide +kernel
theorem dX4_obeyGroup_131 : decode cX4_obeyGroup 131 = .ok (.iload 8, 2) := by decide +kernel
theorem dX4_obeyGroup_133 : decode cX4_obeyGroup 133 = .ok (.invokevirtual 216, 3) := by decide +kernel
theorem dX4_obeyGroup_136 : decode cX4_obeyGroup 136 = .ok (.iconst (-1), 1) := by decide +kernel
theorem dX4_obeyGroup_137 : decode cX4_obeyGroup 137 = .ok (.if_icmp .eq 7, 3) := by decide +kernel
theorem dX4_obeyGroup_140 : decode cX4_obeyGroup 140 = .ok (.iconst 1, 1) := by decide +kernel
theorem dX4_obeyGroup_141 : decode cX4_obeyGroup 141 = .ok (.goto 4, 3) := by decide +kernel
theorem dX4_obeyGroup_144 : decode cX4_obeyGroup 144 = .ok (.iconst 0, 1) := by decide +kernel
theorem dX4_obeyGroup_145 : decode cX4_obeyGroup 145 = .ok (.ireturn, 1) := by decide +kernel
theorem dX4_obeyGroup_146 : decode cX4_obeyGroup 146 = .ok (.iload 8, 2) := by decide +kernel
theorem dX4_obeyGroup_148 : decode cX4_obeyGroup 148 = .ok (.ifCond .ne 16, 3) := by decide +kernel
theorem dX4_obeyGroup_151 : decode cX4_obeyGroup 151 = .ok (.aload_n 0, 1) := by decide +kernel
theorem dX4_obeyGroup_152 : decode cX4_obeyGroup 152 = .ok (.iload 6, 2) := by decide +kernel
theorem dX4_obeyGroup_154 : decode cX4_obeyGroup 154 = .ok (.invokestatic 279, 3) := by decide +kernel
theorem dX4_obeyGroup_157 : decode cX4_obeyGroup 157 = .ok (.ifCond .eq 7, 3) := by decide +kernel
theorem dX4_obeyGroup_160 : decode cX4_obeyGroup 160 = .ok (.iconst 1, 1) := by decide +kernel
theorem dX4_obeyGroup_161 : decode cX4_obeyGroup 161 = .ok (.goto 4, 3) := by decide +kernel
theorem dX4_obeyGroup_164 : decode cX4_obeyGroup 164 = .ok (.iconst 0, 1) := by decide +kernel
theorem dX4_obeyGroup_165 : decode cX4_obeyGroup 165 = .ok (.ireturn, 1) := by decide +kernel
theorem dX4_obeyGroup_166 : decode cX4_obeyGroup 166 = .ok (.iload 8, 2) := by decide +kernel
theorem dX4_obeyGroup_168 : decode cX4_obeyGroup 168 = .ok (.ifCond .ne 17, 3) := by decide +kernel
theorem dX4_obeyGroup_171 : decode cX4_obeyGroup 171 = .ok (.aload_n 0, 1) := by decide +kernel
theorem dX4_obeyGroup_172 : decode cX4_obeyGroup 172 = .ok (.iload 6, 2) := by decide +kernel
theorem dX4_obeyGroup_174 : decode cX4_obeyGroup 174 = .ok (.invokevirtual 213, 3) := by decide +kernel
theorem dX4_obeyGroup_177 : decode cX4_obeyGroup 177 = .ok (.iconst (-1), 1) := by decide +kernel
theorem dX4_obeyGroup_178 : decode cX4_obeyGroup 178 = .ok (.if_icmp .eq 7, 3) := by decide +kernel
theorem dX4_obeyGroup_181 : decode cX4_obeyGroup 181 = .ok (.iconst 1, 1) := by decide +kernel
theorem dX4_obeyGroup_182 : decode cX4_obeyGroup 182 = .ok (.goto 4, 3) := by decide +kernel
theorem dX4_obeyGroup_185 : decode cX4_obeyGroup 185 = .ok (.iconst 0, 1) := by decide +kernel
theorem dX4_obeyGroup_186 : decode cX4_obeyGroup 186 = .ok (.ireturn, 1) := by decide +kernel
theorem dX4_obeyGroup_187 : decode cX4_obeyGroup 187 = .ok (.iload 7, 2) := by decide +kernel
theorem dX4_obeyGroup_189 : decode cX4_obeyGroup 189 = .ok (.ifCond .ne 16, 3) := by decide +kernel
theorem dX4_obeyGroup_192 : decode cX4_obeyGroup 192 = .ok (.aload_n 0, 1) := by decide +kernel
theorem dX4_obeyGroup_193 : decode cX4_obeyGroup 193 = .ok (.iload_n 3, 1) := by decide +kernel
theorem dX4_obeyGroup_194 : decode cX4_obeyGroup 194 = .ok (.invokevirtual 207, 3) := by decide +kernel
theorem dX4_obeyGroup_197 : decode cX4_obeyGroup 197 = .ok (.iconst (-1), 1) := by decide +kernel
theorem dX4_obeyGroup_198 : decode cX4_obeyGroup 198 = .ok (.if_icmp .eq 7, 3) := by decide +kernel
theorem dX4_obeyGroup_201 : decode cX4_obeyGroup 201 = .ok (.iconst 1, 1) := by decide +kernel
theorem dX4_obeyGroup_202 : decode cX4_obeyGroup 202 = .ok (.goto 4, 3) := by decide +kernel
theorem dX4_obeyGroup_205 : decode cX4_obeyGroup 205 = .ok (.iconst 0, 1) := by decide +kernel
theorem dX4_obeyGroup_206 : decode cX4_obeyGroup 206 = .ok (.ireturn, 1) := by decide +kernel
theorem dX4_obeyGroup_207 : decode cX4_obeyGroup 207 = .ok (.iload 7, 2) := by decide +kernel
theorem dX4_obeyGroup_209 : decode cX4_obeyGroup 209 = .ok (.bipush 10, 2) := by decide +kernel
theorem dX4_obeyGroup_211 : decode cX4_obeyGroup 211 = .ok (.if_icmp .ge 17, 3) := by decide +kernel
theorem dX4_obeyGroup_214 : decode cX4_obeyGroup 214 = .ok (.aload_n 0, 1) := by decide +kernel
theorem dX4_obeyGroup_215 : decode cX4_obeyGroup 215 = .ok (.iload_n 3, 1) := by decide +kernel
theorem dX4_obeyGroup_216 : decode cX4_obeyGroup 216 = .ok (.iload 5, 2) := by decide +kernel
theorem dX4_obeyGroup_218 : decode cX4_obeyGroup 218 = .ok (.invokevirtual 282, 3) := by decide +kernel
theorem dX4_obeyGroup_221 : decode cX4_obeyGroup 221 = .ok (.ifCond .eq 7, 3) := by decide +kernel
theorem dX4_obeyGroup_224 : decode cX4_obeyGroup 224 = .ok (.iconst 1, 1) := by decide +kernel
theorem dX4_obeyGroup_225 : decode cX4_obeyGroup 225 = .ok (.goto 4, 3) := by decide +kernel
theorem dX4_obeyGroup_228 : decode cX4_obeyGroup 228 = .ok (.iconst 0, 1) := by decide +kernel
theorem dX4_obeyGroup_229 : decode cX4_obeyGroup 229 = .ok (.ireturn, 1) := by decide +kernel
theorem dX4_obeyGroup_230 : decode cX4_obeyGroup 230 = .ok (.aload_n 0, 1) := by decide +kernel
theorem dX4_obeyGroup_231 : decode cX4_obeyGroup 231 = .ok (.iload_n 3, 1) := by decide +kernel
theorem dX4_obeyGroup_232 : decode cX4_obeyGroup 232 = .ok (.iload 7, 2) := by decide +kernel
theorem dX4_obeyGroup_234 : decode cX4_obeyGroup 234 = .ok (.invokevirtual 285, 3) := by decide +kernel
theorem dX4_obeyGroup_237 : decode cX4_obeyGroup 237 = .ok (.ireturn, 1) := by decide +kernel
theorem dX4_obeyGroup_238 : decode cX4_obeyGroup 238 = .ok (.iload 4, 2) := by decide +kernel
theorem dX4_obeyGroup_240 : decode cX4_obeyGroup 240 = .ok (.ifCond .ne 37, 3) := by decide +kernel
theorem dX4_obeyGroup_243 : decode cX4_obeyGroup 243 = .ok (.iload 6, 2) := by decide +kernel
theorem dX4_obeyGroup_245 : decode cX4_obeyGroup 245 = .ok (.invokestatic 144, 3) := by decide +kernel
theorem dX4_obeyGroup_248 : decode cX4_obeyGroup 248 = .ok (.ifCond .eq 29, 3) := by decide +kernel
theorem dX4_obeyGroup_251 : decode cX4_obeyGroup 251 = .ok (.aload_n 0, 1) := by decide +kernel
theorem dX4_obeyGroup_252 : decode cX4_obeyGroup 252 = .ok (.iload 6, 2) := by decide +kernel
theorem dX4_obeyGroup_254 : decode cX4_obeyGroup 254 = .ok (.invokevirtual 148, 3) := by decide +kernel
theorem dX4_obeyGroup_257 : decode cX4_obeyGroup 257 = .ok (.iload 5, 2) := by decide +kernel
theorem dX4_obeyGroup_259 : decode cX4_obeyGroup 259 = .ok (.bipush 9, 2) := by decide +kernel
theorem dX4_obeyGroup_261 : decode cX4_obeyGroup 261 = .ok (.if_icmp .ne 7, 3) := by decide +kernel
theorem dX4_obeyGroup_264 : decode cX4_obeyGroup 264 = .ok (.iconst (-1), 1) := by decide +kernel
theorem dX4_obeyGroup_265 : decode cX4_obeyGroup 265 = .ok (.goto 5, 3) := by decide +kernel
theorem dX4_obeyGroup_268 : decode cX4_obeyGroup 268 = .ok (.iload 5, 2) := by decide +kernel
theorem dX4_obeyGroup_270 : decode cX4_obeyGroup 270 = .ok (.if_icmp .ne 7, 3) := by decide +kernel
theorem dX4_obeyGroup_273 : decode cX4_obeyGroup 273 = .ok (.iconst 1, 1) := by decide +kernel
theorem dX4_obeyGroup_274 : decode cX4_obeyGroup 274 = .ok (.goto 4, 3) := by decide +kernel
theorem dX4_obeyGroup_277 : decode cX4_obeyGroup 277 = .ok (.iconst 0, 1) := by decide +kernel
theorem dX4_obeyGroup_278 : decode cX4_obeyGroup 278 = .ok (.ireturn, 1) := by decide +kernel
theorem dX4_obeyGroup_279 : decode cX4_obeyGroup 279 = .ok (.iload 6, 2) := by decide +kernel
theorem dX4_obeyGroup_281 : decode cX4_obeyGroup 281 = .ok (.ifCond .ne 16, 3) := by decide +kernel
theorem dX4_obeyGroup_284 : decode cX4_obeyGroup 284 = .ok (.aload_n 0, 1) := by decide +kernel
theorem dX4_obeyGroup_285 : decode cX4_obeyGroup 285 = .ok (.invokevirtual 241, 3) := by decide +kernel
theorem dX4_obeyGroup_288 : decode cX4_obeyGroup 288 = .ok (.iload 8, 2) := by decide +kernel
theorem dX4_obeyGroup_290 : decode cX4_obeyGroup 290 = .ok (.if_icmp .gt 7, 3) := by decide +kernel
theorem dX4_obeyGroup_293 : decode cX4_obeyGroup 293 = .ok (.iconst 1, 1) := by decide +kernel
theorem dX4_obeyGroup_294 : decode cX4_obeyGroup 294 = .ok (.goto 4, 3) := by decide +kernel
theorem dX4_obeyGroup_297 : decode cX4_obeyGroup 297 = .ok (.iconst 0, 1) := by decide +kernel
theorem dX4_obeyGroup_298 : decode cX4_obeyGroup 298 = .ok (.ireturn, 1) := by decide +kernel
theorem dX4_obeyGroup_299 : decode cX4_obeyGroup 299 = .ok (.iconst 0, 1) := by decide +kernel
theorem dX4_obeyGroup_300 : decode cX4_obeyGroup 300 = .ok (.ireturn, 1) := by decide +kernel
theorem dX4_takeTurn_0 : decode cX4_takeTurn 0 = .ok (.iload_n 1, 1) := by decide +kernel
theorem dX4_takeTurn_1 : decode cX4_takeTurn 1 = .ok (.bipush 8, 2) := by decide +kernel
theorem dX4_takeTurn_3 : decode cX4_takeTurn 3 = .ok (.idiv, 1) := by decide +kernel
theorem dX4_takeTurn_4 : decode cX4_takeTurn 4 = .ok (.istore_n 2, 1) := by decide +kernel
theorem dX4_takeTurn_5 : decode cX4_takeTurn 5 = .ok (.iload_n 1, 1) := by decide +kernel
theorem dX4_takeTurn_6 : decode cX4_takeTurn 6 = .ok (.bipush 8, 2) := by decide +kernel
theorem dX4_takeTurn_8 : decode cX4_takeTurn 8 = .ok (.irem, 1) := by decide +kernel
theorem dX4_takeTurn_9 : decode cX4_takeTurn 9 = .ok (.tableswitch 121 0 4 #[35, 57, 57, 76, 109], 35) := by decide +kernel
theorem dX4_takeTurn_44 : decode cX4_takeTurn 44 = .ok (.aload_n 0, 1) := by decide +kernel
theorem dX4_takeTurn_45 : decode cX4_takeTurn 45 = .ok (.iconst 1, 1) := by decide +kernel
theorem dX4_takeTurn_46 : decode cX4_takeTurn 46 = .ok (.iload_n 2, 1) := by decide +kernel
theorem dX4_takeTurn_47 : decode cX4_takeTurn 47 = .ok (.bipush 6, 2) := by decide +kernel
theorem dX4_takeTurn_49 : decode cX4_takeTurn 49 = .ok (.irem, 1) := by decide +kernel
theorem dX4_takeTurn_50 : decode cX4_takeTurn 50 = .ok (.iadd, 1) := by decide +kernel
theorem dX4_takeTurn_51 : decode cX4_takeTurn 51 = .ok (.iload_n 2, 1) := by decide +kernel
theorem dX4_takeTurn_52 : decode cX4_takeTurn 52 = .ok (.bipush 8, 2) := by decide +kernel
theorem dX4_takeTurn_54 : decode cX4_takeTurn 54 = .ok (.idiv, 1) := by decide +kernel
theorem dX4_takeTurn_55 : decode cX4_takeTurn 55 = .ok (.sipush 997, 3) := by decide +kernel
theorem dX4_takeTurn_58 : decode cX4_takeTurn 58 = .ok (.irem, 1) := by decide +kernel
theorem dX4_takeTurn_59 : decode cX4_takeTurn 59 = .ok (.invokevirtual 190, 3) := by decide +kernel
theorem dX4_takeTurn_62 : decode cX4_takeTurn 62 = .ok (.pop, 1) := by decide +kernel
theorem dX4_takeTurn_63 : decode cX4_takeTurn 63 = .ok (.goto 78, 3) := by decide +kernel
theorem dX4_takeTurn_66 : decode cX4_takeTurn 66 = .ok (.aload_n 0, 1) := by decide +kernel
theorem dX4_takeTurn_67 : decode cX4_takeTurn 67 = .ok (.iload_n 2, 1) := by decide +kernel
theorem dX4_takeTurn_68 : decode cX4_takeTurn 68 = .ok (.bipush 6, 2) := by decide +kernel
theorem dX4_takeTurn_70 : decode cX4_takeTurn 70 = .ok (.irem, 1) := by decide +kernel
theorem dX4_takeTurn_71 : decode cX4_takeTurn 71 = .ok (.iload_n 2, 1) := by decide +kernel
theorem dX4_takeTurn_72 : decode cX4_takeTurn 72 = .ok (.bipush 8, 2) := by decide +kernel
theorem dX4_takeTurn_74 : decode cX4_takeTurn 74 = .ok (.idiv, 1) := by decide +kernel
theorem dX4_takeTurn_75 : decode cX4_takeTurn 75 = .ok (.bipush 12, 2) := by decide +kernel
theorem dX4_takeTurn_77 : decode cX4_takeTurn 77 = .ok (.irem, 1) := by decide +kernel
theorem dX4_takeTurn_78 : decode cX4_takeTurn 78 = .ok (.invokevirtual 201, 3) := by decide +kernel
theorem dX4_takeTurn_81 : decode cX4_takeTurn 81 = .ok (.pop, 1) := by decide +kernel
theorem dX4_takeTurn_82 : decode cX4_takeTurn 82 = .ok (.goto 59, 3) := by decide +kernel
theorem dX4_takeTurn_85 : decode cX4_takeTurn 85 = .ok (.iload_n 2, 1) := by decide +kernel
theorem dX4_takeTurn_86 : decode cX4_takeTurn 86 = .ok (.bipush 16, 2) := by decide +kernel
theorem dX4_takeTurn_88 : decode cX4_takeTurn 88 = .ok (.idiv, 1) := by decide +kernel
theorem dX4_takeTurn_89 : decode cX4_takeTurn 89 = .ok (.iconst 4, 1) := by decide +kernel
theorem dX4_takeTurn_90 : decode cX4_takeTurn 90 = .ok (.irem, 1) := by decide +kernel
theorem dX4_takeTurn_91 : decode cX4_takeTurn 91 = .ok (.ifCond .ne 15, 3) := by decide +kernel
theorem dX4_takeTurn_94 : decode cX4_takeTurn 94 = .ok (.aload_n 0, 1) := by decide +kernel
theorem dX4_takeTurn_95 : decode cX4_takeTurn 95 = .ok (.iload_n 2, 1) := by decide +kernel
theorem dX4_takeTurn_96 : decode cX4_takeTurn 96 = .ok (.bipush 12, 2) := by decide +kernel
theorem dX4_takeTurn_98 : decode cX4_takeTurn 98 = .ok (.irem, 1) := by decide +kernel
theorem dX4_takeTurn_99 : decode cX4_takeTurn 99 = .ok (.invokevirtual 210, 3) := by decide +kernel
theorem dX4_takeTurn_102 : decode cX4_takeTurn 102 = .ok (.pop, 1) := by decide +kernel
theorem dX4_takeTurn_103 : decode cX4_takeTurn 103 = .ok (.goto 38, 3) := by decide +kernel
theorem dX4_takeTurn_106 : decode cX4_takeTurn 106 = .ok (.aload_n 0, 1) := by decide +kernel
theorem dX4_takeTurn_107 : decode cX4_takeTurn 107 = .ok (.iload_n 2, 1) := by decide +kernel
theorem dX4_takeTurn_108 : decode cX4_takeTurn 108 = .ok (.bipush 12, 2) := by decide +kernel
theorem dX4_takeTurn_110 : decode cX4_takeTurn 110 = .ok (.irem, 1) := by decide +kernel
theorem dX4_takeTurn_111 : decode cX4_takeTurn 111 = .ok (.invokevirtual 213, 3) := by decide +kernel
theorem dX4_takeTurn_114 : decode cX4_takeTurn 114 = .ok (.pop, 1) := by decide +kernel
theorem dX4_takeTurn_115 : decode cX4_takeTurn 115 = .ok (.goto 26, 3) := by decide +kernel
theorem dX4_takeTurn_118 : decode cX4_takeTurn 118 = .ok (.aload_n 0, 1) := by decide +kernel
theorem dX4_takeTurn_119 : decode cX4_takeTurn 119 = .ok (.iload_n 2, 1) := by decide +kernel
theorem dX4_takeTurn_120 : decode cX4_takeTurn 120 = .ok (.bipush 6, 2) := by decide +kernel
theorem dX4_takeTurn_122 : decode cX4_takeTurn 122 = .ok (.irem, 1) := by decide +kernel
theorem dX4_takeTurn_123 : decode cX4_takeTurn 123 = .ok (.invokevirtual 207, 3) := by decide +kernel
theorem dX4_takeTurn_126 : decode cX4_takeTurn 126 = .ok (.pop, 1) := by decide +kernel
theorem dX4_takeTurn_127 : decode cX4_takeTurn 127 = .ok (.goto 14, 3) := by decide +kernel
theorem dX4_takeTurn_130 : decode cX4_takeTurn 130 = .ok (.aload_n 0, 1) := by decide +kernel
theorem dX4_takeTurn_131 : decode cX4_takeTurn 131 = .ok (.iconst 1, 1) := by decide +kernel
theorem dX4_takeTurn_132 : decode cX4_takeTurn 132 = .ok (.iload_n 2, 1) := by decide +kernel
theorem dX4_takeTurn_133 : decode cX4_takeTurn 133 = .ok (.bipush 20, 2) := by decide +kernel
theorem dX4_takeTurn_135 : decode cX4_takeTurn 135 = .ok (.irem, 1) := by decide +kernel
theorem dX4_takeTurn_136 : decode cX4_takeTurn 136 = .ok (.iadd, 1) := by decide +kernel
theorem dX4_takeTurn_137 : decode cX4_takeTurn 137 = .ok (.invokevirtual 216, 3) := by decide +kernel
theorem dX4_takeTurn_140 : decode cX4_takeTurn 140 = .ok (.pop, 1) := by decide +kernel
theorem dX4_takeTurn_141 : decode cX4_takeTurn 141 = .ok (.return_, 1) := by decide +kernel
